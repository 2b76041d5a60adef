set_option maxHeartbeats 4000000 in
set_option maxRecDepth 100000 in
theorem c_X3_setBase {l : Launch} {G : mG} {V : mV} {α : Nat → Nat} {f : sT} {nr nw ns : Nat} (hC : mC G V α f nr nw ns) (hwf : mwf f nr nw ns) (k : Nat) (hk : k < 4) (x : Int32) (hx1 : inn x 1 10000) : Met l yX3_setBase wsX3_setBase ({ frames := 1, cells := 0, slots := 0, locals := 22 }) (va_Pc [.ref (α (0)), .int (nI (k)), .int (x)] (fun U => mW G V α U U.heap)) (va_Qi (fun (r9 : Int32) (u : mV × (Nat → Nat)) => f 0 k = r9 ∧ mCQ G V α u (u2 f 0 k x) nr nw ns) (fun u t => mH G u.1 u.2 t.heap) (mfree G)) 0 0 (mfree G) := by
  refine Met.ofW (cc := cX3_setBase) (maxL := 4) (ret := (some .int)) (by decide) rfl ?_
  intro p e s m args below meth c s₁ B hml hv
  obtain ⟨rfl, hw⟩ := hv
  have hx := B.exec
  have hb := B.bytes
  have hr := B.returns
  have hts := atoms_spec (ws := wsX3_setBase) B.pre
  have hown : s.vm.findClass RX3 = some m.cls := findClass_of_methodNamed B.named
  have hlocks := B.notSynchronized
  have hS : va_S (mfree G) s.heap s.heap [] := va_S.rf
  obtain ⟨k0, k1, k2, hL3, hL4, hL5, cR, cW, cS, -, -, -⟩ := id hC
  obtain ⟨md3, ed3, v3⟩ := hL3.obj
  obtain ⟨md4, ed4, v4⟩ := hL4.obj
  obtain ⟨md5, ed5, v5⟩ := hL5.obj
  obtain ⟨⟨hnr, hnw, hns⟩, -, -, h6w, h7w, -⟩ := id hwf
  have fl_9 := hts (.fieldLink RX3 9 "RosterPay" "bases" "[I") (by decide +kernel)
  have in_X3 : ∀ w ∈ u_ws RX3 TX3 5, w ∈ wsX3_setBase := by decide +kernel
  have hl := lv_entry ([.ref (α (0)), .int (nI (k)), .int (x)]) (n := 4) (Nat.le_of_ble_eq_true rfl)
  rw [lg_entry_eq]
  generalize (lg_sl ([.ref (α (0)), .int (nI (k)), .int (x)]) ++ List.replicate (4 - (lg_sl ([.ref (α (0)), .int (nI (k)), .int (x)])).length) Slot.unset).toArray = ls at hl ⊢
  have hl : lv_has ls 4 [(0, .ref (α (0))), (1, .int (nI (k))), (2, .int (x))] := hl
  refine lv_iload_n hx hb dX3_setBase_0 rfl (lv_at hl 1 rfl) ?_
  refine lv_if_lt (tgt := 13) hx hb dX3_setBase_1 (by decide) (fun z => absurd z ((nI_pos (by omega)))) (fun c1 => ?_)
  refine lv_iload_n hx hb dX3_setBase_4 rfl (lv_at hl 1 rfl) ?_
  refine lv_aload_n hx hb dX3_setBase_5 rfl (lv_at hl 0 rfl) ?_
  refine mget (C := RX3) (T := TX3) (N := 5) (ci := 4) hx hb hts in_X3 hown hw (k0) rfl 0 (by decide) fl_9 rfl dX3_setBase_6 ?_
  refine mialen hx hb hw (k1) dX3_setBase_9 ?_
  refine lv_icmp_lt (tgt := 23) hx hb dX3_setBase_10 (by decide) (fun c2 => ?_) (fun z => absurd ((nI_lt hk (by omega))) z)
  refine lv_iload_n hx hb dX3_setBase_23 rfl (lv_at hl 2 rfl) ?_
  refine lv_iconst (v := (1)) hx hb dX3_setBase_24 (by decide) ?_
  refine lv_sipush (v := (10000)) hx hb dX3_setBase_25 (by decide) ?_
  refine mcallSv hw ⟨hx, hb, hml, hown, hts⟩ (c_X3_checkArgument (x) (1) (10000) (hx1)) (va_cwS 3 hts gX3_setBase_X3_checkArgument rfl rfl rfl (by decide +kernel) ⟨Nat.le_of_ble_eq_true rfl, Nat.le_of_ble_eq_true rfl⟩) rfl hl.1 rfl (Nat.le_of_ble_eq_true rfl) dX3_setBase_28 ⟨Nat.le_of_ble_eq_true rfl, Nat.le_of_ble_eq_true rfl⟩ ?_
  refine lv_aload_n hx hb dX3_setBase_31 rfl (lv_at hl 0 rfl) ?_
  refine mget (C := RX3) (T := TX3) (N := 5) (ci := 4) hx hb hts in_X3 hown hw (k0) rfl 0 (by decide) fl_9 rfl dX3_setBase_32 ?_
  refine lv_iload_n hx hb dX3_setBase_35 rfl (lv_at hl 1 rfl) ?_
  refine miald' (k := k) hx hb hw (k1) (rfl) (by omega) (by decide) dX3_setBase_36 ?_
  refine lv_istore_n (lv' := [(3, .int (f 0 (k))), (0, .ref (α (0))), (1, .int (nI (k))), (2, .int (x))]) hx hb dX3_setBase_37 rfl hl (by decide) rfl (fun ls hl => ?_)
  refine lv_aload_n hx hb dX3_setBase_38 rfl (lv_at hl 1 rfl) ?_
  refine mget (C := RX3) (T := TX3) (N := 5) (ci := 4) hx hb hts in_X3 hown hw (k0) rfl 0 (by decide) fl_9 rfl dX3_setBase_39 ?_
  refine lv_iload_n hx hb dX3_setBase_42 rfl (lv_at hl 2 rfl) ?_
  refine lv_iload_n hx hb dX3_setBase_43 rfl (lv_at hl 3 rfl) ?_
  refine miast' (k := k) hx hb hw hS (k1) (rfl) (by omega) (by decide) dX3_setBase_44 (fun H locs hw hS => ?_)
  obtain ⟨V1, hV1⟩ : ∃ z, z = vup V 1 (.inl (G.2.2.1.1, 4, .inl (upd (f 0) k x))) := ⟨_, rfl⟩
  have hw : mW G V1 α s H := by rw [hV1]; exact hw
  have hC : mC G V1 α (u2 f 0 k x) nr nw ns := by rw [hV1]; exact hC.base k x
  have hO : ∀ j, j < 100 → (9 ≤ j → V1 j = V j) ∧ α j = α j := fun j hj => ⟨fun h9 => by rw [hV1]; exact vup_n _ _ (by omega), rfl⟩
  refine lv_iload_n hx hb dX3_setBase_45 rfl (lv_at hl 0 rfl) ?_
  exact W.iret (v := f 0 (k)) hx hb hr (fun t ht hW => ⟨⟨_, (V1, α), rfl, ⟨rfl, hC, hO⟩, by show mH G V1 α t.heap; rw [ht]; exact hw.2.2⟩, hS.F ht⟩) hS.2.2 dX3_setBase_46

set_option maxHeartbeats 4000000 in
set_option maxRecDepth 100000 in
theorem c_X3_setHoliday {l : Launch} {G : mG} {V : mV} {α : Nat → Nat} {f : sT} {nr nw ns : Nat} (hC : mC G V α f nr nw ns) (hwf : mwf f nr nw ns) (k : Nat) (hk : k < 364) (b : Int32) (hb1 : b = 0 ∨ b = 1) : Met l yX3_setHoliday wsX3_setHoliday ({ frames := 0, cells := 0, slots := 0, locals := 0 }) (va_Pc [.ref (α (0)), .int (nI (k)), .int (b)] (fun U => mW G V α U U.heap)) (va_Qi (fun (r9 : Int32) (u : mV × (Nat → Nat)) => f 7 k = r9 ∧ mCQ G V α u (u2 f 7 k b) nr nw ns) (fun u t => mH G u.1 u.2 t.heap) (mfree G)) 0 0 (mfree G) := by
  refine Met.ofW (cc := cX3_setHoliday) (maxL := 4) (ret := (some .boolean)) (by decide) rfl ?_
  intro p e s m args below meth c s₁ B hml hv
  obtain ⟨rfl, hw⟩ := hv
  have hx := B.exec
  have hb := B.bytes
  have hr := B.returns
  have hts := atoms_spec (ws := wsX3_setHoliday) B.pre
  have hown : s.vm.findClass RX3 = some m.cls := findClass_of_methodNamed B.named
  have hlocks := B.notSynchronized
  have hS : va_S (mfree G) s.heap s.heap [] := va_S.rf
  obtain ⟨k0, k1, k2, hL3, hL4, hL5, cR, cW, cS, -, -, -⟩ := id hC
  obtain ⟨md3, ed3, v3⟩ := hL3.obj
  obtain ⟨md4, ed4, v4⟩ := hL4.obj
  obtain ⟨md5, ed5, v5⟩ := hL5.obj
  obtain ⟨⟨hnr, hnw, hns⟩, -, -, h6w, h7w, -⟩ := id hwf
  have fl_19 := hts (.fieldLink RX3 19 "RosterPay" "holidays" "[Z") (by decide +kernel)
  have in_X3 : ∀ w ∈ u_ws RX3 TX3 5, w ∈ wsX3_setHoliday := by decide +kernel
  have hl := lv_entry ([.ref (α (0)), .int (nI (k)), .int (b)]) (n := 4) (Nat.le_of_ble_eq_true rfl)
  rw [lg_entry_eq]
  generalize (lg_sl ([.ref (α (0)), .int (nI (k)), .int (b)]) ++ List.replicate (4 - (lg_sl ([.ref (α (0)), .int (nI (k)), .int (b)])).length) Slot.unset).toArray = ls at hl ⊢
  have hl : lv_has ls 4 [(0, .ref (α (0))), (1, .int (nI (k))), (2, .int (b))] := hl
  refine lv_iload_n hx hb dX3_setHoliday_0 rfl (lv_at hl 1 rfl) ?_
  refine lv_if_lt (tgt := 13) hx hb dX3_setHoliday_1 (by decide) (fun z => absurd z ((nI_pos (by omega)))) (fun c1 => ?_)
  refine lv_iload_n hx hb dX3_setHoliday_4 rfl (lv_at hl 1 rfl) ?_
  refine lv_aload_n hx hb dX3_setHoliday_5 rfl (lv_at hl 0 rfl) ?_
  refine mget (C := RX3) (T := TX3) (N := 5) (ci := 4) hx hb hts in_X3 hown hw (k0) rfl 1 (by decide) fl_19 rfl dX3_setHoliday_6 ?_
  refine mzalen hx hb hw (k2) dX3_setHoliday_9 ?_
  refine lv_icmp_lt (tgt := 23) hx hb dX3_setHoliday_10 (by decide) (fun c2 => ?_) (fun z => absurd ((nI_lt hk (by omega))) z)
  refine lv_aload_n hx hb dX3_setHoliday_23 rfl (lv_at hl 0 rfl) ?_
  refine mget (C := RX3) (T := TX3) (N := 5) (ci := 4) hx hb hts in_X3 hown hw (k0) rfl 1 (by decide) fl_19 rfl dX3_setHoliday_24 ?_
  refine lv_iload_n hx hb dX3_setHoliday_27 rfl (lv_at hl 1 rfl) ?_
  refine mzald' (k := k) hx hb hw (k2) (rfl) (by omega) (by decide) dX3_setHoliday_28 ?_
  refine lv_istore_n (lv' := [(3, .int (f 7 (k))), (0, .ref (α (0))), (1, .int (nI (k))), (2, .int (b))]) hx hb dX3_setHoliday_29 rfl hl (by decide) rfl (fun ls hl => ?_)
  refine lv_aload_n hx hb dX3_setHoliday_30 rfl (lv_at hl 1 rfl) ?_
  refine mget (C := RX3) (T := TX3) (N := 5) (ci := 4) hx hb hts in_X3 hown hw (k0) rfl 1 (by decide) fl_19 rfl dX3_setHoliday_31 ?_
  refine lv_iload_n hx hb dX3_setHoliday_34 rfl (lv_at hl 2 rfl) ?_
  refine lv_iload_n hx hb dX3_setHoliday_35 rfl (lv_at hl 3 rfl) ?_
  refine mzast' (k := k) hx hb hw hS (k2) (rfl) (by omega) (by decide) (z1_vn hb1) dX3_setHoliday_36 (fun H locs hw hS => ?_)
  obtain ⟨V1, hV1⟩ : ∃ z, z = vup V 2 (.inl (G.2.2.1.2, 364, .inl (upd (f 7) k b))) := ⟨_, rfl⟩
  have hw : mW G V1 α s H := by rw [hV1]; exact hw
  have hC : mC G V1 α (u2 f 7 k b) nr nw ns := by rw [hV1]; exact hC.hol k b
  have hO : ∀ j, j < 100 → (9 ≤ j → V1 j = V j) ∧ α j = α j := fun j hj => ⟨fun h9 => by rw [hV1]; exact vup_n _ _ (by omega), rfl⟩
  refine lv_iload_n hx hb dX3_setHoliday_37 rfl (lv_at hl 0 rfl) ?_
  exact W.zret (v := f 7 (k)) hx hb hr (z1_nar (h7w k)) (fun t ht hW => ⟨⟨_, (V1, α), rfl, ⟨rfl, hC, hO⟩, by show mH G V1 α t.heap; rw [ht]; exact hw.2.2⟩, hS.F ht⟩) hS.2.2 dX3_setHoliday_38

set_option maxHeartbeats 4000000 in
set_option maxRecDepth 100000 in
theorem c_X3_setRule {l : Launch} {G : mG} {V : mV} {α : Nat → Nat} {f : sT} {nr nw ns : Nat} (hC : mC G V α f nr nw ns) (hwf : mwf f nr nw ns) (k : Nat) (hk : k < nr) (b : Int32) (hb1 : b = 0 ∨ b = 1) : Met l yX3_setRule wsX3_setRule ({ frames := 4, cells := 0, slots := 0, locals := 85 }) (va_Pc [.ref (α (0)), .int (nI (k)), .int (b)] (fun U => mW G V α U U.heap)) (va_Qi (fun (r9 : Int32) (u : mV × (Nat → Nat)) => 1 - f 6 k = r9 ∧ mCQ G V α u (u2 f 6 k (1 - b)) nr nw ns) (fun u t => mH G u.1 u.2 t.heap) (mfree G)) 0 0 (mfree G) := by
  refine Met.ofW (cc := cX3_setRule) (maxL := 5) (ret := (some .boolean)) (by decide) rfl ?_
  intro p e s m args below meth c s₁ B hml hv
  obtain ⟨rfl, hw⟩ := hv
  have hx := B.exec
  have hb := B.bytes
  have hr := B.returns
  have hts := atoms_spec (ws := wsX3_setRule) B.pre
  have hown : s.vm.findClass RX3 = some m.cls := findClass_of_methodNamed B.named
  have hlocks := B.notSynchronized
  have hS : va_S (mfree G) s.heap s.heap [] := va_S.rf
  obtain ⟨k0, k1, k2, hL3, hL4, hL5, cR, cW, cS, -, -, -⟩ := id hC
  obtain ⟨md3, ed3, v3⟩ := hL3.obj
  obtain ⟨md4, ed4, v4⟩ := hL4.obj
  obtain ⟨md5, ed5, v5⟩ := hL5.obj
  obtain ⟨⟨hnr, hnw, hns⟩, -, -, h6w, h7w, -⟩ := id hwf
  have fl_69 := hts (.fieldLink RX3 69 "RosterPay$Rule" "isOn" "Z") (by decide +kernel)
  have in_X0 : ∀ w ∈ u_ws RX0 TX0 7, w ∈ wsX3_setRule := by decide +kernel
  have hl := lv_entry ([.ref (α (0)), .int (nI (k)), .int (b)]) (n := 5) (Nat.le_of_ble_eq_true rfl)
  rw [lg_entry_eq]
  generalize (lg_sl ([.ref (α (0)), .int (nI (k)), .int (b)]) ++ List.replicate (5 - (lg_sl ([.ref (α (0)), .int (nI (k)), .int (b)])).length) Slot.unset).toArray = ls at hl ⊢
  have hl : lv_has ls 5 [(0, .ref (α (0))), (1, .int (nI (k))), (2, .int (b))] := hl
  refine lv_aload_n hx hb dX3_setRule_0 rfl (lv_at hl 0 rfl) ?_
  refine lv_iload_n hx hb dX3_setRule_1 rfl (lv_at hl 1 rfl) ?_
  refine mcallVr hw (k0) rfl rfl ⟨hx, hb, hml, hown, hts⟩ (c_X3_findRule hC (by omega) k (by omega)) (cwV 1 hts gX3_setRule_X3_findRule rfl rfl rfl (by decide +kernel) ⟨Nat.le_of_ble_eq_true rfl, Nat.le_of_ble_eq_true rfl⟩) rfl hl.1 rfl (Nat.le_of_ble_eq_true rfl) dX3_setRule_2 ⟨Nat.le_of_ble_eq_true rfl, Nat.le_of_ble_eq_true rfl⟩ ?_
  refine lv_astore_n (lv' := [(3, .ref (α (100 + k))), (0, .ref (α (0))), (1, .int (nI (k))), (2, .int (b))]) hx hb dX3_setRule_5 rfl hl (by decide) rfl (fun ls hl => ?_)
  refine lv_aload_n hx hb dX3_setRule_6 rfl (lv_at hl 0 rfl) ?_
  refine mget (C := RX0) (T := TX0) (N := 7) (ci := 1) hx hb hts in_X0 hown hw ((cR k hk)) rfl 6 (by decide) fl_69 rfl dX3_setRule_7 ?_
  refine lv_istore (lv' := [(4, .int (1 - f 6 (k))), (3, .ref (α (100 + k))), (0, .ref (α (0))), (1, .int (nI (k))), (2, .int (b))]) hx hb dX3_setRule_10 hl (by decide) rfl (fun ls hl => ?_)
  refine lv_aload_n hx hb dX3_setRule_12 rfl (lv_at hl 1 rfl) ?_
  refine lv_iload_n hx hb dX3_setRule_13 rfl (lv_at hl 4 rfl) ?_
  refine mput (C := RX0) (T := TX0) (N := 7) (ci := 1) hx hb hts in_X0 tyX0 tyX0_ok nmX0 hown hw hS ((cR k hk)) rfl 6 (by decide) fl_69 rfl (z1_nar hb1) (z1_fit hb1) (Nat.le_of_ble_eq_true rfl) dX3_setRule_14 (fun H locs hw hS => ?_)
  obtain ⟨V1, hV1⟩ : ∃ z, z = vup V (100 + k) (.inr (1, [.int (nI k), .int (f 1 k), .int (f 2 k), .int (f 3 k), .int (f 4 k), .int (f 5 k), .int b])) := ⟨_, rfl⟩
  have hw : mW G V1 α s H := by rw [hV1]; exact hw
  have hC : mC G V1 α (u2 f 6 k (1 - b)) nr nw ns := by rw [hV1]; exact hC.rule hnr k hk b
  have hO : ∀ j, j < 100 → (9 ≤ j → V1 j = V j) ∧ α j = α j := fun j hj => ⟨fun h9 => by rw [hV1]; exact vup_n _ _ (by omega), rfl⟩
  refine lv_iload hx hb dX3_setRule_17 (lv_at hl 0 rfl) ?_
  exact W.zret (v := 1 - f 6 (k)) hx hb hr (z1_nar (z1_sub (h6w k hk))) (fun t ht hW => ⟨⟨_, (V1, α), rfl, ⟨rfl, hC, hO⟩, by show mH G V1 α t.heap; rw [ht]; exact hw.2.2⟩, hS.F ht⟩) hS.2.2 dX3_setRule_19

set_option maxHeartbeats 4000000 in
set_option maxRecDepth 100000 in
theorem c_X3_setRank {l : Launch} {G : mG} {V : mV} {α : Nat → Nat} {f : sT} {nr nw ns : Nat} (hC : mC G V α f nr nw ns) (hwf : mwf f nr nw ns) (k r : Nat) (hk : k < nw) (hr0 : r < 4) : Met l yX3_setRank wsX3_setRank ({ frames := 4, cells := 0, slots := 0, locals := 85 }) (va_Pc [.ref (α (0)), .int (nI (k)), .int (nI (r))] (fun U => mW G V α U U.heap)) (va_Qi (fun (r9 : Int32) (u : mV × (Nat → Nat)) => f 8 k = r9 ∧ mCQ G V α u (u2 f 8 k (nI r)) nr nw ns) (fun u t => mH G u.1 u.2 t.heap) (mfree G)) 0 0 (mfree G) := by
  refine Met.ofW (cc := cX3_setRank) (maxL := 5) (ret := (some .int)) (by decide) rfl ?_
  intro p e s m args below meth c s₁ B hml hv
  obtain ⟨rfl, hw⟩ := hv
  have hx := B.exec
  have hb := B.bytes
  have hr := B.returns
  have hts := atoms_spec (ws := wsX3_setRank) B.pre
  have hown : s.vm.findClass RX3 = some m.cls := findClass_of_methodNamed B.named
  have hlocks := B.notSynchronized
  have hS : va_S (mfree G) s.heap s.heap [] := va_S.rf
  obtain ⟨k0, k1, k2, hL3, hL4, hL5, cR, cW, cS, -, -, -⟩ := id hC
  obtain ⟨md3, ed3, v3⟩ := hL3.obj
  obtain ⟨md4, ed4, v4⟩ := hL4.obj
  obtain ⟨md5, ed5, v5⟩ := hL5.obj
  obtain ⟨⟨hnr, hnw, hns⟩, -, -, h6w, h7w, -⟩ := id hwf
  have fl_86 := hts (.fieldLink RX3 86 "RosterPay$Worker" "rank" "I") (by decide +kernel)
  have in_X2 : ∀ w ∈ u_ws RX2 TX2 1, w ∈ wsX3_setRank := by decide +kernel
  have hl := lv_entry ([.ref (α (0)), .int (nI (k)), .int (nI (r))]) (n := 5) (Nat.le_of_ble_eq_true rfl)
  rw [lg_entry_eq]
  generalize (lg_sl ([.ref (α (0)), .int (nI (k)), .int (nI (r))]) ++ List.replicate (5 - (lg_sl ([.ref (α (0)), .int (nI (k)), .int (nI (r))])).length) Slot.unset).toArray = ls at hl ⊢
  have hl : lv_has ls 5 [(0, .ref (α (0))), (1, .int (nI (k))), (2, .int (nI (r)))] := hl
  refine lv_aload_n hx hb dX3_setRank_0 rfl (lv_at hl 0 rfl) ?_
  refine lv_iload_n hx hb dX3_setRank_1 rfl (lv_at hl 1 rfl) ?_
  refine mcallVr hw (k0) rfl rfl ⟨hx, hb, hml, hown, hts⟩ (c_X3_findWorker hC (by omega) k (by omega)) (cwV 1 hts gX3_setRank_X3_findWorker rfl rfl rfl (by decide +kernel) ⟨Nat.le_of_ble_eq_true rfl, Nat.le_of_ble_eq_true rfl⟩) rfl hl.1 rfl (Nat.le_of_ble_eq_true rfl) dX3_setRank_2 ⟨Nat.le_of_ble_eq_true rfl, Nat.le_of_ble_eq_true rfl⟩ ?_
  refine lv_astore_n (lv' := [(3, .ref (α (200 + k))), (0, .ref (α (0))), (1, .int (nI (k))), (2, .int (nI (r)))]) hx hb dX3_setRank_5 rfl hl (by decide) rfl (fun ls hl => ?_)
  refine lv_iload_n hx hb dX3_setRank_6 rfl (lv_at hl 3 rfl) ?_
  refine lv_iconst (v := (0)) hx hb dX3_setRank_7 (by decide) ?_
  refine lv_iconst (v := (3)) hx hb dX3_setRank_8 (by decide) ?_
  refine mcallSv hw ⟨hx, hb, hml, hown, hts⟩ (c_X3_checkArgument (nI (r)) (0) (3) (inn_3 hr0)) (va_cwS 3 hts gX3_setRank_X3_checkArgument rfl rfl rfl (by decide +kernel) ⟨Nat.le_of_ble_eq_true rfl, Nat.le_of_ble_eq_true rfl⟩) rfl hl.1 rfl (Nat.le_of_ble_eq_true rfl) dX3_setRank_9 ⟨Nat.le_of_ble_eq_true rfl, Nat.le_of_ble_eq_true rfl⟩ ?_
  refine lv_aload_n hx hb dX3_setRank_12 rfl (lv_at hl 0 rfl) ?_
  refine mget (C := RX2) (T := TX2) (N := 1) (ci := 3) hx hb hts in_X2 hown hw ((cW k hk)) rfl 0 (by decide) fl_86 rfl dX3_setRank_13 ?_
  refine lv_istore (lv' := [(4, .int (f 8 (k))), (3, .ref (α (200 + k))), (0, .ref (α (0))), (1, .int (nI (k))), (2, .int (nI (r)))]) hx hb dX3_setRank_16 hl (by decide) rfl (fun ls hl => ?_)
  refine lv_aload_n hx hb dX3_setRank_18 rfl (lv_at hl 1 rfl) ?_
  refine lv_iload_n hx hb dX3_setRank_19 rfl (lv_at hl 4 rfl) ?_
  refine mput (C := RX2) (T := TX2) (N := 1) (ci := 3) hx hb hts in_X2 tyX2 tyX2_ok nmX2 hown hw hS ((cW k hk)) rfl 0 (by decide) fl_86 rfl (rfl) (rfl) (Nat.le_of_ble_eq_true rfl) dX3_setRank_20 (fun H locs hw hS => ?_)
  obtain ⟨V1, hV1⟩ : ∃ z, z = vup V (200 + k) (.inr (3, [.int (nI r)])) := ⟨_, rfl⟩
  have hw : mW G V1 α s H := by rw [hV1]; exact hw
  have hC : mC G V1 α (u2 f 8 k (nI r)) nr nw ns := by rw [hV1]; exact hC.work hnr hnw k hk (nI r)
  have hO : ∀ j, j < 100 → (9 ≤ j → V1 j = V j) ∧ α j = α j := fun j hj => ⟨fun h9 => by rw [hV1]; exact vup_n _ _ (by omega), rfl⟩
  refine lv_iload hx hb dX3_setRank_23 (lv_at hl 0 rfl) ?_
  exact W.iret (v := f 8 (k)) hx hb hr (fun t ht hW => ⟨⟨_, (V1, α), rfl, ⟨rfl, hC, hO⟩, by show mH G V1 α t.heap; rw [ht]; exact hw.2.2⟩, hS.F ht⟩) hS.2.2 dX3_setRank_25

set_option maxHeartbeats 4000000 in
set_option maxRecDepth 100000 in
theorem c_X3_takeBreaks {l : Launch} {G : mG} {V : mV} {α : Nat → Nat} {f : sT} {nr nw ns : Nat} (hC : mC G V α f nr nw ns) (hwf : mwf f nr nw ns) (si : Nat) (hs : si < ns) (hg : f 13 si = 0) (t : Nat) (ht0 : t ≤ 5) : Met l yX3_takeBreaks wsX3_takeBreaks ({ frames := 4, cells := 0, slots := 0, locals := 85 }) (va_Pc [.ref (α (0)), .int (nI (si)), .int (nI (t))] (fun U => mW G V α U U.heap)) (va_Qi (fun (r9 : Int32) (u : mV × (Nat → Nat)) => f 12 si = r9 ∧ mCQ G V α u (u2 f 12 si (nI t)) nr nw ns) (fun u t => mH G u.1 u.2 t.heap) (mfree G)) 0 0 (mfree G) := by
  refine Met.ofW (cc := cX3_takeBreaks) (maxL := 5) (ret := (some .int)) (by decide) rfl ?_
  intro p e s m args below meth c s₁ B hml hv
  obtain ⟨rfl, hw⟩ := hv
  have hx := B.exec
  have hb := B.bytes
  have hr := B.returns
  have hts := atoms_spec (ws := wsX3_takeBreaks) B.pre
  have hown : s.vm.findClass RX3 = some m.cls := findClass_of_methodNamed B.named
  have hlocks := B.notSynchronized
  have hS : va_S (mfree G) s.heap s.heap [] := va_S.rf
  obtain ⟨k0, k1, k2, hL3, hL4, hL5, cR, cW, cS, -, -, -⟩ := id hC
  obtain ⟨md3, ed3, v3⟩ := hL3.obj
  obtain ⟨md4, ed4, v4⟩ := hL4.obj
  obtain ⟨md5, ed5, v5⟩ := hL5.obj
  obtain ⟨⟨hnr, hnw, hns⟩, -, -, h6w, h7w, -⟩ := id hwf
  obtain ⟨⟨hw0si, hw1si⟩, h9si, hasi, h10si, hr0si, h8si, hN2si, hNsi⟩ := hwf.sh si (by omega)
  obtain ⟨-, -, ⟨n11, hn11a, hn11b, h11⟩, ⟨t12, ht12, h12⟩, h13⟩ := hwf.2.1 si hs
  have fl_116 := hts (.fieldLink RX3 116 "RosterPay$Shift" "breaksTaken" "I") (by decide +kernel)
  have in_X1 : ∀ w ∈ u_ws RX1 TX1 5, w ∈ wsX3_takeBreaks := by decide +kernel
  have hl := lv_entry ([.ref (α (0)), .int (nI (si)), .int (nI (t))]) (n := 5) (Nat.le_of_ble_eq_true rfl)
  rw [lg_entry_eq]
  generalize (lg_sl ([.ref (α (0)), .int (nI (si)), .int (nI (t))]) ++ List.replicate (5 - (lg_sl ([.ref (α (0)), .int (nI (si)), .int (nI (t))])).length) Slot.unset).toArray = ls at hl ⊢
  have hl : lv_has ls 5 [(0, .ref (α (0))), (1, .int (nI (si))), (2, .int (nI (t)))] := hl
  refine lv_aload_n hx hb dX3_takeBreaks_0 rfl (lv_at hl 0 rfl) ?_
  refine lv_iload_n hx hb dX3_takeBreaks_1 rfl (lv_at hl 1 rfl) ?_
  refine mcallVr hw (k0) rfl rfl ⟨hx, hb, hml, hown, hts⟩ (c_X3_findShift hC (by omega) si (by omega)) (cwV 1 hts gX3_takeBreaks_X3_findShift rfl rfl rfl (by decide +kernel) ⟨Nat.le_of_ble_eq_true rfl, Nat.le_of_ble_eq_true rfl⟩) rfl hl.1 rfl (Nat.le_of_ble_eq_true rfl) dX3_takeBreaks_2 ⟨Nat.le_of_ble_eq_true rfl, Nat.le_of_ble_eq_true rfl⟩ ?_
  refine lv_astore_n (lv' := [(3, .ref (α (300 + si))), (0, .ref (α (0))), (1, .int (nI (si))), (2, .int (nI (t)))]) hx hb dX3_takeBreaks_5 rfl hl (by decide) rfl (fun ls hl => ?_)
  refine lv_iload_n hx hb dX3_takeBreaks_6 rfl (lv_at hl 3 rfl) ?_
  refine lv_iconst (v := (0)) hx hb dX3_takeBreaks_7 (by decide) ?_
  refine lv_iconst (v := (5)) hx hb dX3_takeBreaks_8 (by decide) ?_
  refine mcallSv hw ⟨hx, hb, hml, hown, hts⟩ (c_X3_checkArgument (nI (t)) (0) (5) (inn_ix (n := 6) (k := t) (by omega) (by decide))) (va_cwS 3 hts gX3_takeBreaks_X3_checkArgument rfl rfl rfl (by decide +kernel) ⟨Nat.le_of_ble_eq_true rfl, Nat.le_of_ble_eq_true rfl⟩) rfl hl.1 rfl (Nat.le_of_ble_eq_true rfl) dX3_takeBreaks_9 ⟨Nat.le_of_ble_eq_true rfl, Nat.le_of_ble_eq_true rfl⟩ ?_
  refine lv_aload_n hx hb dX3_takeBreaks_12 rfl (lv_at hl 0 rfl) ?_
  refine mcallSv hw ⟨hx, hb, hml, hown, hts⟩ (c_X3_checkNotCancelled si (cS si hs) hg) (va_cwS 1 hts gX3_takeBreaks_X3_checkNotCancelled rfl rfl rfl (by decide +kernel) ⟨Nat.le_of_ble_eq_true rfl, Nat.le_of_ble_eq_true rfl⟩) rfl hl.1 rfl (Nat.le_of_ble_eq_true rfl) dX3_takeBreaks_13 ⟨Nat.le_of_ble_eq_true rfl, Nat.le_of_ble_eq_true rfl⟩ ?_
  refine lv_aload_n hx hb dX3_takeBreaks_16 rfl (lv_at hl 0 rfl) ?_
  refine mget (C := RX1) (T := TX1) (N := 5) (ci := 2) hx hb hts in_X1 hown hw ((cS si hs)) rfl 3 (by decide) fl_116 rfl dX3_takeBreaks_17 ?_
  refine lv_istore (lv' := [(4, .int (f 12 (si))), (3, .ref (α (300 + si))), (0, .ref (α (0))), (1, .int (nI (si))), (2, .int (nI (t)))]) hx hb dX3_takeBreaks_20 hl (by decide) rfl (fun ls hl => ?_)
  refine lv_aload_n hx hb dX3_takeBreaks_22 rfl (lv_at hl 1 rfl) ?_
  refine lv_iload_n hx hb dX3_takeBreaks_23 rfl (lv_at hl 4 rfl) ?_
  refine mput (C := RX1) (T := TX1) (N := 5) (ci := 2) hx hb hts in_X1 tyX1 tyX1_ok nmX1 hown hw hS ((cS si hs)) rfl 3 (by decide) fl_116 rfl (rfl) (rfl) (Nat.le_of_ble_eq_true rfl) dX3_takeBreaks_24 (fun H locs hw hS => ?_)
  obtain ⟨V1, hV1⟩ : ∃ z, z = vup V (300 + si) (.inr (2, [.ref (α (200 + wN f si)), .int (f 10 si), .int (f 11 si), .int (nI t), .int (f 13 si)])) := ⟨_, rfl⟩
  have hw : mW G V1 α s H := by rw [hV1]; exact hw
  have hC : mC G V1 α (u2 f 12 si (nI t)) nr nw ns := by rw [hV1]; exact hC.taken hnr hnw hns si hs (nI t)
  have hO : ∀ j, j < 100 → (9 ≤ j → V1 j = V j) ∧ α j = α j := fun j hj => ⟨fun h9 => by rw [hV1]; exact vup_n _ _ (by omega), rfl⟩
  refine lv_iload hx hb dX3_takeBreaks_27 (lv_at hl 0 rfl) ?_
  exact W.iret (v := f 12 (si)) hx hb hr (fun t ht hW => ⟨⟨_, (V1, α), rfl, ⟨rfl, hC, hO⟩, by show mH G V1 α t.heap; rw [ht]; exact hw.2.2⟩, hS.F ht⟩) hS.2.2 dX3_takeBreaks_29

set_option maxHeartbeats 4000000 in
set_option maxRecDepth 100000 in
theorem c_X3_cancel {l : Launch} {G : mG} {V : mV} {α : Nat → Nat} {f : sT} {nr nw ns : Nat} (hC : mC G V α f nr nw ns) (hwf : mwf f nr nw ns) (si : Nat) (hs : si < ns) (hg : f 13 si = 0) : Met l yX3_cancel wsX3_cancel ({ frames := 6, cells := 0, slots := 0, locals := 144 }) (va_Pc [.ref (α (0)), .int (nI (si))] (fun U => mW G V α U U.heap)) (va_Qi (fun (r9 : Int32) (u : mV × (Nat → Nat)) => s_pay f nr si = r9 ∧ mCQ G V α u (u2 f 13 si 1) nr nw ns) (fun u t => mH G u.1 u.2 t.heap) (mfree G)) 0 0 (mfree G) := by
  refine Met.ofW (cc := cX3_cancel) (maxL := 4) (ret := (some .int)) (by decide) rfl ?_
  intro p e s m args below meth c s₁ B hml hv
  obtain ⟨rfl, hw⟩ := hv
  have hx := B.exec
  have hb := B.bytes
  have hr := B.returns
  have hts := atoms_spec (ws := wsX3_cancel) B.pre
  have hown : s.vm.findClass RX3 = some m.cls := findClass_of_methodNamed B.named
  have hlocks := B.notSynchronized
  have hS : va_S (mfree G) s.heap s.heap [] := va_S.rf
  obtain ⟨k0, k1, k2, hL3, hL4, hL5, cR, cW, cS, -, -, -⟩ := id hC
  obtain ⟨md3, ed3, v3⟩ := hL3.obj
  obtain ⟨md4, ed4, v4⟩ := hL4.obj
  obtain ⟨md5, ed5, v5⟩ := hL5.obj
  obtain ⟨⟨hnr, hnw, hns⟩, -, -, h6w, h7w, -⟩ := id hwf
  obtain ⟨⟨hw0si, hw1si⟩, h9si, hasi, h10si, hr0si, h8si, hN2si, hNsi⟩ := hwf.sh si (by omega)
  obtain ⟨-, -, ⟨n11, hn11a, hn11b, h11⟩, ⟨t12, ht12, h12⟩, h13⟩ := hwf.2.1 si hs
  have fl_113 := hts (.fieldLink RX3 113 "RosterPay$Shift" "isCancelled" "Z") (by decide +kernel)
  have in_X1 : ∀ w ∈ u_ws RX1 TX1 5, w ∈ wsX3_cancel := by decide +kernel
  have hl := lv_entry ([.ref (α (0)), .int (nI (si))]) (n := 4) (Nat.le_of_ble_eq_true rfl)
  rw [lg_entry_eq]
  generalize (lg_sl ([.ref (α (0)), .int (nI (si))]) ++ List.replicate (4 - (lg_sl ([.ref (α (0)), .int (nI (si))])).length) Slot.unset).toArray = ls at hl ⊢
  have hl : lv_has ls 4 [(0, .ref (α (0))), (1, .int (nI (si)))] := hl
  refine lv_aload_n hx hb dX3_cancel_0 rfl (lv_at hl 0 rfl) ?_
  refine lv_iload_n hx hb dX3_cancel_1 rfl (lv_at hl 1 rfl) ?_
  refine mcallVr hw (k0) rfl rfl ⟨hx, hb, hml, hown, hts⟩ (c_X3_findShift hC (by omega) si (by omega)) (cwV 1 hts gX3_cancel_X3_findShift rfl rfl rfl (by decide +kernel) ⟨Nat.le_of_ble_eq_true rfl, Nat.le_of_ble_eq_true rfl⟩) rfl hl.1 rfl (Nat.le_of_ble_eq_true rfl) dX3_cancel_2 ⟨Nat.le_of_ble_eq_true rfl, Nat.le_of_ble_eq_true rfl⟩ ?_
  refine lv_astore_n (lv' := [(2, .ref (α (300 + si))), (0, .ref (α (0))), (1, .int (nI (si)))]) hx hb dX3_cancel_5 rfl hl (by decide) rfl (fun ls hl => ?_)
  refine lv_aload_n hx hb dX3_cancel_6 rfl (lv_at hl 0 rfl) ?_
  refine mcallSv hw ⟨hx, hb, hml, hown, hts⟩ (c_X3_checkNotCancelled si (cS si hs) hg) (va_cwS 1 hts gX3_cancel_X3_checkNotCancelled rfl rfl rfl (by decide +kernel) ⟨Nat.le_of_ble_eq_true rfl, Nat.le_of_ble_eq_true rfl⟩) rfl hl.1 rfl (Nat.le_of_ble_eq_true rfl) dX3_cancel_7 ⟨Nat.le_of_ble_eq_true rfl, Nat.le_of_ble_eq_true rfl⟩ ?_
  refine lv_aload_n hx hb dX3_cancel_10 rfl (lv_at hl 1 rfl) ?_
  refine lv_aload_n hx hb dX3_cancel_11 rfl (lv_at hl 0 rfl) ?_
  refine mcallVi hw (k0) rfl rfl ⟨hx, hb, hml, hown, hts⟩ (c_X3_payFor hC hwf si hs) (cwV 1 hts gX3_cancel_X3_payFor rfl rfl rfl (by decide +kernel) ⟨Nat.le_of_ble_eq_true rfl, Nat.le_of_ble_eq_true rfl⟩) rfl hl.1 rfl (Nat.le_of_ble_eq_true rfl) dX3_cancel_12 ⟨Nat.le_of_ble_eq_true rfl, Nat.le_of_ble_eq_true rfl⟩ ?_
  refine lv_istore_n (lv' := [(3, .int (s_pay f nr si)), (2, .ref (α (300 + si))), (0, .ref (α (0))), (1, .int (nI (si)))]) hx hb dX3_cancel_15 rfl hl (by decide) rfl (fun ls hl => ?_)
  refine lv_aload_n hx hb dX3_cancel_16 rfl (lv_at hl 1 rfl) ?_
  refine lv_iconst (v := (1)) hx hb dX3_cancel_17 (by decide) ?_
  refine mput (C := RX1) (T := TX1) (N := 5) (ci := 2) hx hb hts in_X1 tyX1 tyX1_ok nmX1 hown hw hS ((cS si hs)) rfl 4 (by decide) fl_113 rfl (rfl) (rfl) (Nat.le_of_ble_eq_true rfl) dX3_cancel_18 (fun H locs hw hS => ?_)
  obtain ⟨V1, hV1⟩ : ∃ z, z = vup V (300 + si) (.inr (2, [.ref (α (200 + wN f si)), .int (f 10 si), .int (f 11 si), .int (f 12 si), .int 1])) := ⟨_, rfl⟩
  have hw : mW G V1 α s H := by rw [hV1]; exact hw
  have hC : mC G V1 α (u2 f 13 si 1) nr nw ns := by rw [hV1]; exact hC.gone hnr hnw hns si hs 1
  have hO : ∀ j, j < 100 → (9 ≤ j → V1 j = V j) ∧ α j = α j := fun j hj => ⟨fun h9 => by rw [hV1]; exact vup_n _ _ (by omega), rfl⟩
  refine lv_iload_n hx hb dX3_cancel_21 rfl (lv_at hl 0 rfl) ?_
  exact W.iret (v := s_pay f nr si) hx hb hr (fun t ht hW => ⟨⟨_, (V1, α), rfl, ⟨rfl, hC, hO⟩, by show mH G V1 α t.heap; rw [ht]; exact hw.2.2⟩, hS.F ht⟩) hS.2.2 dX3_cancel_22

set_option maxHeartbeats 4000000 in
set_option maxRecDepth 100000 in
theorem c_X3_shifts {l : Launch} {G : mG} {V : mV} {α : Nat → Nat} {f : sT} {nr nw ns : Nat} (hC : mC G V α f nr nw ns) (hwf : mwf f nr nw ns)  : Met l yX3_shifts wsX3_shifts ({ frames := 1, cells := 0, slots := 0, locals := 20 }) (va_Pc [.ref (α (0))] (fun U => mW G V α U U.heap)) (vp_Si (fun r9 => r9 = nI ns)) 0 0 (fun _ => False) := by
  refine Met.ofW (cc := cX3_shifts) (maxL := 1) (ret := (some .int)) (by decide) rfl ?_
  intro p e s m args below meth c s₁ B hml hv
  obtain ⟨rfl, hw⟩ := hv
  have hx := B.exec
  have hb := B.bytes
  have hr := B.returns
  have hts := atoms_spec (ws := wsX3_shifts) B.pre
  have hown : s.vm.findClass RX3 = some m.cls := findClass_of_methodNamed B.named
  have hlocks := B.notSynchronized
  obtain ⟨k0, k1, k2, hL3, hL4, hL5, cR, cW, cS, -, -, -⟩ := id hC
  obtain ⟨md3, ed3, v3⟩ := hL3.obj
  obtain ⟨md4, ed4, v4⟩ := hL4.obj
  obtain ⟨md5, ed5, v5⟩ := hL5.obj
  obtain ⟨⟨hnr, hnw, hns⟩, -, -, h6w, h7w, -⟩ := id hwf
  have fl_33 := hts (.fieldLink RX3 33 "RosterPay" "roster" "Ljava/util/ArrayList;") (by decide +kernel)
  have in_X3 : ∀ w ∈ u_ws RX3 TX3 5, w ∈ wsX3_shifts := by decide +kernel
  have hl := lv_entry ([.ref (α (0))]) (n := 1) (Nat.le_of_ble_eq_true rfl)
  rw [lg_entry_eq]
  generalize (lg_sl ([.ref (α (0))]) ++ List.replicate (1 - (lg_sl ([.ref (α (0))])).length) Slot.unset).toArray = ls at hl ⊢
  have hl : lv_has ls 1 [(0, .ref (α (0)))] := hl
  refine lv_aload_n hx hb dX3_shifts_0 rfl (lv_at hl 0 rfl) ?_
  refine mget (C := RX3) (T := TX3) (N := 5) (ci := 4) hx hb hts in_X3 hown hw (k0) rfl 4 (by decide) fl_33 rfl dX3_shifts_1 ?_
  refine mcallVi hw (v5) rfl rfl ⟨hx, hb, hml, hown, hts⟩ (c_lsize hL5) (cwV 0 hts gX3_shifts_Jx4a65c_size_8abf5 rfl rfl rfl (by decide +kernel) ⟨Nat.le_of_ble_eq_true rfl, Nat.le_of_ble_eq_true rfl⟩) rfl hl.1 rfl (Nat.le_of_ble_eq_true rfl) dX3_shifts_4 ⟨Nat.le_of_ble_eq_true rfl, Nat.le_of_ble_eq_true rfl⟩ ?_
  exact W.iret (v := nI (ns)) hx hb hr (fun t ht hW => ⟨_, rfl, rfl, ht⟩) (fun _ h => absurd h List.not_mem_nil) dX3_shifts_7

set_option maxHeartbeats 4000000 in
set_option maxRecDepth 100000 in
theorem c_X3_paidQuarters {l : Launch} {G : mG} {V : mV} {α : Nat → Nat} {f : sT} {nr nw ns : Nat} (hC : mC G V α f nr nw ns) (hwf : mwf f nr nw ns) (si : Nat) (hs : si < ns)  : Met l yX3_paidQuarters wsX3_paidQuarters ({ frames := 4, cells := 0, slots := 0, locals := 85 }) (va_Pc [.ref (α (0)), .int (nI (si))] (fun U => mW G V α U U.heap)) (vp_Si (fun r9 => r9 = s_paid f si)) 0 0 (fun _ => False) := by
  refine Met.ofW (cc := cX3_paidQuarters) (maxL := 2) (ret := (some .int)) (by decide) rfl ?_
  intro p e s m args below meth c s₁ B hml hv
  obtain ⟨rfl, hw⟩ := hv
  have hx := B.exec
  have hb := B.bytes
  have hr := B.returns
  have hts := atoms_spec (ws := wsX3_paidQuarters) B.pre
  have hown : s.vm.findClass RX3 = some m.cls := findClass_of_methodNamed B.named
  have hlocks := B.notSynchronized
  obtain ⟨k0, k1, k2, hL3, hL4, hL5, cR, cW, cS, -, -, -⟩ := id hC
  obtain ⟨md3, ed3, v3⟩ := hL3.obj
  obtain ⟨md4, ed4, v4⟩ := hL4.obj
  obtain ⟨md5, ed5, v5⟩ := hL5.obj
  obtain ⟨⟨hnr, hnw, hns⟩, -, -, h6w, h7w, -⟩ := id hwf
  obtain ⟨⟨hw0si, hw1si⟩, h9si, hasi, h10si, hr0si, h8si, hN2si, hNsi⟩ := hwf.sh si (by omega)
  obtain ⟨-, -, ⟨n11, hn11a, hn11b, h11⟩, ⟨t12, ht12, h12⟩, h13⟩ := hwf.2.1 si hs
  have hl := lv_entry ([.ref (α (0)), .int (nI (si))]) (n := 2) (Nat.le_of_ble_eq_true rfl)
  rw [lg_entry_eq]
  generalize (lg_sl ([.ref (α (0)), .int (nI (si))]) ++ List.replicate (2 - (lg_sl ([.ref (α (0)), .int (nI (si))])).length) Slot.unset).toArray = ls at hl ⊢
  have hl : lv_has ls 2 [(0, .ref (α (0))), (1, .int (nI (si)))] := hl
  refine lv_aload_n hx hb dX3_paidQuarters_0 rfl (lv_at hl 0 rfl) ?_
  refine lv_iload_n hx hb dX3_paidQuarters_1 rfl (lv_at hl 1 rfl) ?_
  refine mcallVr hw (k0) rfl rfl ⟨hx, hb, hml, hown, hts⟩ (c_X3_findShift hC (by omega) si (by omega)) (cwV 1 hts gX3_paidQuarters_X3_findShift rfl rfl rfl (by decide +kernel) ⟨Nat.le_of_ble_eq_true rfl, Nat.le_of_ble_eq_true rfl⟩) rfl hl.1 rfl (Nat.le_of_ble_eq_true rfl) dX3_paidQuarters_2 ⟨Nat.le_of_ble_eq_true rfl, Nat.le_of_ble_eq_true rfl⟩ ?_
  refine mcallVi hw ((cS si hs)) rfl rfl ⟨hx, hb, hml, hown, hts⟩ (c_X1_paidLength si (cS si hs)) (cwV 0 hts gX3_paidQuarters_X1_paidLength rfl rfl rfl (by decide +kernel) ⟨Nat.le_of_ble_eq_true rfl, Nat.le_of_ble_eq_true rfl⟩) rfl hl.1 rfl (Nat.le_of_ble_eq_true rfl) dX3_paidQuarters_5 ⟨Nat.le_of_ble_eq_true rfl, Nat.le_of_ble_eq_true rfl⟩ ?_
  exact W.iret (v := s_paid f si) hx hb hr (fun t ht hW => ⟨_, rfl, rfl, ht⟩) (fun _ h => absurd h List.not_mem_nil) dX3_paidQuarters_8

set_option maxHeartbeats 4000000 in
set_option maxRecDepth 100000 in
theorem c_X3_missed {l : Launch} {G : mG} {V : mV} {α : Nat → Nat} {f : sT} {nr nw ns : Nat} (hC : mC G V α f nr nw ns) (hwf : mwf f nr nw ns) (si : Nat) (hs : si < ns)  : Met l yX3_missed wsX3_missed ({ frames := 4, cells := 0, slots := 0, locals := 85 }) (va_Pc [.ref (α (0)), .int (nI (si))] (fun U => mW G V α U U.heap)) (vp_Si (fun r9 => r9 = s_lacks f si)) 0 0 (fun _ => False) := by
  refine Met.ofW (cc := cX3_missed) (maxL := 2) (ret := (some .int)) (by decide) rfl ?_
  intro p e s m args below meth c s₁ B hml hv
  obtain ⟨rfl, hw⟩ := hv
  have hx := B.exec
  have hb := B.bytes
  have hr := B.returns
  have hts := atoms_spec (ws := wsX3_missed) B.pre
  have hown : s.vm.findClass RX3 = some m.cls := findClass_of_methodNamed B.named
  have hlocks := B.notSynchronized
  obtain ⟨k0, k1, k2, hL3, hL4, hL5, cR, cW, cS, -, -, -⟩ := id hC
  obtain ⟨md3, ed3, v3⟩ := hL3.obj
  obtain ⟨md4, ed4, v4⟩ := hL4.obj
  obtain ⟨md5, ed5, v5⟩ := hL5.obj
  obtain ⟨⟨hnr, hnw, hns⟩, -, -, h6w, h7w, -⟩ := id hwf
  obtain ⟨⟨hw0si, hw1si⟩, h9si, hasi, h10si, hr0si, h8si, hN2si, hNsi⟩ := hwf.sh si (by omega)
  obtain ⟨-, -, ⟨n11, hn11a, hn11b, h11⟩, ⟨t12, ht12, h12⟩, h13⟩ := hwf.2.1 si hs
  have hl := lv_entry ([.ref (α (0)), .int (nI (si))]) (n := 2) (Nat.le_of_ble_eq_true rfl)
  rw [lg_entry_eq]
  generalize (lg_sl ([.ref (α (0)), .int (nI (si))]) ++ List.replicate (2 - (lg_sl ([.ref (α (0)), .int (nI (si))])).length) Slot.unset).toArray = ls at hl ⊢
  have hl : lv_has ls 2 [(0, .ref (α (0))), (1, .int (nI (si)))] := hl
  refine lv_aload_n hx hb dX3_missed_0 rfl (lv_at hl 0 rfl) ?_
  refine lv_iload_n hx hb dX3_missed_1 rfl (lv_at hl 1 rfl) ?_
  refine mcallVr hw (k0) rfl rfl ⟨hx, hb, hml, hown, hts⟩ (c_X3_findShift hC (by omega) si (by omega)) (cwV 1 hts gX3_missed_X3_findShift rfl rfl rfl (by decide +kernel) ⟨Nat.le_of_ble_eq_true rfl, Nat.le_of_ble_eq_true rfl⟩) rfl hl.1 rfl (Nat.le_of_ble_eq_true rfl) dX3_missed_2 ⟨Nat.le_of_ble_eq_true rfl, Nat.le_of_ble_eq_true rfl⟩ ?_
  refine mcallVi hw ((cS si hs)) rfl rfl ⟨hx, hb, hml, hown, hts⟩ (c_X1_breaksMissed si (cS si hs) t12 h12 ht12) (cwV 0 hts gX3_missed_X1_breaksMissed rfl rfl rfl (by decide +kernel) ⟨Nat.le_of_ble_eq_true rfl, Nat.le_of_ble_eq_true rfl⟩) rfl hl.1 rfl (Nat.le_of_ble_eq_true rfl) dX3_missed_5 ⟨Nat.le_of_ble_eq_true rfl, Nat.le_of_ble_eq_true rfl⟩ ?_
  exact W.iret (v := s_lacks f si) hx hb hr (fun t ht hW => ⟨_, rfl, rfl, ht⟩) (fun _ h => absurd h List.not_mem_nil) dX3_missed_8

set_option maxHeartbeats 4000000 in
set_option maxRecDepth 100000 in
theorem c_X3_pay {l : Launch} {G : mG} {V : mV} {α : Nat → Nat} {f : sT} {nr nw ns : Nat} (hC : mC G V α f nr nw ns) (hwf : mwf f nr nw ns) (si : Nat) (hs : si < ns)  : Met l yX3_pay wsX3_pay ({ frames := 6, cells := 0, slots := 0, locals := 144 }) (va_Pc [.ref (α (0)), .int (nI (si))] (fun U => mW G V α U U.heap)) (vp_Si (fun r9 => r9 = s_pay f nr si)) 0 0 (fun _ => False) := by
  refine Met.ofW (cc := cX3_pay) (maxL := 2) (ret := (some .int)) (by decide) rfl ?_
  intro p e s m args below meth c s₁ B hml hv
  obtain ⟨rfl, hw⟩ := hv
  have hx := B.exec
  have hb := B.bytes
  have hr := B.returns
  have hts := atoms_spec (ws := wsX3_pay) B.pre
  have hown : s.vm.findClass RX3 = some m.cls := findClass_of_methodNamed B.named
  have hlocks := B.notSynchronized
  obtain ⟨k0, k1, k2, hL3, hL4, hL5, cR, cW, cS, -, -, -⟩ := id hC
  obtain ⟨md3, ed3, v3⟩ := hL3.obj
  obtain ⟨md4, ed4, v4⟩ := hL4.obj
  obtain ⟨md5, ed5, v5⟩ := hL5.obj
  obtain ⟨⟨hnr, hnw, hns⟩, -, -, h6w, h7w, -⟩ := id hwf
  obtain ⟨⟨hw0si, hw1si⟩, h9si, hasi, h10si, hr0si, h8si, hN2si, hNsi⟩ := hwf.sh si (by omega)
  obtain ⟨-, -, ⟨n11, hn11a, hn11b, h11⟩, ⟨t12, ht12, h12⟩, h13⟩ := hwf.2.1 si hs
  have hl := lv_entry ([.ref (α (0)), .int (nI (si))]) (n := 2) (Nat.le_of_ble_eq_true rfl)
  rw [lg_entry_eq]
  generalize (lg_sl ([.ref (α (0)), .int (nI (si))]) ++ List.replicate (2 - (lg_sl ([.ref (α (0)), .int (nI (si))])).length) Slot.unset).toArray = ls at hl ⊢
  have hl : lv_has ls 2 [(0, .ref (α (0))), (1, .int (nI (si)))] := hl
  refine lv_aload_n hx hb dX3_pay_0 rfl (lv_at hl 0 rfl) ?_
  refine lv_aload_n hx hb dX3_pay_1 rfl (lv_at hl 0 rfl) ?_
  refine lv_iload_n hx hb dX3_pay_2 rfl (lv_at hl 1 rfl) ?_
  refine mcallVr hw (k0) rfl rfl ⟨hx, hb, hml, hown, hts⟩ (c_X3_findShift hC (by omega) si (by omega)) (cwV 1 hts gX3_pay_X3_findShift rfl rfl rfl (by decide +kernel) ⟨Nat.le_of_ble_eq_true rfl, Nat.le_of_ble_eq_true rfl⟩) rfl hl.1 rfl (Nat.le_of_ble_eq_true rfl) dX3_pay_3 ⟨Nat.le_of_ble_eq_true rfl, Nat.le_of_ble_eq_true rfl⟩ ?_
  refine mcallVi hw (k0) rfl rfl ⟨hx, hb, hml, hown, hts⟩ (c_X3_payFor hC hwf si hs) (cwV 1 hts gX3_pay_X3_payFor rfl rfl rfl (by decide +kernel) ⟨Nat.le_of_ble_eq_true rfl, Nat.le_of_ble_eq_true rfl⟩) rfl hl.1 rfl (Nat.le_of_ble_eq_true rfl) dX3_pay_6 ⟨Nat.le_of_ble_eq_true rfl, Nat.le_of_ble_eq_true rfl⟩ ?_
  exact W.iret (v := s_pay f nr si) hx hb hr (fun t ht hW => ⟨_, rfl, rfl, ht⟩) (fun _ h => absurd h List.not_mem_nil) dX3_pay_9

set_option maxHeartbeats 4000000 in
set_option maxRecDepth 100000 in
theorem c_X3_percentAt {l : Launch} {G : mG} {V : mV} {α : Nat → Nat} {f : sT} {nr nw ns : Nat} (hC : mC G V α f nr nw ns) (hwf : mwf f nr nw ns) (si : Nat) (hs : si < ns) (q : Nat) (hq : q < pN f si)  : Met l yX3_percentAt wsX3_percentAt ({ frames := 5, cells := 0, slots := 0, locals := 120 }) (va_Pc [.ref (α (0)), .int (nI (si)), .int (nI (q))] (fun U => mW G V α U U.heap)) (vp_Si (fun r9 => r9 = s_P f (wN f si) (aN f si) q nr)) 0 0 (fun _ => False) := by
  refine Met.ofW (cc := cX3_percentAt) (maxL := 4) (ret := (some .int)) (by decide) rfl ?_
  intro p e s m args below meth c s₁ B hml hv
  obtain ⟨rfl, hw⟩ := hv
  have hx := B.exec
  have hb := B.bytes
  have hr := B.returns
  have hts := atoms_spec (ws := wsX3_percentAt) B.pre
  have hown : s.vm.findClass RX3 = some m.cls := findClass_of_methodNamed B.named
  have hlocks := B.notSynchronized
  obtain ⟨k0, k1, k2, hL3, hL4, hL5, cR, cW, cS, -, -, -⟩ := id hC
  obtain ⟨md3, ed3, v3⟩ := hL3.obj
  obtain ⟨md4, ed4, v4⟩ := hL4.obj
  obtain ⟨md5, ed5, v5⟩ := hL5.obj
  obtain ⟨⟨hnr, hnw, hns⟩, -, -, h6w, h7w, -⟩ := id hwf
  obtain ⟨⟨hw0si, hw1si⟩, h9si, hasi, h10si, hr0si, h8si, hN2si, hNsi⟩ := hwf.sh si (by omega)
  obtain ⟨-, -, ⟨n11, hn11a, hn11b, h11⟩, ⟨t12, ht12, h12⟩, h13⟩ := hwf.2.1 si hs
  have hl := lv_entry ([.ref (α (0)), .int (nI (si)), .int (nI (q))]) (n := 4) (Nat.le_of_ble_eq_true rfl)
  rw [lg_entry_eq]
  generalize (lg_sl ([.ref (α (0)), .int (nI (si)), .int (nI (q))]) ++ List.replicate (4 - (lg_sl ([.ref (α (0)), .int (nI (si)), .int (nI (q))])).length) Slot.unset).toArray = ls at hl ⊢
  have hl : lv_has ls 4 [(0, .ref (α (0))), (1, .int (nI (si))), (2, .int (nI (q)))] := hl
  refine lv_aload_n hx hb dX3_percentAt_0 rfl (lv_at hl 0 rfl) ?_
  refine lv_iload_n hx hb dX3_percentAt_1 rfl (lv_at hl 1 rfl) ?_
  refine mcallVr hw (k0) rfl rfl ⟨hx, hb, hml, hown, hts⟩ (c_X3_findShift hC (by omega) si (by omega)) (cwV 1 hts gX3_percentAt_X3_findShift rfl rfl rfl (by decide +kernel) ⟨Nat.le_of_ble_eq_true rfl, Nat.le_of_ble_eq_true rfl⟩) rfl hl.1 rfl (Nat.le_of_ble_eq_true rfl) dX3_percentAt_2 ⟨Nat.le_of_ble_eq_true rfl, Nat.le_of_ble_eq_true rfl⟩ ?_
  refine lv_astore_n (lv' := [(3, .ref (α (300 + si))), (0, .ref (α (0))), (1, .int (nI (si))), (2, .int (nI (q)))]) hx hb dX3_percentAt_5 rfl hl (by decide) rfl (fun ls hl => ?_)
  refine lv_aload_n hx hb dX3_percentAt_6 rfl (lv_at hl 0 rfl) ?_
  refine lv_iload_n hx hb dX3_percentAt_7 rfl (lv_at hl 3 rfl) ?_
  refine mcallSv hw ⟨hx, hb, hml, hown, hts⟩ (c_X3_checkPaidQuarter si (cS si hs) (pN f si) q hNsi hN2si hq) (va_cwS 2 hts gX3_percentAt_X3_checkPaidQuarter rfl rfl rfl (by decide +kernel) ⟨Nat.le_of_ble_eq_true rfl, Nat.le_of_ble_eq_true rfl⟩) rfl hl.1 rfl (Nat.le_of_ble_eq_true rfl) dX3_percentAt_8 ⟨Nat.le_of_ble_eq_true rfl, Nat.le_of_ble_eq_true rfl⟩ ?_
  refine lv_aload_n hx hb dX3_percentAt_11 rfl (lv_at hl 1 rfl) ?_
  refine lv_aload_n hx hb dX3_percentAt_12 rfl (lv_at hl 0 rfl) ?_
  refine lv_iload_n hx hb dX3_percentAt_13 rfl (lv_at hl 3 rfl) ?_
  refine mcallVi hw (k0) rfl rfl ⟨hx, hb, hml, hown, hts⟩ (c_X3_percentOf hC hwf si q hs (by omega)) (cwV 2 hts gX3_percentAt_X3_percentOf rfl rfl rfl (by decide +kernel) ⟨Nat.le_of_ble_eq_true rfl, Nat.le_of_ble_eq_true rfl⟩) rfl hl.1 rfl (Nat.le_of_ble_eq_true rfl) dX3_percentAt_14 ⟨Nat.le_of_ble_eq_true rfl, Nat.le_of_ble_eq_true rfl⟩ ?_
  exact W.iret (v := s_P f (wN f si) (aN f si) q nr) hx hb hr (fun t ht hW => ⟨_, rfl, rfl, ht⟩) (fun _ h => absurd h List.not_mem_nil) dX3_percentAt_17

set_option maxHeartbeats 4000000 in
set_option maxRecDepth 100000 in
theorem c_X3_reasonAt {l : Launch} {G : mG} {V : mV} {α : Nat → Nat} {f : sT} {nr nw ns : Nat} (hC : mC G V α f nr nw ns) (hwf : mwf f nr nw ns) (si : Nat) (hs : si < ns) (q : Nat) (hq : q < pN f si)  : Met l yX3_reasonAt wsX3_reasonAt ({ frames := 4, cells := 0, slots := 0, locals := 97 }) (va_Pc [.ref (α (0)), .int (nI (si)), .int (nI (q))] (fun U => mW G V α U U.heap)) (vp_Si (fun r9 => r9 = s_R f nr (wN f si) (aN f si) q)) 0 0 (fun _ => False) := by
  refine Met.ofW (cc := cX3_reasonAt) (maxL := 5) (ret := (some .int)) (by decide) rfl ?_
  intro p e s m args below meth c s₁ B hml hv
  obtain ⟨rfl, hw⟩ := hv
  have hx := B.exec
  have hb := B.bytes
  have hr := B.returns
  have hts := atoms_spec (ws := wsX3_reasonAt) B.pre
  have hown : s.vm.findClass RX3 = some m.cls := findClass_of_methodNamed B.named
  have hlocks := B.notSynchronized
  obtain ⟨k0, k1, k2, hL3, hL4, hL5, cR, cW, cS, -, -, -⟩ := id hC
  obtain ⟨md3, ed3, v3⟩ := hL3.obj
  obtain ⟨md4, ed4, v4⟩ := hL4.obj
  obtain ⟨md5, ed5, v5⟩ := hL5.obj
  obtain ⟨⟨hnr, hnw, hns⟩, -, -, h6w, h7w, -⟩ := id hwf
  obtain ⟨⟨hw0si, hw1si⟩, h9si, hasi, h10si, hr0si, h8si, hN2si, hNsi⟩ := hwf.sh si (by omega)
  obtain ⟨-, -, ⟨n11, hn11a, hn11b, h11⟩, ⟨t12, ht12, h12⟩, h13⟩ := hwf.2.1 si hs
  have fl_134 := hts (.fieldLink RX3 134 "RosterPay$Rule" "number" "I") (by decide +kernel)
  have in_X0 : ∀ w ∈ u_ws RX0 TX0 7, w ∈ wsX3_reasonAt := by decide +kernel
  have hl := lv_entry ([.ref (α (0)), .int (nI (si)), .int (nI (q))]) (n := 5) (Nat.le_of_ble_eq_true rfl)
  rw [lg_entry_eq]
  generalize (lg_sl ([.ref (α (0)), .int (nI (si)), .int (nI (q))]) ++ List.replicate (5 - (lg_sl ([.ref (α (0)), .int (nI (si)), .int (nI (q))])).length) Slot.unset).toArray = ls at hl ⊢
  have hl : lv_has ls 5 [(0, .ref (α (0))), (1, .int (nI (si))), (2, .int (nI (q)))] := hl
  refine lv_aload_n hx hb dX3_reasonAt_0 rfl (lv_at hl 0 rfl) ?_
  refine lv_iload_n hx hb dX3_reasonAt_1 rfl (lv_at hl 1 rfl) ?_
  refine mcallVr hw (k0) rfl rfl ⟨hx, hb, hml, hown, hts⟩ (c_X3_findShift hC (by omega) si (by omega)) (cwV 1 hts gX3_reasonAt_X3_findShift rfl rfl rfl (by decide +kernel) ⟨Nat.le_of_ble_eq_true rfl, Nat.le_of_ble_eq_true rfl⟩) rfl hl.1 rfl (Nat.le_of_ble_eq_true rfl) dX3_reasonAt_2 ⟨Nat.le_of_ble_eq_true rfl, Nat.le_of_ble_eq_true rfl⟩ ?_
  refine lv_astore_n (lv' := [(3, .ref (α (300 + si))), (0, .ref (α (0))), (1, .int (nI (si))), (2, .int (nI (q)))]) hx hb dX3_reasonAt_5 rfl hl (by decide) rfl (fun ls hl => ?_)
  refine lv_aload_n hx hb dX3_reasonAt_6 rfl (lv_at hl 0 rfl) ?_
  refine lv_iload_n hx hb dX3_reasonAt_7 rfl (lv_at hl 3 rfl) ?_
  refine mcallSv hw ⟨hx, hb, hml, hown, hts⟩ (c_X3_checkPaidQuarter si (cS si hs) (pN f si) q hNsi hN2si hq) (va_cwS 2 hts gX3_reasonAt_X3_checkPaidQuarter rfl rfl rfl (by decide +kernel) ⟨Nat.le_of_ble_eq_true rfl, Nat.le_of_ble_eq_true rfl⟩) rfl hl.1 rfl (Nat.le_of_ble_eq_true rfl) dX3_reasonAt_8 ⟨Nat.le_of_ble_eq_true rfl, Nat.le_of_ble_eq_true rfl⟩ ?_
  refine lv_aload_n hx hb dX3_reasonAt_11 rfl (lv_at hl 1 rfl) ?_
  refine lv_aload_n hx hb dX3_reasonAt_12 rfl (lv_at hl 0 rfl) ?_
  refine lv_iload_n hx hb dX3_reasonAt_13 rfl (lv_at hl 3 rfl) ?_
  refine mcallVq hw (k0) rfl rfl ⟨hx, hb, hml, hown, hts⟩ (c_X3_decidingRule hC hwf si q hs (by omega)) (cwV 2 hts gX3_reasonAt_X3_decidingRule rfl rfl rfl (by decide +kernel) ⟨Nat.le_of_ble_eq_true rfl, Nat.le_of_ble_eq_true rfl⟩) rfl hl.1 rfl (Nat.le_of_ble_eq_true rfl) dX3_reasonAt_14 ⟨Nat.le_of_ble_eq_true rfl, Nat.le_of_ble_eq_true rfl⟩ ?_
  generalize hx9 : (s_D f (wN f si) (aN f si) q nr).map (fun k9 => α (100 + k9)) = x9
  rcases x9 with _ | i9
  ·
    have hD := Option.map_eq_none_iff.mp hx9
    show W _ _ _ _ _ _ _ _ _ _ _ _ _ _ _ (F0 _ _ _ [.null])
    refine lv_astoreN (lv' := [(4, .null), (3, .ref (α (300 + si))), (0, .ref (α (0))), (1, .int (nI (si))), (2, .int (nI (q)))]) hx hb dX3_reasonAt_17 hl (by decide) rfl (fun ls hl => ?_)
    refine lv_aloadN hx hb dX3_reasonAt_19 (lv_at hl 0 rfl) ?_
    refine lv_ifnullN (tgt := 30) hx hb dX3_reasonAt_21 (by decide) ?_
    refine lv_iload_n hx hb dX3_reasonAt_30 rfl (lv_at hl 4 rfl) ?_
    refine lv_bipush (v := (32)) hx hb dX3_reasonAt_31 (by decide) ?_
    refine lv_icmp_lt (tgt := 41) hx hb dX3_reasonAt_33 (by decide) (fun c1 => ?_) (fun c1 => ?_)
    ·
      refine lv_iconst (v := (-1)) hx hb dX3_reasonAt_41 (by decide) ?_
      exact W.iret (v := (-1)) hx hb hr (fun t ht hW => ⟨_, rfl, (by rw [s_R_none hD, if_pos c1]), ht⟩) (fun _ h => absurd h List.not_mem_nil) dX3_reasonAt_42
    ·
      refine lv_bipush (v := (-2)) hx hb dX3_reasonAt_36 (by decide) ?_
      refine lv_goto (tgt := 42) hx hb dX3_reasonAt_38 (by decide) ?_
      exact W.iret (v := (-2)) hx hb hr (fun t ht hW => ⟨_, rfl, (by rw [s_R_none hD, if_neg c1]), ht⟩) (fun _ h => absurd h List.not_mem_nil) dX3_reasonAt_42
  ·
    obtain ⟨k9, hD, rfl⟩ := Option.map_eq_some_iff.mp hx9
    have hk9 := s_D_lt hD
    show W _ _ _ _ _ _ _ _ _ _ _ _ _ _ _ (F0 _ _ _ [.ref (α (100 + k9))])
    refine lv_astore (lv' := [(4, .ref (α (100 + k9))), (3, .ref (α (300 + si))), (0, .ref (α (0))), (1, .int (nI (si))), (2, .int (nI (q)))]) hx hb dX3_reasonAt_17 hl (by decide) rfl (fun ls hl => ?_)
    refine lv_aload hx hb dX3_reasonAt_19 (lv_at hl 0 rfl) ?_
    refine lv_ifnull hx hb dX3_reasonAt_21 ?_
    refine lv_aload hx hb dX3_reasonAt_24 (lv_at hl 0 rfl) ?_
    refine mget (C := RX0) (T := TX0) (N := 7) (ci := 1) hx hb hts in_X0 hown hw ((cR k9 (by omega))) rfl 0 (by decide) fl_134 rfl dX3_reasonAt_26 ?_
    exact W.iret (v := nI (k9)) hx hb hr (fun t ht hW => ⟨_, rfl, (s_R_some hD).symm, ht⟩) (fun _ h => absurd h List.not_mem_nil) dX3_reasonAt_29

set_option maxHeartbeats 4000000 in
set_option maxRecDepth 100000 in
theorem c_X3_payOf {l : Launch} {G : mG} {V : mV} {α : Nat → Nat} {f : sT} {nr nw ns : Nat} (hC : mC G V α f nr nw ns) (hwf : mwf f nr nw ns) (k : Nat) (hk : k < nw) (lo hi : Int32) (hlo : inn lo 0 363) (hhi : inn hi lo 363)  : Met l yX3_payOf wsX3_payOf ({ frames := 6, cells := 0, slots := 0, locals := 144 }) (va_Pc [.ref (α (0)), .int (nI (k)), .int (lo), .int (hi)] (fun U => mW G V α U U.heap)) (vp_Si (fun r9 => r9 = s_po f nr (nI (k)) lo hi ns)) 0 0 (fun _ => False) := by
  refine Met.ofW (cc := cX3_payOf) (maxL := 9) (ret := (some .int)) (by decide) rfl ?_
  intro p e s m args below meth c s₁ B hml hv
  obtain ⟨rfl, hw⟩ := hv
  have hx := B.exec
  have hb := B.bytes
  have hr := B.returns
  have hts := atoms_spec (ws := wsX3_payOf) B.pre
  have hown : s.vm.findClass RX3 = some m.cls := findClass_of_methodNamed B.named
  have hlocks := B.notSynchronized
  obtain ⟨k0, k1, k2, hL3, hL4, hL5, cR, cW, cS, -, -, -⟩ := id hC
  obtain ⟨md3, ed3, v3⟩ := hL3.obj
  obtain ⟨md4, ed4, v4⟩ := hL4.obj
  obtain ⟨md5, ed5, v5⟩ := hL5.obj
  obtain ⟨⟨hnr, hnw, hns⟩, -, -, h6w, h7w, -⟩ := id hwf
  have fl_33 := hts (.fieldLink RX3 33 "RosterPay" "roster" "Ljava/util/ArrayList;") (by decide +kernel)
  have in_X3 : ∀ w ∈ u_ws RX3 TX3 5, w ∈ wsX3_payOf := by decide +kernel
  have cl_96 := hts (.classLink RX3 96 "RosterPay$Shift") (by decide +kernel)
  have fl_148 := hts (.fieldLink RX3 148 "RosterPay$Shift" "worker" "LRosterPay$Worker;") (by decide +kernel)
  have in_X1 : ∀ w ∈ u_ws RX1 TX1 5, w ∈ wsX3_payOf := by decide +kernel
  have hl := lv_entry ([.ref (α (0)), .int (nI (k)), .int (lo), .int (hi)]) (n := 9) (Nat.le_of_ble_eq_true rfl)
  rw [lg_entry_eq]
  generalize (lg_sl ([.ref (α (0)), .int (nI (k)), .int (lo), .int (hi)]) ++ List.replicate (9 - (lg_sl ([.ref (α (0)), .int (nI (k)), .int (lo), .int (hi)])).length) Slot.unset).toArray = ls at hl ⊢
  have hl : lv_has ls 9 [(0, .ref (α (0))), (1, .int (nI (k))), (2, .int (lo)), (3, .int (hi))] := hl
  refine lv_aload_n hx hb dX3_payOf_0 rfl (lv_at hl 0 rfl) ?_
  refine lv_iload_n hx hb dX3_payOf_1 rfl (lv_at hl 1 rfl) ?_
  refine mcallVr hw (k0) rfl rfl ⟨hx, hb, hml, hown, hts⟩ (c_X3_findWorker hC (by omega) k (by omega)) (cwV 1 hts gX3_payOf_X3_findWorker rfl rfl rfl (by decide +kernel) ⟨Nat.le_of_ble_eq_true rfl, Nat.le_of_ble_eq_true rfl⟩) rfl hl.1 rfl (Nat.le_of_ble_eq_true rfl) dX3_payOf_2 ⟨Nat.le_of_ble_eq_true rfl, Nat.le_of_ble_eq_true rfl⟩ ?_
  refine lv_astore (lv' := [(4, .ref (α (200 + k))), (0, .ref (α (0))), (1, .int (nI (k))), (2, .int (lo)), (3, .int (hi))]) hx hb dX3_payOf_5 hl (by decide) rfl (fun ls hl => ?_)
  refine lv_iload_n hx hb dX3_payOf_7 rfl (lv_at hl 3 rfl) ?_
  refine lv_iconst (v := (0)) hx hb dX3_payOf_8 (by decide) ?_
  refine lv_sipush (v := (363)) hx hb dX3_payOf_9 (by decide) ?_
  refine mcallSv hw ⟨hx, hb, hml, hown, hts⟩ (c_X3_checkArgument (lo) (0) (363) (hlo)) (va_cwS 3 hts gX3_payOf_X3_checkArgument rfl rfl rfl (by decide +kernel) ⟨Nat.le_of_ble_eq_true rfl, Nat.le_of_ble_eq_true rfl⟩) rfl hl.1 rfl (Nat.le_of_ble_eq_true rfl) dX3_payOf_12 ⟨Nat.le_of_ble_eq_true rfl, Nat.le_of_ble_eq_true rfl⟩ ?_
  refine lv_iload_n hx hb dX3_payOf_15 rfl (lv_at hl 4 rfl) ?_
  refine lv_iload_n hx hb dX3_payOf_16 rfl (lv_at hl 3 rfl) ?_
  refine lv_sipush (v := (363)) hx hb dX3_payOf_17 (by decide) ?_
  refine mcallSv hw ⟨hx, hb, hml, hown, hts⟩ (c_X3_checkArgument (hi) (lo) (363) (hhi)) (va_cwS 3 hts gX3_payOf_X3_checkArgument rfl rfl rfl (by decide +kernel) ⟨Nat.le_of_ble_eq_true rfl, Nat.le_of_ble_eq_true rfl⟩) rfl hl.1 rfl (Nat.le_of_ble_eq_true rfl) dX3_payOf_20 ⟨Nat.le_of_ble_eq_true rfl, Nat.le_of_ble_eq_true rfl⟩ ?_
  refine lv_iconst (v := (0)) hx hb dX3_payOf_23 (by decide) ?_
  refine lv_topi (fun y1 ey1 => ?_)
  obtain rfl : y1 = (s_po f nr (nI (k)) lo hi 0) := ey1.trans (rfl)
  refine lv_istore (lv' := [(5, .int (s_po f nr (nI (k)) lo hi 0)), (4, .ref (α (200 + k))), (0, .ref (α (0))), (1, .int (nI (k))), (2, .int (lo)), (3, .int (hi))]) hx hb dX3_payOf_24 hl (by decide) rfl (fun ls hl => ?_)
  refine lv_iconst (v := (0)) hx hb dX3_payOf_26 (by decide) ?_
  refine lv_topi (fun y2 ey2 => ?_)
  obtain rfl : y2 = (nI (0)) := ey2.trans (rfl)
  refine lv_istore (lv' := [(6, .int (nI (0))), (5, .int (s_po f nr (nI (k)) lo hi 0)), (4, .ref (α (200 + k))), (0, .ref (α (0))), (1, .int (nI (k))), (2, .int (lo)), (3, .int (hi))]) hx hb dX3_payOf_27 hl (by decide) rfl (fun ls hl => ?_)
  refine mloop (nL := 9) (ns) (fun j => [(0, .ref (α (0))), (1, .int (nI (k))), (2, .int (lo)), (3, .int (hi)), (4, .ref (α (200 + k))), (5, .int (s_po f nr (nI (k)) lo hi j)), (6, .int (nI (j)))]) ?_ ?_ ls (lv_sub hl [3, 4, 5, 6, 2, 1, 0] rfl)
  ·
    intro ls hl
    have hl : lv_has ls 9 [(0, .ref (α (0))), (1, .int (nI (k))), (2, .int (lo)), (3, .int (hi)), (4, .ref (α (200 + k))), (5, .int (s_po f nr (nI (k)) lo hi ns)), (6, .int (nI (ns)))] := hl
    refine lv_iload hx hb dX3_payOf_29 (lv_at hl 6 rfl) ?_
    refine lv_aload_n hx hb dX3_payOf_31 rfl (lv_at hl 0 rfl) ?_
    refine mget (C := RX3) (T := TX3) (N := 5) (ci := 4) hx hb hts in_X3 hown hw (k0) rfl 4 (by decide) fl_33 rfl dX3_payOf_32 ?_
    refine mcallVi hw (v5) rfl rfl ⟨hx, hb, hml, hown, hts⟩ (c_lsize hL5) (cwV 0 hts gX3_payOf_Jx4a65c_size_8abf5 rfl rfl rfl (by decide +kernel) ⟨Nat.le_of_ble_eq_true rfl, Nat.le_of_ble_eq_true rfl⟩) rfl hl.1 rfl (Nat.le_of_ble_eq_true rfl) dX3_payOf_35 ⟨Nat.le_of_ble_eq_true rfl, Nat.le_of_ble_eq_true rfl⟩ ?_
    refine lv_icmp_ge (tgt := 102) hx hb dX3_payOf_38 (by decide) (fun c3 => ?_) (fun z => absurd ((nI_le (Nat.le_refl _) (by omega))) z)
    refine lv_iload hx hb dX3_payOf_102 (lv_at hl 5 rfl) ?_
    exact W.iret (v := s_po f nr (nI (k)) lo hi ns) hx hb hr (fun t ht hW => ⟨_, rfl, rfl, ht⟩) (fun _ h => absurd h List.not_mem_nil) dX3_payOf_104
  ·
    intro j hj ihj ls hl
    have hl : lv_has ls 9 [(0, .ref (α (0))), (1, .int (nI (k))), (2, .int (lo)), (3, .int (hi)), (4, .ref (α (200 + k))), (5, .int (s_po f nr (nI (k)) lo hi j)), (6, .int (nI (j)))] := hl
    obtain ⟨⟨hw0j, hw1j⟩, h9j, haj, h10j, hr0j, h8j, hN2j, hNj⟩ := hwf.sh j (by omega)
    have inj : α (200 + wN f j) = α (200 + k) → wN f j = k := fun z => Nat.add_left_cancel (hw.2.2.2.1 _ _ _ _ (cW _ hw0j) (cW k hk) z)
    have hdj : f 10 j / 96 = nI ((aN f j + 0) / 96) := by rw [h10j]; exact mdiv (by omega) 96 (by omega) (by omega)
    refine lv_iload hx hb dX3_payOf_29 (lv_at hl 6 rfl) ?_
    refine lv_aload_n hx hb dX3_payOf_31 rfl (lv_at hl 0 rfl) ?_
    refine mget (C := RX3) (T := TX3) (N := 5) (ci := 4) hx hb hts in_X3 hown hw (k0) rfl 4 (by decide) fl_33 rfl dX3_payOf_32 ?_
    refine mcallVi hw (v5) rfl rfl ⟨hx, hb, hml, hown, hts⟩ (c_lsize hL5) (cwV 0 hts gX3_payOf_Jx4a65c_size_8abf5 rfl rfl rfl (by decide +kernel) ⟨Nat.le_of_ble_eq_true rfl, Nat.le_of_ble_eq_true rfl⟩) rfl hl.1 rfl (Nat.le_of_ble_eq_true rfl) dX3_payOf_35 ⟨Nat.le_of_ble_eq_true rfl, Nat.le_of_ble_eq_true rfl⟩ ?_
    refine lv_icmp_ge (tgt := 102) hx hb dX3_payOf_38 (by decide) (fun z => absurd z ((nI_ge hj (by omega)))) (fun c4 => ?_)
    refine lv_aload_n hx hb dX3_payOf_41 rfl (lv_at hl 0 rfl) ?_
    refine mget (C := RX3) (T := TX3) (N := 5) (ci := 4) hx hb hts in_X3 hown hw (k0) rfl 4 (by decide) fl_33 rfl dX3_payOf_42 ?_
    refine lv_iload hx hb dX3_payOf_45 (lv_at hl 6 rfl) ?_
    refine mcallVr hw (v5) rfl rfl ⟨hx, hb, hml, hown, hts⟩ (c_lget hL5 j (by omega)) (cwV 1 hts gX3_payOf_Jx4a65c_get_915e3 rfl rfl rfl (by decide +kernel) ⟨Nat.le_of_ble_eq_true rfl, Nat.le_of_ble_eq_true rfl⟩) rfl hl.1 rfl (Nat.le_of_ble_eq_true rfl) dX3_payOf_47 ⟨Nat.le_of_ble_eq_true rfl, Nat.le_of_ble_eq_true rfl⟩ ?_
    refine mcast hx hb hown cl_96 hw ((cS j (by omega))) rfl dX3_payOf_50 ?_
    refine lv_astore (lv' := [(7, .ref (α (300 + j))), (0, .ref (α (0))), (1, .int (nI (k))), (2, .int (lo)), (3, .int (hi)), (4, .ref (α (200 + k))), (5, .int (s_po f nr (nI (k)) lo hi j)), (6, .int (nI (j)))]) hx hb dX3_payOf_53 hl (by decide) rfl (fun ls hl => ?_)
    refine lv_aload hx hb dX3_payOf_55 (lv_at hl 0 rfl) ?_
    refine lv_iconst (v := (0)) hx hb dX3_payOf_57 (by decide) ?_
    refine mcallVi hw ((cS j (by omega))) rfl rfl ⟨hx, hb, hml, hown, hts⟩ (c_X1_dayOf j (cS j (by omega)) (aN f j) 0 haj (by omega) h10j) (cwV 1 hts gX3_payOf_X1_dayOf rfl rfl rfl (by decide +kernel) ⟨Nat.le_of_ble_eq_true rfl, Nat.le_of_ble_eq_true rfl⟩) rfl hl.1 rfl (Nat.le_of_ble_eq_true rfl) dX3_payOf_58 ⟨Nat.le_of_ble_eq_true rfl, Nat.le_of_ble_eq_true rfl⟩ ?_
    refine lv_istore (lv' := [(8, .int (nI ((aN f j + 0) / 96))), (7, .ref (α (300 + j))), (0, .ref (α (0))), (1, .int (nI (k))), (2, .int (lo)), (3, .int (hi)), (4, .ref (α (200 + k))), (5, .int (s_po f nr (nI (k)) lo hi j)), (6, .int (nI (j)))]) hx hb dX3_payOf_61 hl (by decide) rfl (fun ls hl => ?_)
    refine lv_aload hx hb dX3_payOf_63 (lv_at hl 1 rfl) ?_
    refine mget (C := RX1) (T := TX1) (N := 5) (ci := 2) hx hb hts in_X1 hown hw ((cS j (by omega))) rfl 0 (by decide) fl_148 rfl dX3_payOf_65 ?_
    refine lv_aload hx hb dX3_payOf_68 (lv_at hl 6 rfl) ?_
    refine macmp_ne (tgt := 96) hx hb dX3_payOf_70 (by decide) (fun c5 => ?_) (fun c5 => ?_)
    ·
      have e5 : s_po f nr (nI (k)) lo hi (j + 1) = s_po f nr (nI (k)) lo hi j := s_po_miss h9j hw1j (by omega) hdj (fun e _ _ => c5 (by rw [e]))
      have hl : lv_has ls 9 [(8, .int (nI ((aN f j + 0) / 96))), (7, .ref (α (300 + j))), (0, .ref (α (0))), (1, .int (nI (k))), (2, .int (lo)), (3, .int (hi)), (4, .ref (α (200 + k))), (5, .int (s_po f nr (nI (k)) lo hi (j + 1))), (6, .int (nI (j)))] := by rw [e5]; exact hl
      refine lv_iinc (v := nI (j + 1)) (lv' := [(6, .int (nI (j + 1))), (8, .int (nI ((aN f j + 0) / 96))), (7, .ref (α (300 + j))), (0, .ref (α (0))), (1, .int (nI (k))), (2, .int (lo)), (3, .int (hi)), (4, .ref (α (200 + k))), (5, .int (s_po f nr (nI (k)) lo hi (j + 1)))]) hx hb dX3_payOf_96 hl (k := 8) rfl (nI_1 (j)) (by decide) rfl (fun ls hl => ?_)
      refine lv_goto (tgt := 29) hx hb dX3_payOf_99 (by decide) ?_
      exact ihj ls (lv_sub hl [3, 4, 5, 6, 7, 8, 0] rfl)
    ·
      refine lv_iload hx hb dX3_payOf_73 (lv_at hl 0 rfl) ?_
      refine lv_iload_n hx hb dX3_payOf_75 rfl (lv_at hl 4 rfl) ?_
      refine lv_icmp_lt (tgt := 96) hx hb dX3_payOf_76 (by decide) (fun c6 => ?_) (fun c6 => ?_)
      ·
        have e5 : s_po f nr (nI (k)) lo hi (j + 1) = s_po f nr (nI (k)) lo hi j := s_po_miss h9j hw1j (by omega) hdj (fun _ z1 z2 => z1 c6)
        have hl : lv_has ls 9 [(8, .int (nI ((aN f j + 0) / 96))), (7, .ref (α (300 + j))), (0, .ref (α (0))), (1, .int (nI (k))), (2, .int (lo)), (3, .int (hi)), (4, .ref (α (200 + k))), (5, .int (s_po f nr (nI (k)) lo hi (j + 1))), (6, .int (nI (j)))] := by rw [e5]; exact hl
        refine lv_iinc (v := nI (j + 1)) (lv' := [(6, .int (nI (j + 1))), (8, .int (nI ((aN f j + 0) / 96))), (7, .ref (α (300 + j))), (0, .ref (α (0))), (1, .int (nI (k))), (2, .int (lo)), (3, .int (hi)), (4, .ref (α (200 + k))), (5, .int (s_po f nr (nI (k)) lo hi (j + 1)))]) hx hb dX3_payOf_96 hl (k := 8) rfl (nI_1 (j)) (by decide) rfl (fun ls hl => ?_)
        refine lv_goto (tgt := 29) hx hb dX3_payOf_99 (by decide) ?_
        exact ihj ls (lv_sub hl [3, 4, 5, 6, 7, 8, 0] rfl)
      ·
        refine lv_iload hx hb dX3_payOf_79 (lv_at hl 0 rfl) ?_
        refine lv_iload_n hx hb dX3_payOf_81 rfl (lv_at hl 5 rfl) ?_
        refine lv_icmp_gt (tgt := 96) hx hb dX3_payOf_82 (by decide) (fun c7 => ?_) (fun c7 => ?_)
        ·
          have e5 : s_po f nr (nI (k)) lo hi (j + 1) = s_po f nr (nI (k)) lo hi j := s_po_miss h9j hw1j (by omega) hdj (fun _ z1 z2 => z2 c7)
          have hl : lv_has ls 9 [(8, .int (nI ((aN f j + 0) / 96))), (7, .ref (α (300 + j))), (0, .ref (α (0))), (1, .int (nI (k))), (2, .int (lo)), (3, .int (hi)), (4, .ref (α (200 + k))), (5, .int (s_po f nr (nI (k)) lo hi (j + 1))), (6, .int (nI (j)))] := by rw [e5]; exact hl
          refine lv_iinc (v := nI (j + 1)) (lv' := [(6, .int (nI (j + 1))), (8, .int (nI ((aN f j + 0) / 96))), (7, .ref (α (300 + j))), (0, .ref (α (0))), (1, .int (nI (k))), (2, .int (lo)), (3, .int (hi)), (4, .ref (α (200 + k))), (5, .int (s_po f nr (nI (k)) lo hi (j + 1)))]) hx hb dX3_payOf_96 hl (k := 8) rfl (nI_1 (j)) (by decide) rfl (fun ls hl => ?_)
          refine lv_goto (tgt := 29) hx hb dX3_payOf_99 (by decide) ?_
          exact ihj ls (lv_sub hl [3, 4, 5, 6, 7, 8, 0] rfl)
        ·
          refine lv_iload hx hb dX3_payOf_85 (lv_at hl 7 rfl) ?_
          refine lv_aload_n hx hb dX3_payOf_87 rfl (lv_at hl 2 rfl) ?_
          refine lv_aload hx hb dX3_payOf_88 (lv_at hl 1 rfl) ?_
          refine mcallVi hw (k0) rfl rfl ⟨hx, hb, hml, hown, hts⟩ (c_X3_payFor hC hwf j (by omega)) (cwV 1 hts gX3_payOf_X3_payFor rfl rfl rfl (by decide +kernel) ⟨Nat.le_of_ble_eq_true rfl, Nat.le_of_ble_eq_true rfl⟩) rfl hl.1 rfl (Nat.le_of_ble_eq_true rfl) dX3_payOf_90 ⟨Nat.le_of_ble_eq_true rfl, Nat.le_of_ble_eq_true rfl⟩ ?_
          refine lv_iadd hx hb dX3_payOf_93 ?_
          refine lv_istore (lv' := [(5, .int ((s_po f nr (nI (k)) lo hi j + s_pay f nr j))), (8, .int (nI ((aN f j + 0) / 96))), (7, .ref (α (300 + j))), (0, .ref (α (0))), (1, .int (nI (k))), (2, .int (lo)), (3, .int (hi)), (4, .ref (α (200 + k))), (6, .int (nI (j)))]) hx hb dX3_payOf_94 hl (by decide) rfl (fun ls hl => ?_)
          have e5 : s_po f nr (nI (k)) lo hi (j + 1) = (s_po f nr (nI (k)) lo hi j + s_pay f nr j) := s_po_hit h9j (inj c5) hdj c6 c7
          have hl : lv_has ls 9 [(5, .int (s_po f nr (nI (k)) lo hi (j + 1))), (8, .int (nI ((aN f j + 0) / 96))), (7, .ref (α (300 + j))), (0, .ref (α (0))), (1, .int (nI (k))), (2, .int (lo)), (3, .int (hi)), (4, .ref (α (200 + k))), (6, .int (nI (j)))] := by rw [e5]; exact hl
          refine lv_iinc (v := nI (j + 1)) (lv' := [(6, .int (nI (j + 1))), (5, .int (s_po f nr (nI (k)) lo hi (j + 1))), (8, .int (nI ((aN f j + 0) / 96))), (7, .ref (α (300 + j))), (0, .ref (α (0))), (1, .int (nI (k))), (2, .int (lo)), (3, .int (hi)), (4, .ref (α (200 + k)))]) hx hb dX3_payOf_96 hl (k := 8) rfl (nI_1 (j)) (by decide) rfl (fun ls hl => ?_)
          refine lv_goto (tgt := 29) hx hb dX3_payOf_99 (by decide) ?_
          exact ihj ls (lv_sub hl [4, 5, 6, 7, 8, 1, 0] rfl)

set_option maxHeartbeats 4000000 in
set_option maxRecDepth 100000 in
theorem c_X3_paidBy {l : Launch} {G : mG} {V : mV} {α : Nat → Nat} {f : sT} {nr nw ns : Nat} (hC : mC G V α f nr nw ns) (hwf : mwf f nr nw ns) (k : Nat) (hk : k < nr)  : Met l yX3_paidBy wsX3_paidBy ({ frames := 5, cells := 0, slots := 0, locals := 123 }) (va_Pc [.ref (α (0)), .int (nI (k))] (fun U => mW G V α U U.heap)) (vp_Si (fun r9 => r9 = s_pb f nr (nI (k)) ns)) 0 0 (fun _ => False) := by
  refine Met.ofW (cc := cX3_paidBy) (maxL := 5) (ret := (some .int)) (by decide) rfl ?_
  intro p e s m args below meth c s₁ B hml hv
  obtain ⟨rfl, hw⟩ := hv
  have hx := B.exec
  have hb := B.bytes
  have hr := B.returns
  have hts := atoms_spec (ws := wsX3_paidBy) B.pre
  have hown : s.vm.findClass RX3 = some m.cls := findClass_of_methodNamed B.named
  have hlocks := B.notSynchronized
  obtain ⟨k0, k1, k2, hL3, hL4, hL5, cR, cW, cS, -, -, -⟩ := id hC
  obtain ⟨md3, ed3, v3⟩ := hL3.obj
  obtain ⟨md4, ed4, v4⟩ := hL4.obj
  obtain ⟨md5, ed5, v5⟩ := hL5.obj
  obtain ⟨⟨hnr, hnw, hns⟩, -, -, h6w, h7w, -⟩ := id hwf
  have fl_33 := hts (.fieldLink RX3 33 "RosterPay" "roster" "Ljava/util/ArrayList;") (by decide +kernel)
  have in_X3 : ∀ w ∈ u_ws RX3 TX3 5, w ∈ wsX3_paidBy := by decide +kernel
  have cl_96 := hts (.classLink RX3 96 "RosterPay$Shift") (by decide +kernel)
  have hl := lv_entry ([.ref (α (0)), .int (nI (k))]) (n := 5) (Nat.le_of_ble_eq_true rfl)
  rw [lg_entry_eq]
  generalize (lg_sl ([.ref (α (0)), .int (nI (k))]) ++ List.replicate (5 - (lg_sl ([.ref (α (0)), .int (nI (k))])).length) Slot.unset).toArray = ls at hl ⊢
  have hl : lv_has ls 5 [(0, .ref (α (0))), (1, .int (nI (k)))] := hl
  refine lv_aload_n hx hb dX3_paidBy_0 rfl (lv_at hl 0 rfl) ?_
  refine lv_iload_n hx hb dX3_paidBy_1 rfl (lv_at hl 1 rfl) ?_
  refine mcallVr hw (k0) rfl rfl ⟨hx, hb, hml, hown, hts⟩ (c_X3_findRule hC (by omega) k (by omega)) (cwV 1 hts gX3_paidBy_X3_findRule rfl rfl rfl (by decide +kernel) ⟨Nat.le_of_ble_eq_true rfl, Nat.le_of_ble_eq_true rfl⟩) rfl hl.1 rfl (Nat.le_of_ble_eq_true rfl) dX3_paidBy_2 ⟨Nat.le_of_ble_eq_true rfl, Nat.le_of_ble_eq_true rfl⟩ ?_
  refine lv_astore_n (lv' := [(2, .ref (α (100 + k))), (0, .ref (α (0))), (1, .int (nI (k)))]) hx hb dX3_paidBy_5 rfl hl (by decide) rfl (fun ls hl => ?_)
  refine lv_iconst (v := (0)) hx hb dX3_paidBy_6 (by decide) ?_
  refine lv_topi (fun y1 ey1 => ?_)
  obtain rfl : y1 = (s_pb f nr (nI (k)) 0) := ey1.trans (rfl)
  refine lv_istore_n (lv' := [(3, .int (s_pb f nr (nI (k)) 0)), (2, .ref (α (100 + k))), (0, .ref (α (0))), (1, .int (nI (k)))]) hx hb dX3_paidBy_7 rfl hl (by decide) rfl (fun ls hl => ?_)
  refine lv_iconst (v := (0)) hx hb dX3_paidBy_8 (by decide) ?_
  refine lv_topi (fun y2 ey2 => ?_)
  obtain rfl : y2 = (nI (0)) := ey2.trans (rfl)
  refine lv_istore (lv' := [(4, .int (nI (0))), (3, .int (s_pb f nr (nI (k)) 0)), (2, .ref (α (100 + k))), (0, .ref (α (0))), (1, .int (nI (k)))]) hx hb dX3_paidBy_9 hl (by decide) rfl (fun ls hl => ?_)
  refine mloop (nL := 5) (ns) (fun j => [(0, .ref (α (0))), (1, .int (nI (k))), (2, .ref (α (100 + k))), (3, .int (s_pb f nr (nI (k)) j)), (4, .int (nI (j)))]) ?_ ?_ ls (lv_sub hl [3, 4, 2, 1, 0] rfl)
  ·
    intro ls hl
    have hl : lv_has ls 5 [(0, .ref (α (0))), (1, .int (nI (k))), (2, .ref (α (100 + k))), (3, .int (s_pb f nr (nI (k)) ns)), (4, .int (nI (ns)))] := hl
    refine lv_iload hx hb dX3_paidBy_11 (lv_at hl 4 rfl) ?_
    refine lv_aload_n hx hb dX3_paidBy_13 rfl (lv_at hl 0 rfl) ?_
    refine mget (C := RX3) (T := TX3) (N := 5) (ci := 4) hx hb hts in_X3 hown hw (k0) rfl 4 (by decide) fl_33 rfl dX3_paidBy_14 ?_
    refine mcallVi hw (v5) rfl rfl ⟨hx, hb, hml, hown, hts⟩ (c_lsize hL5) (cwV 0 hts gX3_paidBy_Jx4a65c_size_8abf5 rfl rfl rfl (by decide +kernel) ⟨Nat.le_of_ble_eq_true rfl, Nat.le_of_ble_eq_true rfl⟩) rfl hl.1 rfl (Nat.le_of_ble_eq_true rfl) dX3_paidBy_17 ⟨Nat.le_of_ble_eq_true rfl, Nat.le_of_ble_eq_true rfl⟩ ?_
    refine lv_icmp_ge (tgt := 49) hx hb dX3_paidBy_20 (by decide) (fun c3 => ?_) (fun z => absurd ((nI_le (Nat.le_refl _) (by omega))) z)
    refine lv_iload_n hx hb dX3_paidBy_49 rfl (lv_at hl 3 rfl) ?_
    exact W.iret (v := s_pb f nr (nI (k)) ns) hx hb hr (fun t ht hW => ⟨_, rfl, rfl, ht⟩) (fun _ h => absurd h List.not_mem_nil) dX3_paidBy_50
  ·
    intro j hj ihj ls hl
    have hl : lv_has ls 5 [(0, .ref (α (0))), (1, .int (nI (k))), (2, .ref (α (100 + k))), (3, .int (s_pb f nr (nI (k)) j)), (4, .int (nI (j)))] := hl
    refine lv_iload hx hb dX3_paidBy_11 (lv_at hl 4 rfl) ?_
    refine lv_aload_n hx hb dX3_paidBy_13 rfl (lv_at hl 0 rfl) ?_
    refine mget (C := RX3) (T := TX3) (N := 5) (ci := 4) hx hb hts in_X3 hown hw (k0) rfl 4 (by decide) fl_33 rfl dX3_paidBy_14 ?_
    refine mcallVi hw (v5) rfl rfl ⟨hx, hb, hml, hown, hts⟩ (c_lsize hL5) (cwV 0 hts gX3_paidBy_Jx4a65c_size_8abf5 rfl rfl rfl (by decide +kernel) ⟨Nat.le_of_ble_eq_true rfl, Nat.le_of_ble_eq_true rfl⟩) rfl hl.1 rfl (Nat.le_of_ble_eq_true rfl) dX3_paidBy_17 ⟨Nat.le_of_ble_eq_true rfl, Nat.le_of_ble_eq_true rfl⟩ ?_
    refine lv_icmp_ge (tgt := 49) hx hb dX3_paidBy_20 (by decide) (fun z => absurd z ((nI_ge hj (by omega)))) (fun c4 => ?_)
    refine lv_iload_n hx hb dX3_paidBy_23 rfl (lv_at hl 3 rfl) ?_
    refine lv_aload_n hx hb dX3_paidBy_24 rfl (lv_at hl 0 rfl) ?_
    refine lv_aload_n hx hb dX3_paidBy_25 rfl (lv_at hl 0 rfl) ?_
    refine mget (C := RX3) (T := TX3) (N := 5) (ci := 4) hx hb hts in_X3 hown hw (k0) rfl 4 (by decide) fl_33 rfl dX3_paidBy_26 ?_
    refine lv_iload hx hb dX3_paidBy_29 (lv_at hl 4 rfl) ?_
    refine mcallVr hw (v5) rfl rfl ⟨hx, hb, hml, hown, hts⟩ (c_lget hL5 j (by omega)) (cwV 1 hts gX3_paidBy_Jx4a65c_get_915e3 rfl rfl rfl (by decide +kernel) ⟨Nat.le_of_ble_eq_true rfl, Nat.le_of_ble_eq_true rfl⟩) rfl hl.1 rfl (Nat.le_of_ble_eq_true rfl) dX3_paidBy_31 ⟨Nat.le_of_ble_eq_true rfl, Nat.le_of_ble_eq_true rfl⟩ ?_
    refine mcast hx hb hown cl_96 hw ((cS j (by omega))) rfl dX3_paidBy_34 ?_
    refine lv_aload_n hx hb dX3_paidBy_37 rfl (lv_at hl 2 rfl) ?_
    refine mcallVi hw (k0) rfl rfl ⟨hx, hb, hml, hown, hts⟩ (c_X3_payByRule hC hwf j (by omega) k hk) (cwV 2 hts gX3_paidBy_X3_payByRule rfl rfl rfl (by decide +kernel) ⟨Nat.le_of_ble_eq_true rfl, Nat.le_of_ble_eq_true rfl⟩) rfl hl.1 rfl (Nat.le_of_ble_eq_true rfl) dX3_paidBy_38 ⟨Nat.le_of_ble_eq_true rfl, Nat.le_of_ble_eq_true rfl⟩ ?_
    refine lv_iadd hx hb dX3_paidBy_41 ?_
    refine lv_topi (fun y5 ey5 => ?_)
    obtain rfl : y5 = (s_pb f nr (nI (k)) (j + 1)) := ey5.trans ((s_pbI_add f nr (nI k) j (s_pb f nr (nI (k)) j) (pN f j)).symm)
    refine lv_istore_n (lv' := [(3, .int (s_pb f nr (nI (k)) (j + 1))), (0, .ref (α (0))), (1, .int (nI (k))), (2, .ref (α (100 + k))), (4, .int (nI (j)))]) hx hb dX3_paidBy_42 rfl hl (by decide) rfl (fun ls hl => ?_)
    refine lv_iinc (v := nI (j + 1)) (lv' := [(4, .int (nI (j + 1))), (3, .int (s_pb f nr (nI (k)) (j + 1))), (0, .ref (α (0))), (1, .int (nI (k))), (2, .ref (α (100 + k)))]) hx hb dX3_paidBy_43 hl (k := 4) rfl (nI_1 (j)) (by decide) rfl (fun ls hl => ?_)
    refine lv_goto (tgt := 11) hx hb dX3_paidBy_46 (by decide) ?_
    exact ihj ls (lv_sub hl [2, 3, 4, 1, 0] rfl)

set_option maxHeartbeats 4000000 in
set_option maxRecDepth 100000 in
theorem c_X3_worked {l : Launch} {G : mG} {V : mV} {α : Nat → Nat} {f : sT} {nr nw ns : Nat} (hC : mC G V α f nr nw ns) (hwf : mwf f nr nw ns) (k z : Nat) (hk : k < nw) (hz : z < 52)  : Met l yX3_worked wsX3_worked ({ frames := 5, cells := 0, slots := 0, locals := 113 }) (va_Pc [.ref (α (0)), .int (nI (k)), .int (nI (z))] (fun U => mW G V α U U.heap)) (vp_Si (fun r9 => r9 = s_wb f k (nI (z) * 672) ((nI (z) + 1) * 672) ns)) 0 0 (fun _ => False) := by
  refine Met.ofW (cc := cX3_worked) (maxL := 4) (ret := (some .int)) (by decide) rfl ?_
  intro p e s m args below meth c s₁ B hml hv
  obtain ⟨rfl, hw⟩ := hv
  have hx := B.exec
  have hb := B.bytes
  have hr := B.returns
  have hts := atoms_spec (ws := wsX3_worked) B.pre
  have hown : s.vm.findClass RX3 = some m.cls := findClass_of_methodNamed B.named
  have hlocks := B.notSynchronized
  obtain ⟨k0, k1, k2, hL3, hL4, hL5, cR, cW, cS, -, -, -⟩ := id hC
  obtain ⟨md3, ed3, v3⟩ := hL3.obj
  obtain ⟨md4, ed4, v4⟩ := hL4.obj
  obtain ⟨md5, ed5, v5⟩ := hL5.obj
  obtain ⟨⟨hnr, hnw, hns⟩, -, -, h6w, h7w, -⟩ := id hwf
  have hl := lv_entry ([.ref (α (0)), .int (nI (k)), .int (nI (z))]) (n := 4) (Nat.le_of_ble_eq_true rfl)
  rw [lg_entry_eq]
  generalize (lg_sl ([.ref (α (0)), .int (nI (k)), .int (nI (z))]) ++ List.replicate (4 - (lg_sl ([.ref (α (0)), .int (nI (k)), .int (nI (z))])).length) Slot.unset).toArray = ls at hl ⊢
  have hl : lv_has ls 4 [(0, .ref (α (0))), (1, .int (nI (k))), (2, .int (nI (z)))] := hl
  refine lv_aload_n hx hb dX3_worked_0 rfl (lv_at hl 0 rfl) ?_
  refine lv_iload_n hx hb dX3_worked_1 rfl (lv_at hl 1 rfl) ?_
  refine mcallVr hw (k0) rfl rfl ⟨hx, hb, hml, hown, hts⟩ (c_X3_findWorker hC (by omega) k (by omega)) (cwV 1 hts gX3_worked_X3_findWorker rfl rfl rfl (by decide +kernel) ⟨Nat.le_of_ble_eq_true rfl, Nat.le_of_ble_eq_true rfl⟩) rfl hl.1 rfl (Nat.le_of_ble_eq_true rfl) dX3_worked_2 ⟨Nat.le_of_ble_eq_true rfl, Nat.le_of_ble_eq_true rfl⟩ ?_
  refine lv_astore_n (lv' := [(3, .ref (α (200 + k))), (0, .ref (α (0))), (1, .int (nI (k))), (2, .int (nI (z)))]) hx hb dX3_worked_5 rfl hl (by decide) rfl (fun ls hl => ?_)
  refine lv_iload_n hx hb dX3_worked_6 rfl (lv_at hl 3 rfl) ?_
  refine lv_iconst (v := (0)) hx hb dX3_worked_7 (by decide) ?_
  refine lv_bipush (v := (51)) hx hb dX3_worked_8 (by decide) ?_
  refine mcallSv hw ⟨hx, hb, hml, hown, hts⟩ (c_X3_checkArgument (nI (z)) (0) (51) (inn_ix (n := 52) hz (by decide))) (va_cwS 3 hts gX3_worked_X3_checkArgument rfl rfl rfl (by decide +kernel) ⟨Nat.le_of_ble_eq_true rfl, Nat.le_of_ble_eq_true rfl⟩) rfl hl.1 rfl (Nat.le_of_ble_eq_true rfl) dX3_worked_10 ⟨Nat.le_of_ble_eq_true rfl, Nat.le_of_ble_eq_true rfl⟩ ?_
  refine lv_aload_n hx hb dX3_worked_13 rfl (lv_at hl 1 rfl) ?_
  refine lv_aload_n hx hb dX3_worked_14 rfl (lv_at hl 0 rfl) ?_
  refine lv_iload_n hx hb dX3_worked_15 rfl (lv_at hl 3 rfl) ?_
  refine lv_iconst (v := (1)) hx hb dX3_worked_16 (by decide) ?_
  refine mcallVi hw (k0) rfl rfl ⟨hx, hb, hml, hown, hts⟩ (c_X3_workedInWeeks hC hwf k hk (nI z) 1) (cwV 3 hts gX3_worked_X3_workedInWeeks rfl rfl rfl (by decide +kernel) ⟨Nat.le_of_ble_eq_true rfl, Nat.le_of_ble_eq_true rfl⟩) rfl hl.1 rfl (Nat.le_of_ble_eq_true rfl) dX3_worked_17 ⟨Nat.le_of_ble_eq_true rfl, Nat.le_of_ble_eq_true rfl⟩ ?_
  exact W.iret (v := s_wb f k (nI (z) * 672) ((nI (z) + 1) * 672) ns) hx hb hr (fun t ht hW => ⟨_, rfl, rfl, ht⟩) (fun _ h => absurd h List.not_mem_nil) dX3_worked_20

set_option maxHeartbeats 4000000 in
set_option maxRecDepth 100000 in
theorem c_X3_excess {l : Launch} {G : mG} {V : mV} {α : Nat → Nat} {f : sT} {nr nw ns : Nat} (hC : mC G V α f nr nw ns) (hwf : mwf f nr nw ns) (k z : Nat) (hk : k < nw) (hz : z < 13)  : Met l yX3_excess wsX3_excess ({ frames := 5, cells := 0, slots := 0, locals := 113 }) (va_Pc [.ref (α (0)), .int (nI (k)), .int (nI (z))] (fun U => mW G V α U U.heap)) (vp_Si (fun r9 => r9 = s_mx (s_wb f k (nI (z) * 4 * 672) ((nI (z) * 4 + 4) * 672) ns - 608) 0)) 0 0 (fun _ => False) := by
  refine Met.ofW (cc := cX3_excess) (maxL := 5) (ret := (some .int)) (by decide) rfl ?_
  intro p e s m args below meth c s₁ B hml hv
  obtain ⟨rfl, hw⟩ := hv
  have hx := B.exec
  have hb := B.bytes
  have hr := B.returns
  have hts := atoms_spec (ws := wsX3_excess) B.pre
  have hown : s.vm.findClass RX3 = some m.cls := findClass_of_methodNamed B.named
  have hlocks := B.notSynchronized
  obtain ⟨k0, k1, k2, hL3, hL4, hL5, cR, cW, cS, -, -, -⟩ := id hC
  obtain ⟨md3, ed3, v3⟩ := hL3.obj
  obtain ⟨md4, ed4, v4⟩ := hL4.obj
  obtain ⟨md5, ed5, v5⟩ := hL5.obj
  obtain ⟨⟨hnr, hnw, hns⟩, -, -, h6w, h7w, -⟩ := id hwf
  have mm_160 := hts (.methodLink RX3 160 Lib.Math.max.name) (by decide +kernel)
  have ms_160 := hts (.static Lib.Math.max.name) (by decide +kernel)
  have mi_160 := hts (.initialized "java/lang/Math") (by decide +kernel)
  have mc_160 := hts (.code Lib.Math.max.name Lib.Math.max.code 2 (some .int)) (by decide +kernel)
  have hl := lv_entry ([.ref (α (0)), .int (nI (k)), .int (nI (z))]) (n := 5) (Nat.le_of_ble_eq_true rfl)
  rw [lg_entry_eq]
  generalize (lg_sl ([.ref (α (0)), .int (nI (k)), .int (nI (z))]) ++ List.replicate (5 - (lg_sl ([.ref (α (0)), .int (nI (k)), .int (nI (z))])).length) Slot.unset).toArray = ls at hl ⊢
  have hl : lv_has ls 5 [(0, .ref (α (0))), (1, .int (nI (k))), (2, .int (nI (z)))] := hl
  refine lv_aload_n hx hb dX3_excess_0 rfl (lv_at hl 0 rfl) ?_
  refine lv_iload_n hx hb dX3_excess_1 rfl (lv_at hl 1 rfl) ?_
  refine mcallVr hw (k0) rfl rfl ⟨hx, hb, hml, hown, hts⟩ (c_X3_findWorker hC (by omega) k (by omega)) (cwV 1 hts gX3_excess_X3_findWorker rfl rfl rfl (by decide +kernel) ⟨Nat.le_of_ble_eq_true rfl, Nat.le_of_ble_eq_true rfl⟩) rfl hl.1 rfl (Nat.le_of_ble_eq_true rfl) dX3_excess_2 ⟨Nat.le_of_ble_eq_true rfl, Nat.le_of_ble_eq_true rfl⟩ ?_
  refine lv_astore_n (lv' := [(3, .ref (α (200 + k))), (0, .ref (α (0))), (1, .int (nI (k))), (2, .int (nI (z)))]) hx hb dX3_excess_5 rfl hl (by decide) rfl (fun ls hl => ?_)
  refine lv_iload_n hx hb dX3_excess_6 rfl (lv_at hl 3 rfl) ?_
  refine lv_iconst (v := (0)) hx hb dX3_excess_7 (by decide) ?_
  refine lv_bipush (v := (12)) hx hb dX3_excess_8 (by decide) ?_
  refine mcallSv hw ⟨hx, hb, hml, hown, hts⟩ (c_X3_checkArgument (nI (z)) (0) (12) (inn_ix (n := 13) hz (by decide))) (va_cwS 3 hts gX3_excess_X3_checkArgument rfl rfl rfl (by decide +kernel) ⟨Nat.le_of_ble_eq_true rfl, Nat.le_of_ble_eq_true rfl⟩) rfl hl.1 rfl (Nat.le_of_ble_eq_true rfl) dX3_excess_10 ⟨Nat.le_of_ble_eq_true rfl, Nat.le_of_ble_eq_true rfl⟩ ?_
  refine lv_aload_n hx hb dX3_excess_13 rfl (lv_at hl 1 rfl) ?_
  refine lv_aload_n hx hb dX3_excess_14 rfl (lv_at hl 0 rfl) ?_
  refine lv_iload_n hx hb dX3_excess_15 rfl (lv_at hl 3 rfl) ?_
  refine lv_iconst (v := (4)) hx hb dX3_excess_16 (by decide) ?_
  refine lv_imul hx hb dX3_excess_17 ?_
  refine lv_iconst (v := (4)) hx hb dX3_excess_18 (by decide) ?_
  refine mcallVi hw (k0) rfl rfl ⟨hx, hb, hml, hown, hts⟩ (c_X3_workedInWeeks hC hwf k hk (nI z * 4) 4) (cwV 3 hts gX3_excess_X3_workedInWeeks rfl rfl rfl (by decide +kernel) ⟨Nat.le_of_ble_eq_true rfl, Nat.le_of_ble_eq_true rfl⟩) rfl hl.1 rfl (Nat.le_of_ble_eq_true rfl) dX3_excess_19 ⟨Nat.le_of_ble_eq_true rfl, Nat.le_of_ble_eq_true rfl⟩ ?_
  refine lv_istore (lv' := [(4, .int (s_wb f k (nI (z) * 4 * 672) ((nI (z) * 4 + 4) * 672) ns)), (3, .ref (α (200 + k))), (0, .ref (α (0))), (1, .int (nI (k))), (2, .int (nI (z)))]) hx hb dX3_excess_22 hl (by decide) rfl (fun ls hl => ?_)
  refine lv_iload hx hb dX3_excess_24 (lv_at hl 0 rfl) ?_
  refine lv_sipush (v := (608)) hx hb dX3_excess_26 (by decide) ?_
  refine lv_isub hx hb dX3_excess_29 ?_
  refine lv_iconst (v := (0)) hx hb dX3_excess_30 (by decide) ?_
  refine va_mmax hx hb (hml.trans hl.1.symm) hown mm_160 ms_160 mi_160 mc_160 (Nat.le_of_ble_eq_true rfl) (Nat.le_of_ble_eq_true rfl) (Nat.zero_le _) (Nat.zero_le _) dX3_excess_31 ?_
  exact W.iret (v := (if (s_wb f k (nI (z) * 4 * 672) ((nI (z) * 4 + 4) * 672) ns - 608) < 0 then 0 else (s_wb f k (nI (z) * 4 * 672) ((nI (z) * 4 + 4) * 672) ns - 608))) hx hb hr (fun t ht hW => ⟨_, rfl, rfl, ht⟩) (fun _ h => absurd h List.not_mem_nil) dX3_excess_34
