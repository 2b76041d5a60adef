set_option maxHeartbeats 4000000 in
set_option maxRecDepth 100000 in
theorem c_X4_setBase {l : Launch} {G : mG} {V : mV} {α : Nat → Nat} {f : sT} {nr nw ns : Nat} {th : Int32} (hM : mM G V α f nr nw ns th) (k : Nat) (hk : k < 4) (x : Int32) (hx1 : inn x 1 10000) : Met l yX4_setBase wsX4_setBase ({ frames := 1, cells := 0, slots := 0, locals := 22 }) (va_Pc [.ref (α (10)), .int (nI (k)), .int (x)] (fun U => mW G V α U U.heap)) (va_Qi (fun (r9 : Int32) (u : mV × (Nat → Nat)) => f 0 k = r9 ∧ mQ G V α u (u2 f 0 k x) nr nw ns 0) (fun u t => mH G u.1 u.2 t.heap) (mfree G)) 0 0 (mfree G) := by
  refine Met.ofW (cc := cX4_setBase) (maxL := 4) (ret := (some .int)) (by decide) rfl ?_
  intro p e s m args below meth c s₁ B hml hv
  obtain ⟨rfl, hw⟩ := hv
  have hx := B.exec
  have hb := B.bytes
  have hr := B.returns
  have hts := atoms_spec (ws := wsX4_setBase) B.pre
  have hown : s.vm.findClass RX4 = some m.cls := findClass_of_methodNamed B.named
  have hlocks := B.notSynchronized
  have hS : va_S (mfree G) s.heap s.heap [] := va_S.rf
  have hO : ∀ j, ¬ (10 ≤ j ∧ j < 25) → V j = V j := fun _ _ => rfl
  obtain ⟨m10, m11, m12, m13, m14, m15, m16, m17, m18, m19, m20, m21, m22, m23, m24⟩ := id hM
  have fl_53 := hts (.fieldLink RX4 53 "RosterPayModel" "thrown" "I") (by decide +kernel)
  have in_X4 : ∀ w ∈ u_ws RX4 TX4 18, w ∈ wsX4_setBase := by decide +kernel
  have fl_7 := hts (.fieldLink RX4 7 "RosterPayModel" "base" "[I") (by decide +kernel)
  have hl := lv_entry ([.ref (α (10)), .int (nI (k)), .int (x)]) (n := 4) (Nat.le_of_ble_eq_true rfl)
  rw [lg_entry_eq]
  generalize (lg_sl ([.ref (α (10)), .int (nI (k)), .int (x)]) ++ List.replicate (4 - (lg_sl ([.ref (α (10)), .int (nI (k)), .int (x)])).length) Slot.unset).toArray = ls at hl ⊢
  have hl : lv_has ls 4 [(0, .ref (α (10))), (1, .int (nI (k))), (2, .int (x))] := hl
  refine lv_aload_n hx hb dX4_setBase_0 rfl (lv_at hl 0 rfl) ?_
  refine lv_iload_n hx hb dX4_setBase_1 rfl (lv_at hl 1 rfl) ?_
  refine lv_iconst (v := (0)) hx hb dX4_setBase_2 (by decide) ?_
  refine lv_iconst (v := (3)) hx hb dX4_setBase_3 (by decide) ?_
  refine mcallSi hw ⟨hx, hb, hml, hown, hts⟩ (c_X4_isIn (nI (k)) (0) (3)) (va_cwS 3 hts gX4_setBase_X4_isIn rfl rfl rfl (by decide +kernel) ⟨Nat.le_of_ble_eq_true rfl, Nat.le_of_ble_eq_true rfl⟩) rfl hl.1 rfl (Nat.le_of_ble_eq_true rfl) dX4_setBase_4 ⟨Nat.le_of_ble_eq_true rfl, Nat.le_of_ble_eq_true rfl⟩ ?_
  refine mif_eqB (tgt := 25) hx hb dX4_setBase_7 (by decide) (fun z => absurd (inn_3 hk) z) (fun c1 => ?_)
  refine lv_iload_n hx hb dX4_setBase_10 rfl (lv_at hl 2 rfl) ?_
  refine lv_iconst (v := (1)) hx hb dX4_setBase_11 (by decide) ?_
  refine lv_sipush (v := (10000)) hx hb dX4_setBase_12 (by decide) ?_
  refine mcallSi hw ⟨hx, hb, hml, hown, hts⟩ (c_X4_isIn (x) (1) (10000)) (va_cwS 3 hts gX4_setBase_X4_isIn rfl rfl rfl (by decide +kernel) ⟨Nat.le_of_ble_eq_true rfl, Nat.le_of_ble_eq_true rfl⟩) rfl hl.1 rfl (Nat.le_of_ble_eq_true rfl) dX4_setBase_15 ⟨Nat.le_of_ble_eq_true rfl, Nat.le_of_ble_eq_true rfl⟩ ?_
  refine mif_eqB (tgt := 25) hx hb dX4_setBase_18 (by decide) (fun z => absurd (hx1) z) (fun c2 => ?_)
  refine lv_iconst (v := (0)) hx hb dX4_setBase_21 (by decide) ?_
  refine lv_goto (tgt := 26) hx hb dX4_setBase_22 (by decide) ?_
  refine mput (C := RX4) (T := TX4) (N := 18) (ci := 5) hx hb hts in_X4 tyX4 tyX4_ok nmX4 hown hw hS (m10) rfl 17 (by decide) fl_53 rfl rfl rfl (Nat.le_of_ble_eq_true rfl) dX4_setBase_26 (fun H locs hw hS => ?_)
  obtain ⟨V1, hV1⟩ : ∃ z, z = vup V 10 (mobj α (nr) (nw) (ns) (0)) := ⟨_, rfl⟩
  have hw : mW G V1 α s H := by rw [hV1]; exact hw
  have hM : mM G V1 α f (nr) (nw) (ns) (0) := by rw [hV1]; exact hM.obj _ _ _ _
  have hO : ∀ j, ¬ (10 ≤ j ∧ j < 25) → V1 j = V j := fun j hj => (show V1 j = V j by rw [hV1]; exact vup_n _ _ (by omega)).trans (hO j hj)
  obtain ⟨m10, m11, m12, m13, m14, m15, m16, m17, m18, m19, m20, m21, m22, m23, m24⟩ := id hM
  refine lv_aload_n hx hb dX4_setBase_29 rfl (lv_at hl 0 rfl) ?_
  refine mget (C := RX4) (T := TX4) (N := 18) (ci := 5) hx hb hts in_X4 hown hw (m10) rfl 17 (by decide) fl_53 rfl dX4_setBase_30 ?_
  refine lv_if_le (tgt := 38) hx hb dX4_setBase_33 (by decide) (fun c3 => ?_) (fun z => absurd ((by decide)) z)
  refine lv_aload_n hx hb dX4_setBase_38 rfl (lv_at hl 0 rfl) ?_
  refine mget (C := RX4) (T := TX4) (N := 18) (ci := 5) hx hb hts in_X4 hown hw (m10) rfl 0 (by decide) fl_7 rfl dX4_setBase_39 ?_
  refine lv_iload_n hx hb dX4_setBase_42 rfl (lv_at hl 1 rfl) ?_
  refine miald' (k := k) hx hb hw (m11) (rfl) (by omega) (by decide) dX4_setBase_43 ?_
  refine lv_istore_n (lv' := [(3, .int (f 0 (k))), (0, .ref (α (10))), (1, .int (nI (k))), (2, .int (x))]) hx hb dX4_setBase_44 rfl hl (by decide) rfl (fun ls hl => ?_)
  refine lv_aload_n hx hb dX4_setBase_45 rfl (lv_at hl 1 rfl) ?_
  refine mget (C := RX4) (T := TX4) (N := 18) (ci := 5) hx hb hts in_X4 hown hw (m10) rfl 0 (by decide) fl_7 rfl dX4_setBase_46 ?_
  refine lv_iload_n hx hb dX4_setBase_49 rfl (lv_at hl 2 rfl) ?_
  refine lv_iload_n hx hb dX4_setBase_50 rfl (lv_at hl 3 rfl) ?_
  refine miast' (k := k) hx hb hw hS (m11) (rfl) (by omega) (by decide) dX4_setBase_51 (fun H locs hw hS => ?_)
  obtain ⟨V2, hV2⟩ : ∃ z, z = vup V1 11 (.inl (G.2.2.1.1, 4, .inl (upd (f 0) (k) (x)))) := ⟨_, rfl⟩
  have hw : mW G V2 α s H := by rw [hV2]; exact hw
  have hM : mM G V2 α (u2 f 0 (k) (x)) (nr) (nw) (ns) (0) := by rw [hV2]; exact hM.a0 _ _
  have hO : ∀ j, ¬ (10 ≤ j ∧ j < 25) → V2 j = V j := fun j hj => (show V2 j = V1 j by rw [hV2]; exact vup_n _ _ (by omega)).trans (hO j hj)
  obtain ⟨m10, m11, m12, m13, m14, m15, m16, m17, m18, m19, m20, m21, m22, m23, m24⟩ := id hM
  refine lv_iload_n hx hb dX4_setBase_52 rfl (lv_at hl 0 rfl) ?_
  exact W.iret (v := f 0 (k)) hx hb hr (fun t ht hW => ⟨⟨_, (V2, α), rfl, ⟨rfl, hM, hO, rfl⟩, by show mH G V2 α t.heap; rw [ht]; exact hw.2.2⟩, hS.F ht⟩) hS.2.2 dX4_setBase_53

set_option maxHeartbeats 4000000 in
set_option maxRecDepth 100000 in
theorem c_X4_setBase_1 {l : Launch} {G : mG} {V : mV} {α : Nat → Nat} {f : sT} {nr nw ns : Nat} {th : Int32} (hM : mM G V α f nr nw ns th) (y x : Int32) (hbad : ¬ (inn y 0 3 ∧ inn x 1 10000)) : Met l yX4_setBase wsX4_setBase ({ frames := 1, cells := 0, slots := 0, locals := 22 }) (va_Pc [.ref (α (10)), .int (y), .int (x)] (fun U => mW G V α U U.heap)) (va_Qi (fun (r9 : Int32) (u : mV × (Nat → Nat)) => 0 = r9 ∧ mQ G V α u f nr nw ns 1) (fun u t => mH G u.1 u.2 t.heap) (mfree G)) 0 0 (mfree G) := by
  refine Met.ofW (cc := cX4_setBase) (maxL := 4) (ret := (some .int)) (by decide) rfl ?_
  intro p e s m args below meth c s₁ B hml hv
  obtain ⟨rfl, hw⟩ := hv
  have hx := B.exec
  have hb := B.bytes
  have hr := B.returns
  have hts := atoms_spec (ws := wsX4_setBase) B.pre
  have hown : s.vm.findClass RX4 = some m.cls := findClass_of_methodNamed B.named
  have hlocks := B.notSynchronized
  have hS : va_S (mfree G) s.heap s.heap [] := va_S.rf
  have hO : ∀ j, ¬ (10 ≤ j ∧ j < 25) → V j = V j := fun _ _ => rfl
  obtain ⟨m10, m11, m12, m13, m14, m15, m16, m17, m18, m19, m20, m21, m22, m23, m24⟩ := id hM
  have fl_53 := hts (.fieldLink RX4 53 "RosterPayModel" "thrown" "I") (by decide +kernel)
  have in_X4 : ∀ w ∈ u_ws RX4 TX4 18, w ∈ wsX4_setBase := by decide +kernel
  have hl := lv_entry ([.ref (α (10)), .int (y), .int (x)]) (n := 4) (Nat.le_of_ble_eq_true rfl)
  rw [lg_entry_eq]
  generalize (lg_sl ([.ref (α (10)), .int (y), .int (x)]) ++ List.replicate (4 - (lg_sl ([.ref (α (10)), .int (y), .int (x)])).length) Slot.unset).toArray = ls at hl ⊢
  have hl : lv_has ls 4 [(0, .ref (α (10))), (1, .int (y)), (2, .int (x))] := hl
  refine lv_aload_n hx hb dX4_setBase_0 rfl (lv_at hl 0 rfl) ?_
  refine lv_iload_n hx hb dX4_setBase_1 rfl (lv_at hl 1 rfl) ?_
  refine lv_iconst (v := (0)) hx hb dX4_setBase_2 (by decide) ?_
  refine lv_iconst (v := (3)) hx hb dX4_setBase_3 (by decide) ?_
  refine mcallSi hw ⟨hx, hb, hml, hown, hts⟩ (c_X4_isIn (y) (0) (3)) (va_cwS 3 hts gX4_setBase_X4_isIn rfl rfl rfl (by decide +kernel) ⟨Nat.le_of_ble_eq_true rfl, Nat.le_of_ble_eq_true rfl⟩) rfl hl.1 rfl (Nat.le_of_ble_eq_true rfl) dX4_setBase_4 ⟨Nat.le_of_ble_eq_true rfl, Nat.le_of_ble_eq_true rfl⟩ ?_
  refine mif_eqB (tgt := 25) hx hb dX4_setBase_7 (by decide) (fun c1 => ?_) (fun c1 => ?_)
  ·
    refine lv_iconst (v := (1)) hx hb dX4_setBase_25 (by decide) ?_
    refine mput (C := RX4) (T := TX4) (N := 18) (ci := 5) hx hb hts in_X4 tyX4 tyX4_ok nmX4 hown hw hS (m10) rfl 17 (by decide) fl_53 rfl rfl rfl (Nat.le_of_ble_eq_true rfl) dX4_setBase_26 (fun H locs hw hS => ?_)
    obtain ⟨V1, hV1⟩ : ∃ z, z = vup V 10 (mobj α (nr) (nw) (ns) (1)) := ⟨_, rfl⟩
    have hw : mW G V1 α s H := by rw [hV1]; exact hw
    have hM : mM G V1 α f (nr) (nw) (ns) (1) := by rw [hV1]; exact hM.obj _ _ _ _
    have hO : ∀ j, ¬ (10 ≤ j ∧ j < 25) → V1 j = V j := fun j hj => (show V1 j = V j by rw [hV1]; exact vup_n _ _ (by omega)).trans (hO j hj)
    obtain ⟨m10, m11, m12, m13, m14, m15, m16, m17, m18, m19, m20, m21, m22, m23, m24⟩ := id hM
    refine lv_aload_n hx hb dX4_setBase_29 rfl (lv_at hl 0 rfl) ?_
    refine mget (C := RX4) (T := TX4) (N := 18) (ci := 5) hx hb hts in_X4 hown hw (m10) rfl 17 (by decide) fl_53 rfl dX4_setBase_30 ?_
    refine lv_if_le (tgt := 38) hx hb dX4_setBase_33 (by decide) (fun z => absurd z ((by decide))) (fun c2 => ?_)
    refine lv_iconst (v := (0)) hx hb dX4_setBase_36 (by decide) ?_
    exact W.iret (v := 0) hx hb hr (fun t ht hW => ⟨⟨_, (V1, α), rfl, ⟨rfl, hM, hO, rfl⟩, by show mH G V1 α t.heap; rw [ht]; exact hw.2.2⟩, hS.F ht⟩) hS.2.2 dX4_setBase_37
  ·
    refine lv_iload_n hx hb dX4_setBase_10 rfl (lv_at hl 2 rfl) ?_
    refine lv_iconst (v := (1)) hx hb dX4_setBase_11 (by decide) ?_
    refine lv_sipush (v := (10000)) hx hb dX4_setBase_12 (by decide) ?_
    refine mcallSi hw ⟨hx, hb, hml, hown, hts⟩ (c_X4_isIn (x) (1) (10000)) (va_cwS 3 hts gX4_setBase_X4_isIn rfl rfl rfl (by decide +kernel) ⟨Nat.le_of_ble_eq_true rfl, Nat.le_of_ble_eq_true rfl⟩) rfl hl.1 rfl (Nat.le_of_ble_eq_true rfl) dX4_setBase_15 ⟨Nat.le_of_ble_eq_true rfl, Nat.le_of_ble_eq_true rfl⟩ ?_
    refine mif_eqB (tgt := 25) hx hb dX4_setBase_18 (by decide) (fun c3 => ?_) (fun c3 => ?_)
    ·
      refine lv_iconst (v := (1)) hx hb dX4_setBase_25 (by decide) ?_
      refine mput (C := RX4) (T := TX4) (N := 18) (ci := 5) hx hb hts in_X4 tyX4 tyX4_ok nmX4 hown hw hS (m10) rfl 17 (by decide) fl_53 rfl rfl rfl (Nat.le_of_ble_eq_true rfl) dX4_setBase_26 (fun H locs hw hS => ?_)
      obtain ⟨V2, hV2⟩ : ∃ z, z = vup V 10 (mobj α (nr) (nw) (ns) (1)) := ⟨_, rfl⟩
      have hw : mW G V2 α s H := by rw [hV2]; exact hw
      have hM : mM G V2 α f (nr) (nw) (ns) (1) := by rw [hV2]; exact hM.obj _ _ _ _
      have hO : ∀ j, ¬ (10 ≤ j ∧ j < 25) → V2 j = V j := fun j hj => (show V2 j = V j by rw [hV2]; exact vup_n _ _ (by omega)).trans (hO j hj)
      obtain ⟨m10, m11, m12, m13, m14, m15, m16, m17, m18, m19, m20, m21, m22, m23, m24⟩ := id hM
      refine lv_aload_n hx hb dX4_setBase_29 rfl (lv_at hl 0 rfl) ?_
      refine mget (C := RX4) (T := TX4) (N := 18) (ci := 5) hx hb hts in_X4 hown hw (m10) rfl 17 (by decide) fl_53 rfl dX4_setBase_30 ?_
      refine lv_if_le (tgt := 38) hx hb dX4_setBase_33 (by decide) (fun z => absurd z ((by decide))) (fun c4 => ?_)
      refine lv_iconst (v := (0)) hx hb dX4_setBase_36 (by decide) ?_
      exact W.iret (v := 0) hx hb hr (fun t ht hW => ⟨⟨_, (V2, α), rfl, ⟨rfl, hM, hO, rfl⟩, by show mH G V2 α t.heap; rw [ht]; exact hw.2.2⟩, hS.F ht⟩) hS.2.2 dX4_setBase_37
    ·
      exact absurd ⟨c1, c3⟩ hbad

set_option maxHeartbeats 4000000 in
set_option maxRecDepth 100000 in
theorem c_X4_addRule {l : Launch} {G : mG} {V : mV} {α : Nat → Nat} {f : sT} {nr nw ns : Nat} {th : Int32} (hM : mM G V α f nr nw ns th) (x1 x2 x3 x4 x5 : Int32) (q1 : inn x1 0 127) (q2 : inn x2 0 95) (q3 : inn x3 (x2 + 1) 96) (q4 : inn x4 1 15) (q5 : inn x5 100 400) (hnr : nr < 16) : Met l yX4_addRule wsX4_addRule ({ frames := 1, cells := 0, slots := 0, locals := 22 }) (va_Pc [.ref (α (10)), .int (x1), .int (x2), .int (x3), .int (x4), .int (x5)] (fun U => mW G V α U U.heap)) (va_Qi (fun (r9 : Int32) (u : mV × (Nat → Nat)) => nI nr = r9 ∧ mQ G V α u (u2 (u2 (u2 (u2 (u2 f 1 nr x1) 2 nr x2) 3 nr x3) 4 nr x4) 5 nr x5) (nr + 1) nw ns 0) (fun u t => mH G u.1 u.2 t.heap) (mfree G)) 0 0 (mfree G) := by
  refine Met.ofW (cc := cX4_addRule) (maxL := 7) (ret := (some .int)) (by decide) rfl ?_
  intro p e s m args below meth c s₁ B hml hv
  obtain ⟨rfl, hw⟩ := hv
  have hx := B.exec
  have hb := B.bytes
  have hr := B.returns
  have hts := atoms_spec (ws := wsX4_addRule) B.pre
  have hown : s.vm.findClass RX4 = some m.cls := findClass_of_methodNamed B.named
  have hlocks := B.notSynchronized
  have hS : va_S (mfree G) s.heap s.heap [] := va_S.rf
  have hO : ∀ j, ¬ (10 ≤ j ∧ j < 25) → V j = V j := fun _ _ => rfl
  obtain ⟨m10, m11, m12, m13, m14, m15, m16, m17, m18, m19, m20, m21, m22, m23, m24⟩ := id hM
  have fl_61 := hts (.fieldLink RX4 61 "RosterPayModel" "rules" "I") (by decide +kernel)
  have in_X4 : ∀ w ∈ u_ws RX4 TX4 18, w ∈ wsX4_addRule := by decide +kernel
  have fl_53 := hts (.fieldLink RX4 53 "RosterPayModel" "thrown" "I") (by decide +kernel)
  have fl_13 := hts (.fieldLink RX4 13 "RosterPayModel" "weekdays" "[I") (by decide +kernel)
  have fl_16 := hts (.fieldLink RX4 16 "RosterPayModel" "from" "[I") (by decide +kernel)
  have fl_19 := hts (.fieldLink RX4 19 "RosterPayModel" "to" "[I") (by decide +kernel)
  have fl_22 := hts (.fieldLink RX4 22 "RosterPayModel" "ranks" "[I") (by decide +kernel)
  have fl_25 := hts (.fieldLink RX4 25 "RosterPayModel" "percent" "[I") (by decide +kernel)
  have hl := lv_entry ([.ref (α (10)), .int (x1), .int (x2), .int (x3), .int (x4), .int (x5)]) (n := 7) (Nat.le_of_ble_eq_true rfl)
  rw [lg_entry_eq]
  generalize (lg_sl ([.ref (α (10)), .int (x1), .int (x2), .int (x3), .int (x4), .int (x5)]) ++ List.replicate (7 - (lg_sl ([.ref (α (10)), .int (x1), .int (x2), .int (x3), .int (x4), .int (x5)])).length) Slot.unset).toArray = ls at hl ⊢
  have hl : lv_has ls 7 [(0, .ref (α (10))), (1, .int (x1)), (2, .int (x2)), (3, .int (x3)), (4, .int (x4)), (5, .int (x5))] := hl
  refine lv_iload_n hx hb dX4_addRule_0 rfl (lv_at hl 1 rfl) ?_
  refine lv_iconst (v := (0)) hx hb dX4_addRule_1 (by decide) ?_
  refine lv_bipush (v := (127)) hx hb dX4_addRule_2 (by decide) ?_
  refine mcallSi hw ⟨hx, hb, hml, hown, hts⟩ (c_X4_isIn (x1) (0) (127)) (va_cwS 3 hts gX4_addRule_X4_isIn rfl rfl rfl (by decide +kernel) ⟨Nat.le_of_ble_eq_true rfl, Nat.le_of_ble_eq_true rfl⟩) rfl hl.1 rfl (Nat.le_of_ble_eq_true rfl) dX4_addRule_4 ⟨Nat.le_of_ble_eq_true rfl, Nat.le_of_ble_eq_true rfl⟩ ?_
  refine mif_eqB (tgt := 60) hx hb dX4_addRule_7 (by decide) (fun z => absurd (q1) z) (fun c1 => ?_)
  refine lv_iload_n hx hb dX4_addRule_10 rfl (lv_at hl 2 rfl) ?_
  refine lv_iconst (v := (0)) hx hb dX4_addRule_11 (by decide) ?_
  refine lv_bipush (v := (95)) hx hb dX4_addRule_12 (by decide) ?_
  refine mcallSi hw ⟨hx, hb, hml, hown, hts⟩ (c_X4_isIn (x2) (0) (95)) (va_cwS 3 hts gX4_addRule_X4_isIn rfl rfl rfl (by decide +kernel) ⟨Nat.le_of_ble_eq_true rfl, Nat.le_of_ble_eq_true rfl⟩) rfl hl.1 rfl (Nat.le_of_ble_eq_true rfl) dX4_addRule_14 ⟨Nat.le_of_ble_eq_true rfl, Nat.le_of_ble_eq_true rfl⟩ ?_
  refine mif_eqB (tgt := 60) hx hb dX4_addRule_17 (by decide) (fun z => absurd (q2) z) (fun c2 => ?_)
  refine lv_iload_n hx hb dX4_addRule_20 rfl (lv_at hl 3 rfl) ?_
  refine lv_iload_n hx hb dX4_addRule_21 rfl (lv_at hl 2 rfl) ?_
  refine lv_iconst (v := (1)) hx hb dX4_addRule_22 (by decide) ?_
  refine lv_iadd hx hb dX4_addRule_23 ?_
  refine lv_bipush (v := (96)) hx hb dX4_addRule_24 (by decide) ?_
  refine mcallSi hw ⟨hx, hb, hml, hown, hts⟩ (c_X4_isIn (x3) ((x2 + 1)) (96)) (va_cwS 3 hts gX4_addRule_X4_isIn rfl rfl rfl (by decide +kernel) ⟨Nat.le_of_ble_eq_true rfl, Nat.le_of_ble_eq_true rfl⟩) rfl hl.1 rfl (Nat.le_of_ble_eq_true rfl) dX4_addRule_26 ⟨Nat.le_of_ble_eq_true rfl, Nat.le_of_ble_eq_true rfl⟩ ?_
  refine mif_eqB (tgt := 60) hx hb dX4_addRule_29 (by decide) (fun z => absurd (q3) z) (fun c3 => ?_)
  refine lv_iload hx hb dX4_addRule_32 (lv_at hl 4 rfl) ?_
  refine lv_iconst (v := (1)) hx hb dX4_addRule_34 (by decide) ?_
  refine lv_bipush (v := (15)) hx hb dX4_addRule_35 (by decide) ?_
  refine mcallSi hw ⟨hx, hb, hml, hown, hts⟩ (c_X4_isIn (x4) (1) (15)) (va_cwS 3 hts gX4_addRule_X4_isIn rfl rfl rfl (by decide +kernel) ⟨Nat.le_of_ble_eq_true rfl, Nat.le_of_ble_eq_true rfl⟩) rfl hl.1 rfl (Nat.le_of_ble_eq_true rfl) dX4_addRule_37 ⟨Nat.le_of_ble_eq_true rfl, Nat.le_of_ble_eq_true rfl⟩ ?_
  refine mif_eqB (tgt := 60) hx hb dX4_addRule_40 (by decide) (fun z => absurd (q4) z) (fun c4 => ?_)
  refine lv_iload hx hb dX4_addRule_43 (lv_at hl 5 rfl) ?_
  refine lv_bipush (v := (100)) hx hb dX4_addRule_45 (by decide) ?_
  refine lv_sipush (v := (400)) hx hb dX4_addRule_47 (by decide) ?_
  refine mcallSi hw ⟨hx, hb, hml, hown, hts⟩ (c_X4_isIn (x5) (100) (400)) (va_cwS 3 hts gX4_addRule_X4_isIn rfl rfl rfl (by decide +kernel) ⟨Nat.le_of_ble_eq_true rfl, Nat.le_of_ble_eq_true rfl⟩) rfl hl.1 rfl (Nat.le_of_ble_eq_true rfl) dX4_addRule_50 ⟨Nat.le_of_ble_eq_true rfl, Nat.le_of_ble_eq_true rfl⟩ ?_
  refine mif_eqB (tgt := 60) hx hb dX4_addRule_53 (by decide) (fun z => absurd (q5) z) (fun c5 => ?_)
  refine lv_iconst (v := (1)) hx hb dX4_addRule_56 (by decide) ?_
  refine lv_goto (tgt := 61) hx hb dX4_addRule_57 (by decide) ?_
  refine lv_istore (lv' := [(6, .int (1)), (0, .ref (α (10))), (1, .int (x1)), (2, .int (x2)), (3, .int (x3)), (4, .int (x4)), (5, .int (x5))]) hx hb dX4_addRule_61 hl (by decide) rfl (fun ls hl => ?_)
  refine lv_aload_n hx hb dX4_addRule_63 rfl (lv_at hl 1 rfl) ?_
  refine lv_iload hx hb dX4_addRule_64 (lv_at hl 0 rfl) ?_
  refine lv_if_ne (tgt := 73) hx hb dX4_addRule_66 (by decide) (fun c6 => ?_) (fun z => absurd z ((by decide)))
  refine lv_aload_n hx hb dX4_addRule_73 rfl (lv_at hl 1 rfl) ?_
  refine mget (C := RX4) (T := TX4) (N := 18) (ci := 5) hx hb hts in_X4 hown hw (m10) rfl 1 (by decide) fl_61 rfl dX4_addRule_74 ?_
  refine lv_bipush (v := (16)) hx hb dX4_addRule_77 (by decide) ?_
  refine lv_icmp_ne (tgt := 86) hx hb dX4_addRule_79 (by decide) (fun c7 => ?_) (fun z => absurd z (nI_ne 16 (by omega) (by decide) (by omega)))
  refine lv_iconst (v := (0)) hx hb dX4_addRule_86 (by decide) ?_
  refine mput (C := RX4) (T := TX4) (N := 18) (ci := 5) hx hb hts in_X4 tyX4 tyX4_ok nmX4 hown hw hS (m10) rfl 17 (by decide) fl_53 rfl rfl rfl (Nat.le_of_ble_eq_true rfl) dX4_addRule_87 (fun H locs hw hS => ?_)
  obtain ⟨V1, hV1⟩ : ∃ z, z = vup V 10 (mobj α (nr) (nw) (ns) (0)) := ⟨_, rfl⟩
  have hw : mW G V1 α s H := by rw [hV1]; exact hw
  have hM : mM G V1 α f (nr) (nw) (ns) (0) := by rw [hV1]; exact hM.obj _ _ _ _
  have hO : ∀ j, ¬ (10 ≤ j ∧ j < 25) → V1 j = V j := fun j hj => (show V1 j = V j by rw [hV1]; exact vup_n _ _ (by omega)).trans (hO j hj)
  obtain ⟨m10, m11, m12, m13, m14, m15, m16, m17, m18, m19, m20, m21, m22, m23, m24⟩ := id hM
  refine lv_aload_n hx hb dX4_addRule_90 rfl (lv_at hl 1 rfl) ?_
  refine mget (C := RX4) (T := TX4) (N := 18) (ci := 5) hx hb hts in_X4 hown hw (m10) rfl 17 (by decide) fl_53 rfl dX4_addRule_91 ?_
  refine lv_if_le (tgt := 99) hx hb dX4_addRule_94 (by decide) (fun c8 => ?_) (fun z => absurd ((by decide)) z)
  refine lv_aload_n hx hb dX4_addRule_99 rfl (lv_at hl 1 rfl) ?_
  refine mget (C := RX4) (T := TX4) (N := 18) (ci := 5) hx hb hts in_X4 hown hw (m10) rfl 2 (by decide) fl_13 rfl dX4_addRule_100 ?_
  refine lv_aload_n hx hb dX4_addRule_103 rfl (lv_at hl 1 rfl) ?_
  refine mget (C := RX4) (T := TX4) (N := 18) (ci := 5) hx hb hts in_X4 hown hw (m10) rfl 1 (by decide) fl_61 rfl dX4_addRule_104 ?_
  refine lv_iload_n hx hb dX4_addRule_107 rfl (lv_at hl 2 rfl) ?_
  refine miast' (k := nr) hx hb hw hS (m12) (rfl) (by omega) (by decide) dX4_addRule_108 (fun H locs hw hS => ?_)
  obtain ⟨V2, hV2⟩ : ∃ z, z = vup V1 12 (.inl (G.2.2.1.1, 16, .inl (upd (f 1) (nr) (x1)))) := ⟨_, rfl⟩
  have hw : mW G V2 α s H := by rw [hV2]; exact hw
  have hM : mM G V2 α (u2 f 1 (nr) (x1)) (nr) (nw) (ns) (0) := by rw [hV2]; exact hM.a1 _ _
  have hO : ∀ j, ¬ (10 ≤ j ∧ j < 25) → V2 j = V j := fun j hj => (show V2 j = V1 j by rw [hV2]; exact vup_n _ _ (by omega)).trans (hO j hj)
  obtain ⟨m10, m11, m12, m13, m14, m15, m16, m17, m18, m19, m20, m21, m22, m23, m24⟩ := id hM
  refine lv_aload_n hx hb dX4_addRule_109 rfl (lv_at hl 1 rfl) ?_
  refine mget (C := RX4) (T := TX4) (N := 18) (ci := 5) hx hb hts in_X4 hown hw (m10) rfl 3 (by decide) fl_16 rfl dX4_addRule_110 ?_
  refine lv_aload_n hx hb dX4_addRule_113 rfl (lv_at hl 1 rfl) ?_
  refine mget (C := RX4) (T := TX4) (N := 18) (ci := 5) hx hb hts in_X4 hown hw (m10) rfl 1 (by decide) fl_61 rfl dX4_addRule_114 ?_
  refine lv_iload_n hx hb dX4_addRule_117 rfl (lv_at hl 3 rfl) ?_
  refine miast' (k := nr) hx hb hw hS (m13) (rfl) (by omega) (by decide) dX4_addRule_118 (fun H locs hw hS => ?_)
  obtain ⟨V3, hV3⟩ : ∃ z, z = vup V2 13 (.inl (G.2.2.1.1, 16, .inl (upd ((u2 f 1 (nr) (x1)) 2) (nr) (x2)))) := ⟨_, rfl⟩
  have hw : mW G V3 α s H := by rw [hV3]; exact hw
  have hM : mM G V3 α (u2 (u2 f 1 (nr) (x1)) 2 (nr) (x2)) (nr) (nw) (ns) (0) := by rw [hV3]; exact hM.a2 _ _
  have hO : ∀ j, ¬ (10 ≤ j ∧ j < 25) → V3 j = V j := fun j hj => (show V3 j = V2 j by rw [hV3]; exact vup_n _ _ (by omega)).trans (hO j hj)
  obtain ⟨m10, m11, m12, m13, m14, m15, m16, m17, m18, m19, m20, m21, m22, m23, m24⟩ := id hM
  refine lv_aload_n hx hb dX4_addRule_119 rfl (lv_at hl 1 rfl) ?_
  refine mget (C := RX4) (T := TX4) (N := 18) (ci := 5) hx hb hts in_X4 hown hw (m10) rfl 4 (by decide) fl_19 rfl dX4_addRule_120 ?_
  refine lv_aload_n hx hb dX4_addRule_123 rfl (lv_at hl 1 rfl) ?_
  refine mget (C := RX4) (T := TX4) (N := 18) (ci := 5) hx hb hts in_X4 hown hw (m10) rfl 1 (by decide) fl_61 rfl dX4_addRule_124 ?_
  refine lv_iload_n hx hb dX4_addRule_127 rfl (lv_at hl 4 rfl) ?_
  refine miast' (k := nr) hx hb hw hS (m14) (rfl) (by omega) (by decide) dX4_addRule_128 (fun H locs hw hS => ?_)
  obtain ⟨V4, hV4⟩ : ∃ z, z = vup V3 14 (.inl (G.2.2.1.1, 16, .inl (upd ((u2 (u2 f 1 (nr) (x1)) 2 (nr) (x2)) 3) (nr) (x3)))) := ⟨_, rfl⟩
  have hw : mW G V4 α s H := by rw [hV4]; exact hw
  have hM : mM G V4 α (u2 (u2 (u2 f 1 (nr) (x1)) 2 (nr) (x2)) 3 (nr) (x3)) (nr) (nw) (ns) (0) := by rw [hV4]; exact hM.a3 _ _
  have hO : ∀ j, ¬ (10 ≤ j ∧ j < 25) → V4 j = V j := fun j hj => (show V4 j = V3 j by rw [hV4]; exact vup_n _ _ (by omega)).trans (hO j hj)
  obtain ⟨m10, m11, m12, m13, m14, m15, m16, m17, m18, m19, m20, m21, m22, m23, m24⟩ := id hM
  refine lv_aload_n hx hb dX4_addRule_129 rfl (lv_at hl 1 rfl) ?_
  refine mget (C := RX4) (T := TX4) (N := 18) (ci := 5) hx hb hts in_X4 hown hw (m10) rfl 5 (by decide) fl_22 rfl dX4_addRule_130 ?_
  refine lv_aload_n hx hb dX4_addRule_133 rfl (lv_at hl 1 rfl) ?_
  refine mget (C := RX4) (T := TX4) (N := 18) (ci := 5) hx hb hts in_X4 hown hw (m10) rfl 1 (by decide) fl_61 rfl dX4_addRule_134 ?_
  refine lv_iload hx hb dX4_addRule_137 (lv_at hl 5 rfl) ?_
  refine miast' (k := nr) hx hb hw hS (m15) (rfl) (by omega) (by decide) dX4_addRule_139 (fun H locs hw hS => ?_)
  obtain ⟨V5, hV5⟩ : ∃ z, z = vup V4 15 (.inl (G.2.2.1.1, 16, .inl (upd ((u2 (u2 (u2 f 1 (nr) (x1)) 2 (nr) (x2)) 3 (nr) (x3)) 4) (nr) (x4)))) := ⟨_, rfl⟩
  have hw : mW G V5 α s H := by rw [hV5]; exact hw
  have hM : mM G V5 α (u2 (u2 (u2 (u2 f 1 (nr) (x1)) 2 (nr) (x2)) 3 (nr) (x3)) 4 (nr) (x4)) (nr) (nw) (ns) (0) := by rw [hV5]; exact hM.a4 _ _
  have hO : ∀ j, ¬ (10 ≤ j ∧ j < 25) → V5 j = V j := fun j hj => (show V5 j = V4 j by rw [hV5]; exact vup_n _ _ (by omega)).trans (hO j hj)
  obtain ⟨m10, m11, m12, m13, m14, m15, m16, m17, m18, m19, m20, m21, m22, m23, m24⟩ := id hM
  refine lv_aload_n hx hb dX4_addRule_140 rfl (lv_at hl 1 rfl) ?_
  refine mget (C := RX4) (T := TX4) (N := 18) (ci := 5) hx hb hts in_X4 hown hw (m10) rfl 6 (by decide) fl_25 rfl dX4_addRule_141 ?_
  refine lv_aload_n hx hb dX4_addRule_144 rfl (lv_at hl 1 rfl) ?_
  refine mget (C := RX4) (T := TX4) (N := 18) (ci := 5) hx hb hts in_X4 hown hw (m10) rfl 1 (by decide) fl_61 rfl dX4_addRule_145 ?_
  refine lv_iload hx hb dX4_addRule_148 (lv_at hl 6 rfl) ?_
  refine miast' (k := nr) hx hb hw hS (m16) (rfl) (by omega) (by decide) dX4_addRule_150 (fun H locs hw hS => ?_)
  obtain ⟨V6, hV6⟩ : ∃ z, z = vup V5 16 (.inl (G.2.2.1.1, 16, .inl (upd ((u2 (u2 (u2 (u2 f 1 (nr) (x1)) 2 (nr) (x2)) 3 (nr) (x3)) 4 (nr) (x4)) 5) (nr) (x5)))) := ⟨_, rfl⟩
  have hw : mW G V6 α s H := by rw [hV6]; exact hw
  have hM : mM G V6 α (u2 (u2 (u2 (u2 (u2 f 1 (nr) (x1)) 2 (nr) (x2)) 3 (nr) (x3)) 4 (nr) (x4)) 5 (nr) (x5)) (nr) (nw) (ns) (0) := by rw [hV6]; exact hM.a5 _ _
  have hO : ∀ j, ¬ (10 ≤ j ∧ j < 25) → V6 j = V j := fun j hj => (show V6 j = V5 j by rw [hV6]; exact vup_n _ _ (by omega)).trans (hO j hj)
  obtain ⟨m10, m11, m12, m13, m14, m15, m16, m17, m18, m19, m20, m21, m22, m23, m24⟩ := id hM
  refine lv_aload_n hx hb dX4_addRule_151 rfl (lv_at hl 1 rfl) ?_
  refine lv_dup hx hb dX4_addRule_152 rfl ?_
  refine mget (C := RX4) (T := TX4) (N := 18) (ci := 5) hx hb hts in_X4 hown hw (m10) rfl 1 (by decide) fl_61 rfl dX4_addRule_153 ?_
  refine lv_iconst (v := (1)) hx hb dX4_addRule_156 (by decide) ?_
  refine lv_iadd hx hb dX4_addRule_157 ?_
  refine lv_topi (fun y9 ey9 => ?_)
  obtain rfl : y9 = (nI (nr + 1)) := ey9.trans (nI_1 nr)
  refine mput (C := RX4) (T := TX4) (N := 18) (ci := 5) hx hb hts in_X4 tyX4 tyX4_ok nmX4 hown hw hS (m10) rfl 1 (by decide) fl_61 rfl rfl rfl (Nat.le_of_ble_eq_true rfl) dX4_addRule_158 (fun H locs hw hS => ?_)
  obtain ⟨V7, hV7⟩ : ∃ z, z = vup V6 10 (mobj α (nr + 1) (nw) (ns) (0)) := ⟨_, rfl⟩
  have hw : mW G V7 α s H := by rw [hV7]; exact hw
  have hM : mM G V7 α (u2 (u2 (u2 (u2 (u2 f 1 (nr) (x1)) 2 (nr) (x2)) 3 (nr) (x3)) 4 (nr) (x4)) 5 (nr) (x5)) (nr + 1) (nw) (ns) (0) := by rw [hV7]; exact hM.obj _ _ _ _
  have hO : ∀ j, ¬ (10 ≤ j ∧ j < 25) → V7 j = V j := fun j hj => (show V7 j = V6 j by rw [hV7]; exact vup_n _ _ (by omega)).trans (hO j hj)
  obtain ⟨m10, m11, m12, m13, m14, m15, m16, m17, m18, m19, m20, m21, m22, m23, m24⟩ := id hM
  refine lv_aload_n hx hb dX4_addRule_161 rfl (lv_at hl 1 rfl) ?_
  refine mget (C := RX4) (T := TX4) (N := 18) (ci := 5) hx hb hts in_X4 hown hw (m10) rfl 1 (by decide) fl_61 rfl dX4_addRule_162 ?_
  refine lv_iconst (v := (1)) hx hb dX4_addRule_165 (by decide) ?_
  refine lv_isub hx hb dX4_addRule_166 ?_
  exact W.iret (v := (nI (nr + 1) - 1)) hx hb hr (fun t ht hW => ⟨⟨_, (V7, α), rfl, ⟨(nI_pred nr).symm, hM, hO, rfl⟩, by show mH G V7 α t.heap; rw [ht]; exact hw.2.2⟩, hS.F ht⟩) hS.2.2 dX4_addRule_167

set_option maxHeartbeats 4000000 in
set_option maxRecDepth 100000 in
theorem c_X4_addRule_1 {l : Launch} {G : mG} {V : mV} {α : Nat → Nat} {f : sT} {nr nw ns : Nat} {th : Int32} (hM : mM G V α f nr nw ns th) (x1 x2 x3 x4 x5 : Int32) (hbad : ¬ (inn x1 0 127 ∧ inn x2 0 95 ∧ inn x3 (x2 + 1) 96 ∧ inn x4 1 15 ∧ inn x5 100 400)) : Met l yX4_addRule wsX4_addRule ({ frames := 1, cells := 0, slots := 0, locals := 22 }) (va_Pc [.ref (α (10)), .int (x1), .int (x2), .int (x3), .int (x4), .int (x5)] (fun U => mW G V α U U.heap)) (va_Qi (fun (r9 : Int32) (u : mV × (Nat → Nat)) => 0 = r9 ∧ mQ G V α u f nr nw ns 1) (fun u t => mH G u.1 u.2 t.heap) (mfree G)) 0 0 (mfree G) := by
  refine Met.ofW (cc := cX4_addRule) (maxL := 7) (ret := (some .int)) (by decide) rfl ?_
  intro p e s m args below meth c s₁ B hml hv
  obtain ⟨rfl, hw⟩ := hv
  have hx := B.exec
  have hb := B.bytes
  have hr := B.returns
  have hts := atoms_spec (ws := wsX4_addRule) B.pre
  have hown : s.vm.findClass RX4 = some m.cls := findClass_of_methodNamed B.named
  have hlocks := B.notSynchronized
  have hS : va_S (mfree G) s.heap s.heap [] := va_S.rf
  have hO : ∀ j, ¬ (10 ≤ j ∧ j < 25) → V j = V j := fun _ _ => rfl
  obtain ⟨m10, m11, m12, m13, m14, m15, m16, m17, m18, m19, m20, m21, m22, m23, m24⟩ := id hM
  have fl_53 := hts (.fieldLink RX4 53 "RosterPayModel" "thrown" "I") (by decide +kernel)
  have in_X4 : ∀ w ∈ u_ws RX4 TX4 18, w ∈ wsX4_addRule := by decide +kernel
  have hl := lv_entry ([.ref (α (10)), .int (x1), .int (x2), .int (x3), .int (x4), .int (x5)]) (n := 7) (Nat.le_of_ble_eq_true rfl)
  rw [lg_entry_eq]
  generalize (lg_sl ([.ref (α (10)), .int (x1), .int (x2), .int (x3), .int (x4), .int (x5)]) ++ List.replicate (7 - (lg_sl ([.ref (α (10)), .int (x1), .int (x2), .int (x3), .int (x4), .int (x5)])).length) Slot.unset).toArray = ls at hl ⊢
  have hl : lv_has ls 7 [(0, .ref (α (10))), (1, .int (x1)), (2, .int (x2)), (3, .int (x3)), (4, .int (x4)), (5, .int (x5))] := hl
  refine lv_iload_n hx hb dX4_addRule_0 rfl (lv_at hl 1 rfl) ?_
  refine lv_iconst (v := (0)) hx hb dX4_addRule_1 (by decide) ?_
  refine lv_bipush (v := (127)) hx hb dX4_addRule_2 (by decide) ?_
  refine mcallSi hw ⟨hx, hb, hml, hown, hts⟩ (c_X4_isIn (x1) (0) (127)) (va_cwS 3 hts gX4_addRule_X4_isIn rfl rfl rfl (by decide +kernel) ⟨Nat.le_of_ble_eq_true rfl, Nat.le_of_ble_eq_true rfl⟩) rfl hl.1 rfl (Nat.le_of_ble_eq_true rfl) dX4_addRule_4 ⟨Nat.le_of_ble_eq_true rfl, Nat.le_of_ble_eq_true rfl⟩ ?_
  refine mif_eqB (tgt := 60) hx hb dX4_addRule_7 (by decide) (fun c1 => ?_) (fun c1 => ?_)
  ·
    refine lv_iconst (v := (0)) hx hb dX4_addRule_60 (by decide) ?_
    refine lv_istore (lv' := [(6, .int (0)), (0, .ref (α (10))), (1, .int (x1)), (2, .int (x2)), (3, .int (x3)), (4, .int (x4)), (5, .int (x5))]) hx hb dX4_addRule_61 hl (by decide) rfl (fun ls hl => ?_)
    refine lv_aload_n hx hb dX4_addRule_63 rfl (lv_at hl 1 rfl) ?_
    refine lv_iload hx hb dX4_addRule_64 (lv_at hl 0 rfl) ?_
    refine lv_if_ne (tgt := 73) hx hb dX4_addRule_66 (by decide) (fun z => absurd ((by decide)) z) (fun c2 => ?_)
    refine lv_iconst (v := (1)) hx hb dX4_addRule_69 (by decide) ?_
    refine lv_goto (tgt := 87) hx hb dX4_addRule_70 (by decide) ?_
    refine mput (C := RX4) (T := TX4) (N := 18) (ci := 5) hx hb hts in_X4 tyX4 tyX4_ok nmX4 hown hw hS (m10) rfl 17 (by decide) fl_53 rfl rfl rfl (Nat.le_of_ble_eq_true rfl) dX4_addRule_87 (fun H locs hw hS => ?_)
    obtain ⟨V1, hV1⟩ : ∃ z, z = vup V 10 (mobj α (nr) (nw) (ns) (1)) := ⟨_, rfl⟩
    have hw : mW G V1 α s H := by rw [hV1]; exact hw
    have hM : mM G V1 α f (nr) (nw) (ns) (1) := by rw [hV1]; exact hM.obj _ _ _ _
    have hO : ∀ j, ¬ (10 ≤ j ∧ j < 25) → V1 j = V j := fun j hj => (show V1 j = V j by rw [hV1]; exact vup_n _ _ (by omega)).trans (hO j hj)
    obtain ⟨m10, m11, m12, m13, m14, m15, m16, m17, m18, m19, m20, m21, m22, m23, m24⟩ := id hM
    refine lv_aload_n hx hb dX4_addRule_90 rfl (lv_at hl 1 rfl) ?_
    refine mget (C := RX4) (T := TX4) (N := 18) (ci := 5) hx hb hts in_X4 hown hw (m10) rfl 17 (by decide) fl_53 rfl dX4_addRule_91 ?_
    refine lv_if_le (tgt := 99) hx hb dX4_addRule_94 (by decide) (fun z => absurd z ((by decide))) (fun c3 => ?_)
    refine lv_iconst (v := (0)) hx hb dX4_addRule_97 (by decide) ?_
    exact W.iret (v := 0) hx hb hr (fun t ht hW => ⟨⟨_, (V1, α), rfl, ⟨rfl, hM, hO, rfl⟩, by show mH G V1 α t.heap; rw [ht]; exact hw.2.2⟩, hS.F ht⟩) hS.2.2 dX4_addRule_98
  ·
    refine lv_iload_n hx hb dX4_addRule_10 rfl (lv_at hl 2 rfl) ?_
    refine lv_iconst (v := (0)) hx hb dX4_addRule_11 (by decide) ?_
    refine lv_bipush (v := (95)) hx hb dX4_addRule_12 (by decide) ?_
    refine mcallSi hw ⟨hx, hb, hml, hown, hts⟩ (c_X4_isIn (x2) (0) (95)) (va_cwS 3 hts gX4_addRule_X4_isIn rfl rfl rfl (by decide +kernel) ⟨Nat.le_of_ble_eq_true rfl, Nat.le_of_ble_eq_true rfl⟩) rfl hl.1 rfl (Nat.le_of_ble_eq_true rfl) dX4_addRule_14 ⟨Nat.le_of_ble_eq_true rfl, Nat.le_of_ble_eq_true rfl⟩ ?_
    refine mif_eqB (tgt := 60) hx hb dX4_addRule_17 (by decide) (fun c4 => ?_) (fun c4 => ?_)
    ·
      refine lv_iconst (v := (0)) hx hb dX4_addRule_60 (by decide) ?_
      refine lv_istore (lv' := [(6, .int (0)), (0, .ref (α (10))), (1, .int (x1)), (2, .int (x2)), (3, .int (x3)), (4, .int (x4)), (5, .int (x5))]) hx hb dX4_addRule_61 hl (by decide) rfl (fun ls hl => ?_)
      refine lv_aload_n hx hb dX4_addRule_63 rfl (lv_at hl 1 rfl) ?_
      refine lv_iload hx hb dX4_addRule_64 (lv_at hl 0 rfl) ?_
      refine lv_if_ne (tgt := 73) hx hb dX4_addRule_66 (by decide) (fun z => absurd ((by decide)) z) (fun c5 => ?_)
      refine lv_iconst (v := (1)) hx hb dX4_addRule_69 (by decide) ?_
      refine lv_goto (tgt := 87) hx hb dX4_addRule_70 (by decide) ?_
      refine mput (C := RX4) (T := TX4) (N := 18) (ci := 5) hx hb hts in_X4 tyX4 tyX4_ok nmX4 hown hw hS (m10) rfl 17 (by decide) fl_53 rfl rfl rfl (Nat.le_of_ble_eq_true rfl) dX4_addRule_87 (fun H locs hw hS => ?_)
      obtain ⟨V2, hV2⟩ : ∃ z, z = vup V 10 (mobj α (nr) (nw) (ns) (1)) := ⟨_, rfl⟩
      have hw : mW G V2 α s H := by rw [hV2]; exact hw
      have hM : mM G V2 α f (nr) (nw) (ns) (1) := by rw [hV2]; exact hM.obj _ _ _ _
      have hO : ∀ j, ¬ (10 ≤ j ∧ j < 25) → V2 j = V j := fun j hj => (show V2 j = V j by rw [hV2]; exact vup_n _ _ (by omega)).trans (hO j hj)
      obtain ⟨m10, m11, m12, m13, m14, m15, m16, m17, m18, m19, m20, m21, m22, m23, m24⟩ := id hM
      refine lv_aload_n hx hb dX4_addRule_90 rfl (lv_at hl 1 rfl) ?_
      refine mget (C := RX4) (T := TX4) (N := 18) (ci := 5) hx hb hts in_X4 hown hw (m10) rfl 17 (by decide) fl_53 rfl dX4_addRule_91 ?_
      refine lv_if_le (tgt := 99) hx hb dX4_addRule_94 (by decide) (fun z => absurd z ((by decide))) (fun c6 => ?_)
      refine lv_iconst (v := (0)) hx hb dX4_addRule_97 (by decide) ?_
      exact W.iret (v := 0) hx hb hr (fun t ht hW => ⟨⟨_, (V2, α), rfl, ⟨rfl, hM, hO, rfl⟩, by show mH G V2 α t.heap; rw [ht]; exact hw.2.2⟩, hS.F ht⟩) hS.2.2 dX4_addRule_98
    ·
      refine lv_iload_n hx hb dX4_addRule_20 rfl (lv_at hl 3 rfl) ?_
      refine lv_iload_n hx hb dX4_addRule_21 rfl (lv_at hl 2 rfl) ?_
      refine lv_iconst (v := (1)) hx hb dX4_addRule_22 (by decide) ?_
      refine lv_iadd hx hb dX4_addRule_23 ?_
      refine lv_bipush (v := (96)) hx hb dX4_addRule_24 (by decide) ?_
      refine mcallSi hw ⟨hx, hb, hml, hown, hts⟩ (c_X4_isIn (x3) ((x2 + 1)) (96)) (va_cwS 3 hts gX4_addRule_X4_isIn rfl rfl rfl (by decide +kernel) ⟨Nat.le_of_ble_eq_true rfl, Nat.le_of_ble_eq_true rfl⟩) rfl hl.1 rfl (Nat.le_of_ble_eq_true rfl) dX4_addRule_26 ⟨Nat.le_of_ble_eq_true rfl, Nat.le_of_ble_eq_true rfl⟩ ?_
      refine mif_eqB (tgt := 60) hx hb dX4_addRule_29 (by decide) (fun c7 => ?_) (fun c7 => ?_)
      ·
        refine lv_iconst (v := (0)) hx hb dX4_addRule_60 (by decide) ?_
        refine lv_istore (lv' := [(6, .int (0)), (0, .ref (α (10))), (1, .int (x1)), (2, .int (x2)), (3, .int (x3)), (4, .int (x4)), (5, .int (x5))]) hx hb dX4_addRule_61 hl (by decide) rfl (fun ls hl => ?_)
        refine lv_aload_n hx hb dX4_addRule_63 rfl (lv_at hl 1 rfl) ?_
        refine lv_iload hx hb dX4_addRule_64 (lv_at hl 0 rfl) ?_
        refine lv_if_ne (tgt := 73) hx hb dX4_addRule_66 (by decide) (fun z => absurd ((by decide)) z) (fun c8 => ?_)
        refine lv_iconst (v := (1)) hx hb dX4_addRule_69 (by decide) ?_
        refine lv_goto (tgt := 87) hx hb dX4_addRule_70 (by decide) ?_
        refine mput (C := RX4) (T := TX4) (N := 18) (ci := 5) hx hb hts in_X4 tyX4 tyX4_ok nmX4 hown hw hS (m10) rfl 17 (by decide) fl_53 rfl rfl rfl (Nat.le_of_ble_eq_true rfl) dX4_addRule_87 (fun H locs hw hS => ?_)
        obtain ⟨V3, hV3⟩ : ∃ z, z = vup V 10 (mobj α (nr) (nw) (ns) (1)) := ⟨_, rfl⟩
        have hw : mW G V3 α s H := by rw [hV3]; exact hw
        have hM : mM G V3 α f (nr) (nw) (ns) (1) := by rw [hV3]; exact hM.obj _ _ _ _
        have hO : ∀ j, ¬ (10 ≤ j ∧ j < 25) → V3 j = V j := fun j hj => (show V3 j = V j by rw [hV3]; exact vup_n _ _ (by omega)).trans (hO j hj)
        obtain ⟨m10, m11, m12, m13, m14, m15, m16, m17, m18, m19, m20, m21, m22, m23, m24⟩ := id hM
        refine lv_aload_n hx hb dX4_addRule_90 rfl (lv_at hl 1 rfl) ?_
        refine mget (C := RX4) (T := TX4) (N := 18) (ci := 5) hx hb hts in_X4 hown hw (m10) rfl 17 (by decide) fl_53 rfl dX4_addRule_91 ?_
        refine lv_if_le (tgt := 99) hx hb dX4_addRule_94 (by decide) (fun z => absurd z ((by decide))) (fun c9 => ?_)
        refine lv_iconst (v := (0)) hx hb dX4_addRule_97 (by decide) ?_
        exact W.iret (v := 0) hx hb hr (fun t ht hW => ⟨⟨_, (V3, α), rfl, ⟨rfl, hM, hO, rfl⟩, by show mH G V3 α t.heap; rw [ht]; exact hw.2.2⟩, hS.F ht⟩) hS.2.2 dX4_addRule_98
      ·
        refine lv_iload hx hb dX4_addRule_32 (lv_at hl 4 rfl) ?_
        refine lv_iconst (v := (1)) hx hb dX4_addRule_34 (by decide) ?_
        refine lv_bipush (v := (15)) hx hb dX4_addRule_35 (by decide) ?_
        refine mcallSi hw ⟨hx, hb, hml, hown, hts⟩ (c_X4_isIn (x4) (1) (15)) (va_cwS 3 hts gX4_addRule_X4_isIn rfl rfl rfl (by decide +kernel) ⟨Nat.le_of_ble_eq_true rfl, Nat.le_of_ble_eq_true rfl⟩) rfl hl.1 rfl (Nat.le_of_ble_eq_true rfl) dX4_addRule_37 ⟨Nat.le_of_ble_eq_true rfl, Nat.le_of_ble_eq_true rfl⟩ ?_
        refine mif_eqB (tgt := 60) hx hb dX4_addRule_40 (by decide) (fun c10 => ?_) (fun c10 => ?_)
        ·
          refine lv_iconst (v := (0)) hx hb dX4_addRule_60 (by decide) ?_
          refine lv_istore (lv' := [(6, .int (0)), (0, .ref (α (10))), (1, .int (x1)), (2, .int (x2)), (3, .int (x3)), (4, .int (x4)), (5, .int (x5))]) hx hb dX4_addRule_61 hl (by decide) rfl (fun ls hl => ?_)
          refine lv_aload_n hx hb dX4_addRule_63 rfl (lv_at hl 1 rfl) ?_
          refine lv_iload hx hb dX4_addRule_64 (lv_at hl 0 rfl) ?_
          refine lv_if_ne (tgt := 73) hx hb dX4_addRule_66 (by decide) (fun z => absurd ((by decide)) z) (fun c11 => ?_)
          refine lv_iconst (v := (1)) hx hb dX4_addRule_69 (by decide) ?_
          refine lv_goto (tgt := 87) hx hb dX4_addRule_70 (by decide) ?_
          refine mput (C := RX4) (T := TX4) (N := 18) (ci := 5) hx hb hts in_X4 tyX4 tyX4_ok nmX4 hown hw hS (m10) rfl 17 (by decide) fl_53 rfl rfl rfl (Nat.le_of_ble_eq_true rfl) dX4_addRule_87 (fun H locs hw hS => ?_)
          obtain ⟨V4, hV4⟩ : ∃ z, z = vup V 10 (mobj α (nr) (nw) (ns) (1)) := ⟨_, rfl⟩
          have hw : mW G V4 α s H := by rw [hV4]; exact hw
          have hM : mM G V4 α f (nr) (nw) (ns) (1) := by rw [hV4]; exact hM.obj _ _ _ _
          have hO : ∀ j, ¬ (10 ≤ j ∧ j < 25) → V4 j = V j := fun j hj => (show V4 j = V j by rw [hV4]; exact vup_n _ _ (by omega)).trans (hO j hj)
          obtain ⟨m10, m11, m12, m13, m14, m15, m16, m17, m18, m19, m20, m21, m22, m23, m24⟩ := id hM
          refine lv_aload_n hx hb dX4_addRule_90 rfl (lv_at hl 1 rfl) ?_
          refine mget (C := RX4) (T := TX4) (N := 18) (ci := 5) hx hb hts in_X4 hown hw (m10) rfl 17 (by decide) fl_53 rfl dX4_addRule_91 ?_
          refine lv_if_le (tgt := 99) hx hb dX4_addRule_94 (by decide) (fun z => absurd z ((by decide))) (fun c12 => ?_)
          refine lv_iconst (v := (0)) hx hb dX4_addRule_97 (by decide) ?_
          exact W.iret (v := 0) hx hb hr (fun t ht hW => ⟨⟨_, (V4, α), rfl, ⟨rfl, hM, hO, rfl⟩, by show mH G V4 α t.heap; rw [ht]; exact hw.2.2⟩, hS.F ht⟩) hS.2.2 dX4_addRule_98
        ·
          refine lv_iload hx hb dX4_addRule_43 (lv_at hl 5 rfl) ?_
          refine lv_bipush (v := (100)) hx hb dX4_addRule_45 (by decide) ?_
          refine lv_sipush (v := (400)) hx hb dX4_addRule_47 (by decide) ?_
          refine mcallSi hw ⟨hx, hb, hml, hown, hts⟩ (c_X4_isIn (x5) (100) (400)) (va_cwS 3 hts gX4_addRule_X4_isIn rfl rfl rfl (by decide +kernel) ⟨Nat.le_of_ble_eq_true rfl, Nat.le_of_ble_eq_true rfl⟩) rfl hl.1 rfl (Nat.le_of_ble_eq_true rfl) dX4_addRule_50 ⟨Nat.le_of_ble_eq_true rfl, Nat.le_of_ble_eq_true rfl⟩ ?_
          refine mif_eqB (tgt := 60) hx hb dX4_addRule_53 (by decide) (fun c13 => ?_) (fun c13 => ?_)
          ·
            refine lv_iconst (v := (0)) hx hb dX4_addRule_60 (by decide) ?_
            refine lv_istore (lv' := [(6, .int (0)), (0, .ref (α (10))), (1, .int (x1)), (2, .int (x2)), (3, .int (x3)), (4, .int (x4)), (5, .int (x5))]) hx hb dX4_addRule_61 hl (by decide) rfl (fun ls hl => ?_)
            refine lv_aload_n hx hb dX4_addRule_63 rfl (lv_at hl 1 rfl) ?_
            refine lv_iload hx hb dX4_addRule_64 (lv_at hl 0 rfl) ?_
            refine lv_if_ne (tgt := 73) hx hb dX4_addRule_66 (by decide) (fun z => absurd ((by decide)) z) (fun c14 => ?_)
            refine lv_iconst (v := (1)) hx hb dX4_addRule_69 (by decide) ?_
            refine lv_goto (tgt := 87) hx hb dX4_addRule_70 (by decide) ?_
            refine mput (C := RX4) (T := TX4) (N := 18) (ci := 5) hx hb hts in_X4 tyX4 tyX4_ok nmX4 hown hw hS (m10) rfl 17 (by decide) fl_53 rfl rfl rfl (Nat.le_of_ble_eq_true rfl) dX4_addRule_87 (fun H locs hw hS => ?_)
            obtain ⟨V5, hV5⟩ : ∃ z, z = vup V 10 (mobj α (nr) (nw) (ns) (1)) := ⟨_, rfl⟩
            have hw : mW G V5 α s H := by rw [hV5]; exact hw
            have hM : mM G V5 α f (nr) (nw) (ns) (1) := by rw [hV5]; exact hM.obj _ _ _ _
            have hO : ∀ j, ¬ (10 ≤ j ∧ j < 25) → V5 j = V j := fun j hj => (show V5 j = V j by rw [hV5]; exact vup_n _ _ (by omega)).trans (hO j hj)
            obtain ⟨m10, m11, m12, m13, m14, m15, m16, m17, m18, m19, m20, m21, m22, m23, m24⟩ := id hM
            refine lv_aload_n hx hb dX4_addRule_90 rfl (lv_at hl 1 rfl) ?_
            refine mget (C := RX4) (T := TX4) (N := 18) (ci := 5) hx hb hts in_X4 hown hw (m10) rfl 17 (by decide) fl_53 rfl dX4_addRule_91 ?_
            refine lv_if_le (tgt := 99) hx hb dX4_addRule_94 (by decide) (fun z => absurd z ((by decide))) (fun c15 => ?_)
            refine lv_iconst (v := (0)) hx hb dX4_addRule_97 (by decide) ?_
            exact W.iret (v := 0) hx hb hr (fun t ht hW => ⟨⟨_, (V5, α), rfl, ⟨rfl, hM, hO, rfl⟩, by show mH G V5 α t.heap; rw [ht]; exact hw.2.2⟩, hS.F ht⟩) hS.2.2 dX4_addRule_98
          ·
            exact absurd ⟨c1, c4, c7, c10, c13⟩ hbad

set_option maxHeartbeats 4000000 in
set_option maxRecDepth 100000 in
theorem c_X4_addRule_2 {l : Launch} {G : mG} {V : mV} {α : Nat → Nat} {f : sT} {nr nw ns : Nat} {th : Int32} (hM : mM G V α f nr nw ns th) (x1 x2 x3 x4 x5 : Int32) (q1 : inn x1 0 127) (q2 : inn x2 0 95) (q3 : inn x3 (x2 + 1) 96) (q4 : inn x4 1 15) (q5 : inn x5 100 400) (hfull : nr = 16) : Met l yX4_addRule wsX4_addRule ({ frames := 1, cells := 0, slots := 0, locals := 22 }) (va_Pc [.ref (α (10)), .int (x1), .int (x2), .int (x3), .int (x4), .int (x5)] (fun U => mW G V α U U.heap)) (va_Qi (fun (r9 : Int32) (u : mV × (Nat → Nat)) => 0 = r9 ∧ mQ G V α u f nr nw ns 2) (fun u t => mH G u.1 u.2 t.heap) (mfree G)) 0 0 (mfree G) := by
  refine Met.ofW (cc := cX4_addRule) (maxL := 7) (ret := (some .int)) (by decide) rfl ?_
  intro p e s m args below meth c s₁ B hml hv
  obtain ⟨rfl, hw⟩ := hv
  have hx := B.exec
  have hb := B.bytes
  have hr := B.returns
  have hts := atoms_spec (ws := wsX4_addRule) B.pre
  have hown : s.vm.findClass RX4 = some m.cls := findClass_of_methodNamed B.named
  have hlocks := B.notSynchronized
  have hS : va_S (mfree G) s.heap s.heap [] := va_S.rf
  have hO : ∀ j, ¬ (10 ≤ j ∧ j < 25) → V j = V j := fun _ _ => rfl
  obtain ⟨m10, m11, m12, m13, m14, m15, m16, m17, m18, m19, m20, m21, m22, m23, m24⟩ := id hM
  have fl_61 := hts (.fieldLink RX4 61 "RosterPayModel" "rules" "I") (by decide +kernel)
  have in_X4 : ∀ w ∈ u_ws RX4 TX4 18, w ∈ wsX4_addRule := by decide +kernel
  have fl_53 := hts (.fieldLink RX4 53 "RosterPayModel" "thrown" "I") (by decide +kernel)
  have hl := lv_entry ([.ref (α (10)), .int (x1), .int (x2), .int (x3), .int (x4), .int (x5)]) (n := 7) (Nat.le_of_ble_eq_true rfl)
  rw [lg_entry_eq]
  generalize (lg_sl ([.ref (α (10)), .int (x1), .int (x2), .int (x3), .int (x4), .int (x5)]) ++ List.replicate (7 - (lg_sl ([.ref (α (10)), .int (x1), .int (x2), .int (x3), .int (x4), .int (x5)])).length) Slot.unset).toArray = ls at hl ⊢
  have hl : lv_has ls 7 [(0, .ref (α (10))), (1, .int (x1)), (2, .int (x2)), (3, .int (x3)), (4, .int (x4)), (5, .int (x5))] := hl
  refine lv_iload_n hx hb dX4_addRule_0 rfl (lv_at hl 1 rfl) ?_
  refine lv_iconst (v := (0)) hx hb dX4_addRule_1 (by decide) ?_
  refine lv_bipush (v := (127)) hx hb dX4_addRule_2 (by decide) ?_
  refine mcallSi hw ⟨hx, hb, hml, hown, hts⟩ (c_X4_isIn (x1) (0) (127)) (va_cwS 3 hts gX4_addRule_X4_isIn rfl rfl rfl (by decide +kernel) ⟨Nat.le_of_ble_eq_true rfl, Nat.le_of_ble_eq_true rfl⟩) rfl hl.1 rfl (Nat.le_of_ble_eq_true rfl) dX4_addRule_4 ⟨Nat.le_of_ble_eq_true rfl, Nat.le_of_ble_eq_true rfl⟩ ?_
  refine mif_eqB (tgt := 60) hx hb dX4_addRule_7 (by decide) (fun z => absurd (q1) z) (fun c1 => ?_)
  refine lv_iload_n hx hb dX4_addRule_10 rfl (lv_at hl 2 rfl) ?_
  refine lv_iconst (v := (0)) hx hb dX4_addRule_11 (by decide) ?_
  refine lv_bipush (v := (95)) hx hb dX4_addRule_12 (by decide) ?_
  refine mcallSi hw ⟨hx, hb, hml, hown, hts⟩ (c_X4_isIn (x2) (0) (95)) (va_cwS 3 hts gX4_addRule_X4_isIn rfl rfl rfl (by decide +kernel) ⟨Nat.le_of_ble_eq_true rfl, Nat.le_of_ble_eq_true rfl⟩) rfl hl.1 rfl (Nat.le_of_ble_eq_true rfl) dX4_addRule_14 ⟨Nat.le_of_ble_eq_true rfl, Nat.le_of_ble_eq_true rfl⟩ ?_
  refine mif_eqB (tgt := 60) hx hb dX4_addRule_17 (by decide) (fun z => absurd (q2) z) (fun c2 => ?_)
  refine lv_iload_n hx hb dX4_addRule_20 rfl (lv_at hl 3 rfl) ?_
  refine lv_iload_n hx hb dX4_addRule_21 rfl (lv_at hl 2 rfl) ?_
  refine lv_iconst (v := (1)) hx hb dX4_addRule_22 (by decide) ?_
  refine lv_iadd hx hb dX4_addRule_23 ?_
  refine lv_bipush (v := (96)) hx hb dX4_addRule_24 (by decide) ?_
  refine mcallSi hw ⟨hx, hb, hml, hown, hts⟩ (c_X4_isIn (x3) ((x2 + 1)) (96)) (va_cwS 3 hts gX4_addRule_X4_isIn rfl rfl rfl (by decide +kernel) ⟨Nat.le_of_ble_eq_true rfl, Nat.le_of_ble_eq_true rfl⟩) rfl hl.1 rfl (Nat.le_of_ble_eq_true rfl) dX4_addRule_26 ⟨Nat.le_of_ble_eq_true rfl, Nat.le_of_ble_eq_true rfl⟩ ?_
  refine mif_eqB (tgt := 60) hx hb dX4_addRule_29 (by decide) (fun z => absurd (q3) z) (fun c3 => ?_)
  refine lv_iload hx hb dX4_addRule_32 (lv_at hl 4 rfl) ?_
  refine lv_iconst (v := (1)) hx hb dX4_addRule_34 (by decide) ?_
  refine lv_bipush (v := (15)) hx hb dX4_addRule_35 (by decide) ?_
  refine mcallSi hw ⟨hx, hb, hml, hown, hts⟩ (c_X4_isIn (x4) (1) (15)) (va_cwS 3 hts gX4_addRule_X4_isIn rfl rfl rfl (by decide +kernel) ⟨Nat.le_of_ble_eq_true rfl, Nat.le_of_ble_eq_true rfl⟩) rfl hl.1 rfl (Nat.le_of_ble_eq_true rfl) dX4_addRule_37 ⟨Nat.le_of_ble_eq_true rfl, Nat.le_of_ble_eq_true rfl⟩ ?_
  refine mif_eqB (tgt := 60) hx hb dX4_addRule_40 (by decide) (fun z => absurd (q4) z) (fun c4 => ?_)
  refine lv_iload hx hb dX4_addRule_43 (lv_at hl 5 rfl) ?_
  refine lv_bipush (v := (100)) hx hb dX4_addRule_45 (by decide) ?_
  refine lv_sipush (v := (400)) hx hb dX4_addRule_47 (by decide) ?_
  refine mcallSi hw ⟨hx, hb, hml, hown, hts⟩ (c_X4_isIn (x5) (100) (400)) (va_cwS 3 hts gX4_addRule_X4_isIn rfl rfl rfl (by decide +kernel) ⟨Nat.le_of_ble_eq_true rfl, Nat.le_of_ble_eq_true rfl⟩) rfl hl.1 rfl (Nat.le_of_ble_eq_true rfl) dX4_addRule_50 ⟨Nat.le_of_ble_eq_true rfl, Nat.le_of_ble_eq_true rfl⟩ ?_
  refine mif_eqB (tgt := 60) hx hb dX4_addRule_53 (by decide) (fun z => absurd (q5) z) (fun c5 => ?_)
  refine lv_iconst (v := (1)) hx hb dX4_addRule_56 (by decide) ?_
  refine lv_goto (tgt := 61) hx hb dX4_addRule_57 (by decide) ?_
  refine lv_istore (lv' := [(6, .int (1)), (0, .ref (α (10))), (1, .int (x1)), (2, .int (x2)), (3, .int (x3)), (4, .int (x4)), (5, .int (x5))]) hx hb dX4_addRule_61 hl (by decide) rfl (fun ls hl => ?_)
  refine lv_aload_n hx hb dX4_addRule_63 rfl (lv_at hl 1 rfl) ?_
  refine lv_iload hx hb dX4_addRule_64 (lv_at hl 0 rfl) ?_
  refine lv_if_ne (tgt := 73) hx hb dX4_addRule_66 (by decide) (fun c6 => ?_) (fun z => absurd z ((by decide)))
  refine lv_aload_n hx hb dX4_addRule_73 rfl (lv_at hl 1 rfl) ?_
  refine mget (C := RX4) (T := TX4) (N := 18) (ci := 5) hx hb hts in_X4 hown hw (m10) rfl 1 (by decide) fl_61 rfl dX4_addRule_74 ?_
  refine lv_bipush (v := (16)) hx hb dX4_addRule_77 (by decide) ?_
  refine lv_icmp_ne (tgt := 86) hx hb dX4_addRule_79 (by decide) (fun z => absurd ((by rw [hfull]; rfl)) z) (fun c7 => ?_)
  refine lv_iconst (v := (2)) hx hb dX4_addRule_82 (by decide) ?_
  refine lv_goto (tgt := 87) hx hb dX4_addRule_83 (by decide) ?_
  refine mput (C := RX4) (T := TX4) (N := 18) (ci := 5) hx hb hts in_X4 tyX4 tyX4_ok nmX4 hown hw hS (m10) rfl 17 (by decide) fl_53 rfl rfl rfl (Nat.le_of_ble_eq_true rfl) dX4_addRule_87 (fun H locs hw hS => ?_)
  obtain ⟨V1, hV1⟩ : ∃ z, z = vup V 10 (mobj α (nr) (nw) (ns) (2)) := ⟨_, rfl⟩
  have hw : mW G V1 α s H := by rw [hV1]; exact hw
  have hM : mM G V1 α f (nr) (nw) (ns) (2) := by rw [hV1]; exact hM.obj _ _ _ _
  have hO : ∀ j, ¬ (10 ≤ j ∧ j < 25) → V1 j = V j := fun j hj => (show V1 j = V j by rw [hV1]; exact vup_n _ _ (by omega)).trans (hO j hj)
  obtain ⟨m10, m11, m12, m13, m14, m15, m16, m17, m18, m19, m20, m21, m22, m23, m24⟩ := id hM
  refine lv_aload_n hx hb dX4_addRule_90 rfl (lv_at hl 1 rfl) ?_
  refine mget (C := RX4) (T := TX4) (N := 18) (ci := 5) hx hb hts in_X4 hown hw (m10) rfl 17 (by decide) fl_53 rfl dX4_addRule_91 ?_
  refine lv_if_le (tgt := 99) hx hb dX4_addRule_94 (by decide) (fun z => absurd z ((by decide))) (fun c8 => ?_)
  refine lv_iconst (v := (0)) hx hb dX4_addRule_97 (by decide) ?_
  exact W.iret (v := 0) hx hb hr (fun t ht hW => ⟨⟨_, (V1, α), rfl, ⟨rfl, hM, hO, rfl⟩, by show mH G V1 α t.heap; rw [ht]; exact hw.2.2⟩, hS.F ht⟩) hS.2.2 dX4_addRule_98

set_option maxHeartbeats 4000000 in
set_option maxRecDepth 100000 in
theorem c_X4_setRule {l : Launch} {G : mG} {V : mV} {α : Nat → Nat} {f : sT} {nr nw ns : Nat} {th : Int32} (hM : mM G V α f nr nw ns th) (k : Nat) (hk : k < nr) (hnr : nr ≤ 16) (b : Int32) (hb1 : b = 0 ∨ b = 1) (h6 : f 6 k = 0 ∨ f 6 k = 1) : Met l yX4_setRule wsX4_setRule ({ frames := 1, cells := 0, slots := 0, locals := 22 }) (va_Pc [.ref (α (10)), .int (nI (k)), .int (b)] (fun U => mW G V α U U.heap)) (va_Qi (fun (r9 : Int32) (u : mV × (Nat → Nat)) => 1 - f 6 k = r9 ∧ mQ G V α u (u2 f 6 k (1 - b)) nr nw ns 0) (fun u t => mH G u.1 u.2 t.heap) (mfree G)) 0 0 (mfree G) := by
  refine Met.ofW (cc := cX4_setRule) (maxL := 4) (ret := (some .boolean)) (by decide) rfl ?_
  intro p e s m args below meth c s₁ B hml hv
  obtain ⟨rfl, hw⟩ := hv
  have hx := B.exec
  have hb := B.bytes
  have hr := B.returns
  have hts := atoms_spec (ws := wsX4_setRule) B.pre
  have hown : s.vm.findClass RX4 = some m.cls := findClass_of_methodNamed B.named
  have hlocks := B.notSynchronized
  have hS : va_S (mfree G) s.heap s.heap [] := va_S.rf
  have hO : ∀ j, ¬ (10 ≤ j ∧ j < 25) → V j = V j := fun _ _ => rfl
  obtain ⟨m10, m11, m12, m13, m14, m15, m16, m17, m18, m19, m20, m21, m22, m23, m24⟩ := id hM
  have fl_61 := hts (.fieldLink RX4 61 "RosterPayModel" "rules" "I") (by decide +kernel)
  have in_X4 : ∀ w ∈ u_ws RX4 TX4 18, w ∈ wsX4_setRule := by decide +kernel
  have fl_53 := hts (.fieldLink RX4 53 "RosterPayModel" "thrown" "I") (by decide +kernel)
  have fl_28 := hts (.fieldLink RX4 28 "RosterPayModel" "off" "[Z") (by decide +kernel)
  have hl := lv_entry ([.ref (α (10)), .int (nI (k)), .int (b)]) (n := 4) (Nat.le_of_ble_eq_true rfl)
  rw [lg_entry_eq]
  generalize (lg_sl ([.ref (α (10)), .int (nI (k)), .int (b)]) ++ List.replicate (4 - (lg_sl ([.ref (α (10)), .int (nI (k)), .int (b)])).length) Slot.unset).toArray = ls at hl ⊢
  have hl : lv_has ls 4 [(0, .ref (α (10))), (1, .int (nI (k))), (2, .int (b))] := hl
  refine lv_aload_n hx hb dX4_setRule_0 rfl (lv_at hl 0 rfl) ?_
  refine lv_iload_n hx hb dX4_setRule_1 rfl (lv_at hl 1 rfl) ?_
  refine lv_iconst (v := (0)) hx hb dX4_setRule_2 (by decide) ?_
  refine lv_aload_n hx hb dX4_setRule_3 rfl (lv_at hl 0 rfl) ?_
  refine mget (C := RX4) (T := TX4) (N := 18) (ci := 5) hx hb hts in_X4 hown hw (m10) rfl 1 (by decide) fl_61 rfl dX4_setRule_4 ?_
  refine lv_iconst (v := (1)) hx hb dX4_setRule_7 (by decide) ?_
  refine lv_isub hx hb dX4_setRule_8 ?_
  refine mcallSi hw ⟨hx, hb, hml, hown, hts⟩ (c_X4_isIn (nI (k)) (0) ((nI (nr) - 1))) (va_cwS 3 hts gX4_setRule_X4_isIn rfl rfl rfl (by decide +kernel) ⟨Nat.le_of_ble_eq_true rfl, Nat.le_of_ble_eq_true rfl⟩) rfl hl.1 rfl (Nat.le_of_ble_eq_true rfl) dX4_setRule_9 ⟨Nat.le_of_ble_eq_true rfl, Nat.le_of_ble_eq_true rfl⟩ ?_
  refine mif_eqB (tgt := 19) hx hb dX4_setRule_12 (by decide) (fun z => absurd (inn_ix hk (by omega)) z) (fun c1 => ?_)
  refine lv_iconst (v := (0)) hx hb dX4_setRule_15 (by decide) ?_
  refine lv_goto (tgt := 20) hx hb dX4_setRule_16 (by decide) ?_
  refine mput (C := RX4) (T := TX4) (N := 18) (ci := 5) hx hb hts in_X4 tyX4 tyX4_ok nmX4 hown hw hS (m10) rfl 17 (by decide) fl_53 rfl rfl rfl (Nat.le_of_ble_eq_true rfl) dX4_setRule_20 (fun H locs hw hS => ?_)
  obtain ⟨V1, hV1⟩ : ∃ z, z = vup V 10 (mobj α (nr) (nw) (ns) (0)) := ⟨_, rfl⟩
  have hw : mW G V1 α s H := by rw [hV1]; exact hw
  have hM : mM G V1 α f (nr) (nw) (ns) (0) := by rw [hV1]; exact hM.obj _ _ _ _
  have hO : ∀ j, ¬ (10 ≤ j ∧ j < 25) → V1 j = V j := fun j hj => (show V1 j = V j by rw [hV1]; exact vup_n _ _ (by omega)).trans (hO j hj)
  obtain ⟨m10, m11, m12, m13, m14, m15, m16, m17, m18, m19, m20, m21, m22, m23, m24⟩ := id hM
  refine lv_aload_n hx hb dX4_setRule_23 rfl (lv_at hl 0 rfl) ?_
  refine mget (C := RX4) (T := TX4) (N := 18) (ci := 5) hx hb hts in_X4 hown hw (m10) rfl 17 (by decide) fl_53 rfl dX4_setRule_24 ?_
  refine lv_if_le (tgt := 32) hx hb dX4_setRule_27 (by decide) (fun c2 => ?_) (fun z => absurd ((by decide)) z)
  refine mjoin (E := 1 - f 6 k) (pcJ := 46) (st := []) ?_ (fun J3 => ?_)
  ·
    refine lv_istore_n (lv' := [(3, .int (1 - f 6 k)), (0, .ref (α (10))), (1, .int (nI (k))), (2, .int (b))]) hx hb dX4_setRule_46 rfl hl (by decide) rfl (fun ls hl => ?_)
    refine lv_aload_n hx hb dX4_setRule_47 rfl (lv_at hl 1 rfl) ?_
    refine mget (C := RX4) (T := TX4) (N := 18) (ci := 5) hx hb hts in_X4 hown hw (m10) rfl 7 (by decide) fl_28 rfl dX4_setRule_48 ?_
    refine lv_iload_n hx hb dX4_setRule_51 rfl (lv_at hl 2 rfl) ?_
    refine mjoin (E := 1 - b) (pcJ := 61) (st := [.int (nI (k)), .ref (α (17))]) ?_ (fun J4 => ?_)
    ·
      refine mzast' (k := k) hx hb hw hS (m17) (rfl) (by omega) (by decide) (z1_vn (z1_sub hb1)) dX4_setRule_61 (fun H locs hw hS => ?_)
      obtain ⟨V2, hV2⟩ : ∃ z, z = vup V1 17 (.inl (G.2.2.1.2, 16, .inl (upd (f 6) (k) (1 - b)))) := ⟨_, rfl⟩
      have hw : mW G V2 α s H := by rw [hV2]; exact hw
      have hM : mM G V2 α (u2 f 6 (k) (1 - b)) (nr) (nw) (ns) (0) := by rw [hV2]; exact hM.a6 _ _
      have hO : ∀ j, ¬ (10 ≤ j ∧ j < 25) → V2 j = V j := fun j hj => (show V2 j = V1 j by rw [hV2]; exact vup_n _ _ (by omega)).trans (hO j hj)
      obtain ⟨m10, m11, m12, m13, m14, m15, m16, m17, m18, m19, m20, m21, m22, m23, m24⟩ := id hM
      refine lv_iload_n hx hb dX4_setRule_62 rfl (lv_at hl 0 rfl) ?_
      exact W.zret (v := 1 - f 6 k) hx hb hr (z1_nar (z1_sub h6)) (fun t ht hW => ⟨⟨_, (V2, α), rfl, ⟨rfl, hM, hO, rfl⟩, by show mH G V2 α t.heap; rw [ht]; exact hw.2.2⟩, hS.F ht⟩) hS.2.2 dX4_setRule_63
    ·
      refine lv_iload_n hx hb dX4_setRule_52 rfl (lv_at hl 3 rfl) ?_
      refine lv_if_ne (tgt := 60) hx hb dX4_setRule_53 (by decide) (fun c5 => ?_) (fun c5 => ?_)
      ·
        refine lv_iconst (v := (0)) hx hb dX4_setRule_60 (by decide) ?_
        exact J4 _ ((by rw [hb1.resolve_left c5]; rfl))
      ·
        refine lv_iconst (v := (1)) hx hb dX4_setRule_56 (by decide) ?_
        refine lv_goto (tgt := 61) hx hb dX4_setRule_57 (by decide) ?_
        exact J4 _ ((by rw [c5]; rfl))
  ·
    refine lv_aload_n hx hb dX4_setRule_32 rfl (lv_at hl 0 rfl) ?_
    refine mget (C := RX4) (T := TX4) (N := 18) (ci := 5) hx hb hts in_X4 hown hw (m10) rfl 7 (by decide) fl_28 rfl dX4_setRule_33 ?_
    refine lv_iload_n hx hb dX4_setRule_36 rfl (lv_at hl 1 rfl) ?_
    refine mzald' (k := k) hx hb hw (m17) (rfl) (by omega) (by decide) dX4_setRule_37 ?_
    refine lv_if_ne (tgt := 45) hx hb dX4_setRule_38 (by decide) (fun c6 => ?_) (fun c6 => ?_)
    ·
      refine lv_iconst (v := (0)) hx hb dX4_setRule_45 (by decide) ?_
      exact J3 _ ((by rw [h6.resolve_left c6]; rfl))
    ·
      refine lv_iconst (v := (1)) hx hb dX4_setRule_41 (by decide) ?_
      refine lv_goto (tgt := 46) hx hb dX4_setRule_42 (by decide) ?_
      exact J3 _ ((by rw [c6]; rfl))

set_option maxHeartbeats 4000000 in
set_option maxRecDepth 100000 in
theorem c_X4_setRule_1 {l : Launch} {G : mG} {V : mV} {α : Nat → Nat} {f : sT} {nr nw ns : Nat} {th : Int32} (hM : mM G V α f nr nw ns th) (y b : Int32) (hbad : ¬ inn y 0 (nI nr - 1)) : Met l yX4_setRule wsX4_setRule ({ frames := 1, cells := 0, slots := 0, locals := 22 }) (va_Pc [.ref (α (10)), .int (y), .int (b)] (fun U => mW G V α U U.heap)) (va_Qi (fun (r9 : Int32) (u : mV × (Nat → Nat)) => 0 = r9 ∧ mQ G V α u f nr nw ns 1) (fun u t => mH G u.1 u.2 t.heap) (mfree G)) 0 0 (mfree G) := by
  refine Met.ofW (cc := cX4_setRule) (maxL := 4) (ret := (some .boolean)) (by decide) rfl ?_
  intro p e s m args below meth c s₁ B hml hv
  obtain ⟨rfl, hw⟩ := hv
  have hx := B.exec
  have hb := B.bytes
  have hr := B.returns
  have hts := atoms_spec (ws := wsX4_setRule) B.pre
  have hown : s.vm.findClass RX4 = some m.cls := findClass_of_methodNamed B.named
  have hlocks := B.notSynchronized
  have hS : va_S (mfree G) s.heap s.heap [] := va_S.rf
  have hO : ∀ j, ¬ (10 ≤ j ∧ j < 25) → V j = V j := fun _ _ => rfl
  obtain ⟨m10, m11, m12, m13, m14, m15, m16, m17, m18, m19, m20, m21, m22, m23, m24⟩ := id hM
  have fl_61 := hts (.fieldLink RX4 61 "RosterPayModel" "rules" "I") (by decide +kernel)
  have in_X4 : ∀ w ∈ u_ws RX4 TX4 18, w ∈ wsX4_setRule := by decide +kernel
  have fl_53 := hts (.fieldLink RX4 53 "RosterPayModel" "thrown" "I") (by decide +kernel)
  have hl := lv_entry ([.ref (α (10)), .int (y), .int (b)]) (n := 4) (Nat.le_of_ble_eq_true rfl)
  rw [lg_entry_eq]
  generalize (lg_sl ([.ref (α (10)), .int (y), .int (b)]) ++ List.replicate (4 - (lg_sl ([.ref (α (10)), .int (y), .int (b)])).length) Slot.unset).toArray = ls at hl ⊢
  have hl : lv_has ls 4 [(0, .ref (α (10))), (1, .int (y)), (2, .int (b))] := hl
  refine lv_aload_n hx hb dX4_setRule_0 rfl (lv_at hl 0 rfl) ?_
  refine lv_iload_n hx hb dX4_setRule_1 rfl (lv_at hl 1 rfl) ?_
  refine lv_iconst (v := (0)) hx hb dX4_setRule_2 (by decide) ?_
  refine lv_aload_n hx hb dX4_setRule_3 rfl (lv_at hl 0 rfl) ?_
  refine mget (C := RX4) (T := TX4) (N := 18) (ci := 5) hx hb hts in_X4 hown hw (m10) rfl 1 (by decide) fl_61 rfl dX4_setRule_4 ?_
  refine lv_iconst (v := (1)) hx hb dX4_setRule_7 (by decide) ?_
  refine lv_isub hx hb dX4_setRule_8 ?_
  refine mcallSi hw ⟨hx, hb, hml, hown, hts⟩ (c_X4_isIn (y) (0) ((nI (nr) - 1))) (va_cwS 3 hts gX4_setRule_X4_isIn rfl rfl rfl (by decide +kernel) ⟨Nat.le_of_ble_eq_true rfl, Nat.le_of_ble_eq_true rfl⟩) rfl hl.1 rfl (Nat.le_of_ble_eq_true rfl) dX4_setRule_9 ⟨Nat.le_of_ble_eq_true rfl, Nat.le_of_ble_eq_true rfl⟩ ?_
  refine mif_eqB (tgt := 19) hx hb dX4_setRule_12 (by decide) (fun c1 => ?_) (fun z => absurd z (hbad))
  refine lv_iconst (v := (1)) hx hb dX4_setRule_19 (by decide) ?_
  refine mput (C := RX4) (T := TX4) (N := 18) (ci := 5) hx hb hts in_X4 tyX4 tyX4_ok nmX4 hown hw hS (m10) rfl 17 (by decide) fl_53 rfl rfl rfl (Nat.le_of_ble_eq_true rfl) dX4_setRule_20 (fun H locs hw hS => ?_)
  obtain ⟨V1, hV1⟩ : ∃ z, z = vup V 10 (mobj α (nr) (nw) (ns) (1)) := ⟨_, rfl⟩
  have hw : mW G V1 α s H := by rw [hV1]; exact hw
  have hM : mM G V1 α f (nr) (nw) (ns) (1) := by rw [hV1]; exact hM.obj _ _ _ _
  have hO : ∀ j, ¬ (10 ≤ j ∧ j < 25) → V1 j = V j := fun j hj => (show V1 j = V j by rw [hV1]; exact vup_n _ _ (by omega)).trans (hO j hj)
  obtain ⟨m10, m11, m12, m13, m14, m15, m16, m17, m18, m19, m20, m21, m22, m23, m24⟩ := id hM
  refine lv_aload_n hx hb dX4_setRule_23 rfl (lv_at hl 0 rfl) ?_
  refine mget (C := RX4) (T := TX4) (N := 18) (ci := 5) hx hb hts in_X4 hown hw (m10) rfl 17 (by decide) fl_53 rfl dX4_setRule_24 ?_
  refine lv_if_le (tgt := 32) hx hb dX4_setRule_27 (by decide) (fun z => absurd z ((by decide))) (fun c2 => ?_)
  refine lv_iconst (v := (0)) hx hb dX4_setRule_30 (by decide) ?_
  exact W.zret (v := 0) hx hb hr (rfl) (fun t ht hW => ⟨⟨_, (V1, α), rfl, ⟨rfl, hM, hO, rfl⟩, by show mH G V1 α t.heap; rw [ht]; exact hw.2.2⟩, hS.F ht⟩) hS.2.2 dX4_setRule_31

set_option maxHeartbeats 4000000 in
set_option maxRecDepth 100000 in
theorem c_X4_setHoliday {l : Launch} {G : mG} {V : mV} {α : Nat → Nat} {f : sT} {nr nw ns : Nat} {th : Int32} (hM : mM G V α f nr nw ns th) (k : Nat) (hk : k < 364) (b : Int32) (hb1 : b = 0 ∨ b = 1) (h7 : f 7 k = 0 ∨ f 7 k = 1) : Met l yX4_setHoliday wsX4_setHoliday ({ frames := 1, cells := 0, slots := 0, locals := 22 }) (va_Pc [.ref (α (10)), .int (nI (k)), .int (b)] (fun U => mW G V α U U.heap)) (va_Qi (fun (r9 : Int32) (u : mV × (Nat → Nat)) => f 7 k = r9 ∧ mQ G V α u (u2 f 7 k b) nr nw ns 0) (fun u t => mH G u.1 u.2 t.heap) (mfree G)) 0 0 (mfree G) := by
  refine Met.ofW (cc := cX4_setHoliday) (maxL := 4) (ret := (some .boolean)) (by decide) rfl ?_
  intro p e s m args below meth c s₁ B hml hv
  obtain ⟨rfl, hw⟩ := hv
  have hx := B.exec
  have hb := B.bytes
  have hr := B.returns
  have hts := atoms_spec (ws := wsX4_setHoliday) B.pre
  have hown : s.vm.findClass RX4 = some m.cls := findClass_of_methodNamed B.named
  have hlocks := B.notSynchronized
  have hS : va_S (mfree G) s.heap s.heap [] := va_S.rf
  have hO : ∀ j, ¬ (10 ≤ j ∧ j < 25) → V j = V j := fun _ _ => rfl
  obtain ⟨m10, m11, m12, m13, m14, m15, m16, m17, m18, m19, m20, m21, m22, m23, m24⟩ := id hM
  have fl_53 := hts (.fieldLink RX4 53 "RosterPayModel" "thrown" "I") (by decide +kernel)
  have in_X4 : ∀ w ∈ u_ws RX4 TX4 18, w ∈ wsX4_setHoliday := by decide +kernel
  have fl_32 := hts (.fieldLink RX4 32 "RosterPayModel" "holiday" "[Z") (by decide +kernel)
  have hl := lv_entry ([.ref (α (10)), .int (nI (k)), .int (b)]) (n := 4) (Nat.le_of_ble_eq_true rfl)
  rw [lg_entry_eq]
  generalize (lg_sl ([.ref (α (10)), .int (nI (k)), .int (b)]) ++ List.replicate (4 - (lg_sl ([.ref (α (10)), .int (nI (k)), .int (b)])).length) Slot.unset).toArray = ls at hl ⊢
  have hl : lv_has ls 4 [(0, .ref (α (10))), (1, .int (nI (k))), (2, .int (b))] := hl
  refine lv_aload_n hx hb dX4_setHoliday_0 rfl (lv_at hl 0 rfl) ?_
  refine lv_iload_n hx hb dX4_setHoliday_1 rfl (lv_at hl 1 rfl) ?_
  refine lv_iconst (v := (0)) hx hb dX4_setHoliday_2 (by decide) ?_
  refine lv_sipush (v := (363)) hx hb dX4_setHoliday_3 (by decide) ?_
  refine mcallSi hw ⟨hx, hb, hml, hown, hts⟩ (c_X4_isIn (nI (k)) (0) (363)) (va_cwS 3 hts gX4_setHoliday_X4_isIn rfl rfl rfl (by decide +kernel) ⟨Nat.le_of_ble_eq_true rfl, Nat.le_of_ble_eq_true rfl⟩) rfl hl.1 rfl (Nat.le_of_ble_eq_true rfl) dX4_setHoliday_6 ⟨Nat.le_of_ble_eq_true rfl, Nat.le_of_ble_eq_true rfl⟩ ?_
  refine mif_eqB (tgt := 16) hx hb dX4_setHoliday_9 (by decide) (fun z => absurd (inn_ix (n := 364) hk (by decide)) z) (fun c1 => ?_)
  refine lv_iconst (v := (0)) hx hb dX4_setHoliday_12 (by decide) ?_
  refine lv_goto (tgt := 17) hx hb dX4_setHoliday_13 (by decide) ?_
  refine mput (C := RX4) (T := TX4) (N := 18) (ci := 5) hx hb hts in_X4 tyX4 tyX4_ok nmX4 hown hw hS (m10) rfl 17 (by decide) fl_53 rfl rfl rfl (Nat.le_of_ble_eq_true rfl) dX4_setHoliday_17 (fun H locs hw hS => ?_)
  obtain ⟨V1, hV1⟩ : ∃ z, z = vup V 10 (mobj α (nr) (nw) (ns) (0)) := ⟨_, rfl⟩
  have hw : mW G V1 α s H := by rw [hV1]; exact hw
  have hM : mM G V1 α f (nr) (nw) (ns) (0) := by rw [hV1]; exact hM.obj _ _ _ _
  have hO : ∀ j, ¬ (10 ≤ j ∧ j < 25) → V1 j = V j := fun j hj => (show V1 j = V j by rw [hV1]; exact vup_n _ _ (by omega)).trans (hO j hj)
  obtain ⟨m10, m11, m12, m13, m14, m15, m16, m17, m18, m19, m20, m21, m22, m23, m24⟩ := id hM
  refine lv_aload_n hx hb dX4_setHoliday_20 rfl (lv_at hl 0 rfl) ?_
  refine mget (C := RX4) (T := TX4) (N := 18) (ci := 5) hx hb hts in_X4 hown hw (m10) rfl 17 (by decide) fl_53 rfl dX4_setHoliday_21 ?_
  refine lv_if_le (tgt := 29) hx hb dX4_setHoliday_24 (by decide) (fun c2 => ?_) (fun z => absurd ((by decide)) z)
  refine lv_aload_n hx hb dX4_setHoliday_29 rfl (lv_at hl 0 rfl) ?_
  refine mget (C := RX4) (T := TX4) (N := 18) (ci := 5) hx hb hts in_X4 hown hw (m10) rfl 8 (by decide) fl_32 rfl dX4_setHoliday_30 ?_
  refine lv_iload_n hx hb dX4_setHoliday_33 rfl (lv_at hl 1 rfl) ?_
  refine mzald' (k := k) hx hb hw (m18) (rfl) (by omega) (by decide) dX4_setHoliday_34 ?_
  refine lv_istore_n (lv' := [(3, .int (f 7 (k))), (0, .ref (α (10))), (1, .int (nI (k))), (2, .int (b))]) hx hb dX4_setHoliday_35 rfl hl (by decide) rfl (fun ls hl => ?_)
  refine lv_aload_n hx hb dX4_setHoliday_36 rfl (lv_at hl 1 rfl) ?_
  refine mget (C := RX4) (T := TX4) (N := 18) (ci := 5) hx hb hts in_X4 hown hw (m10) rfl 8 (by decide) fl_32 rfl dX4_setHoliday_37 ?_
  refine lv_iload_n hx hb dX4_setHoliday_40 rfl (lv_at hl 2 rfl) ?_
  refine lv_iload_n hx hb dX4_setHoliday_41 rfl (lv_at hl 3 rfl) ?_
  refine mzast' (k := k) hx hb hw hS (m18) (rfl) (by omega) (by decide) (z1_vn hb1) dX4_setHoliday_42 (fun H locs hw hS => ?_)
  obtain ⟨V2, hV2⟩ : ∃ z, z = vup V1 18 (.inl (G.2.2.1.2, 365, .inl (upd (f 7) (k) (b)))) := ⟨_, rfl⟩
  have hw : mW G V2 α s H := by rw [hV2]; exact hw
  have hM : mM G V2 α (u2 f 7 (k) (b)) (nr) (nw) (ns) (0) := by rw [hV2]; exact hM.a7 _ _
  have hO : ∀ j, ¬ (10 ≤ j ∧ j < 25) → V2 j = V j := fun j hj => (show V2 j = V1 j by rw [hV2]; exact vup_n _ _ (by omega)).trans (hO j hj)
  obtain ⟨m10, m11, m12, m13, m14, m15, m16, m17, m18, m19, m20, m21, m22, m23, m24⟩ := id hM
  refine lv_iload_n hx hb dX4_setHoliday_43 rfl (lv_at hl 0 rfl) ?_
  exact W.zret (v := f 7 (k)) hx hb hr (z1_nar h7) (fun t ht hW => ⟨⟨_, (V2, α), rfl, ⟨rfl, hM, hO, rfl⟩, by show mH G V2 α t.heap; rw [ht]; exact hw.2.2⟩, hS.F ht⟩) hS.2.2 dX4_setHoliday_44

set_option maxHeartbeats 4000000 in
set_option maxRecDepth 100000 in
theorem c_X4_setHoliday_1 {l : Launch} {G : mG} {V : mV} {α : Nat → Nat} {f : sT} {nr nw ns : Nat} {th : Int32} (hM : mM G V α f nr nw ns th) (y b : Int32) (hbad : ¬ inn y 0 363) : Met l yX4_setHoliday wsX4_setHoliday ({ frames := 1, cells := 0, slots := 0, locals := 22 }) (va_Pc [.ref (α (10)), .int (y), .int (b)] (fun U => mW G V α U U.heap)) (va_Qi (fun (r9 : Int32) (u : mV × (Nat → Nat)) => 0 = r9 ∧ mQ G V α u f nr nw ns 1) (fun u t => mH G u.1 u.2 t.heap) (mfree G)) 0 0 (mfree G) := by
  refine Met.ofW (cc := cX4_setHoliday) (maxL := 4) (ret := (some .boolean)) (by decide) rfl ?_
  intro p e s m args below meth c s₁ B hml hv
  obtain ⟨rfl, hw⟩ := hv
  have hx := B.exec
  have hb := B.bytes
  have hr := B.returns
  have hts := atoms_spec (ws := wsX4_setHoliday) B.pre
  have hown : s.vm.findClass RX4 = some m.cls := findClass_of_methodNamed B.named
  have hlocks := B.notSynchronized
  have hS : va_S (mfree G) s.heap s.heap [] := va_S.rf
  have hO : ∀ j, ¬ (10 ≤ j ∧ j < 25) → V j = V j := fun _ _ => rfl
  obtain ⟨m10, m11, m12, m13, m14, m15, m16, m17, m18, m19, m20, m21, m22, m23, m24⟩ := id hM
  have fl_53 := hts (.fieldLink RX4 53 "RosterPayModel" "thrown" "I") (by decide +kernel)
  have in_X4 : ∀ w ∈ u_ws RX4 TX4 18, w ∈ wsX4_setHoliday := by decide +kernel
  have hl := lv_entry ([.ref (α (10)), .int (y), .int (b)]) (n := 4) (Nat.le_of_ble_eq_true rfl)
  rw [lg_entry_eq]
  generalize (lg_sl ([.ref (α (10)), .int (y), .int (b)]) ++ List.replicate (4 - (lg_sl ([.ref (α (10)), .int (y), .int (b)])).length) Slot.unset).toArray = ls at hl ⊢
  have hl : lv_has ls 4 [(0, .ref (α (10))), (1, .int (y)), (2, .int (b))] := hl
  refine lv_aload_n hx hb dX4_setHoliday_0 rfl (lv_at hl 0 rfl) ?_
  refine lv_iload_n hx hb dX4_setHoliday_1 rfl (lv_at hl 1 rfl) ?_
  refine lv_iconst (v := (0)) hx hb dX4_setHoliday_2 (by decide) ?_
  refine lv_sipush (v := (363)) hx hb dX4_setHoliday_3 (by decide) ?_
  refine mcallSi hw ⟨hx, hb, hml, hown, hts⟩ (c_X4_isIn (y) (0) (363)) (va_cwS 3 hts gX4_setHoliday_X4_isIn rfl rfl rfl (by decide +kernel) ⟨Nat.le_of_ble_eq_true rfl, Nat.le_of_ble_eq_true rfl⟩) rfl hl.1 rfl (Nat.le_of_ble_eq_true rfl) dX4_setHoliday_6 ⟨Nat.le_of_ble_eq_true rfl, Nat.le_of_ble_eq_true rfl⟩ ?_
  refine mif_eqB (tgt := 16) hx hb dX4_setHoliday_9 (by decide) (fun c1 => ?_) (fun z => absurd z (hbad))
  refine lv_iconst (v := (1)) hx hb dX4_setHoliday_16 (by decide) ?_
  refine mput (C := RX4) (T := TX4) (N := 18) (ci := 5) hx hb hts in_X4 tyX4 tyX4_ok nmX4 hown hw hS (m10) rfl 17 (by decide) fl_53 rfl rfl rfl (Nat.le_of_ble_eq_true rfl) dX4_setHoliday_17 (fun H locs hw hS => ?_)
  obtain ⟨V1, hV1⟩ : ∃ z, z = vup V 10 (mobj α (nr) (nw) (ns) (1)) := ⟨_, rfl⟩
  have hw : mW G V1 α s H := by rw [hV1]; exact hw
  have hM : mM G V1 α f (nr) (nw) (ns) (1) := by rw [hV1]; exact hM.obj _ _ _ _
  have hO : ∀ j, ¬ (10 ≤ j ∧ j < 25) → V1 j = V j := fun j hj => (show V1 j = V j by rw [hV1]; exact vup_n _ _ (by omega)).trans (hO j hj)
  obtain ⟨m10, m11, m12, m13, m14, m15, m16, m17, m18, m19, m20, m21, m22, m23, m24⟩ := id hM
  refine lv_aload_n hx hb dX4_setHoliday_20 rfl (lv_at hl 0 rfl) ?_
  refine mget (C := RX4) (T := TX4) (N := 18) (ci := 5) hx hb hts in_X4 hown hw (m10) rfl 17 (by decide) fl_53 rfl dX4_setHoliday_21 ?_
  refine lv_if_le (tgt := 29) hx hb dX4_setHoliday_24 (by decide) (fun z => absurd z ((by decide))) (fun c2 => ?_)
  refine lv_iconst (v := (0)) hx hb dX4_setHoliday_27 (by decide) ?_
  exact W.zret (v := 0) hx hb hr (rfl) (fun t ht hW => ⟨⟨_, (V1, α), rfl, ⟨rfl, hM, hO, rfl⟩, by show mH G V1 α t.heap; rw [ht]; exact hw.2.2⟩, hS.F ht⟩) hS.2.2 dX4_setHoliday_28

set_option maxHeartbeats 4000000 in
set_option maxRecDepth 100000 in
theorem c_X4_addWorker {l : Launch} {G : mG} {V : mV} {α : Nat → Nat} {f : sT} {nr nw ns : Nat} {th : Int32} (hM : mM G V α f nr nw ns th) (r : Nat) (hr0 : r < 4) (hnw : nw < 12) : Met l yX4_addWorker wsX4_addWorker ({ frames := 1, cells := 0, slots := 0, locals := 22 }) (va_Pc [.ref (α (10)), .int (nI (r))] (fun U => mW G V α U U.heap)) (va_Qi (fun (r9 : Int32) (u : mV × (Nat → Nat)) => nI nw = r9 ∧ mQ G V α u (u2 f 8 nw (nI r)) nr (nw + 1) ns 0) (fun u t => mH G u.1 u.2 t.heap) (mfree G)) 0 0 (mfree G) := by
  refine Met.ofW (cc := cX4_addWorker) (maxL := 2) (ret := (some .int)) (by decide) rfl ?_
  intro p e s m args below meth c s₁ B hml hv
  obtain ⟨rfl, hw⟩ := hv
  have hx := B.exec
  have hb := B.bytes
  have hr := B.returns
  have hts := atoms_spec (ws := wsX4_addWorker) B.pre
  have hown : s.vm.findClass RX4 = some m.cls := findClass_of_methodNamed B.named
  have hlocks := B.notSynchronized
  have hS : va_S (mfree G) s.heap s.heap [] := va_S.rf
  have hO : ∀ j, ¬ (10 ≤ j ∧ j < 25) → V j = V j := fun _ _ => rfl
  obtain ⟨m10, m11, m12, m13, m14, m15, m16, m17, m18, m19, m20, m21, m22, m23, m24⟩ := id hM
  have fl_64 := hts (.fieldLink RX4 64 "RosterPayModel" "workers" "I") (by decide +kernel)
  have in_X4 : ∀ w ∈ u_ws RX4 TX4 18, w ∈ wsX4_addWorker := by decide +kernel
  have fl_53 := hts (.fieldLink RX4 53 "RosterPayModel" "thrown" "I") (by decide +kernel)
  have fl_35 := hts (.fieldLink RX4 35 "RosterPayModel" "rank" "[I") (by decide +kernel)
  have hl := lv_entry ([.ref (α (10)), .int (nI (r))]) (n := 2) (Nat.le_of_ble_eq_true rfl)
  rw [lg_entry_eq]
  generalize (lg_sl ([.ref (α (10)), .int (nI (r))]) ++ List.replicate (2 - (lg_sl ([.ref (α (10)), .int (nI (r))])).length) Slot.unset).toArray = ls at hl ⊢
  have hl : lv_has ls 2 [(0, .ref (α (10))), (1, .int (nI (r)))] := hl
  refine lv_aload_n hx hb dX4_addWorker_0 rfl (lv_at hl 0 rfl) ?_
  refine lv_iload_n hx hb dX4_addWorker_1 rfl (lv_at hl 1 rfl) ?_
  refine lv_iconst (v := (0)) hx hb dX4_addWorker_2 (by decide) ?_
  refine lv_iconst (v := (3)) hx hb dX4_addWorker_3 (by decide) ?_
  refine mcallSi hw ⟨hx, hb, hml, hown, hts⟩ (c_X4_isIn (nI (r)) (0) (3)) (va_cwS 3 hts gX4_addWorker_X4_isIn rfl rfl rfl (by decide +kernel) ⟨Nat.le_of_ble_eq_true rfl, Nat.le_of_ble_eq_true rfl⟩) rfl hl.1 rfl (Nat.le_of_ble_eq_true rfl) dX4_addWorker_4 ⟨Nat.le_of_ble_eq_true rfl, Nat.le_of_ble_eq_true rfl⟩ ?_
  refine mif_neB (tgt := 14) hx hb dX4_addWorker_7 (by decide) (fun c1 => ?_) (fun z => absurd (inn_3 hr0) z)
  refine lv_aload_n hx hb dX4_addWorker_14 rfl (lv_at hl 0 rfl) ?_
  refine mget (C := RX4) (T := TX4) (N := 18) (ci := 5) hx hb hts in_X4 hown hw (m10) rfl 9 (by decide) fl_64 rfl dX4_addWorker_15 ?_
  refine lv_bipush (v := (12)) hx hb dX4_addWorker_18 (by decide) ?_
  refine lv_icmp_ne (tgt := 27) hx hb dX4_addWorker_20 (by decide) (fun c2 => ?_) (fun z => absurd z (nI_ne 12 (by omega) (by decide) (by omega)))
  refine lv_iconst (v := (0)) hx hb dX4_addWorker_27 (by decide) ?_
  refine mput (C := RX4) (T := TX4) (N := 18) (ci := 5) hx hb hts in_X4 tyX4 tyX4_ok nmX4 hown hw hS (m10) rfl 17 (by decide) fl_53 rfl rfl rfl (Nat.le_of_ble_eq_true rfl) dX4_addWorker_28 (fun H locs hw hS => ?_)
  obtain ⟨V1, hV1⟩ : ∃ z, z = vup V 10 (mobj α (nr) (nw) (ns) (0)) := ⟨_, rfl⟩
  have hw : mW G V1 α s H := by rw [hV1]; exact hw
  have hM : mM G V1 α f (nr) (nw) (ns) (0) := by rw [hV1]; exact hM.obj _ _ _ _
  have hO : ∀ j, ¬ (10 ≤ j ∧ j < 25) → V1 j = V j := fun j hj => (show V1 j = V j by rw [hV1]; exact vup_n _ _ (by omega)).trans (hO j hj)
  obtain ⟨m10, m11, m12, m13, m14, m15, m16, m17, m18, m19, m20, m21, m22, m23, m24⟩ := id hM
  refine lv_aload_n hx hb dX4_addWorker_31 rfl (lv_at hl 0 rfl) ?_
  refine mget (C := RX4) (T := TX4) (N := 18) (ci := 5) hx hb hts in_X4 hown hw (m10) rfl 17 (by decide) fl_53 rfl dX4_addWorker_32 ?_
  refine lv_if_le (tgt := 40) hx hb dX4_addWorker_35 (by decide) (fun c3 => ?_) (fun z => absurd ((by decide)) z)
  refine lv_aload_n hx hb dX4_addWorker_40 rfl (lv_at hl 0 rfl) ?_
  refine mget (C := RX4) (T := TX4) (N := 18) (ci := 5) hx hb hts in_X4 hown hw (m10) rfl 10 (by decide) fl_35 rfl dX4_addWorker_41 ?_
  refine lv_aload_n hx hb dX4_addWorker_44 rfl (lv_at hl 0 rfl) ?_
  refine mget (C := RX4) (T := TX4) (N := 18) (ci := 5) hx hb hts in_X4 hown hw (m10) rfl 9 (by decide) fl_64 rfl dX4_addWorker_45 ?_
  refine lv_iload_n hx hb dX4_addWorker_48 rfl (lv_at hl 1 rfl) ?_
  refine miast' (k := nw) hx hb hw hS (m19) (rfl) (by omega) (by decide) dX4_addWorker_49 (fun H locs hw hS => ?_)
  obtain ⟨V2, hV2⟩ : ∃ z, z = vup V1 19 (.inl (G.2.2.1.1, 12, .inl (upd (f 8) (nw) (nI (r))))) := ⟨_, rfl⟩
  have hw : mW G V2 α s H := by rw [hV2]; exact hw
  have hM : mM G V2 α (u2 f 8 (nw) (nI (r))) (nr) (nw) (ns) (0) := by rw [hV2]; exact hM.a8 _ _
  have hO : ∀ j, ¬ (10 ≤ j ∧ j < 25) → V2 j = V j := fun j hj => (show V2 j = V1 j by rw [hV2]; exact vup_n _ _ (by omega)).trans (hO j hj)
  obtain ⟨m10, m11, m12, m13, m14, m15, m16, m17, m18, m19, m20, m21, m22, m23, m24⟩ := id hM
  refine lv_aload_n hx hb dX4_addWorker_50 rfl (lv_at hl 0 rfl) ?_
  refine lv_dup hx hb dX4_addWorker_51 rfl ?_
  refine mget (C := RX4) (T := TX4) (N := 18) (ci := 5) hx hb hts in_X4 hown hw (m10) rfl 9 (by decide) fl_64 rfl dX4_addWorker_52 ?_
  refine lv_iconst (v := (1)) hx hb dX4_addWorker_55 (by decide) ?_
  refine lv_iadd hx hb dX4_addWorker_56 ?_
  refine lv_topi (fun y4 ey4 => ?_)
  obtain rfl : y4 = (nI (nw + 1)) := ey4.trans (nI_1 nw)
  refine mput (C := RX4) (T := TX4) (N := 18) (ci := 5) hx hb hts in_X4 tyX4 tyX4_ok nmX4 hown hw hS (m10) rfl 9 (by decide) fl_64 rfl rfl rfl (Nat.le_of_ble_eq_true rfl) dX4_addWorker_57 (fun H locs hw hS => ?_)
  obtain ⟨V3, hV3⟩ : ∃ z, z = vup V2 10 (mobj α (nr) (nw + 1) (ns) (0)) := ⟨_, rfl⟩
  have hw : mW G V3 α s H := by rw [hV3]; exact hw
  have hM : mM G V3 α (u2 f 8 (nw) (nI (r))) (nr) (nw + 1) (ns) (0) := by rw [hV3]; exact hM.obj _ _ _ _
  have hO : ∀ j, ¬ (10 ≤ j ∧ j < 25) → V3 j = V j := fun j hj => (show V3 j = V2 j by rw [hV3]; exact vup_n _ _ (by omega)).trans (hO j hj)
  obtain ⟨m10, m11, m12, m13, m14, m15, m16, m17, m18, m19, m20, m21, m22, m23, m24⟩ := id hM
  refine lv_aload_n hx hb dX4_addWorker_60 rfl (lv_at hl 0 rfl) ?_
  refine mget (C := RX4) (T := TX4) (N := 18) (ci := 5) hx hb hts in_X4 hown hw (m10) rfl 9 (by decide) fl_64 rfl dX4_addWorker_61 ?_
  refine lv_iconst (v := (1)) hx hb dX4_addWorker_64 (by decide) ?_
  refine lv_isub hx hb dX4_addWorker_65 ?_
  exact W.iret (v := (nI (nw + 1) - 1)) hx hb hr (fun t ht hW => ⟨⟨_, (V3, α), rfl, ⟨(nI_pred nw).symm, hM, hO, rfl⟩, by show mH G V3 α t.heap; rw [ht]; exact hw.2.2⟩, hS.F ht⟩) hS.2.2 dX4_addWorker_66

set_option maxHeartbeats 4000000 in
set_option maxRecDepth 100000 in
theorem c_X4_addWorker_1 {l : Launch} {G : mG} {V : mV} {α : Nat → Nat} {f : sT} {nr nw ns : Nat} {th : Int32} (hM : mM G V α f nr nw ns th) (y : Int32) (hbad : ¬ inn y 0 3) : Met l yX4_addWorker wsX4_addWorker ({ frames := 1, cells := 0, slots := 0, locals := 22 }) (va_Pc [.ref (α (10)), .int (y)] (fun U => mW G V α U U.heap)) (va_Qi (fun (r9 : Int32) (u : mV × (Nat → Nat)) => 0 = r9 ∧ mQ G V α u f nr nw ns 1) (fun u t => mH G u.1 u.2 t.heap) (mfree G)) 0 0 (mfree G) := by
  refine Met.ofW (cc := cX4_addWorker) (maxL := 2) (ret := (some .int)) (by decide) rfl ?_
  intro p e s m args below meth c s₁ B hml hv
  obtain ⟨rfl, hw⟩ := hv
  have hx := B.exec
  have hb := B.bytes
  have hr := B.returns
  have hts := atoms_spec (ws := wsX4_addWorker) B.pre
  have hown : s.vm.findClass RX4 = some m.cls := findClass_of_methodNamed B.named
  have hlocks := B.notSynchronized
  have hS : va_S (mfree G) s.heap s.heap [] := va_S.rf
  have hO : ∀ j, ¬ (10 ≤ j ∧ j < 25) → V j = V j := fun _ _ => rfl
  obtain ⟨m10, m11, m12, m13, m14, m15, m16, m17, m18, m19, m20, m21, m22, m23, m24⟩ := id hM
  have fl_53 := hts (.fieldLink RX4 53 "RosterPayModel" "thrown" "I") (by decide +kernel)
  have in_X4 : ∀ w ∈ u_ws RX4 TX4 18, w ∈ wsX4_addWorker := by decide +kernel
  have hl := lv_entry ([.ref (α (10)), .int (y)]) (n := 2) (Nat.le_of_ble_eq_true rfl)
  rw [lg_entry_eq]
  generalize (lg_sl ([.ref (α (10)), .int (y)]) ++ List.replicate (2 - (lg_sl ([.ref (α (10)), .int (y)])).length) Slot.unset).toArray = ls at hl ⊢
  have hl : lv_has ls 2 [(0, .ref (α (10))), (1, .int (y))] := hl
  refine lv_aload_n hx hb dX4_addWorker_0 rfl (lv_at hl 0 rfl) ?_
  refine lv_iload_n hx hb dX4_addWorker_1 rfl (lv_at hl 1 rfl) ?_
  refine lv_iconst (v := (0)) hx hb dX4_addWorker_2 (by decide) ?_
  refine lv_iconst (v := (3)) hx hb dX4_addWorker_3 (by decide) ?_
  refine mcallSi hw ⟨hx, hb, hml, hown, hts⟩ (c_X4_isIn (y) (0) (3)) (va_cwS 3 hts gX4_addWorker_X4_isIn rfl rfl rfl (by decide +kernel) ⟨Nat.le_of_ble_eq_true rfl, Nat.le_of_ble_eq_true rfl⟩) rfl hl.1 rfl (Nat.le_of_ble_eq_true rfl) dX4_addWorker_4 ⟨Nat.le_of_ble_eq_true rfl, Nat.le_of_ble_eq_true rfl⟩ ?_
  refine mif_neB (tgt := 14) hx hb dX4_addWorker_7 (by decide) (fun z => absurd z (hbad)) (fun c1 => ?_)
  refine lv_iconst (v := (1)) hx hb dX4_addWorker_10 (by decide) ?_
  refine lv_goto (tgt := 28) hx hb dX4_addWorker_11 (by decide) ?_
  refine mput (C := RX4) (T := TX4) (N := 18) (ci := 5) hx hb hts in_X4 tyX4 tyX4_ok nmX4 hown hw hS (m10) rfl 17 (by decide) fl_53 rfl rfl rfl (Nat.le_of_ble_eq_true rfl) dX4_addWorker_28 (fun H locs hw hS => ?_)
  obtain ⟨V1, hV1⟩ : ∃ z, z = vup V 10 (mobj α (nr) (nw) (ns) (1)) := ⟨_, rfl⟩
  have hw : mW G V1 α s H := by rw [hV1]; exact hw
  have hM : mM G V1 α f (nr) (nw) (ns) (1) := by rw [hV1]; exact hM.obj _ _ _ _
  have hO : ∀ j, ¬ (10 ≤ j ∧ j < 25) → V1 j = V j := fun j hj => (show V1 j = V j by rw [hV1]; exact vup_n _ _ (by omega)).trans (hO j hj)
  obtain ⟨m10, m11, m12, m13, m14, m15, m16, m17, m18, m19, m20, m21, m22, m23, m24⟩ := id hM
  refine lv_aload_n hx hb dX4_addWorker_31 rfl (lv_at hl 0 rfl) ?_
  refine mget (C := RX4) (T := TX4) (N := 18) (ci := 5) hx hb hts in_X4 hown hw (m10) rfl 17 (by decide) fl_53 rfl dX4_addWorker_32 ?_
  refine lv_if_le (tgt := 40) hx hb dX4_addWorker_35 (by decide) (fun z => absurd z ((by decide))) (fun c2 => ?_)
  refine lv_iconst (v := (0)) hx hb dX4_addWorker_38 (by decide) ?_
  exact W.iret (v := 0) hx hb hr (fun t ht hW => ⟨⟨_, (V1, α), rfl, ⟨rfl, hM, hO, rfl⟩, by show mH G V1 α t.heap; rw [ht]; exact hw.2.2⟩, hS.F ht⟩) hS.2.2 dX4_addWorker_39

set_option maxHeartbeats 4000000 in
set_option maxRecDepth 100000 in
theorem c_X4_addWorker_2 {l : Launch} {G : mG} {V : mV} {α : Nat → Nat} {f : sT} {nr nw ns : Nat} {th : Int32} (hM : mM G V α f nr nw ns th) (y : Int32) (hy : inn y 0 3) (hfull : nw = 12) : Met l yX4_addWorker wsX4_addWorker ({ frames := 1, cells := 0, slots := 0, locals := 22 }) (va_Pc [.ref (α (10)), .int (y)] (fun U => mW G V α U U.heap)) (va_Qi (fun (r9 : Int32) (u : mV × (Nat → Nat)) => 0 = r9 ∧ mQ G V α u f nr nw ns 2) (fun u t => mH G u.1 u.2 t.heap) (mfree G)) 0 0 (mfree G) := by
  refine Met.ofW (cc := cX4_addWorker) (maxL := 2) (ret := (some .int)) (by decide) rfl ?_
  intro p e s m args below meth c s₁ B hml hv
  obtain ⟨rfl, hw⟩ := hv
  have hx := B.exec
  have hb := B.bytes
  have hr := B.returns
  have hts := atoms_spec (ws := wsX4_addWorker) B.pre
  have hown : s.vm.findClass RX4 = some m.cls := findClass_of_methodNamed B.named
  have hlocks := B.notSynchronized
  have hS : va_S (mfree G) s.heap s.heap [] := va_S.rf
  have hO : ∀ j, ¬ (10 ≤ j ∧ j < 25) → V j = V j := fun _ _ => rfl
  obtain ⟨m10, m11, m12, m13, m14, m15, m16, m17, m18, m19, m20, m21, m22, m23, m24⟩ := id hM
  have fl_64 := hts (.fieldLink RX4 64 "RosterPayModel" "workers" "I") (by decide +kernel)
  have in_X4 : ∀ w ∈ u_ws RX4 TX4 18, w ∈ wsX4_addWorker := by decide +kernel
  have fl_53 := hts (.fieldLink RX4 53 "RosterPayModel" "thrown" "I") (by decide +kernel)
  have hl := lv_entry ([.ref (α (10)), .int (y)]) (n := 2) (Nat.le_of_ble_eq_true rfl)
  rw [lg_entry_eq]
  generalize (lg_sl ([.ref (α (10)), .int (y)]) ++ List.replicate (2 - (lg_sl ([.ref (α (10)), .int (y)])).length) Slot.unset).toArray = ls at hl ⊢
  have hl : lv_has ls 2 [(0, .ref (α (10))), (1, .int (y))] := hl
  refine lv_aload_n hx hb dX4_addWorker_0 rfl (lv_at hl 0 rfl) ?_
  refine lv_iload_n hx hb dX4_addWorker_1 rfl (lv_at hl 1 rfl) ?_
  refine lv_iconst (v := (0)) hx hb dX4_addWorker_2 (by decide) ?_
  refine lv_iconst (v := (3)) hx hb dX4_addWorker_3 (by decide) ?_
  refine mcallSi hw ⟨hx, hb, hml, hown, hts⟩ (c_X4_isIn (y) (0) (3)) (va_cwS 3 hts gX4_addWorker_X4_isIn rfl rfl rfl (by decide +kernel) ⟨Nat.le_of_ble_eq_true rfl, Nat.le_of_ble_eq_true rfl⟩) rfl hl.1 rfl (Nat.le_of_ble_eq_true rfl) dX4_addWorker_4 ⟨Nat.le_of_ble_eq_true rfl, Nat.le_of_ble_eq_true rfl⟩ ?_
  refine mif_neB (tgt := 14) hx hb dX4_addWorker_7 (by decide) (fun c1 => ?_) (fun z => absurd (hy) z)
  refine lv_aload_n hx hb dX4_addWorker_14 rfl (lv_at hl 0 rfl) ?_
  refine mget (C := RX4) (T := TX4) (N := 18) (ci := 5) hx hb hts in_X4 hown hw (m10) rfl 9 (by decide) fl_64 rfl dX4_addWorker_15 ?_
  refine lv_bipush (v := (12)) hx hb dX4_addWorker_18 (by decide) ?_
  refine lv_icmp_ne (tgt := 27) hx hb dX4_addWorker_20 (by decide) (fun z => absurd ((by rw [hfull]; rfl)) z) (fun c2 => ?_)
  refine lv_iconst (v := (2)) hx hb dX4_addWorker_23 (by decide) ?_
  refine lv_goto (tgt := 28) hx hb dX4_addWorker_24 (by decide) ?_
  refine mput (C := RX4) (T := TX4) (N := 18) (ci := 5) hx hb hts in_X4 tyX4 tyX4_ok nmX4 hown hw hS (m10) rfl 17 (by decide) fl_53 rfl rfl rfl (Nat.le_of_ble_eq_true rfl) dX4_addWorker_28 (fun H locs hw hS => ?_)
  obtain ⟨V1, hV1⟩ : ∃ z, z = vup V 10 (mobj α (nr) (nw) (ns) (2)) := ⟨_, rfl⟩
  have hw : mW G V1 α s H := by rw [hV1]; exact hw
  have hM : mM G V1 α f (nr) (nw) (ns) (2) := by rw [hV1]; exact hM.obj _ _ _ _
  have hO : ∀ j, ¬ (10 ≤ j ∧ j < 25) → V1 j = V j := fun j hj => (show V1 j = V j by rw [hV1]; exact vup_n _ _ (by omega)).trans (hO j hj)
  obtain ⟨m10, m11, m12, m13, m14, m15, m16, m17, m18, m19, m20, m21, m22, m23, m24⟩ := id hM
  refine lv_aload_n hx hb dX4_addWorker_31 rfl (lv_at hl 0 rfl) ?_
  refine mget (C := RX4) (T := TX4) (N := 18) (ci := 5) hx hb hts in_X4 hown hw (m10) rfl 17 (by decide) fl_53 rfl dX4_addWorker_32 ?_
  refine lv_if_le (tgt := 40) hx hb dX4_addWorker_35 (by decide) (fun z => absurd z ((by decide))) (fun c3 => ?_)
  refine lv_iconst (v := (0)) hx hb dX4_addWorker_38 (by decide) ?_
  exact W.iret (v := 0) hx hb hr (fun t ht hW => ⟨⟨_, (V1, α), rfl, ⟨rfl, hM, hO, rfl⟩, by show mH G V1 α t.heap; rw [ht]; exact hw.2.2⟩, hS.F ht⟩) hS.2.2 dX4_addWorker_39

set_option maxHeartbeats 4000000 in
set_option maxRecDepth 100000 in
theorem c_X4_setRank {l : Launch} {G : mG} {V : mV} {α : Nat → Nat} {f : sT} {nr nw ns : Nat} {th : Int32} (hM : mM G V α f nr nw ns th) (k r : Nat) (hk : k < nw) (hnw : nw ≤ 12) (hr0 : r < 4) : Met l yX4_setRank wsX4_setRank ({ frames := 2, cells := 0, slots := 0, locals := 43 }) (va_Pc [.ref (α (10)), .int (nI (k)), .int (nI (r))] (fun U => mW G V α U U.heap)) (va_Qi (fun (r9 : Int32) (u : mV × (Nat → Nat)) => f 8 k = r9 ∧ mQ G V α u (u2 f 8 k (nI r)) nr nw ns 0) (fun u t => mH G u.1 u.2 t.heap) (mfree G)) 0 0 (mfree G) := by
  refine Met.ofW (cc := cX4_setRank) (maxL := 4) (ret := (some .int)) (by decide) rfl ?_
  intro p e s m args below meth c s₁ B hml hv
  obtain ⟨rfl, hw⟩ := hv
  have hx := B.exec
  have hb := B.bytes
  have hr := B.returns
  have hts := atoms_spec (ws := wsX4_setRank) B.pre
  have hown : s.vm.findClass RX4 = some m.cls := findClass_of_methodNamed B.named
  have hlocks := B.notSynchronized
  have hS : va_S (mfree G) s.heap s.heap [] := va_S.rf
  have hO : ∀ j, ¬ (10 ≤ j ∧ j < 25) → V j = V j := fun _ _ => rfl
  obtain ⟨m10, m11, m12, m13, m14, m15, m16, m17, m18, m19, m20, m21, m22, m23, m24⟩ := id hM
  have fl_53 := hts (.fieldLink RX4 53 "RosterPayModel" "thrown" "I") (by decide +kernel)
  have in_X4 : ∀ w ∈ u_ws RX4 TX4 18, w ∈ wsX4_setRank := by decide +kernel
  have fl_35 := hts (.fieldLink RX4 35 "RosterPayModel" "rank" "[I") (by decide +kernel)
  have hl := lv_entry ([.ref (α (10)), .int (nI (k)), .int (nI (r))]) (n := 4) (Nat.le_of_ble_eq_true rfl)
  rw [lg_entry_eq]
  generalize (lg_sl ([.ref (α (10)), .int (nI (k)), .int (nI (r))]) ++ List.replicate (4 - (lg_sl ([.ref (α (10)), .int (nI (k)), .int (nI (r))])).length) Slot.unset).toArray = ls at hl ⊢
  have hl : lv_has ls 4 [(0, .ref (α (10))), (1, .int (nI (k))), (2, .int (nI (r)))] := hl
  refine lv_aload_n hx hb dX4_setRank_0 rfl (lv_at hl 0 rfl) ?_
  refine lv_aload_n hx hb dX4_setRank_1 rfl (lv_at hl 0 rfl) ?_
  refine lv_iload_n hx hb dX4_setRank_2 rfl (lv_at hl 1 rfl) ?_
  refine mcallVi hw (m10) rfl rfl ⟨hx, hb, hml, hown, hts⟩ (c_X4_isWorker hM (nI (k))) (cwV 1 hts gX4_setRank_X4_isWorker rfl rfl rfl (by decide +kernel) ⟨Nat.le_of_ble_eq_true rfl, Nat.le_of_ble_eq_true rfl⟩) rfl hl.1 rfl (Nat.le_of_ble_eq_true rfl) dX4_setRank_3 ⟨Nat.le_of_ble_eq_true rfl, Nat.le_of_ble_eq_true rfl⟩ ?_
  refine mif_neB (tgt := 13) hx hb dX4_setRank_6 (by decide) (fun c1 => ?_) (fun z => absurd (inn_ix hk (by omega)) z)
  refine lv_iload_n hx hb dX4_setRank_13 rfl (lv_at hl 2 rfl) ?_
  refine lv_iconst (v := (0)) hx hb dX4_setRank_14 (by decide) ?_
  refine lv_iconst (v := (3)) hx hb dX4_setRank_15 (by decide) ?_
  refine mcallSi hw ⟨hx, hb, hml, hown, hts⟩ (c_X4_isIn (nI (r)) (0) (3)) (va_cwS 3 hts gX4_setRank_X4_isIn rfl rfl rfl (by decide +kernel) ⟨Nat.le_of_ble_eq_true rfl, Nat.le_of_ble_eq_true rfl⟩) rfl hl.1 rfl (Nat.le_of_ble_eq_true rfl) dX4_setRank_16 ⟨Nat.le_of_ble_eq_true rfl, Nat.le_of_ble_eq_true rfl⟩ ?_
  refine mif_eqB (tgt := 26) hx hb dX4_setRank_19 (by decide) (fun z => absurd (inn_3 hr0) z) (fun c2 => ?_)
  refine lv_iconst (v := (0)) hx hb dX4_setRank_22 (by decide) ?_
  refine lv_goto (tgt := 27) hx hb dX4_setRank_23 (by decide) ?_
  refine mput (C := RX4) (T := TX4) (N := 18) (ci := 5) hx hb hts in_X4 tyX4 tyX4_ok nmX4 hown hw hS (m10) rfl 17 (by decide) fl_53 rfl rfl rfl (Nat.le_of_ble_eq_true rfl) dX4_setRank_27 (fun H locs hw hS => ?_)
  obtain ⟨V1, hV1⟩ : ∃ z, z = vup V 10 (mobj α (nr) (nw) (ns) (0)) := ⟨_, rfl⟩
  have hw : mW G V1 α s H := by rw [hV1]; exact hw
  have hM : mM G V1 α f (nr) (nw) (ns) (0) := by rw [hV1]; exact hM.obj _ _ _ _
  have hO : ∀ j, ¬ (10 ≤ j ∧ j < 25) → V1 j = V j := fun j hj => (show V1 j = V j by rw [hV1]; exact vup_n _ _ (by omega)).trans (hO j hj)
  obtain ⟨m10, m11, m12, m13, m14, m15, m16, m17, m18, m19, m20, m21, m22, m23, m24⟩ := id hM
  refine lv_aload_n hx hb dX4_setRank_30 rfl (lv_at hl 0 rfl) ?_
  refine mget (C := RX4) (T := TX4) (N := 18) (ci := 5) hx hb hts in_X4 hown hw (m10) rfl 17 (by decide) fl_53 rfl dX4_setRank_31 ?_
  refine lv_if_le (tgt := 39) hx hb dX4_setRank_34 (by decide) (fun c3 => ?_) (fun z => absurd ((by decide)) z)
  refine lv_aload_n hx hb dX4_setRank_39 rfl (lv_at hl 0 rfl) ?_
  refine mget (C := RX4) (T := TX4) (N := 18) (ci := 5) hx hb hts in_X4 hown hw (m10) rfl 10 (by decide) fl_35 rfl dX4_setRank_40 ?_
  refine lv_iload_n hx hb dX4_setRank_43 rfl (lv_at hl 1 rfl) ?_
  refine miald' (k := k) hx hb hw (m19) (rfl) (by omega) (by decide) dX4_setRank_44 ?_
  refine lv_istore_n (lv' := [(3, .int (f 8 (k))), (0, .ref (α (10))), (1, .int (nI (k))), (2, .int (nI (r)))]) hx hb dX4_setRank_45 rfl hl (by decide) rfl (fun ls hl => ?_)
  refine lv_aload_n hx hb dX4_setRank_46 rfl (lv_at hl 1 rfl) ?_
  refine mget (C := RX4) (T := TX4) (N := 18) (ci := 5) hx hb hts in_X4 hown hw (m10) rfl 10 (by decide) fl_35 rfl dX4_setRank_47 ?_
  refine lv_iload_n hx hb dX4_setRank_50 rfl (lv_at hl 2 rfl) ?_
  refine lv_iload_n hx hb dX4_setRank_51 rfl (lv_at hl 3 rfl) ?_
  refine miast' (k := k) hx hb hw hS (m19) (rfl) (by omega) (by decide) dX4_setRank_52 (fun H locs hw hS => ?_)
  obtain ⟨V2, hV2⟩ : ∃ z, z = vup V1 19 (.inl (G.2.2.1.1, 12, .inl (upd (f 8) (k) (nI (r))))) := ⟨_, rfl⟩
  have hw : mW G V2 α s H := by rw [hV2]; exact hw
  have hM : mM G V2 α (u2 f 8 (k) (nI (r))) (nr) (nw) (ns) (0) := by rw [hV2]; exact hM.a8 _ _
  have hO : ∀ j, ¬ (10 ≤ j ∧ j < 25) → V2 j = V j := fun j hj => (show V2 j = V1 j by rw [hV2]; exact vup_n _ _ (by omega)).trans (hO j hj)
  obtain ⟨m10, m11, m12, m13, m14, m15, m16, m17, m18, m19, m20, m21, m22, m23, m24⟩ := id hM
  refine lv_iload_n hx hb dX4_setRank_53 rfl (lv_at hl 0 rfl) ?_
  exact W.iret (v := f 8 (k)) hx hb hr (fun t ht hW => ⟨⟨_, (V2, α), rfl, ⟨rfl, hM, hO, rfl⟩, by show mH G V2 α t.heap; rw [ht]; exact hw.2.2⟩, hS.F ht⟩) hS.2.2 dX4_setRank_54

set_option maxHeartbeats 4000000 in
set_option maxRecDepth 100000 in
theorem c_X4_setRank_1 {l : Launch} {G : mG} {V : mV} {α : Nat → Nat} {f : sT} {nr nw ns : Nat} {th : Int32} (hM : mM G V α f nr nw ns th) (y x : Int32) (hbad : ¬ inn y 0 (nI nw - 1)) : Met l yX4_setRank wsX4_setRank ({ frames := 2, cells := 0, slots := 0, locals := 43 }) (va_Pc [.ref (α (10)), .int (y), .int (x)] (fun U => mW G V α U U.heap)) (va_Qi (fun (r9 : Int32) (u : mV × (Nat → Nat)) => 0 = r9 ∧ mQ G V α u f nr nw ns 1) (fun u t => mH G u.1 u.2 t.heap) (mfree G)) 0 0 (mfree G) := by
  refine Met.ofW (cc := cX4_setRank) (maxL := 4) (ret := (some .int)) (by decide) rfl ?_
  intro p e s m args below meth c s₁ B hml hv
  obtain ⟨rfl, hw⟩ := hv
  have hx := B.exec
  have hb := B.bytes
  have hr := B.returns
  have hts := atoms_spec (ws := wsX4_setRank) B.pre
  have hown : s.vm.findClass RX4 = some m.cls := findClass_of_methodNamed B.named
  have hlocks := B.notSynchronized
  have hS : va_S (mfree G) s.heap s.heap [] := va_S.rf
  have hO : ∀ j, ¬ (10 ≤ j ∧ j < 25) → V j = V j := fun _ _ => rfl
  obtain ⟨m10, m11, m12, m13, m14, m15, m16, m17, m18, m19, m20, m21, m22, m23, m24⟩ := id hM
  have fl_53 := hts (.fieldLink RX4 53 "RosterPayModel" "thrown" "I") (by decide +kernel)
  have in_X4 : ∀ w ∈ u_ws RX4 TX4 18, w ∈ wsX4_setRank := by decide +kernel
  have hl := lv_entry ([.ref (α (10)), .int (y), .int (x)]) (n := 4) (Nat.le_of_ble_eq_true rfl)
  rw [lg_entry_eq]
  generalize (lg_sl ([.ref (α (10)), .int (y), .int (x)]) ++ List.replicate (4 - (lg_sl ([.ref (α (10)), .int (y), .int (x)])).length) Slot.unset).toArray = ls at hl ⊢
  have hl : lv_has ls 4 [(0, .ref (α (10))), (1, .int (y)), (2, .int (x))] := hl
  refine lv_aload_n hx hb dX4_setRank_0 rfl (lv_at hl 0 rfl) ?_
  refine lv_aload_n hx hb dX4_setRank_1 rfl (lv_at hl 0 rfl) ?_
  refine lv_iload_n hx hb dX4_setRank_2 rfl (lv_at hl 1 rfl) ?_
  refine mcallVi hw (m10) rfl rfl ⟨hx, hb, hml, hown, hts⟩ (c_X4_isWorker hM (y)) (cwV 1 hts gX4_setRank_X4_isWorker rfl rfl rfl (by decide +kernel) ⟨Nat.le_of_ble_eq_true rfl, Nat.le_of_ble_eq_true rfl⟩) rfl hl.1 rfl (Nat.le_of_ble_eq_true rfl) dX4_setRank_3 ⟨Nat.le_of_ble_eq_true rfl, Nat.le_of_ble_eq_true rfl⟩ ?_
  refine mif_neB (tgt := 13) hx hb dX4_setRank_6 (by decide) (fun z => absurd z (hbad)) (fun c1 => ?_)
  refine lv_iconst (v := (1)) hx hb dX4_setRank_9 (by decide) ?_
  refine lv_goto (tgt := 27) hx hb dX4_setRank_10 (by decide) ?_
  refine mput (C := RX4) (T := TX4) (N := 18) (ci := 5) hx hb hts in_X4 tyX4 tyX4_ok nmX4 hown hw hS (m10) rfl 17 (by decide) fl_53 rfl rfl rfl (Nat.le_of_ble_eq_true rfl) dX4_setRank_27 (fun H locs hw hS => ?_)
  obtain ⟨V1, hV1⟩ : ∃ z, z = vup V 10 (mobj α (nr) (nw) (ns) (1)) := ⟨_, rfl⟩
  have hw : mW G V1 α s H := by rw [hV1]; exact hw
  have hM : mM G V1 α f (nr) (nw) (ns) (1) := by rw [hV1]; exact hM.obj _ _ _ _
  have hO : ∀ j, ¬ (10 ≤ j ∧ j < 25) → V1 j = V j := fun j hj => (show V1 j = V j by rw [hV1]; exact vup_n _ _ (by omega)).trans (hO j hj)
  obtain ⟨m10, m11, m12, m13, m14, m15, m16, m17, m18, m19, m20, m21, m22, m23, m24⟩ := id hM
  refine lv_aload_n hx hb dX4_setRank_30 rfl (lv_at hl 0 rfl) ?_
  refine mget (C := RX4) (T := TX4) (N := 18) (ci := 5) hx hb hts in_X4 hown hw (m10) rfl 17 (by decide) fl_53 rfl dX4_setRank_31 ?_
  refine lv_if_le (tgt := 39) hx hb dX4_setRank_34 (by decide) (fun z => absurd z ((by decide))) (fun c2 => ?_)
  refine lv_iconst (v := (0)) hx hb dX4_setRank_37 (by decide) ?_
  exact W.iret (v := 0) hx hb hr (fun t ht hW => ⟨⟨_, (V1, α), rfl, ⟨rfl, hM, hO, rfl⟩, by show mH G V1 α t.heap; rw [ht]; exact hw.2.2⟩, hS.F ht⟩) hS.2.2 dX4_setRank_38

set_option maxHeartbeats 4000000 in
set_option maxRecDepth 100000 in
theorem c_X4_setRank_2 {l : Launch} {G : mG} {V : mV} {α : Nat → Nat} {f : sT} {nr nw ns : Nat} {th : Int32} (hM : mM G V α f nr nw ns th) (y x : Int32) (hy : inn y 0 (nI nw - 1)) (hbad : ¬ inn x 0 3) : Met l yX4_setRank wsX4_setRank ({ frames := 2, cells := 0, slots := 0, locals := 43 }) (va_Pc [.ref (α (10)), .int (y), .int (x)] (fun U => mW G V α U U.heap)) (va_Qi (fun (r9 : Int32) (u : mV × (Nat → Nat)) => 0 = r9 ∧ mQ G V α u f nr nw ns 2) (fun u t => mH G u.1 u.2 t.heap) (mfree G)) 0 0 (mfree G) := by
  refine Met.ofW (cc := cX4_setRank) (maxL := 4) (ret := (some .int)) (by decide) rfl ?_
  intro p e s m args below meth c s₁ B hml hv
  obtain ⟨rfl, hw⟩ := hv
  have hx := B.exec
  have hb := B.bytes
  have hr := B.returns
  have hts := atoms_spec (ws := wsX4_setRank) B.pre
  have hown : s.vm.findClass RX4 = some m.cls := findClass_of_methodNamed B.named
  have hlocks := B.notSynchronized
  have hS : va_S (mfree G) s.heap s.heap [] := va_S.rf
  have hO : ∀ j, ¬ (10 ≤ j ∧ j < 25) → V j = V j := fun _ _ => rfl
  obtain ⟨m10, m11, m12, m13, m14, m15, m16, m17, m18, m19, m20, m21, m22, m23, m24⟩ := id hM
  have fl_53 := hts (.fieldLink RX4 53 "RosterPayModel" "thrown" "I") (by decide +kernel)
  have in_X4 : ∀ w ∈ u_ws RX4 TX4 18, w ∈ wsX4_setRank := by decide +kernel
  have hl := lv_entry ([.ref (α (10)), .int (y), .int (x)]) (n := 4) (Nat.le_of_ble_eq_true rfl)
  rw [lg_entry_eq]
  generalize (lg_sl ([.ref (α (10)), .int (y), .int (x)]) ++ List.replicate (4 - (lg_sl ([.ref (α (10)), .int (y), .int (x)])).length) Slot.unset).toArray = ls at hl ⊢
  have hl : lv_has ls 4 [(0, .ref (α (10))), (1, .int (y)), (2, .int (x))] := hl
  refine lv_aload_n hx hb dX4_setRank_0 rfl (lv_at hl 0 rfl) ?_
  refine lv_aload_n hx hb dX4_setRank_1 rfl (lv_at hl 0 rfl) ?_
  refine lv_iload_n hx hb dX4_setRank_2 rfl (lv_at hl 1 rfl) ?_
  refine mcallVi hw (m10) rfl rfl ⟨hx, hb, hml, hown, hts⟩ (c_X4_isWorker hM (y)) (cwV 1 hts gX4_setRank_X4_isWorker rfl rfl rfl (by decide +kernel) ⟨Nat.le_of_ble_eq_true rfl, Nat.le_of_ble_eq_true rfl⟩) rfl hl.1 rfl (Nat.le_of_ble_eq_true rfl) dX4_setRank_3 ⟨Nat.le_of_ble_eq_true rfl, Nat.le_of_ble_eq_true rfl⟩ ?_
  refine mif_neB (tgt := 13) hx hb dX4_setRank_6 (by decide) (fun c1 => ?_) (fun z => absurd (hy) z)
  refine lv_iload_n hx hb dX4_setRank_13 rfl (lv_at hl 2 rfl) ?_
  refine lv_iconst (v := (0)) hx hb dX4_setRank_14 (by decide) ?_
  refine lv_iconst (v := (3)) hx hb dX4_setRank_15 (by decide) ?_
  refine mcallSi hw ⟨hx, hb, hml, hown, hts⟩ (c_X4_isIn (x) (0) (3)) (va_cwS 3 hts gX4_setRank_X4_isIn rfl rfl rfl (by decide +kernel) ⟨Nat.le_of_ble_eq_true rfl, Nat.le_of_ble_eq_true rfl⟩) rfl hl.1 rfl (Nat.le_of_ble_eq_true rfl) dX4_setRank_16 ⟨Nat.le_of_ble_eq_true rfl, Nat.le_of_ble_eq_true rfl⟩ ?_
  refine mif_eqB (tgt := 26) hx hb dX4_setRank_19 (by decide) (fun c2 => ?_) (fun z => absurd z (hbad))
  refine lv_iconst (v := (2)) hx hb dX4_setRank_26 (by decide) ?_
  refine mput (C := RX4) (T := TX4) (N := 18) (ci := 5) hx hb hts in_X4 tyX4 tyX4_ok nmX4 hown hw hS (m10) rfl 17 (by decide) fl_53 rfl rfl rfl (Nat.le_of_ble_eq_true rfl) dX4_setRank_27 (fun H locs hw hS => ?_)
  obtain ⟨V1, hV1⟩ : ∃ z, z = vup V 10 (mobj α (nr) (nw) (ns) (2)) := ⟨_, rfl⟩
  have hw : mW G V1 α s H := by rw [hV1]; exact hw
  have hM : mM G V1 α f (nr) (nw) (ns) (2) := by rw [hV1]; exact hM.obj _ _ _ _
  have hO : ∀ j, ¬ (10 ≤ j ∧ j < 25) → V1 j = V j := fun j hj => (show V1 j = V j by rw [hV1]; exact vup_n _ _ (by omega)).trans (hO j hj)
  obtain ⟨m10, m11, m12, m13, m14, m15, m16, m17, m18, m19, m20, m21, m22, m23, m24⟩ := id hM
  refine lv_aload_n hx hb dX4_setRank_30 rfl (lv_at hl 0 rfl) ?_
  refine mget (C := RX4) (T := TX4) (N := 18) (ci := 5) hx hb hts in_X4 hown hw (m10) rfl 17 (by decide) fl_53 rfl dX4_setRank_31 ?_
  refine lv_if_le (tgt := 39) hx hb dX4_setRank_34 (by decide) (fun z => absurd z ((by decide))) (fun c3 => ?_)
  refine lv_iconst (v := (0)) hx hb dX4_setRank_37 (by decide) ?_
  exact W.iret (v := 0) hx hb hr (fun t ht hW => ⟨⟨_, (V1, α), rfl, ⟨rfl, hM, hO, rfl⟩, by show mH G V1 α t.heap; rw [ht]; exact hw.2.2⟩, hS.F ht⟩) hS.2.2 dX4_setRank_38

set_option maxHeartbeats 4000000 in
set_option maxRecDepth 100000 in
theorem c_X4_isShift {l : Launch} {G : mG} {V : mV} {α : Nat → Nat} {f : sT} {nr nw ns : Nat} {th : Int32} (hM : mM G V α f nr nw ns th) (k : Nat) (hk : k < ns) (hns : ns ≤ 80) : Met l yX4_isShift wsX4_isShift ({ frames := 1, cells := 0, slots := 0, locals := 22 }) (va_Pc [.ref (α (10)), .int (nI (k))] (fun U => mW G V α U U.heap)) (va_Qi (fun (r9 : Int32) (u : mV × (Nat → Nat)) => 1 = r9 ∧ mQ G V α u f nr nw ns 0) (fun u t => mH G u.1 u.2 t.heap) (mfree G)) 0 0 (mfree G) := by
  refine Met.ofW (cc := cX4_isShift) (maxL := 2) (ret := (some .boolean)) (by decide) rfl ?_
  intro p e s m args below meth c s₁ B hml hv
  obtain ⟨rfl, hw⟩ := hv
  have hx := B.exec
  have hb := B.bytes
  have hr := B.returns
  have hts := atoms_spec (ws := wsX4_isShift) B.pre
  have hown : s.vm.findClass RX4 = some m.cls := findClass_of_methodNamed B.named
  have hlocks := B.notSynchronized
  have hS : va_S (mfree G) s.heap s.heap [] := va_S.rf
  have hO : ∀ j, ¬ (10 ≤ j ∧ j < 25) → V j = V j := fun _ _ => rfl
  obtain ⟨m10, m11, m12, m13, m14, m15, m16, m17, m18, m19, m20, m21, m22, m23, m24⟩ := id hM
  have fl_67 := hts (.fieldLink RX4 67 "RosterPayModel" "shifts" "I") (by decide +kernel)
  have in_X4 : ∀ w ∈ u_ws RX4 TX4 18, w ∈ wsX4_isShift := by decide +kernel
  have fl_53 := hts (.fieldLink RX4 53 "RosterPayModel" "thrown" "I") (by decide +kernel)
  have hl := lv_entry ([.ref (α (10)), .int (nI (k))]) (n := 2) (Nat.le_of_ble_eq_true rfl)
  rw [lg_entry_eq]
  generalize (lg_sl ([.ref (α (10)), .int (nI (k))]) ++ List.replicate (2 - (lg_sl ([.ref (α (10)), .int (nI (k))])).length) Slot.unset).toArray = ls at hl ⊢
  have hl : lv_has ls 2 [(0, .ref (α (10))), (1, .int (nI (k)))] := hl
  refine lv_aload_n hx hb dX4_isShift_0 rfl (lv_at hl 0 rfl) ?_
  refine lv_iload_n hx hb dX4_isShift_1 rfl (lv_at hl 1 rfl) ?_
  refine lv_iconst (v := (0)) hx hb dX4_isShift_2 (by decide) ?_
  refine lv_aload_n hx hb dX4_isShift_3 rfl (lv_at hl 0 rfl) ?_
  refine mget (C := RX4) (T := TX4) (N := 18) (ci := 5) hx hb hts in_X4 hown hw (m10) rfl 11 (by decide) fl_67 rfl dX4_isShift_4 ?_
  refine lv_iconst (v := (1)) hx hb dX4_isShift_7 (by decide) ?_
  refine lv_isub hx hb dX4_isShift_8 ?_
  refine mcallSi hw ⟨hx, hb, hml, hown, hts⟩ (c_X4_isIn (nI (k)) (0) ((nI (ns) - 1))) (va_cwS 3 hts gX4_isShift_X4_isIn rfl rfl rfl (by decide +kernel) ⟨Nat.le_of_ble_eq_true rfl, Nat.le_of_ble_eq_true rfl⟩) rfl hl.1 rfl (Nat.le_of_ble_eq_true rfl) dX4_isShift_9 ⟨Nat.le_of_ble_eq_true rfl, Nat.le_of_ble_eq_true rfl⟩ ?_
  refine mif_eqB (tgt := 19) hx hb dX4_isShift_12 (by decide) (fun z => absurd (inn_ix hk (by omega)) z) (fun c1 => ?_)
  refine lv_iconst (v := (0)) hx hb dX4_isShift_15 (by decide) ?_
  refine lv_goto (tgt := 20) hx hb dX4_isShift_16 (by decide) ?_
  refine mput (C := RX4) (T := TX4) (N := 18) (ci := 5) hx hb hts in_X4 tyX4 tyX4_ok nmX4 hown hw hS (m10) rfl 17 (by decide) fl_53 rfl rfl rfl (Nat.le_of_ble_eq_true rfl) dX4_isShift_20 (fun H locs hw hS => ?_)
  obtain ⟨V1, hV1⟩ : ∃ z, z = vup V 10 (mobj α (nr) (nw) (ns) (0)) := ⟨_, rfl⟩
  have hw : mW G V1 α s H := by rw [hV1]; exact hw
  have hM : mM G V1 α f (nr) (nw) (ns) (0) := by rw [hV1]; exact hM.obj _ _ _ _
  have hO : ∀ j, ¬ (10 ≤ j ∧ j < 25) → V1 j = V j := fun j hj => (show V1 j = V j by rw [hV1]; exact vup_n _ _ (by omega)).trans (hO j hj)
  obtain ⟨m10, m11, m12, m13, m14, m15, m16, m17, m18, m19, m20, m21, m22, m23, m24⟩ := id hM
  refine lv_aload_n hx hb dX4_isShift_23 rfl (lv_at hl 0 rfl) ?_
  refine mget (C := RX4) (T := TX4) (N := 18) (ci := 5) hx hb hts in_X4 hown hw (m10) rfl 17 (by decide) fl_53 rfl dX4_isShift_24 ?_
  refine lv_if_ne (tgt := 34) hx hb dX4_isShift_27 (by decide) (fun z => absurd ((by decide)) z) (fun c2 => ?_)
  refine lv_iconst (v := (1)) hx hb dX4_isShift_30 (by decide) ?_
  refine lv_goto (tgt := 35) hx hb dX4_isShift_31 (by decide) ?_
  exact W.zret (v := 1) hx hb hr (rfl) (fun t ht hW => ⟨⟨_, (V1, α), rfl, ⟨rfl, hM, hO, rfl⟩, by show mH G V1 α t.heap; rw [ht]; exact hw.2.2⟩, hS.F ht⟩) hS.2.2 dX4_isShift_35

set_option maxHeartbeats 4000000 in
set_option maxRecDepth 100000 in
theorem c_X4_isShift_1 {l : Launch} {G : mG} {V : mV} {α : Nat → Nat} {f : sT} {nr nw ns : Nat} {th : Int32} (hM : mM G V α f nr nw ns th) (y : Int32) (hbad : ¬ inn y 0 (nI ns - 1)) : Met l yX4_isShift wsX4_isShift ({ frames := 1, cells := 0, slots := 0, locals := 22 }) (va_Pc [.ref (α (10)), .int (y)] (fun U => mW G V α U U.heap)) (va_Qi (fun (r9 : Int32) (u : mV × (Nat → Nat)) => 0 = r9 ∧ mQ G V α u f nr nw ns 1) (fun u t => mH G u.1 u.2 t.heap) (mfree G)) 0 0 (mfree G) := by
  refine Met.ofW (cc := cX4_isShift) (maxL := 2) (ret := (some .boolean)) (by decide) rfl ?_
  intro p e s m args below meth c s₁ B hml hv
  obtain ⟨rfl, hw⟩ := hv
  have hx := B.exec
  have hb := B.bytes
  have hr := B.returns
  have hts := atoms_spec (ws := wsX4_isShift) B.pre
  have hown : s.vm.findClass RX4 = some m.cls := findClass_of_methodNamed B.named
  have hlocks := B.notSynchronized
  have hS : va_S (mfree G) s.heap s.heap [] := va_S.rf
  have hO : ∀ j, ¬ (10 ≤ j ∧ j < 25) → V j = V j := fun _ _ => rfl
  obtain ⟨m10, m11, m12, m13, m14, m15, m16, m17, m18, m19, m20, m21, m22, m23, m24⟩ := id hM
  have fl_67 := hts (.fieldLink RX4 67 "RosterPayModel" "shifts" "I") (by decide +kernel)
  have in_X4 : ∀ w ∈ u_ws RX4 TX4 18, w ∈ wsX4_isShift := by decide +kernel
  have fl_53 := hts (.fieldLink RX4 53 "RosterPayModel" "thrown" "I") (by decide +kernel)
  have hl := lv_entry ([.ref (α (10)), .int (y)]) (n := 2) (Nat.le_of_ble_eq_true rfl)
  rw [lg_entry_eq]
  generalize (lg_sl ([.ref (α (10)), .int (y)]) ++ List.replicate (2 - (lg_sl ([.ref (α (10)), .int (y)])).length) Slot.unset).toArray = ls at hl ⊢
  have hl : lv_has ls 2 [(0, .ref (α (10))), (1, .int (y))] := hl
  refine lv_aload_n hx hb dX4_isShift_0 rfl (lv_at hl 0 rfl) ?_
  refine lv_iload_n hx hb dX4_isShift_1 rfl (lv_at hl 1 rfl) ?_
  refine lv_iconst (v := (0)) hx hb dX4_isShift_2 (by decide) ?_
  refine lv_aload_n hx hb dX4_isShift_3 rfl (lv_at hl 0 rfl) ?_
  refine mget (C := RX4) (T := TX4) (N := 18) (ci := 5) hx hb hts in_X4 hown hw (m10) rfl 11 (by decide) fl_67 rfl dX4_isShift_4 ?_
  refine lv_iconst (v := (1)) hx hb dX4_isShift_7 (by decide) ?_
  refine lv_isub hx hb dX4_isShift_8 ?_
  refine mcallSi hw ⟨hx, hb, hml, hown, hts⟩ (c_X4_isIn (y) (0) ((nI (ns) - 1))) (va_cwS 3 hts gX4_isShift_X4_isIn rfl rfl rfl (by decide +kernel) ⟨Nat.le_of_ble_eq_true rfl, Nat.le_of_ble_eq_true rfl⟩) rfl hl.1 rfl (Nat.le_of_ble_eq_true rfl) dX4_isShift_9 ⟨Nat.le_of_ble_eq_true rfl, Nat.le_of_ble_eq_true rfl⟩ ?_
  refine mif_eqB (tgt := 19) hx hb dX4_isShift_12 (by decide) (fun c1 => ?_) (fun z => absurd z (hbad))
  refine lv_iconst (v := (1)) hx hb dX4_isShift_19 (by decide) ?_
  refine mput (C := RX4) (T := TX4) (N := 18) (ci := 5) hx hb hts in_X4 tyX4 tyX4_ok nmX4 hown hw hS (m10) rfl 17 (by decide) fl_53 rfl rfl rfl (Nat.le_of_ble_eq_true rfl) dX4_isShift_20 (fun H locs hw hS => ?_)
  obtain ⟨V1, hV1⟩ : ∃ z, z = vup V 10 (mobj α (nr) (nw) (ns) (1)) := ⟨_, rfl⟩
  have hw : mW G V1 α s H := by rw [hV1]; exact hw
  have hM : mM G V1 α f (nr) (nw) (ns) (1) := by rw [hV1]; exact hM.obj _ _ _ _
  have hO : ∀ j, ¬ (10 ≤ j ∧ j < 25) → V1 j = V j := fun j hj => (show V1 j = V j by rw [hV1]; exact vup_n _ _ (by omega)).trans (hO j hj)
  obtain ⟨m10, m11, m12, m13, m14, m15, m16, m17, m18, m19, m20, m21, m22, m23, m24⟩ := id hM
  refine lv_aload_n hx hb dX4_isShift_23 rfl (lv_at hl 0 rfl) ?_
  refine mget (C := RX4) (T := TX4) (N := 18) (ci := 5) hx hb hts in_X4 hown hw (m10) rfl 17 (by decide) fl_53 rfl dX4_isShift_24 ?_
  refine lv_if_ne (tgt := 34) hx hb dX4_isShift_27 (by decide) (fun c2 => ?_) (fun z => absurd z ((by decide)))
  refine lv_iconst (v := (0)) hx hb dX4_isShift_34 (by decide) ?_
  exact W.zret (v := 0) hx hb hr (rfl) (fun t ht hW => ⟨⟨_, (V1, α), rfl, ⟨rfl, hM, hO, rfl⟩, by show mH G V1 α t.heap; rw [ht]; exact hw.2.2⟩, hS.F ht⟩) hS.2.2 dX4_isShift_35

set_option maxHeartbeats 4000000 in
set_option maxRecDepth 100000 in
theorem c_X4_cancel {l : Launch} {G : mG} {V : mV} {α : Nat → Nat} {f : sT} {nr nw ns : Nat} {th : Int32} (hM : mM G V α f nr nw ns th) (hwf : mwf f nr nw ns) (si : Nat) (hs : si < ns) (hg : f 13 si = 0) : Met l yX4_cancel wsX4_cancel ({ frames := 4, cells := 0, slots := 0, locals := 96 }) (va_Pc [.ref (α (10)), .int (nI (si))] (fun U => mW G V α U U.heap)) (va_Qi (fun (r9 : Int32) (u : mV × (Nat → Nat)) => s_pay f nr si = r9 ∧ mQ G V α u (u2 f 13 si 1) nr nw ns 0) (fun u t => mH G u.1 u.2 t.heap) (mfree G)) 0 0 (mfree G) := by
  refine Met.ofW (cc := cX4_cancel) (maxL := 3) (ret := (some .int)) (by decide) rfl ?_
  intro p e s m args below meth c s₁ B hml hv
  obtain ⟨rfl, hw⟩ := hv
  have hx := B.exec
  have hb := B.bytes
  have hr := B.returns
  have hts := atoms_spec (ws := wsX4_cancel) B.pre
  have hown : s.vm.findClass RX4 = some m.cls := findClass_of_methodNamed B.named
  have hlocks := B.notSynchronized
  have hS : va_S (mfree G) s.heap s.heap [] := va_S.rf
  have hO : ∀ j, ¬ (10 ≤ j ∧ j < 25) → V j = V j := fun _ _ => rfl
  obtain ⟨m10, m11, m12, m13, m14, m15, m16, m17, m18, m19, m20, m21, m22, m23, m24⟩ := id hM
  obtain ⟨⟨hnr, hnw, hns⟩, -, -, h6w, h7w, -⟩ := id hwf
  obtain ⟨⟨hw0si, hw1si⟩, h9si, hasi, h10si, hr0si, h8si, hN2si, hNsi⟩ := hwf.sh si (by omega)
  have fl_50 := hts (.fieldLink RX4 50 "RosterPayModel" "gone" "[Z") (by decide +kernel)
  have in_X4 : ∀ w ∈ u_ws RX4 TX4 18, w ∈ wsX4_cancel := by decide +kernel
  have fl_53 := hts (.fieldLink RX4 53 "RosterPayModel" "thrown" "I") (by decide +kernel)
  have hl := lv_entry ([.ref (α (10)), .int (nI (si))]) (n := 3) (Nat.le_of_ble_eq_true rfl)
  rw [lg_entry_eq]
  generalize (lg_sl ([.ref (α (10)), .int (nI (si))]) ++ List.replicate (3 - (lg_sl ([.ref (α (10)), .int (nI (si))])).length) Slot.unset).toArray = ls at hl ⊢
  have hl : lv_has ls 3 [(0, .ref (α (10))), (1, .int (nI (si)))] := hl
  refine lv_aload_n hx hb dX4_cancel_0 rfl (lv_at hl 0 rfl) ?_
  refine lv_iload_n hx hb dX4_cancel_1 rfl (lv_at hl 1 rfl) ?_
  refine mcallVw hw (m10) rfl rfl ⟨hx, hb, hml, hown, hts⟩ hS (c_X4_isShift hM si hs hns) (cwV 1 hts gX4_cancel_X4_isShift rfl rfl rfl (by decide +kernel) ⟨Nat.le_of_ble_eq_true rfl, Nat.le_of_ble_eq_true rfl⟩) rfl hl.1 rfl (Nat.le_of_ble_eq_true rfl) dX4_cancel_2 ⟨Nat.le_of_ble_eq_true rfl, Nat.le_of_ble_eq_true rfl⟩ (fun r9 V1 α9 H locs hp hw hS => ?_)
  obtain ⟨rfl, hM, hO9, hα9⟩ := hp
  dsimp only at hM hO9 hα9
  subst hα9
  have hO : ∀ j, ¬ (10 ≤ j ∧ j < 25) → V1 j = V j := fun j hj => (hO9 j hj).trans (hO j hj)
  obtain ⟨m10, m11, m12, m13, m14, m15, m16, m17, m18, m19, m20, m21, m22, m23, m24⟩ := id hM
  refine lv_if_ne (tgt := 10) hx hb dX4_cancel_5 (by decide) (fun c1 => ?_) (fun z => absurd z ((by decide)))
  refine lv_aload_n hx hb dX4_cancel_10 rfl (lv_at hl 0 rfl) ?_
  refine lv_aload_n hx hb dX4_cancel_11 rfl (lv_at hl 0 rfl) ?_
  refine mget (C := RX4) (T := TX4) (N := 18) (ci := 5) hx hb hts in_X4 hown hw (m10) rfl 16 (by decide) fl_50 rfl dX4_cancel_12 ?_
  refine lv_iload_n hx hb dX4_cancel_15 rfl (lv_at hl 1 rfl) ?_
  refine mzald' (k := si) hx hb hw (m24) (rfl) (by omega) (by decide) dX4_cancel_16 ?_
  refine lv_if_eq (tgt := 24) hx hb dX4_cancel_17 (by decide) (fun c2 => ?_) (fun z => absurd (hg) z)
  refine lv_iconst (v := (0)) hx hb dX4_cancel_24 (by decide) ?_
  refine mput (C := RX4) (T := TX4) (N := 18) (ci := 5) hx hb hts in_X4 tyX4 tyX4_ok nmX4 hown hw hS (m10) rfl 17 (by decide) fl_53 rfl rfl rfl (Nat.le_of_ble_eq_true rfl) dX4_cancel_25 (fun H locs hw hS => ?_)
  obtain ⟨V2, hV2⟩ : ∃ z, z = vup V1 10 (mobj α (nr) (nw) (ns) (0)) := ⟨_, rfl⟩
  have hw : mW G V2 α s H := by rw [hV2]; exact hw
  have hM : mM G V2 α f (nr) (nw) (ns) (0) := by rw [hV2]; exact hM.obj _ _ _ _
  have hO : ∀ j, ¬ (10 ≤ j ∧ j < 25) → V2 j = V j := fun j hj => (show V2 j = V1 j by rw [hV2]; exact vup_n _ _ (by omega)).trans (hO j hj)
  obtain ⟨m10, m11, m12, m13, m14, m15, m16, m17, m18, m19, m20, m21, m22, m23, m24⟩ := id hM
  refine lv_aload_n hx hb dX4_cancel_28 rfl (lv_at hl 0 rfl) ?_
  refine mget (C := RX4) (T := TX4) (N := 18) (ci := 5) hx hb hts in_X4 hown hw (m10) rfl 17 (by decide) fl_53 rfl dX4_cancel_29 ?_
  refine lv_if_le (tgt := 37) hx hb dX4_cancel_32 (by decide) (fun c3 => ?_) (fun z => absurd ((by decide)) z)
  refine lv_aload_n hx hb dX4_cancel_37 rfl (lv_at hl 0 rfl) ?_
  refine lv_iload_n hx hb dX4_cancel_38 rfl (lv_at hl 1 rfl) ?_
  refine mcallVi hw (m10) rfl rfl ⟨hx, hb, hml, hown, hts⟩ (c_X4_payed hM si (wN f si) (aN f si) (rN f (wN f si)) (by omega) hw1si h9si h8si hr0si hasi h10si hnr (pN f si) hNsi hN2si) (cwV 1 hts gX4_cancel_X4_payed rfl rfl rfl (by decide +kernel) ⟨Nat.le_of_ble_eq_true rfl, Nat.le_of_ble_eq_true rfl⟩) rfl hl.1 rfl (Nat.le_of_ble_eq_true rfl) dX4_cancel_39 ⟨Nat.le_of_ble_eq_true rfl, Nat.le_of_ble_eq_true rfl⟩ ?_
  refine lv_istore_n (lv' := [(2, .int (s_pay f nr si)), (0, .ref (α (10))), (1, .int (nI (si)))]) hx hb dX4_cancel_42 rfl hl (by decide) rfl (fun ls hl => ?_)
  refine lv_aload_n hx hb dX4_cancel_43 rfl (lv_at hl 1 rfl) ?_
  refine mget (C := RX4) (T := TX4) (N := 18) (ci := 5) hx hb hts in_X4 hown hw (m10) rfl 16 (by decide) fl_50 rfl dX4_cancel_44 ?_
  refine lv_iload_n hx hb dX4_cancel_47 rfl (lv_at hl 2 rfl) ?_
  refine lv_iconst (v := (1)) hx hb dX4_cancel_48 (by decide) ?_
  refine mzast' (k := si) hx hb hw hS (m24) (rfl) (by omega) (by decide) (rfl) dX4_cancel_49 (fun H locs hw hS => ?_)
  obtain ⟨V3, hV3⟩ : ∃ z, z = vup V2 24 (.inl (G.2.2.1.2, 80, .inl (upd (f 13) (si) (1)))) := ⟨_, rfl⟩
  have hw : mW G V3 α s H := by rw [hV3]; exact hw
  have hM : mM G V3 α (u2 f 13 (si) (1)) (nr) (nw) (ns) (0) := by rw [hV3]; exact hM.a13 _ _
  have hO : ∀ j, ¬ (10 ≤ j ∧ j < 25) → V3 j = V j := fun j hj => (show V3 j = V2 j by rw [hV3]; exact vup_n _ _ (by omega)).trans (hO j hj)
  obtain ⟨m10, m11, m12, m13, m14, m15, m16, m17, m18, m19, m20, m21, m22, m23, m24⟩ := id hM
  refine lv_iload_n hx hb dX4_cancel_50 rfl (lv_at hl 0 rfl) ?_
  exact W.iret (v := s_pay f nr si) hx hb hr (fun t ht hW => ⟨⟨_, (V3, α), rfl, ⟨rfl, hM, hO, rfl⟩, by show mH G V3 α t.heap; rw [ht]; exact hw.2.2⟩, hS.F ht⟩) hS.2.2 dX4_cancel_51

set_option maxHeartbeats 4000000 in
set_option maxRecDepth 100000 in
theorem c_X4_cancel_1 {l : Launch} {G : mG} {V : mV} {α : Nat → Nat} {f : sT} {nr nw ns : Nat} {th : Int32} (hM : mM G V α f nr nw ns th) (y : Int32) (hbad : ¬ inn y 0 (nI ns - 1)) : Met l yX4_cancel wsX4_cancel ({ frames := 2, cells := 0, slots := 0, locals := 43 }) (va_Pc [.ref (α (10)), .int (y)] (fun U => mW G V α U U.heap)) (va_Qi (fun (r9 : Int32) (u : mV × (Nat → Nat)) => 0 = r9 ∧ mQ G V α u f nr nw ns 1) (fun u t => mH G u.1 u.2 t.heap) (mfree G)) 0 0 (mfree G) := by
  refine Met.ofW (cc := cX4_cancel) (maxL := 3) (ret := (some .int)) (by decide) rfl ?_
  intro p e s m args below meth c s₁ B hml hv
  obtain ⟨rfl, hw⟩ := hv
  have hx := B.exec
  have hb := B.bytes
  have hr := B.returns
  have hts := atoms_spec (ws := wsX4_cancel) B.pre
  have hown : s.vm.findClass RX4 = some m.cls := findClass_of_methodNamed B.named
  have hlocks := B.notSynchronized
  have hS : va_S (mfree G) s.heap s.heap [] := va_S.rf
  have hO : ∀ j, ¬ (10 ≤ j ∧ j < 25) → V j = V j := fun _ _ => rfl
  obtain ⟨m10, m11, m12, m13, m14, m15, m16, m17, m18, m19, m20, m21, m22, m23, m24⟩ := id hM
  have hl := lv_entry ([.ref (α (10)), .int (y)]) (n := 3) (Nat.le_of_ble_eq_true rfl)
  rw [lg_entry_eq]
  generalize (lg_sl ([.ref (α (10)), .int (y)]) ++ List.replicate (3 - (lg_sl ([.ref (α (10)), .int (y)])).length) Slot.unset).toArray = ls at hl ⊢
  have hl : lv_has ls 3 [(0, .ref (α (10))), (1, .int (y))] := hl
  refine lv_aload_n hx hb dX4_cancel_0 rfl (lv_at hl 0 rfl) ?_
  refine lv_iload_n hx hb dX4_cancel_1 rfl (lv_at hl 1 rfl) ?_
  refine mcallVw hw (m10) rfl rfl ⟨hx, hb, hml, hown, hts⟩ hS (c_X4_isShift_1 hM y hbad) (cwV 1 hts gX4_cancel_X4_isShift rfl rfl rfl (by decide +kernel) ⟨Nat.le_of_ble_eq_true rfl, Nat.le_of_ble_eq_true rfl⟩) rfl hl.1 rfl (Nat.le_of_ble_eq_true rfl) dX4_cancel_2 ⟨Nat.le_of_ble_eq_true rfl, Nat.le_of_ble_eq_true rfl⟩ (fun r9 V1 α9 H locs hp hw hS => ?_)
  obtain ⟨rfl, hM, hO9, hα9⟩ := hp
  dsimp only at hM hO9 hα9
  subst hα9
  have hO : ∀ j, ¬ (10 ≤ j ∧ j < 25) → V1 j = V j := fun j hj => (hO9 j hj).trans (hO j hj)
  obtain ⟨m10, m11, m12, m13, m14, m15, m16, m17, m18, m19, m20, m21, m22, m23, m24⟩ := id hM
  refine lv_if_ne (tgt := 10) hx hb dX4_cancel_5 (by decide) (fun z => absurd ((by decide)) z) (fun c1 => ?_)
  refine lv_iconst (v := (0)) hx hb dX4_cancel_8 (by decide) ?_
  exact W.iret (v := 0) hx hb hr (fun t ht hW => ⟨⟨_, (V1, α), rfl, ⟨rfl, hM, hO, rfl⟩, by show mH G V1 α t.heap; rw [ht]; exact hw.2.2⟩, hS.F ht⟩) hS.2.2 dX4_cancel_9

set_option maxHeartbeats 4000000 in
set_option maxRecDepth 100000 in
theorem c_X4_cancel_2 {l : Launch} {G : mG} {V : mV} {α : Nat → Nat} {f : sT} {nr nw ns : Nat} {th : Int32} (hM : mM G V α f nr nw ns th) (si : Nat) (hs : si < ns) (hns : ns ≤ 80) (hg : ¬ f 13 si = 0) : Met l yX4_cancel wsX4_cancel ({ frames := 2, cells := 0, slots := 0, locals := 43 }) (va_Pc [.ref (α (10)), .int (nI (si))] (fun U => mW G V α U U.heap)) (va_Qi (fun (r9 : Int32) (u : mV × (Nat → Nat)) => 0 = r9 ∧ mQ G V α u f nr nw ns 2) (fun u t => mH G u.1 u.2 t.heap) (mfree G)) 0 0 (mfree G) := by
  refine Met.ofW (cc := cX4_cancel) (maxL := 3) (ret := (some .int)) (by decide) rfl ?_
  intro p e s m args below meth c s₁ B hml hv
  obtain ⟨rfl, hw⟩ := hv
  have hx := B.exec
  have hb := B.bytes
  have hr := B.returns
  have hts := atoms_spec (ws := wsX4_cancel) B.pre
  have hown : s.vm.findClass RX4 = some m.cls := findClass_of_methodNamed B.named
  have hlocks := B.notSynchronized
  have hS : va_S (mfree G) s.heap s.heap [] := va_S.rf
  have hO : ∀ j, ¬ (10 ≤ j ∧ j < 25) → V j = V j := fun _ _ => rfl
  obtain ⟨m10, m11, m12, m13, m14, m15, m16, m17, m18, m19, m20, m21, m22, m23, m24⟩ := id hM
  have fl_50 := hts (.fieldLink RX4 50 "RosterPayModel" "gone" "[Z") (by decide +kernel)
  have in_X4 : ∀ w ∈ u_ws RX4 TX4 18, w ∈ wsX4_cancel := by decide +kernel
  have fl_53 := hts (.fieldLink RX4 53 "RosterPayModel" "thrown" "I") (by decide +kernel)
  have hl := lv_entry ([.ref (α (10)), .int (nI (si))]) (n := 3) (Nat.le_of_ble_eq_true rfl)
  rw [lg_entry_eq]
  generalize (lg_sl ([.ref (α (10)), .int (nI (si))]) ++ List.replicate (3 - (lg_sl ([.ref (α (10)), .int (nI (si))])).length) Slot.unset).toArray = ls at hl ⊢
  have hl : lv_has ls 3 [(0, .ref (α (10))), (1, .int (nI (si)))] := hl
  refine lv_aload_n hx hb dX4_cancel_0 rfl (lv_at hl 0 rfl) ?_
  refine lv_iload_n hx hb dX4_cancel_1 rfl (lv_at hl 1 rfl) ?_
  refine mcallVw hw (m10) rfl rfl ⟨hx, hb, hml, hown, hts⟩ hS (c_X4_isShift hM si hs hns) (cwV 1 hts gX4_cancel_X4_isShift rfl rfl rfl (by decide +kernel) ⟨Nat.le_of_ble_eq_true rfl, Nat.le_of_ble_eq_true rfl⟩) rfl hl.1 rfl (Nat.le_of_ble_eq_true rfl) dX4_cancel_2 ⟨Nat.le_of_ble_eq_true rfl, Nat.le_of_ble_eq_true rfl⟩ (fun r9 V1 α9 H locs hp hw hS => ?_)
  obtain ⟨rfl, hM, hO9, hα9⟩ := hp
  dsimp only at hM hO9 hα9
  subst hα9
  have hO : ∀ j, ¬ (10 ≤ j ∧ j < 25) → V1 j = V j := fun j hj => (hO9 j hj).trans (hO j hj)
  obtain ⟨m10, m11, m12, m13, m14, m15, m16, m17, m18, m19, m20, m21, m22, m23, m24⟩ := id hM
  refine lv_if_ne (tgt := 10) hx hb dX4_cancel_5 (by decide) (fun c1 => ?_) (fun z => absurd z ((by decide)))
  refine lv_aload_n hx hb dX4_cancel_10 rfl (lv_at hl 0 rfl) ?_
  refine lv_aload_n hx hb dX4_cancel_11 rfl (lv_at hl 0 rfl) ?_
  refine mget (C := RX4) (T := TX4) (N := 18) (ci := 5) hx hb hts in_X4 hown hw (m10) rfl 16 (by decide) fl_50 rfl dX4_cancel_12 ?_
  refine lv_iload_n hx hb dX4_cancel_15 rfl (lv_at hl 1 rfl) ?_
  refine mzald' (k := si) hx hb hw (m24) (rfl) (by omega) (by decide) dX4_cancel_16 ?_
  refine lv_if_eq (tgt := 24) hx hb dX4_cancel_17 (by decide) (fun z => absurd z (hg)) (fun c2 => ?_)
  refine lv_iconst (v := (2)) hx hb dX4_cancel_20 (by decide) ?_
  refine lv_goto (tgt := 25) hx hb dX4_cancel_21 (by decide) ?_
  refine mput (C := RX4) (T := TX4) (N := 18) (ci := 5) hx hb hts in_X4 tyX4 tyX4_ok nmX4 hown hw hS (m10) rfl 17 (by decide) fl_53 rfl rfl rfl (Nat.le_of_ble_eq_true rfl) dX4_cancel_25 (fun H locs hw hS => ?_)
  obtain ⟨V2, hV2⟩ : ∃ z, z = vup V1 10 (mobj α (nr) (nw) (ns) (2)) := ⟨_, rfl⟩
  have hw : mW G V2 α s H := by rw [hV2]; exact hw
  have hM : mM G V2 α f (nr) (nw) (ns) (2) := by rw [hV2]; exact hM.obj _ _ _ _
  have hO : ∀ j, ¬ (10 ≤ j ∧ j < 25) → V2 j = V j := fun j hj => (show V2 j = V1 j by rw [hV2]; exact vup_n _ _ (by omega)).trans (hO j hj)
  obtain ⟨m10, m11, m12, m13, m14, m15, m16, m17, m18, m19, m20, m21, m22, m23, m24⟩ := id hM
  refine lv_aload_n hx hb dX4_cancel_28 rfl (lv_at hl 0 rfl) ?_
  refine mget (C := RX4) (T := TX4) (N := 18) (ci := 5) hx hb hts in_X4 hown hw (m10) rfl 17 (by decide) fl_53 rfl dX4_cancel_29 ?_
  refine lv_if_le (tgt := 37) hx hb dX4_cancel_32 (by decide) (fun z => absurd z ((by decide))) (fun c3 => ?_)
  refine lv_iconst (v := (0)) hx hb dX4_cancel_35 (by decide) ?_
  exact W.iret (v := 0) hx hb hr (fun t ht hW => ⟨⟨_, (V2, α), rfl, ⟨rfl, hM, hO, rfl⟩, by show mH G V2 α t.heap; rw [ht]; exact hw.2.2⟩, hS.F ht⟩) hS.2.2 dX4_cancel_36

set_option maxHeartbeats 4000000 in
set_option maxRecDepth 100000 in
theorem c_X4_takeBreaks {l : Launch} {G : mG} {V : mV} {α : Nat → Nat} {f : sT} {nr nw ns : Nat} {th : Int32} (hM : mM G V α f nr nw ns th) (si : Nat) (hs : si < ns) (hns : ns ≤ 80) (hg : f 13 si = 0) (t : Nat) (ht0 : t ≤ 5) : Met l yX4_takeBreaks wsX4_takeBreaks ({ frames := 2, cells := 0, slots := 0, locals := 43 }) (va_Pc [.ref (α (10)), .int (nI (si)), .int (nI (t))] (fun U => mW G V α U U.heap)) (va_Qi (fun (r9 : Int32) (u : mV × (Nat → Nat)) => f 12 si = r9 ∧ mQ G V α u (u2 f 12 si (nI t)) nr nw ns 0) (fun u t => mH G u.1 u.2 t.heap) (mfree G)) 0 0 (mfree G) := by
  refine Met.ofW (cc := cX4_takeBreaks) (maxL := 4) (ret := (some .int)) (by decide) rfl ?_
  intro p e s m args below meth c s₁ B hml hv
  obtain ⟨rfl, hw⟩ := hv
  have hx := B.exec
  have hb := B.bytes
  have hr := B.returns
  have hts := atoms_spec (ws := wsX4_takeBreaks) B.pre
  have hown : s.vm.findClass RX4 = some m.cls := findClass_of_methodNamed B.named
  have hlocks := B.notSynchronized
  have hS : va_S (mfree G) s.heap s.heap [] := va_S.rf
  have hO : ∀ j, ¬ (10 ≤ j ∧ j < 25) → V j = V j := fun _ _ => rfl
  obtain ⟨m10, m11, m12, m13, m14, m15, m16, m17, m18, m19, m20, m21, m22, m23, m24⟩ := id hM
  have fl_50 := hts (.fieldLink RX4 50 "RosterPayModel" "gone" "[Z") (by decide +kernel)
  have in_X4 : ∀ w ∈ u_ws RX4 TX4 18, w ∈ wsX4_takeBreaks := by decide +kernel
  have fl_53 := hts (.fieldLink RX4 53 "RosterPayModel" "thrown" "I") (by decide +kernel)
  have fl_47 := hts (.fieldLink RX4 47 "RosterPayModel" "taken" "[I") (by decide +kernel)
  have hl := lv_entry ([.ref (α (10)), .int (nI (si)), .int (nI (t))]) (n := 4) (Nat.le_of_ble_eq_true rfl)
  rw [lg_entry_eq]
  generalize (lg_sl ([.ref (α (10)), .int (nI (si)), .int (nI (t))]) ++ List.replicate (4 - (lg_sl ([.ref (α (10)), .int (nI (si)), .int (nI (t))])).length) Slot.unset).toArray = ls at hl ⊢
  have hl : lv_has ls 4 [(0, .ref (α (10))), (1, .int (nI (si))), (2, .int (nI (t)))] := hl
  refine lv_aload_n hx hb dX4_takeBreaks_0 rfl (lv_at hl 0 rfl) ?_
  refine lv_iload_n hx hb dX4_takeBreaks_1 rfl (lv_at hl 1 rfl) ?_
  refine mcallVw hw (m10) rfl rfl ⟨hx, hb, hml, hown, hts⟩ hS (c_X4_isShift hM si hs hns) (cwV 1 hts gX4_takeBreaks_X4_isShift rfl rfl rfl (by decide +kernel) ⟨Nat.le_of_ble_eq_true rfl, Nat.le_of_ble_eq_true rfl⟩) rfl hl.1 rfl (Nat.le_of_ble_eq_true rfl) dX4_takeBreaks_2 ⟨Nat.le_of_ble_eq_true rfl, Nat.le_of_ble_eq_true rfl⟩ (fun r9 V1 α9 H locs hp hw hS => ?_)
  obtain ⟨rfl, hM, hO9, hα9⟩ := hp
  dsimp only at hM hO9 hα9
  subst hα9
  have hO : ∀ j, ¬ (10 ≤ j ∧ j < 25) → V1 j = V j := fun j hj => (hO9 j hj).trans (hO j hj)
  obtain ⟨m10, m11, m12, m13, m14, m15, m16, m17, m18, m19, m20, m21, m22, m23, m24⟩ := id hM
  refine lv_if_ne (tgt := 10) hx hb dX4_takeBreaks_5 (by decide) (fun c1 => ?_) (fun z => absurd z ((by decide)))
  refine lv_aload_n hx hb dX4_takeBreaks_10 rfl (lv_at hl 0 rfl) ?_
  refine lv_iload_n hx hb dX4_takeBreaks_11 rfl (lv_at hl 2 rfl) ?_
  refine lv_iconst (v := (0)) hx hb dX4_takeBreaks_12 (by decide) ?_
  refine lv_iconst (v := (5)) hx hb dX4_takeBreaks_13 (by decide) ?_
  refine mcallSi hw ⟨hx, hb, hml, hown, hts⟩ (c_X4_isIn (nI (t)) (0) (5)) (va_cwS 3 hts gX4_takeBreaks_X4_isIn rfl rfl rfl (by decide +kernel) ⟨Nat.le_of_ble_eq_true rfl, Nat.le_of_ble_eq_true rfl⟩) rfl hl.1 rfl (Nat.le_of_ble_eq_true rfl) dX4_takeBreaks_14 ⟨Nat.le_of_ble_eq_true rfl, Nat.le_of_ble_eq_true rfl⟩ ?_
  refine mif_neB (tgt := 24) hx hb dX4_takeBreaks_17 (by decide) (fun c2 => ?_) (fun z => absurd (inn_ix (n := 6) (k := t) (by omega) (by decide)) z)
  refine lv_aload_n hx hb dX4_takeBreaks_24 rfl (lv_at hl 0 rfl) ?_
  refine mget (C := RX4) (T := TX4) (N := 18) (ci := 5) hx hb hts in_X4 hown hw (m10) rfl 16 (by decide) fl_50 rfl dX4_takeBreaks_25 ?_
  refine lv_iload_n hx hb dX4_takeBreaks_28 rfl (lv_at hl 1 rfl) ?_
  refine mzald' (k := si) hx hb hw (m24) (rfl) (by omega) (by decide) dX4_takeBreaks_29 ?_
  refine lv_if_eq (tgt := 37) hx hb dX4_takeBreaks_30 (by decide) (fun c3 => ?_) (fun z => absurd (hg) z)
  refine lv_iconst (v := (0)) hx hb dX4_takeBreaks_37 (by decide) ?_
  refine mput (C := RX4) (T := TX4) (N := 18) (ci := 5) hx hb hts in_X4 tyX4 tyX4_ok nmX4 hown hw hS (m10) rfl 17 (by decide) fl_53 rfl rfl rfl (Nat.le_of_ble_eq_true rfl) dX4_takeBreaks_38 (fun H locs hw hS => ?_)
  obtain ⟨V2, hV2⟩ : ∃ z, z = vup V1 10 (mobj α (nr) (nw) (ns) (0)) := ⟨_, rfl⟩
  have hw : mW G V2 α s H := by rw [hV2]; exact hw
  have hM : mM G V2 α f (nr) (nw) (ns) (0) := by rw [hV2]; exact hM.obj _ _ _ _
  have hO : ∀ j, ¬ (10 ≤ j ∧ j < 25) → V2 j = V j := fun j hj => (show V2 j = V1 j by rw [hV2]; exact vup_n _ _ (by omega)).trans (hO j hj)
  obtain ⟨m10, m11, m12, m13, m14, m15, m16, m17, m18, m19, m20, m21, m22, m23, m24⟩ := id hM
  refine lv_aload_n hx hb dX4_takeBreaks_41 rfl (lv_at hl 0 rfl) ?_
  refine mget (C := RX4) (T := TX4) (N := 18) (ci := 5) hx hb hts in_X4 hown hw (m10) rfl 17 (by decide) fl_53 rfl dX4_takeBreaks_42 ?_
  refine lv_if_le (tgt := 50) hx hb dX4_takeBreaks_45 (by decide) (fun c4 => ?_) (fun z => absurd ((by decide)) z)
  refine lv_aload_n hx hb dX4_takeBreaks_50 rfl (lv_at hl 0 rfl) ?_
  refine mget (C := RX4) (T := TX4) (N := 18) (ci := 5) hx hb hts in_X4 hown hw (m10) rfl 15 (by decide) fl_47 rfl dX4_takeBreaks_51 ?_
  refine lv_iload_n hx hb dX4_takeBreaks_54 rfl (lv_at hl 1 rfl) ?_
  refine miald' (k := si) hx hb hw (m23) (rfl) (by omega) (by decide) dX4_takeBreaks_55 ?_
  refine lv_istore_n (lv' := [(3, .int (f 12 (si))), (0, .ref (α (10))), (1, .int (nI (si))), (2, .int (nI (t)))]) hx hb dX4_takeBreaks_56 rfl hl (by decide) rfl (fun ls hl => ?_)
  refine lv_aload_n hx hb dX4_takeBreaks_57 rfl (lv_at hl 1 rfl) ?_
  refine mget (C := RX4) (T := TX4) (N := 18) (ci := 5) hx hb hts in_X4 hown hw (m10) rfl 15 (by decide) fl_47 rfl dX4_takeBreaks_58 ?_
  refine lv_iload_n hx hb dX4_takeBreaks_61 rfl (lv_at hl 2 rfl) ?_
  refine lv_iload_n hx hb dX4_takeBreaks_62 rfl (lv_at hl 3 rfl) ?_
  refine miast' (k := si) hx hb hw hS (m23) (rfl) (by omega) (by decide) dX4_takeBreaks_63 (fun H locs hw hS => ?_)
  obtain ⟨V3, hV3⟩ : ∃ z, z = vup V2 23 (.inl (G.2.2.1.1, 80, .inl (upd (f 12) (si) (nI (t))))) := ⟨_, rfl⟩
  have hw : mW G V3 α s H := by rw [hV3]; exact hw
  have hM : mM G V3 α (u2 f 12 (si) (nI (t))) (nr) (nw) (ns) (0) := by rw [hV3]; exact hM.a12 _ _
  have hO : ∀ j, ¬ (10 ≤ j ∧ j < 25) → V3 j = V j := fun j hj => (show V3 j = V2 j by rw [hV3]; exact vup_n _ _ (by omega)).trans (hO j hj)
  obtain ⟨m10, m11, m12, m13, m14, m15, m16, m17, m18, m19, m20, m21, m22, m23, m24⟩ := id hM
  refine lv_iload_n hx hb dX4_takeBreaks_64 rfl (lv_at hl 0 rfl) ?_
  exact W.iret (v := f 12 (si)) hx hb hr (fun t ht hW => ⟨⟨_, (V3, α), rfl, ⟨rfl, hM, hO, rfl⟩, by show mH G V3 α t.heap; rw [ht]; exact hw.2.2⟩, hS.F ht⟩) hS.2.2 dX4_takeBreaks_65

set_option maxHeartbeats 4000000 in
set_option maxRecDepth 100000 in
theorem c_X4_takeBreaks_1 {l : Launch} {G : mG} {V : mV} {α : Nat → Nat} {f : sT} {nr nw ns : Nat} {th : Int32} (hM : mM G V α f nr nw ns th) (y : Int32) (hbad : ¬ inn y 0 (nI ns - 1)) (x : Int32) : Met l yX4_takeBreaks wsX4_takeBreaks ({ frames := 2, cells := 0, slots := 0, locals := 43 }) (va_Pc [.ref (α (10)), .int (y), .int (x)] (fun U => mW G V α U U.heap)) (va_Qi (fun (r9 : Int32) (u : mV × (Nat → Nat)) => 0 = r9 ∧ mQ G V α u f nr nw ns 1) (fun u t => mH G u.1 u.2 t.heap) (mfree G)) 0 0 (mfree G) := by
  refine Met.ofW (cc := cX4_takeBreaks) (maxL := 4) (ret := (some .int)) (by decide) rfl ?_
  intro p e s m args below meth c s₁ B hml hv
  obtain ⟨rfl, hw⟩ := hv
  have hx := B.exec
  have hb := B.bytes
  have hr := B.returns
  have hts := atoms_spec (ws := wsX4_takeBreaks) B.pre
  have hown : s.vm.findClass RX4 = some m.cls := findClass_of_methodNamed B.named
  have hlocks := B.notSynchronized
  have hS : va_S (mfree G) s.heap s.heap [] := va_S.rf
  have hO : ∀ j, ¬ (10 ≤ j ∧ j < 25) → V j = V j := fun _ _ => rfl
  obtain ⟨m10, m11, m12, m13, m14, m15, m16, m17, m18, m19, m20, m21, m22, m23, m24⟩ := id hM
  have hl := lv_entry ([.ref (α (10)), .int (y), .int (x)]) (n := 4) (Nat.le_of_ble_eq_true rfl)
  rw [lg_entry_eq]
  generalize (lg_sl ([.ref (α (10)), .int (y), .int (x)]) ++ List.replicate (4 - (lg_sl ([.ref (α (10)), .int (y), .int (x)])).length) Slot.unset).toArray = ls at hl ⊢
  have hl : lv_has ls 4 [(0, .ref (α (10))), (1, .int (y)), (2, .int (x))] := hl
  refine lv_aload_n hx hb dX4_takeBreaks_0 rfl (lv_at hl 0 rfl) ?_
  refine lv_iload_n hx hb dX4_takeBreaks_1 rfl (lv_at hl 1 rfl) ?_
  refine mcallVw hw (m10) rfl rfl ⟨hx, hb, hml, hown, hts⟩ hS (c_X4_isShift_1 hM y hbad) (cwV 1 hts gX4_takeBreaks_X4_isShift rfl rfl rfl (by decide +kernel) ⟨Nat.le_of_ble_eq_true rfl, Nat.le_of_ble_eq_true rfl⟩) rfl hl.1 rfl (Nat.le_of_ble_eq_true rfl) dX4_takeBreaks_2 ⟨Nat.le_of_ble_eq_true rfl, Nat.le_of_ble_eq_true rfl⟩ (fun r9 V1 α9 H locs hp hw hS => ?_)
  obtain ⟨rfl, hM, hO9, hα9⟩ := hp
  dsimp only at hM hO9 hα9
  subst hα9
  have hO : ∀ j, ¬ (10 ≤ j ∧ j < 25) → V1 j = V j := fun j hj => (hO9 j hj).trans (hO j hj)
  obtain ⟨m10, m11, m12, m13, m14, m15, m16, m17, m18, m19, m20, m21, m22, m23, m24⟩ := id hM
  refine lv_if_ne (tgt := 10) hx hb dX4_takeBreaks_5 (by decide) (fun z => absurd ((by decide)) z) (fun c1 => ?_)
  refine lv_iconst (v := (0)) hx hb dX4_takeBreaks_8 (by decide) ?_
  exact W.iret (v := 0) hx hb hr (fun t ht hW => ⟨⟨_, (V1, α), rfl, ⟨rfl, hM, hO, rfl⟩, by show mH G V1 α t.heap; rw [ht]; exact hw.2.2⟩, hS.F ht⟩) hS.2.2 dX4_takeBreaks_9

set_option maxHeartbeats 4000000 in
set_option maxRecDepth 100000 in
theorem c_X4_takeBreaks_2 {l : Launch} {G : mG} {V : mV} {α : Nat → Nat} {f : sT} {nr nw ns : Nat} {th : Int32} (hM : mM G V α f nr nw ns th) (si : Nat) (hs : si < ns) (hns : ns ≤ 80) (x : Int32) (hx1 : ¬ inn x 0 5) : Met l yX4_takeBreaks wsX4_takeBreaks ({ frames := 2, cells := 0, slots := 0, locals := 43 }) (va_Pc [.ref (α (10)), .int (nI (si)), .int (x)] (fun U => mW G V α U U.heap)) (va_Qi (fun (r9 : Int32) (u : mV × (Nat → Nat)) => 0 = r9 ∧ mQ G V α u f nr nw ns 2) (fun u t => mH G u.1 u.2 t.heap) (mfree G)) 0 0 (mfree G) := by
  refine Met.ofW (cc := cX4_takeBreaks) (maxL := 4) (ret := (some .int)) (by decide) rfl ?_
  intro p e s m args below meth c s₁ B hml hv
  obtain ⟨rfl, hw⟩ := hv
  have hx := B.exec
  have hb := B.bytes
  have hr := B.returns
  have hts := atoms_spec (ws := wsX4_takeBreaks) B.pre
  have hown : s.vm.findClass RX4 = some m.cls := findClass_of_methodNamed B.named
  have hlocks := B.notSynchronized
  have hS : va_S (mfree G) s.heap s.heap [] := va_S.rf
  have hO : ∀ j, ¬ (10 ≤ j ∧ j < 25) → V j = V j := fun _ _ => rfl
  obtain ⟨m10, m11, m12, m13, m14, m15, m16, m17, m18, m19, m20, m21, m22, m23, m24⟩ := id hM
  have fl_53 := hts (.fieldLink RX4 53 "RosterPayModel" "thrown" "I") (by decide +kernel)
  have in_X4 : ∀ w ∈ u_ws RX4 TX4 18, w ∈ wsX4_takeBreaks := by decide +kernel
  have hl := lv_entry ([.ref (α (10)), .int (nI (si)), .int (x)]) (n := 4) (Nat.le_of_ble_eq_true rfl)
  rw [lg_entry_eq]
  generalize (lg_sl ([.ref (α (10)), .int (nI (si)), .int (x)]) ++ List.replicate (4 - (lg_sl ([.ref (α (10)), .int (nI (si)), .int (x)])).length) Slot.unset).toArray = ls at hl ⊢
  have hl : lv_has ls 4 [(0, .ref (α (10))), (1, .int (nI (si))), (2, .int (x))] := hl
  refine lv_aload_n hx hb dX4_takeBreaks_0 rfl (lv_at hl 0 rfl) ?_
  refine lv_iload_n hx hb dX4_takeBreaks_1 rfl (lv_at hl 1 rfl) ?_
  refine mcallVw hw (m10) rfl rfl ⟨hx, hb, hml, hown, hts⟩ hS (c_X4_isShift hM si hs hns) (cwV 1 hts gX4_takeBreaks_X4_isShift rfl rfl rfl (by decide +kernel) ⟨Nat.le_of_ble_eq_true rfl, Nat.le_of_ble_eq_true rfl⟩) rfl hl.1 rfl (Nat.le_of_ble_eq_true rfl) dX4_takeBreaks_2 ⟨Nat.le_of_ble_eq_true rfl, Nat.le_of_ble_eq_true rfl⟩ (fun r9 V1 α9 H locs hp hw hS => ?_)
  obtain ⟨rfl, hM, hO9, hα9⟩ := hp
  dsimp only at hM hO9 hα9
  subst hα9
  have hO : ∀ j, ¬ (10 ≤ j ∧ j < 25) → V1 j = V j := fun j hj => (hO9 j hj).trans (hO j hj)
  obtain ⟨m10, m11, m12, m13, m14, m15, m16, m17, m18, m19, m20, m21, m22, m23, m24⟩ := id hM
  refine lv_if_ne (tgt := 10) hx hb dX4_takeBreaks_5 (by decide) (fun c1 => ?_) (fun z => absurd z ((by decide)))
  refine lv_aload_n hx hb dX4_takeBreaks_10 rfl (lv_at hl 0 rfl) ?_
  refine lv_iload_n hx hb dX4_takeBreaks_11 rfl (lv_at hl 2 rfl) ?_
  refine lv_iconst (v := (0)) hx hb dX4_takeBreaks_12 (by decide) ?_
  refine lv_iconst (v := (5)) hx hb dX4_takeBreaks_13 (by decide) ?_
  refine mcallSi hw ⟨hx, hb, hml, hown, hts⟩ (c_X4_isIn (x) (0) (5)) (va_cwS 3 hts gX4_takeBreaks_X4_isIn rfl rfl rfl (by decide +kernel) ⟨Nat.le_of_ble_eq_true rfl, Nat.le_of_ble_eq_true rfl⟩) rfl hl.1 rfl (Nat.le_of_ble_eq_true rfl) dX4_takeBreaks_14 ⟨Nat.le_of_ble_eq_true rfl, Nat.le_of_ble_eq_true rfl⟩ ?_
  refine mif_neB (tgt := 24) hx hb dX4_takeBreaks_17 (by decide) (fun z => absurd z (hx1)) (fun c2 => ?_)
  refine lv_iconst (v := (2)) hx hb dX4_takeBreaks_20 (by decide) ?_
  refine lv_goto (tgt := 38) hx hb dX4_takeBreaks_21 (by decide) ?_
  refine mput (C := RX4) (T := TX4) (N := 18) (ci := 5) hx hb hts in_X4 tyX4 tyX4_ok nmX4 hown hw hS (m10) rfl 17 (by decide) fl_53 rfl rfl rfl (Nat.le_of_ble_eq_true rfl) dX4_takeBreaks_38 (fun H locs hw hS => ?_)
  obtain ⟨V2, hV2⟩ : ∃ z, z = vup V1 10 (mobj α (nr) (nw) (ns) (2)) := ⟨_, rfl⟩
  have hw : mW G V2 α s H := by rw [hV2]; exact hw
  have hM : mM G V2 α f (nr) (nw) (ns) (2) := by rw [hV2]; exact hM.obj _ _ _ _
  have hO : ∀ j, ¬ (10 ≤ j ∧ j < 25) → V2 j = V j := fun j hj => (show V2 j = V1 j by rw [hV2]; exact vup_n _ _ (by omega)).trans (hO j hj)
  obtain ⟨m10, m11, m12, m13, m14, m15, m16, m17, m18, m19, m20, m21, m22, m23, m24⟩ := id hM
  refine lv_aload_n hx hb dX4_takeBreaks_41 rfl (lv_at hl 0 rfl) ?_
  refine mget (C := RX4) (T := TX4) (N := 18) (ci := 5) hx hb hts in_X4 hown hw (m10) rfl 17 (by decide) fl_53 rfl dX4_takeBreaks_42 ?_
  refine lv_if_le (tgt := 50) hx hb dX4_takeBreaks_45 (by decide) (fun z => absurd z ((by decide))) (fun c3 => ?_)
  refine lv_iconst (v := (0)) hx hb dX4_takeBreaks_48 (by decide) ?_
  exact W.iret (v := 0) hx hb hr (fun t ht hW => ⟨⟨_, (V2, α), rfl, ⟨rfl, hM, hO, rfl⟩, by show mH G V2 α t.heap; rw [ht]; exact hw.2.2⟩, hS.F ht⟩) hS.2.2 dX4_takeBreaks_49

set_option maxHeartbeats 4000000 in
set_option maxRecDepth 100000 in
theorem c_X4_takeBreaks_3 {l : Launch} {G : mG} {V : mV} {α : Nat → Nat} {f : sT} {nr nw ns : Nat} {th : Int32} (hM : mM G V α f nr nw ns th) (si : Nat) (hs : si < ns) (hns : ns ≤ 80) (x : Int32) (hx1 : inn x 0 5) (hg : ¬ f 13 si = 0) : Met l yX4_takeBreaks wsX4_takeBreaks ({ frames := 2, cells := 0, slots := 0, locals := 43 }) (va_Pc [.ref (α (10)), .int (nI (si)), .int (x)] (fun U => mW G V α U U.heap)) (va_Qi (fun (r9 : Int32) (u : mV × (Nat → Nat)) => 0 = r9 ∧ mQ G V α u f nr nw ns 3) (fun u t => mH G u.1 u.2 t.heap) (mfree G)) 0 0 (mfree G) := by
  refine Met.ofW (cc := cX4_takeBreaks) (maxL := 4) (ret := (some .int)) (by decide) rfl ?_
  intro p e s m args below meth c s₁ B hml hv
  obtain ⟨rfl, hw⟩ := hv
  have hx := B.exec
  have hb := B.bytes
  have hr := B.returns
  have hts := atoms_spec (ws := wsX4_takeBreaks) B.pre
  have hown : s.vm.findClass RX4 = some m.cls := findClass_of_methodNamed B.named
  have hlocks := B.notSynchronized
  have hS : va_S (mfree G) s.heap s.heap [] := va_S.rf
  have hO : ∀ j, ¬ (10 ≤ j ∧ j < 25) → V j = V j := fun _ _ => rfl
  obtain ⟨m10, m11, m12, m13, m14, m15, m16, m17, m18, m19, m20, m21, m22, m23, m24⟩ := id hM
  have fl_50 := hts (.fieldLink RX4 50 "RosterPayModel" "gone" "[Z") (by decide +kernel)
  have in_X4 : ∀ w ∈ u_ws RX4 TX4 18, w ∈ wsX4_takeBreaks := by decide +kernel
  have fl_53 := hts (.fieldLink RX4 53 "RosterPayModel" "thrown" "I") (by decide +kernel)
  have hl := lv_entry ([.ref (α (10)), .int (nI (si)), .int (x)]) (n := 4) (Nat.le_of_ble_eq_true rfl)
  rw [lg_entry_eq]
  generalize (lg_sl ([.ref (α (10)), .int (nI (si)), .int (x)]) ++ List.replicate (4 - (lg_sl ([.ref (α (10)), .int (nI (si)), .int (x)])).length) Slot.unset).toArray = ls at hl ⊢
  have hl : lv_has ls 4 [(0, .ref (α (10))), (1, .int (nI (si))), (2, .int (x))] := hl
  refine lv_aload_n hx hb dX4_takeBreaks_0 rfl (lv_at hl 0 rfl) ?_
  refine lv_iload_n hx hb dX4_takeBreaks_1 rfl (lv_at hl 1 rfl) ?_
  refine mcallVw hw (m10) rfl rfl ⟨hx, hb, hml, hown, hts⟩ hS (c_X4_isShift hM si hs hns) (cwV 1 hts gX4_takeBreaks_X4_isShift rfl rfl rfl (by decide +kernel) ⟨Nat.le_of_ble_eq_true rfl, Nat.le_of_ble_eq_true rfl⟩) rfl hl.1 rfl (Nat.le_of_ble_eq_true rfl) dX4_takeBreaks_2 ⟨Nat.le_of_ble_eq_true rfl, Nat.le_of_ble_eq_true rfl⟩ (fun r9 V1 α9 H locs hp hw hS => ?_)
  obtain ⟨rfl, hM, hO9, hα9⟩ := hp
  dsimp only at hM hO9 hα9
  subst hα9
  have hO : ∀ j, ¬ (10 ≤ j ∧ j < 25) → V1 j = V j := fun j hj => (hO9 j hj).trans (hO j hj)
  obtain ⟨m10, m11, m12, m13, m14, m15, m16, m17, m18, m19, m20, m21, m22, m23, m24⟩ := id hM
  refine lv_if_ne (tgt := 10) hx hb dX4_takeBreaks_5 (by decide) (fun c1 => ?_) (fun z => absurd z ((by decide)))
  refine lv_aload_n hx hb dX4_takeBreaks_10 rfl (lv_at hl 0 rfl) ?_
  refine lv_iload_n hx hb dX4_takeBreaks_11 rfl (lv_at hl 2 rfl) ?_
  refine lv_iconst (v := (0)) hx hb dX4_takeBreaks_12 (by decide) ?_
  refine lv_iconst (v := (5)) hx hb dX4_takeBreaks_13 (by decide) ?_
  refine mcallSi hw ⟨hx, hb, hml, hown, hts⟩ (c_X4_isIn (x) (0) (5)) (va_cwS 3 hts gX4_takeBreaks_X4_isIn rfl rfl rfl (by decide +kernel) ⟨Nat.le_of_ble_eq_true rfl, Nat.le_of_ble_eq_true rfl⟩) rfl hl.1 rfl (Nat.le_of_ble_eq_true rfl) dX4_takeBreaks_14 ⟨Nat.le_of_ble_eq_true rfl, Nat.le_of_ble_eq_true rfl⟩ ?_
  refine mif_neB (tgt := 24) hx hb dX4_takeBreaks_17 (by decide) (fun c2 => ?_) (fun z => absurd (hx1) z)
  refine lv_aload_n hx hb dX4_takeBreaks_24 rfl (lv_at hl 0 rfl) ?_
  refine mget (C := RX4) (T := TX4) (N := 18) (ci := 5) hx hb hts in_X4 hown hw (m10) rfl 16 (by decide) fl_50 rfl dX4_takeBreaks_25 ?_
  refine lv_iload_n hx hb dX4_takeBreaks_28 rfl (lv_at hl 1 rfl) ?_
  refine mzald' (k := si) hx hb hw (m24) (rfl) (by omega) (by decide) dX4_takeBreaks_29 ?_
  refine lv_if_eq (tgt := 37) hx hb dX4_takeBreaks_30 (by decide) (fun z => absurd z (hg)) (fun c3 => ?_)
  refine lv_iconst (v := (3)) hx hb dX4_takeBreaks_33 (by decide) ?_
  refine lv_goto (tgt := 38) hx hb dX4_takeBreaks_34 (by decide) ?_
  refine mput (C := RX4) (T := TX4) (N := 18) (ci := 5) hx hb hts in_X4 tyX4 tyX4_ok nmX4 hown hw hS (m10) rfl 17 (by decide) fl_53 rfl rfl rfl (Nat.le_of_ble_eq_true rfl) dX4_takeBreaks_38 (fun H locs hw hS => ?_)
  obtain ⟨V2, hV2⟩ : ∃ z, z = vup V1 10 (mobj α (nr) (nw) (ns) (3)) := ⟨_, rfl⟩
  have hw : mW G V2 α s H := by rw [hV2]; exact hw
  have hM : mM G V2 α f (nr) (nw) (ns) (3) := by rw [hV2]; exact hM.obj _ _ _ _
  have hO : ∀ j, ¬ (10 ≤ j ∧ j < 25) → V2 j = V j := fun j hj => (show V2 j = V1 j by rw [hV2]; exact vup_n _ _ (by omega)).trans (hO j hj)
  obtain ⟨m10, m11, m12, m13, m14, m15, m16, m17, m18, m19, m20, m21, m22, m23, m24⟩ := id hM
  refine lv_aload_n hx hb dX4_takeBreaks_41 rfl (lv_at hl 0 rfl) ?_
  refine mget (C := RX4) (T := TX4) (N := 18) (ci := 5) hx hb hts in_X4 hown hw (m10) rfl 17 (by decide) fl_53 rfl dX4_takeBreaks_42 ?_
  refine lv_if_le (tgt := 50) hx hb dX4_takeBreaks_45 (by decide) (fun z => absurd z ((by decide))) (fun c4 => ?_)
  refine lv_iconst (v := (0)) hx hb dX4_takeBreaks_48 (by decide) ?_
  exact W.iret (v := 0) hx hb hr (fun t ht hW => ⟨⟨_, (V2, α), rfl, ⟨rfl, hM, hO, rfl⟩, by show mH G V2 α t.heap; rw [ht]; exact hw.2.2⟩, hS.F ht⟩) hS.2.2 dX4_takeBreaks_49

set_option maxHeartbeats 4000000 in
set_option maxRecDepth 100000 in
theorem c_X4_shifts {l : Launch} {G : mG} {V : mV} {α : Nat → Nat} {f : sT} {nr nw ns : Nat} {th : Int32} (hM : mM G V α f nr nw ns th) : Met l yX4_shifts wsX4_shifts ({ frames := 0, cells := 0, slots := 0, locals := 0 }) (va_Pc [.ref (α (10))] (fun U => mW G V α U U.heap)) (va_Qi (fun (r9 : Int32) (u : mV × (Nat → Nat)) => nI ns = r9 ∧ mQ G V α u f nr nw ns 0) (fun u t => mH G u.1 u.2 t.heap) (mfree G)) 0 0 (mfree G) := by
  refine Met.ofW (cc := cX4_shifts) (maxL := 1) (ret := (some .int)) (by decide) rfl ?_
  intro p e s m args below meth c s₁ B hml hv
  obtain ⟨rfl, hw⟩ := hv
  have hx := B.exec
  have hb := B.bytes
  have hr := B.returns
  have hts := atoms_spec (ws := wsX4_shifts) B.pre
  have hown : s.vm.findClass RX4 = some m.cls := findClass_of_methodNamed B.named
  have hlocks := B.notSynchronized
  have hS : va_S (mfree G) s.heap s.heap [] := va_S.rf
  have hO : ∀ j, ¬ (10 ≤ j ∧ j < 25) → V j = V j := fun _ _ => rfl
  obtain ⟨m10, m11, m12, m13, m14, m15, m16, m17, m18, m19, m20, m21, m22, m23, m24⟩ := id hM
  have fl_53 := hts (.fieldLink RX4 53 "RosterPayModel" "thrown" "I") (by decide +kernel)
  have in_X4 : ∀ w ∈ u_ws RX4 TX4 18, w ∈ wsX4_shifts := by decide +kernel
  have fl_67 := hts (.fieldLink RX4 67 "RosterPayModel" "shifts" "I") (by decide +kernel)
  have hl := lv_entry ([.ref (α (10))]) (n := 1) (Nat.le_of_ble_eq_true rfl)
  rw [lg_entry_eq]
  generalize (lg_sl ([.ref (α (10))]) ++ List.replicate (1 - (lg_sl ([.ref (α (10))])).length) Slot.unset).toArray = ls at hl ⊢
  have hl : lv_has ls 1 [(0, .ref (α (10)))] := hl
  refine lv_aload_n hx hb dX4_shifts_0 rfl (lv_at hl 0 rfl) ?_
  refine lv_iconst (v := (0)) hx hb dX4_shifts_1 (by decide) ?_
  refine mput (C := RX4) (T := TX4) (N := 18) (ci := 5) hx hb hts in_X4 tyX4 tyX4_ok nmX4 hown hw hS (m10) rfl 17 (by decide) fl_53 rfl rfl rfl (Nat.le_of_ble_eq_true rfl) dX4_shifts_2 (fun H locs hw hS => ?_)
  obtain ⟨V1, hV1⟩ : ∃ z, z = vup V 10 (mobj α (nr) (nw) (ns) (0)) := ⟨_, rfl⟩
  have hw : mW G V1 α s H := by rw [hV1]; exact hw
  have hM : mM G V1 α f (nr) (nw) (ns) (0) := by rw [hV1]; exact hM.obj _ _ _ _
  have hO : ∀ j, ¬ (10 ≤ j ∧ j < 25) → V1 j = V j := fun j hj => (show V1 j = V j by rw [hV1]; exact vup_n _ _ (by omega)).trans (hO j hj)
  obtain ⟨m10, m11, m12, m13, m14, m15, m16, m17, m18, m19, m20, m21, m22, m23, m24⟩ := id hM
  refine lv_aload_n hx hb dX4_shifts_5 rfl (lv_at hl 0 rfl) ?_
  refine mget (C := RX4) (T := TX4) (N := 18) (ci := 5) hx hb hts in_X4 hown hw (m10) rfl 11 (by decide) fl_67 rfl dX4_shifts_6 ?_
  exact W.iret (v := nI (ns)) hx hb hr (fun t ht hW => ⟨⟨_, (V1, α), rfl, ⟨rfl, hM, hO, rfl⟩, by show mH G V1 α t.heap; rw [ht]; exact hw.2.2⟩, hS.F ht⟩) hS.2.2 dX4_shifts_9

set_option maxHeartbeats 4000000 in
set_option maxRecDepth 100000 in
theorem c_X4_paidQuarters {l : Launch} {G : mG} {V : mV} {α : Nat → Nat} {f : sT} {nr nw ns : Nat} {th : Int32} (hM : mM G V α f nr nw ns th) (si : Nat) (hs : si < ns) (hns : ns ≤ 80) : Met l yX4_paidQuarters wsX4_paidQuarters ({ frames := 2, cells := 0, slots := 0, locals := 43 }) (va_Pc [.ref (α (10)), .int (nI (si))] (fun U => mW G V α U U.heap)) (va_Qi (fun (r9 : Int32) (u : mV × (Nat → Nat)) => s_paid f si = r9 ∧ mQ G V α u f nr nw ns 0) (fun u t => mH G u.1 u.2 t.heap) (mfree G)) 0 0 (mfree G) := by
  refine Met.ofW (cc := cX4_paidQuarters) (maxL := 2) (ret := (some .int)) (by decide) rfl ?_
  intro p e s m args below meth c s₁ B hml hv
  obtain ⟨rfl, hw⟩ := hv
  have hx := B.exec
  have hb := B.bytes
  have hr := B.returns
  have hts := atoms_spec (ws := wsX4_paidQuarters) B.pre
  have hown : s.vm.findClass RX4 = some m.cls := findClass_of_methodNamed B.named
  have hlocks := B.notSynchronized
  have hS : va_S (mfree G) s.heap s.heap [] := va_S.rf
  have hO : ∀ j, ¬ (10 ≤ j ∧ j < 25) → V j = V j := fun _ _ => rfl
  obtain ⟨m10, m11, m12, m13, m14, m15, m16, m17, m18, m19, m20, m21, m22, m23, m24⟩ := id hM
  have hl := lv_entry ([.ref (α (10)), .int (nI (si))]) (n := 2) (Nat.le_of_ble_eq_true rfl)
  rw [lg_entry_eq]
  generalize (lg_sl ([.ref (α (10)), .int (nI (si))]) ++ List.replicate (2 - (lg_sl ([.ref (α (10)), .int (nI (si))])).length) Slot.unset).toArray = ls at hl ⊢
  have hl : lv_has ls 2 [(0, .ref (α (10))), (1, .int (nI (si)))] := hl
  refine lv_aload_n hx hb dX4_paidQuarters_0 rfl (lv_at hl 0 rfl) ?_
  refine lv_iload_n hx hb dX4_paidQuarters_1 rfl (lv_at hl 1 rfl) ?_
  refine mcallVw hw (m10) rfl rfl ⟨hx, hb, hml, hown, hts⟩ hS (c_X4_isShift hM si hs hns) (cwV 1 hts gX4_paidQuarters_X4_isShift rfl rfl rfl (by decide +kernel) ⟨Nat.le_of_ble_eq_true rfl, Nat.le_of_ble_eq_true rfl⟩) rfl hl.1 rfl (Nat.le_of_ble_eq_true rfl) dX4_paidQuarters_2 ⟨Nat.le_of_ble_eq_true rfl, Nat.le_of_ble_eq_true rfl⟩ (fun r9 V1 α9 H locs hp hw hS => ?_)
  obtain ⟨rfl, hM, hO9, hα9⟩ := hp
  dsimp only at hM hO9 hα9
  subst hα9
  have hO : ∀ j, ¬ (10 ≤ j ∧ j < 25) → V1 j = V j := fun j hj => (hO9 j hj).trans (hO j hj)
  obtain ⟨m10, m11, m12, m13, m14, m15, m16, m17, m18, m19, m20, m21, m22, m23, m24⟩ := id hM
  refine lv_if_eq (tgt := 16) hx hb dX4_paidQuarters_5 (by decide) (fun z => absurd z ((by decide))) (fun c1 => ?_)
  refine lv_aload_n hx hb dX4_paidQuarters_8 rfl (lv_at hl 0 rfl) ?_
  refine lv_iload_n hx hb dX4_paidQuarters_9 rfl (lv_at hl 1 rfl) ?_
  refine mcallVi hw (m10) rfl rfl ⟨hx, hb, hml, hown, hts⟩ (c_X4_paid hM si (by omega)) (cwV 1 hts gX4_paidQuarters_X4_paid rfl rfl rfl (by decide +kernel) ⟨Nat.le_of_ble_eq_true rfl, Nat.le_of_ble_eq_true rfl⟩) rfl hl.1 rfl (Nat.le_of_ble_eq_true rfl) dX4_paidQuarters_10 ⟨Nat.le_of_ble_eq_true rfl, Nat.le_of_ble_eq_true rfl⟩ ?_
  refine lv_goto (tgt := 17) hx hb dX4_paidQuarters_13 (by decide) ?_
  exact W.iret (v := s_paid f si) hx hb hr (fun t ht hW => ⟨⟨_, (V1, α), rfl, ⟨rfl, hM, hO, rfl⟩, by show mH G V1 α t.heap; rw [ht]; exact hw.2.2⟩, hS.F ht⟩) hS.2.2 dX4_paidQuarters_17

set_option maxHeartbeats 4000000 in
set_option maxRecDepth 100000 in
theorem c_X4_paidQuarters_1 {l : Launch} {G : mG} {V : mV} {α : Nat → Nat} {f : sT} {nr nw ns : Nat} {th : Int32} (hM : mM G V α f nr nw ns th) (y : Int32) (hbad : ¬ inn y 0 (nI ns - 1)) : Met l yX4_paidQuarters wsX4_paidQuarters ({ frames := 2, cells := 0, slots := 0, locals := 43 }) (va_Pc [.ref (α (10)), .int (y)] (fun U => mW G V α U U.heap)) (va_Qi (fun (r9 : Int32) (u : mV × (Nat → Nat)) => 0 = r9 ∧ mQ G V α u f nr nw ns 1) (fun u t => mH G u.1 u.2 t.heap) (mfree G)) 0 0 (mfree G) := by
  refine Met.ofW (cc := cX4_paidQuarters) (maxL := 2) (ret := (some .int)) (by decide) rfl ?_
  intro p e s m args below meth c s₁ B hml hv
  obtain ⟨rfl, hw⟩ := hv
  have hx := B.exec
  have hb := B.bytes
  have hr := B.returns
  have hts := atoms_spec (ws := wsX4_paidQuarters) B.pre
  have hown : s.vm.findClass RX4 = some m.cls := findClass_of_methodNamed B.named
  have hlocks := B.notSynchronized
  have hS : va_S (mfree G) s.heap s.heap [] := va_S.rf
  have hO : ∀ j, ¬ (10 ≤ j ∧ j < 25) → V j = V j := fun _ _ => rfl
  obtain ⟨m10, m11, m12, m13, m14, m15, m16, m17, m18, m19, m20, m21, m22, m23, m24⟩ := id hM
  have hl := lv_entry ([.ref (α (10)), .int (y)]) (n := 2) (Nat.le_of_ble_eq_true rfl)
  rw [lg_entry_eq]
  generalize (lg_sl ([.ref (α (10)), .int (y)]) ++ List.replicate (2 - (lg_sl ([.ref (α (10)), .int (y)])).length) Slot.unset).toArray = ls at hl ⊢
  have hl : lv_has ls 2 [(0, .ref (α (10))), (1, .int (y))] := hl
  refine lv_aload_n hx hb dX4_paidQuarters_0 rfl (lv_at hl 0 rfl) ?_
  refine lv_iload_n hx hb dX4_paidQuarters_1 rfl (lv_at hl 1 rfl) ?_
  refine mcallVw hw (m10) rfl rfl ⟨hx, hb, hml, hown, hts⟩ hS (c_X4_isShift_1 hM y hbad) (cwV 1 hts gX4_paidQuarters_X4_isShift rfl rfl rfl (by decide +kernel) ⟨Nat.le_of_ble_eq_true rfl, Nat.le_of_ble_eq_true rfl⟩) rfl hl.1 rfl (Nat.le_of_ble_eq_true rfl) dX4_paidQuarters_2 ⟨Nat.le_of_ble_eq_true rfl, Nat.le_of_ble_eq_true rfl⟩ (fun r9 V1 α9 H locs hp hw hS => ?_)
  obtain ⟨rfl, hM, hO9, hα9⟩ := hp
  dsimp only at hM hO9 hα9
  subst hα9
  have hO : ∀ j, ¬ (10 ≤ j ∧ j < 25) → V1 j = V j := fun j hj => (hO9 j hj).trans (hO j hj)
  obtain ⟨m10, m11, m12, m13, m14, m15, m16, m17, m18, m19, m20, m21, m22, m23, m24⟩ := id hM
  refine lv_if_eq (tgt := 16) hx hb dX4_paidQuarters_5 (by decide) (fun c1 => ?_) (fun z => absurd ((by decide)) z)
  refine lv_iconst (v := (0)) hx hb dX4_paidQuarters_16 (by decide) ?_
  exact W.iret (v := 0) hx hb hr (fun t ht hW => ⟨⟨_, (V1, α), rfl, ⟨rfl, hM, hO, rfl⟩, by show mH G V1 α t.heap; rw [ht]; exact hw.2.2⟩, hS.F ht⟩) hS.2.2 dX4_paidQuarters_17

set_option maxHeartbeats 4000000 in
set_option maxRecDepth 100000 in
theorem c_X4_isQuarter {l : Launch} {G : mG} {V : mV} {α : Nat → Nat} {f : sT} {nr nw ns : Nat} {th : Int32} (hM : mM G V α f nr nw ns th) (si : Nat) (hs : si < ns) (hns : ns ≤ 80) (x : Int32) (hx1 : inn x 0 (s_paid f si - 1)) : Met l yX4_isQuarter wsX4_isQuarter ({ frames := 2, cells := 0, slots := 0, locals := 43 }) (va_Pc [.ref (α (10)), .int (nI (si)), .int (x)] (fun U => mW G V α U U.heap)) (va_Qi (fun (r9 : Int32) (u : mV × (Nat → Nat)) => 1 = r9 ∧ mQ G V α u f nr nw ns 0) (fun u t => mH G u.1 u.2 t.heap) (mfree G)) 0 0 (mfree G) := by
  refine Met.ofW (cc := cX4_isQuarter) (maxL := 4) (ret := (some .boolean)) (by decide) rfl ?_
  intro p e s m args below meth c s₁ B hml hv
  obtain ⟨rfl, hw⟩ := hv
  have hx := B.exec
  have hb := B.bytes
  have hr := B.returns
  have hts := atoms_spec (ws := wsX4_isQuarter) B.pre
  have hown : s.vm.findClass RX4 = some m.cls := findClass_of_methodNamed B.named
  have hlocks := B.notSynchronized
  have hS : va_S (mfree G) s.heap s.heap [] := va_S.rf
  have hO : ∀ j, ¬ (10 ≤ j ∧ j < 25) → V j = V j := fun _ _ => rfl
  obtain ⟨m10, m11, m12, m13, m14, m15, m16, m17, m18, m19, m20, m21, m22, m23, m24⟩ := id hM
  have fl_53 := hts (.fieldLink RX4 53 "RosterPayModel" "thrown" "I") (by decide +kernel)
  have in_X4 : ∀ w ∈ u_ws RX4 TX4 18, w ∈ wsX4_isQuarter := by decide +kernel
  have hl := lv_entry ([.ref (α (10)), .int (nI (si)), .int (x)]) (n := 4) (Nat.le_of_ble_eq_true rfl)
  rw [lg_entry_eq]
  generalize (lg_sl ([.ref (α (10)), .int (nI (si)), .int (x)]) ++ List.replicate (4 - (lg_sl ([.ref (α (10)), .int (nI (si)), .int (x)])).length) Slot.unset).toArray = ls at hl ⊢
  have hl : lv_has ls 4 [(0, .ref (α (10))), (1, .int (nI (si))), (2, .int (x))] := hl
  refine lv_aload_n hx hb dX4_isQuarter_0 rfl (lv_at hl 0 rfl) ?_
  refine lv_iload_n hx hb dX4_isQuarter_1 rfl (lv_at hl 1 rfl) ?_
  refine mcallVw hw (m10) rfl rfl ⟨hx, hb, hml, hown, hts⟩ hS (c_X4_isShift hM si hs hns) (cwV 1 hts gX4_isQuarter_X4_isShift rfl rfl rfl (by decide +kernel) ⟨Nat.le_of_ble_eq_true rfl, Nat.le_of_ble_eq_true rfl⟩) rfl hl.1 rfl (Nat.le_of_ble_eq_true rfl) dX4_isQuarter_2 ⟨Nat.le_of_ble_eq_true rfl, Nat.le_of_ble_eq_true rfl⟩ (fun r9 V1 α9 H locs hp hw hS => ?_)
  obtain ⟨rfl, hM, hO9, hα9⟩ := hp
  dsimp only at hM hO9 hα9
  subst hα9
  have hO : ∀ j, ¬ (10 ≤ j ∧ j < 25) → V1 j = V j := fun j hj => (hO9 j hj).trans (hO j hj)
  obtain ⟨m10, m11, m12, m13, m14, m15, m16, m17, m18, m19, m20, m21, m22, m23, m24⟩ := id hM
  refine lv_if_eq (tgt := 27) hx hb dX4_isQuarter_5 (by decide) (fun z => absurd z ((by decide))) (fun c1 => ?_)
  refine lv_iload_n hx hb dX4_isQuarter_8 rfl (lv_at hl 2 rfl) ?_
  refine lv_iconst (v := (0)) hx hb dX4_isQuarter_9 (by decide) ?_
  refine lv_aload_n hx hb dX4_isQuarter_10 rfl (lv_at hl 0 rfl) ?_
  refine lv_iload_n hx hb dX4_isQuarter_11 rfl (lv_at hl 1 rfl) ?_
  refine mcallVi hw (m10) rfl rfl ⟨hx, hb, hml, hown, hts⟩ (c_X4_paid hM si (by omega)) (cwV 1 hts gX4_isQuarter_X4_paid rfl rfl rfl (by decide +kernel) ⟨Nat.le_of_ble_eq_true rfl, Nat.le_of_ble_eq_true rfl⟩) rfl hl.1 rfl (Nat.le_of_ble_eq_true rfl) dX4_isQuarter_12 ⟨Nat.le_of_ble_eq_true rfl, Nat.le_of_ble_eq_true rfl⟩ ?_
  refine lv_iconst (v := (1)) hx hb dX4_isQuarter_15 (by decide) ?_
  refine lv_isub hx hb dX4_isQuarter_16 ?_
  refine mcallSi hw ⟨hx, hb, hml, hown, hts⟩ (c_X4_isIn (x) (0) ((s_paid f si - 1))) (va_cwS 3 hts gX4_isQuarter_X4_isIn rfl rfl rfl (by decide +kernel) ⟨Nat.le_of_ble_eq_true rfl, Nat.le_of_ble_eq_true rfl⟩) rfl hl.1 rfl (Nat.le_of_ble_eq_true rfl) dX4_isQuarter_17 ⟨Nat.le_of_ble_eq_true rfl, Nat.le_of_ble_eq_true rfl⟩ ?_
  refine mif_eqB (tgt := 27) hx hb dX4_isQuarter_20 (by decide) (fun z => absurd (hx1) z) (fun c2 => ?_)
  refine lv_iconst (v := (1)) hx hb dX4_isQuarter_23 (by decide) ?_
  refine lv_goto (tgt := 28) hx hb dX4_isQuarter_24 (by decide) ?_
  refine lv_istore_n (lv' := [(3, .int (1)), (0, .ref (α (10))), (1, .int (nI (si))), (2, .int (x))]) hx hb dX4_isQuarter_28 rfl hl (by decide) rfl (fun ls hl => ?_)
  refine lv_aload_n hx hb dX4_isQuarter_29 rfl (lv_at hl 1 rfl) ?_
  refine lv_iload_n hx hb dX4_isQuarter_30 rfl (lv_at hl 0 rfl) ?_
  refine lv_if_eq (tgt := 38) hx hb dX4_isQuarter_31 (by decide) (fun z => absurd z ((by decide))) (fun c3 => ?_)
  refine lv_iconst (v := (0)) hx hb dX4_isQuarter_34 (by decide) ?_
  refine lv_goto (tgt := 39) hx hb dX4_isQuarter_35 (by decide) ?_
  refine mput (C := RX4) (T := TX4) (N := 18) (ci := 5) hx hb hts in_X4 tyX4 tyX4_ok nmX4 hown hw hS (m10) rfl 17 (by decide) fl_53 rfl rfl rfl (Nat.le_of_ble_eq_true rfl) dX4_isQuarter_39 (fun H locs hw hS => ?_)
  obtain ⟨V2, hV2⟩ : ∃ z, z = vup V1 10 (mobj α (nr) (nw) (ns) (0)) := ⟨_, rfl⟩
  have hw : mW G V2 α s H := by rw [hV2]; exact hw
  have hM : mM G V2 α f (nr) (nw) (ns) (0) := by rw [hV2]; exact hM.obj _ _ _ _
  have hO : ∀ j, ¬ (10 ≤ j ∧ j < 25) → V2 j = V j := fun j hj => (show V2 j = V1 j by rw [hV2]; exact vup_n _ _ (by omega)).trans (hO j hj)
  obtain ⟨m10, m11, m12, m13, m14, m15, m16, m17, m18, m19, m20, m21, m22, m23, m24⟩ := id hM
  refine lv_iload_n hx hb dX4_isQuarter_42 rfl (lv_at hl 0 rfl) ?_
  exact W.zret (v := 1) hx hb hr (rfl) (fun t ht hW => ⟨⟨_, (V2, α), rfl, ⟨rfl, hM, hO, rfl⟩, by show mH G V2 α t.heap; rw [ht]; exact hw.2.2⟩, hS.F ht⟩) hS.2.2 dX4_isQuarter_43

set_option maxHeartbeats 4000000 in
set_option maxRecDepth 100000 in
theorem c_X4_isQuarter_1 {l : Launch} {G : mG} {V : mV} {α : Nat → Nat} {f : sT} {nr nw ns : Nat} {th : Int32} (hM : mM G V α f nr nw ns th) (y : Int32) (hbad : ¬ inn y 0 (nI ns - 1)) (x : Int32) : Met l yX4_isQuarter wsX4_isQuarter ({ frames := 2, cells := 0, slots := 0, locals := 43 }) (va_Pc [.ref (α (10)), .int (y), .int (x)] (fun U => mW G V α U U.heap)) (va_Qi (fun (r9 : Int32) (u : mV × (Nat → Nat)) => 0 = r9 ∧ mQ G V α u f nr nw ns 1) (fun u t => mH G u.1 u.2 t.heap) (mfree G)) 0 0 (mfree G) := by
  refine Met.ofW (cc := cX4_isQuarter) (maxL := 4) (ret := (some .boolean)) (by decide) rfl ?_
  intro p e s m args below meth c s₁ B hml hv
  obtain ⟨rfl, hw⟩ := hv
  have hx := B.exec
  have hb := B.bytes
  have hr := B.returns
  have hts := atoms_spec (ws := wsX4_isQuarter) B.pre
  have hown : s.vm.findClass RX4 = some m.cls := findClass_of_methodNamed B.named
  have hlocks := B.notSynchronized
  have hS : va_S (mfree G) s.heap s.heap [] := va_S.rf
  have hO : ∀ j, ¬ (10 ≤ j ∧ j < 25) → V j = V j := fun _ _ => rfl
  obtain ⟨m10, m11, m12, m13, m14, m15, m16, m17, m18, m19, m20, m21, m22, m23, m24⟩ := id hM
  have fl_53 := hts (.fieldLink RX4 53 "RosterPayModel" "thrown" "I") (by decide +kernel)
  have in_X4 : ∀ w ∈ u_ws RX4 TX4 18, w ∈ wsX4_isQuarter := by decide +kernel
  have hl := lv_entry ([.ref (α (10)), .int (y), .int (x)]) (n := 4) (Nat.le_of_ble_eq_true rfl)
  rw [lg_entry_eq]
  generalize (lg_sl ([.ref (α (10)), .int (y), .int (x)]) ++ List.replicate (4 - (lg_sl ([.ref (α (10)), .int (y), .int (x)])).length) Slot.unset).toArray = ls at hl ⊢
  have hl : lv_has ls 4 [(0, .ref (α (10))), (1, .int (y)), (2, .int (x))] := hl
  refine lv_aload_n hx hb dX4_isQuarter_0 rfl (lv_at hl 0 rfl) ?_
  refine lv_iload_n hx hb dX4_isQuarter_1 rfl (lv_at hl 1 rfl) ?_
  refine mcallVw hw (m10) rfl rfl ⟨hx, hb, hml, hown, hts⟩ hS (c_X4_isShift_1 hM y hbad) (cwV 1 hts gX4_isQuarter_X4_isShift rfl rfl rfl (by decide +kernel) ⟨Nat.le_of_ble_eq_true rfl, Nat.le_of_ble_eq_true rfl⟩) rfl hl.1 rfl (Nat.le_of_ble_eq_true rfl) dX4_isQuarter_2 ⟨Nat.le_of_ble_eq_true rfl, Nat.le_of_ble_eq_true rfl⟩ (fun r9 V1 α9 H locs hp hw hS => ?_)
  obtain ⟨rfl, hM, hO9, hα9⟩ := hp
  dsimp only at hM hO9 hα9
  subst hα9
  have hO : ∀ j, ¬ (10 ≤ j ∧ j < 25) → V1 j = V j := fun j hj => (hO9 j hj).trans (hO j hj)
  obtain ⟨m10, m11, m12, m13, m14, m15, m16, m17, m18, m19, m20, m21, m22, m23, m24⟩ := id hM
  refine lv_if_eq (tgt := 27) hx hb dX4_isQuarter_5 (by decide) (fun c1 => ?_) (fun z => absurd ((by decide)) z)
  refine lv_iconst (v := (0)) hx hb dX4_isQuarter_27 (by decide) ?_
  refine lv_istore_n (lv' := [(3, .int (0)), (0, .ref (α (10))), (1, .int (y)), (2, .int (x))]) hx hb dX4_isQuarter_28 rfl hl (by decide) rfl (fun ls hl => ?_)
  refine lv_aload_n hx hb dX4_isQuarter_29 rfl (lv_at hl 1 rfl) ?_
  refine lv_iload_n hx hb dX4_isQuarter_30 rfl (lv_at hl 0 rfl) ?_
  refine lv_if_eq (tgt := 38) hx hb dX4_isQuarter_31 (by decide) (fun c2 => ?_) (fun z => absurd ((by decide)) z)
  refine lv_iconst (v := (1)) hx hb dX4_isQuarter_38 (by decide) ?_
  refine mput (C := RX4) (T := TX4) (N := 18) (ci := 5) hx hb hts in_X4 tyX4 tyX4_ok nmX4 hown hw hS (m10) rfl 17 (by decide) fl_53 rfl rfl rfl (Nat.le_of_ble_eq_true rfl) dX4_isQuarter_39 (fun H locs hw hS => ?_)
  obtain ⟨V2, hV2⟩ : ∃ z, z = vup V1 10 (mobj α (nr) (nw) (ns) (1)) := ⟨_, rfl⟩
  have hw : mW G V2 α s H := by rw [hV2]; exact hw
  have hM : mM G V2 α f (nr) (nw) (ns) (1) := by rw [hV2]; exact hM.obj _ _ _ _
  have hO : ∀ j, ¬ (10 ≤ j ∧ j < 25) → V2 j = V j := fun j hj => (show V2 j = V1 j by rw [hV2]; exact vup_n _ _ (by omega)).trans (hO j hj)
  obtain ⟨m10, m11, m12, m13, m14, m15, m16, m17, m18, m19, m20, m21, m22, m23, m24⟩ := id hM
  refine lv_iload_n hx hb dX4_isQuarter_42 rfl (lv_at hl 0 rfl) ?_
  exact W.zret (v := 0) hx hb hr (rfl) (fun t ht hW => ⟨⟨_, (V2, α), rfl, ⟨rfl, hM, hO, rfl⟩, by show mH G V2 α t.heap; rw [ht]; exact hw.2.2⟩, hS.F ht⟩) hS.2.2 dX4_isQuarter_43

set_option maxHeartbeats 4000000 in
set_option maxRecDepth 100000 in
theorem c_X4_isQuarter_2 {l : Launch} {G : mG} {V : mV} {α : Nat → Nat} {f : sT} {nr nw ns : Nat} {th : Int32} (hM : mM G V α f nr nw ns th) (si : Nat) (hs : si < ns) (hns : ns ≤ 80) (x : Int32) (hx1 : ¬ inn x 0 (s_paid f si - 1)) : Met l yX4_isQuarter wsX4_isQuarter ({ frames := 2, cells := 0, slots := 0, locals := 43 }) (va_Pc [.ref (α (10)), .int (nI (si)), .int (x)] (fun U => mW G V α U U.heap)) (va_Qi (fun (r9 : Int32) (u : mV × (Nat → Nat)) => 0 = r9 ∧ mQ G V α u f nr nw ns 1) (fun u t => mH G u.1 u.2 t.heap) (mfree G)) 0 0 (mfree G) := by
  refine Met.ofW (cc := cX4_isQuarter) (maxL := 4) (ret := (some .boolean)) (by decide) rfl ?_
  intro p e s m args below meth c s₁ B hml hv
  obtain ⟨rfl, hw⟩ := hv
  have hx := B.exec
  have hb := B.bytes
  have hr := B.returns
  have hts := atoms_spec (ws := wsX4_isQuarter) B.pre
  have hown : s.vm.findClass RX4 = some m.cls := findClass_of_methodNamed B.named
  have hlocks := B.notSynchronized
  have hS : va_S (mfree G) s.heap s.heap [] := va_S.rf
  have hO : ∀ j, ¬ (10 ≤ j ∧ j < 25) → V j = V j := fun _ _ => rfl
  obtain ⟨m10, m11, m12, m13, m14, m15, m16, m17, m18, m19, m20, m21, m22, m23, m24⟩ := id hM
  have fl_53 := hts (.fieldLink RX4 53 "RosterPayModel" "thrown" "I") (by decide +kernel)
  have in_X4 : ∀ w ∈ u_ws RX4 TX4 18, w ∈ wsX4_isQuarter := by decide +kernel
  have hl := lv_entry ([.ref (α (10)), .int (nI (si)), .int (x)]) (n := 4) (Nat.le_of_ble_eq_true rfl)
  rw [lg_entry_eq]
  generalize (lg_sl ([.ref (α (10)), .int (nI (si)), .int (x)]) ++ List.replicate (4 - (lg_sl ([.ref (α (10)), .int (nI (si)), .int (x)])).length) Slot.unset).toArray = ls at hl ⊢
  have hl : lv_has ls 4 [(0, .ref (α (10))), (1, .int (nI (si))), (2, .int (x))] := hl
  refine lv_aload_n hx hb dX4_isQuarter_0 rfl (lv_at hl 0 rfl) ?_
  refine lv_iload_n hx hb dX4_isQuarter_1 rfl (lv_at hl 1 rfl) ?_
  refine mcallVw hw (m10) rfl rfl ⟨hx, hb, hml, hown, hts⟩ hS (c_X4_isShift hM si hs hns) (cwV 1 hts gX4_isQuarter_X4_isShift rfl rfl rfl (by decide +kernel) ⟨Nat.le_of_ble_eq_true rfl, Nat.le_of_ble_eq_true rfl⟩) rfl hl.1 rfl (Nat.le_of_ble_eq_true rfl) dX4_isQuarter_2 ⟨Nat.le_of_ble_eq_true rfl, Nat.le_of_ble_eq_true rfl⟩ (fun r9 V1 α9 H locs hp hw hS => ?_)
  obtain ⟨rfl, hM, hO9, hα9⟩ := hp
  dsimp only at hM hO9 hα9
  subst hα9
  have hO : ∀ j, ¬ (10 ≤ j ∧ j < 25) → V1 j = V j := fun j hj => (hO9 j hj).trans (hO j hj)
  obtain ⟨m10, m11, m12, m13, m14, m15, m16, m17, m18, m19, m20, m21, m22, m23, m24⟩ := id hM
  refine lv_if_eq (tgt := 27) hx hb dX4_isQuarter_5 (by decide) (fun z => absurd z ((by decide))) (fun c1 => ?_)
  refine lv_iload_n hx hb dX4_isQuarter_8 rfl (lv_at hl 2 rfl) ?_
  refine lv_iconst (v := (0)) hx hb dX4_isQuarter_9 (by decide) ?_
  refine lv_aload_n hx hb dX4_isQuarter_10 rfl (lv_at hl 0 rfl) ?_
  refine lv_iload_n hx hb dX4_isQuarter_11 rfl (lv_at hl 1 rfl) ?_
  refine mcallVi hw (m10) rfl rfl ⟨hx, hb, hml, hown, hts⟩ (c_X4_paid hM si (by omega)) (cwV 1 hts gX4_isQuarter_X4_paid rfl rfl rfl (by decide +kernel) ⟨Nat.le_of_ble_eq_true rfl, Nat.le_of_ble_eq_true rfl⟩) rfl hl.1 rfl (Nat.le_of_ble_eq_true rfl) dX4_isQuarter_12 ⟨Nat.le_of_ble_eq_true rfl, Nat.le_of_ble_eq_true rfl⟩ ?_
  refine lv_iconst (v := (1)) hx hb dX4_isQuarter_15 (by decide) ?_
  refine lv_isub hx hb dX4_isQuarter_16 ?_
  refine mcallSi hw ⟨hx, hb, hml, hown, hts⟩ (c_X4_isIn (x) (0) ((s_paid f si - 1))) (va_cwS 3 hts gX4_isQuarter_X4_isIn rfl rfl rfl (by decide +kernel) ⟨Nat.le_of_ble_eq_true rfl, Nat.le_of_ble_eq_true rfl⟩) rfl hl.1 rfl (Nat.le_of_ble_eq_true rfl) dX4_isQuarter_17 ⟨Nat.le_of_ble_eq_true rfl, Nat.le_of_ble_eq_true rfl⟩ ?_
  refine mif_eqB (tgt := 27) hx hb dX4_isQuarter_20 (by decide) (fun c2 => ?_) (fun z => absurd z (hx1))
  refine lv_iconst (v := (0)) hx hb dX4_isQuarter_27 (by decide) ?_
  refine lv_istore_n (lv' := [(3, .int (0)), (0, .ref (α (10))), (1, .int (nI (si))), (2, .int (x))]) hx hb dX4_isQuarter_28 rfl hl (by decide) rfl (fun ls hl => ?_)
  refine lv_aload_n hx hb dX4_isQuarter_29 rfl (lv_at hl 1 rfl) ?_
  refine lv_iload_n hx hb dX4_isQuarter_30 rfl (lv_at hl 0 rfl) ?_
  refine lv_if_eq (tgt := 38) hx hb dX4_isQuarter_31 (by decide) (fun c3 => ?_) (fun z => absurd ((by decide)) z)
  refine lv_iconst (v := (1)) hx hb dX4_isQuarter_38 (by decide) ?_
  refine mput (C := RX4) (T := TX4) (N := 18) (ci := 5) hx hb hts in_X4 tyX4 tyX4_ok nmX4 hown hw hS (m10) rfl 17 (by decide) fl_53 rfl rfl rfl (Nat.le_of_ble_eq_true rfl) dX4_isQuarter_39 (fun H locs hw hS => ?_)
  obtain ⟨V2, hV2⟩ : ∃ z, z = vup V1 10 (mobj α (nr) (nw) (ns) (1)) := ⟨_, rfl⟩
  have hw : mW G V2 α s H := by rw [hV2]; exact hw
  have hM : mM G V2 α f (nr) (nw) (ns) (1) := by rw [hV2]; exact hM.obj _ _ _ _
  have hO : ∀ j, ¬ (10 ≤ j ∧ j < 25) → V2 j = V j := fun j hj => (show V2 j = V1 j by rw [hV2]; exact vup_n _ _ (by omega)).trans (hO j hj)
  obtain ⟨m10, m11, m12, m13, m14, m15, m16, m17, m18, m19, m20, m21, m22, m23, m24⟩ := id hM
  refine lv_iload_n hx hb dX4_isQuarter_42 rfl (lv_at hl 0 rfl) ?_
  exact W.zret (v := 0) hx hb hr (rfl) (fun t ht hW => ⟨⟨_, (V2, α), rfl, ⟨rfl, hM, hO, rfl⟩, by show mH G V2 α t.heap; rw [ht]; exact hw.2.2⟩, hS.F ht⟩) hS.2.2 dX4_isQuarter_43

set_option maxHeartbeats 4000000 in
set_option maxRecDepth 100000 in
theorem c_X4_percentAt {l : Launch} {G : mG} {V : mV} {α : Nat → Nat} {f : sT} {nr nw ns : Nat} {th : Int32} (hM : mM G V α f nr nw ns th) (hwf : mwf f nr nw ns) (si : Nat) (hs : si < ns) (q : Nat) (hq : q < 64) (hx1 : inn (nI q) 0 (s_paid f si - 1)) : Met l yX4_percentAt wsX4_percentAt ({ frames := 3, cells := 0, slots := 0, locals := 66 }) (va_Pc [.ref (α (10)), .int (nI (si)), .int (nI (q))] (fun U => mW G V α U U.heap)) (va_Qi (fun (r9 : Int32) (u : mV × (Nat → Nat)) => s_P f (wN f si) (aN f si) q nr = r9 ∧ mQ G V α u f nr nw ns 0) (fun u t => mH G u.1 u.2 t.heap) (mfree G)) 0 0 (mfree G) := by
  refine Met.ofW (cc := cX4_percentAt) (maxL := 3) (ret := (some .int)) (by decide) rfl ?_
  intro p e s m args below meth c s₁ B hml hv
  obtain ⟨rfl, hw⟩ := hv
  have hx := B.exec
  have hb := B.bytes
  have hr := B.returns
  have hts := atoms_spec (ws := wsX4_percentAt) B.pre
  have hown : s.vm.findClass RX4 = some m.cls := findClass_of_methodNamed B.named
  have hlocks := B.notSynchronized
  have hS : va_S (mfree G) s.heap s.heap [] := va_S.rf
  have hO : ∀ j, ¬ (10 ≤ j ∧ j < 25) → V j = V j := fun _ _ => rfl
  obtain ⟨m10, m11, m12, m13, m14, m15, m16, m17, m18, m19, m20, m21, m22, m23, m24⟩ := id hM
  obtain ⟨⟨hnr, hnw, hns⟩, -, -, h6w, h7w, -⟩ := id hwf
  obtain ⟨⟨hw0si, hw1si⟩, h9si, hasi, h10si, hr0si, h8si, hN2si, hNsi⟩ := hwf.sh si (by omega)
  have hl := lv_entry ([.ref (α (10)), .int (nI (si)), .int (nI (q))]) (n := 3) (Nat.le_of_ble_eq_true rfl)
  rw [lg_entry_eq]
  generalize (lg_sl ([.ref (α (10)), .int (nI (si)), .int (nI (q))]) ++ List.replicate (3 - (lg_sl ([.ref (α (10)), .int (nI (si)), .int (nI (q))])).length) Slot.unset).toArray = ls at hl ⊢
  have hl : lv_has ls 3 [(0, .ref (α (10))), (1, .int (nI (si))), (2, .int (nI (q)))] := hl
  refine lv_aload_n hx hb dX4_percentAt_0 rfl (lv_at hl 0 rfl) ?_
  refine lv_iload_n hx hb dX4_percentAt_1 rfl (lv_at hl 1 rfl) ?_
  refine lv_iload_n hx hb dX4_percentAt_2 rfl (lv_at hl 2 rfl) ?_
  refine mcallVw hw (m10) rfl rfl ⟨hx, hb, hml, hown, hts⟩ hS (c_X4_isQuarter hM si hs hns (nI q) hx1) (cwV 2 hts gX4_percentAt_X4_isQuarter rfl rfl rfl (by decide +kernel) ⟨Nat.le_of_ble_eq_true rfl, Nat.le_of_ble_eq_true rfl⟩) rfl hl.1 rfl (Nat.le_of_ble_eq_true rfl) dX4_percentAt_3 ⟨Nat.le_of_ble_eq_true rfl, Nat.le_of_ble_eq_true rfl⟩ (fun r9 V1 α9 H locs hp hw hS => ?_)
  obtain ⟨rfl, hM, hO9, hα9⟩ := hp
  dsimp only at hM hO9 hα9
  subst hα9
  have hO : ∀ j, ¬ (10 ≤ j ∧ j < 25) → V1 j = V j := fun j hj => (hO9 j hj).trans (hO j hj)
  obtain ⟨m10, m11, m12, m13, m14, m15, m16, m17, m18, m19, m20, m21, m22, m23, m24⟩ := id hM
  refine lv_if_eq (tgt := 18) hx hb dX4_percentAt_6 (by decide) (fun z => absurd z ((by decide))) (fun c1 => ?_)
  refine lv_aload_n hx hb dX4_percentAt_9 rfl (lv_at hl 0 rfl) ?_
  refine lv_iload_n hx hb dX4_percentAt_10 rfl (lv_at hl 1 rfl) ?_
  refine lv_iload_n hx hb dX4_percentAt_11 rfl (lv_at hl 2 rfl) ?_
  refine mcallVi hw (m10) rfl rfl ⟨hx, hb, hml, hown, hts⟩ (c_X4_percented hM si (wN f si) (aN f si) q (by omega) hw1si h9si hasi h10si hq hnr) (cwV 2 hts gX4_percentAt_X4_percented rfl rfl rfl (by decide +kernel) ⟨Nat.le_of_ble_eq_true rfl, Nat.le_of_ble_eq_true rfl⟩) rfl hl.1 rfl (Nat.le_of_ble_eq_true rfl) dX4_percentAt_12 ⟨Nat.le_of_ble_eq_true rfl, Nat.le_of_ble_eq_true rfl⟩ ?_
  refine lv_goto (tgt := 19) hx hb dX4_percentAt_15 (by decide) ?_
  exact W.iret (v := s_P f (wN f si) (aN f si) q nr) hx hb hr (fun t ht hW => ⟨⟨_, (V1, α), rfl, ⟨rfl, hM, hO, rfl⟩, by show mH G V1 α t.heap; rw [ht]; exact hw.2.2⟩, hS.F ht⟩) hS.2.2 dX4_percentAt_19

set_option maxHeartbeats 4000000 in
set_option maxRecDepth 100000 in
theorem c_X4_percentAt_1 {l : Launch} {G : mG} {V : mV} {α : Nat → Nat} {f : sT} {nr nw ns : Nat} {th : Int32} (hM : mM G V α f nr nw ns th) (y : Int32) (hbad : ¬ inn y 0 (nI ns - 1)) (x : Int32) : Met l yX4_percentAt wsX4_percentAt ({ frames := 3, cells := 0, slots := 0, locals := 66 }) (va_Pc [.ref (α (10)), .int (y), .int (x)] (fun U => mW G V α U U.heap)) (va_Qi (fun (r9 : Int32) (u : mV × (Nat → Nat)) => 0 = r9 ∧ mQ G V α u f nr nw ns 1) (fun u t => mH G u.1 u.2 t.heap) (mfree G)) 0 0 (mfree G) := by
  refine Met.ofW (cc := cX4_percentAt) (maxL := 3) (ret := (some .int)) (by decide) rfl ?_
  intro p e s m args below meth c s₁ B hml hv
  obtain ⟨rfl, hw⟩ := hv
  have hx := B.exec
  have hb := B.bytes
  have hr := B.returns
  have hts := atoms_spec (ws := wsX4_percentAt) B.pre
  have hown : s.vm.findClass RX4 = some m.cls := findClass_of_methodNamed B.named
  have hlocks := B.notSynchronized
  have hS : va_S (mfree G) s.heap s.heap [] := va_S.rf
  have hO : ∀ j, ¬ (10 ≤ j ∧ j < 25) → V j = V j := fun _ _ => rfl
  obtain ⟨m10, m11, m12, m13, m14, m15, m16, m17, m18, m19, m20, m21, m22, m23, m24⟩ := id hM
  have hl := lv_entry ([.ref (α (10)), .int (y), .int (x)]) (n := 3) (Nat.le_of_ble_eq_true rfl)
  rw [lg_entry_eq]
  generalize (lg_sl ([.ref (α (10)), .int (y), .int (x)]) ++ List.replicate (3 - (lg_sl ([.ref (α (10)), .int (y), .int (x)])).length) Slot.unset).toArray = ls at hl ⊢
  have hl : lv_has ls 3 [(0, .ref (α (10))), (1, .int (y)), (2, .int (x))] := hl
  refine lv_aload_n hx hb dX4_percentAt_0 rfl (lv_at hl 0 rfl) ?_
  refine lv_iload_n hx hb dX4_percentAt_1 rfl (lv_at hl 1 rfl) ?_
  refine lv_iload_n hx hb dX4_percentAt_2 rfl (lv_at hl 2 rfl) ?_
  refine mcallVw hw (m10) rfl rfl ⟨hx, hb, hml, hown, hts⟩ hS (c_X4_isQuarter_1 hM y hbad x) (cwV 2 hts gX4_percentAt_X4_isQuarter rfl rfl rfl (by decide +kernel) ⟨Nat.le_of_ble_eq_true rfl, Nat.le_of_ble_eq_true rfl⟩) rfl hl.1 rfl (Nat.le_of_ble_eq_true rfl) dX4_percentAt_3 ⟨Nat.le_of_ble_eq_true rfl, Nat.le_of_ble_eq_true rfl⟩ (fun r9 V1 α9 H locs hp hw hS => ?_)
  obtain ⟨rfl, hM, hO9, hα9⟩ := hp
  dsimp only at hM hO9 hα9
  subst hα9
  have hO : ∀ j, ¬ (10 ≤ j ∧ j < 25) → V1 j = V j := fun j hj => (hO9 j hj).trans (hO j hj)
  obtain ⟨m10, m11, m12, m13, m14, m15, m16, m17, m18, m19, m20, m21, m22, m23, m24⟩ := id hM
  refine lv_if_eq (tgt := 18) hx hb dX4_percentAt_6 (by decide) (fun c1 => ?_) (fun z => absurd ((by decide)) z)
  refine lv_iconst (v := (0)) hx hb dX4_percentAt_18 (by decide) ?_
  exact W.iret (v := 0) hx hb hr (fun t ht hW => ⟨⟨_, (V1, α), rfl, ⟨rfl, hM, hO, rfl⟩, by show mH G V1 α t.heap; rw [ht]; exact hw.2.2⟩, hS.F ht⟩) hS.2.2 dX4_percentAt_19

set_option maxHeartbeats 4000000 in
set_option maxRecDepth 100000 in
theorem c_X4_percentAt_2 {l : Launch} {G : mG} {V : mV} {α : Nat → Nat} {f : sT} {nr nw ns : Nat} {th : Int32} (hM : mM G V α f nr nw ns th) (si : Nat) (hs : si < ns) (hns : ns ≤ 80) (x : Int32) (hx1 : ¬ inn x 0 (s_paid f si - 1)) : Met l yX4_percentAt wsX4_percentAt ({ frames := 3, cells := 0, slots := 0, locals := 66 }) (va_Pc [.ref (α (10)), .int (nI (si)), .int (x)] (fun U => mW G V α U U.heap)) (va_Qi (fun (r9 : Int32) (u : mV × (Nat → Nat)) => 0 = r9 ∧ mQ G V α u f nr nw ns 1) (fun u t => mH G u.1 u.2 t.heap) (mfree G)) 0 0 (mfree G) := by
  refine Met.ofW (cc := cX4_percentAt) (maxL := 3) (ret := (some .int)) (by decide) rfl ?_
  intro p e s m args below meth c s₁ B hml hv
  obtain ⟨rfl, hw⟩ := hv
  have hx := B.exec
  have hb := B.bytes
  have hr := B.returns
  have hts := atoms_spec (ws := wsX4_percentAt) B.pre
  have hown : s.vm.findClass RX4 = some m.cls := findClass_of_methodNamed B.named
  have hlocks := B.notSynchronized
  have hS : va_S (mfree G) s.heap s.heap [] := va_S.rf
  have hO : ∀ j, ¬ (10 ≤ j ∧ j < 25) → V j = V j := fun _ _ => rfl
  obtain ⟨m10, m11, m12, m13, m14, m15, m16, m17, m18, m19, m20, m21, m22, m23, m24⟩ := id hM
  have hl := lv_entry ([.ref (α (10)), .int (nI (si)), .int (x)]) (n := 3) (Nat.le_of_ble_eq_true rfl)
  rw [lg_entry_eq]
  generalize (lg_sl ([.ref (α (10)), .int (nI (si)), .int (x)]) ++ List.replicate (3 - (lg_sl ([.ref (α (10)), .int (nI (si)), .int (x)])).length) Slot.unset).toArray = ls at hl ⊢
  have hl : lv_has ls 3 [(0, .ref (α (10))), (1, .int (nI (si))), (2, .int (x))] := hl
  refine lv_aload_n hx hb dX4_percentAt_0 rfl (lv_at hl 0 rfl) ?_
  refine lv_iload_n hx hb dX4_percentAt_1 rfl (lv_at hl 1 rfl) ?_
  refine lv_iload_n hx hb dX4_percentAt_2 rfl (lv_at hl 2 rfl) ?_
  refine mcallVw hw (m10) rfl rfl ⟨hx, hb, hml, hown, hts⟩ hS (c_X4_isQuarter_2 hM si hs hns x hx1) (cwV 2 hts gX4_percentAt_X4_isQuarter rfl rfl rfl (by decide +kernel) ⟨Nat.le_of_ble_eq_true rfl, Nat.le_of_ble_eq_true rfl⟩) rfl hl.1 rfl (Nat.le_of_ble_eq_true rfl) dX4_percentAt_3 ⟨Nat.le_of_ble_eq_true rfl, Nat.le_of_ble_eq_true rfl⟩ (fun r9 V1 α9 H locs hp hw hS => ?_)
  obtain ⟨rfl, hM, hO9, hα9⟩ := hp
  dsimp only at hM hO9 hα9
  subst hα9
  have hO : ∀ j, ¬ (10 ≤ j ∧ j < 25) → V1 j = V j := fun j hj => (hO9 j hj).trans (hO j hj)
  obtain ⟨m10, m11, m12, m13, m14, m15, m16, m17, m18, m19, m20, m21, m22, m23, m24⟩ := id hM
  refine lv_if_eq (tgt := 18) hx hb dX4_percentAt_6 (by decide) (fun c1 => ?_) (fun z => absurd ((by decide)) z)
  refine lv_iconst (v := (0)) hx hb dX4_percentAt_18 (by decide) ?_
  exact W.iret (v := 0) hx hb hr (fun t ht hW => ⟨⟨_, (V1, α), rfl, ⟨rfl, hM, hO, rfl⟩, by show mH G V1 α t.heap; rw [ht]; exact hw.2.2⟩, hS.F ht⟩) hS.2.2 dX4_percentAt_19

set_option maxHeartbeats 4000000 in
set_option maxRecDepth 100000 in
theorem c_X4_reasonAt {l : Launch} {G : mG} {V : mV} {α : Nat → Nat} {f : sT} {nr nw ns : Nat} {th : Int32} (hM : mM G V α f nr nw ns th) (hwf : mwf f nr nw ns) (si : Nat) (hs : si < ns) (q : Nat) (hq : q < 64) (hx1 : inn (nI q) 0 (s_paid f si - 1)) : Met l yX4_reasonAt wsX4_reasonAt ({ frames := 3, cells := 0, slots := 0, locals := 75 }) (va_Pc [.ref (α (10)), .int (nI (si)), .int (nI (q))] (fun U => mW G V α U U.heap)) (va_Qi (fun (r9 : Int32) (u : mV × (Nat → Nat)) => s_R f nr (wN f si) (aN f si) q = r9 ∧ mQ G V α u f nr nw ns 0) (fun u t => mH G u.1 u.2 t.heap) (mfree G)) 0 0 (mfree G) := by
  refine Met.ofW (cc := cX4_reasonAt) (maxL := 3) (ret := (some .int)) (by decide) rfl ?_
  intro p e s m args below meth c s₁ B hml hv
  obtain ⟨rfl, hw⟩ := hv
  have hx := B.exec
  have hb := B.bytes
  have hr := B.returns
  have hts := atoms_spec (ws := wsX4_reasonAt) B.pre
  have hown : s.vm.findClass RX4 = some m.cls := findClass_of_methodNamed B.named
  have hlocks := B.notSynchronized
  have hS : va_S (mfree G) s.heap s.heap [] := va_S.rf
  have hO : ∀ j, ¬ (10 ≤ j ∧ j < 25) → V j = V j := fun _ _ => rfl
  obtain ⟨m10, m11, m12, m13, m14, m15, m16, m17, m18, m19, m20, m21, m22, m23, m24⟩ := id hM
  obtain ⟨⟨hnr, hnw, hns⟩, -, -, h6w, h7w, -⟩ := id hwf
  obtain ⟨⟨hw0si, hw1si⟩, h9si, hasi, h10si, hr0si, h8si, hN2si, hNsi⟩ := hwf.sh si (by omega)
  have hl := lv_entry ([.ref (α (10)), .int (nI (si)), .int (nI (q))]) (n := 3) (Nat.le_of_ble_eq_true rfl)
  rw [lg_entry_eq]
  generalize (lg_sl ([.ref (α (10)), .int (nI (si)), .int (nI (q))]) ++ List.replicate (3 - (lg_sl ([.ref (α (10)), .int (nI (si)), .int (nI (q))])).length) Slot.unset).toArray = ls at hl ⊢
  have hl : lv_has ls 3 [(0, .ref (α (10))), (1, .int (nI (si))), (2, .int (nI (q)))] := hl
  refine lv_aload_n hx hb dX4_reasonAt_0 rfl (lv_at hl 0 rfl) ?_
  refine lv_iload_n hx hb dX4_reasonAt_1 rfl (lv_at hl 1 rfl) ?_
  refine lv_iload_n hx hb dX4_reasonAt_2 rfl (lv_at hl 2 rfl) ?_
  refine mcallVw hw (m10) rfl rfl ⟨hx, hb, hml, hown, hts⟩ hS (c_X4_isQuarter hM si hs hns (nI q) hx1) (cwV 2 hts gX4_reasonAt_X4_isQuarter rfl rfl rfl (by decide +kernel) ⟨Nat.le_of_ble_eq_true rfl, Nat.le_of_ble_eq_true rfl⟩) rfl hl.1 rfl (Nat.le_of_ble_eq_true rfl) dX4_reasonAt_3 ⟨Nat.le_of_ble_eq_true rfl, Nat.le_of_ble_eq_true rfl⟩ (fun r9 V1 α9 H locs hp hw hS => ?_)
  obtain ⟨rfl, hM, hO9, hα9⟩ := hp
  dsimp only at hM hO9 hα9
  subst hα9
  have hO : ∀ j, ¬ (10 ≤ j ∧ j < 25) → V1 j = V j := fun j hj => (hO9 j hj).trans (hO j hj)
  obtain ⟨m10, m11, m12, m13, m14, m15, m16, m17, m18, m19, m20, m21, m22, m23, m24⟩ := id hM
  refine lv_if_eq (tgt := 18) hx hb dX4_reasonAt_6 (by decide) (fun z => absurd z ((by decide))) (fun c1 => ?_)
  refine lv_aload_n hx hb dX4_reasonAt_9 rfl (lv_at hl 0 rfl) ?_
  refine lv_iload_n hx hb dX4_reasonAt_10 rfl (lv_at hl 1 rfl) ?_
  refine lv_iload_n hx hb dX4_reasonAt_11 rfl (lv_at hl 2 rfl) ?_
  refine mcallVi hw (m10) rfl rfl ⟨hx, hb, hml, hown, hts⟩ (c_X4_reasoned hM si (wN f si) (aN f si) q (by omega) hw1si h9si hasi h10si hq hnr) (cwV 2 hts gX4_reasonAt_X4_reasoned rfl rfl rfl (by decide +kernel) ⟨Nat.le_of_ble_eq_true rfl, Nat.le_of_ble_eq_true rfl⟩) rfl hl.1 rfl (Nat.le_of_ble_eq_true rfl) dX4_reasonAt_12 ⟨Nat.le_of_ble_eq_true rfl, Nat.le_of_ble_eq_true rfl⟩ ?_
  refine lv_goto (tgt := 19) hx hb dX4_reasonAt_15 (by decide) ?_
  exact W.iret (v := s_R f nr (wN f si) (aN f si) q) hx hb hr (fun t ht hW => ⟨⟨_, (V1, α), rfl, ⟨rfl, hM, hO, rfl⟩, by show mH G V1 α t.heap; rw [ht]; exact hw.2.2⟩, hS.F ht⟩) hS.2.2 dX4_reasonAt_19

set_option maxHeartbeats 4000000 in
set_option maxRecDepth 100000 in
theorem c_X4_reasonAt_1 {l : Launch} {G : mG} {V : mV} {α : Nat → Nat} {f : sT} {nr nw ns : Nat} {th : Int32} (hM : mM G V α f nr nw ns th) (y : Int32) (hbad : ¬ inn y 0 (nI ns - 1)) (x : Int32) : Met l yX4_reasonAt wsX4_reasonAt ({ frames := 3, cells := 0, slots := 0, locals := 66 }) (va_Pc [.ref (α (10)), .int (y), .int (x)] (fun U => mW G V α U U.heap)) (va_Qi (fun (r9 : Int32) (u : mV × (Nat → Nat)) => 0 = r9 ∧ mQ G V α u f nr nw ns 1) (fun u t => mH G u.1 u.2 t.heap) (mfree G)) 0 0 (mfree G) := by
  refine Met.ofW (cc := cX4_reasonAt) (maxL := 3) (ret := (some .int)) (by decide) rfl ?_
  intro p e s m args below meth c s₁ B hml hv
  obtain ⟨rfl, hw⟩ := hv
  have hx := B.exec
  have hb := B.bytes
  have hr := B.returns
  have hts := atoms_spec (ws := wsX4_reasonAt) B.pre
  have hown : s.vm.findClass RX4 = some m.cls := findClass_of_methodNamed B.named
  have hlocks := B.notSynchronized
  have hS : va_S (mfree G) s.heap s.heap [] := va_S.rf
  have hO : ∀ j, ¬ (10 ≤ j ∧ j < 25) → V j = V j := fun _ _ => rfl
  obtain ⟨m10, m11, m12, m13, m14, m15, m16, m17, m18, m19, m20, m21, m22, m23, m24⟩ := id hM
  have hl := lv_entry ([.ref (α (10)), .int (y), .int (x)]) (n := 3) (Nat.le_of_ble_eq_true rfl)
  rw [lg_entry_eq]
  generalize (lg_sl ([.ref (α (10)), .int (y), .int (x)]) ++ List.replicate (3 - (lg_sl ([.ref (α (10)), .int (y), .int (x)])).length) Slot.unset).toArray = ls at hl ⊢
  have hl : lv_has ls 3 [(0, .ref (α (10))), (1, .int (y)), (2, .int (x))] := hl
  refine lv_aload_n hx hb dX4_reasonAt_0 rfl (lv_at hl 0 rfl) ?_
  refine lv_iload_n hx hb dX4_reasonAt_1 rfl (lv_at hl 1 rfl) ?_
  refine lv_iload_n hx hb dX4_reasonAt_2 rfl (lv_at hl 2 rfl) ?_
  refine mcallVw hw (m10) rfl rfl ⟨hx, hb, hml, hown, hts⟩ hS (c_X4_isQuarter_1 hM y hbad x) (cwV 2 hts gX4_reasonAt_X4_isQuarter rfl rfl rfl (by decide +kernel) ⟨Nat.le_of_ble_eq_true rfl, Nat.le_of_ble_eq_true rfl⟩) rfl hl.1 rfl (Nat.le_of_ble_eq_true rfl) dX4_reasonAt_3 ⟨Nat.le_of_ble_eq_true rfl, Nat.le_of_ble_eq_true rfl⟩ (fun r9 V1 α9 H locs hp hw hS => ?_)
  obtain ⟨rfl, hM, hO9, hα9⟩ := hp
  dsimp only at hM hO9 hα9
  subst hα9
  have hO : ∀ j, ¬ (10 ≤ j ∧ j < 25) → V1 j = V j := fun j hj => (hO9 j hj).trans (hO j hj)
  obtain ⟨m10, m11, m12, m13, m14, m15, m16, m17, m18, m19, m20, m21, m22, m23, m24⟩ := id hM
  refine lv_if_eq (tgt := 18) hx hb dX4_reasonAt_6 (by decide) (fun c1 => ?_) (fun z => absurd ((by decide)) z)
  refine lv_iconst (v := (0)) hx hb dX4_reasonAt_18 (by decide) ?_
  exact W.iret (v := 0) hx hb hr (fun t ht hW => ⟨⟨_, (V1, α), rfl, ⟨rfl, hM, hO, rfl⟩, by show mH G V1 α t.heap; rw [ht]; exact hw.2.2⟩, hS.F ht⟩) hS.2.2 dX4_reasonAt_19

set_option maxHeartbeats 4000000 in
set_option maxRecDepth 100000 in
theorem c_X4_reasonAt_2 {l : Launch} {G : mG} {V : mV} {α : Nat → Nat} {f : sT} {nr nw ns : Nat} {th : Int32} (hM : mM G V α f nr nw ns th) (si : Nat) (hs : si < ns) (hns : ns ≤ 80) (x : Int32) (hx1 : ¬ inn x 0 (s_paid f si - 1)) : Met l yX4_reasonAt wsX4_reasonAt ({ frames := 3, cells := 0, slots := 0, locals := 66 }) (va_Pc [.ref (α (10)), .int (nI (si)), .int (x)] (fun U => mW G V α U U.heap)) (va_Qi (fun (r9 : Int32) (u : mV × (Nat → Nat)) => 0 = r9 ∧ mQ G V α u f nr nw ns 1) (fun u t => mH G u.1 u.2 t.heap) (mfree G)) 0 0 (mfree G) := by
  refine Met.ofW (cc := cX4_reasonAt) (maxL := 3) (ret := (some .int)) (by decide) rfl ?_
  intro p e s m args below meth c s₁ B hml hv
  obtain ⟨rfl, hw⟩ := hv
  have hx := B.exec
  have hb := B.bytes
  have hr := B.returns
  have hts := atoms_spec (ws := wsX4_reasonAt) B.pre
  have hown : s.vm.findClass RX4 = some m.cls := findClass_of_methodNamed B.named
  have hlocks := B.notSynchronized
  have hS : va_S (mfree G) s.heap s.heap [] := va_S.rf
  have hO : ∀ j, ¬ (10 ≤ j ∧ j < 25) → V j = V j := fun _ _ => rfl
  obtain ⟨m10, m11, m12, m13, m14, m15, m16, m17, m18, m19, m20, m21, m22, m23, m24⟩ := id hM
  have hl := lv_entry ([.ref (α (10)), .int (nI (si)), .int (x)]) (n := 3) (Nat.le_of_ble_eq_true rfl)
  rw [lg_entry_eq]
  generalize (lg_sl ([.ref (α (10)), .int (nI (si)), .int (x)]) ++ List.replicate (3 - (lg_sl ([.ref (α (10)), .int (nI (si)), .int (x)])).length) Slot.unset).toArray = ls at hl ⊢
  have hl : lv_has ls 3 [(0, .ref (α (10))), (1, .int (nI (si))), (2, .int (x))] := hl
  refine lv_aload_n hx hb dX4_reasonAt_0 rfl (lv_at hl 0 rfl) ?_
  refine lv_iload_n hx hb dX4_reasonAt_1 rfl (lv_at hl 1 rfl) ?_
  refine lv_iload_n hx hb dX4_reasonAt_2 rfl (lv_at hl 2 rfl) ?_
  refine mcallVw hw (m10) rfl rfl ⟨hx, hb, hml, hown, hts⟩ hS (c_X4_isQuarter_2 hM si hs hns x hx1) (cwV 2 hts gX4_reasonAt_X4_isQuarter rfl rfl rfl (by decide +kernel) ⟨Nat.le_of_ble_eq_true rfl, Nat.le_of_ble_eq_true rfl⟩) rfl hl.1 rfl (Nat.le_of_ble_eq_true rfl) dX4_reasonAt_3 ⟨Nat.le_of_ble_eq_true rfl, Nat.le_of_ble_eq_true rfl⟩ (fun r9 V1 α9 H locs hp hw hS => ?_)
  obtain ⟨rfl, hM, hO9, hα9⟩ := hp
  dsimp only at hM hO9 hα9
  subst hα9
  have hO : ∀ j, ¬ (10 ≤ j ∧ j < 25) → V1 j = V j := fun j hj => (hO9 j hj).trans (hO j hj)
  obtain ⟨m10, m11, m12, m13, m14, m15, m16, m17, m18, m19, m20, m21, m22, m23, m24⟩ := id hM
  refine lv_if_eq (tgt := 18) hx hb dX4_reasonAt_6 (by decide) (fun c1 => ?_) (fun z => absurd ((by decide)) z)
  refine lv_iconst (v := (0)) hx hb dX4_reasonAt_18 (by decide) ?_
  exact W.iret (v := 0) hx hb hr (fun t ht hW => ⟨⟨_, (V1, α), rfl, ⟨rfl, hM, hO, rfl⟩, by show mH G V1 α t.heap; rw [ht]; exact hw.2.2⟩, hS.F ht⟩) hS.2.2 dX4_reasonAt_19

set_option maxHeartbeats 4000000 in
set_option maxRecDepth 100000 in
theorem c_X4_missed {l : Launch} {G : mG} {V : mV} {α : Nat → Nat} {f : sT} {nr nw ns : Nat} {th : Int32} (hM : mM G V α f nr nw ns th) (si : Nat) (hs : si < ns) (hns : ns ≤ 80) : Met l yX4_missed wsX4_missed ({ frames := 2, cells := 0, slots := 0, locals := 43 }) (va_Pc [.ref (α (10)), .int (nI (si))] (fun U => mW G V α U U.heap)) (va_Qi (fun (r9 : Int32) (u : mV × (Nat → Nat)) => s_lacks f si = r9 ∧ mQ G V α u f nr nw ns 0) (fun u t => mH G u.1 u.2 t.heap) (mfree G)) 0 0 (mfree G) := by
  refine Met.ofW (cc := cX4_missed) (maxL := 2) (ret := (some .int)) (by decide) rfl ?_
  intro p e s m args below meth c s₁ B hml hv
  obtain ⟨rfl, hw⟩ := hv
  have hx := B.exec
  have hb := B.bytes
  have hr := B.returns
  have hts := atoms_spec (ws := wsX4_missed) B.pre
  have hown : s.vm.findClass RX4 = some m.cls := findClass_of_methodNamed B.named
  have hlocks := B.notSynchronized
  have hS : va_S (mfree G) s.heap s.heap [] := va_S.rf
  have hO : ∀ j, ¬ (10 ≤ j ∧ j < 25) → V j = V j := fun _ _ => rfl
  obtain ⟨m10, m11, m12, m13, m14, m15, m16, m17, m18, m19, m20, m21, m22, m23, m24⟩ := id hM
  have hl := lv_entry ([.ref (α (10)), .int (nI (si))]) (n := 2) (Nat.le_of_ble_eq_true rfl)
  rw [lg_entry_eq]
  generalize (lg_sl ([.ref (α (10)), .int (nI (si))]) ++ List.replicate (2 - (lg_sl ([.ref (α (10)), .int (nI (si))])).length) Slot.unset).toArray = ls at hl ⊢
  have hl : lv_has ls 2 [(0, .ref (α (10))), (1, .int (nI (si)))] := hl
  refine lv_aload_n hx hb dX4_missed_0 rfl (lv_at hl 0 rfl) ?_
  refine lv_iload_n hx hb dX4_missed_1 rfl (lv_at hl 1 rfl) ?_
  refine mcallVw hw (m10) rfl rfl ⟨hx, hb, hml, hown, hts⟩ hS (c_X4_isShift hM si hs hns) (cwV 1 hts gX4_missed_X4_isShift rfl rfl rfl (by decide +kernel) ⟨Nat.le_of_ble_eq_true rfl, Nat.le_of_ble_eq_true rfl⟩) rfl hl.1 rfl (Nat.le_of_ble_eq_true rfl) dX4_missed_2 ⟨Nat.le_of_ble_eq_true rfl, Nat.le_of_ble_eq_true rfl⟩ (fun r9 V1 α9 H locs hp hw hS => ?_)
  obtain ⟨rfl, hM, hO9, hα9⟩ := hp
  dsimp only at hM hO9 hα9
  subst hα9
  have hO : ∀ j, ¬ (10 ≤ j ∧ j < 25) → V1 j = V j := fun j hj => (hO9 j hj).trans (hO j hj)
  obtain ⟨m10, m11, m12, m13, m14, m15, m16, m17, m18, m19, m20, m21, m22, m23, m24⟩ := id hM
  refine lv_if_eq (tgt := 16) hx hb dX4_missed_5 (by decide) (fun z => absurd z ((by decide))) (fun c1 => ?_)
  refine lv_aload_n hx hb dX4_missed_8 rfl (lv_at hl 0 rfl) ?_
  refine lv_iload_n hx hb dX4_missed_9 rfl (lv_at hl 1 rfl) ?_
  refine mcallVi hw (m10) rfl rfl ⟨hx, hb, hml, hown, hts⟩ (c_X4_lacks hM si (by omega)) (cwV 1 hts gX4_missed_X4_lacks rfl rfl rfl (by decide +kernel) ⟨Nat.le_of_ble_eq_true rfl, Nat.le_of_ble_eq_true rfl⟩) rfl hl.1 rfl (Nat.le_of_ble_eq_true rfl) dX4_missed_10 ⟨Nat.le_of_ble_eq_true rfl, Nat.le_of_ble_eq_true rfl⟩ ?_
  refine lv_goto (tgt := 17) hx hb dX4_missed_13 (by decide) ?_
  exact W.iret (v := s_lacks f si) hx hb hr (fun t ht hW => ⟨⟨_, (V1, α), rfl, ⟨rfl, hM, hO, rfl⟩, by show mH G V1 α t.heap; rw [ht]; exact hw.2.2⟩, hS.F ht⟩) hS.2.2 dX4_missed_17

set_option maxHeartbeats 4000000 in
set_option maxRecDepth 100000 in
theorem c_X4_missed_1 {l : Launch} {G : mG} {V : mV} {α : Nat → Nat} {f : sT} {nr nw ns : Nat} {th : Int32} (hM : mM G V α f nr nw ns th) (y : Int32) (hbad : ¬ inn y 0 (nI ns - 1)) : Met l yX4_missed wsX4_missed ({ frames := 2, cells := 0, slots := 0, locals := 43 }) (va_Pc [.ref (α (10)), .int (y)] (fun U => mW G V α U U.heap)) (va_Qi (fun (r9 : Int32) (u : mV × (Nat → Nat)) => 0 = r9 ∧ mQ G V α u f nr nw ns 1) (fun u t => mH G u.1 u.2 t.heap) (mfree G)) 0 0 (mfree G) := by
  refine Met.ofW (cc := cX4_missed) (maxL := 2) (ret := (some .int)) (by decide) rfl ?_
  intro p e s m args below meth c s₁ B hml hv
  obtain ⟨rfl, hw⟩ := hv
  have hx := B.exec
  have hb := B.bytes
  have hr := B.returns
  have hts := atoms_spec (ws := wsX4_missed) B.pre
  have hown : s.vm.findClass RX4 = some m.cls := findClass_of_methodNamed B.named
  have hlocks := B.notSynchronized
  have hS : va_S (mfree G) s.heap s.heap [] := va_S.rf
  have hO : ∀ j, ¬ (10 ≤ j ∧ j < 25) → V j = V j := fun _ _ => rfl
  obtain ⟨m10, m11, m12, m13, m14, m15, m16, m17, m18, m19, m20, m21, m22, m23, m24⟩ := id hM
  have hl := lv_entry ([.ref (α (10)), .int (y)]) (n := 2) (Nat.le_of_ble_eq_true rfl)
  rw [lg_entry_eq]
  generalize (lg_sl ([.ref (α (10)), .int (y)]) ++ List.replicate (2 - (lg_sl ([.ref (α (10)), .int (y)])).length) Slot.unset).toArray = ls at hl ⊢
  have hl : lv_has ls 2 [(0, .ref (α (10))), (1, .int (y))] := hl
  refine lv_aload_n hx hb dX4_missed_0 rfl (lv_at hl 0 rfl) ?_
  refine lv_iload_n hx hb dX4_missed_1 rfl (lv_at hl 1 rfl) ?_
  refine mcallVw hw (m10) rfl rfl ⟨hx, hb, hml, hown, hts⟩ hS (c_X4_isShift_1 hM y hbad) (cwV 1 hts gX4_missed_X4_isShift rfl rfl rfl (by decide +kernel) ⟨Nat.le_of_ble_eq_true rfl, Nat.le_of_ble_eq_true rfl⟩) rfl hl.1 rfl (Nat.le_of_ble_eq_true rfl) dX4_missed_2 ⟨Nat.le_of_ble_eq_true rfl, Nat.le_of_ble_eq_true rfl⟩ (fun r9 V1 α9 H locs hp hw hS => ?_)
  obtain ⟨rfl, hM, hO9, hα9⟩ := hp
  dsimp only at hM hO9 hα9
  subst hα9
  have hO : ∀ j, ¬ (10 ≤ j ∧ j < 25) → V1 j = V j := fun j hj => (hO9 j hj).trans (hO j hj)
  obtain ⟨m10, m11, m12, m13, m14, m15, m16, m17, m18, m19, m20, m21, m22, m23, m24⟩ := id hM
  refine lv_if_eq (tgt := 16) hx hb dX4_missed_5 (by decide) (fun c1 => ?_) (fun z => absurd ((by decide)) z)
  refine lv_iconst (v := (0)) hx hb dX4_missed_16 (by decide) ?_
  exact W.iret (v := 0) hx hb hr (fun t ht hW => ⟨⟨_, (V1, α), rfl, ⟨rfl, hM, hO, rfl⟩, by show mH G V1 α t.heap; rw [ht]; exact hw.2.2⟩, hS.F ht⟩) hS.2.2 dX4_missed_17

set_option maxHeartbeats 4000000 in
set_option maxRecDepth 100000 in
theorem c_X4_pay {l : Launch} {G : mG} {V : mV} {α : Nat → Nat} {f : sT} {nr nw ns : Nat} {th : Int32} (hM : mM G V α f nr nw ns th) (hwf : mwf f nr nw ns) (si : Nat) (hs : si < ns) : Met l yX4_pay wsX4_pay ({ frames := 4, cells := 0, slots := 0, locals := 96 }) (va_Pc [.ref (α (10)), .int (nI (si))] (fun U => mW G V α U U.heap)) (va_Qi (fun (r9 : Int32) (u : mV × (Nat → Nat)) => s_pay f nr si = r9 ∧ mQ G V α u f nr nw ns 0) (fun u t => mH G u.1 u.2 t.heap) (mfree G)) 0 0 (mfree G) := by
  refine Met.ofW (cc := cX4_pay) (maxL := 2) (ret := (some .int)) (by decide) rfl ?_
  intro p e s m args below meth c s₁ B hml hv
  obtain ⟨rfl, hw⟩ := hv
  have hx := B.exec
  have hb := B.bytes
  have hr := B.returns
  have hts := atoms_spec (ws := wsX4_pay) B.pre
  have hown : s.vm.findClass RX4 = some m.cls := findClass_of_methodNamed B.named
  have hlocks := B.notSynchronized
  have hS : va_S (mfree G) s.heap s.heap [] := va_S.rf
  have hO : ∀ j, ¬ (10 ≤ j ∧ j < 25) → V j = V j := fun _ _ => rfl
  obtain ⟨m10, m11, m12, m13, m14, m15, m16, m17, m18, m19, m20, m21, m22, m23, m24⟩ := id hM
  obtain ⟨⟨hnr, hnw, hns⟩, -, -, h6w, h7w, -⟩ := id hwf
  obtain ⟨⟨hw0si, hw1si⟩, h9si, hasi, h10si, hr0si, h8si, hN2si, hNsi⟩ := hwf.sh si (by omega)
  have hl := lv_entry ([.ref (α (10)), .int (nI (si))]) (n := 2) (Nat.le_of_ble_eq_true rfl)
  rw [lg_entry_eq]
  generalize (lg_sl ([.ref (α (10)), .int (nI (si))]) ++ List.replicate (2 - (lg_sl ([.ref (α (10)), .int (nI (si))])).length) Slot.unset).toArray = ls at hl ⊢
  have hl : lv_has ls 2 [(0, .ref (α (10))), (1, .int (nI (si)))] := hl
  refine lv_aload_n hx hb dX4_pay_0 rfl (lv_at hl 0 rfl) ?_
  refine lv_iload_n hx hb dX4_pay_1 rfl (lv_at hl 1 rfl) ?_
  refine mcallVw hw (m10) rfl rfl ⟨hx, hb, hml, hown, hts⟩ hS (c_X4_isShift hM si hs hns) (cwV 1 hts gX4_pay_X4_isShift rfl rfl rfl (by decide +kernel) ⟨Nat.le_of_ble_eq_true rfl, Nat.le_of_ble_eq_true rfl⟩) rfl hl.1 rfl (Nat.le_of_ble_eq_true rfl) dX4_pay_2 ⟨Nat.le_of_ble_eq_true rfl, Nat.le_of_ble_eq_true rfl⟩ (fun r9 V1 α9 H locs hp hw hS => ?_)
  obtain ⟨rfl, hM, hO9, hα9⟩ := hp
  dsimp only at hM hO9 hα9
  subst hα9
  have hO : ∀ j, ¬ (10 ≤ j ∧ j < 25) → V1 j = V j := fun j hj => (hO9 j hj).trans (hO j hj)
  obtain ⟨m10, m11, m12, m13, m14, m15, m16, m17, m18, m19, m20, m21, m22, m23, m24⟩ := id hM
  refine lv_if_eq (tgt := 16) hx hb dX4_pay_5 (by decide) (fun z => absurd z ((by decide))) (fun c1 => ?_)
  refine lv_aload_n hx hb dX4_pay_8 rfl (lv_at hl 0 rfl) ?_
  refine lv_iload_n hx hb dX4_pay_9 rfl (lv_at hl 1 rfl) ?_
  refine mcallVi hw (m10) rfl rfl ⟨hx, hb, hml, hown, hts⟩ (c_X4_payed hM si (wN f si) (aN f si) (rN f (wN f si)) (by omega) hw1si h9si h8si hr0si hasi h10si hnr (pN f si) hNsi hN2si) (cwV 1 hts gX4_pay_X4_payed rfl rfl rfl (by decide +kernel) ⟨Nat.le_of_ble_eq_true rfl, Nat.le_of_ble_eq_true rfl⟩) rfl hl.1 rfl (Nat.le_of_ble_eq_true rfl) dX4_pay_10 ⟨Nat.le_of_ble_eq_true rfl, Nat.le_of_ble_eq_true rfl⟩ ?_
  refine lv_goto (tgt := 17) hx hb dX4_pay_13 (by decide) ?_
  exact W.iret (v := s_pay f nr si) hx hb hr (fun t ht hW => ⟨⟨_, (V1, α), rfl, ⟨rfl, hM, hO, rfl⟩, by show mH G V1 α t.heap; rw [ht]; exact hw.2.2⟩, hS.F ht⟩) hS.2.2 dX4_pay_17

set_option maxHeartbeats 4000000 in
set_option maxRecDepth 100000 in
theorem c_X4_pay_1 {l : Launch} {G : mG} {V : mV} {α : Nat → Nat} {f : sT} {nr nw ns : Nat} {th : Int32} (hM : mM G V α f nr nw ns th) (y : Int32) (hbad : ¬ inn y 0 (nI ns - 1)) : Met l yX4_pay wsX4_pay ({ frames := 2, cells := 0, slots := 0, locals := 43 }) (va_Pc [.ref (α (10)), .int (y)] (fun U => mW G V α U U.heap)) (va_Qi (fun (r9 : Int32) (u : mV × (Nat → Nat)) => 0 = r9 ∧ mQ G V α u f nr nw ns 1) (fun u t => mH G u.1 u.2 t.heap) (mfree G)) 0 0 (mfree G) := by
  refine Met.ofW (cc := cX4_pay) (maxL := 2) (ret := (some .int)) (by decide) rfl ?_
  intro p e s m args below meth c s₁ B hml hv
  obtain ⟨rfl, hw⟩ := hv
  have hx := B.exec
  have hb := B.bytes
  have hr := B.returns
  have hts := atoms_spec (ws := wsX4_pay) B.pre
  have hown : s.vm.findClass RX4 = some m.cls := findClass_of_methodNamed B.named
  have hlocks := B.notSynchronized
  have hS : va_S (mfree G) s.heap s.heap [] := va_S.rf
  have hO : ∀ j, ¬ (10 ≤ j ∧ j < 25) → V j = V j := fun _ _ => rfl
  obtain ⟨m10, m11, m12, m13, m14, m15, m16, m17, m18, m19, m20, m21, m22, m23, m24⟩ := id hM
  have hl := lv_entry ([.ref (α (10)), .int (y)]) (n := 2) (Nat.le_of_ble_eq_true rfl)
  rw [lg_entry_eq]
  generalize (lg_sl ([.ref (α (10)), .int (y)]) ++ List.replicate (2 - (lg_sl ([.ref (α (10)), .int (y)])).length) Slot.unset).toArray = ls at hl ⊢
  have hl : lv_has ls 2 [(0, .ref (α (10))), (1, .int (y))] := hl
  refine lv_aload_n hx hb dX4_pay_0 rfl (lv_at hl 0 rfl) ?_
  refine lv_iload_n hx hb dX4_pay_1 rfl (lv_at hl 1 rfl) ?_
  refine mcallVw hw (m10) rfl rfl ⟨hx, hb, hml, hown, hts⟩ hS (c_X4_isShift_1 hM y hbad) (cwV 1 hts gX4_pay_X4_isShift rfl rfl rfl (by decide +kernel) ⟨Nat.le_of_ble_eq_true rfl, Nat.le_of_ble_eq_true rfl⟩) rfl hl.1 rfl (Nat.le_of_ble_eq_true rfl) dX4_pay_2 ⟨Nat.le_of_ble_eq_true rfl, Nat.le_of_ble_eq_true rfl⟩ (fun r9 V1 α9 H locs hp hw hS => ?_)
  obtain ⟨rfl, hM, hO9, hα9⟩ := hp
  dsimp only at hM hO9 hα9
  subst hα9
  have hO : ∀ j, ¬ (10 ≤ j ∧ j < 25) → V1 j = V j := fun j hj => (hO9 j hj).trans (hO j hj)
  obtain ⟨m10, m11, m12, m13, m14, m15, m16, m17, m18, m19, m20, m21, m22, m23, m24⟩ := id hM
  refine lv_if_eq (tgt := 16) hx hb dX4_pay_5 (by decide) (fun c1 => ?_) (fun z => absurd ((by decide)) z)
  refine lv_iconst (v := (0)) hx hb dX4_pay_16 (by decide) ?_
  exact W.iret (v := 0) hx hb hr (fun t ht hW => ⟨⟨_, (V1, α), rfl, ⟨rfl, hM, hO, rfl⟩, by show mH G V1 α t.heap; rw [ht]; exact hw.2.2⟩, hS.F ht⟩) hS.2.2 dX4_pay_17

set_option maxHeartbeats 4000000 in
set_option maxRecDepth 100000 in
theorem c_X4_payOf {l : Launch} {G : mG} {V : mV} {α : Nat → Nat} {f : sT} {nr nw ns : Nat} {th : Int32} (hM : mM G V α f nr nw ns th) (hwf : mwf f nr nw ns) (k : Nat) (hk : k < nw) (lo hi : Int32) (hlo : inn lo 0 363) (hhi : inn hi lo 363) : Met l yX4_payOf wsX4_payOf ({ frames := 4, cells := 0, slots := 0, locals := 96 }) (va_Pc [.ref (α (10)), .int (nI (k)), .int (lo), .int (hi)] (fun U => mW G V α U U.heap)) (va_Qi (fun (r9 : Int32) (u : mV × (Nat → Nat)) => s_po f nr (nI (k)) lo hi ns = r9 ∧ mQ G V α u f nr nw ns 0) (fun u t => mH G u.1 u.2 t.heap) (mfree G)) 0 0 (mfree G) := by
  refine Met.ofW (cc := cX4_payOf) (maxL := 6) (ret := (some .int)) (by decide) rfl ?_
  intro p e s m args below meth c s₁ B hml hv
  obtain ⟨rfl, hw⟩ := hv
  have hx := B.exec
  have hb := B.bytes
  have hr := B.returns
  have hts := atoms_spec (ws := wsX4_payOf) B.pre
  have hown : s.vm.findClass RX4 = some m.cls := findClass_of_methodNamed B.named
  have hlocks := B.notSynchronized
  have hS : va_S (mfree G) s.heap s.heap [] := va_S.rf
  have hO : ∀ j, ¬ (10 ≤ j ∧ j < 25) → V j = V j := fun _ _ => rfl
  obtain ⟨m10, m11, m12, m13, m14, m15, m16, m17, m18, m19, m20, m21, m22, m23, m24⟩ := id hM
  obtain ⟨⟨hnr, hnw, hns⟩, -, -, h6w, h7w, -⟩ := id hwf
  have fl_53 := hts (.fieldLink RX4 53 "RosterPayModel" "thrown" "I") (by decide +kernel)
  have in_X4 : ∀ w ∈ u_ws RX4 TX4 18, w ∈ wsX4_payOf := by decide +kernel
  have fl_67 := hts (.fieldLink RX4 67 "RosterPayModel" "shifts" "I") (by decide +kernel)
  have fl_38 := hts (.fieldLink RX4 38 "RosterPayModel" "by" "[I") (by decide +kernel)
  have fl_41 := hts (.fieldLink RX4 41 "RosterPayModel" "start" "[I") (by decide +kernel)
  have hl := lv_entry ([.ref (α (10)), .int (nI (k)), .int (lo), .int (hi)]) (n := 6) (Nat.le_of_ble_eq_true rfl)
  rw [lg_entry_eq]
  generalize (lg_sl ([.ref (α (10)), .int (nI (k)), .int (lo), .int (hi)]) ++ List.replicate (6 - (lg_sl ([.ref (α (10)), .int (nI (k)), .int (lo), .int (hi)])).length) Slot.unset).toArray = ls at hl ⊢
  have hl : lv_has ls 6 [(0, .ref (α (10))), (1, .int (nI (k))), (2, .int (lo)), (3, .int (hi))] := hl
  refine lv_aload_n hx hb dX4_payOf_0 rfl (lv_at hl 0 rfl) ?_
  refine lv_aload_n hx hb dX4_payOf_1 rfl (lv_at hl 0 rfl) ?_
  refine lv_iload_n hx hb dX4_payOf_2 rfl (lv_at hl 1 rfl) ?_
  refine mcallVi hw (m10) rfl rfl ⟨hx, hb, hml, hown, hts⟩ (c_X4_isWorker hM (nI (k))) (cwV 1 hts gX4_payOf_X4_isWorker rfl rfl rfl (by decide +kernel) ⟨Nat.le_of_ble_eq_true rfl, Nat.le_of_ble_eq_true rfl⟩) rfl hl.1 rfl (Nat.le_of_ble_eq_true rfl) dX4_payOf_3 ⟨Nat.le_of_ble_eq_true rfl, Nat.le_of_ble_eq_true rfl⟩ ?_
  refine mif_neB (tgt := 13) hx hb dX4_payOf_6 (by decide) (fun c1 => ?_) (fun z => absurd (inn_ix hk (by omega)) z)
  refine lv_iload_n hx hb dX4_payOf_13 rfl (lv_at hl 2 rfl) ?_
  refine lv_iconst (v := (0)) hx hb dX4_payOf_14 (by decide) ?_
  refine lv_sipush (v := (363)) hx hb dX4_payOf_15 (by decide) ?_
  refine mcallSi hw ⟨hx, hb, hml, hown, hts⟩ (c_X4_isIn (lo) (0) (363)) (va_cwS 3 hts gX4_payOf_X4_isIn rfl rfl rfl (by decide +kernel) ⟨Nat.le_of_ble_eq_true rfl, Nat.le_of_ble_eq_true rfl⟩) rfl hl.1 rfl (Nat.le_of_ble_eq_true rfl) dX4_payOf_18 ⟨Nat.le_of_ble_eq_true rfl, Nat.le_of_ble_eq_true rfl⟩ ?_
  refine mif_eqB (tgt := 39) hx hb dX4_payOf_21 (by decide) (fun z => absurd (hlo) z) (fun c2 => ?_)
  refine lv_iload_n hx hb dX4_payOf_24 rfl (lv_at hl 3 rfl) ?_
  refine lv_iload_n hx hb dX4_payOf_25 rfl (lv_at hl 2 rfl) ?_
  refine lv_sipush (v := (363)) hx hb dX4_payOf_26 (by decide) ?_
  refine mcallSi hw ⟨hx, hb, hml, hown, hts⟩ (c_X4_isIn (hi) (lo) (363)) (va_cwS 3 hts gX4_payOf_X4_isIn rfl rfl rfl (by decide +kernel) ⟨Nat.le_of_ble_eq_true rfl, Nat.le_of_ble_eq_true rfl⟩) rfl hl.1 rfl (Nat.le_of_ble_eq_true rfl) dX4_payOf_29 ⟨Nat.le_of_ble_eq_true rfl, Nat.le_of_ble_eq_true rfl⟩ ?_
  refine mif_eqB (tgt := 39) hx hb dX4_payOf_32 (by decide) (fun z => absurd (hhi) z) (fun c3 => ?_)
  refine lv_iconst (v := (0)) hx hb dX4_payOf_35 (by decide) ?_
  refine lv_goto (tgt := 40) hx hb dX4_payOf_36 (by decide) ?_
  refine mput (C := RX4) (T := TX4) (N := 18) (ci := 5) hx hb hts in_X4 tyX4 tyX4_ok nmX4 hown hw hS (m10) rfl 17 (by decide) fl_53 rfl rfl rfl (Nat.le_of_ble_eq_true rfl) dX4_payOf_40 (fun H locs hw hS => ?_)
  obtain ⟨V1, hV1⟩ : ∃ z, z = vup V 10 (mobj α (nr) (nw) (ns) (0)) := ⟨_, rfl⟩
  have hw : mW G V1 α s H := by rw [hV1]; exact hw
  have hM : mM G V1 α f (nr) (nw) (ns) (0) := by rw [hV1]; exact hM.obj _ _ _ _
  have hO : ∀ j, ¬ (10 ≤ j ∧ j < 25) → V1 j = V j := fun j hj => (show V1 j = V j by rw [hV1]; exact vup_n _ _ (by omega)).trans (hO j hj)
  obtain ⟨m10, m11, m12, m13, m14, m15, m16, m17, m18, m19, m20, m21, m22, m23, m24⟩ := id hM
  refine lv_iconst (v := (0)) hx hb dX4_payOf_43 (by decide) ?_
  refine lv_topi (fun y4 ey4 => ?_)
  obtain rfl : y4 = (s_po f nr (nI (k)) lo hi 0) := ey4.trans (rfl)
  refine lv_istore (lv' := [(4, .int (s_po f nr (nI (k)) lo hi 0)), (0, .ref (α (10))), (1, .int (nI (k))), (2, .int (lo)), (3, .int (hi))]) hx hb dX4_payOf_44 hl (by decide) rfl (fun ls hl => ?_)
  refine lv_iconst (v := (0)) hx hb dX4_payOf_46 (by decide) ?_
  refine lv_topi (fun y5 ey5 => ?_)
  obtain rfl : y5 = (nI (0)) := ey5.trans (rfl)
  refine lv_istore (lv' := [(5, .int (nI (0))), (4, .int (s_po f nr (nI (k)) lo hi 0)), (0, .ref (α (10))), (1, .int (nI (k))), (2, .int (lo)), (3, .int (hi))]) hx hb dX4_payOf_47 hl (by decide) rfl (fun ls hl => ?_)
  refine mloop (nL := 6) (ns) (fun j => [(0, .ref (α (10))), (1, .int (nI (k))), (2, .int (lo)), (3, .int (hi)), (4, .int (s_po f nr (nI (k)) lo hi j)), (5, .int (nI (j)))]) ?_ ?_ ls (lv_sub hl [2, 3, 4, 5, 1, 0] rfl)
  ·
    intro ls hl
    have hl : lv_has ls 6 [(0, .ref (α (10))), (1, .int (nI (k))), (2, .int (lo)), (3, .int (hi)), (4, .int (s_po f nr (nI (k)) lo hi ns)), (5, .int (nI (ns)))] := hl
    refine lv_iload hx hb dX4_payOf_49 (lv_at hl 5 rfl) ?_
    refine lv_aload_n hx hb dX4_payOf_51 rfl (lv_at hl 0 rfl) ?_
    refine mget (C := RX4) (T := TX4) (N := 18) (ci := 5) hx hb hts in_X4 hown hw (m10) rfl 11 (by decide) fl_67 rfl dX4_payOf_52 ?_
    refine lv_icmp_ge (tgt := 115) hx hb dX4_payOf_55 (by decide) (fun c6 => ?_) (fun z => absurd ((nI_le (Nat.le_refl _) (by omega))) z)
    refine lv_iload hx hb dX4_payOf_115 (lv_at hl 4 rfl) ?_
    exact W.iret (v := s_po f nr (nI (k)) lo hi ns) hx hb hr (fun t ht hW => ⟨⟨_, (V1, α), rfl, ⟨rfl, hM, hO, rfl⟩, by show mH G V1 α t.heap; rw [ht]; exact hw.2.2⟩, hS.F ht⟩) hS.2.2 dX4_payOf_117
  ·
    intro j hj ihj ls hl
    have hl : lv_has ls 6 [(0, .ref (α (10))), (1, .int (nI (k))), (2, .int (lo)), (3, .int (hi)), (4, .int (s_po f nr (nI (k)) lo hi j)), (5, .int (nI (j)))] := hl
    obtain ⟨⟨hw0j, hw1j⟩, h9j, haj, h10j, hr0j, h8j, hN2j, hNj⟩ := hwf.sh j (by omega)
    refine lv_iload hx hb dX4_payOf_49 (lv_at hl 5 rfl) ?_
    refine lv_aload_n hx hb dX4_payOf_51 rfl (lv_at hl 0 rfl) ?_
    refine mget (C := RX4) (T := TX4) (N := 18) (ci := 5) hx hb hts in_X4 hown hw (m10) rfl 11 (by decide) fl_67 rfl dX4_payOf_52 ?_
    refine lv_icmp_ge (tgt := 115) hx hb dX4_payOf_55 (by decide) (fun z => absurd z ((nI_ge hj (by omega)))) (fun c7 => ?_)
    refine lv_aload_n hx hb dX4_payOf_58 rfl (lv_at hl 0 rfl) ?_
    refine mget (C := RX4) (T := TX4) (N := 18) (ci := 5) hx hb hts in_X4 hown hw (m10) rfl 17 (by decide) fl_53 rfl dX4_payOf_59 ?_
    refine lv_if_ne (tgt := 115) hx hb dX4_payOf_62 (by decide) (fun z => absurd ((by decide)) z) (fun c8 => ?_)
    refine lv_iload hx hb dX4_payOf_65 (lv_at hl 4 rfl) ?_
    refine mjoin (E := s_po1 f nr (nI (k)) lo hi j) (pcJ := 106) (st := [.int (s_po f nr (nI (k)) lo hi j)]) ?_ (fun J9 => ?_)
    ·
      refine lv_iadd hx hb dX4_payOf_106 ?_
      refine lv_topi (fun y10 ey10 => ?_)
      obtain rfl : y10 = (s_po f nr (nI (k)) lo hi (j + 1)) := ey10.trans (rfl)
      refine lv_istore (lv' := [(4, .int (s_po f nr (nI (k)) lo hi (j + 1))), (0, .ref (α (10))), (1, .int (nI (k))), (2, .int (lo)), (3, .int (hi)), (5, .int (nI (j)))]) hx hb dX4_payOf_107 hl (by decide) rfl (fun ls hl => ?_)
      refine lv_iinc (v := nI (j + 1)) (lv' := [(5, .int (nI (j + 1))), (4, .int (s_po f nr (nI (k)) lo hi (j + 1))), (0, .ref (α (10))), (1, .int (nI (k))), (2, .int (lo)), (3, .int (hi))]) hx hb dX4_payOf_109 hl (k := 5) rfl (nI_1 (j)) (by decide) rfl (fun ls hl => ?_)
      refine lv_goto (tgt := 49) hx hb dX4_payOf_112 (by decide) ?_
      exact ihj ls (lv_sub hl [2, 3, 4, 5, 1, 0] rfl)
    ·
      refine lv_aload_n hx hb dX4_payOf_67 rfl (lv_at hl 0 rfl) ?_
      refine mget (C := RX4) (T := TX4) (N := 18) (ci := 5) hx hb hts in_X4 hown hw (m10) rfl 12 (by decide) fl_38 rfl dX4_payOf_68 ?_
      refine lv_iload hx hb dX4_payOf_71 (lv_at hl 5 rfl) ?_
      refine miald' (k := j) hx hb hw (m20) (rfl) (by omega) (by decide) dX4_payOf_73 ?_
      refine lv_iload_n hx hb dX4_payOf_74 rfl (lv_at hl 1 rfl) ?_
      refine lv_icmp_ne (tgt := 105) hx hb dX4_payOf_75 (by decide) (fun c11 => ?_) (fun c11 => ?_)
      ·
        refine lv_iconst (v := (0)) hx hb dX4_payOf_105 (by decide) ?_
        exact J9 _ ((by unfold s_po1; (try unfold s_pay); rw [if_neg c11]))
      ·
        refine lv_aload_n hx hb dX4_payOf_78 rfl (lv_at hl 0 rfl) ?_
        refine mget (C := RX4) (T := TX4) (N := 18) (ci := 5) hx hb hts in_X4 hown hw (m10) rfl 13 (by decide) fl_41 rfl dX4_payOf_79 ?_
        refine lv_iload hx hb dX4_payOf_82 (lv_at hl 5 rfl) ?_
        refine miald' (k := j) hx hb hw (m21) (rfl) (by omega) (by decide) dX4_payOf_84 ?_
        refine lv_bipush (v := (96)) hx hb dX4_payOf_85 (by decide) ?_
        refine lv_idiv hx hb dX4_payOf_87 (by decide) ?_
        refine lv_iload_n hx hb dX4_payOf_88 rfl (lv_at hl 2 rfl) ?_
        refine lv_iload_n hx hb dX4_payOf_89 rfl (lv_at hl 3 rfl) ?_
        refine mcallSi hw ⟨hx, hb, hml, hown, hts⟩ (c_X4_isIn ((f 10 (j) / 96)) (lo) (hi)) (va_cwS 3 hts gX4_payOf_X4_isIn rfl rfl rfl (by decide +kernel) ⟨Nat.le_of_ble_eq_true rfl, Nat.le_of_ble_eq_true rfl⟩) rfl hl.1 rfl (Nat.le_of_ble_eq_true rfl) dX4_payOf_90 ⟨Nat.le_of_ble_eq_true rfl, Nat.le_of_ble_eq_true rfl⟩ ?_
        refine mif_eqB (tgt := 105) hx hb dX4_payOf_93 (by decide) (fun c12 => ?_) (fun c12 => ?_)
        ·
          refine lv_iconst (v := (0)) hx hb dX4_payOf_105 (by decide) ?_
          exact J9 _ ((by unfold s_po1; (try unfold s_pay); rw [if_pos c11, if_neg c12]))
        ·
          refine lv_aload_n hx hb dX4_payOf_96 rfl (lv_at hl 0 rfl) ?_
          refine lv_iload hx hb dX4_payOf_97 (lv_at hl 5 rfl) ?_
          refine mcallVi hw (m10) rfl rfl ⟨hx, hb, hml, hown, hts⟩ (c_X4_payed hM j (wN f j) (aN f j) (rN f (wN f j)) (by omega) hw1j h9j h8j hr0j haj h10j hnr (pN f j) hNj hN2j) (cwV 1 hts gX4_payOf_X4_payed rfl rfl rfl (by decide +kernel) ⟨Nat.le_of_ble_eq_true rfl, Nat.le_of_ble_eq_true rfl⟩) rfl hl.1 rfl (Nat.le_of_ble_eq_true rfl) dX4_payOf_99 ⟨Nat.le_of_ble_eq_true rfl, Nat.le_of_ble_eq_true rfl⟩ ?_
          refine lv_goto (tgt := 106) hx hb dX4_payOf_102 (by decide) ?_
          exact J9 _ ((by unfold s_po1; (try unfold s_pay); rw [if_pos c11, if_pos c12]))

set_option maxHeartbeats 4000000 in
set_option maxRecDepth 100000 in
theorem c_X4_payOf_1 {l : Launch} {G : mG} {V : mV} {α : Nat → Nat} {f : sT} {nr nw ns : Nat} {th : Int32} (hM : mM G V α f nr nw ns th) (y lo hi : Int32) (hbad : ¬ inn y 0 (nI nw - 1)) (hns : ns ≤ 80) : Met l yX4_payOf wsX4_payOf ({ frames := 2, cells := 0, slots := 0, locals := 43 }) (va_Pc [.ref (α (10)), .int (y), .int (lo), .int (hi)] (fun U => mW G V α U U.heap)) (va_Qi (fun (r9 : Int32) (u : mV × (Nat → Nat)) => 0 = r9 ∧ mQ G V α u f nr nw ns 1) (fun u t => mH G u.1 u.2 t.heap) (mfree G)) 0 0 (mfree G) := by
  refine Met.ofW (cc := cX4_payOf) (maxL := 6) (ret := (some .int)) (by decide) rfl ?_
  intro p e s m args below meth c s₁ B hml hv
  obtain ⟨rfl, hw⟩ := hv
  have hx := B.exec
  have hb := B.bytes
  have hr := B.returns
  have hts := atoms_spec (ws := wsX4_payOf) B.pre
  have hown : s.vm.findClass RX4 = some m.cls := findClass_of_methodNamed B.named
  have hlocks := B.notSynchronized
  have hS : va_S (mfree G) s.heap s.heap [] := va_S.rf
  have hO : ∀ j, ¬ (10 ≤ j ∧ j < 25) → V j = V j := fun _ _ => rfl
  obtain ⟨m10, m11, m12, m13, m14, m15, m16, m17, m18, m19, m20, m21, m22, m23, m24⟩ := id hM
  have fl_53 := hts (.fieldLink RX4 53 "RosterPayModel" "thrown" "I") (by decide +kernel)
  have in_X4 : ∀ w ∈ u_ws RX4 TX4 18, w ∈ wsX4_payOf := by decide +kernel
  have fl_67 := hts (.fieldLink RX4 67 "RosterPayModel" "shifts" "I") (by decide +kernel)
  have hl := lv_entry ([.ref (α (10)), .int (y), .int (lo), .int (hi)]) (n := 6) (Nat.le_of_ble_eq_true rfl)
  rw [lg_entry_eq]
  generalize (lg_sl ([.ref (α (10)), .int (y), .int (lo), .int (hi)]) ++ List.replicate (6 - (lg_sl ([.ref (α (10)), .int (y), .int (lo), .int (hi)])).length) Slot.unset).toArray = ls at hl ⊢
  have hl : lv_has ls 6 [(0, .ref (α (10))), (1, .int (y)), (2, .int (lo)), (3, .int (hi))] := hl
  refine lv_aload_n hx hb dX4_payOf_0 rfl (lv_at hl 0 rfl) ?_
  refine lv_aload_n hx hb dX4_payOf_1 rfl (lv_at hl 0 rfl) ?_
  refine lv_iload_n hx hb dX4_payOf_2 rfl (lv_at hl 1 rfl) ?_
  refine mcallVi hw (m10) rfl rfl ⟨hx, hb, hml, hown, hts⟩ (c_X4_isWorker hM (y)) (cwV 1 hts gX4_payOf_X4_isWorker rfl rfl rfl (by decide +kernel) ⟨Nat.le_of_ble_eq_true rfl, Nat.le_of_ble_eq_true rfl⟩) rfl hl.1 rfl (Nat.le_of_ble_eq_true rfl) dX4_payOf_3 ⟨Nat.le_of_ble_eq_true rfl, Nat.le_of_ble_eq_true rfl⟩ ?_
  refine mif_neB (tgt := 13) hx hb dX4_payOf_6 (by decide) (fun z => absurd z (hbad)) (fun c1 => ?_)
  refine lv_iconst (v := (1)) hx hb dX4_payOf_9 (by decide) ?_
  refine lv_goto (tgt := 40) hx hb dX4_payOf_10 (by decide) ?_
  refine mput (C := RX4) (T := TX4) (N := 18) (ci := 5) hx hb hts in_X4 tyX4 tyX4_ok nmX4 hown hw hS (m10) rfl 17 (by decide) fl_53 rfl rfl rfl (Nat.le_of_ble_eq_true rfl) dX4_payOf_40 (fun H locs hw hS => ?_)
  obtain ⟨V1, hV1⟩ : ∃ z, z = vup V 10 (mobj α (nr) (nw) (ns) (1)) := ⟨_, rfl⟩
  have hw : mW G V1 α s H := by rw [hV1]; exact hw
  have hM : mM G V1 α f (nr) (nw) (ns) (1) := by rw [hV1]; exact hM.obj _ _ _ _
  have hO : ∀ j, ¬ (10 ≤ j ∧ j < 25) → V1 j = V j := fun j hj => (show V1 j = V j by rw [hV1]; exact vup_n _ _ (by omega)).trans (hO j hj)
  obtain ⟨m10, m11, m12, m13, m14, m15, m16, m17, m18, m19, m20, m21, m22, m23, m24⟩ := id hM
  refine lv_iconst (v := (0)) hx hb dX4_payOf_43 (by decide) ?_
  refine lv_istore (lv' := [(4, .int (0)), (0, .ref (α (10))), (1, .int (y)), (2, .int (lo)), (3, .int (hi))]) hx hb dX4_payOf_44 hl (by decide) rfl (fun ls hl => ?_)
  refine lv_iconst (v := (0)) hx hb dX4_payOf_46 (by decide) ?_
  refine lv_topi (fun y2 ey2 => ?_)
  obtain rfl : y2 = (nI (0)) := ey2.trans (rfl)
  refine lv_istore (lv' := [(5, .int (nI (0))), (4, .int (0)), (0, .ref (α (10))), (1, .int (y)), (2, .int (lo)), (3, .int (hi))]) hx hb dX4_payOf_47 hl (by decide) rfl (fun ls hl => ?_)
  refine lv_iload hx hb dX4_payOf_49 (lv_at hl 0 rfl) ?_
  refine lv_aload_n hx hb dX4_payOf_51 rfl (lv_at hl 2 rfl) ?_
  refine mget (C := RX4) (T := TX4) (N := 18) (ci := 5) hx hb hts in_X4 hown hw (m10) rfl 11 (by decide) fl_67 rfl dX4_payOf_52 ?_
  refine lv_icmp_ge (tgt := 115) hx hb dX4_payOf_55 (by decide) (fun c3 => ?_) (fun c3 => ?_)
  ·
    refine lv_iload hx hb dX4_payOf_115 (lv_at hl 1 rfl) ?_
    exact W.iret (v := 0) hx hb hr (fun t ht hW => ⟨⟨_, (V1, α), rfl, ⟨rfl, hM, hO, rfl⟩, by show mH G V1 α t.heap; rw [ht]; exact hw.2.2⟩, hS.F ht⟩) hS.2.2 dX4_payOf_117
  ·
    refine lv_aload_n hx hb dX4_payOf_58 rfl (lv_at hl 2 rfl) ?_
    refine mget (C := RX4) (T := TX4) (N := 18) (ci := 5) hx hb hts in_X4 hown hw (m10) rfl 17 (by decide) fl_53 rfl dX4_payOf_59 ?_
    refine lv_if_ne (tgt := 115) hx hb dX4_payOf_62 (by decide) (fun c4 => ?_) (fun z => absurd z ((by decide)))
    refine lv_iload hx hb dX4_payOf_115 (lv_at hl 1 rfl) ?_
    exact W.iret (v := 0) hx hb hr (fun t ht hW => ⟨⟨_, (V1, α), rfl, ⟨rfl, hM, hO, rfl⟩, by show mH G V1 α t.heap; rw [ht]; exact hw.2.2⟩, hS.F ht⟩) hS.2.2 dX4_payOf_117

set_option maxHeartbeats 4000000 in
set_option maxRecDepth 100000 in
theorem c_X4_payOf_2 {l : Launch} {G : mG} {V : mV} {α : Nat → Nat} {f : sT} {nr nw ns : Nat} {th : Int32} (hM : mM G V α f nr nw ns th) (y lo hi : Int32) (hy : inn y 0 (nI nw - 1)) (hbad : ¬ (inn lo 0 363 ∧ inn hi lo 363)) (hns : ns ≤ 80) : Met l yX4_payOf wsX4_payOf ({ frames := 2, cells := 0, slots := 0, locals := 43 }) (va_Pc [.ref (α (10)), .int (y), .int (lo), .int (hi)] (fun U => mW G V α U U.heap)) (va_Qi (fun (r9 : Int32) (u : mV × (Nat → Nat)) => 0 = r9 ∧ mQ G V α u f nr nw ns 2) (fun u t => mH G u.1 u.2 t.heap) (mfree G)) 0 0 (mfree G) := by
  refine Met.ofW (cc := cX4_payOf) (maxL := 6) (ret := (some .int)) (by decide) rfl ?_
  intro p e s m args below meth c s₁ B hml hv
  obtain ⟨rfl, hw⟩ := hv
  have hx := B.exec
  have hb := B.bytes
  have hr := B.returns
  have hts := atoms_spec (ws := wsX4_payOf) B.pre
  have hown : s.vm.findClass RX4 = some m.cls := findClass_of_methodNamed B.named
  have hlocks := B.notSynchronized
  have hS : va_S (mfree G) s.heap s.heap [] := va_S.rf
  have hO : ∀ j, ¬ (10 ≤ j ∧ j < 25) → V j = V j := fun _ _ => rfl
  obtain ⟨m10, m11, m12, m13, m14, m15, m16, m17, m18, m19, m20, m21, m22, m23, m24⟩ := id hM
  have fl_53 := hts (.fieldLink RX4 53 "RosterPayModel" "thrown" "I") (by decide +kernel)
  have in_X4 : ∀ w ∈ u_ws RX4 TX4 18, w ∈ wsX4_payOf := by decide +kernel
  have fl_67 := hts (.fieldLink RX4 67 "RosterPayModel" "shifts" "I") (by decide +kernel)
  have hl := lv_entry ([.ref (α (10)), .int (y), .int (lo), .int (hi)]) (n := 6) (Nat.le_of_ble_eq_true rfl)
  rw [lg_entry_eq]
  generalize (lg_sl ([.ref (α (10)), .int (y), .int (lo), .int (hi)]) ++ List.replicate (6 - (lg_sl ([.ref (α (10)), .int (y), .int (lo), .int (hi)])).length) Slot.unset).toArray = ls at hl ⊢
  have hl : lv_has ls 6 [(0, .ref (α (10))), (1, .int (y)), (2, .int (lo)), (3, .int (hi))] := hl
  refine lv_aload_n hx hb dX4_payOf_0 rfl (lv_at hl 0 rfl) ?_
  refine lv_aload_n hx hb dX4_payOf_1 rfl (lv_at hl 0 rfl) ?_
  refine lv_iload_n hx hb dX4_payOf_2 rfl (lv_at hl 1 rfl) ?_
  refine mcallVi hw (m10) rfl rfl ⟨hx, hb, hml, hown, hts⟩ (c_X4_isWorker hM (y)) (cwV 1 hts gX4_payOf_X4_isWorker rfl rfl rfl (by decide +kernel) ⟨Nat.le_of_ble_eq_true rfl, Nat.le_of_ble_eq_true rfl⟩) rfl hl.1 rfl (Nat.le_of_ble_eq_true rfl) dX4_payOf_3 ⟨Nat.le_of_ble_eq_true rfl, Nat.le_of_ble_eq_true rfl⟩ ?_
  refine mif_neB (tgt := 13) hx hb dX4_payOf_6 (by decide) (fun c1 => ?_) (fun z => absurd (hy) z)
  refine lv_iload_n hx hb dX4_payOf_13 rfl (lv_at hl 2 rfl) ?_
  refine lv_iconst (v := (0)) hx hb dX4_payOf_14 (by decide) ?_
  refine lv_sipush (v := (363)) hx hb dX4_payOf_15 (by decide) ?_
  refine mcallSi hw ⟨hx, hb, hml, hown, hts⟩ (c_X4_isIn (lo) (0) (363)) (va_cwS 3 hts gX4_payOf_X4_isIn rfl rfl rfl (by decide +kernel) ⟨Nat.le_of_ble_eq_true rfl, Nat.le_of_ble_eq_true rfl⟩) rfl hl.1 rfl (Nat.le_of_ble_eq_true rfl) dX4_payOf_18 ⟨Nat.le_of_ble_eq_true rfl, Nat.le_of_ble_eq_true rfl⟩ ?_
  refine mif_eqB (tgt := 39) hx hb dX4_payOf_21 (by decide) (fun c2 => ?_) (fun c2 => ?_)
  ·
    refine lv_iconst (v := (2)) hx hb dX4_payOf_39 (by decide) ?_
    refine mput (C := RX4) (T := TX4) (N := 18) (ci := 5) hx hb hts in_X4 tyX4 tyX4_ok nmX4 hown hw hS (m10) rfl 17 (by decide) fl_53 rfl rfl rfl (Nat.le_of_ble_eq_true rfl) dX4_payOf_40 (fun H locs hw hS => ?_)
    obtain ⟨V1, hV1⟩ : ∃ z, z = vup V 10 (mobj α (nr) (nw) (ns) (2)) := ⟨_, rfl⟩
    have hw : mW G V1 α s H := by rw [hV1]; exact hw
    have hM : mM G V1 α f (nr) (nw) (ns) (2) := by rw [hV1]; exact hM.obj _ _ _ _
    have hO : ∀ j, ¬ (10 ≤ j ∧ j < 25) → V1 j = V j := fun j hj => (show V1 j = V j by rw [hV1]; exact vup_n _ _ (by omega)).trans (hO j hj)
    obtain ⟨m10, m11, m12, m13, m14, m15, m16, m17, m18, m19, m20, m21, m22, m23, m24⟩ := id hM
    refine lv_iconst (v := (0)) hx hb dX4_payOf_43 (by decide) ?_
    refine lv_istore (lv' := [(4, .int (0)), (0, .ref (α (10))), (1, .int (y)), (2, .int (lo)), (3, .int (hi))]) hx hb dX4_payOf_44 hl (by decide) rfl (fun ls hl => ?_)
    refine lv_iconst (v := (0)) hx hb dX4_payOf_46 (by decide) ?_
    refine lv_topi (fun y3 ey3 => ?_)
    obtain rfl : y3 = (nI (0)) := ey3.trans (rfl)
    refine lv_istore (lv' := [(5, .int (nI (0))), (4, .int (0)), (0, .ref (α (10))), (1, .int (y)), (2, .int (lo)), (3, .int (hi))]) hx hb dX4_payOf_47 hl (by decide) rfl (fun ls hl => ?_)
    refine lv_iload hx hb dX4_payOf_49 (lv_at hl 0 rfl) ?_
    refine lv_aload_n hx hb dX4_payOf_51 rfl (lv_at hl 2 rfl) ?_
    refine mget (C := RX4) (T := TX4) (N := 18) (ci := 5) hx hb hts in_X4 hown hw (m10) rfl 11 (by decide) fl_67 rfl dX4_payOf_52 ?_
    refine lv_icmp_ge (tgt := 115) hx hb dX4_payOf_55 (by decide) (fun c4 => ?_) (fun c4 => ?_)
    ·
      refine lv_iload hx hb dX4_payOf_115 (lv_at hl 1 rfl) ?_
      exact W.iret (v := 0) hx hb hr (fun t ht hW => ⟨⟨_, (V1, α), rfl, ⟨rfl, hM, hO, rfl⟩, by show mH G V1 α t.heap; rw [ht]; exact hw.2.2⟩, hS.F ht⟩) hS.2.2 dX4_payOf_117
    ·
      refine lv_aload_n hx hb dX4_payOf_58 rfl (lv_at hl 2 rfl) ?_
      refine mget (C := RX4) (T := TX4) (N := 18) (ci := 5) hx hb hts in_X4 hown hw (m10) rfl 17 (by decide) fl_53 rfl dX4_payOf_59 ?_
      refine lv_if_ne (tgt := 115) hx hb dX4_payOf_62 (by decide) (fun c5 => ?_) (fun z => absurd z ((by decide)))
      refine lv_iload hx hb dX4_payOf_115 (lv_at hl 1 rfl) ?_
      exact W.iret (v := 0) hx hb hr (fun t ht hW => ⟨⟨_, (V1, α), rfl, ⟨rfl, hM, hO, rfl⟩, by show mH G V1 α t.heap; rw [ht]; exact hw.2.2⟩, hS.F ht⟩) hS.2.2 dX4_payOf_117
  ·
    refine lv_iload_n hx hb dX4_payOf_24 rfl (lv_at hl 3 rfl) ?_
    refine lv_iload_n hx hb dX4_payOf_25 rfl (lv_at hl 2 rfl) ?_
    refine lv_sipush (v := (363)) hx hb dX4_payOf_26 (by decide) ?_
    refine mcallSi hw ⟨hx, hb, hml, hown, hts⟩ (c_X4_isIn (hi) (lo) (363)) (va_cwS 3 hts gX4_payOf_X4_isIn rfl rfl rfl (by decide +kernel) ⟨Nat.le_of_ble_eq_true rfl, Nat.le_of_ble_eq_true rfl⟩) rfl hl.1 rfl (Nat.le_of_ble_eq_true rfl) dX4_payOf_29 ⟨Nat.le_of_ble_eq_true rfl, Nat.le_of_ble_eq_true rfl⟩ ?_
    refine mif_eqB (tgt := 39) hx hb dX4_payOf_32 (by decide) (fun c6 => ?_) (fun c6 => ?_)
    ·
      refine lv_iconst (v := (2)) hx hb dX4_payOf_39 (by decide) ?_
      refine mput (C := RX4) (T := TX4) (N := 18) (ci := 5) hx hb hts in_X4 tyX4 tyX4_ok nmX4 hown hw hS (m10) rfl 17 (by decide) fl_53 rfl rfl rfl (Nat.le_of_ble_eq_true rfl) dX4_payOf_40 (fun H locs hw hS => ?_)
      obtain ⟨V2, hV2⟩ : ∃ z, z = vup V 10 (mobj α (nr) (nw) (ns) (2)) := ⟨_, rfl⟩
      have hw : mW G V2 α s H := by rw [hV2]; exact hw
      have hM : mM G V2 α f (nr) (nw) (ns) (2) := by rw [hV2]; exact hM.obj _ _ _ _
      have hO : ∀ j, ¬ (10 ≤ j ∧ j < 25) → V2 j = V j := fun j hj => (show V2 j = V j by rw [hV2]; exact vup_n _ _ (by omega)).trans (hO j hj)
      obtain ⟨m10, m11, m12, m13, m14, m15, m16, m17, m18, m19, m20, m21, m22, m23, m24⟩ := id hM
      refine lv_iconst (v := (0)) hx hb dX4_payOf_43 (by decide) ?_
      refine lv_istore (lv' := [(4, .int (0)), (0, .ref (α (10))), (1, .int (y)), (2, .int (lo)), (3, .int (hi))]) hx hb dX4_payOf_44 hl (by decide) rfl (fun ls hl => ?_)
      refine lv_iconst (v := (0)) hx hb dX4_payOf_46 (by decide) ?_
      refine lv_topi (fun y7 ey7 => ?_)
      obtain rfl : y7 = (nI (0)) := ey7.trans (rfl)
      refine lv_istore (lv' := [(5, .int (nI (0))), (4, .int (0)), (0, .ref (α (10))), (1, .int (y)), (2, .int (lo)), (3, .int (hi))]) hx hb dX4_payOf_47 hl (by decide) rfl (fun ls hl => ?_)
      refine lv_iload hx hb dX4_payOf_49 (lv_at hl 0 rfl) ?_
      refine lv_aload_n hx hb dX4_payOf_51 rfl (lv_at hl 2 rfl) ?_
      refine mget (C := RX4) (T := TX4) (N := 18) (ci := 5) hx hb hts in_X4 hown hw (m10) rfl 11 (by decide) fl_67 rfl dX4_payOf_52 ?_
      refine lv_icmp_ge (tgt := 115) hx hb dX4_payOf_55 (by decide) (fun c8 => ?_) (fun c8 => ?_)
      ·
        refine lv_iload hx hb dX4_payOf_115 (lv_at hl 1 rfl) ?_
        exact W.iret (v := 0) hx hb hr (fun t ht hW => ⟨⟨_, (V2, α), rfl, ⟨rfl, hM, hO, rfl⟩, by show mH G V2 α t.heap; rw [ht]; exact hw.2.2⟩, hS.F ht⟩) hS.2.2 dX4_payOf_117
      ·
        refine lv_aload_n hx hb dX4_payOf_58 rfl (lv_at hl 2 rfl) ?_
        refine mget (C := RX4) (T := TX4) (N := 18) (ci := 5) hx hb hts in_X4 hown hw (m10) rfl 17 (by decide) fl_53 rfl dX4_payOf_59 ?_
        refine lv_if_ne (tgt := 115) hx hb dX4_payOf_62 (by decide) (fun c9 => ?_) (fun z => absurd z ((by decide)))
        refine lv_iload hx hb dX4_payOf_115 (lv_at hl 1 rfl) ?_
        exact W.iret (v := 0) hx hb hr (fun t ht hW => ⟨⟨_, (V2, α), rfl, ⟨rfl, hM, hO, rfl⟩, by show mH G V2 α t.heap; rw [ht]; exact hw.2.2⟩, hS.F ht⟩) hS.2.2 dX4_payOf_117
    ·
      exact absurd ⟨c2, c6⟩ hbad

set_option maxHeartbeats 4000000 in
set_option maxRecDepth 100000 in
theorem c_X4_paidBy {l : Launch} {G : mG} {V : mV} {α : Nat → Nat} {f : sT} {nr nw ns : Nat} {th : Int32} (hM : mM G V α f nr nw ns th) (hwf : mwf f nr nw ns) (k : Nat) (hk : k < nr) : Met l yX4_paidBy wsX4_paidBy ({ frames := 3, cells := 0, slots := 0, locals := 75 }) (va_Pc [.ref (α (10)), .int (nI (k))] (fun U => mW G V α U U.heap)) (va_Qi (fun (r9 : Int32) (u : mV × (Nat → Nat)) => s_pb f nr (nI (k)) ns = r9 ∧ mQ G V α u f nr nw ns 0) (fun u t => mH G u.1 u.2 t.heap) (mfree G)) 0 0 (mfree G) := by
  refine Met.ofW (cc := cX4_paidBy) (maxL := 5) (ret := (some .int)) (by decide) rfl ?_
  intro p e s m args below meth c s₁ B hml hv
  obtain ⟨rfl, hw⟩ := hv
  have hx := B.exec
  have hb := B.bytes
  have hr := B.returns
  have hts := atoms_spec (ws := wsX4_paidBy) B.pre
  have hown : s.vm.findClass RX4 = some m.cls := findClass_of_methodNamed B.named
  have hlocks := B.notSynchronized
  have hS : va_S (mfree G) s.heap s.heap [] := va_S.rf
  have hO : ∀ j, ¬ (10 ≤ j ∧ j < 25) → V j = V j := fun _ _ => rfl
  obtain ⟨m10, m11, m12, m13, m14, m15, m16, m17, m18, m19, m20, m21, m22, m23, m24⟩ := id hM
  obtain ⟨⟨hnr, hnw, hns⟩, -, -, h6w, h7w, -⟩ := id hwf
  have fl_61 := hts (.fieldLink RX4 61 "RosterPayModel" "rules" "I") (by decide +kernel)
  have in_X4 : ∀ w ∈ u_ws RX4 TX4 18, w ∈ wsX4_paidBy := by decide +kernel
  have fl_53 := hts (.fieldLink RX4 53 "RosterPayModel" "thrown" "I") (by decide +kernel)
  have fl_67 := hts (.fieldLink RX4 67 "RosterPayModel" "shifts" "I") (by decide +kernel)
  have hl := lv_entry ([.ref (α (10)), .int (nI (k))]) (n := 5) (Nat.le_of_ble_eq_true rfl)
  rw [lg_entry_eq]
  generalize (lg_sl ([.ref (α (10)), .int (nI (k))]) ++ List.replicate (5 - (lg_sl ([.ref (α (10)), .int (nI (k))])).length) Slot.unset).toArray = ls at hl ⊢
  have hl : lv_has ls 5 [(0, .ref (α (10))), (1, .int (nI (k)))] := hl
  refine lv_aload_n hx hb dX4_paidBy_0 rfl (lv_at hl 0 rfl) ?_
  refine lv_iload_n hx hb dX4_paidBy_1 rfl (lv_at hl 1 rfl) ?_
  refine lv_iconst (v := (0)) hx hb dX4_paidBy_2 (by decide) ?_
  refine lv_aload_n hx hb dX4_paidBy_3 rfl (lv_at hl 0 rfl) ?_
  refine mget (C := RX4) (T := TX4) (N := 18) (ci := 5) hx hb hts in_X4 hown hw (m10) rfl 1 (by decide) fl_61 rfl dX4_paidBy_4 ?_
  refine lv_iconst (v := (1)) hx hb dX4_paidBy_7 (by decide) ?_
  refine lv_isub hx hb dX4_paidBy_8 ?_
  refine mcallSi hw ⟨hx, hb, hml, hown, hts⟩ (c_X4_isIn (nI (k)) (0) ((nI (nr) - 1))) (va_cwS 3 hts gX4_paidBy_X4_isIn rfl rfl rfl (by decide +kernel) ⟨Nat.le_of_ble_eq_true rfl, Nat.le_of_ble_eq_true rfl⟩) rfl hl.1 rfl (Nat.le_of_ble_eq_true rfl) dX4_paidBy_9 ⟨Nat.le_of_ble_eq_true rfl, Nat.le_of_ble_eq_true rfl⟩ ?_
  refine mif_eqB (tgt := 19) hx hb dX4_paidBy_12 (by decide) (fun z => absurd (inn_ix hk (by omega)) z) (fun c1 => ?_)
  refine lv_iconst (v := (0)) hx hb dX4_paidBy_15 (by decide) ?_
  refine lv_goto (tgt := 20) hx hb dX4_paidBy_16 (by decide) ?_
  refine mput (C := RX4) (T := TX4) (N := 18) (ci := 5) hx hb hts in_X4 tyX4 tyX4_ok nmX4 hown hw hS (m10) rfl 17 (by decide) fl_53 rfl rfl rfl (Nat.le_of_ble_eq_true rfl) dX4_paidBy_20 (fun H locs hw hS => ?_)
  obtain ⟨V1, hV1⟩ : ∃ z, z = vup V 10 (mobj α (nr) (nw) (ns) (0)) := ⟨_, rfl⟩
  have hw : mW G V1 α s H := by rw [hV1]; exact hw
  have hM : mM G V1 α f (nr) (nw) (ns) (0) := by rw [hV1]; exact hM.obj _ _ _ _
  have hO : ∀ j, ¬ (10 ≤ j ∧ j < 25) → V1 j = V j := fun j hj => (show V1 j = V j by rw [hV1]; exact vup_n _ _ (by omega)).trans (hO j hj)
  obtain ⟨m10, m11, m12, m13, m14, m15, m16, m17, m18, m19, m20, m21, m22, m23, m24⟩ := id hM
  refine lv_iconst (v := (0)) hx hb dX4_paidBy_23 (by decide) ?_
  refine lv_topi (fun y2 ey2 => ?_)
  obtain rfl : y2 = (s_pb f nr (nI (k)) 0) := ey2.trans (rfl)
  refine lv_istore_n (lv' := [(2, .int (s_pb f nr (nI (k)) 0)), (0, .ref (α (10))), (1, .int (nI (k)))]) hx hb dX4_paidBy_24 rfl hl (by decide) rfl (fun ls hl => ?_)
  refine lv_iconst (v := (0)) hx hb dX4_paidBy_25 (by decide) ?_
  refine lv_topi (fun y3 ey3 => ?_)
  obtain rfl : y3 = (nI (0)) := ey3.trans (rfl)
  refine lv_istore_n (lv' := [(3, .int (nI (0))), (2, .int (s_pb f nr (nI (k)) 0)), (0, .ref (α (10))), (1, .int (nI (k)))]) hx hb dX4_paidBy_26 rfl hl (by decide) rfl (fun ls hl => ?_)
  refine mloop (nL := 5) (ns) (fun j => [(0, .ref (α (10))), (1, .int (nI (k))), (2, .int (s_pb f nr (nI (k)) j)), (3, .int (nI (j)))]) ?_ ?_ ls (lv_sub hl [2, 3, 1, 0] rfl)
  ·
    intro ls hl
    have hl : lv_has ls 5 [(0, .ref (α (10))), (1, .int (nI (k))), (2, .int (s_pb f nr (nI (k)) ns)), (3, .int (nI (ns)))] := hl
    refine lv_iload_n hx hb dX4_paidBy_27 rfl (lv_at hl 3 rfl) ?_
    refine lv_aload_n hx hb dX4_paidBy_28 rfl (lv_at hl 0 rfl) ?_
    refine mget (C := RX4) (T := TX4) (N := 18) (ci := 5) hx hb hts in_X4 hown hw (m10) rfl 11 (by decide) fl_67 rfl dX4_paidBy_29 ?_
    refine lv_icmp_ge (tgt := 92) hx hb dX4_paidBy_32 (by decide) (fun c4 => ?_) (fun z => absurd ((nI_le (Nat.le_refl _) (by omega))) z)
    refine lv_iload_n hx hb dX4_paidBy_92 rfl (lv_at hl 2 rfl) ?_
    exact W.iret (v := s_pb f nr (nI (k)) ns) hx hb hr (fun t ht hW => ⟨⟨_, (V1, α), rfl, ⟨rfl, hM, hO, rfl⟩, by show mH G V1 α t.heap; rw [ht]; exact hw.2.2⟩, hS.F ht⟩) hS.2.2 dX4_paidBy_93
  ·
    intro j hj ihj ls hl
    have hl : lv_has ls 5 [(0, .ref (α (10))), (1, .int (nI (k))), (2, .int (s_pb f nr (nI (k)) j)), (3, .int (nI (j)))] := hl
    obtain ⟨⟨hw0j, hw1j⟩, h9j, haj, h10j, hr0j, h8j, hN2j, hNj⟩ := hwf.sh j (by omega)
    refine lv_iload_n hx hb dX4_paidBy_27 rfl (lv_at hl 3 rfl) ?_
    refine lv_aload_n hx hb dX4_paidBy_28 rfl (lv_at hl 0 rfl) ?_
    refine mget (C := RX4) (T := TX4) (N := 18) (ci := 5) hx hb hts in_X4 hown hw (m10) rfl 11 (by decide) fl_67 rfl dX4_paidBy_29 ?_
    refine lv_icmp_ge (tgt := 92) hx hb dX4_paidBy_32 (by decide) (fun z => absurd z ((nI_ge hj (by omega)))) (fun c5 => ?_)
    refine lv_aload_n hx hb dX4_paidBy_35 rfl (lv_at hl 0 rfl) ?_
    refine mget (C := RX4) (T := TX4) (N := 18) (ci := 5) hx hb hts in_X4 hown hw (m10) rfl 17 (by decide) fl_53 rfl dX4_paidBy_36 ?_
    refine lv_if_ne (tgt := 92) hx hb dX4_paidBy_39 (by decide) (fun z => absurd ((by decide)) z) (fun c6 => ?_)
    refine lv_iconst (v := (0)) hx hb dX4_paidBy_42 (by decide) ?_
    refine lv_topi (fun y7 ey7 => ?_)
    obtain rfl : y7 = (nI (0)) := ey7.trans (rfl)
    refine lv_istore (lv' := [(4, .int (nI (0))), (0, .ref (α (10))), (1, .int (nI (k))), (2, .int (s_pb f nr (nI (k)) j)), (3, .int (nI (j)))]) hx hb dX4_paidBy_43 hl (by decide) rfl (fun ls hl => ?_)
    refine mloop (nL := 5) ((pN f j)) (fun i => [(0, .ref (α (10))), (1, .int (nI (k))), (2, .int (s_pbI f nr (nI (k)) j (s_pb f nr (nI (k)) j) i)), (3, .int (nI (j))), (4, .int (nI (i)))]) ?_ ?_ ls (lv_sub hl [1, 2, 3, 4, 0] rfl)
    ·
      intro ls hl
      have hl : lv_has ls 5 [(0, .ref (α (10))), (1, .int (nI (k))), (2, .int (s_pbI f nr (nI (k)) j (s_pb f nr (nI (k)) j) (pN f j))), (3, .int (nI (j))), (4, .int (nI ((pN f j))))] := hl
      refine lv_iload hx hb dX4_paidBy_45 (lv_at hl 4 rfl) ?_
      refine lv_aload_n hx hb dX4_paidBy_47 rfl (lv_at hl 0 rfl) ?_
      refine lv_iload_n hx hb dX4_paidBy_48 rfl (lv_at hl 3 rfl) ?_
      refine mcallVi hw (m10) rfl rfl ⟨hx, hb, hml, hown, hts⟩ (c_X4_paid hM j (by omega)) (cwV 1 hts gX4_paidBy_X4_paid rfl rfl rfl (by decide +kernel) ⟨Nat.le_of_ble_eq_true rfl, Nat.le_of_ble_eq_true rfl⟩) rfl hl.1 rfl (Nat.le_of_ble_eq_true rfl) dX4_paidBy_49 ⟨Nat.le_of_ble_eq_true rfl, Nat.le_of_ble_eq_true rfl⟩ ?_
      refine lv_topi (fun y8 ey8 => ?_)
      obtain rfl : y8 = (nI (pN f j)) := ey8.trans (hNj)
      refine lv_icmp_ge (tgt := 86) hx hb dX4_paidBy_52 (by decide) (fun c9 => ?_) (fun z => absurd ((nI_le (Nat.le_refl _) (by omega))) z)
      refine lv_iinc (v := nI (j + 1)) (lv' := [(3, .int (nI (j + 1))), (0, .ref (α (10))), (1, .int (nI (k))), (2, .int (s_pbI f nr (nI (k)) j (s_pb f nr (nI (k)) j) (pN f j))), (4, .int (nI ((pN f j))))]) hx hb dX4_paidBy_86 hl (k := 3) rfl (nI_1 (j)) (by decide) rfl (fun ls hl => ?_)
      refine lv_goto (tgt := 27) hx hb dX4_paidBy_89 (by decide) ?_
      exact ihj ls (lv_sub hl [1, 2, 3, 0] rfl)
    ·
      intro i hi ihi ls hl
      have hl : lv_has ls 5 [(0, .ref (α (10))), (1, .int (nI (k))), (2, .int (s_pbI f nr (nI (k)) j (s_pb f nr (nI (k)) j) i)), (3, .int (nI (j))), (4, .int (nI (i)))] := hl
      refine lv_iload hx hb dX4_paidBy_45 (lv_at hl 4 rfl) ?_
      refine lv_aload_n hx hb dX4_paidBy_47 rfl (lv_at hl 0 rfl) ?_
      refine lv_iload_n hx hb dX4_paidBy_48 rfl (lv_at hl 3 rfl) ?_
      refine mcallVi hw (m10) rfl rfl ⟨hx, hb, hml, hown, hts⟩ (c_X4_paid hM j (by omega)) (cwV 1 hts gX4_paidBy_X4_paid rfl rfl rfl (by decide +kernel) ⟨Nat.le_of_ble_eq_true rfl, Nat.le_of_ble_eq_true rfl⟩) rfl hl.1 rfl (Nat.le_of_ble_eq_true rfl) dX4_paidBy_49 ⟨Nat.le_of_ble_eq_true rfl, Nat.le_of_ble_eq_true rfl⟩ ?_
      refine lv_topi (fun y10 ey10 => ?_)
      obtain rfl : y10 = (nI (pN f j)) := ey10.trans (hNj)
      refine lv_icmp_ge (tgt := 86) hx hb dX4_paidBy_52 (by decide) (fun z => absurd z ((nI_ge hi (by omega)))) (fun c11 => ?_)
      refine lv_iload_n hx hb dX4_paidBy_55 rfl (lv_at hl 2 rfl) ?_
      refine mjoin (E := s_pb1 f nr (nI (k)) j i) (pcJ := 78) (st := [.int (s_pbI f nr (nI (k)) j (s_pb f nr (nI (k)) j) i)]) ?_ (fun J12 => ?_)
      ·
        refine lv_iadd hx hb dX4_paidBy_78 ?_
        refine lv_topi (fun y13 ey13 => ?_)
        obtain rfl : y13 = (s_pbI f nr (nI (k)) j (s_pb f nr (nI (k)) j) (i + 1)) := ey13.trans (rfl)
        refine lv_istore_n (lv' := [(2, .int (s_pbI f nr (nI (k)) j (s_pb f nr (nI (k)) j) (i + 1))), (0, .ref (α (10))), (1, .int (nI (k))), (3, .int (nI (j))), (4, .int (nI (i)))]) hx hb dX4_paidBy_79 rfl hl (by decide) rfl (fun ls hl => ?_)
        refine lv_iinc (v := nI (i + 1)) (lv' := [(4, .int (nI (i + 1))), (2, .int (s_pbI f nr (nI (k)) j (s_pb f nr (nI (k)) j) (i + 1))), (0, .ref (α (10))), (1, .int (nI (k))), (3, .int (nI (j)))]) hx hb dX4_paidBy_80 hl (k := 4) rfl (nI_1 (i)) (by decide) rfl (fun ls hl => ?_)
        refine lv_goto (tgt := 45) hx hb dX4_paidBy_83 (by decide) ?_
        exact ihi ls (lv_sub hl [2, 3, 1, 4, 0] rfl)
      ·
        refine lv_aload_n hx hb dX4_paidBy_56 rfl (lv_at hl 0 rfl) ?_
        refine lv_iload_n hx hb dX4_paidBy_57 rfl (lv_at hl 3 rfl) ?_
        refine lv_iload hx hb dX4_paidBy_58 (lv_at hl 4 rfl) ?_
        refine mcallVi hw (m10) rfl rfl ⟨hx, hb, hml, hown, hts⟩ (c_X4_reasoned hM j (wN f j) (aN f j) i (by omega) hw1j h9j haj h10j (by omega) hnr) (cwV 2 hts gX4_paidBy_X4_reasoned rfl rfl rfl (by decide +kernel) ⟨Nat.le_of_ble_eq_true rfl, Nat.le_of_ble_eq_true rfl⟩) rfl hl.1 rfl (Nat.le_of_ble_eq_true rfl) dX4_paidBy_60 ⟨Nat.le_of_ble_eq_true rfl, Nat.le_of_ble_eq_true rfl⟩ ?_
        refine lv_iload_n hx hb dX4_paidBy_63 rfl (lv_at hl 1 rfl) ?_
        refine lv_icmp_ne (tgt := 77) hx hb dX4_paidBy_64 (by decide) (fun c14 => ?_) (fun c14 => ?_)
        ·
          refine lv_iconst (v := (0)) hx hb dX4_paidBy_77 (by decide) ?_
          exact J12 _ ((by unfold s_pb1; rw [if_neg c14]))
        ·
          refine lv_aload_n hx hb dX4_paidBy_67 rfl (lv_at hl 0 rfl) ?_
          refine lv_iload_n hx hb dX4_paidBy_68 rfl (lv_at hl 3 rfl) ?_
          refine lv_iload hx hb dX4_paidBy_69 (lv_at hl 4 rfl) ?_
          refine mcallVi hw (m10) rfl rfl ⟨hx, hb, hml, hown, hts⟩ (c_X4_amount hM j (wN f j) (aN f j) (rN f (wN f j)) (by omega) hw1j h9j h8j hr0j haj h10j hnr i (by omega)) (cwV 2 hts gX4_paidBy_X4_amount rfl rfl rfl (by decide +kernel) ⟨Nat.le_of_ble_eq_true rfl, Nat.le_of_ble_eq_true rfl⟩) rfl hl.1 rfl (Nat.le_of_ble_eq_true rfl) dX4_paidBy_71 ⟨Nat.le_of_ble_eq_true rfl, Nat.le_of_ble_eq_true rfl⟩ ?_
          refine lv_goto (tgt := 78) hx hb dX4_paidBy_74 (by decide) ?_
          exact J12 _ ((by unfold s_pb1; rw [if_pos c14]))

set_option maxHeartbeats 4000000 in
set_option maxRecDepth 100000 in
theorem c_X4_paidBy_1 {l : Launch} {G : mG} {V : mV} {α : Nat → Nat} {f : sT} {nr nw ns : Nat} {th : Int32} (hM : mM G V α f nr nw ns th) (y : Int32) (hbad : ¬ inn y 0 (nI nr - 1)) (hns : ns ≤ 80) : Met l yX4_paidBy wsX4_paidBy ({ frames := 1, cells := 0, slots := 0, locals := 22 }) (va_Pc [.ref (α (10)), .int (y)] (fun U => mW G V α U U.heap)) (va_Qi (fun (r9 : Int32) (u : mV × (Nat → Nat)) => 0 = r9 ∧ mQ G V α u f nr nw ns 1) (fun u t => mH G u.1 u.2 t.heap) (mfree G)) 0 0 (mfree G) := by
  refine Met.ofW (cc := cX4_paidBy) (maxL := 5) (ret := (some .int)) (by decide) rfl ?_
  intro p e s m args below meth c s₁ B hml hv
  obtain ⟨rfl, hw⟩ := hv
  have hx := B.exec
  have hb := B.bytes
  have hr := B.returns
  have hts := atoms_spec (ws := wsX4_paidBy) B.pre
  have hown : s.vm.findClass RX4 = some m.cls := findClass_of_methodNamed B.named
  have hlocks := B.notSynchronized
  have hS : va_S (mfree G) s.heap s.heap [] := va_S.rf
  have hO : ∀ j, ¬ (10 ≤ j ∧ j < 25) → V j = V j := fun _ _ => rfl
  obtain ⟨m10, m11, m12, m13, m14, m15, m16, m17, m18, m19, m20, m21, m22, m23, m24⟩ := id hM
  have fl_61 := hts (.fieldLink RX4 61 "RosterPayModel" "rules" "I") (by decide +kernel)
  have in_X4 : ∀ w ∈ u_ws RX4 TX4 18, w ∈ wsX4_paidBy := by decide +kernel
  have fl_53 := hts (.fieldLink RX4 53 "RosterPayModel" "thrown" "I") (by decide +kernel)
  have fl_67 := hts (.fieldLink RX4 67 "RosterPayModel" "shifts" "I") (by decide +kernel)
  have hl := lv_entry ([.ref (α (10)), .int (y)]) (n := 5) (Nat.le_of_ble_eq_true rfl)
  rw [lg_entry_eq]
  generalize (lg_sl ([.ref (α (10)), .int (y)]) ++ List.replicate (5 - (lg_sl ([.ref (α (10)), .int (y)])).length) Slot.unset).toArray = ls at hl ⊢
  have hl : lv_has ls 5 [(0, .ref (α (10))), (1, .int (y))] := hl
  refine lv_aload_n hx hb dX4_paidBy_0 rfl (lv_at hl 0 rfl) ?_
  refine lv_iload_n hx hb dX4_paidBy_1 rfl (lv_at hl 1 rfl) ?_
  refine lv_iconst (v := (0)) hx hb dX4_paidBy_2 (by decide) ?_
  refine lv_aload_n hx hb dX4_paidBy_3 rfl (lv_at hl 0 rfl) ?_
  refine mget (C := RX4) (T := TX4) (N := 18) (ci := 5) hx hb hts in_X4 hown hw (m10) rfl 1 (by decide) fl_61 rfl dX4_paidBy_4 ?_
  refine lv_iconst (v := (1)) hx hb dX4_paidBy_7 (by decide) ?_
  refine lv_isub hx hb dX4_paidBy_8 ?_
  refine mcallSi hw ⟨hx, hb, hml, hown, hts⟩ (c_X4_isIn (y) (0) ((nI (nr) - 1))) (va_cwS 3 hts gX4_paidBy_X4_isIn rfl rfl rfl (by decide +kernel) ⟨Nat.le_of_ble_eq_true rfl, Nat.le_of_ble_eq_true rfl⟩) rfl hl.1 rfl (Nat.le_of_ble_eq_true rfl) dX4_paidBy_9 ⟨Nat.le_of_ble_eq_true rfl, Nat.le_of_ble_eq_true rfl⟩ ?_
  refine mif_eqB (tgt := 19) hx hb dX4_paidBy_12 (by decide) (fun c1 => ?_) (fun z => absurd z (hbad))
  refine lv_iconst (v := (1)) hx hb dX4_paidBy_19 (by decide) ?_
  refine mput (C := RX4) (T := TX4) (N := 18) (ci := 5) hx hb hts in_X4 tyX4 tyX4_ok nmX4 hown hw hS (m10) rfl 17 (by decide) fl_53 rfl rfl rfl (Nat.le_of_ble_eq_true rfl) dX4_paidBy_20 (fun H locs hw hS => ?_)
  obtain ⟨V1, hV1⟩ : ∃ z, z = vup V 10 (mobj α (nr) (nw) (ns) (1)) := ⟨_, rfl⟩
  have hw : mW G V1 α s H := by rw [hV1]; exact hw
  have hM : mM G V1 α f (nr) (nw) (ns) (1) := by rw [hV1]; exact hM.obj _ _ _ _
  have hO : ∀ j, ¬ (10 ≤ j ∧ j < 25) → V1 j = V j := fun j hj => (show V1 j = V j by rw [hV1]; exact vup_n _ _ (by omega)).trans (hO j hj)
  obtain ⟨m10, m11, m12, m13, m14, m15, m16, m17, m18, m19, m20, m21, m22, m23, m24⟩ := id hM
  refine lv_iconst (v := (0)) hx hb dX4_paidBy_23 (by decide) ?_
  refine lv_istore_n (lv' := [(2, .int (0)), (0, .ref (α (10))), (1, .int (y))]) hx hb dX4_paidBy_24 rfl hl (by decide) rfl (fun ls hl => ?_)
  refine lv_iconst (v := (0)) hx hb dX4_paidBy_25 (by decide) ?_
  refine lv_topi (fun y2 ey2 => ?_)
  obtain rfl : y2 = (nI (0)) := ey2.trans (rfl)
  refine lv_istore_n (lv' := [(3, .int (nI (0))), (2, .int (0)), (0, .ref (α (10))), (1, .int (y))]) hx hb dX4_paidBy_26 rfl hl (by decide) rfl (fun ls hl => ?_)
  refine lv_iload_n hx hb dX4_paidBy_27 rfl (lv_at hl 0 rfl) ?_
  refine lv_aload_n hx hb dX4_paidBy_28 rfl (lv_at hl 2 rfl) ?_
  refine mget (C := RX4) (T := TX4) (N := 18) (ci := 5) hx hb hts in_X4 hown hw (m10) rfl 11 (by decide) fl_67 rfl dX4_paidBy_29 ?_
  refine lv_icmp_ge (tgt := 92) hx hb dX4_paidBy_32 (by decide) (fun c3 => ?_) (fun c3 => ?_)
  ·
    refine lv_iload_n hx hb dX4_paidBy_92 rfl (lv_at hl 1 rfl) ?_
    exact W.iret (v := 0) hx hb hr (fun t ht hW => ⟨⟨_, (V1, α), rfl, ⟨rfl, hM, hO, rfl⟩, by show mH G V1 α t.heap; rw [ht]; exact hw.2.2⟩, hS.F ht⟩) hS.2.2 dX4_paidBy_93
  ·
    refine lv_aload_n hx hb dX4_paidBy_35 rfl (lv_at hl 2 rfl) ?_
    refine mget (C := RX4) (T := TX4) (N := 18) (ci := 5) hx hb hts in_X4 hown hw (m10) rfl 17 (by decide) fl_53 rfl dX4_paidBy_36 ?_
    refine lv_if_ne (tgt := 92) hx hb dX4_paidBy_39 (by decide) (fun c4 => ?_) (fun z => absurd z ((by decide)))
    refine lv_iload_n hx hb dX4_paidBy_92 rfl (lv_at hl 1 rfl) ?_
    exact W.iret (v := 0) hx hb hr (fun t ht hW => ⟨⟨_, (V1, α), rfl, ⟨rfl, hM, hO, rfl⟩, by show mH G V1 α t.heap; rw [ht]; exact hw.2.2⟩, hS.F ht⟩) hS.2.2 dX4_paidBy_93

set_option maxHeartbeats 4000000 in
set_option maxRecDepth 100000 in
theorem c_X4_worked {l : Launch} {G : mG} {V : mV} {α : Nat → Nat} {f : sT} {nr nw ns : Nat} {th : Int32} (hM : mM G V α f nr nw ns th) (k z : Nat) (hk : k < nw) (hz : z < 52) (hnw : nw ≤ 12) (hns : ns ≤ 80) : Met l yX4_worked wsX4_worked ({ frames := 2, cells := 0, slots := 0, locals := 43 }) (va_Pc [.ref (α (10)), .int (nI (k)), .int (nI (z))] (fun U => mW G V α U U.heap)) (va_Qi (fun (r9 : Int32) (u : mV × (Nat → Nat)) => s_hr f (nI (k)) (nI (96 * (7 * z))) (nI (96 * (7 * z + 7))) ns = r9 ∧ mQ G V α u f nr nw ns 0) (fun u t => mH G u.1 u.2 t.heap) (mfree G)) 0 0 (mfree G) := by
  refine Met.ofW (cc := cX4_worked) (maxL := 3) (ret := (some .int)) (by decide) rfl ?_
  intro p e s m args below meth c s₁ B hml hv
  obtain ⟨rfl, hw⟩ := hv
  have hx := B.exec
  have hb := B.bytes
  have hr := B.returns
  have hts := atoms_spec (ws := wsX4_worked) B.pre
  have hown : s.vm.findClass RX4 = some m.cls := findClass_of_methodNamed B.named
  have hlocks := B.notSynchronized
  have hS : va_S (mfree G) s.heap s.heap [] := va_S.rf
  have hO : ∀ j, ¬ (10 ≤ j ∧ j < 25) → V j = V j := fun _ _ => rfl
  obtain ⟨m10, m11, m12, m13, m14, m15, m16, m17, m18, m19, m20, m21, m22, m23, m24⟩ := id hM
  have fl_53 := hts (.fieldLink RX4 53 "RosterPayModel" "thrown" "I") (by decide +kernel)
  have in_X4 : ∀ w ∈ u_ws RX4 TX4 18, w ∈ wsX4_worked := by decide +kernel
  have hl := lv_entry ([.ref (α (10)), .int (nI (k)), .int (nI (z))]) (n := 3) (Nat.le_of_ble_eq_true rfl)
  rw [lg_entry_eq]
  generalize (lg_sl ([.ref (α (10)), .int (nI (k)), .int (nI (z))]) ++ List.replicate (3 - (lg_sl ([.ref (α (10)), .int (nI (k)), .int (nI (z))])).length) Slot.unset).toArray = ls at hl ⊢
  have hl : lv_has ls 3 [(0, .ref (α (10))), (1, .int (nI (k))), (2, .int (nI (z)))] := hl
  refine lv_aload_n hx hb dX4_worked_0 rfl (lv_at hl 0 rfl) ?_
  refine lv_aload_n hx hb dX4_worked_1 rfl (lv_at hl 0 rfl) ?_
  refine lv_iload_n hx hb dX4_worked_2 rfl (lv_at hl 1 rfl) ?_
  refine mcallVi hw (m10) rfl rfl ⟨hx, hb, hml, hown, hts⟩ (c_X4_isWorker hM (nI (k))) (cwV 1 hts gX4_worked_X4_isWorker rfl rfl rfl (by decide +kernel) ⟨Nat.le_of_ble_eq_true rfl, Nat.le_of_ble_eq_true rfl⟩) rfl hl.1 rfl (Nat.le_of_ble_eq_true rfl) dX4_worked_3 ⟨Nat.le_of_ble_eq_true rfl, Nat.le_of_ble_eq_true rfl⟩ ?_
  refine mif_neB (tgt := 13) hx hb dX4_worked_6 (by decide) (fun c1 => ?_) (fun z => absurd (inn_ix hk (by omega)) z)
  refine lv_iload_n hx hb dX4_worked_13 rfl (lv_at hl 2 rfl) ?_
  refine lv_iconst (v := (0)) hx hb dX4_worked_14 (by decide) ?_
  refine lv_bipush (v := (51)) hx hb dX4_worked_15 (by decide) ?_
  refine mcallSi hw ⟨hx, hb, hml, hown, hts⟩ (c_X4_isIn (nI (z)) (0) (51)) (va_cwS 3 hts gX4_worked_X4_isIn rfl rfl rfl (by decide +kernel) ⟨Nat.le_of_ble_eq_true rfl, Nat.le_of_ble_eq_true rfl⟩) rfl hl.1 rfl (Nat.le_of_ble_eq_true rfl) dX4_worked_17 ⟨Nat.le_of_ble_eq_true rfl, Nat.le_of_ble_eq_true rfl⟩ ?_
  refine mif_eqB (tgt := 27) hx hb dX4_worked_20 (by decide) (fun z => absurd (inn_ix (n := 52) hz (by decide)) z) (fun c2 => ?_)
  refine lv_iconst (v := (0)) hx hb dX4_worked_23 (by decide) ?_
  refine lv_goto (tgt := 28) hx hb dX4_worked_24 (by decide) ?_
  refine mput (C := RX4) (T := TX4) (N := 18) (ci := 5) hx hb hts in_X4 tyX4 tyX4_ok nmX4 hown hw hS (m10) rfl 17 (by decide) fl_53 rfl rfl rfl (Nat.le_of_ble_eq_true rfl) dX4_worked_28 (fun H locs hw hS => ?_)
  obtain ⟨V1, hV1⟩ : ∃ z, z = vup V 10 (mobj α (nr) (nw) (ns) (0)) := ⟨_, rfl⟩
  have hw : mW G V1 α s H := by rw [hV1]; exact hw
  have hM : mM G V1 α f (nr) (nw) (ns) (0) := by rw [hV1]; exact hM.obj _ _ _ _
  have hO : ∀ j, ¬ (10 ≤ j ∧ j < 25) → V1 j = V j := fun j hj => (show V1 j = V j by rw [hV1]; exact vup_n _ _ (by omega)).trans (hO j hj)
  obtain ⟨m10, m11, m12, m13, m14, m15, m16, m17, m18, m19, m20, m21, m22, m23, m24⟩ := id hM
  refine lv_aload_n hx hb dX4_worked_31 rfl (lv_at hl 0 rfl) ?_
  refine mget (C := RX4) (T := TX4) (N := 18) (ci := 5) hx hb hts in_X4 hown hw (m10) rfl 17 (by decide) fl_53 rfl dX4_worked_32 ?_
  refine lv_if_le (tgt := 42) hx hb dX4_worked_35 (by decide) (fun c3 => ?_) (fun z => absurd ((by decide)) z)
  refine lv_aload_n hx hb dX4_worked_42 rfl (lv_at hl 0 rfl) ?_
  refine lv_iload_n hx hb dX4_worked_43 rfl (lv_at hl 1 rfl) ?_
  refine lv_bipush (v := (7)) hx hb dX4_worked_44 (by decide) ?_
  refine lv_iload_n hx hb dX4_worked_46 rfl (lv_at hl 2 rfl) ?_
  refine lv_imul hx hb dX4_worked_47 ?_
  refine lv_topi (fun y4 ey4 => ?_)
  obtain rfl : y4 = (nI (7 * z)) := ey4.trans (pk_mul 7 z)
  refine lv_bipush (v := (7)) hx hb dX4_worked_48 (by decide) ?_
  refine mcallVi hw (m10) rfl rfl ⟨hx, hb, hml, hown, hts⟩ (c_X4_hours hM (nI (k)) (7 * z) 7 (by omega)) (cwV 3 hts gX4_worked_X4_hours rfl rfl rfl (by decide +kernel) ⟨Nat.le_of_ble_eq_true rfl, Nat.le_of_ble_eq_true rfl⟩) rfl hl.1 rfl (Nat.le_of_ble_eq_true rfl) dX4_worked_50 ⟨Nat.le_of_ble_eq_true rfl, Nat.le_of_ble_eq_true rfl⟩ ?_
  exact W.iret (v := s_hr f (nI (k)) (nI (96 * (7 * z))) (nI (96 * (7 * z + 7))) ns) hx hb hr (fun t ht hW => ⟨⟨_, (V1, α), rfl, ⟨rfl, hM, hO, rfl⟩, by show mH G V1 α t.heap; rw [ht]; exact hw.2.2⟩, hS.F ht⟩) hS.2.2 dX4_worked_53

set_option maxHeartbeats 4000000 in
set_option maxRecDepth 100000 in
theorem c_X4_worked_1 {l : Launch} {G : mG} {V : mV} {α : Nat → Nat} {f : sT} {nr nw ns : Nat} {th : Int32} (hM : mM G V α f nr nw ns th) (y x : Int32) (hbad : ¬ inn y 0 (nI nw - 1)) : Met l yX4_worked wsX4_worked ({ frames := 2, cells := 0, slots := 0, locals := 43 }) (va_Pc [.ref (α (10)), .int (y), .int (x)] (fun U => mW G V α U U.heap)) (va_Qi (fun (r9 : Int32) (u : mV × (Nat → Nat)) => 0 = r9 ∧ mQ G V α u f nr nw ns 1) (fun u t => mH G u.1 u.2 t.heap) (mfree G)) 0 0 (mfree G) := by
  refine Met.ofW (cc := cX4_worked) (maxL := 3) (ret := (some .int)) (by decide) rfl ?_
  intro p e s m args below meth c s₁ B hml hv
  obtain ⟨rfl, hw⟩ := hv
  have hx := B.exec
  have hb := B.bytes
  have hr := B.returns
  have hts := atoms_spec (ws := wsX4_worked) B.pre
  have hown : s.vm.findClass RX4 = some m.cls := findClass_of_methodNamed B.named
  have hlocks := B.notSynchronized
  have hS : va_S (mfree G) s.heap s.heap [] := va_S.rf
  have hO : ∀ j, ¬ (10 ≤ j ∧ j < 25) → V j = V j := fun _ _ => rfl
  obtain ⟨m10, m11, m12, m13, m14, m15, m16, m17, m18, m19, m20, m21, m22, m23, m24⟩ := id hM
  have fl_53 := hts (.fieldLink RX4 53 "RosterPayModel" "thrown" "I") (by decide +kernel)
  have in_X4 : ∀ w ∈ u_ws RX4 TX4 18, w ∈ wsX4_worked := by decide +kernel
  have hl := lv_entry ([.ref (α (10)), .int (y), .int (x)]) (n := 3) (Nat.le_of_ble_eq_true rfl)
  rw [lg_entry_eq]
  generalize (lg_sl ([.ref (α (10)), .int (y), .int (x)]) ++ List.replicate (3 - (lg_sl ([.ref (α (10)), .int (y), .int (x)])).length) Slot.unset).toArray = ls at hl ⊢
  have hl : lv_has ls 3 [(0, .ref (α (10))), (1, .int (y)), (2, .int (x))] := hl
  refine lv_aload_n hx hb dX4_worked_0 rfl (lv_at hl 0 rfl) ?_
  refine lv_aload_n hx hb dX4_worked_1 rfl (lv_at hl 0 rfl) ?_
  refine lv_iload_n hx hb dX4_worked_2 rfl (lv_at hl 1 rfl) ?_
  refine mcallVi hw (m10) rfl rfl ⟨hx, hb, hml, hown, hts⟩ (c_X4_isWorker hM (y)) (cwV 1 hts gX4_worked_X4_isWorker rfl rfl rfl (by decide +kernel) ⟨Nat.le_of_ble_eq_true rfl, Nat.le_of_ble_eq_true rfl⟩) rfl hl.1 rfl (Nat.le_of_ble_eq_true rfl) dX4_worked_3 ⟨Nat.le_of_ble_eq_true rfl, Nat.le_of_ble_eq_true rfl⟩ ?_
  refine mif_neB (tgt := 13) hx hb dX4_worked_6 (by decide) (fun z => absurd z (hbad)) (fun c1 => ?_)
  refine lv_iconst (v := (1)) hx hb dX4_worked_9 (by decide) ?_
  refine lv_goto (tgt := 28) hx hb dX4_worked_10 (by decide) ?_
  refine mput (C := RX4) (T := TX4) (N := 18) (ci := 5) hx hb hts in_X4 tyX4 tyX4_ok nmX4 hown hw hS (m10) rfl 17 (by decide) fl_53 rfl rfl rfl (Nat.le_of_ble_eq_true rfl) dX4_worked_28 (fun H locs hw hS => ?_)
  obtain ⟨V1, hV1⟩ : ∃ z, z = vup V 10 (mobj α (nr) (nw) (ns) (1)) := ⟨_, rfl⟩
  have hw : mW G V1 α s H := by rw [hV1]; exact hw
  have hM : mM G V1 α f (nr) (nw) (ns) (1) := by rw [hV1]; exact hM.obj _ _ _ _
  have hO : ∀ j, ¬ (10 ≤ j ∧ j < 25) → V1 j = V j := fun j hj => (show V1 j = V j by rw [hV1]; exact vup_n _ _ (by omega)).trans (hO j hj)
  obtain ⟨m10, m11, m12, m13, m14, m15, m16, m17, m18, m19, m20, m21, m22, m23, m24⟩ := id hM
  refine lv_aload_n hx hb dX4_worked_31 rfl (lv_at hl 0 rfl) ?_
  refine mget (C := RX4) (T := TX4) (N := 18) (ci := 5) hx hb hts in_X4 hown hw (m10) rfl 17 (by decide) fl_53 rfl dX4_worked_32 ?_
  refine lv_if_le (tgt := 42) hx hb dX4_worked_35 (by decide) (fun z => absurd z ((by decide))) (fun c2 => ?_)
  refine lv_iconst (v := (0)) hx hb dX4_worked_38 (by decide) ?_
  refine lv_goto (tgt := 53) hx hb dX4_worked_39 (by decide) ?_
  exact W.iret (v := 0) hx hb hr (fun t ht hW => ⟨⟨_, (V1, α), rfl, ⟨rfl, hM, hO, rfl⟩, by show mH G V1 α t.heap; rw [ht]; exact hw.2.2⟩, hS.F ht⟩) hS.2.2 dX4_worked_53

set_option maxHeartbeats 4000000 in
set_option maxRecDepth 100000 in
theorem c_X4_worked_2 {l : Launch} {G : mG} {V : mV} {α : Nat → Nat} {f : sT} {nr nw ns : Nat} {th : Int32} (hM : mM G V α f nr nw ns th) (y x : Int32) (hy : inn y 0 (nI nw - 1)) (hbad : ¬ inn x 0 51) : Met l yX4_worked wsX4_worked ({ frames := 2, cells := 0, slots := 0, locals := 43 }) (va_Pc [.ref (α (10)), .int (y), .int (x)] (fun U => mW G V α U U.heap)) (va_Qi (fun (r9 : Int32) (u : mV × (Nat → Nat)) => 0 = r9 ∧ mQ G V α u f nr nw ns 2) (fun u t => mH G u.1 u.2 t.heap) (mfree G)) 0 0 (mfree G) := by
  refine Met.ofW (cc := cX4_worked) (maxL := 3) (ret := (some .int)) (by decide) rfl ?_
  intro p e s m args below meth c s₁ B hml hv
  obtain ⟨rfl, hw⟩ := hv
  have hx := B.exec
  have hb := B.bytes
  have hr := B.returns
  have hts := atoms_spec (ws := wsX4_worked) B.pre
  have hown : s.vm.findClass RX4 = some m.cls := findClass_of_methodNamed B.named
  have hlocks := B.notSynchronized
  have hS : va_S (mfree G) s.heap s.heap [] := va_S.rf
  have hO : ∀ j, ¬ (10 ≤ j ∧ j < 25) → V j = V j := fun _ _ => rfl
  obtain ⟨m10, m11, m12, m13, m14, m15, m16, m17, m18, m19, m20, m21, m22, m23, m24⟩ := id hM
  have fl_53 := hts (.fieldLink RX4 53 "RosterPayModel" "thrown" "I") (by decide +kernel)
  have in_X4 : ∀ w ∈ u_ws RX4 TX4 18, w ∈ wsX4_worked := by decide +kernel
  have hl := lv_entry ([.ref (α (10)), .int (y), .int (x)]) (n := 3) (Nat.le_of_ble_eq_true rfl)
  rw [lg_entry_eq]
  generalize (lg_sl ([.ref (α (10)), .int (y), .int (x)]) ++ List.replicate (3 - (lg_sl ([.ref (α (10)), .int (y), .int (x)])).length) Slot.unset).toArray = ls at hl ⊢
  have hl : lv_has ls 3 [(0, .ref (α (10))), (1, .int (y)), (2, .int (x))] := hl
  refine lv_aload_n hx hb dX4_worked_0 rfl (lv_at hl 0 rfl) ?_
  refine lv_aload_n hx hb dX4_worked_1 rfl (lv_at hl 0 rfl) ?_
  refine lv_iload_n hx hb dX4_worked_2 rfl (lv_at hl 1 rfl) ?_
  refine mcallVi hw (m10) rfl rfl ⟨hx, hb, hml, hown, hts⟩ (c_X4_isWorker hM (y)) (cwV 1 hts gX4_worked_X4_isWorker rfl rfl rfl (by decide +kernel) ⟨Nat.le_of_ble_eq_true rfl, Nat.le_of_ble_eq_true rfl⟩) rfl hl.1 rfl (Nat.le_of_ble_eq_true rfl) dX4_worked_3 ⟨Nat.le_of_ble_eq_true rfl, Nat.le_of_ble_eq_true rfl⟩ ?_
  refine mif_neB (tgt := 13) hx hb dX4_worked_6 (by decide) (fun c1 => ?_) (fun z => absurd (hy) z)
  refine lv_iload_n hx hb dX4_worked_13 rfl (lv_at hl 2 rfl) ?_
  refine lv_iconst (v := (0)) hx hb dX4_worked_14 (by decide) ?_
  refine lv_bipush (v := (51)) hx hb dX4_worked_15 (by decide) ?_
  refine mcallSi hw ⟨hx, hb, hml, hown, hts⟩ (c_X4_isIn (x) (0) (51)) (va_cwS 3 hts gX4_worked_X4_isIn rfl rfl rfl (by decide +kernel) ⟨Nat.le_of_ble_eq_true rfl, Nat.le_of_ble_eq_true rfl⟩) rfl hl.1 rfl (Nat.le_of_ble_eq_true rfl) dX4_worked_17 ⟨Nat.le_of_ble_eq_true rfl, Nat.le_of_ble_eq_true rfl⟩ ?_
  refine mif_eqB (tgt := 27) hx hb dX4_worked_20 (by decide) (fun c2 => ?_) (fun z => absurd z (hbad))
  refine lv_iconst (v := (2)) hx hb dX4_worked_27 (by decide) ?_
  refine mput (C := RX4) (T := TX4) (N := 18) (ci := 5) hx hb hts in_X4 tyX4 tyX4_ok nmX4 hown hw hS (m10) rfl 17 (by decide) fl_53 rfl rfl rfl (Nat.le_of_ble_eq_true rfl) dX4_worked_28 (fun H locs hw hS => ?_)
  obtain ⟨V1, hV1⟩ : ∃ z, z = vup V 10 (mobj α (nr) (nw) (ns) (2)) := ⟨_, rfl⟩
  have hw : mW G V1 α s H := by rw [hV1]; exact hw
  have hM : mM G V1 α f (nr) (nw) (ns) (2) := by rw [hV1]; exact hM.obj _ _ _ _
  have hO : ∀ j, ¬ (10 ≤ j ∧ j < 25) → V1 j = V j := fun j hj => (show V1 j = V j by rw [hV1]; exact vup_n _ _ (by omega)).trans (hO j hj)
  obtain ⟨m10, m11, m12, m13, m14, m15, m16, m17, m18, m19, m20, m21, m22, m23, m24⟩ := id hM
  refine lv_aload_n hx hb dX4_worked_31 rfl (lv_at hl 0 rfl) ?_
  refine mget (C := RX4) (T := TX4) (N := 18) (ci := 5) hx hb hts in_X4 hown hw (m10) rfl 17 (by decide) fl_53 rfl dX4_worked_32 ?_
  refine lv_if_le (tgt := 42) hx hb dX4_worked_35 (by decide) (fun z => absurd z ((by decide))) (fun c3 => ?_)
  refine lv_iconst (v := (0)) hx hb dX4_worked_38 (by decide) ?_
  refine lv_goto (tgt := 53) hx hb dX4_worked_39 (by decide) ?_
  exact W.iret (v := 0) hx hb hr (fun t ht hW => ⟨⟨_, (V1, α), rfl, ⟨rfl, hM, hO, rfl⟩, by show mH G V1 α t.heap; rw [ht]; exact hw.2.2⟩, hS.F ht⟩) hS.2.2 dX4_worked_53

set_option maxHeartbeats 4000000 in
set_option maxRecDepth 100000 in
theorem c_X4_excess {l : Launch} {G : mG} {V : mV} {α : Nat → Nat} {f : sT} {nr nw ns : Nat} {th : Int32} (hM : mM G V α f nr nw ns th) (k z : Nat) (hk : k < nw) (hz : z < 13) (hnw : nw ≤ 12) (hns : ns ≤ 80) : Met l yX4_excess wsX4_excess ({ frames := 2, cells := 0, slots := 0, locals := 43 }) (va_Pc [.ref (α (10)), .int (nI (k)), .int (nI (z))] (fun U => mW G V α U U.heap)) (va_Qi (fun (r9 : Int32) (u : mV × (Nat → Nat)) => s_ex (s_hr f (nI (k)) (nI (96 * (28 * z))) (nI (96 * (28 * z + 28))) ns - 608) = r9 ∧ mQ G V α u f nr nw ns 0) (fun u t => mH G u.1 u.2 t.heap) (mfree G)) 0 0 (mfree G) := by
  refine Met.ofW (cc := cX4_excess) (maxL := 4) (ret := (some .int)) (by decide) rfl ?_
  intro p e s m args below meth c s₁ B hml hv
  obtain ⟨rfl, hw⟩ := hv
  have hx := B.exec
  have hb := B.bytes
  have hr := B.returns
  have hts := atoms_spec (ws := wsX4_excess) B.pre
  have hown : s.vm.findClass RX4 = some m.cls := findClass_of_methodNamed B.named
  have hlocks := B.notSynchronized
  have hS : va_S (mfree G) s.heap s.heap [] := va_S.rf
  have hO : ∀ j, ¬ (10 ≤ j ∧ j < 25) → V j = V j := fun _ _ => rfl
  obtain ⟨m10, m11, m12, m13, m14, m15, m16, m17, m18, m19, m20, m21, m22, m23, m24⟩ := id hM
  have fl_53 := hts (.fieldLink RX4 53 "RosterPayModel" "thrown" "I") (by decide +kernel)
  have in_X4 : ∀ w ∈ u_ws RX4 TX4 18, w ∈ wsX4_excess := by decide +kernel
  have hl := lv_entry ([.ref (α (10)), .int (nI (k)), .int (nI (z))]) (n := 4) (Nat.le_of_ble_eq_true rfl)
  rw [lg_entry_eq]
  generalize (lg_sl ([.ref (α (10)), .int (nI (k)), .int (nI (z))]) ++ List.replicate (4 - (lg_sl ([.ref (α (10)), .int (nI (k)), .int (nI (z))])).length) Slot.unset).toArray = ls at hl ⊢
  have hl : lv_has ls 4 [(0, .ref (α (10))), (1, .int (nI (k))), (2, .int (nI (z)))] := hl
  refine lv_aload_n hx hb dX4_excess_0 rfl (lv_at hl 0 rfl) ?_
  refine lv_aload_n hx hb dX4_excess_1 rfl (lv_at hl 0 rfl) ?_
  refine lv_iload_n hx hb dX4_excess_2 rfl (lv_at hl 1 rfl) ?_
  refine mcallVi hw (m10) rfl rfl ⟨hx, hb, hml, hown, hts⟩ (c_X4_isWorker hM (nI (k))) (cwV 1 hts gX4_excess_X4_isWorker rfl rfl rfl (by decide +kernel) ⟨Nat.le_of_ble_eq_true rfl, Nat.le_of_ble_eq_true rfl⟩) rfl hl.1 rfl (Nat.le_of_ble_eq_true rfl) dX4_excess_3 ⟨Nat.le_of_ble_eq_true rfl, Nat.le_of_ble_eq_true rfl⟩ ?_
  refine mif_neB (tgt := 13) hx hb dX4_excess_6 (by decide) (fun c1 => ?_) (fun z => absurd (inn_ix hk (by omega)) z)
  refine lv_iload_n hx hb dX4_excess_13 rfl (lv_at hl 2 rfl) ?_
  refine lv_iconst (v := (0)) hx hb dX4_excess_14 (by decide) ?_
  refine lv_bipush (v := (12)) hx hb dX4_excess_15 (by decide) ?_
  refine mcallSi hw ⟨hx, hb, hml, hown, hts⟩ (c_X4_isIn (nI (z)) (0) (12)) (va_cwS 3 hts gX4_excess_X4_isIn rfl rfl rfl (by decide +kernel) ⟨Nat.le_of_ble_eq_true rfl, Nat.le_of_ble_eq_true rfl⟩) rfl hl.1 rfl (Nat.le_of_ble_eq_true rfl) dX4_excess_17 ⟨Nat.le_of_ble_eq_true rfl, Nat.le_of_ble_eq_true rfl⟩ ?_
  refine mif_eqB (tgt := 27) hx hb dX4_excess_20 (by decide) (fun z => absurd (inn_ix (n := 13) hz (by decide)) z) (fun c2 => ?_)
  refine lv_iconst (v := (0)) hx hb dX4_excess_23 (by decide) ?_
  refine lv_goto (tgt := 28) hx hb dX4_excess_24 (by decide) ?_
  refine mput (C := RX4) (T := TX4) (N := 18) (ci := 5) hx hb hts in_X4 tyX4 tyX4_ok nmX4 hown hw hS (m10) rfl 17 (by decide) fl_53 rfl rfl rfl (Nat.le_of_ble_eq_true rfl) dX4_excess_28 (fun H locs hw hS => ?_)
  obtain ⟨V1, hV1⟩ : ∃ z, z = vup V 10 (mobj α (nr) (nw) (ns) (0)) := ⟨_, rfl⟩
  have hw : mW G V1 α s H := by rw [hV1]; exact hw
  have hM : mM G V1 α f (nr) (nw) (ns) (0) := by rw [hV1]; exact hM.obj _ _ _ _
  have hO : ∀ j, ¬ (10 ≤ j ∧ j < 25) → V1 j = V j := fun j hj => (show V1 j = V j by rw [hV1]; exact vup_n _ _ (by omega)).trans (hO j hj)
  obtain ⟨m10, m11, m12, m13, m14, m15, m16, m17, m18, m19, m20, m21, m22, m23, m24⟩ := id hM
  refine lv_aload_n hx hb dX4_excess_31 rfl (lv_at hl 0 rfl) ?_
  refine mget (C := RX4) (T := TX4) (N := 18) (ci := 5) hx hb hts in_X4 hown hw (m10) rfl 17 (by decide) fl_53 rfl dX4_excess_32 ?_
  refine lv_if_le (tgt := 42) hx hb dX4_excess_35 (by decide) (fun c3 => ?_) (fun z => absurd ((by decide)) z)
  refine lv_aload_n hx hb dX4_excess_42 rfl (lv_at hl 0 rfl) ?_
  refine lv_iload_n hx hb dX4_excess_43 rfl (lv_at hl 1 rfl) ?_
  refine lv_bipush (v := (28)) hx hb dX4_excess_44 (by decide) ?_
  refine lv_iload_n hx hb dX4_excess_46 rfl (lv_at hl 2 rfl) ?_
  refine lv_imul hx hb dX4_excess_47 ?_
  refine lv_topi (fun y4 ey4 => ?_)
  obtain rfl : y4 = (nI (28 * z)) := ey4.trans (pk_mul 28 z)
  refine lv_bipush (v := (28)) hx hb dX4_excess_48 (by decide) ?_
  refine mcallVi hw (m10) rfl rfl ⟨hx, hb, hml, hown, hts⟩ (c_X4_hours hM (nI (k)) (28 * z) 28 (by omega)) (cwV 3 hts gX4_excess_X4_hours rfl rfl rfl (by decide +kernel) ⟨Nat.le_of_ble_eq_true rfl, Nat.le_of_ble_eq_true rfl⟩) rfl hl.1 rfl (Nat.le_of_ble_eq_true rfl) dX4_excess_50 ⟨Nat.le_of_ble_eq_true rfl, Nat.le_of_ble_eq_true rfl⟩ ?_
  refine lv_sipush (v := (608)) hx hb dX4_excess_53 (by decide) ?_
  refine lv_isub hx hb dX4_excess_56 ?_
  refine lv_istore_n (lv' := [(3, .int ((s_hr f (nI (k)) (nI (96 * (28 * z))) (nI (96 * (28 * z + 28))) ns - 608))), (0, .ref (α (10))), (1, .int (nI (k))), (2, .int (nI (z)))]) hx hb dX4_excess_57 rfl hl (by decide) rfl (fun ls hl => ?_)
  refine lv_iload_n hx hb dX4_excess_58 rfl (lv_at hl 0 rfl) ?_
  refine lv_if_le (tgt := 66) hx hb dX4_excess_59 (by decide) (fun c5 => ?_) (fun c5 => ?_)
  ·
    refine lv_iconst (v := (0)) hx hb dX4_excess_66 (by decide) ?_
    exact W.iret (v := 0) hx hb hr (fun t ht hW => ⟨⟨_, (V1, α), rfl, ⟨(by unfold s_ex; rw [if_pos c5]), hM, hO, rfl⟩, by show mH G V1 α t.heap; rw [ht]; exact hw.2.2⟩, hS.F ht⟩) hS.2.2 dX4_excess_67
  ·
    refine lv_iload_n hx hb dX4_excess_62 rfl (lv_at hl 0 rfl) ?_
    refine lv_goto (tgt := 67) hx hb dX4_excess_63 (by decide) ?_
    exact W.iret (v := (s_hr f (nI (k)) (nI (96 * (28 * z))) (nI (96 * (28 * z + 28))) ns - 608)) hx hb hr (fun t ht hW => ⟨⟨_, (V1, α), rfl, ⟨(by unfold s_ex; rw [if_neg c5]), hM, hO, rfl⟩, by show mH G V1 α t.heap; rw [ht]; exact hw.2.2⟩, hS.F ht⟩) hS.2.2 dX4_excess_67

set_option maxHeartbeats 4000000 in
set_option maxRecDepth 100000 in
theorem c_X4_excess_1 {l : Launch} {G : mG} {V : mV} {α : Nat → Nat} {f : sT} {nr nw ns : Nat} {th : Int32} (hM : mM G V α f nr nw ns th) (y x : Int32) (hbad : ¬ inn y 0 (nI nw - 1)) : Met l yX4_excess wsX4_excess ({ frames := 2, cells := 0, slots := 0, locals := 43 }) (va_Pc [.ref (α (10)), .int (y), .int (x)] (fun U => mW G V α U U.heap)) (va_Qi (fun (r9 : Int32) (u : mV × (Nat → Nat)) => 0 = r9 ∧ mQ G V α u f nr nw ns 1) (fun u t => mH G u.1 u.2 t.heap) (mfree G)) 0 0 (mfree G) := by
  refine Met.ofW (cc := cX4_excess) (maxL := 4) (ret := (some .int)) (by decide) rfl ?_
  intro p e s m args below meth c s₁ B hml hv
  obtain ⟨rfl, hw⟩ := hv
  have hx := B.exec
  have hb := B.bytes
  have hr := B.returns
  have hts := atoms_spec (ws := wsX4_excess) B.pre
  have hown : s.vm.findClass RX4 = some m.cls := findClass_of_methodNamed B.named
  have hlocks := B.notSynchronized
  have hS : va_S (mfree G) s.heap s.heap [] := va_S.rf
  have hO : ∀ j, ¬ (10 ≤ j ∧ j < 25) → V j = V j := fun _ _ => rfl
  obtain ⟨m10, m11, m12, m13, m14, m15, m16, m17, m18, m19, m20, m21, m22, m23, m24⟩ := id hM
  have fl_53 := hts (.fieldLink RX4 53 "RosterPayModel" "thrown" "I") (by decide +kernel)
  have in_X4 : ∀ w ∈ u_ws RX4 TX4 18, w ∈ wsX4_excess := by decide +kernel
  have hl := lv_entry ([.ref (α (10)), .int (y), .int (x)]) (n := 4) (Nat.le_of_ble_eq_true rfl)
  rw [lg_entry_eq]
  generalize (lg_sl ([.ref (α (10)), .int (y), .int (x)]) ++ List.replicate (4 - (lg_sl ([.ref (α (10)), .int (y), .int (x)])).length) Slot.unset).toArray = ls at hl ⊢
  have hl : lv_has ls 4 [(0, .ref (α (10))), (1, .int (y)), (2, .int (x))] := hl
  refine lv_aload_n hx hb dX4_excess_0 rfl (lv_at hl 0 rfl) ?_
  refine lv_aload_n hx hb dX4_excess_1 rfl (lv_at hl 0 rfl) ?_
  refine lv_iload_n hx hb dX4_excess_2 rfl (lv_at hl 1 rfl) ?_
  refine mcallVi hw (m10) rfl rfl ⟨hx, hb, hml, hown, hts⟩ (c_X4_isWorker hM (y)) (cwV 1 hts gX4_excess_X4_isWorker rfl rfl rfl (by decide +kernel) ⟨Nat.le_of_ble_eq_true rfl, Nat.le_of_ble_eq_true rfl⟩) rfl hl.1 rfl (Nat.le_of_ble_eq_true rfl) dX4_excess_3 ⟨Nat.le_of_ble_eq_true rfl, Nat.le_of_ble_eq_true rfl⟩ ?_
  refine mif_neB (tgt := 13) hx hb dX4_excess_6 (by decide) (fun z => absurd z (hbad)) (fun c1 => ?_)
  refine lv_iconst (v := (1)) hx hb dX4_excess_9 (by decide) ?_
  refine lv_goto (tgt := 28) hx hb dX4_excess_10 (by decide) ?_
  refine mput (C := RX4) (T := TX4) (N := 18) (ci := 5) hx hb hts in_X4 tyX4 tyX4_ok nmX4 hown hw hS (m10) rfl 17 (by decide) fl_53 rfl rfl rfl (Nat.le_of_ble_eq_true rfl) dX4_excess_28 (fun H locs hw hS => ?_)
  obtain ⟨V1, hV1⟩ : ∃ z, z = vup V 10 (mobj α (nr) (nw) (ns) (1)) := ⟨_, rfl⟩
  have hw : mW G V1 α s H := by rw [hV1]; exact hw
  have hM : mM G V1 α f (nr) (nw) (ns) (1) := by rw [hV1]; exact hM.obj _ _ _ _
  have hO : ∀ j, ¬ (10 ≤ j ∧ j < 25) → V1 j = V j := fun j hj => (show V1 j = V j by rw [hV1]; exact vup_n _ _ (by omega)).trans (hO j hj)
  obtain ⟨m10, m11, m12, m13, m14, m15, m16, m17, m18, m19, m20, m21, m22, m23, m24⟩ := id hM
  refine lv_aload_n hx hb dX4_excess_31 rfl (lv_at hl 0 rfl) ?_
  refine mget (C := RX4) (T := TX4) (N := 18) (ci := 5) hx hb hts in_X4 hown hw (m10) rfl 17 (by decide) fl_53 rfl dX4_excess_32 ?_
  refine lv_if_le (tgt := 42) hx hb dX4_excess_35 (by decide) (fun z => absurd z ((by decide))) (fun c2 => ?_)
  refine lv_iconst (v := (0)) hx hb dX4_excess_38 (by decide) ?_
  refine lv_goto (tgt := 57) hx hb dX4_excess_39 (by decide) ?_
  refine lv_istore_n (lv' := [(3, .int (0)), (0, .ref (α (10))), (1, .int (y)), (2, .int (x))]) hx hb dX4_excess_57 rfl hl (by decide) rfl (fun ls hl => ?_)
  refine lv_iload_n hx hb dX4_excess_58 rfl (lv_at hl 0 rfl) ?_
  refine lv_if_le (tgt := 66) hx hb dX4_excess_59 (by decide) (fun c3 => ?_) (fun z => absurd ((by decide)) z)
  refine lv_iconst (v := (0)) hx hb dX4_excess_66 (by decide) ?_
  exact W.iret (v := 0) hx hb hr (fun t ht hW => ⟨⟨_, (V1, α), rfl, ⟨rfl, hM, hO, rfl⟩, by show mH G V1 α t.heap; rw [ht]; exact hw.2.2⟩, hS.F ht⟩) hS.2.2 dX4_excess_67

set_option maxHeartbeats 4000000 in
set_option maxRecDepth 100000 in
theorem c_X4_excess_2 {l : Launch} {G : mG} {V : mV} {α : Nat → Nat} {f : sT} {nr nw ns : Nat} {th : Int32} (hM : mM G V α f nr nw ns th) (y x : Int32) (hy : inn y 0 (nI nw - 1)) (hbad : ¬ inn x 0 12) : Met l yX4_excess wsX4_excess ({ frames := 2, cells := 0, slots := 0, locals := 43 }) (va_Pc [.ref (α (10)), .int (y), .int (x)] (fun U => mW G V α U U.heap)) (va_Qi (fun (r9 : Int32) (u : mV × (Nat → Nat)) => 0 = r9 ∧ mQ G V α u f nr nw ns 2) (fun u t => mH G u.1 u.2 t.heap) (mfree G)) 0 0 (mfree G) := by
  refine Met.ofW (cc := cX4_excess) (maxL := 4) (ret := (some .int)) (by decide) rfl ?_
  intro p e s m args below meth c s₁ B hml hv
  obtain ⟨rfl, hw⟩ := hv
  have hx := B.exec
  have hb := B.bytes
  have hr := B.returns
  have hts := atoms_spec (ws := wsX4_excess) B.pre
  have hown : s.vm.findClass RX4 = some m.cls := findClass_of_methodNamed B.named
  have hlocks := B.notSynchronized
  have hS : va_S (mfree G) s.heap s.heap [] := va_S.rf
  have hO : ∀ j, ¬ (10 ≤ j ∧ j < 25) → V j = V j := fun _ _ => rfl
  obtain ⟨m10, m11, m12, m13, m14, m15, m16, m17, m18, m19, m20, m21, m22, m23, m24⟩ := id hM
  have fl_53 := hts (.fieldLink RX4 53 "RosterPayModel" "thrown" "I") (by decide +kernel)
  have in_X4 : ∀ w ∈ u_ws RX4 TX4 18, w ∈ wsX4_excess := by decide +kernel
  have hl := lv_entry ([.ref (α (10)), .int (y), .int (x)]) (n := 4) (Nat.le_of_ble_eq_true rfl)
  rw [lg_entry_eq]
  generalize (lg_sl ([.ref (α (10)), .int (y), .int (x)]) ++ List.replicate (4 - (lg_sl ([.ref (α (10)), .int (y), .int (x)])).length) Slot.unset).toArray = ls at hl ⊢
  have hl : lv_has ls 4 [(0, .ref (α (10))), (1, .int (y)), (2, .int (x))] := hl
  refine lv_aload_n hx hb dX4_excess_0 rfl (lv_at hl 0 rfl) ?_
  refine lv_aload_n hx hb dX4_excess_1 rfl (lv_at hl 0 rfl) ?_
  refine lv_iload_n hx hb dX4_excess_2 rfl (lv_at hl 1 rfl) ?_
  refine mcallVi hw (m10) rfl rfl ⟨hx, hb, hml, hown, hts⟩ (c_X4_isWorker hM (y)) (cwV 1 hts gX4_excess_X4_isWorker rfl rfl rfl (by decide +kernel) ⟨Nat.le_of_ble_eq_true rfl, Nat.le_of_ble_eq_true rfl⟩) rfl hl.1 rfl (Nat.le_of_ble_eq_true rfl) dX4_excess_3 ⟨Nat.le_of_ble_eq_true rfl, Nat.le_of_ble_eq_true rfl⟩ ?_
  refine mif_neB (tgt := 13) hx hb dX4_excess_6 (by decide) (fun c1 => ?_) (fun z => absurd (hy) z)
  refine lv_iload_n hx hb dX4_excess_13 rfl (lv_at hl 2 rfl) ?_
  refine lv_iconst (v := (0)) hx hb dX4_excess_14 (by decide) ?_
  refine lv_bipush (v := (12)) hx hb dX4_excess_15 (by decide) ?_
  refine mcallSi hw ⟨hx, hb, hml, hown, hts⟩ (c_X4_isIn (x) (0) (12)) (va_cwS 3 hts gX4_excess_X4_isIn rfl rfl rfl (by decide +kernel) ⟨Nat.le_of_ble_eq_true rfl, Nat.le_of_ble_eq_true rfl⟩) rfl hl.1 rfl (Nat.le_of_ble_eq_true rfl) dX4_excess_17 ⟨Nat.le_of_ble_eq_true rfl, Nat.le_of_ble_eq_true rfl⟩ ?_
  refine mif_eqB (tgt := 27) hx hb dX4_excess_20 (by decide) (fun c2 => ?_) (fun z => absurd z (hbad))
  refine lv_iconst (v := (2)) hx hb dX4_excess_27 (by decide) ?_
  refine mput (C := RX4) (T := TX4) (N := 18) (ci := 5) hx hb hts in_X4 tyX4 tyX4_ok nmX4 hown hw hS (m10) rfl 17 (by decide) fl_53 rfl rfl rfl (Nat.le_of_ble_eq_true rfl) dX4_excess_28 (fun H locs hw hS => ?_)
  obtain ⟨V1, hV1⟩ : ∃ z, z = vup V 10 (mobj α (nr) (nw) (ns) (2)) := ⟨_, rfl⟩
  have hw : mW G V1 α s H := by rw [hV1]; exact hw
  have hM : mM G V1 α f (nr) (nw) (ns) (2) := by rw [hV1]; exact hM.obj _ _ _ _
  have hO : ∀ j, ¬ (10 ≤ j ∧ j < 25) → V1 j = V j := fun j hj => (show V1 j = V j by rw [hV1]; exact vup_n _ _ (by omega)).trans (hO j hj)
  obtain ⟨m10, m11, m12, m13, m14, m15, m16, m17, m18, m19, m20, m21, m22, m23, m24⟩ := id hM
  refine lv_aload_n hx hb dX4_excess_31 rfl (lv_at hl 0 rfl) ?_
  refine mget (C := RX4) (T := TX4) (N := 18) (ci := 5) hx hb hts in_X4 hown hw (m10) rfl 17 (by decide) fl_53 rfl dX4_excess_32 ?_
  refine lv_if_le (tgt := 42) hx hb dX4_excess_35 (by decide) (fun z => absurd z ((by decide))) (fun c3 => ?_)
  refine lv_iconst (v := (0)) hx hb dX4_excess_38 (by decide) ?_
  refine lv_goto (tgt := 57) hx hb dX4_excess_39 (by decide) ?_
  refine lv_istore_n (lv' := [(3, .int (0)), (0, .ref (α (10))), (1, .int (y)), (2, .int (x))]) hx hb dX4_excess_57 rfl hl (by decide) rfl (fun ls hl => ?_)
  refine lv_iload_n hx hb dX4_excess_58 rfl (lv_at hl 0 rfl) ?_
  refine lv_if_le (tgt := 66) hx hb dX4_excess_59 (by decide) (fun c4 => ?_) (fun z => absurd ((by decide)) z)
  refine lv_iconst (v := (0)) hx hb dX4_excess_66 (by decide) ?_
  exact W.iret (v := 0) hx hb hr (fun t ht hW => ⟨⟨_, (V1, α), rfl, ⟨rfl, hM, hO, rfl⟩, by show mH G V1 α t.heap; rw [ht]; exact hw.2.2⟩, hS.F ht⟩) hS.2.2 dX4_excess_67

set_option maxHeartbeats 4000000 in
set_option maxRecDepth 100000 in
theorem c_X4_thrown {l : Launch} {G : mG} {V : mV} {α : Nat → Nat} {f : sT} {nr nw ns : Nat} {th : Int32} (hM : mM G V α f nr nw ns th)  : Met l yX4_thrown wsX4_thrown ({ frames := 0, cells := 0, slots := 0, locals := 0 }) (va_Pc [.ref (α (10))] (fun U => mW G V α U U.heap)) (vp_Si (fun r9 => r9 = th)) 0 0 (fun _ => False) := by
  refine Met.ofW (cc := cX4_thrown) (maxL := 1) (ret := (some .int)) (by decide) rfl ?_
  intro p e s m args below meth c s₁ B hml hv
  obtain ⟨rfl, hw⟩ := hv
  have hx := B.exec
  have hb := B.bytes
  have hr := B.returns
  have hts := atoms_spec (ws := wsX4_thrown) B.pre
  have hown : s.vm.findClass RX4 = some m.cls := findClass_of_methodNamed B.named
  have hlocks := B.notSynchronized
  obtain ⟨m10, m11, m12, m13, m14, m15, m16, m17, m18, m19, m20, m21, m22, m23, m24⟩ := id hM
  have fl_53 := hts (.fieldLink RX4 53 "RosterPayModel" "thrown" "I") (by decide +kernel)
  have in_X4 : ∀ w ∈ u_ws RX4 TX4 18, w ∈ wsX4_thrown := by decide +kernel
  have hl := lv_entry ([.ref (α (10))]) (n := 1) (Nat.le_of_ble_eq_true rfl)
  rw [lg_entry_eq]
  generalize (lg_sl ([.ref (α (10))]) ++ List.replicate (1 - (lg_sl ([.ref (α (10))])).length) Slot.unset).toArray = ls at hl ⊢
  have hl : lv_has ls 1 [(0, .ref (α (10)))] := hl
  refine lv_aload_n hx hb dX4_thrown_0 rfl (lv_at hl 0 rfl) ?_
  refine mget (C := RX4) (T := TX4) (N := 18) (ci := 5) hx hb hts in_X4 hown hw (m10) rfl 17 (by decide) fl_53 rfl dX4_thrown_1 ?_
  exact W.iret (v := th) hx hb hr (fun t ht hW => ⟨_, rfl, rfl, ht⟩) (fun _ h => absurd h List.not_mem_nil) dX4_thrown_4
