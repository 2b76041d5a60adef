set_option maxHeartbeats 4000000 in
set_option maxRecDepth 100000 in
theorem c_X4_setBase {l : Launch} {G : mG} {V : mV} {α : Nat → Nat} {f : sT} {nr nw ns : Nat} {th : Int32} (hM : mM G V α f nr nw ns th) (k : Nat) (hk : k < 4) (x : Int32) (hx1 : inn x 1 10000) : Met l yX4_setBase wsX4_setBase ({ frames := 1, cells := 0, slots := 0, locals := 22 }) (va_Pc [.ref (α (10)), .int (nI (k)), .int (x)] (fun U => mW G V α U U.heap)) (va_Qi (fun (r9 : Int32) (u : mV × (Nat → Nat)) => f 0 k = r9 ∧ mQ G V α u (u2 f 0 k x) nr nw ns 0) (fun u t => mH G u.1 u.2 t.heap) (mfree G)) 0 0 (mfree G) := by
  refine Met.ofW (cc := cX4_setBase) (maxL := 4) (ret := (some .int)) (by decide) rfl ?_
  intro p e s m args below meth c s₁ B hml hv
  obtain ⟨rfl, hw⟩ := hv
  have hx := B.exec
  have hb := B.bytes
  have hr := B.returns
  have hts := atoms_spec (ws := wsX4_setBase) B.pre
  have hown : s.vm.findClass RX4 = some m.cls := findClass_of_methodNamed B.named
  have hlocks := B.notSynchronized
  have hS : va_S (mfree G) s.heap s.heap [] := va_S.rf
  have hO : ∀ j, ¬ (10 ≤ j ∧ j < 25) → V j = V j := fun _ _ => rfl
  obtain ⟨m10, m11, m12, m13, m14, m15, m16, m17, m18, m19, m20, m21, m22, m23, m24⟩ := id hM
  have fl_53 := hts (.fieldLink RX4 53 "RosterPayModel" "thrown" "I") (by decide +kernel)
  have in_X4 : ∀ w ∈ u_ws RX4 TX4 18, w ∈ wsX4_setBase := by decide +kernel
  have fl_7 := hts (.fieldLink RX4 7 "RosterPayModel" "base" "[I") (by decide +kernel)
  have hl := lv_entry ([.ref (α (10)), .int (nI (k)), .int (x)]) (n := 4) (Nat.le_of_ble_eq_true rfl)
  rw [lg_entry_eq]
  generalize (lg_sl ([.ref (α (10)), .int (nI (k)), .int (x)]) ++ List.replicate (4 - (lg_sl ([.ref (α (10)), .int (nI (k)), .int (x)])).length) Slot.unset).toArray = ls at hl ⊢
  have hl : lv_has ls 4 [(0, .ref (α (10))), (1, .int (nI (k))), (2, .int (x))] := hl
  refine lv_aload_n hx hb dX4_setBase_0 rfl (lv_at hl 0 rfl) ?_
  refine lv_iload_n hx hb dX4_setBase_1 rfl (lv_at hl 1 rfl) ?_
  refine lv_iconst (v := (0)) hx hb dX4_setBase_2 (by decide) ?_
  refine lv_iconst (v := (3)) hx hb dX4_setBase_3 (by decide) ?_
  refine mcallSi hw ⟨hx, hb, hml, hown, hts⟩ (c_X4_isIn (nI (k)) (0) (3)) (va_cwS 3 hts gX4_setBase_X4_isIn rfl rfl rfl (by decide +kernel) ⟨Nat.le_of_ble_eq_true rfl, Nat.le_of_ble_eq_true rfl⟩) rfl hl.1 rfl (Nat.le_of_ble_eq_true rfl) dX4_setBase_4 ⟨Nat.le_of_ble_eq_true rfl, Nat.le_of_ble_eq_true rfl⟩ ?_
  refine mif_eqB (tgt := 25) hx hb dX4_setBase_7 (by decide) (fun z => absurd (inn_3 hk) z) (fun c1 => ?_)
  refine lv_iload_n hx hb dX4_setBase_10 rfl (lv_at hl 2 rfl) ?_
  refine lv_iconst (v := (1)) hx hb dX4_setBase_11 (by decide) ?_
  refine lv_sipush (v := (10000)) hx hb dX4_setBase_12 (by decide) ?_
  refine mcallSi hw ⟨hx, hb, hml, hown, hts⟩ (c_X4_isIn (x) (1) (10000)) (va_cwS 3 hts gX4_setBase_X4_isIn rfl rfl rfl (by decide +kernel) ⟨Nat.le_of_ble_eq_true rfl, Nat.le_of_ble_eq_true rfl⟩) rfl hl.1 rfl (Nat.le_of_ble_eq_true rfl) dX4_setBase_15 ⟨Nat.le_of_ble_eq_true rfl, Nat.le_of_ble_eq_true rfl⟩ ?_
  refine mif_eqB (tgt := 25) hx hb dX4_setBase_18 (by decide) (fun z => absurd (hx1) z) (fun c2 => ?_)
  refine lv_iconst (v := (0)) hx hb dX4_setBase_21 (by decide) ?_
  refine lv_goto (tgt := 26) hx hb dX4_setBase_22 (by decide) ?_
  refine mput (C := RX4) (T := TX4) (N := 18) (ci := 5) hx hb hts in_X4 tyX4 tyX4_ok nmX4 hown hw hS (m10) rfl 17 (by decide) fl_53 rfl rfl rfl (Nat.le_of_ble_eq_true rfl) dX4_setBase_26 (fun H locs hw hS => ?_)
  obtain ⟨V1, hV1⟩ : ∃ z, z = vup V 10 (mobj α (nr) (nw) (ns) (0)) := ⟨_, rfl⟩
  have hw : mW G V1 α s H := by rw [hV1]; exact hw
  have hM : mM G V1 α f (nr) (nw) (ns) (0) := by rw [hV1]; exact hM.obj _ _ _ _
  have hO : ∀ j, ¬ (10 ≤ j ∧ j < 25) → V1 j = V j := fun j hj => (show V1 j = V j by rw [hV1]; exact vup_n _ _ (by omega)).trans (hO j hj)
  obtain ⟨m10, m11, m12, m13, m14, m15, m16, m17, m18, m19, m20, m21, m22, m23, m24⟩ := id hM
  refine lv_aload_n hx hb dX4_setBase_29 rfl (lv_at hl 0 rfl) ?_
  refine mget (C := RX4) (T := TX4) (N := 18) (ci := 5) hx hb hts in_X4 hown hw (m10) rfl 17 (by decide) fl_53 rfl dX4_setBase_30 ?_
  refine lv_if_le (tgt := 38) hx hb dX4_setBase_33 (by decide) (fun c3 => ?_) (fun z => absurd ((by decide)) z)
  refine lv_aload_n hx hb dX4_setBase_38 rfl (lv_at hl 0 rfl) ?_
  refine mget (C := RX4) (T := TX4) (N := 18) (ci := 5) hx hb hts in_X4 hown hw (m10) rfl 0 (by decide) fl_7 rfl dX4_setBase_39 ?_
  refine lv_iload_n hx hb dX4_setBase_42 rfl (lv_at hl 1 rfl) ?_
  refine miald' (k := k) hx hb hw (m11) (rfl) (by omega) (by decide) dX4_setBase_43 ?_
  refine lv_istore_n (lv' := [(3, .int (f 0 (k))), (0, .ref (α (10))), (1, .int (nI (k))), (2, .int (x))]) hx hb dX4_setBase_44 rfl hl (by decide) rfl (fun ls hl => ?_)
  refine lv_aload_n hx hb dX4_setBase_45 rfl (lv_at hl 1 rfl) ?_
  refine mget (C := RX4) (T := TX4) (N := 18) (ci := 5) hx hb hts in_X4 hown hw (m10) rfl 0 (by decide) fl_7 rfl dX4_setBase_46 ?_
  refine lv_iload_n hx hb dX4_setBase_49 rfl (lv_at hl 2 rfl) ?_
  refine lv_iload_n hx hb dX4_setBase_50 rfl (lv_at hl 3 rfl) ?_
  refine miast' (k := k) hx hb hw hS (m11) (rfl) (by omega) (by decide) dX4_setBase_51 (fun H locs hw hS => ?_)
  obtain ⟨V2, hV2⟩ : ∃ z, z = vup V1 11 (.inl (G.2.2.1.1, 4, .inl (upd (f 0) (k) (x)))) := ⟨_, rfl⟩
  have hw : mW G V2 α s H := by rw [hV2]; exact hw
  have hM : mM G V2 α (u2 f 0 (k) (x)) (nr) (nw) (ns) (0) := by rw [hV2]; exact hM.a0 _ _
  have hO : ∀ j, ¬ (10 ≤ j ∧ j < 25) → V2 j = V j := fun j hj => (show V2 j = V1 j by rw [hV2]; exact vup_n _ _ (by omega)).trans (hO j hj)
  obtain ⟨m10, m11, m12, m13, m14, m15, m16, m17, m18, m19, m20, m21, m22, m23, m24⟩ := id hM
  refine lv_iload_n hx hb dX4_setBase_52 rfl (lv_at hl 0 rfl) ?_
  exact W.iret (v := f 0 (k)) hx hb hr (fun t ht hW => ⟨⟨_, (V2, α), rfl, ⟨rfl, hM, hO, rfl⟩, by show mH G V2 α t.heap; rw [ht]; exact hw.2.2⟩, hS.F ht⟩) hS.2.2 dX4_setBase_53

set_option maxHeartbeats 4000000 in
set_option maxRecDepth 100000 in
theorem c_X4_setBase_1 {l : Launch} {G : mG} {V : mV} {α : Nat → Nat} {f : sT} {nr nw ns : Nat} {th : Int32} (hM : mM G V α f nr nw ns th) (y x : Int32) (hbad : ¬ (inn y 0 3 ∧ inn x 1 10000)) : Met l yX4_setBase wsX4_setBase ({ frames := 1, cells := 0, slots := 0, locals := 22 }) (va_Pc [.ref (α (10)), .int (y), .int (x)] (fun U => mW G V α U U.heap)) (va_Qi (fun (r9 : Int32) (u : mV × (Nat → Nat)) => 0 = r9 ∧ mQ G V α u f nr nw ns 1) (fun u t => mH G u.1 u.2 t.heap) (mfree G)) 0 0 (mfree G) := by
  refine Met.ofW (cc := cX4_setBase) (maxL := 4) (ret := (some .int)) (by decide) rfl ?_
  intro p e s m args below meth c s₁ B hml hv
  obtain ⟨rfl, hw⟩ := hv
  have hx := B.exec
  have hb := B.bytes
  have hr := B.returns
  have hts := atoms_spec (ws := wsX4_setBase) B.pre
  have hown : s.vm.findClass RX4 = some m.cls := findClass_of_methodNamed B.named
  have hlocks := B.notSynchronized
  have hS : va_S (mfree G) s.heap s.heap [] := va_S.rf
  have hO : ∀ j, ¬ (10 ≤ j ∧ j < 25) → V j = V j := fun _ _ => rfl
  obtain ⟨m10, m11, m12, m13, m14, m15, m16, m17, m18, m19, m20, m21, m22, m23, m24⟩ := id hM
  have fl_53 := hts (.fieldLink RX4 53 "RosterPayModel" "thrown" "I") (by decide +kernel)
  have in_X4 : ∀ w ∈ u_ws RX4 TX4 18, w ∈ wsX4_setBase := by decide +kernel
  have hl := lv_entry ([.ref (α (10)), .int (y), .int (x)]) (n := 4) (Nat.le_of_ble_eq_true rfl)
  rw [lg_entry_eq]
  generalize (lg_sl ([.ref (α (10)), .int (y), .int (x)]) ++ List.replicate (4 - (lg_sl ([.ref (α (10)), .int (y), .int (x)])).length) Slot.unset).toArray = ls at hl ⊢
  have hl : lv_has ls 4 [(0, .ref (α (10))), (1, .int (y)), (2, .int (x))] := hl
  refine lv_aload_n hx hb dX4_setBase_0 rfl (lv_at hl 0 rfl) ?_
  refine lv_iload_n hx hb dX4_setBase_1 rfl (lv_at hl 1 rfl) ?_
  refine lv_iconst (v := (0)) hx hb dX4_setBase_2 (by decide) ?_
  refine lv_iconst (v := (3)) hx hb dX4_setBase_3 (by decide) ?_
  refine mcallSi hw ⟨hx, hb, hml, hown, hts⟩ (c_X4_isIn (y) (0) (3)) (va_cwS 3 hts gX4_setBase_X4_isIn rfl rfl rfl (by decide +kernel) ⟨Nat.le_of_ble_eq_true rfl, Nat.le_of_ble_eq_true rfl⟩) rfl hl.1 rfl (Nat.le_of_ble_eq_true rfl) dX4_setBase_4 ⟨Nat.le_of_ble_eq_true rfl, Nat.le_of_ble_eq_true rfl⟩ ?_
  refine mif_eqB (tgt := 25) hx hb dX4_setBase_7 (by decide) (fun c1 => ?_) (fun c1 => ?_)
  ·
    refine lv_iconst (v := (1)) hx hb dX4_setBase_25 (by decide) ?_
    refine mput (C := RX4) (T := TX4) (N := 18) (ci := 5) hx hb hts in_X4 tyX4 tyX4_ok nmX4 hown hw hS (m10) rfl 17 (by decide) fl_53 rfl rfl rfl (Nat.le_of_ble_eq_true rfl) dX4_setBase_26 (fun H locs hw hS => ?_)
    obtain ⟨V1, hV1⟩ : ∃ z, z = vup V 10 (mobj α (nr) (nw) (ns) (1)) := ⟨_, rfl⟩
    have hw : mW G V1 α s H := by rw [hV1]; exact hw
    have hM : mM G V1 α f (nr) (nw) (ns) (1) := by rw [hV1]; exact hM.obj _ _ _ _
    have hO : ∀ j, ¬ (10 ≤ j ∧ j < 25) → V1 j = V j := fun j hj => (show V1 j = V j by rw [hV1]; exact vup_n _ _ (by omega)).trans (hO j hj)
    obtain ⟨m10, m11, m12, m13, m14, m15, m16, m17, m18, m19, m20, m21, m22, m23, m24⟩ := id hM
    refine lv_aload_n hx hb dX4_setBase_29 rfl (lv_at hl 0 rfl) ?_
    refine mget (C := RX4) (T := TX4) (N := 18) (ci := 5) hx hb hts in_X4 hown hw (m10) rfl 17 (by decide) fl_53 rfl dX4_setBase_30 ?_
    refine lv_if_le (tgt := 38) hx hb dX4_setBase_33 (by decide) (fun z => absurd z ((by decide))) (fun c2 => ?_)
    refine lv_iconst (v := (0)) hx hb dX4_setBase_36 (by decide) ?_
    exact W.iret (v := 0) hx hb hr (fun t ht hW => ⟨⟨_, (V1, α), rfl, ⟨rfl, hM, hO, rfl⟩, by show mH G V1 α t.heap; rw [ht]; exact hw.2.2⟩, hS.F ht⟩) hS.2.2 dX4_setBase_37
  ·
    refine lv_iload_n hx hb dX4_setBase_10 rfl (lv_at hl 2 rfl) ?_
    refine lv_iconst (v := (1)) hx hb dX4_setBase_11 (by decide) ?_
    refine lv_sipush (v := (10000)) hx hb dX4_setBase_12 (by decide) ?_
    refine mcallSi hw ⟨hx, hb, hml, hown, hts⟩ (c_X4_isIn (x) (1) (10000)) (va_cwS 3 hts gX4_setBase_X4_isIn rfl rfl rfl (by decide +kernel) ⟨Nat.le_of_ble_eq_true rfl, Nat.le_of_ble_eq_true rfl⟩) rfl hl.1 rfl (Nat.le_of_ble_eq_true rfl) dX4_setBase_15 ⟨Nat.le_of_ble_eq_true rfl, Nat.le_of_ble_eq_true rfl⟩ ?_
    refine mif_eqB (tgt := 25) hx hb dX4_setBase_18 (by decide) (fun c3 => ?_) (fun c3 => ?_)
    ·
      refine lv_iconst (v := (1)) hx hb dX4_setBase_25 (by decide) ?_
      refine mput (C := RX4) (T := TX4) (N := 18) (ci := 5) hx hb hts in_X4 tyX4 tyX4_ok nmX4 hown hw hS (m10) rfl 17 (by decide) fl_53 rfl rfl rfl (Nat.le_of_ble_eq_true rfl) dX4_setBase_26 (fun H locs hw hS => ?_)
      obtain ⟨V2, hV2⟩ : ∃ z, z = vup V 10 (mobj α (nr) (nw) (ns) (1)) := ⟨_, rfl⟩
      have hw : mW G V2 α s H := by rw [hV2]; exact hw
      have hM : mM G V2 α f (nr) (nw) (ns) (1) := by rw [hV2]; exact hM.obj _ _ _ _
      have hO : ∀ j, ¬ (10 ≤ j ∧ j < 25) → V2 j = V j := fun j hj => (show V2 j = V j by rw [hV2]; exact vup_n _ _ (by omega)).trans (hO j hj)
      obtain ⟨m10, m11, m12, m13, m14, m15, m16, m17, m18, m19, m20, m21, m22, m23, m24⟩ := id hM
      refine lv_aload_n hx hb dX4_setBase_29 rfl (lv_at hl 0 rfl) ?_
      refine mget (C := RX4) (T := TX4) (N := 18) (ci := 5) hx hb hts in_X4 hown hw (m10) rfl 17 (by decide) fl_53 rfl dX4_setBase_30 ?_
      refine lv_if_le (tgt := 38) hx hb dX4_setBase_33 (by decide) (fun z => absurd z ((by decide))) (fun c4 => ?_)
      refine lv_iconst (v := (0)) hx hb dX4_setBase_36 (by decide) ?_
      exact W.iret (v := 0) hx hb hr (fun t ht hW => ⟨⟨_, (V2, α), rfl, ⟨rfl, hM, hO, rfl⟩, by show mH G V2 α t.heap; rw [ht]; exact hw.2.2⟩, hS.F ht⟩) hS.2.2 dX4_setBase_37
    ·
      exact absurd ⟨c1, c3⟩ hbad
