set_option maxHeartbeats 4000000 in
set_option maxRecDepth 100000 in
theorem c_X4_isIn {l : Launch} {G : mG} {V : mV} {α : Nat → Nat} (x lo hi : Int32)  : Met l yX4_isIn wsX4_isIn ({ frames := 0, cells := 0, slots := 0, locals := 0 }) (va_Pc [.int (x), .int (lo), .int (hi)] (fun U => mW G V α U U.heap)) (vp_Si (fun r9 => r9 = bI (inn x lo hi))) 0 0 (fun _ => False) := by
  refine Met.ofW (cc := cX4_isIn) (maxL := 3) (ret := (some .boolean)) (by decide) rfl ?_
  intro p e s m args below meth c s₁ B hml hv
  obtain ⟨rfl, hw⟩ := hv
  have hx := B.exec
  have hb := B.bytes
  have hr := B.returns
  have hts := atoms_spec (ws := wsX4_isIn) B.pre
  have hown : s.vm.findClass RX4 = some m.cls := findClass_of_methodNamed B.named
  have hlocks := B.notSynchronized
  have hl := lv_entry ([.int (x), .int (lo), .int (hi)]) (n := 3) (Nat.le_of_ble_eq_true rfl)
  rw [lg_entry_eq]
  generalize (lg_sl ([.int (x), .int (lo), .int (hi)]) ++ List.replicate (3 - (lg_sl ([.int (x), .int (lo), .int (hi)])).length) Slot.unset).toArray = ls at hl ⊢
  have hl : lv_has ls 3 [(0, .int (x)), (1, .int (lo)), (2, .int (hi))] := hl
  refine lv_iload_n hx hb dX4_isIn_0 rfl (lv_at hl 0 rfl) ?_
  refine lv_iload_n hx hb dX4_isIn_1 rfl (lv_at hl 1 rfl) ?_
  refine lv_icmp_lt (tgt := 14) hx hb dX4_isIn_2 (by decide) (fun c1 => ?_) (fun c1 => ?_)
  ·
    refine lv_iconst (v := (0)) hx hb dX4_isIn_14 (by decide) ?_
    exact W.zret (v := 0) hx hb hr (rfl) (fun t ht hW => ⟨_, rfl, (bI_f (fun z => (z.1) c1)).symm, ht⟩) (fun _ h => absurd h List.not_mem_nil) dX4_isIn_15
  ·
    refine lv_iload_n hx hb dX4_isIn_5 rfl (lv_at hl 0 rfl) ?_
    refine lv_iload_n hx hb dX4_isIn_6 rfl (lv_at hl 2 rfl) ?_
    refine lv_icmp_gt (tgt := 14) hx hb dX4_isIn_7 (by decide) (fun c2 => ?_) (fun c2 => ?_)
    ·
      refine lv_iconst (v := (0)) hx hb dX4_isIn_14 (by decide) ?_
      exact W.zret (v := 0) hx hb hr (rfl) (fun t ht hW => ⟨_, rfl, (bI_f (fun z => (z.2) c2)).symm, ht⟩) (fun _ h => absurd h List.not_mem_nil) dX4_isIn_15
    ·
      refine lv_iconst (v := (1)) hx hb dX4_isIn_10 (by decide) ?_
      refine lv_goto (tgt := 15) hx hb dX4_isIn_11 (by decide) ?_
      exact W.zret (v := 1) hx hb hr (rfl) (fun t ht hW => ⟨_, rfl, (bI_t ⟨c1, c2⟩).symm, ht⟩) (fun _ h => absurd h List.not_mem_nil) dX4_isIn_15

set_option maxHeartbeats 4000000 in
set_option maxRecDepth 100000 in
theorem c_X4_overtime {l : Launch} {G : mG} {V : mV} {α : Nat → Nat} (q : Int32)  : Met l yX4_overtime wsX4_overtime ({ frames := 0, cells := 0, slots := 0, locals := 0 }) (va_Pc [.int (q)] (fun U => mW G V α U U.heap)) (vp_Si (fun r9 => r9 = s_ovt q)) 0 0 (fun _ => False) := by
  refine Met.ofW (cc := cX4_overtime) (maxL := 1) (ret := (some .int)) (by decide) rfl ?_
  intro p e s m args below meth c s₁ B hml hv
  obtain ⟨rfl, hw⟩ := hv
  have hx := B.exec
  have hb := B.bytes
  have hr := B.returns
  have hts := atoms_spec (ws := wsX4_overtime) B.pre
  have hown : s.vm.findClass RX4 = some m.cls := findClass_of_methodNamed B.named
  have hlocks := B.notSynchronized
  have hl := lv_entry ([.int (q)]) (n := 1) (Nat.le_of_ble_eq_true rfl)
  rw [lg_entry_eq]
  generalize (lg_sl ([.int (q)]) ++ List.replicate (1 - (lg_sl ([.int (q)])).length) Slot.unset).toArray = ls at hl ⊢
  have hl : lv_has ls 1 [(0, .int (q))] := hl
  refine lv_iload_n hx hb dX4_overtime_0 rfl (lv_at hl 0 rfl) ?_
  refine lv_bipush (v := (40)) hx hb dX4_overtime_1 (by decide) ?_
  refine lv_icmp_lt (tgt := 12) hx hb dX4_overtime_3 (by decide) (fun c1 => ?_) (fun c1 => ?_)
  ·
    refine lv_iload_n hx hb dX4_overtime_12 rfl (lv_at hl 0 rfl) ?_
    refine lv_bipush (v := (32)) hx hb dX4_overtime_13 (by decide) ?_
    refine lv_icmp_lt (tgt := 24) hx hb dX4_overtime_15 (by decide) (fun c2 => ?_) (fun c2 => ?_)
    ·
      refine lv_bipush (v := (100)) hx hb dX4_overtime_24 (by decide) ?_
      exact W.iret (v := 100) hx hb hr (fun t ht hW => ⟨_, rfl, (by unfold s_ovt; rw [if_pos c1, if_pos c2]), ht⟩) (fun _ h => absurd h List.not_mem_nil) dX4_overtime_26
    ·
      refine lv_sipush (v := (150)) hx hb dX4_overtime_18 (by decide) ?_
      refine lv_goto (tgt := 26) hx hb dX4_overtime_21 (by decide) ?_
      exact W.iret (v := 150) hx hb hr (fun t ht hW => ⟨_, rfl, (by unfold s_ovt; rw [if_pos c1, if_neg c2]), ht⟩) (fun _ h => absurd h List.not_mem_nil) dX4_overtime_26
  ·
    refine lv_sipush (v := (200)) hx hb dX4_overtime_6 (by decide) ?_
    refine lv_goto (tgt := 26) hx hb dX4_overtime_9 (by decide) ?_
    exact W.iret (v := 200) hx hb hr (fun t ht hW => ⟨_, rfl, (by unfold s_ovt; rw [if_neg c1]), ht⟩) (fun _ h => absurd h List.not_mem_nil) dX4_overtime_26

set_option maxHeartbeats 4000000 in
set_option maxRecDepth 100000 in
theorem c_X4_paid {l : Launch} {G : mG} {V : mV} {α : Nat → Nat} {f : sT} {nr nw ns : Nat} {th : Int32} (hM : mM G V α f nr nw ns th) (si : Nat) (hs : si < 80)  : Met l yX4_paid wsX4_paid ({ frames := 0, cells := 0, slots := 0, locals := 0 }) (va_Pc [.ref (α (10)), .int (nI (si))] (fun U => mW G V α U U.heap)) (vp_Si (fun r9 => r9 = s_paid f si)) 0 0 (fun _ => False) := by
  refine Met.ofW (cc := cX4_paid) (maxL := 2) (ret := (some .int)) (by decide) rfl ?_
  intro p e s m args below meth c s₁ B hml hv
  obtain ⟨rfl, hw⟩ := hv
  have hx := B.exec
  have hb := B.bytes
  have hr := B.returns
  have hts := atoms_spec (ws := wsX4_paid) B.pre
  have hown : s.vm.findClass RX4 = some m.cls := findClass_of_methodNamed B.named
  have hlocks := B.notSynchronized
  obtain ⟨m10, m11, m12, m13, m14, m15, m16, m17, m18, m19, m20, m21, m22, m23, m24⟩ := id hM
  have fl_50 := hts (.fieldLink RX4 50 "RosterPayModel" "gone" "[Z") (by decide +kernel)
  have in_X4 : ∀ w ∈ u_ws RX4 TX4 18, w ∈ wsX4_paid := by decide +kernel
  have fl_44 := hts (.fieldLink RX4 44 "RosterPayModel" "length" "[I") (by decide +kernel)
  have hl := lv_entry ([.ref (α (10)), .int (nI (si))]) (n := 2) (Nat.le_of_ble_eq_true rfl)
  rw [lg_entry_eq]
  generalize (lg_sl ([.ref (α (10)), .int (nI (si))]) ++ List.replicate (2 - (lg_sl ([.ref (α (10)), .int (nI (si))])).length) Slot.unset).toArray = ls at hl ⊢
  have hl : lv_has ls 2 [(0, .ref (α (10))), (1, .int (nI (si)))] := hl
  refine lv_aload_n hx hb dX4_paid_0 rfl (lv_at hl 0 rfl) ?_
  refine mget (C := RX4) (T := TX4) (N := 18) (ci := 5) hx hb hts in_X4 hown hw (m10) rfl 16 (by decide) fl_50 rfl dX4_paid_1 ?_
  refine lv_iload_n hx hb dX4_paid_4 rfl (lv_at hl 1 rfl) ?_
  refine mzald' (k := si) hx hb hw (m24) (rfl) (by omega) (by decide) dX4_paid_5 ?_
  refine lv_if_eq (tgt := 13) hx hb dX4_paid_6 (by decide) (fun c1 => ?_) (fun c1 => ?_)
  ·
    refine lv_aload_n hx hb dX4_paid_13 rfl (lv_at hl 0 rfl) ?_
    refine mget (C := RX4) (T := TX4) (N := 18) (ci := 5) hx hb hts in_X4 hown hw (m10) rfl 14 (by decide) fl_44 rfl dX4_paid_14 ?_
    refine lv_iload_n hx hb dX4_paid_17 rfl (lv_at hl 1 rfl) ?_
    refine miald' (k := si) hx hb hw (m22) (rfl) (by omega) (by decide) dX4_paid_18 ?_
    refine lv_bipush (v := (12)) hx hb dX4_paid_19 (by decide) ?_
    refine lv_icmp_ge (tgt := 29) hx hb dX4_paid_21 (by decide) (fun c2 => ?_) (fun c2 => ?_)
    ·
      refine lv_aload_n hx hb dX4_paid_29 rfl (lv_at hl 0 rfl) ?_
      refine mget (C := RX4) (T := TX4) (N := 18) (ci := 5) hx hb hts in_X4 hown hw (m10) rfl 14 (by decide) fl_44 rfl dX4_paid_30 ?_
      refine lv_iload_n hx hb dX4_paid_33 rfl (lv_at hl 1 rfl) ?_
      refine miald' (k := si) hx hb hw (m22) (rfl) (by omega) (by decide) dX4_paid_34 ?_
      exact W.iret (v := f 11 (si)) hx hb hr (fun t ht hW => ⟨_, rfl, (by unfold s_paid; rw [if_pos c1, if_pos c2]), ht⟩) (fun _ h => absurd h List.not_mem_nil) dX4_paid_35
    ·
      refine lv_bipush (v := (12)) hx hb dX4_paid_24 (by decide) ?_
      refine lv_goto (tgt := 35) hx hb dX4_paid_26 (by decide) ?_
      exact W.iret (v := 12) hx hb hr (fun t ht hW => ⟨_, rfl, (by unfold s_paid; rw [if_pos c1, if_neg c2]), ht⟩) (fun _ h => absurd h List.not_mem_nil) dX4_paid_35
  ·
    refine lv_iconst (v := (0)) hx hb dX4_paid_9 (by decide) ?_
    refine lv_goto (tgt := 35) hx hb dX4_paid_10 (by decide) ?_
    exact W.iret (v := 0) hx hb hr (fun t ht hW => ⟨_, rfl, (by unfold s_paid; rw [if_neg c1]), ht⟩) (fun _ h => absurd h List.not_mem_nil) dX4_paid_35

set_option maxHeartbeats 4000000 in
set_option maxRecDepth 100000 in
theorem c_X4_lacks {l : Launch} {G : mG} {V : mV} {α : Nat → Nat} {f : sT} {nr nw ns : Nat} {th : Int32} (hM : mM G V α f nr nw ns th) (si : Nat) (hs : si < 80)  : Met l yX4_lacks wsX4_lacks ({ frames := 0, cells := 0, slots := 0, locals := 0 }) (va_Pc [.ref (α (10)), .int (nI (si))] (fun U => mW G V α U U.heap)) (vp_Si (fun r9 => r9 = s_lacks f si)) 0 0 (fun _ => False) := by
  refine Met.ofW (cc := cX4_lacks) (maxL := 3) (ret := (some .int)) (by decide) rfl ?_
  intro p e s m args below meth c s₁ B hml hv
  obtain ⟨rfl, hw⟩ := hv
  have hx := B.exec
  have hb := B.bytes
  have hr := B.returns
  have hts := atoms_spec (ws := wsX4_lacks) B.pre
  have hown : s.vm.findClass RX4 = some m.cls := findClass_of_methodNamed B.named
  have hlocks := B.notSynchronized
  obtain ⟨m10, m11, m12, m13, m14, m15, m16, m17, m18, m19, m20, m21, m22, m23, m24⟩ := id hM
  have fl_50 := hts (.fieldLink RX4 50 "RosterPayModel" "gone" "[Z") (by decide +kernel)
  have in_X4 : ∀ w ∈ u_ws RX4 TX4 18, w ∈ wsX4_lacks := by decide +kernel
  have fl_47 := hts (.fieldLink RX4 47 "RosterPayModel" "taken" "[I") (by decide +kernel)
  have fl_44 := hts (.fieldLink RX4 44 "RosterPayModel" "length" "[I") (by decide +kernel)
  have hl := lv_entry ([.ref (α (10)), .int (nI (si))]) (n := 3) (Nat.le_of_ble_eq_true rfl)
  rw [lg_entry_eq]
  generalize (lg_sl ([.ref (α (10)), .int (nI (si))]) ++ List.replicate (3 - (lg_sl ([.ref (α (10)), .int (nI (si))])).length) Slot.unset).toArray = ls at hl ⊢
  have hl : lv_has ls 3 [(0, .ref (α (10))), (1, .int (nI (si)))] := hl
  refine mjoin (E := s_owed (f 11 si)) (pcJ := 31) (st := []) ?_ (fun J1 => ?_)
  ·
    refine lv_istore_n (lv' := [(2, .int (s_owed (f 11 si))), (0, .ref (α (10))), (1, .int (nI (si)))]) hx hb dX4_lacks_31 rfl hl (by decide) rfl (fun ls hl => ?_)
    refine lv_aload_n hx hb dX4_lacks_32 rfl (lv_at hl 1 rfl) ?_
    refine mget (C := RX4) (T := TX4) (N := 18) (ci := 5) hx hb hts in_X4 hown hw (m10) rfl 16 (by decide) fl_50 rfl dX4_lacks_33 ?_
    refine lv_iload_n hx hb dX4_lacks_36 rfl (lv_at hl 2 rfl) ?_
    refine mzald' (k := si) hx hb hw (m24) (rfl) (by omega) (by decide) dX4_lacks_37 ?_
    refine lv_if_ne (tgt := 51) hx hb dX4_lacks_38 (by decide) (fun c2 => ?_) (fun c2 => ?_)
    ·
      refine lv_iconst (v := (0)) hx hb dX4_lacks_51 (by decide) ?_
      refine lv_goto (tgt := 63) hx hb dX4_lacks_52 (by decide) ?_
      exact W.iret (v := 0) hx hb hr (fun t ht hW => ⟨_, rfl, (by unfold s_lacks; rw [if_neg c2]), ht⟩) (fun _ h => absurd h List.not_mem_nil) dX4_lacks_63
    ·
      refine lv_iload_n hx hb dX4_lacks_41 rfl (lv_at hl 0 rfl) ?_
      refine lv_aload_n hx hb dX4_lacks_42 rfl (lv_at hl 1 rfl) ?_
      refine mget (C := RX4) (T := TX4) (N := 18) (ci := 5) hx hb hts in_X4 hown hw (m10) rfl 15 (by decide) fl_47 rfl dX4_lacks_43 ?_
      refine lv_iload_n hx hb dX4_lacks_46 rfl (lv_at hl 2 rfl) ?_
      refine miald' (k := si) hx hb hw (m23) (rfl) (by omega) (by decide) dX4_lacks_47 ?_
      refine lv_icmp_ge (tgt := 55) hx hb dX4_lacks_48 (by decide) (fun c3 => ?_) (fun c3 => ?_)
      ·
        refine lv_iload_n hx hb dX4_lacks_55 rfl (lv_at hl 0 rfl) ?_
        refine lv_aload_n hx hb dX4_lacks_56 rfl (lv_at hl 1 rfl) ?_
        refine mget (C := RX4) (T := TX4) (N := 18) (ci := 5) hx hb hts in_X4 hown hw (m10) rfl 15 (by decide) fl_47 rfl dX4_lacks_57 ?_
        refine lv_iload_n hx hb dX4_lacks_60 rfl (lv_at hl 2 rfl) ?_
        refine miald' (k := si) hx hb hw (m23) (rfl) (by omega) (by decide) dX4_lacks_61 ?_
        refine lv_isub hx hb dX4_lacks_62 ?_
        exact W.iret (v := (s_owed (f 11 si) - f 12 (si))) hx hb hr (fun t ht hW => ⟨_, rfl, (by unfold s_lacks; rw [if_pos c2, if_pos c3]), ht⟩) (fun _ h => absurd h List.not_mem_nil) dX4_lacks_63
      ·
        refine lv_iconst (v := (0)) hx hb dX4_lacks_51 (by decide) ?_
        refine lv_goto (tgt := 63) hx hb dX4_lacks_52 (by decide) ?_
        exact W.iret (v := 0) hx hb hr (fun t ht hW => ⟨_, rfl, (by unfold s_lacks; rw [if_pos c2, if_neg c3]), ht⟩) (fun _ h => absurd h List.not_mem_nil) dX4_lacks_63
  ·
    refine lv_aload_n hx hb dX4_lacks_0 rfl (lv_at hl 0 rfl) ?_
    refine mget (C := RX4) (T := TX4) (N := 18) (ci := 5) hx hb hts in_X4 hown hw (m10) rfl 14 (by decide) fl_44 rfl dX4_lacks_1 ?_
    refine lv_iload_n hx hb dX4_lacks_4 rfl (lv_at hl 1 rfl) ?_
    refine miald' (k := si) hx hb hw (m22) (rfl) (by omega) (by decide) dX4_lacks_5 ?_
    refine lv_bipush (v := (40)) hx hb dX4_lacks_6 (by decide) ?_
    refine lv_icmp_lt (tgt := 15) hx hb dX4_lacks_8 (by decide) (fun c4 => ?_) (fun c4 => ?_)
    ·
      refine lv_aload_n hx hb dX4_lacks_15 rfl (lv_at hl 0 rfl) ?_
      refine mget (C := RX4) (T := TX4) (N := 18) (ci := 5) hx hb hts in_X4 hown hw (m10) rfl 14 (by decide) fl_44 rfl dX4_lacks_16 ?_
      refine lv_iload_n hx hb dX4_lacks_19 rfl (lv_at hl 1 rfl) ?_
      refine miald' (k := si) hx hb hw (m22) (rfl) (by omega) (by decide) dX4_lacks_20 ?_
      refine lv_bipush (v := (20)) hx hb dX4_lacks_21 (by decide) ?_
      refine lv_icmp_lt (tgt := 30) hx hb dX4_lacks_23 (by decide) (fun c5 => ?_) (fun c5 => ?_)
      ·
        refine lv_iconst (v := (0)) hx hb dX4_lacks_30 (by decide) ?_
        exact J1 _ ((by unfold s_owed; rw [if_pos c4, if_pos c5]))
      ·
        refine lv_iconst (v := (1)) hx hb dX4_lacks_26 (by decide) ?_
        refine lv_goto (tgt := 31) hx hb dX4_lacks_27 (by decide) ?_
        exact J1 _ ((by unfold s_owed; rw [if_pos c4, if_neg c5]))
    ·
      refine lv_iconst (v := (2)) hx hb dX4_lacks_11 (by decide) ?_
      refine lv_goto (tgt := 31) hx hb dX4_lacks_12 (by decide) ?_
      exact J1 _ ((by unfold s_owed; rw [if_neg c4]))

set_option maxHeartbeats 4000000 in
set_option maxRecDepth 100000 in
theorem c_X4_applies {l : Launch} {G : mG} {V : mV} {α : Nat → Nat} {f : sT} {nr nw ns : Nat} {th : Int32} (hM : mM G V α f nr nw ns th) (k n : Nat) (hk : k < 16) (hn : n < 34944) (r : Int32)  : Met l yX4_applies wsX4_applies ({ frames := 0, cells := 0, slots := 0, locals := 0 }) (va_Pc [.ref (α (10)), .int (nI (k)), .int (nI (n)), .int (r)] (fun U => mW G V α U U.heap)) (vp_Si (fun r9 => r9 = bI (s_ap f k n r))) 0 0 (fun _ => False) := by
  refine Met.ofW (cc := cX4_applies) (maxL := 7) (ret := (some .boolean)) (by decide) rfl ?_
  intro p e s m args below meth c s₁ B hml hv
  obtain ⟨rfl, hw⟩ := hv
  have hx := B.exec
  have hb := B.bytes
  have hr := B.returns
  have hts := atoms_spec (ws := wsX4_applies) B.pre
  have hown : s.vm.findClass RX4 = some m.cls := findClass_of_methodNamed B.named
  have hlocks := B.notSynchronized
  obtain ⟨m10, m11, m12, m13, m14, m15, m16, m17, m18, m19, m20, m21, m22, m23, m24⟩ := id hM
  have fl_28 := hts (.fieldLink RX4 28 "RosterPayModel" "off" "[Z") (by decide +kernel)
  have in_X4 : ∀ w ∈ u_ws RX4 TX4 18, w ∈ wsX4_applies := by decide +kernel
  have fl_22 := hts (.fieldLink RX4 22 "RosterPayModel" "ranks" "[I") (by decide +kernel)
  have fl_16 := hts (.fieldLink RX4 16 "RosterPayModel" "from" "[I") (by decide +kernel)
  have fl_19 := hts (.fieldLink RX4 19 "RosterPayModel" "to" "[I") (by decide +kernel)
  have fl_13 := hts (.fieldLink RX4 13 "RosterPayModel" "weekdays" "[I") (by decide +kernel)
  have fl_32 := hts (.fieldLink RX4 32 "RosterPayModel" "holiday" "[Z") (by decide +kernel)
  have hl := lv_entry ([.ref (α (10)), .int (nI (k)), .int (nI (n)), .int (r)]) (n := 7) (Nat.le_of_ble_eq_true rfl)
  rw [lg_entry_eq]
  generalize (lg_sl ([.ref (α (10)), .int (nI (k)), .int (nI (n)), .int (r)]) ++ List.replicate (7 - (lg_sl ([.ref (α (10)), .int (nI (k)), .int (nI (n)), .int (r)])).length) Slot.unset).toArray = ls at hl ⊢
  have hl : lv_has ls 7 [(0, .ref (α (10))), (1, .int (nI (k))), (2, .int (nI (n))), (3, .int (r))] := hl
  refine lv_iload_n hx hb dX4_applies_0 rfl (lv_at hl 2 rfl) ?_
  refine lv_bipush (v := (96)) hx hb dX4_applies_1 (by decide) ?_
  refine lv_idiv hx hb dX4_applies_3 (by decide) ?_
  refine lv_topi (fun y1 ey1 => ?_)
  obtain rfl : y1 = (nI (n / 96)) := ey1.trans (mdiv (by omega) 96 (by omega) (by omega))
  refine lv_istore (lv' := [(4, .int (nI (n / 96))), (0, .ref (α (10))), (1, .int (nI (k))), (2, .int (nI (n))), (3, .int (r))]) hx hb dX4_applies_4 hl (by decide) rfl (fun ls hl => ?_)
  refine lv_iload_n hx hb dX4_applies_6 rfl (lv_at hl 3 rfl) ?_
  refine lv_bipush (v := (96)) hx hb dX4_applies_7 (by decide) ?_
  refine lv_irem hx hb dX4_applies_9 (by decide) ?_
  refine lv_topi (fun y2 ey2 => ?_)
  obtain rfl : y2 = (nI (n % 96)) := ey2.trans (mrem (by omega) 96 (by omega) (by omega))
  refine lv_istore (lv' := [(5, .int (nI (n % 96))), (4, .int (nI (n / 96))), (0, .ref (α (10))), (1, .int (nI (k))), (2, .int (nI (n))), (3, .int (r))]) hx hb dX4_applies_10 hl (by decide) rfl (fun ls hl => ?_)
  refine mjoin (E := s_on f k (n / 96)) (pcJ := 54) (st := []) ?_ (fun J3 => ?_)
  ·
    refine lv_istore (lv' := [(6, .int (s_on f k (n / 96))), (5, .int (nI (n % 96))), (4, .int (nI (n / 96))), (0, .ref (α (10))), (1, .int (nI (k))), (2, .int (nI (n))), (3, .int (r))]) hx hb dX4_applies_54 hl (by decide) rfl (fun ls hl => ?_)
    refine lv_iload hx hb dX4_applies_56 (lv_at hl 0 rfl) ?_
    refine lv_if_eq (tgt := 110) hx hb dX4_applies_58 (by decide) (fun c4 => ?_) (fun c4 => ?_)
    ·
      refine lv_iconst (v := (0)) hx hb dX4_applies_110 (by decide) ?_
      exact W.zret (v := 0) hx hb hr (rfl) (fun t ht hW => ⟨_, rfl, (bI_f (fun z => (z.1) c4)).symm, ht⟩) (fun _ h => absurd h List.not_mem_nil) dX4_applies_111
    ·
      refine lv_aload_n hx hb dX4_applies_61 rfl (lv_at hl 3 rfl) ?_
      refine mget (C := RX4) (T := TX4) (N := 18) (ci := 5) hx hb hts in_X4 hown hw (m10) rfl 7 (by decide) fl_28 rfl dX4_applies_62 ?_
      refine lv_iload_n hx hb dX4_applies_65 rfl (lv_at hl 4 rfl) ?_
      refine mzald' (k := k) hx hb hw (m17) (rfl) (by omega) (by decide) dX4_applies_66 ?_
      refine lv_if_ne (tgt := 110) hx hb dX4_applies_67 (by decide) (fun c5 => ?_) (fun c5 => ?_)
      ·
        refine lv_iconst (v := (0)) hx hb dX4_applies_110 (by decide) ?_
        exact W.zret (v := 0) hx hb hr (rfl) (fun t ht hW => ⟨_, rfl, (bI_f (fun z => c5 (z.2.1))).symm, ht⟩) (fun _ h => absurd h List.not_mem_nil) dX4_applies_111
      ·
        refine lv_aload_n hx hb dX4_applies_70 rfl (lv_at hl 3 rfl) ?_
        refine mget (C := RX4) (T := TX4) (N := 18) (ci := 5) hx hb hts in_X4 hown hw (m10) rfl 5 (by decide) fl_22 rfl dX4_applies_71 ?_
        refine lv_iload_n hx hb dX4_applies_74 rfl (lv_at hl 4 rfl) ?_
        refine miald' (k := k) hx hb hw (m15) (rfl) (by omega) (by decide) dX4_applies_75 ?_
        refine lv_iload_n hx hb dX4_applies_76 rfl (lv_at hl 6 rfl) ?_
        refine lv_ishr hx hb dX4_applies_77 ?_
        refine lv_iconst (v := (1)) hx hb dX4_applies_78 (by decide) ?_
        refine lv_iand hx hb dX4_applies_79 ?_
        refine lv_iconst (v := (1)) hx hb dX4_applies_80 (by decide) ?_
        refine lv_icmp_ne (tgt := 110) hx hb dX4_applies_81 (by decide) (fun c6 => ?_) (fun c6 => ?_)
        ·
          refine lv_iconst (v := (0)) hx hb dX4_applies_110 (by decide) ?_
          exact W.zret (v := 0) hx hb hr (rfl) (fun t ht hW => ⟨_, rfl, (bI_f (fun z => c6 (z.2.2.1))).symm, ht⟩) (fun _ h => absurd h List.not_mem_nil) dX4_applies_111
        ·
          refine lv_iload hx hb dX4_applies_84 (lv_at hl 1 rfl) ?_
          refine lv_aload_n hx hb dX4_applies_86 rfl (lv_at hl 3 rfl) ?_
          refine mget (C := RX4) (T := TX4) (N := 18) (ci := 5) hx hb hts in_X4 hown hw (m10) rfl 3 (by decide) fl_16 rfl dX4_applies_87 ?_
          refine lv_iload_n hx hb dX4_applies_90 rfl (lv_at hl 4 rfl) ?_
          refine miald' (k := k) hx hb hw (m13) (rfl) (by omega) (by decide) dX4_applies_91 ?_
          refine lv_icmp_lt (tgt := 110) hx hb dX4_applies_92 (by decide) (fun c7 => ?_) (fun c7 => ?_)
          ·
            refine lv_iconst (v := (0)) hx hb dX4_applies_110 (by decide) ?_
            exact W.zret (v := 0) hx hb hr (rfl) (fun t ht hW => ⟨_, rfl, (bI_f (fun z => (z.2.2.2.1) c7)).symm, ht⟩) (fun _ h => absurd h List.not_mem_nil) dX4_applies_111
          ·
            refine lv_iload hx hb dX4_applies_95 (lv_at hl 1 rfl) ?_
            refine lv_aload_n hx hb dX4_applies_97 rfl (lv_at hl 3 rfl) ?_
            refine mget (C := RX4) (T := TX4) (N := 18) (ci := 5) hx hb hts in_X4 hown hw (m10) rfl 4 (by decide) fl_19 rfl dX4_applies_98 ?_
            refine lv_iload_n hx hb dX4_applies_101 rfl (lv_at hl 4 rfl) ?_
            refine miald' (k := k) hx hb hw (m14) (rfl) (by omega) (by decide) dX4_applies_102 ?_
            refine lv_icmp_ge (tgt := 110) hx hb dX4_applies_103 (by decide) (fun c8 => ?_) (fun c8 => ?_)
            ·
              refine lv_iconst (v := (0)) hx hb dX4_applies_110 (by decide) ?_
              exact W.zret (v := 0) hx hb hr (rfl) (fun t ht hW => ⟨_, rfl, (bI_f (fun z => (z.2.2.2.2) c8)).symm, ht⟩) (fun _ h => absurd h List.not_mem_nil) dX4_applies_111
            ·
              refine lv_iconst (v := (1)) hx hb dX4_applies_106 (by decide) ?_
              refine lv_goto (tgt := 111) hx hb dX4_applies_107 (by decide) ?_
              exact W.zret (v := 1) hx hb hr (rfl) (fun t ht hW => ⟨_, rfl, (bI_t ⟨c4, c5, c6, c7, c8⟩).symm, ht⟩) (fun _ h => absurd h List.not_mem_nil) dX4_applies_111
  ·
    refine lv_aload_n hx hb dX4_applies_12 rfl (lv_at hl 2 rfl) ?_
    refine mget (C := RX4) (T := TX4) (N := 18) (ci := 5) hx hb hts in_X4 hown hw (m10) rfl 2 (by decide) fl_13 rfl dX4_applies_13 ?_
    refine lv_iload_n hx hb dX4_applies_16 rfl (lv_at hl 3 rfl) ?_
    refine miald' (k := k) hx hb hw (m12) (rfl) (by omega) (by decide) dX4_applies_17 ?_
    refine lv_if_ne (tgt := 31) hx hb dX4_applies_18 (by decide) (fun c9 => ?_) (fun c9 => ?_)
    ·
      refine lv_aload_n hx hb dX4_applies_31 rfl (lv_at hl 2 rfl) ?_
      refine mget (C := RX4) (T := TX4) (N := 18) (ci := 5) hx hb hts in_X4 hown hw (m10) rfl 2 (by decide) fl_13 rfl dX4_applies_32 ?_
      refine lv_iload_n hx hb dX4_applies_35 rfl (lv_at hl 3 rfl) ?_
      refine miald' (k := k) hx hb hw (m12) (rfl) (by omega) (by decide) dX4_applies_36 ?_
      refine lv_iload hx hb dX4_applies_37 (lv_at hl 1 rfl) ?_
      refine lv_bipush (v := (7)) hx hb dX4_applies_39 (by decide) ?_
      refine lv_irem hx hb dX4_applies_41 (by decide) ?_
      refine lv_ishr hx hb dX4_applies_42 ?_
      refine lv_iconst (v := (1)) hx hb dX4_applies_43 (by decide) ?_
      refine lv_iand hx hb dX4_applies_44 ?_
      refine lv_iconst (v := (1)) hx hb dX4_applies_45 (by decide) ?_
      refine lv_icmp_ne (tgt := 53) hx hb dX4_applies_46 (by decide) (fun c10 => ?_) (fun c10 => ?_)
      ·
        refine lv_iconst (v := (0)) hx hb dX4_applies_53 (by decide) ?_
        exact J3 _ ((by unfold s_on; rw [if_neg c9, bI_f c10]))
      ·
        refine lv_iconst (v := (1)) hx hb dX4_applies_49 (by decide) ?_
        refine lv_goto (tgt := 54) hx hb dX4_applies_50 (by decide) ?_
        exact J3 _ ((by unfold s_on; rw [if_neg c9, bI_t c10]))
    ·
      refine lv_aload_n hx hb dX4_applies_21 rfl (lv_at hl 2 rfl) ?_
      refine mget (C := RX4) (T := TX4) (N := 18) (ci := 5) hx hb hts in_X4 hown hw (m10) rfl 8 (by decide) fl_32 rfl dX4_applies_22 ?_
      refine lv_iload hx hb dX4_applies_25 (lv_at hl 1 rfl) ?_
      refine mzald' (k := n / 96) hx hb hw (m18) (rfl) (by omega) (by decide) dX4_applies_27 ?_
      refine lv_goto (tgt := 54) hx hb dX4_applies_28 (by decide) ?_
      exact J3 _ ((by unfold s_on; rw [if_pos c9]))

set_option maxHeartbeats 4000000 in
set_option maxRecDepth 100000 in
theorem c_X4_percented {l : Launch} {G : mG} {V : mV} {α : Nat → Nat} {f : sT} {nr nw ns : Nat} {th : Int32} (hM : mM G V α f nr nw ns th) (si w a q : Nat) (hs : si < 80) (hw0 : w < 12) (h9 : f 9 si = nI w) (ha : a < 34848) (h10 : f 10 si = nI a) (hq : q < 64) (hnr : nr ≤ 16)  : Met l yX4_percented wsX4_percented ({ frames := 1, cells := 0, slots := 0, locals := 26 }) (va_Pc [.ref (α (10)), .int (nI (si)), .int (nI (q))] (fun U => mW G V α U U.heap)) (vp_Si (fun r9 => r9 = s_P f w a q nr)) 0 0 (fun _ => False) := by
  refine Met.ofW (cc := cX4_percented) (maxL := 6) (ret := (some .int)) (by decide) rfl ?_
  intro p e s m args below meth c s₁ B hml hv
  obtain ⟨rfl, hw⟩ := hv
  have hx := B.exec
  have hb := B.bytes
  have hr := B.returns
  have hts := atoms_spec (ws := wsX4_percented) B.pre
  have hown : s.vm.findClass RX4 = some m.cls := findClass_of_methodNamed B.named
  have hlocks := B.notSynchronized
  obtain ⟨m10, m11, m12, m13, m14, m15, m16, m17, m18, m19, m20, m21, m22, m23, m24⟩ := id hM
  have fl_61 := hts (.fieldLink RX4 61 "RosterPayModel" "rules" "I") (by decide +kernel)
  have in_X4 : ∀ w ∈ u_ws RX4 TX4 18, w ∈ wsX4_percented := by decide +kernel
  have fl_25 := hts (.fieldLink RX4 25 "RosterPayModel" "percent" "[I") (by decide +kernel)
  have fl_41 := hts (.fieldLink RX4 41 "RosterPayModel" "start" "[I") (by decide +kernel)
  have fl_35 := hts (.fieldLink RX4 35 "RosterPayModel" "rank" "[I") (by decide +kernel)
  have fl_38 := hts (.fieldLink RX4 38 "RosterPayModel" "by" "[I") (by decide +kernel)
  have hl := lv_entry ([.ref (α (10)), .int (nI (si)), .int (nI (q))]) (n := 6) (Nat.le_of_ble_eq_true rfl)
  rw [lg_entry_eq]
  generalize (lg_sl ([.ref (α (10)), .int (nI (si)), .int (nI (q))]) ++ List.replicate (6 - (lg_sl ([.ref (α (10)), .int (nI (si)), .int (nI (q))])).length) Slot.unset).toArray = ls at hl ⊢
  have hl : lv_has ls 6 [(0, .ref (α (10))), (1, .int (nI (si))), (2, .int (nI (q)))] := hl
  refine lv_iload_n hx hb dX4_percented_0 rfl (lv_at hl 2 rfl) ?_
  refine mcallSi hw ⟨hx, hb, hml, hown, hts⟩ (c_X4_overtime (nI (q))) (va_cwS 1 hts gX4_percented_X4_overtime rfl rfl rfl (by decide +kernel) ⟨Nat.le_of_ble_eq_true rfl, Nat.le_of_ble_eq_true rfl⟩) rfl hl.1 rfl (Nat.le_of_ble_eq_true rfl) dX4_percented_1 ⟨Nat.le_of_ble_eq_true rfl, Nat.le_of_ble_eq_true rfl⟩ ?_
  refine lv_topi (fun y1 ey1 => ?_)
  obtain rfl : y1 = (s_P f w a q 0) := ey1.trans (rfl)
  refine lv_istore_n (lv' := [(3, .int (s_P f w a q 0)), (0, .ref (α (10))), (1, .int (nI (si))), (2, .int (nI (q)))]) hx hb dX4_percented_4 rfl hl (by decide) rfl (fun ls hl => ?_)
  refine lv_iconst (v := (0)) hx hb dX4_percented_5 (by decide) ?_
  refine lv_topi (fun y2 ey2 => ?_)
  obtain rfl : y2 = (nI (0)) := ey2.trans (rfl)
  refine lv_istore (lv' := [(4, .int (nI (0))), (3, .int (s_P f w a q 0)), (0, .ref (α (10))), (1, .int (nI (si))), (2, .int (nI (q)))]) hx hb dX4_percented_6 hl (by decide) rfl (fun ls hl => ?_)
  refine mloop (nL := 6) (nr) (fun j => [(0, .ref (α (10))), (1, .int (nI (si))), (2, .int (nI (q))), (3, .int (s_P f w a q j)), (4, .int (nI (j)))]) ?_ ?_ ls (lv_sub hl [2, 3, 4, 1, 0] rfl)
  ·
    intro ls hl
    have hl : lv_has ls 6 [(0, .ref (α (10))), (1, .int (nI (si))), (2, .int (nI (q))), (3, .int (s_P f w a q nr)), (4, .int (nI (nr)))] := hl
    refine lv_iload hx hb dX4_percented_8 (lv_at hl 4 rfl) ?_
    refine lv_aload_n hx hb dX4_percented_10 rfl (lv_at hl 0 rfl) ?_
    refine mget (C := RX4) (T := TX4) (N := 18) (ci := 5) hx hb hts in_X4 hown hw (m10) rfl 1 (by decide) fl_61 rfl dX4_percented_11 ?_
    refine lv_icmp_ge (tgt := 86) hx hb dX4_percented_14 (by decide) (fun c3 => ?_) (fun z => absurd ((nI_le (Nat.le_refl _) (by omega))) z)
    refine lv_iload_n hx hb dX4_percented_86 rfl (lv_at hl 3 rfl) ?_
    exact W.iret (v := s_P f w a q nr) hx hb hr (fun t ht hW => ⟨_, rfl, rfl, ht⟩) (fun _ h => absurd h List.not_mem_nil) dX4_percented_87
  ·
    intro j hj ihj ls hl
    have hl : lv_has ls 6 [(0, .ref (α (10))), (1, .int (nI (si))), (2, .int (nI (q))), (3, .int (s_P f w a q j)), (4, .int (nI (j)))] := hl
    refine lv_iload hx hb dX4_percented_8 (lv_at hl 4 rfl) ?_
    refine lv_aload_n hx hb dX4_percented_10 rfl (lv_at hl 0 rfl) ?_
    refine mget (C := RX4) (T := TX4) (N := 18) (ci := 5) hx hb hts in_X4 hown hw (m10) rfl 1 (by decide) fl_61 rfl dX4_percented_11 ?_
    refine lv_icmp_ge (tgt := 86) hx hb dX4_percented_14 (by decide) (fun z => absurd z ((nI_ge hj (by omega)))) (fun c4 => ?_)
    refine mjoin (E := bI (¬ f 5 j ≤ s_P f w a q j ∧ s_ap f j (a + q) (f 8 (w)))) (pcJ := 61) (st := []) ?_ (fun J5 => ?_)
    ·
      refine lv_istore (lv' := [(5, .int (bI (¬ f 5 j ≤ s_P f w a q j ∧ s_ap f j (a + q) (f 8 (w))))), (0, .ref (α (10))), (1, .int (nI (si))), (2, .int (nI (q))), (3, .int (s_P f w a q j)), (4, .int (nI (j)))]) hx hb dX4_percented_61 hl (by decide) rfl (fun ls hl => ?_)
      refine mjoin (E := s_P f w a q (j + 1)) (pcJ := 79) (st := []) ?_ (fun J6 => ?_)
      ·
        refine lv_istore_n (lv' := [(3, .int (s_P f w a q (j + 1))), (5, .int (bI (¬ f 5 j ≤ s_P f w a q j ∧ s_ap f j (a + q) (f 8 (w))))), (0, .ref (α (10))), (1, .int (nI (si))), (2, .int (nI (q))), (4, .int (nI (j)))]) hx hb dX4_percented_79 rfl hl (by decide) rfl (fun ls hl => ?_)
        refine lv_iinc (v := nI (j + 1)) (lv' := [(4, .int (nI (j + 1))), (3, .int (s_P f w a q (j + 1))), (5, .int (bI (¬ f 5 j ≤ s_P f w a q j ∧ s_ap f j (a + q) (f 8 (w))))), (0, .ref (α (10))), (1, .int (nI (si))), (2, .int (nI (q)))]) hx hb dX4_percented_80 hl (k := 5) rfl (nI_1 (j)) (by decide) rfl (fun ls hl => ?_)
        refine lv_goto (tgt := 8) hx hb dX4_percented_83 (by decide) ?_
        exact ihj ls (lv_sub hl [3, 4, 5, 1, 0] rfl)
      ·
        refine lv_iload hx hb dX4_percented_63 (lv_at hl 0 rfl) ?_
        refine mif_eqB (tgt := 78) hx hb dX4_percented_65 (by decide) (fun c7 => ?_) (fun c7 => ?_)
        ·
          refine lv_iload_n hx hb dX4_percented_78 rfl (lv_at hl 4 rfl) ?_
          exact J6 _ (((if_neg c7).symm))
        ·
          refine lv_aload_n hx hb dX4_percented_68 rfl (lv_at hl 1 rfl) ?_
          refine mget (C := RX4) (T := TX4) (N := 18) (ci := 5) hx hb hts in_X4 hown hw (m10) rfl 6 (by decide) fl_25 rfl dX4_percented_69 ?_
          refine lv_iload hx hb dX4_percented_72 (lv_at hl 5 rfl) ?_
          refine miald' (k := j) hx hb hw (m16) (rfl) (by omega) (by decide) dX4_percented_74 ?_
          refine lv_goto (tgt := 79) hx hb dX4_percented_75 (by decide) ?_
          exact J6 _ (((if_pos c7).symm))
    ·
      refine lv_aload_n hx hb dX4_percented_17 rfl (lv_at hl 0 rfl) ?_
      refine mget (C := RX4) (T := TX4) (N := 18) (ci := 5) hx hb hts in_X4 hown hw (m10) rfl 6 (by decide) fl_25 rfl dX4_percented_18 ?_
      refine lv_iload hx hb dX4_percented_21 (lv_at hl 4 rfl) ?_
      refine miald' (k := j) hx hb hw (m16) (rfl) (by omega) (by decide) dX4_percented_23 ?_
      refine lv_iload_n hx hb dX4_percented_24 rfl (lv_at hl 3 rfl) ?_
      refine lv_icmp_le (tgt := 60) hx hb dX4_percented_25 (by decide) (fun c8 => ?_) (fun c8 => ?_)
      ·
        refine lv_iconst (v := (0)) hx hb dX4_percented_60 (by decide) ?_
        exact J5 _ ((bI_f (fun z => (z.1) c8)).symm)
      ·
        refine lv_aload_n hx hb dX4_percented_28 rfl (lv_at hl 0 rfl) ?_
        refine lv_iload hx hb dX4_percented_29 (lv_at hl 4 rfl) ?_
        refine lv_aload_n hx hb dX4_percented_31 rfl (lv_at hl 0 rfl) ?_
        refine mget (C := RX4) (T := TX4) (N := 18) (ci := 5) hx hb hts in_X4 hown hw (m10) rfl 13 (by decide) fl_41 rfl dX4_percented_32 ?_
        refine lv_iload_n hx hb dX4_percented_35 rfl (lv_at hl 1 rfl) ?_
        refine miald' (k := si) hx hb hw (m21) (rfl) (by omega) (by decide) dX4_percented_36 ?_
        refine lv_iload_n hx hb dX4_percented_37 rfl (lv_at hl 2 rfl) ?_
        refine lv_iadd hx hb dX4_percented_38 ?_
        refine lv_topi (fun y9 ey9 => ?_)
        obtain rfl : y9 = (nI (a + q)) := ey9.trans (by rw [h10, nI_add])
        refine lv_aload_n hx hb dX4_percented_39 rfl (lv_at hl 0 rfl) ?_
        refine mget (C := RX4) (T := TX4) (N := 18) (ci := 5) hx hb hts in_X4 hown hw (m10) rfl 10 (by decide) fl_35 rfl dX4_percented_40 ?_
        refine lv_aload_n hx hb dX4_percented_43 rfl (lv_at hl 0 rfl) ?_
        refine mget (C := RX4) (T := TX4) (N := 18) (ci := 5) hx hb hts in_X4 hown hw (m10) rfl 12 (by decide) fl_38 rfl dX4_percented_44 ?_
        refine lv_iload_n hx hb dX4_percented_47 rfl (lv_at hl 1 rfl) ?_
        refine miald' (k := si) hx hb hw (m20) (rfl) (by omega) (by decide) dX4_percented_48 ?_
        refine miald' (k := w) hx hb hw (m19) (h9) (by omega) (by decide) dX4_percented_49 ?_
        refine mcallVi hw (m10) rfl rfl ⟨hx, hb, hml, hown, hts⟩ (c_X4_applies hM j (a + q) (by omega) (by omega) (f 8 (w))) (cwV 3 hts gX4_percented_X4_applies rfl rfl rfl (by decide +kernel) ⟨Nat.le_of_ble_eq_true rfl, Nat.le_of_ble_eq_true rfl⟩) rfl hl.1 rfl (Nat.le_of_ble_eq_true rfl) dX4_percented_50 ⟨Nat.le_of_ble_eq_true rfl, Nat.le_of_ble_eq_true rfl⟩ ?_
        refine mif_eqB (tgt := 60) hx hb dX4_percented_53 (by decide) (fun c10 => ?_) (fun c10 => ?_)
        ·
          refine lv_iconst (v := (0)) hx hb dX4_percented_60 (by decide) ?_
          exact J5 _ ((bI_f (fun z => c10 (z.2))).symm)
        ·
          refine lv_iconst (v := (1)) hx hb dX4_percented_56 (by decide) ?_
          refine lv_goto (tgt := 61) hx hb dX4_percented_57 (by decide) ?_
          exact J5 _ ((bI_t ⟨c8, c10⟩).symm)

set_option maxHeartbeats 4000000 in
set_option maxRecDepth 100000 in
theorem c_X4_reasoned {l : Launch} {G : mG} {V : mV} {α : Nat → Nat} {f : sT} {nr nw ns : Nat} {th : Int32} (hM : mM G V α f nr nw ns th) (si w a q : Nat) (hs : si < 80) (hw0 : w < 12) (h9 : f 9 si = nI w) (ha : a < 34848) (h10 : f 10 si = nI a) (hq : q < 64) (hnr : nr ≤ 16)  : Met l yX4_reasoned wsX4_reasoned ({ frames := 2, cells := 0, slots := 0, locals := 51 }) (va_Pc [.ref (α (10)), .int (nI (si)), .int (nI (q))] (fun U => mW G V α U U.heap)) (vp_Si (fun r9 => r9 = s_R f nr w a q)) 0 0 (fun _ => False) := by
  refine Met.ofW (cc := cX4_reasoned) (maxL := 5) (ret := (some .int)) (by decide) rfl ?_
  intro p e s m args below meth c s₁ B hml hv
  obtain ⟨rfl, hw⟩ := hv
  have hx := B.exec
  have hb := B.bytes
  have hr := B.returns
  have hts := atoms_spec (ws := wsX4_reasoned) B.pre
  have hown : s.vm.findClass RX4 = some m.cls := findClass_of_methodNamed B.named
  have hlocks := B.notSynchronized
  obtain ⟨m10, m11, m12, m13, m14, m15, m16, m17, m18, m19, m20, m21, m22, m23, m24⟩ := id hM
  have fl_61 := hts (.fieldLink RX4 61 "RosterPayModel" "rules" "I") (by decide +kernel)
  have in_X4 : ∀ w ∈ u_ws RX4 TX4 18, w ∈ wsX4_reasoned := by decide +kernel
  have fl_25 := hts (.fieldLink RX4 25 "RosterPayModel" "percent" "[I") (by decide +kernel)
  have fl_41 := hts (.fieldLink RX4 41 "RosterPayModel" "start" "[I") (by decide +kernel)
  have fl_35 := hts (.fieldLink RX4 35 "RosterPayModel" "rank" "[I") (by decide +kernel)
  have fl_38 := hts (.fieldLink RX4 38 "RosterPayModel" "by" "[I") (by decide +kernel)
  have hl := lv_entry ([.ref (α (10)), .int (nI (si)), .int (nI (q))]) (n := 5) (Nat.le_of_ble_eq_true rfl)
  rw [lg_entry_eq]
  generalize (lg_sl ([.ref (α (10)), .int (nI (si)), .int (nI (q))]) ++ List.replicate (5 - (lg_sl ([.ref (α (10)), .int (nI (si)), .int (nI (q))])).length) Slot.unset).toArray = ls at hl ⊢
  have hl : lv_has ls 5 [(0, .ref (α (10))), (1, .int (nI (si))), (2, .int (nI (q)))] := hl
  refine lv_aload_n hx hb dX4_reasoned_0 rfl (lv_at hl 0 rfl) ?_
  refine lv_iload_n hx hb dX4_reasoned_1 rfl (lv_at hl 1 rfl) ?_
  refine lv_iload_n hx hb dX4_reasoned_2 rfl (lv_at hl 2 rfl) ?_
  refine mcallVi hw (m10) rfl rfl ⟨hx, hb, hml, hown, hts⟩ (c_X4_percented hM si w a q hs hw0 h9 ha h10 hq hnr) (cwV 2 hts gX4_reasoned_X4_percented rfl rfl rfl (by decide +kernel) ⟨Nat.le_of_ble_eq_true rfl, Nat.le_of_ble_eq_true rfl⟩) rfl hl.1 rfl (Nat.le_of_ble_eq_true rfl) dX4_reasoned_3 ⟨Nat.le_of_ble_eq_true rfl, Nat.le_of_ble_eq_true rfl⟩ ?_
  refine lv_istore_n (lv' := [(3, .int (s_P f w a q nr)), (0, .ref (α (10))), (1, .int (nI (si))), (2, .int (nI (q)))]) hx hb dX4_reasoned_6 rfl hl (by decide) rfl (fun ls hl => ?_)
  refine lv_iconst (v := (0)) hx hb dX4_reasoned_7 (by decide) ?_
  refine lv_topi (fun y1 ey1 => ?_)
  obtain rfl : y1 = (nI (0)) := ey1.trans (rfl)
  refine lv_istore (lv' := [(4, .int (nI (0))), (3, .int (s_P f w a q nr)), (0, .ref (α (10))), (1, .int (nI (si))), (2, .int (nI (q)))]) hx hb dX4_reasoned_8 hl (by decide) rfl (fun ls hl => ?_)
  refine mloopI (nL := 5) (nr) (fun j => [(0, .ref (α (10))), (1, .int (nI (si))), (2, .int (nI (q))), (3, .int (s_P f w a q nr)), (4, .int (nI (j)))]) (fun j => s_G f w a q (s_P f w a q nr) j = none) ?_ ?_ (rfl) ls (lv_sub hl [2, 3, 4, 1, 0] rfl)
  ·
    intro hI ls hl
    have hl : lv_has ls 5 [(0, .ref (α (10))), (1, .int (nI (si))), (2, .int (nI (q))), (3, .int (s_P f w a q nr)), (4, .int (nI (nr)))] := hl
    refine lv_iload hx hb dX4_reasoned_10 (lv_at hl 4 rfl) ?_
    refine lv_aload_n hx hb dX4_reasoned_12 rfl (lv_at hl 0 rfl) ?_
    refine mget (C := RX4) (T := TX4) (N := 18) (ci := 5) hx hb hts in_X4 hown hw (m10) rfl 1 (by decide) fl_61 rfl dX4_reasoned_13 ?_
    refine lv_icmp_ge (tgt := 67) hx hb dX4_reasoned_16 (by decide) (fun c2 => ?_) (fun z => absurd ((nI_le (Nat.le_refl _) (by omega))) z)
    refine lv_iload_n hx hb dX4_reasoned_67 rfl (lv_at hl 3 rfl) ?_
    refine lv_bipush (v := (100)) hx hb dX4_reasoned_68 (by decide) ?_
    refine lv_icmp_le (tgt := 86) hx hb dX4_reasoned_70 (by decide) (fun c3 => ?_) (fun c3 => ?_)
    ·
      refine lv_iconst (v := (-1)) hx hb dX4_reasoned_86 (by decide) ?_
      exact W.iret (v := (-1)) hx hb hr (fun t ht hW => ⟨_, rfl, (by unfold s_R; rw [hI, s_R0n, if_pos c3]), ht⟩) (fun _ h => absurd h List.not_mem_nil) dX4_reasoned_87
    ·
      refine lv_iload_n hx hb dX4_reasoned_73 rfl (lv_at hl 3 rfl) ?_
      refine lv_iload_n hx hb dX4_reasoned_74 rfl (lv_at hl 2 rfl) ?_
      refine mcallSi hw ⟨hx, hb, hml, hown, hts⟩ (c_X4_overtime (nI (q))) (va_cwS 1 hts gX4_reasoned_X4_overtime rfl rfl rfl (by decide +kernel) ⟨Nat.le_of_ble_eq_true rfl, Nat.le_of_ble_eq_true rfl⟩) rfl hl.1 rfl (Nat.le_of_ble_eq_true rfl) dX4_reasoned_75 ⟨Nat.le_of_ble_eq_true rfl, Nat.le_of_ble_eq_true rfl⟩ ?_
      refine lv_icmp_ne (tgt := 86) hx hb dX4_reasoned_78 (by decide) (fun c4 => ?_) (fun c4 => ?_)
      ·
        refine lv_iconst (v := (-1)) hx hb dX4_reasoned_86 (by decide) ?_
        exact W.iret (v := (-1)) hx hb hr (fun t ht hW => ⟨_, rfl, (by unfold s_R; rw [hI, s_R0n, if_neg c3, if_neg c4]), ht⟩) (fun _ h => absurd h List.not_mem_nil) dX4_reasoned_87
      ·
        refine lv_bipush (v := (-2)) hx hb dX4_reasoned_81 (by decide) ?_
        refine lv_goto (tgt := 87) hx hb dX4_reasoned_83 (by decide) ?_
        exact W.iret (v := (-2)) hx hb hr (fun t ht hW => ⟨_, rfl, (by unfold s_R; rw [hI, s_R0n, if_neg c3, if_pos c4]), ht⟩) (fun _ h => absurd h List.not_mem_nil) dX4_reasoned_87
  ·
    intro j hj hI ihj ls hl
    have hl : lv_has ls 5 [(0, .ref (α (10))), (1, .int (nI (si))), (2, .int (nI (q))), (3, .int (s_P f w a q nr)), (4, .int (nI (j)))] := hl
    refine lv_iload hx hb dX4_reasoned_10 (lv_at hl 4 rfl) ?_
    refine lv_aload_n hx hb dX4_reasoned_12 rfl (lv_at hl 0 rfl) ?_
    refine mget (C := RX4) (T := TX4) (N := 18) (ci := 5) hx hb hts in_X4 hown hw (m10) rfl 1 (by decide) fl_61 rfl dX4_reasoned_13 ?_
    refine lv_icmp_ge (tgt := 67) hx hb dX4_reasoned_16 (by decide) (fun z => absurd z ((nI_ge hj (by omega)))) (fun c5 => ?_)
    refine lv_aload_n hx hb dX4_reasoned_19 rfl (lv_at hl 0 rfl) ?_
    refine mget (C := RX4) (T := TX4) (N := 18) (ci := 5) hx hb hts in_X4 hown hw (m10) rfl 6 (by decide) fl_25 rfl dX4_reasoned_20 ?_
    refine lv_iload hx hb dX4_reasoned_23 (lv_at hl 4 rfl) ?_
    refine miald' (k := j) hx hb hw (m16) (rfl) (by omega) (by decide) dX4_reasoned_25 ?_
    refine lv_iload_n hx hb dX4_reasoned_26 rfl (lv_at hl 3 rfl) ?_
    refine lv_icmp_ne (tgt := 61) hx hb dX4_reasoned_27 (by decide) (fun c6 => ?_) (fun c6 => ?_)
    ·
      refine lv_iinc (v := nI (j + 1)) (lv' := [(4, .int (nI (j + 1))), (0, .ref (α (10))), (1, .int (nI (si))), (2, .int (nI (q))), (3, .int (s_P f w a q nr))]) hx hb dX4_reasoned_61 hl (k := 4) rfl (nI_1 (j)) (by decide) rfl (fun ls hl => ?_)
      refine lv_goto (tgt := 10) hx hb dX4_reasoned_64 (by decide) ?_
      exact ihj (s_G_miss hI (fun z => c6 z.1)) ls (lv_sub hl [1, 2, 3, 4, 0] rfl)
    ·
      refine lv_aload_n hx hb dX4_reasoned_30 rfl (lv_at hl 0 rfl) ?_
      refine lv_iload hx hb dX4_reasoned_31 (lv_at hl 4 rfl) ?_
      refine lv_aload_n hx hb dX4_reasoned_33 rfl (lv_at hl 0 rfl) ?_
      refine mget (C := RX4) (T := TX4) (N := 18) (ci := 5) hx hb hts in_X4 hown hw (m10) rfl 13 (by decide) fl_41 rfl dX4_reasoned_34 ?_
      refine lv_iload_n hx hb dX4_reasoned_37 rfl (lv_at hl 1 rfl) ?_
      refine miald' (k := si) hx hb hw (m21) (rfl) (by omega) (by decide) dX4_reasoned_38 ?_
      refine lv_iload_n hx hb dX4_reasoned_39 rfl (lv_at hl 2 rfl) ?_
      refine lv_iadd hx hb dX4_reasoned_40 ?_
      refine lv_topi (fun y7 ey7 => ?_)
      obtain rfl : y7 = (nI (a + q)) := ey7.trans (by rw [h10, nI_add])
      refine lv_aload_n hx hb dX4_reasoned_41 rfl (lv_at hl 0 rfl) ?_
      refine mget (C := RX4) (T := TX4) (N := 18) (ci := 5) hx hb hts in_X4 hown hw (m10) rfl 10 (by decide) fl_35 rfl dX4_reasoned_42 ?_
      refine lv_aload_n hx hb dX4_reasoned_45 rfl (lv_at hl 0 rfl) ?_
      refine mget (C := RX4) (T := TX4) (N := 18) (ci := 5) hx hb hts in_X4 hown hw (m10) rfl 12 (by decide) fl_38 rfl dX4_reasoned_46 ?_
      refine lv_iload_n hx hb dX4_reasoned_49 rfl (lv_at hl 1 rfl) ?_
      refine miald' (k := si) hx hb hw (m20) (rfl) (by omega) (by decide) dX4_reasoned_50 ?_
      refine miald' (k := w) hx hb hw (m19) (h9) (by omega) (by decide) dX4_reasoned_51 ?_
      refine mcallVi hw (m10) rfl rfl ⟨hx, hb, hml, hown, hts⟩ (c_X4_applies hM j (a + q) (by omega) (by omega) (f 8 (w))) (cwV 3 hts gX4_reasoned_X4_applies rfl rfl rfl (by decide +kernel) ⟨Nat.le_of_ble_eq_true rfl, Nat.le_of_ble_eq_true rfl⟩) rfl hl.1 rfl (Nat.le_of_ble_eq_true rfl) dX4_reasoned_52 ⟨Nat.le_of_ble_eq_true rfl, Nat.le_of_ble_eq_true rfl⟩ ?_
      refine mif_eqB (tgt := 61) hx hb dX4_reasoned_55 (by decide) (fun c8 => ?_) (fun c8 => ?_)
      ·
        refine lv_iinc (v := nI (j + 1)) (lv' := [(4, .int (nI (j + 1))), (0, .ref (α (10))), (1, .int (nI (si))), (2, .int (nI (q))), (3, .int (s_P f w a q nr))]) hx hb dX4_reasoned_61 hl (k := 4) rfl (nI_1 (j)) (by decide) rfl (fun ls hl => ?_)
        refine lv_goto (tgt := 10) hx hb dX4_reasoned_64 (by decide) ?_
        exact ihj (s_G_miss hI (fun z => c8 z.2)) ls (lv_sub hl [1, 2, 3, 4, 0] rfl)
      ·
        refine lv_iload hx hb dX4_reasoned_58 (lv_at hl 4 rfl) ?_
        exact W.iret (v := nI (j)) hx hb hr (fun t ht hW => ⟨_, rfl, (by unfold s_R; rw [s_G_le (s_G_hit hI ⟨c6, c8⟩) (show j + 1 ≤ nr by omega)]; rfl), ht⟩) (fun _ h => absurd h List.not_mem_nil) dX4_reasoned_60

set_option maxHeartbeats 4000000 in
set_option maxRecDepth 100000 in
theorem c_X4_amount {l : Launch} {G : mG} {V : mV} {α : Nat → Nat} {f : sT} {nr nw ns : Nat} {th : Int32} (hM : mM G V α f nr nw ns th) (si w a r : Nat) (hs : si < 80) (hw0 : w < 12) (h9 : f 9 si = nI w) (h8 : f 8 w = nI r) (hr0 : r < 4) (ha : a < 34848) (h10 : f 10 si = nI a) (hnr : nr ≤ 16) (q : Nat) (hq : q < 64)  : Met l yX4_amount wsX4_amount ({ frames := 2, cells := 0, slots := 0, locals := 51 }) (va_Pc [.ref (α (10)), .int (nI (si)), .int (nI (q))] (fun U => mW G V α U U.heap)) (vp_Si (fun r9 => r9 = s_amt f nr w a r q)) 0 0 (fun _ => False) := by
  refine Met.ofW (cc := cX4_amount) (maxL := 3) (ret := (some .int)) (by decide) rfl ?_
  intro p e s m args below meth c s₁ B hml hv
  obtain ⟨rfl, hw⟩ := hv
  have hx := B.exec
  have hb := B.bytes
  have hr := B.returns
  have hts := atoms_spec (ws := wsX4_amount) B.pre
  have hown : s.vm.findClass RX4 = some m.cls := findClass_of_methodNamed B.named
  have hlocks := B.notSynchronized
  obtain ⟨m10, m11, m12, m13, m14, m15, m16, m17, m18, m19, m20, m21, m22, m23, m24⟩ := id hM
  have fl_7 := hts (.fieldLink RX4 7 "RosterPayModel" "base" "[I") (by decide +kernel)
  have in_X4 : ∀ w ∈ u_ws RX4 TX4 18, w ∈ wsX4_amount := by decide +kernel
  have fl_35 := hts (.fieldLink RX4 35 "RosterPayModel" "rank" "[I") (by decide +kernel)
  have fl_38 := hts (.fieldLink RX4 38 "RosterPayModel" "by" "[I") (by decide +kernel)
  have hl := lv_entry ([.ref (α (10)), .int (nI (si)), .int (nI (q))]) (n := 3) (Nat.le_of_ble_eq_true rfl)
  rw [lg_entry_eq]
  generalize (lg_sl ([.ref (α (10)), .int (nI (si)), .int (nI (q))]) ++ List.replicate (3 - (lg_sl ([.ref (α (10)), .int (nI (si)), .int (nI (q))])).length) Slot.unset).toArray = ls at hl ⊢
  have hl : lv_has ls 3 [(0, .ref (α (10))), (1, .int (nI (si))), (2, .int (nI (q)))] := hl
  refine lv_aload_n hx hb dX4_amount_0 rfl (lv_at hl 0 rfl) ?_
  refine mget (C := RX4) (T := TX4) (N := 18) (ci := 5) hx hb hts in_X4 hown hw (m10) rfl 0 (by decide) fl_7 rfl dX4_amount_1 ?_
  refine lv_aload_n hx hb dX4_amount_4 rfl (lv_at hl 0 rfl) ?_
  refine mget (C := RX4) (T := TX4) (N := 18) (ci := 5) hx hb hts in_X4 hown hw (m10) rfl 10 (by decide) fl_35 rfl dX4_amount_5 ?_
  refine lv_aload_n hx hb dX4_amount_8 rfl (lv_at hl 0 rfl) ?_
  refine mget (C := RX4) (T := TX4) (N := 18) (ci := 5) hx hb hts in_X4 hown hw (m10) rfl 12 (by decide) fl_38 rfl dX4_amount_9 ?_
  refine lv_iload_n hx hb dX4_amount_12 rfl (lv_at hl 1 rfl) ?_
  refine miald' (k := si) hx hb hw (m20) (rfl) (by omega) (by decide) dX4_amount_13 ?_
  refine miald' (k := w) hx hb hw (m19) (h9) (by omega) (by decide) dX4_amount_14 ?_
  refine miald' (k := r) hx hb hw (m11) (h8) (by omega) (by decide) dX4_amount_15 ?_
  refine lv_aload_n hx hb dX4_amount_16 rfl (lv_at hl 0 rfl) ?_
  refine lv_iload_n hx hb dX4_amount_17 rfl (lv_at hl 1 rfl) ?_
  refine lv_iload_n hx hb dX4_amount_18 rfl (lv_at hl 2 rfl) ?_
  refine mcallVi hw (m10) rfl rfl ⟨hx, hb, hml, hown, hts⟩ (c_X4_percented hM si w a q hs hw0 h9 ha h10 (by omega) hnr) (cwV 2 hts gX4_amount_X4_percented rfl rfl rfl (by decide +kernel) ⟨Nat.le_of_ble_eq_true rfl, Nat.le_of_ble_eq_true rfl⟩) rfl hl.1 rfl (Nat.le_of_ble_eq_true rfl) dX4_amount_19 ⟨Nat.le_of_ble_eq_true rfl, Nat.le_of_ble_eq_true rfl⟩ ?_
  refine lv_imul hx hb dX4_amount_22 ?_
  refine lv_bipush (v := (100)) hx hb dX4_amount_23 (by decide) ?_
  refine lv_idiv hx hb dX4_amount_25 (by decide) ?_
  exact W.iret (v := ((f 0 (r) * s_P f w a q nr) / 100)) hx hb hr (fun t ht hW => ⟨_, rfl, rfl, ht⟩) (fun _ h => absurd h List.not_mem_nil) dX4_amount_26

set_option maxHeartbeats 4000000 in
set_option maxRecDepth 100000 in
theorem c_X4_payed {l : Launch} {G : mG} {V : mV} {α : Nat → Nat} {f : sT} {nr nw ns : Nat} {th : Int32} (hM : mM G V α f nr nw ns th) (si w a r : Nat) (hs : si < 80) (hw0 : w < 12) (h9 : f 9 si = nI w) (h8 : f 8 w = nI r) (hr0 : r < 4) (ha : a < 34848) (h10 : f 10 si = nI a) (hnr : nr ≤ 16) (N : Nat) (hN : s_paid f si = nI N) (hN2 : N ≤ 64)  : Met l yX4_payed wsX4_payed ({ frames := 3, cells := 0, slots := 0, locals := 73 }) (va_Pc [.ref (α (10)), .int (nI (si))] (fun U => mW G V α U U.heap)) (vp_Si (fun r9 => r9 = s_sum f nr si w a r N)) 0 0 (fun _ => False) := by
  refine Met.ofW (cc := cX4_payed) (maxL := 4) (ret := (some .int)) (by decide) rfl ?_
  intro p e s m args below meth c s₁ B hml hv
  obtain ⟨rfl, hw⟩ := hv
  have hx := B.exec
  have hb := B.bytes
  have hr := B.returns
  have hts := atoms_spec (ws := wsX4_payed) B.pre
  have hown : s.vm.findClass RX4 = some m.cls := findClass_of_methodNamed B.named
  have hlocks := B.notSynchronized
  obtain ⟨m10, m11, m12, m13, m14, m15, m16, m17, m18, m19, m20, m21, m22, m23, m24⟩ := id hM
  have fl_7 := hts (.fieldLink RX4 7 "RosterPayModel" "base" "[I") (by decide +kernel)
  have in_X4 : ∀ w ∈ u_ws RX4 TX4 18, w ∈ wsX4_payed := by decide +kernel
  have fl_35 := hts (.fieldLink RX4 35 "RosterPayModel" "rank" "[I") (by decide +kernel)
  have fl_38 := hts (.fieldLink RX4 38 "RosterPayModel" "by" "[I") (by decide +kernel)
  have hl := lv_entry ([.ref (α (10)), .int (nI (si))]) (n := 4) (Nat.le_of_ble_eq_true rfl)
  rw [lg_entry_eq]
  generalize (lg_sl ([.ref (α (10)), .int (nI (si))]) ++ List.replicate (4 - (lg_sl ([.ref (α (10)), .int (nI (si))])).length) Slot.unset).toArray = ls at hl ⊢
  have hl : lv_has ls 4 [(0, .ref (α (10))), (1, .int (nI (si)))] := hl
  refine lv_iconst (v := (2)) hx hb dX4_payed_0 (by decide) ?_
  refine lv_aload_n hx hb dX4_payed_1 rfl (lv_at hl 0 rfl) ?_
  refine lv_iload_n hx hb dX4_payed_2 rfl (lv_at hl 1 rfl) ?_
  refine mcallVi hw (m10) rfl rfl ⟨hx, hb, hml, hown, hts⟩ (c_X4_lacks hM si (by omega)) (cwV 1 hts gX4_payed_X4_lacks rfl rfl rfl (by decide +kernel) ⟨Nat.le_of_ble_eq_true rfl, Nat.le_of_ble_eq_true rfl⟩) rfl hl.1 rfl (Nat.le_of_ble_eq_true rfl) dX4_payed_3 ⟨Nat.le_of_ble_eq_true rfl, Nat.le_of_ble_eq_true rfl⟩ ?_
  refine lv_imul hx hb dX4_payed_6 ?_
  refine lv_aload_n hx hb dX4_payed_7 rfl (lv_at hl 0 rfl) ?_
  refine mget (C := RX4) (T := TX4) (N := 18) (ci := 5) hx hb hts in_X4 hown hw (m10) rfl 0 (by decide) fl_7 rfl dX4_payed_8 ?_
  refine lv_aload_n hx hb dX4_payed_11 rfl (lv_at hl 0 rfl) ?_
  refine mget (C := RX4) (T := TX4) (N := 18) (ci := 5) hx hb hts in_X4 hown hw (m10) rfl 10 (by decide) fl_35 rfl dX4_payed_12 ?_
  refine lv_aload_n hx hb dX4_payed_15 rfl (lv_at hl 0 rfl) ?_
  refine mget (C := RX4) (T := TX4) (N := 18) (ci := 5) hx hb hts in_X4 hown hw (m10) rfl 12 (by decide) fl_38 rfl dX4_payed_16 ?_
  refine lv_iload_n hx hb dX4_payed_19 rfl (lv_at hl 1 rfl) ?_
  refine miald' (k := si) hx hb hw (m20) (rfl) (by omega) (by decide) dX4_payed_20 ?_
  refine miald' (k := w) hx hb hw (m19) (h9) (by omega) (by decide) dX4_payed_21 ?_
  refine miald' (k := r) hx hb hw (m11) (h8) (by omega) (by decide) dX4_payed_22 ?_
  refine lv_imul hx hb dX4_payed_23 ?_
  refine lv_topi (fun y1 ey1 => ?_)
  obtain rfl : y1 = (s_sum f nr si w a r 0) := ey1.trans (rfl)
  refine lv_istore_n (lv' := [(2, .int (s_sum f nr si w a r 0)), (0, .ref (α (10))), (1, .int (nI (si)))]) hx hb dX4_payed_24 rfl hl (by decide) rfl (fun ls hl => ?_)
  refine lv_iconst (v := (0)) hx hb dX4_payed_25 (by decide) ?_
  refine lv_topi (fun y2 ey2 => ?_)
  obtain rfl : y2 = (nI (0)) := ey2.trans (rfl)
  refine lv_istore_n (lv' := [(3, .int (nI (0))), (2, .int (s_sum f nr si w a r 0)), (0, .ref (α (10))), (1, .int (nI (si)))]) hx hb dX4_payed_26 rfl hl (by decide) rfl (fun ls hl => ?_)
  refine mloop (nL := 4) (N) (fun j => [(0, .ref (α (10))), (1, .int (nI (si))), (2, .int (s_sum f nr si w a r j)), (3, .int (nI (j)))]) ?_ ?_ ls (lv_sub hl [2, 3, 1, 0] rfl)
  ·
    intro ls hl
    have hl : lv_has ls 4 [(0, .ref (α (10))), (1, .int (nI (si))), (2, .int (s_sum f nr si w a r N)), (3, .int (nI (N)))] := hl
    refine lv_iload_n hx hb dX4_payed_27 rfl (lv_at hl 3 rfl) ?_
    refine lv_aload_n hx hb dX4_payed_28 rfl (lv_at hl 0 rfl) ?_
    refine lv_iload_n hx hb dX4_payed_29 rfl (lv_at hl 1 rfl) ?_
    refine mcallVi hw (m10) rfl rfl ⟨hx, hb, hml, hown, hts⟩ (c_X4_paid hM si (by omega)) (cwV 1 hts gX4_payed_X4_paid rfl rfl rfl (by decide +kernel) ⟨Nat.le_of_ble_eq_true rfl, Nat.le_of_ble_eq_true rfl⟩) rfl hl.1 rfl (Nat.le_of_ble_eq_true rfl) dX4_payed_30 ⟨Nat.le_of_ble_eq_true rfl, Nat.le_of_ble_eq_true rfl⟩ ?_
    refine lv_topi (fun y3 ey3 => ?_)
    obtain rfl : y3 = (nI (N)) := ey3.trans (hN)
    refine lv_icmp_ge (tgt := 51) hx hb dX4_payed_33 (by decide) (fun c4 => ?_) (fun z => absurd ((nI_le (Nat.le_refl _) (by omega))) z)
    refine lv_iload_n hx hb dX4_payed_51 rfl (lv_at hl 2 rfl) ?_
    exact W.iret (v := s_sum f nr si w a r N) hx hb hr (fun t ht hW => ⟨_, rfl, rfl, ht⟩) (fun _ h => absurd h List.not_mem_nil) dX4_payed_52
  ·
    intro j hj ihj ls hl
    have hl : lv_has ls 4 [(0, .ref (α (10))), (1, .int (nI (si))), (2, .int (s_sum f nr si w a r j)), (3, .int (nI (j)))] := hl
    refine lv_iload_n hx hb dX4_payed_27 rfl (lv_at hl 3 rfl) ?_
    refine lv_aload_n hx hb dX4_payed_28 rfl (lv_at hl 0 rfl) ?_
    refine lv_iload_n hx hb dX4_payed_29 rfl (lv_at hl 1 rfl) ?_
    refine mcallVi hw (m10) rfl rfl ⟨hx, hb, hml, hown, hts⟩ (c_X4_paid hM si (by omega)) (cwV 1 hts gX4_payed_X4_paid rfl rfl rfl (by decide +kernel) ⟨Nat.le_of_ble_eq_true rfl, Nat.le_of_ble_eq_true rfl⟩) rfl hl.1 rfl (Nat.le_of_ble_eq_true rfl) dX4_payed_30 ⟨Nat.le_of_ble_eq_true rfl, Nat.le_of_ble_eq_true rfl⟩ ?_
    refine lv_topi (fun y5 ey5 => ?_)
    obtain rfl : y5 = (nI (N)) := ey5.trans (hN)
    refine lv_icmp_ge (tgt := 51) hx hb dX4_payed_33 (by decide) (fun z => absurd z ((nI_ge hj (by omega)))) (fun c6 => ?_)
    refine lv_iload_n hx hb dX4_payed_36 rfl (lv_at hl 2 rfl) ?_
    refine lv_aload_n hx hb dX4_payed_37 rfl (lv_at hl 0 rfl) ?_
    refine lv_iload_n hx hb dX4_payed_38 rfl (lv_at hl 1 rfl) ?_
    refine lv_iload_n hx hb dX4_payed_39 rfl (lv_at hl 3 rfl) ?_
    refine mcallVi hw (m10) rfl rfl ⟨hx, hb, hml, hown, hts⟩ (c_X4_amount hM si w a r hs hw0 h9 h8 hr0 ha h10 hnr j (by omega)) (cwV 2 hts gX4_payed_X4_amount rfl rfl rfl (by decide +kernel) ⟨Nat.le_of_ble_eq_true rfl, Nat.le_of_ble_eq_true rfl⟩) rfl hl.1 rfl (Nat.le_of_ble_eq_true rfl) dX4_payed_40 ⟨Nat.le_of_ble_eq_true rfl, Nat.le_of_ble_eq_true rfl⟩ ?_
    refine lv_iadd hx hb dX4_payed_43 ?_
    refine lv_topi (fun y7 ey7 => ?_)
    obtain rfl : y7 = (s_sum f nr si w a r (j + 1)) := ey7.trans (rfl)
    refine lv_istore_n (lv' := [(2, .int (s_sum f nr si w a r (j + 1))), (0, .ref (α (10))), (1, .int (nI (si))), (3, .int (nI (j)))]) hx hb dX4_payed_44 rfl hl (by decide) rfl (fun ls hl => ?_)
    refine lv_iinc (v := nI (j + 1)) (lv' := [(3, .int (nI (j + 1))), (2, .int (s_sum f nr si w a r (j + 1))), (0, .ref (α (10))), (1, .int (nI (si)))]) hx hb dX4_payed_45 hl (k := 3) rfl (nI_1 (j)) (by decide) rfl (fun ls hl => ?_)
    refine lv_goto (tgt := 27) hx hb dX4_payed_48 (by decide) ?_
    exact ihj ls (lv_sub hl [2, 3, 1, 0] rfl)

set_option maxHeartbeats 4000000 in
set_option maxRecDepth 100000 in
theorem c_X4_hours {l : Launch} {G : mG} {V : mV} {α : Nat → Nat} {f : sT} {nr nw ns : Nat} {th : Int32} (hM : mM G V α f nr nw ns th) (x : Int32) (d n : Nat) (hns : ns ≤ 80)  : Met l yX4_hours wsX4_hours ({ frames := 0, cells := 0, slots := 0, locals := 0 }) (va_Pc [.ref (α (10)), .int (x), .int (nI (d)), .int (nI (n))] (fun U => mW G V α U U.heap)) (vp_Si (fun r9 => r9 = s_hr f x (nI (96 * d)) (nI (96 * (d + n))) ns)) 0 0 (fun _ => False) := by
  refine Met.ofW (cc := cX4_hours) (maxL := 10) (ret := (some .int)) (by decide) rfl ?_
  intro p e s m args below meth c s₁ B hml hv
  obtain ⟨rfl, hw⟩ := hv
  have hx := B.exec
  have hb := B.bytes
  have hr := B.returns
  have hts := atoms_spec (ws := wsX4_hours) B.pre
  have hown : s.vm.findClass RX4 = some m.cls := findClass_of_methodNamed B.named
  have hlocks := B.notSynchronized
  obtain ⟨m10, m11, m12, m13, m14, m15, m16, m17, m18, m19, m20, m21, m22, m23, m24⟩ := id hM
  have fl_67 := hts (.fieldLink RX4 67 "RosterPayModel" "shifts" "I") (by decide +kernel)
  have in_X4 : ∀ w ∈ u_ws RX4 TX4 18, w ∈ wsX4_hours := by decide +kernel
  have fl_50 := hts (.fieldLink RX4 50 "RosterPayModel" "gone" "[Z") (by decide +kernel)
  have fl_38 := hts (.fieldLink RX4 38 "RosterPayModel" "by" "[I") (by decide +kernel)
  have fl_41 := hts (.fieldLink RX4 41 "RosterPayModel" "start" "[I") (by decide +kernel)
  have fl_44 := hts (.fieldLink RX4 44 "RosterPayModel" "length" "[I") (by decide +kernel)
  have hl := lv_entry ([.ref (α (10)), .int (x), .int (nI (d)), .int (nI (n))]) (n := 10) (Nat.le_of_ble_eq_true rfl)
  rw [lg_entry_eq]
  generalize (lg_sl ([.ref (α (10)), .int (x), .int (nI (d)), .int (nI (n))]) ++ List.replicate (10 - (lg_sl ([.ref (α (10)), .int (x), .int (nI (d)), .int (nI (n))])).length) Slot.unset).toArray = ls at hl ⊢
  have hl : lv_has ls 10 [(0, .ref (α (10))), (1, .int (x)), (2, .int (nI (d))), (3, .int (nI (n)))] := hl
  refine lv_bipush (v := (96)) hx hb dX4_hours_0 (by decide) ?_
  refine lv_iload_n hx hb dX4_hours_2 rfl (lv_at hl 2 rfl) ?_
  refine lv_imul hx hb dX4_hours_3 ?_
  refine lv_topi (fun y1 ey1 => ?_)
  obtain rfl : y1 = (nI (96 * d)) := ey1.trans (pk_mul 96 d)
  refine lv_istore (lv' := [(4, .int (nI (96 * d))), (0, .ref (α (10))), (1, .int (x)), (2, .int (nI (d))), (3, .int (nI (n)))]) hx hb dX4_hours_4 hl (by decide) rfl (fun ls hl => ?_)
  refine lv_bipush (v := (96)) hx hb dX4_hours_6 (by decide) ?_
  refine lv_iload_n hx hb dX4_hours_8 rfl (lv_at hl 3 rfl) ?_
  refine lv_iload_n hx hb dX4_hours_9 rfl (lv_at hl 4 rfl) ?_
  refine lv_iadd hx hb dX4_hours_10 ?_
  refine lv_imul hx hb dX4_hours_11 ?_
  refine lv_topi (fun y2 ey2 => ?_)
  obtain rfl : y2 = (nI (96 * (d + n))) := ey2.trans (by rw [nI_add]; exact pk_mul 96 (d + n))
  refine lv_istore (lv' := [(5, .int (nI (96 * (d + n)))), (4, .int (nI (96 * d))), (0, .ref (α (10))), (1, .int (x)), (2, .int (nI (d))), (3, .int (nI (n)))]) hx hb dX4_hours_12 hl (by decide) rfl (fun ls hl => ?_)
  refine lv_iconst (v := (0)) hx hb dX4_hours_14 (by decide) ?_
  refine lv_topi (fun y3 ey3 => ?_)
  obtain rfl : y3 = (s_hr f x (nI (96 * d)) (nI (96 * (d + n))) 0) := ey3.trans (rfl)
  refine lv_istore (lv' := [(6, .int (s_hr f x (nI (96 * d)) (nI (96 * (d + n))) 0)), (5, .int (nI (96 * (d + n)))), (4, .int (nI (96 * d))), (0, .ref (α (10))), (1, .int (x)), (2, .int (nI (d))), (3, .int (nI (n)))]) hx hb dX4_hours_15 hl (by decide) rfl (fun ls hl => ?_)
  refine lv_iconst (v := (0)) hx hb dX4_hours_17 (by decide) ?_
  refine lv_topi (fun y4 ey4 => ?_)
  obtain rfl : y4 = (nI (0)) := ey4.trans (rfl)
  refine lv_istore (lv' := [(7, .int (nI (0))), (6, .int (s_hr f x (nI (96 * d)) (nI (96 * (d + n))) 0)), (5, .int (nI (96 * (d + n)))), (4, .int (nI (96 * d))), (0, .ref (α (10))), (1, .int (x)), (2, .int (nI (d))), (3, .int (nI (n)))]) hx hb dX4_hours_18 hl (by decide) rfl (fun ls hl => ?_)
  refine mloop (nL := 10) (ns) (fun j => [(0, .ref (α (10))), (1, .int (x)), (2, .int (nI (d))), (3, .int (nI (n))), (4, .int (nI (96 * d))), (5, .int (nI (96 * (d + n)))), (6, .int (s_hr f x (nI (96 * d)) (nI (96 * (d + n))) j)), (7, .int (nI (j)))]) ?_ ?_ ls (lv_sub hl [4, 5, 6, 7, 3, 2, 1, 0] rfl)
  ·
    intro ls hl
    have hl : lv_has ls 10 [(0, .ref (α (10))), (1, .int (x)), (2, .int (nI (d))), (3, .int (nI (n))), (4, .int (nI (96 * d))), (5, .int (nI (96 * (d + n)))), (6, .int (s_hr f x (nI (96 * d)) (nI (96 * (d + n))) ns)), (7, .int (nI (ns)))] := hl
    refine lv_iload hx hb dX4_hours_20 (lv_at hl 7 rfl) ?_
    refine lv_aload_n hx hb dX4_hours_22 rfl (lv_at hl 0 rfl) ?_
    refine mget (C := RX4) (T := TX4) (N := 18) (ci := 5) hx hb hts in_X4 hown hw (m10) rfl 11 (by decide) fl_67 rfl dX4_hours_23 ?_
    refine lv_icmp_ge (tgt := 145) hx hb dX4_hours_26 (by decide) (fun c5 => ?_) (fun z => absurd ((nI_le (Nat.le_refl _) (by omega))) z)
    refine lv_iload hx hb dX4_hours_145 (lv_at hl 6 rfl) ?_
    exact W.iret (v := s_hr f x (nI (96 * d)) (nI (96 * (d + n))) ns) hx hb hr (fun t ht hW => ⟨_, rfl, rfl, ht⟩) (fun _ h => absurd h List.not_mem_nil) dX4_hours_147
  ·
    intro j hj ihj ls hl
    have hl : lv_has ls 10 [(0, .ref (α (10))), (1, .int (x)), (2, .int (nI (d))), (3, .int (nI (n))), (4, .int (nI (96 * d))), (5, .int (nI (96 * (d + n)))), (6, .int (s_hr f x (nI (96 * d)) (nI (96 * (d + n))) j)), (7, .int (nI (j)))] := hl
    refine lv_iload hx hb dX4_hours_20 (lv_at hl 7 rfl) ?_
    refine lv_aload_n hx hb dX4_hours_22 rfl (lv_at hl 0 rfl) ?_
    refine mget (C := RX4) (T := TX4) (N := 18) (ci := 5) hx hb hts in_X4 hown hw (m10) rfl 11 (by decide) fl_67 rfl dX4_hours_23 ?_
    refine lv_icmp_ge (tgt := 145) hx hb dX4_hours_26 (by decide) (fun z => absurd z ((nI_ge hj (by omega)))) (fun c6 => ?_)
    refine mjoin (E := s_fi f (nI (96 * d)) j) (pcJ := 53) (st := []) ?_ (fun J7 => ?_)
    ·
      refine lv_istore (lv' := [(8, .int (s_fi f (nI (96 * d)) j)), (0, .ref (α (10))), (1, .int (x)), (2, .int (nI (d))), (3, .int (nI (n))), (4, .int (nI (96 * d))), (5, .int (nI (96 * (d + n)))), (6, .int (s_hr f x (nI (96 * d)) (nI (96 * (d + n))) j)), (7, .int (nI (j)))]) hx hb dX4_hours_53 hl (by decide) rfl (fun ls hl => ?_)
      refine mjoin (E := s_en f (nI (96 * (d + n))) j) (pcJ := 95) (st := []) ?_ (fun J8 => ?_)
      ·
        refine lv_istore (lv' := [(9, .int (s_en f (nI (96 * (d + n))) j)), (8, .int (s_fi f (nI (96 * d)) j)), (0, .ref (α (10))), (1, .int (x)), (2, .int (nI (d))), (3, .int (nI (n))), (4, .int (nI (96 * d))), (5, .int (nI (96 * (d + n)))), (6, .int (s_hr f x (nI (96 * d)) (nI (96 * (d + n))) j)), (7, .int (nI (j)))]) hx hb dX4_hours_95 hl (by decide) rfl (fun ls hl => ?_)
        refine lv_iload hx hb dX4_hours_97 (lv_at hl 8 rfl) ?_
        refine mjoin (E := s_h1 f x (nI (96 * d)) (nI (96 * (d + n))) j) (pcJ := 136) (st := [.int (s_hr f x (nI (96 * d)) (nI (96 * (d + n))) j)]) ?_ (fun J9 => ?_)
        ·
          refine lv_iadd hx hb dX4_hours_136 ?_
          refine lv_topi (fun y10 ey10 => ?_)
          obtain rfl : y10 = (s_hr f x (nI (96 * d)) (nI (96 * (d + n))) (j + 1)) := ey10.trans (rfl)
          refine lv_istore (lv' := [(6, .int (s_hr f x (nI (96 * d)) (nI (96 * (d + n))) (j + 1))), (9, .int (s_en f (nI (96 * (d + n))) j)), (8, .int (s_fi f (nI (96 * d)) j)), (0, .ref (α (10))), (1, .int (x)), (2, .int (nI (d))), (3, .int (nI (n))), (4, .int (nI (96 * d))), (5, .int (nI (96 * (d + n)))), (7, .int (nI (j)))]) hx hb dX4_hours_137 hl (by decide) rfl (fun ls hl => ?_)
          refine lv_iinc (v := nI (j + 1)) (lv' := [(7, .int (nI (j + 1))), (6, .int (s_hr f x (nI (96 * d)) (nI (96 * (d + n))) (j + 1))), (9, .int (s_en f (nI (96 * (d + n))) j)), (8, .int (s_fi f (nI (96 * d)) j)), (0, .ref (α (10))), (1, .int (x)), (2, .int (nI (d))), (3, .int (nI (n))), (4, .int (nI (96 * d))), (5, .int (nI (96 * (d + n))))]) hx hb dX4_hours_139 hl (k := 9) rfl (nI_1 (j)) (by decide) rfl (fun ls hl => ?_)
          refine lv_goto (tgt := 20) hx hb dX4_hours_142 (by decide) ?_
          exact ihj ls (lv_sub hl [4, 5, 6, 7, 8, 9, 1, 0] rfl)
        ·
          refine lv_aload_n hx hb dX4_hours_99 rfl (lv_at hl 2 rfl) ?_
          refine mget (C := RX4) (T := TX4) (N := 18) (ci := 5) hx hb hts in_X4 hown hw (m10) rfl 16 (by decide) fl_50 rfl dX4_hours_100 ?_
          refine lv_iload hx hb dX4_hours_103 (lv_at hl 9 rfl) ?_
          refine mzald' (k := j) hx hb hw (m24) (rfl) (by omega) (by decide) dX4_hours_105 ?_
          refine lv_if_ne (tgt := 135) hx hb dX4_hours_106 (by decide) (fun c11 => ?_) (fun c11 => ?_)
          ·
            refine lv_iconst (v := (0)) hx hb dX4_hours_135 (by decide) ?_
            exact J9 _ ((by unfold s_h1; rw [if_neg c11]))
          ·
            refine lv_aload_n hx hb dX4_hours_109 rfl (lv_at hl 2 rfl) ?_
            refine mget (C := RX4) (T := TX4) (N := 18) (ci := 5) hx hb hts in_X4 hown hw (m10) rfl 12 (by decide) fl_38 rfl dX4_hours_110 ?_
            refine lv_iload hx hb dX4_hours_113 (lv_at hl 9 rfl) ?_
            refine miald' (k := j) hx hb hw (m20) (rfl) (by omega) (by decide) dX4_hours_115 ?_
            refine lv_iload_n hx hb dX4_hours_116 rfl (lv_at hl 3 rfl) ?_
            refine lv_icmp_ne (tgt := 135) hx hb dX4_hours_117 (by decide) (fun c12 => ?_) (fun c12 => ?_)
            ·
              refine lv_iconst (v := (0)) hx hb dX4_hours_135 (by decide) ?_
              exact J9 _ ((by unfold s_h1; rw [if_pos c11, if_neg c12]))
            ·
              refine lv_iload hx hb dX4_hours_120 (lv_at hl 0 rfl) ?_
              refine lv_iload hx hb dX4_hours_122 (lv_at hl 1 rfl) ?_
              refine lv_icmp_le (tgt := 135) hx hb dX4_hours_124 (by decide) (fun c13 => ?_) (fun c13 => ?_)
              ·
                refine lv_iconst (v := (0)) hx hb dX4_hours_135 (by decide) ?_
                exact J9 _ ((by unfold s_h1; rw [if_pos c11, if_pos c12, if_pos c13]))
              ·
                refine lv_iload hx hb dX4_hours_127 (lv_at hl 0 rfl) ?_
                refine lv_iload hx hb dX4_hours_129 (lv_at hl 1 rfl) ?_
                refine lv_isub hx hb dX4_hours_131 ?_
                refine lv_goto (tgt := 136) hx hb dX4_hours_132 (by decide) ?_
                exact J9 _ ((by unfold s_h1; rw [if_pos c11, if_pos c12, if_neg c13]))
      ·
        refine lv_aload_n hx hb dX4_hours_55 rfl (lv_at hl 1 rfl) ?_
        refine mget (C := RX4) (T := TX4) (N := 18) (ci := 5) hx hb hts in_X4 hown hw (m10) rfl 13 (by decide) fl_41 rfl dX4_hours_56 ?_
        refine lv_iload hx hb dX4_hours_59 (lv_at hl 8 rfl) ?_
        refine miald' (k := j) hx hb hw (m21) (rfl) (by omega) (by decide) dX4_hours_61 ?_
        refine lv_aload_n hx hb dX4_hours_62 rfl (lv_at hl 1 rfl) ?_
        refine mget (C := RX4) (T := TX4) (N := 18) (ci := 5) hx hb hts in_X4 hown hw (m10) rfl 14 (by decide) fl_44 rfl dX4_hours_63 ?_
        refine lv_iload hx hb dX4_hours_66 (lv_at hl 8 rfl) ?_
        refine miald' (k := j) hx hb hw (m22) (rfl) (by omega) (by decide) dX4_hours_68 ?_
        refine lv_iadd hx hb dX4_hours_69 ?_
        refine lv_iload hx hb dX4_hours_70 (lv_at hl 6 rfl) ?_
        refine lv_icmp_ge (tgt := 93) hx hb dX4_hours_72 (by decide) (fun c14 => ?_) (fun c14 => ?_)
        ·
          refine lv_iload hx hb dX4_hours_93 (lv_at hl 6 rfl) ?_
          exact J8 _ ((by unfold s_en; rw [if_pos c14]))
        ·
          refine lv_aload_n hx hb dX4_hours_75 rfl (lv_at hl 1 rfl) ?_
          refine mget (C := RX4) (T := TX4) (N := 18) (ci := 5) hx hb hts in_X4 hown hw (m10) rfl 13 (by decide) fl_41 rfl dX4_hours_76 ?_
          refine lv_iload hx hb dX4_hours_79 (lv_at hl 8 rfl) ?_
          refine miald' (k := j) hx hb hw (m21) (rfl) (by omega) (by decide) dX4_hours_81 ?_
          refine lv_aload_n hx hb dX4_hours_82 rfl (lv_at hl 1 rfl) ?_
          refine mget (C := RX4) (T := TX4) (N := 18) (ci := 5) hx hb hts in_X4 hown hw (m10) rfl 14 (by decide) fl_44 rfl dX4_hours_83 ?_
          refine lv_iload hx hb dX4_hours_86 (lv_at hl 8 rfl) ?_
          refine miald' (k := j) hx hb hw (m22) (rfl) (by omega) (by decide) dX4_hours_88 ?_
          refine lv_iadd hx hb dX4_hours_89 ?_
          refine lv_goto (tgt := 95) hx hb dX4_hours_90 (by decide) ?_
          exact J8 _ ((by unfold s_en; rw [if_neg c14]))
    ·
      refine lv_aload_n hx hb dX4_hours_29 rfl (lv_at hl 0 rfl) ?_
      refine mget (C := RX4) (T := TX4) (N := 18) (ci := 5) hx hb hts in_X4 hown hw (m10) rfl 13 (by decide) fl_41 rfl dX4_hours_30 ?_
      refine lv_iload hx hb dX4_hours_33 (lv_at hl 7 rfl) ?_
      refine miald' (k := j) hx hb hw (m21) (rfl) (by omega) (by decide) dX4_hours_35 ?_
      refine lv_iload hx hb dX4_hours_36 (lv_at hl 4 rfl) ?_
      refine lv_icmp_le (tgt := 51) hx hb dX4_hours_38 (by decide) (fun c15 => ?_) (fun c15 => ?_)
      ·
        refine lv_iload hx hb dX4_hours_51 (lv_at hl 4 rfl) ?_
        exact J7 _ ((by unfold s_fi; rw [if_pos c15]))
      ·
        refine lv_aload_n hx hb dX4_hours_41 rfl (lv_at hl 0 rfl) ?_
        refine mget (C := RX4) (T := TX4) (N := 18) (ci := 5) hx hb hts in_X4 hown hw (m10) rfl 13 (by decide) fl_41 rfl dX4_hours_42 ?_
        refine lv_iload hx hb dX4_hours_45 (lv_at hl 7 rfl) ?_
        refine miald' (k := j) hx hb hw (m21) (rfl) (by omega) (by decide) dX4_hours_47 ?_
        refine lv_goto (tgt := 53) hx hb dX4_hours_48 (by decide) ?_
        exact J7 _ ((by unfold s_fi; rw [if_neg c15]))

set_option maxHeartbeats 4000000 in
set_option maxRecDepth 100000 in
theorem c_X4_isWorker {l : Launch} {G : mG} {V : mV} {α : Nat → Nat} {f : sT} {nr nw ns : Nat} {th : Int32} (hM : mM G V α f nr nw ns th) (x : Int32)  : Met l yX4_isWorker wsX4_isWorker ({ frames := 1, cells := 0, slots := 0, locals := 22 }) (va_Pc [.ref (α (10)), .int (x)] (fun U => mW G V α U U.heap)) (vp_Si (fun r9 => r9 = bI (inn x 0 (nI nw - 1)))) 0 0 (fun _ => False) := by
  refine Met.ofW (cc := cX4_isWorker) (maxL := 2) (ret := (some .boolean)) (by decide) rfl ?_
  intro p e s m args below meth c s₁ B hml hv
  obtain ⟨rfl, hw⟩ := hv
  have hx := B.exec
  have hb := B.bytes
  have hr := B.returns
  have hts := atoms_spec (ws := wsX4_isWorker) B.pre
  have hown : s.vm.findClass RX4 = some m.cls := findClass_of_methodNamed B.named
  have hlocks := B.notSynchronized
  obtain ⟨m10, m11, m12, m13, m14, m15, m16, m17, m18, m19, m20, m21, m22, m23, m24⟩ := id hM
  have fl_64 := hts (.fieldLink RX4 64 "RosterPayModel" "workers" "I") (by decide +kernel)
  have in_X4 : ∀ w ∈ u_ws RX4 TX4 18, w ∈ wsX4_isWorker := by decide +kernel
  have hl := lv_entry ([.ref (α (10)), .int (x)]) (n := 2) (Nat.le_of_ble_eq_true rfl)
  rw [lg_entry_eq]
  generalize (lg_sl ([.ref (α (10)), .int (x)]) ++ List.replicate (2 - (lg_sl ([.ref (α (10)), .int (x)])).length) Slot.unset).toArray = ls at hl ⊢
  have hl : lv_has ls 2 [(0, .ref (α (10))), (1, .int (x))] := hl
  refine lv_iload_n hx hb dX4_isWorker_0 rfl (lv_at hl 1 rfl) ?_
  refine lv_iconst (v := (0)) hx hb dX4_isWorker_1 (by decide) ?_
  refine lv_aload_n hx hb dX4_isWorker_2 rfl (lv_at hl 0 rfl) ?_
  refine mget (C := RX4) (T := TX4) (N := 18) (ci := 5) hx hb hts in_X4 hown hw (m10) rfl 9 (by decide) fl_64 rfl dX4_isWorker_3 ?_
  refine lv_iconst (v := (1)) hx hb dX4_isWorker_6 (by decide) ?_
  refine lv_isub hx hb dX4_isWorker_7 ?_
  refine mcallSi hw ⟨hx, hb, hml, hown, hts⟩ (c_X4_isIn (x) (0) ((nI (nw) - 1))) (va_cwS 3 hts gX4_isWorker_X4_isIn rfl rfl rfl (by decide +kernel) ⟨Nat.le_of_ble_eq_true rfl, Nat.le_of_ble_eq_true rfl⟩) rfl hl.1 rfl (Nat.le_of_ble_eq_true rfl) dX4_isWorker_8 ⟨Nat.le_of_ble_eq_true rfl, Nat.le_of_ble_eq_true rfl⟩ ?_
  exact W.zret (v := bI (inn (x) (0) ((nI (nw) - 1)))) hx hb hr (bI_nar) (fun t ht hW => ⟨_, rfl, rfl, ht⟩) (fun _ h => absurd h List.not_mem_nil) dX4_isWorker_11
