theorem inn_of {x : Int32} {n : Nat} (hn : n < 2 ^ 31) (h0 : ¬ x < 0) (h1 : x < nI n) : inn x 0 (nI n - 1) := by
  obtain ⟨j, hj, rfl⟩ := nI_of h0
  exact inn_ix ((nI_ltI hj hn).mp h1) hn

set_option maxHeartbeats 4000000 in
set_option maxRecDepth 100000 in
theorem c_X3_checkArgument {l : Launch} {G : mG} {V : mV} {α : Nat → Nat} (x lo hi : Int32) (hok : inn x lo hi)  : Met l yX3_checkArgument wsX3_checkArgument ({ frames := 0, cells := 0, slots := 0, locals := 0 }) (va_Pc [.int (x), .int (lo), .int (hi)] (fun U => mW G V α U U.heap)) (va_Sv (fun _ => True)) 0 0 (fun _ => False) := by
  refine Met.ofW (cc := cX3_checkArgument) (maxL := 3) (ret := none) (by decide) rfl ?_
  intro p e s m args below meth c s₁ B hml hv
  obtain ⟨rfl, hw⟩ := hv
  have hx := B.exec
  have hb := B.bytes
  have hr := B.returns
  have hts := atoms_spec (ws := wsX3_checkArgument) B.pre
  have hown : s.vm.findClass RX3 = some m.cls := findClass_of_methodNamed B.named
  have hlocks := B.notSynchronized
  have hl := lv_entry ([.int (x), .int (lo), .int (hi)]) (n := 3) (Nat.le_of_ble_eq_true rfl)
  rw [lg_entry_eq]
  generalize (lg_sl ([.int (x), .int (lo), .int (hi)]) ++ List.replicate (3 - (lg_sl ([.int (x), .int (lo), .int (hi)])).length) Slot.unset).toArray = ls at hl ⊢
  have hl : lv_has ls 3 [(0, .int (x)), (1, .int (lo)), (2, .int (hi))] := hl
  refine lv_iload_n hx hb dX3_checkArgument_0 rfl (lv_at hl 0 rfl) ?_
  refine lv_iload_n hx hb dX3_checkArgument_1 rfl (lv_at hl 1 rfl) ?_
  refine lv_icmp_lt (tgt := 10) hx hb dX3_checkArgument_2 (by decide) (fun z => absurd z (hok.1)) (fun c1 => ?_)
  refine lv_iload_n hx hb dX3_checkArgument_5 rfl (lv_at hl 0 rfl) ?_
  refine lv_iload_n hx hb dX3_checkArgument_6 rfl (lv_at hl 2 rfl) ?_
  refine lv_icmp_le (tgt := 20) hx hb dX3_checkArgument_7 (by decide) (fun c2 => ?_) (fun z => absurd ((Int32.not_lt.mp hok.2)) z)
  exact W.vret hx hb hr (fun t ht hW => ⟨rfl, trivial, ht⟩) (fun _ h => absurd h List.not_mem_nil) dX3_checkArgument_20

set_option maxHeartbeats 4000000 in
set_option maxRecDepth 100000 in
theorem t_X3_checkArgument {l : Launch} (hl0 : l.stackTraces = false) {G : mG} {V : mV} {α : Nat → Nat} (x lo hi : Int32) (hbad : ¬ inn x lo hi) : vx_Met l yX3_checkArgument wsX3_checkArgument ({ frames := 6, cells := 1, slots := 6, locals := 82 }) (va_Pc [.int (x), .int (lo), .int (hi)] (fun U => mW G V α U U.heap)) mNo (mXC G V α "java/lang/IllegalArgumentException") 1 6 (mfree G) := by
  refine vx_ofW (cc := cX3_checkArgument) (maxL := 3) (ret := none) (by decide) rfl ?_
  intro p e s m args below meth c s₁ B hml hout hv
  obtain ⟨rfl, hw⟩ := hv
  have hx := B.exec
  have hb := B.bytes
  have hr := B.returns
  have hts := atoms_spec (ws := wsX3_checkArgument) B.pre
  have hown : s.vm.findClass RX3 = some m.cls := findClass_of_methodNamed B.named
  have hlocks := B.notSynchronized
  have hS : va_S (mfree G) s.heap s.heap [] := va_S.rf
  have tk_36 := hts (.classLink RX3 36 "java/lang/IllegalArgumentException") (by decide +kernel)
  have ti_36 := hts (.initialized "java/lang/IllegalArgumentException") (by decide +kernel)
  have hat_40 : ∀ w ∈ (vx_atS RX3 40 "java/lang/IllegalArgumentException" ["java/lang/RuntimeException", "java/lang/Exception"]).filter goodWord, w ∈ wsX3_checkArgument := by decide +kernel
  have hl := lv_entry ([.int (x), .int (lo), .int (hi)]) (n := 3) (Nat.le_of_ble_eq_true rfl)
  rw [lg_entry_eq]
  generalize (lg_sl ([.int (x), .int (lo), .int (hi)]) ++ List.replicate (3 - (lg_sl ([.int (x), .int (lo), .int (hi)])).length) Slot.unset).toArray = ls at hl ⊢
  have hl : lv_has ls 3 [(0, .int (x)), (1, .int (lo)), (2, .int (hi))] := hl
  refine lv_iload_n hx hb dX3_checkArgument_0 rfl (lv_at hl 0 rfl) ?_
  refine lv_iload_n hx hb dX3_checkArgument_1 rfl (lv_at hl 1 rfl) ?_
  refine lv_icmp_lt (tgt := 10) hx hb dX3_checkArgument_2 (by decide) (fun c1 => ?_) (fun c1 => ?_)
  ·
    exact mthrowS (text := "an argument is out of range") hx hb hl0 hown (by decide +kernel) tk_36 ti_36 (fun w h9 => hts w (hat_40 w h9)) (by decide +kernel) (by decide +kernel) (by decide) hw hS (hl.1.trans hml.symm) dX3_checkArgument_10 dX3_checkArgument_13 dX3_checkArgument_14 dX3_checkArgument_16 dX3_checkArgument_19 hout (Nat.le_of_ble_eq_true rfl) (Nat.le_of_ble_eq_true rfl) (Nat.le_of_ble_eq_true rfl) (Nat.le_of_ble_eq_true rfl) hlocks
  ·
    refine lv_iload_n hx hb dX3_checkArgument_5 rfl (lv_at hl 0 rfl) ?_
    refine lv_iload_n hx hb dX3_checkArgument_6 rfl (lv_at hl 2 rfl) ?_
    refine lv_icmp_le (tgt := 20) hx hb dX3_checkArgument_7 (by decide) (fun c2 => ?_) (fun c2 => ?_)
    ·
      exact absurd (⟨c1, Int32.not_lt.mpr c2⟩) hbad
    ·
      exact mthrowS (text := "an argument is out of range") hx hb hl0 hown (by decide +kernel) tk_36 ti_36 (fun w h9 => hts w (hat_40 w h9)) (by decide +kernel) (by decide +kernel) (by decide) hw hS (hl.1.trans hml.symm) dX3_checkArgument_10 dX3_checkArgument_13 dX3_checkArgument_14 dX3_checkArgument_16 dX3_checkArgument_19 hout (Nat.le_of_ble_eq_true rfl) (Nat.le_of_ble_eq_true rfl) (Nat.le_of_ble_eq_true rfl) (Nat.le_of_ble_eq_true rfl) hlocks

set_option maxHeartbeats 4000000 in
set_option maxRecDepth 100000 in
theorem c_X3_checkNotCancelled {l : Launch} {G : mG} {V : mV} {α : Nat → Nat} {f : sT} (si : Nat) (hv : V (300 + si) = some (sobj α f si)) (hg : f 13 si = 0)  : Met l yX3_checkNotCancelled wsX3_checkNotCancelled ({ frames := 0, cells := 0, slots := 0, locals := 0 }) (va_Pc [.ref (α (300 + si))] (fun U => mW G V α U U.heap)) (va_Sv (fun _ => True)) 0 0 (fun _ => False) := by
  refine Met.ofW (cc := cX3_checkNotCancelled) (maxL := 1) (ret := none) (by decide) rfl ?_
  intro p e s m args below meth c s₁ B hml hv
  obtain ⟨rfl, hw⟩ := hv
  have hx := B.exec
  have hb := B.bytes
  have hr := B.returns
  have hts := atoms_spec (ws := wsX3_checkNotCancelled) B.pre
  have hown : s.vm.findClass RX3 = some m.cls := findClass_of_methodNamed B.named
  have hlocks := B.notSynchronized
  have fl_113 := hts (.fieldLink RX3 113 "RosterPay$Shift" "isCancelled" "Z") (by decide +kernel)
  have in_X1 : ∀ w ∈ u_ws RX1 TX1 5, w ∈ wsX3_checkNotCancelled := by decide +kernel
  have hl := lv_entry ([.ref (α (300 + si))]) (n := 1) (Nat.le_of_ble_eq_true rfl)
  rw [lg_entry_eq]
  generalize (lg_sl ([.ref (α (300 + si))]) ++ List.replicate (1 - (lg_sl ([.ref (α (300 + si))])).length) Slot.unset).toArray = ls at hl ⊢
  have hl : lv_has ls 1 [(0, .ref (α (300 + si)))] := hl
  refine lv_aload_n hx hb dX3_checkNotCancelled_0 rfl (lv_at hl 0 rfl) ?_
  refine mget (C := RX1) (T := TX1) (N := 5) (ci := 2) hx hb hts in_X1 hown hw (hv) rfl 4 (by decide) fl_113 rfl dX3_checkNotCancelled_1 ?_
  refine lv_if_eq (tgt := 17) hx hb dX3_checkNotCancelled_4 (by decide) (fun c1 => ?_) (fun z => absurd (hg) z)
  exact W.vret hx hb hr (fun t ht hW => ⟨rfl, trivial, ht⟩) (fun _ h => absurd h List.not_mem_nil) dX3_checkNotCancelled_17

set_option maxHeartbeats 4000000 in
set_option maxRecDepth 100000 in
theorem t_X3_checkNotCancelled {l : Launch} (hl0 : l.stackTraces = false) {G : mG} {V : mV} {α : Nat → Nat} {f : sT} (si : Nat) (hv : V (300 + si) = some (sobj α f si)) (hg : ¬ f 13 si = 0) : vx_Met l yX3_checkNotCancelled wsX3_checkNotCancelled ({ frames := 6, cells := 1, slots := 6, locals := 82 }) (va_Pc [.ref (α (300 + si))] (fun U => mW G V α U U.heap)) mNo (mXC G V α "java/lang/IllegalStateException") 1 6 (mfree G) := by
  refine vx_ofW (cc := cX3_checkNotCancelled) (maxL := 1) (ret := none) (by decide) rfl ?_
  intro p e s m args below meth c s₁ B hml hout hv
  obtain ⟨rfl, hw⟩ := hv
  have hx := B.exec
  have hb := B.bytes
  have hr := B.returns
  have hts := atoms_spec (ws := wsX3_checkNotCancelled) B.pre
  have hown : s.vm.findClass RX3 = some m.cls := findClass_of_methodNamed B.named
  have hlocks := B.notSynchronized
  have hS : va_S (mfree G) s.heap s.heap [] := va_S.rf
  have fl_113 := hts (.fieldLink RX3 113 "RosterPay$Shift" "isCancelled" "Z") (by decide +kernel)
  have in_X1 : ∀ w ∈ u_ws RX1 TX1 5, w ∈ wsX3_checkNotCancelled := by decide +kernel
  have tk_51 := hts (.classLink RX3 51 "java/lang/IllegalStateException") (by decide +kernel)
  have ti_51 := hts (.initialized "java/lang/IllegalStateException") (by decide +kernel)
  have hat_55 : ∀ w ∈ (vx_atS RX3 55 "java/lang/IllegalStateException" ["java/lang/RuntimeException", "java/lang/Exception"]).filter goodWord, w ∈ wsX3_checkNotCancelled := by decide +kernel
  have hl := lv_entry ([.ref (α (300 + si))]) (n := 1) (Nat.le_of_ble_eq_true rfl)
  rw [lg_entry_eq]
  generalize (lg_sl ([.ref (α (300 + si))]) ++ List.replicate (1 - (lg_sl ([.ref (α (300 + si))])).length) Slot.unset).toArray = ls at hl ⊢
  have hl : lv_has ls 1 [(0, .ref (α (300 + si)))] := hl
  refine lv_aload_n hx hb dX3_checkNotCancelled_0 rfl (lv_at hl 0 rfl) ?_
  refine mget (C := RX1) (T := TX1) (N := 5) (ci := 2) hx hb hts in_X1 hown hw (hv) rfl 4 (by decide) fl_113 rfl dX3_checkNotCancelled_1 ?_
  refine lv_if_eq (tgt := 17) hx hb dX3_checkNotCancelled_4 (by decide) (fun z => absurd z (hg)) (fun c1 => ?_)
  exact mthrowS (text := "the shift was cancelled") hx hb hl0 hown (by decide +kernel) tk_51 ti_51 (fun w h9 => hts w (hat_55 w h9)) (by decide +kernel) (by decide +kernel) (by decide) hw hS (hl.1.trans hml.symm) dX3_checkNotCancelled_7 dX3_checkNotCancelled_10 dX3_checkNotCancelled_11 dX3_checkNotCancelled_13 dX3_checkNotCancelled_16 hout (Nat.le_of_ble_eq_true rfl) (Nat.le_of_ble_eq_true rfl) (Nat.le_of_ble_eq_true rfl) (Nat.le_of_ble_eq_true rfl) hlocks

set_option maxHeartbeats 4000000 in
set_option maxRecDepth 100000 in
theorem c_X3_checkPaidQuarter {l : Launch} {G : mG} {V : mV} {α : Nat → Nat} {f : sT} (si : Nat) (hv : V (300 + si) = some (sobj α f si)) (n q : Nat) (hN : s_paid f si = nI n) (hn : n ≤ 64) (hq : q < n)  : Met l yX3_checkPaidQuarter wsX3_checkPaidQuarter ({ frames := 2, cells := 0, slots := 0, locals := 41 }) (va_Pc [.ref (α (300 + si)), .int (nI (q))] (fun U => mW G V α U U.heap)) (va_Sv (fun _ => True)) 0 0 (fun _ => False) := by
  refine Met.ofW (cc := cX3_checkPaidQuarter) (maxL := 2) (ret := none) (by decide) rfl ?_
  intro p e s m args below meth c s₁ B hml hv
  obtain ⟨rfl, hw⟩ := hv
  have hx := B.exec
  have hb := B.bytes
  have hr := B.returns
  have hts := atoms_spec (ws := wsX3_checkPaidQuarter) B.pre
  have hown : s.vm.findClass RX3 = some m.cls := findClass_of_methodNamed B.named
  have hlocks := B.notSynchronized
  have hl := lv_entry ([.ref (α (300 + si)), .int (nI (q))]) (n := 2) (Nat.le_of_ble_eq_true rfl)
  rw [lg_entry_eq]
  generalize (lg_sl ([.ref (α (300 + si)), .int (nI (q))]) ++ List.replicate (2 - (lg_sl ([.ref (α (300 + si)), .int (nI (q))])).length) Slot.unset).toArray = ls at hl ⊢
  have hl : lv_has ls 2 [(0, .ref (α (300 + si))), (1, .int (nI (q)))] := hl
  refine lv_iload_n hx hb dX3_checkPaidQuarter_0 rfl (lv_at hl 1 rfl) ?_
  refine lv_if_lt (tgt := 12) hx hb dX3_checkPaidQuarter_1 (by decide) (fun z => absurd z ((nI_pos (by omega)))) (fun c1 => ?_)
  refine lv_iload_n hx hb dX3_checkPaidQuarter_4 rfl (lv_at hl 1 rfl) ?_
  refine lv_aload_n hx hb dX3_checkPaidQuarter_5 rfl (lv_at hl 0 rfl) ?_
  refine mcallVi hw (hv) rfl rfl ⟨hx, hb, hml, hown, hts⟩ (c_X1_paidLength si hv) (cwV 0 hts gX3_checkPaidQuarter_X1_paidLength rfl rfl rfl (by decide +kernel) ⟨Nat.le_of_ble_eq_true rfl, Nat.le_of_ble_eq_true rfl⟩) rfl hl.1 rfl (Nat.le_of_ble_eq_true rfl) dX3_checkPaidQuarter_6 ⟨Nat.le_of_ble_eq_true rfl, Nat.le_of_ble_eq_true rfl⟩ ?_
  refine lv_topi (fun y2 ey2 => ?_)
  obtain rfl : y2 = (nI (n)) := ey2.trans (hN)
  refine lv_icmp_lt (tgt := 22) hx hb dX3_checkPaidQuarter_9 (by decide) (fun c3 => ?_) (fun z => absurd ((nI_lt hq (by omega))) z)
  exact W.vret hx hb hr (fun t ht hW => ⟨rfl, trivial, ht⟩) (fun _ h => absurd h List.not_mem_nil) dX3_checkPaidQuarter_22

set_option maxHeartbeats 4000000 in
set_option maxRecDepth 100000 in
theorem t_X3_checkPaidQuarter {l : Launch} (hl0 : l.stackTraces = false) {G : mG} {V : mV} {α : Nat → Nat} {f : sT} (si : Nat) (hv : V (300 + si) = some (sobj α f si)) (n : Nat) (hN : s_paid f si = nI n) (hn : n ≤ 64) (x : Int32) (hbad : ¬ inn x 0 (s_paid f si - 1)) : vx_Met l yX3_checkPaidQuarter wsX3_checkPaidQuarter ({ frames := 6, cells := 1, slots := 6, locals := 82 }) (va_Pc [.ref (α (300 + si)), .int (x)] (fun U => mW G V α U U.heap)) mNo (mXC G V α "java/lang/IndexOutOfBoundsException") 1 6 (mfree G) := by
  refine vx_ofW (cc := cX3_checkPaidQuarter) (maxL := 2) (ret := none) (by decide) rfl ?_
  intro p e s m args below meth c s₁ B hml hout hv
  obtain ⟨rfl, hw⟩ := hv
  have hx := B.exec
  have hb := B.bytes
  have hr := B.returns
  have hts := atoms_spec (ws := wsX3_checkPaidQuarter) B.pre
  have hown : s.vm.findClass RX3 = some m.cls := findClass_of_methodNamed B.named
  have hlocks := B.notSynchronized
  have hS : va_S (mfree G) s.heap s.heap [] := va_S.rf
  have tk_170 := hts (.classLink RX3 170 "java/lang/IndexOutOfBoundsException") (by decide +kernel)
  have ti_170 := hts (.initialized "java/lang/IndexOutOfBoundsException") (by decide +kernel)
  have hat_174 : ∀ w ∈ (vx_atS RX3 174 "java/lang/IndexOutOfBoundsException" ["java/lang/RuntimeException", "java/lang/Exception"]).filter goodWord, w ∈ wsX3_checkPaidQuarter := by decide +kernel
  have hl := lv_entry ([.ref (α (300 + si)), .int (x)]) (n := 2) (Nat.le_of_ble_eq_true rfl)
  rw [lg_entry_eq]
  generalize (lg_sl ([.ref (α (300 + si)), .int (x)]) ++ List.replicate (2 - (lg_sl ([.ref (α (300 + si)), .int (x)])).length) Slot.unset).toArray = ls at hl ⊢
  have hl : lv_has ls 2 [(0, .ref (α (300 + si))), (1, .int (x))] := hl
  refine lv_iload_n hx hb dX3_checkPaidQuarter_0 rfl (lv_at hl 1 rfl) ?_
  refine lv_if_lt (tgt := 12) hx hb dX3_checkPaidQuarter_1 (by decide) (fun c1 => ?_) (fun c1 => ?_)
  ·
    exact mthrowS (text := "no such quarter") hx hb hl0 hown (by decide +kernel) tk_170 ti_170 (fun w h9 => hts w (hat_174 w h9)) (by decide +kernel) (by decide +kernel) (by decide) hw hS (hl.1.trans hml.symm) dX3_checkPaidQuarter_12 dX3_checkPaidQuarter_15 dX3_checkPaidQuarter_16 dX3_checkPaidQuarter_18 dX3_checkPaidQuarter_21 hout (Nat.le_of_ble_eq_true rfl) (Nat.le_of_ble_eq_true rfl) (Nat.le_of_ble_eq_true rfl) (Nat.le_of_ble_eq_true rfl) hlocks
  ·
    refine lv_iload_n hx hb dX3_checkPaidQuarter_4 rfl (lv_at hl 1 rfl) ?_
    refine lv_aload_n hx hb dX3_checkPaidQuarter_5 rfl (lv_at hl 0 rfl) ?_
    refine mcallVi hw (hv) rfl rfl ⟨hx, hb, hml, hown, hts⟩ (c_X1_paidLength si hv) (cwV 0 hts gX3_checkPaidQuarter_X1_paidLength rfl rfl rfl (by decide +kernel) ⟨Nat.le_of_ble_eq_true rfl, Nat.le_of_ble_eq_true rfl⟩) rfl hl.1 rfl (Nat.le_of_ble_eq_true rfl) dX3_checkPaidQuarter_6 ⟨Nat.le_of_ble_eq_true rfl, Nat.le_of_ble_eq_true rfl⟩ ?_
    refine lv_topi (fun y2 ey2 => ?_)
    obtain rfl : y2 = (nI (n)) := ey2.trans (hN)
    refine lv_icmp_lt (tgt := 22) hx hb dX3_checkPaidQuarter_9 (by decide) (fun c3 => ?_) (fun c3 => ?_)
    ·
      exact absurd (by rw [hN]; exact inn_of (by omega) c1 c3) hbad
    ·
      exact mthrowS (text := "no such quarter") hx hb hl0 hown (by decide +kernel) tk_170 ti_170 (fun w h9 => hts w (hat_174 w h9)) (by decide +kernel) (by decide +kernel) (by decide) hw hS (hl.1.trans hml.symm) dX3_checkPaidQuarter_12 dX3_checkPaidQuarter_15 dX3_checkPaidQuarter_16 dX3_checkPaidQuarter_18 dX3_checkPaidQuarter_21 hout (Nat.le_of_ble_eq_true rfl) (Nat.le_of_ble_eq_true rfl) (Nat.le_of_ble_eq_true rfl) (Nat.le_of_ble_eq_true rfl) hlocks

set_option maxHeartbeats 4000000 in
set_option maxRecDepth 100000 in
theorem c_X3_findRule {l : Launch} {G : mG} {V : mV} {α : Nat → Nat} {f : sT} {nr nw ns : Nat} (hC : mC G V α f nr nw ns) (hnr : nr ≤ 16) (k : Nat) (hk : k < nr)  : Met l yX3_findRule wsX3_findRule ({ frames := 3, cells := 0, slots := 0, locals := 64 }) (va_Pc [.ref (α (0)), .int (nI (k))] (fun U => mW G V α U U.heap)) (va_Sq (fun r9 => r9 = some (α (100 + k)))) 0 0 (fun _ => False) := by
  refine Met.ofW (cc := cX3_findRule) (maxL := 2) (ret := (some (.object "RosterPay$Rule"))) (by decide) rfl ?_
  intro p e s m args below meth c s₁ B hml hv
  obtain ⟨rfl, hw⟩ := hv
  have hx := B.exec
  have hb := B.bytes
  have hr := B.returns
  have hts := atoms_spec (ws := wsX3_findRule) B.pre
  have hown : s.vm.findClass RX3 = some m.cls := findClass_of_methodNamed B.named
  have hlocks := B.notSynchronized
  obtain ⟨k0, k1, k2, hL3, hL4, hL5, cR, cW, cS, -, -, -⟩ := id hC
  obtain ⟨md3, ed3, v3⟩ := hL3.obj
  obtain ⟨md4, ed4, v4⟩ := hL4.obj
  obtain ⟨md5, ed5, v5⟩ := hL5.obj
  have fl_26 := hts (.fieldLink RX3 26 "RosterPay" "rules" "Ljava/util/ArrayList;") (by decide +kernel)
  have in_X3 : ∀ w ∈ u_ws RX3 TX3 5, w ∈ wsX3_findRule := by decide +kernel
  have cl_56 := hts (.classLink RX3 56 "RosterPay$Rule") (by decide +kernel)
  have hl := lv_entry ([.ref (α (0)), .int (nI (k))]) (n := 2) (Nat.le_of_ble_eq_true rfl)
  rw [lg_entry_eq]
  generalize (lg_sl ([.ref (α (0)), .int (nI (k))]) ++ List.replicate (2 - (lg_sl ([.ref (α (0)), .int (nI (k))])).length) Slot.unset).toArray = ls at hl ⊢
  have hl : lv_has ls 2 [(0, .ref (α (0))), (1, .int (nI (k)))] := hl
  refine lv_iload_n hx hb dX3_findRule_0 rfl (lv_at hl 1 rfl) ?_
  refine lv_if_lt (tgt := 15) hx hb dX3_findRule_1 (by decide) (fun z => absurd z ((nI_pos (by omega)))) (fun c1 => ?_)
  refine lv_iload_n hx hb dX3_findRule_4 rfl (lv_at hl 1 rfl) ?_
  refine lv_aload_n hx hb dX3_findRule_5 rfl (lv_at hl 0 rfl) ?_
  refine mget (C := RX3) (T := TX3) (N := 5) (ci := 4) hx hb hts in_X3 hown hw (k0) rfl 2 (by decide) fl_26 rfl dX3_findRule_6 ?_
  refine mcallVi hw (v3) rfl rfl ⟨hx, hb, hml, hown, hts⟩ (c_lsize hL3) (cwV 0 hts gX3_findRule_Jx4a65c_size_8abf5 rfl rfl rfl (by decide +kernel) ⟨Nat.le_of_ble_eq_true rfl, Nat.le_of_ble_eq_true rfl⟩) rfl hl.1 rfl (Nat.le_of_ble_eq_true rfl) dX3_findRule_9 ⟨Nat.le_of_ble_eq_true rfl, Nat.le_of_ble_eq_true rfl⟩ ?_
  refine lv_icmp_lt (tgt := 25) hx hb dX3_findRule_12 (by decide) (fun c2 => ?_) (fun z => absurd ((nI_lt hk (by omega))) z)
  refine lv_aload_n hx hb dX3_findRule_25 rfl (lv_at hl 0 rfl) ?_
  refine mget (C := RX3) (T := TX3) (N := 5) (ci := 4) hx hb hts in_X3 hown hw (k0) rfl 2 (by decide) fl_26 rfl dX3_findRule_26 ?_
  refine lv_iload_n hx hb dX3_findRule_29 rfl (lv_at hl 1 rfl) ?_
  refine mcallVr hw (v3) rfl rfl ⟨hx, hb, hml, hown, hts⟩ (c_lget hL3 k (by omega)) (cwV 1 hts gX3_findRule_Jx4a65c_get_915e3 rfl rfl rfl (by decide +kernel) ⟨Nat.le_of_ble_eq_true rfl, Nat.le_of_ble_eq_true rfl⟩) rfl hl.1 rfl (Nat.le_of_ble_eq_true rfl) dX3_findRule_30 ⟨Nat.le_of_ble_eq_true rfl, Nat.le_of_ble_eq_true rfl⟩ ?_
  refine mcast hx hb hown cl_56 hw ((cR k (by omega))) rfl dX3_findRule_33 ?_
  exact W.aret (v := .ref (α (100 + k))) hx hb hr (Or.inl ⟨_, rfl⟩) (Or.inr ⟨_, rfl⟩) (fun t ht hW => ⟨some (α (100 + k)), rfl, rfl, ht⟩) (fun _ h => absurd h List.not_mem_nil) dX3_findRule_36

set_option maxHeartbeats 4000000 in
set_option maxRecDepth 100000 in
theorem t_X3_findRule {l : Launch} (hl0 : l.stackTraces = false) {G : mG} {V : mV} {α : Nat → Nat} {f : sT} {nr nw ns : Nat} (hC : mC G V α f nr nw ns) (hnr : nr ≤ 16) (y : Int32) (hbad : ¬ inn y 0 (nI nr - 1)) : vx_Met l yX3_findRule wsX3_findRule ({ frames := 6, cells := 1, slots := 6, locals := 82 }) (va_Pc [.ref (α (0)), .int (y)] (fun U => mW G V α U U.heap)) mNo (mXC G V α "java/lang/IndexOutOfBoundsException") 1 6 (mfree G) := by
  refine vx_ofW (cc := cX3_findRule) (maxL := 2) (ret := (some (.object "RosterPay$Rule"))) (by decide) rfl ?_
  intro p e s m args below meth c s₁ B hml hout hv
  obtain ⟨rfl, hw⟩ := hv
  have hx := B.exec
  have hb := B.bytes
  have hr := B.returns
  have hts := atoms_spec (ws := wsX3_findRule) B.pre
  have hown : s.vm.findClass RX3 = some m.cls := findClass_of_methodNamed B.named
  have hlocks := B.notSynchronized
  have hS : va_S (mfree G) s.heap s.heap [] := va_S.rf
  obtain ⟨k0, k1, k2, hL3, hL4, hL5, cR, cW, cS, -, -, -⟩ := id hC
  obtain ⟨md3, ed3, v3⟩ := hL3.obj
  obtain ⟨md4, ed4, v4⟩ := hL4.obj
  obtain ⟨md5, ed5, v5⟩ := hL5.obj
  have tk_170 := hts (.classLink RX3 170 "java/lang/IndexOutOfBoundsException") (by decide +kernel)
  have ti_170 := hts (.initialized "java/lang/IndexOutOfBoundsException") (by decide +kernel)
  have hat_174 : ∀ w ∈ (vx_atS RX3 174 "java/lang/IndexOutOfBoundsException" ["java/lang/RuntimeException", "java/lang/Exception"]).filter goodWord, w ∈ wsX3_findRule := by decide +kernel
  have fl_26 := hts (.fieldLink RX3 26 "RosterPay" "rules" "Ljava/util/ArrayList;") (by decide +kernel)
  have in_X3 : ∀ w ∈ u_ws RX3 TX3 5, w ∈ wsX3_findRule := by decide +kernel
  have hl := lv_entry ([.ref (α (0)), .int (y)]) (n := 2) (Nat.le_of_ble_eq_true rfl)
  rw [lg_entry_eq]
  generalize (lg_sl ([.ref (α (0)), .int (y)]) ++ List.replicate (2 - (lg_sl ([.ref (α (0)), .int (y)])).length) Slot.unset).toArray = ls at hl ⊢
  have hl : lv_has ls 2 [(0, .ref (α (0))), (1, .int (y))] := hl
  refine lv_iload_n hx hb dX3_findRule_0 rfl (lv_at hl 1 rfl) ?_
  refine lv_if_lt (tgt := 15) hx hb dX3_findRule_1 (by decide) (fun c1 => ?_) (fun c1 => ?_)
  ·
    exact mthrowS (text := "no such rule") hx hb hl0 hown (by decide +kernel) tk_170 ti_170 (fun w h9 => hts w (hat_174 w h9)) (by decide +kernel) (by decide +kernel) (by decide) hw hS (hl.1.trans hml.symm) dX3_findRule_15 dX3_findRule_18 dX3_findRule_19 dX3_findRule_21 dX3_findRule_24 hout (Nat.le_of_ble_eq_true rfl) (Nat.le_of_ble_eq_true rfl) (Nat.le_of_ble_eq_true rfl) (Nat.le_of_ble_eq_true rfl) hlocks
  ·
    refine lv_iload_n hx hb dX3_findRule_4 rfl (lv_at hl 1 rfl) ?_
    refine lv_aload_n hx hb dX3_findRule_5 rfl (lv_at hl 0 rfl) ?_
    refine mget (C := RX3) (T := TX3) (N := 5) (ci := 4) hx hb hts in_X3 hown hw (k0) rfl 2 (by decide) fl_26 rfl dX3_findRule_6 ?_
    refine mcallVi hw (v3) rfl rfl ⟨hx, hb, hml, hown, hts⟩ (c_lsize hL3) (cwV 0 hts gX3_findRule_Jx4a65c_size_8abf5 rfl rfl rfl (by decide +kernel) ⟨Nat.le_of_ble_eq_true rfl, Nat.le_of_ble_eq_true rfl⟩) rfl hl.1 rfl (Nat.le_of_ble_eq_true rfl) dX3_findRule_9 ⟨Nat.le_of_ble_eq_true rfl, Nat.le_of_ble_eq_true rfl⟩ ?_
    refine lv_icmp_lt (tgt := 25) hx hb dX3_findRule_12 (by decide) (fun c2 => ?_) (fun c2 => ?_)
    ·
      exact absurd (inn_of (by omega) c1 c2) hbad
    ·
      exact mthrowS (text := "no such rule") hx hb hl0 hown (by decide +kernel) tk_170 ti_170 (fun w h9 => hts w (hat_174 w h9)) (by decide +kernel) (by decide +kernel) (by decide) hw hS (hl.1.trans hml.symm) dX3_findRule_15 dX3_findRule_18 dX3_findRule_19 dX3_findRule_21 dX3_findRule_24 hout (Nat.le_of_ble_eq_true rfl) (Nat.le_of_ble_eq_true rfl) (Nat.le_of_ble_eq_true rfl) (Nat.le_of_ble_eq_true rfl) hlocks

set_option maxHeartbeats 4000000 in
set_option maxRecDepth 100000 in
theorem c_X3_findWorker {l : Launch} {G : mG} {V : mV} {α : Nat → Nat} {f : sT} {nr nw ns : Nat} (hC : mC G V α f nr nw ns) (hnw : nw ≤ 12) (k : Nat) (hk : k < nw)  : Met l yX3_findWorker wsX3_findWorker ({ frames := 3, cells := 0, slots := 0, locals := 64 }) (va_Pc [.ref (α (0)), .int (nI (k))] (fun U => mW G V α U U.heap)) (va_Sq (fun r9 => r9 = some (α (200 + k)))) 0 0 (fun _ => False) := by
  refine Met.ofW (cc := cX3_findWorker) (maxL := 2) (ret := (some (.object "RosterPay$Worker"))) (by decide) rfl ?_
  intro p e s m args below meth c s₁ B hml hv
  obtain ⟨rfl, hw⟩ := hv
  have hx := B.exec
  have hb := B.bytes
  have hr := B.returns
  have hts := atoms_spec (ws := wsX3_findWorker) B.pre
  have hown : s.vm.findClass RX3 = some m.cls := findClass_of_methodNamed B.named
  have hlocks := B.notSynchronized
  obtain ⟨k0, k1, k2, hL3, hL4, hL5, cR, cW, cS, -, -, -⟩ := id hC
  obtain ⟨md3, ed3, v3⟩ := hL3.obj
  obtain ⟨md4, ed4, v4⟩ := hL4.obj
  obtain ⟨md5, ed5, v5⟩ := hL5.obj
  have fl_30 := hts (.fieldLink RX3 30 "RosterPay" "workers" "Ljava/util/ArrayList;") (by decide +kernel)
  have in_X3 : ∀ w ∈ u_ws RX3 TX3 5, w ∈ wsX3_findWorker := by decide +kernel
  have cl_77 := hts (.classLink RX3 77 "RosterPay$Worker") (by decide +kernel)
  have hl := lv_entry ([.ref (α (0)), .int (nI (k))]) (n := 2) (Nat.le_of_ble_eq_true rfl)
  rw [lg_entry_eq]
  generalize (lg_sl ([.ref (α (0)), .int (nI (k))]) ++ List.replicate (2 - (lg_sl ([.ref (α (0)), .int (nI (k))])).length) Slot.unset).toArray = ls at hl ⊢
  have hl : lv_has ls 2 [(0, .ref (α (0))), (1, .int (nI (k)))] := hl
  refine lv_iload_n hx hb dX3_findWorker_0 rfl (lv_at hl 1 rfl) ?_
  refine lv_if_lt (tgt := 15) hx hb dX3_findWorker_1 (by decide) (fun z => absurd z ((nI_pos (by omega)))) (fun c1 => ?_)
  refine lv_iload_n hx hb dX3_findWorker_4 rfl (lv_at hl 1 rfl) ?_
  refine lv_aload_n hx hb dX3_findWorker_5 rfl (lv_at hl 0 rfl) ?_
  refine mget (C := RX3) (T := TX3) (N := 5) (ci := 4) hx hb hts in_X3 hown hw (k0) rfl 3 (by decide) fl_30 rfl dX3_findWorker_6 ?_
  refine mcallVi hw (v4) rfl rfl ⟨hx, hb, hml, hown, hts⟩ (c_lsize hL4) (cwV 0 hts gX3_findWorker_Jx4a65c_size_8abf5 rfl rfl rfl (by decide +kernel) ⟨Nat.le_of_ble_eq_true rfl, Nat.le_of_ble_eq_true rfl⟩) rfl hl.1 rfl (Nat.le_of_ble_eq_true rfl) dX3_findWorker_9 ⟨Nat.le_of_ble_eq_true rfl, Nat.le_of_ble_eq_true rfl⟩ ?_
  refine lv_icmp_lt (tgt := 25) hx hb dX3_findWorker_12 (by decide) (fun c2 => ?_) (fun z => absurd ((nI_lt hk (by omega))) z)
  refine lv_aload_n hx hb dX3_findWorker_25 rfl (lv_at hl 0 rfl) ?_
  refine mget (C := RX3) (T := TX3) (N := 5) (ci := 4) hx hb hts in_X3 hown hw (k0) rfl 3 (by decide) fl_30 rfl dX3_findWorker_26 ?_
  refine lv_iload_n hx hb dX3_findWorker_29 rfl (lv_at hl 1 rfl) ?_
  refine mcallVr hw (v4) rfl rfl ⟨hx, hb, hml, hown, hts⟩ (c_lget hL4 k (by omega)) (cwV 1 hts gX3_findWorker_Jx4a65c_get_915e3 rfl rfl rfl (by decide +kernel) ⟨Nat.le_of_ble_eq_true rfl, Nat.le_of_ble_eq_true rfl⟩) rfl hl.1 rfl (Nat.le_of_ble_eq_true rfl) dX3_findWorker_30 ⟨Nat.le_of_ble_eq_true rfl, Nat.le_of_ble_eq_true rfl⟩ ?_
  refine mcast hx hb hown cl_77 hw ((cW k (by omega))) rfl dX3_findWorker_33 ?_
  exact W.aret (v := .ref (α (200 + k))) hx hb hr (Or.inl ⟨_, rfl⟩) (Or.inr ⟨_, rfl⟩) (fun t ht hW => ⟨some (α (200 + k)), rfl, rfl, ht⟩) (fun _ h => absurd h List.not_mem_nil) dX3_findWorker_36

set_option maxHeartbeats 4000000 in
set_option maxRecDepth 100000 in
theorem t_X3_findWorker {l : Launch} (hl0 : l.stackTraces = false) {G : mG} {V : mV} {α : Nat → Nat} {f : sT} {nr nw ns : Nat} (hC : mC G V α f nr nw ns) (hnw : nw ≤ 12) (y : Int32) (hbad : ¬ inn y 0 (nI nw - 1)) : vx_Met l yX3_findWorker wsX3_findWorker ({ frames := 6, cells := 1, slots := 6, locals := 82 }) (va_Pc [.ref (α (0)), .int (y)] (fun U => mW G V α U U.heap)) mNo (mXC G V α "java/lang/IndexOutOfBoundsException") 1 6 (mfree G) := by
  refine vx_ofW (cc := cX3_findWorker) (maxL := 2) (ret := (some (.object "RosterPay$Worker"))) (by decide) rfl ?_
  intro p e s m args below meth c s₁ B hml hout hv
  obtain ⟨rfl, hw⟩ := hv
  have hx := B.exec
  have hb := B.bytes
  have hr := B.returns
  have hts := atoms_spec (ws := wsX3_findWorker) B.pre
  have hown : s.vm.findClass RX3 = some m.cls := findClass_of_methodNamed B.named
  have hlocks := B.notSynchronized
  have hS : va_S (mfree G) s.heap s.heap [] := va_S.rf
  obtain ⟨k0, k1, k2, hL3, hL4, hL5, cR, cW, cS, -, -, -⟩ := id hC
  obtain ⟨md3, ed3, v3⟩ := hL3.obj
  obtain ⟨md4, ed4, v4⟩ := hL4.obj
  obtain ⟨md5, ed5, v5⟩ := hL5.obj
  have tk_170 := hts (.classLink RX3 170 "java/lang/IndexOutOfBoundsException") (by decide +kernel)
  have ti_170 := hts (.initialized "java/lang/IndexOutOfBoundsException") (by decide +kernel)
  have hat_174 : ∀ w ∈ (vx_atS RX3 174 "java/lang/IndexOutOfBoundsException" ["java/lang/RuntimeException", "java/lang/Exception"]).filter goodWord, w ∈ wsX3_findWorker := by decide +kernel
  have fl_30 := hts (.fieldLink RX3 30 "RosterPay" "workers" "Ljava/util/ArrayList;") (by decide +kernel)
  have in_X3 : ∀ w ∈ u_ws RX3 TX3 5, w ∈ wsX3_findWorker := by decide +kernel
  have hl := lv_entry ([.ref (α (0)), .int (y)]) (n := 2) (Nat.le_of_ble_eq_true rfl)
  rw [lg_entry_eq]
  generalize (lg_sl ([.ref (α (0)), .int (y)]) ++ List.replicate (2 - (lg_sl ([.ref (α (0)), .int (y)])).length) Slot.unset).toArray = ls at hl ⊢
  have hl : lv_has ls 2 [(0, .ref (α (0))), (1, .int (y))] := hl
  refine lv_iload_n hx hb dX3_findWorker_0 rfl (lv_at hl 1 rfl) ?_
  refine lv_if_lt (tgt := 15) hx hb dX3_findWorker_1 (by decide) (fun c1 => ?_) (fun c1 => ?_)
  ·
    exact mthrowS (text := "no such worker") hx hb hl0 hown (by decide +kernel) tk_170 ti_170 (fun w h9 => hts w (hat_174 w h9)) (by decide +kernel) (by decide +kernel) (by decide) hw hS (hl.1.trans hml.symm) dX3_findWorker_15 dX3_findWorker_18 dX3_findWorker_19 dX3_findWorker_21 dX3_findWorker_24 hout (Nat.le_of_ble_eq_true rfl) (Nat.le_of_ble_eq_true rfl) (Nat.le_of_ble_eq_true rfl) (Nat.le_of_ble_eq_true rfl) hlocks
  ·
    refine lv_iload_n hx hb dX3_findWorker_4 rfl (lv_at hl 1 rfl) ?_
    refine lv_aload_n hx hb dX3_findWorker_5 rfl (lv_at hl 0 rfl) ?_
    refine mget (C := RX3) (T := TX3) (N := 5) (ci := 4) hx hb hts in_X3 hown hw (k0) rfl 3 (by decide) fl_30 rfl dX3_findWorker_6 ?_
    refine mcallVi hw (v4) rfl rfl ⟨hx, hb, hml, hown, hts⟩ (c_lsize hL4) (cwV 0 hts gX3_findWorker_Jx4a65c_size_8abf5 rfl rfl rfl (by decide +kernel) ⟨Nat.le_of_ble_eq_true rfl, Nat.le_of_ble_eq_true rfl⟩) rfl hl.1 rfl (Nat.le_of_ble_eq_true rfl) dX3_findWorker_9 ⟨Nat.le_of_ble_eq_true rfl, Nat.le_of_ble_eq_true rfl⟩ ?_
    refine lv_icmp_lt (tgt := 25) hx hb dX3_findWorker_12 (by decide) (fun c2 => ?_) (fun c2 => ?_)
    ·
      exact absurd (inn_of (by omega) c1 c2) hbad
    ·
      exact mthrowS (text := "no such worker") hx hb hl0 hown (by decide +kernel) tk_170 ti_170 (fun w h9 => hts w (hat_174 w h9)) (by decide +kernel) (by decide +kernel) (by decide) hw hS (hl.1.trans hml.symm) dX3_findWorker_15 dX3_findWorker_18 dX3_findWorker_19 dX3_findWorker_21 dX3_findWorker_24 hout (Nat.le_of_ble_eq_true rfl) (Nat.le_of_ble_eq_true rfl) (Nat.le_of_ble_eq_true rfl) (Nat.le_of_ble_eq_true rfl) hlocks

set_option maxHeartbeats 4000000 in
set_option maxRecDepth 100000 in
theorem c_X3_findShift {l : Launch} {G : mG} {V : mV} {α : Nat → Nat} {f : sT} {nr nw ns : Nat} (hC : mC G V α f nr nw ns) (hns : ns ≤ 80) (k : Nat) (hk : k < ns)  : Met l yX3_findShift wsX3_findShift ({ frames := 3, cells := 0, slots := 0, locals := 64 }) (va_Pc [.ref (α (0)), .int (nI (k))] (fun U => mW G V α U U.heap)) (va_Sq (fun r9 => r9 = some (α (300 + k)))) 0 0 (fun _ => False) := by
  refine Met.ofW (cc := cX3_findShift) (maxL := 2) (ret := (some (.object "RosterPay$Shift"))) (by decide) rfl ?_
  intro p e s m args below meth c s₁ B hml hv
  obtain ⟨rfl, hw⟩ := hv
  have hx := B.exec
  have hb := B.bytes
  have hr := B.returns
  have hts := atoms_spec (ws := wsX3_findShift) B.pre
  have hown : s.vm.findClass RX3 = some m.cls := findClass_of_methodNamed B.named
  have hlocks := B.notSynchronized
  obtain ⟨k0, k1, k2, hL3, hL4, hL5, cR, cW, cS, -, -, -⟩ := id hC
  obtain ⟨md3, ed3, v3⟩ := hL3.obj
  obtain ⟨md4, ed4, v4⟩ := hL4.obj
  obtain ⟨md5, ed5, v5⟩ := hL5.obj
  have fl_33 := hts (.fieldLink RX3 33 "RosterPay" "roster" "Ljava/util/ArrayList;") (by decide +kernel)
  have in_X3 : ∀ w ∈ u_ws RX3 TX3 5, w ∈ wsX3_findShift := by decide +kernel
  have cl_96 := hts (.classLink RX3 96 "RosterPay$Shift") (by decide +kernel)
  have hl := lv_entry ([.ref (α (0)), .int (nI (k))]) (n := 2) (Nat.le_of_ble_eq_true rfl)
  rw [lg_entry_eq]
  generalize (lg_sl ([.ref (α (0)), .int (nI (k))]) ++ List.replicate (2 - (lg_sl ([.ref (α (0)), .int (nI (k))])).length) Slot.unset).toArray = ls at hl ⊢
  have hl : lv_has ls 2 [(0, .ref (α (0))), (1, .int (nI (k)))] := hl
  refine lv_iload_n hx hb dX3_findShift_0 rfl (lv_at hl 1 rfl) ?_
  refine lv_if_lt (tgt := 15) hx hb dX3_findShift_1 (by decide) (fun z => absurd z ((nI_pos (by omega)))) (fun c1 => ?_)
  refine lv_iload_n hx hb dX3_findShift_4 rfl (lv_at hl 1 rfl) ?_
  refine lv_aload_n hx hb dX3_findShift_5 rfl (lv_at hl 0 rfl) ?_
  refine mget (C := RX3) (T := TX3) (N := 5) (ci := 4) hx hb hts in_X3 hown hw (k0) rfl 4 (by decide) fl_33 rfl dX3_findShift_6 ?_
  refine mcallVi hw (v5) rfl rfl ⟨hx, hb, hml, hown, hts⟩ (c_lsize hL5) (cwV 0 hts gX3_findShift_Jx4a65c_size_8abf5 rfl rfl rfl (by decide +kernel) ⟨Nat.le_of_ble_eq_true rfl, Nat.le_of_ble_eq_true rfl⟩) rfl hl.1 rfl (Nat.le_of_ble_eq_true rfl) dX3_findShift_9 ⟨Nat.le_of_ble_eq_true rfl, Nat.le_of_ble_eq_true rfl⟩ ?_
  refine lv_icmp_lt (tgt := 25) hx hb dX3_findShift_12 (by decide) (fun c2 => ?_) (fun z => absurd ((nI_lt hk (by omega))) z)
  refine lv_aload_n hx hb dX3_findShift_25 rfl (lv_at hl 0 rfl) ?_
  refine mget (C := RX3) (T := TX3) (N := 5) (ci := 4) hx hb hts in_X3 hown hw (k0) rfl 4 (by decide) fl_33 rfl dX3_findShift_26 ?_
  refine lv_iload_n hx hb dX3_findShift_29 rfl (lv_at hl 1 rfl) ?_
  refine mcallVr hw (v5) rfl rfl ⟨hx, hb, hml, hown, hts⟩ (c_lget hL5 k (by omega)) (cwV 1 hts gX3_findShift_Jx4a65c_get_915e3 rfl rfl rfl (by decide +kernel) ⟨Nat.le_of_ble_eq_true rfl, Nat.le_of_ble_eq_true rfl⟩) rfl hl.1 rfl (Nat.le_of_ble_eq_true rfl) dX3_findShift_30 ⟨Nat.le_of_ble_eq_true rfl, Nat.le_of_ble_eq_true rfl⟩ ?_
  refine mcast hx hb hown cl_96 hw ((cS k (by omega))) rfl dX3_findShift_33 ?_
  exact W.aret (v := .ref (α (300 + k))) hx hb hr (Or.inl ⟨_, rfl⟩) (Or.inr ⟨_, rfl⟩) (fun t ht hW => ⟨some (α (300 + k)), rfl, rfl, ht⟩) (fun _ h => absurd h List.not_mem_nil) dX3_findShift_36

set_option maxHeartbeats 4000000 in
set_option maxRecDepth 100000 in
theorem t_X3_findShift {l : Launch} (hl0 : l.stackTraces = false) {G : mG} {V : mV} {α : Nat → Nat} {f : sT} {nr nw ns : Nat} (hC : mC G V α f nr nw ns) (hns : ns ≤ 80) (y : Int32) (hbad : ¬ inn y 0 (nI ns - 1)) : vx_Met l yX3_findShift wsX3_findShift ({ frames := 6, cells := 1, slots := 6, locals := 82 }) (va_Pc [.ref (α (0)), .int (y)] (fun U => mW G V α U U.heap)) mNo (mXC G V α "java/lang/IndexOutOfBoundsException") 1 6 (mfree G) := by
  refine vx_ofW (cc := cX3_findShift) (maxL := 2) (ret := (some (.object "RosterPay$Shift"))) (by decide) rfl ?_
  intro p e s m args below meth c s₁ B hml hout hv
  obtain ⟨rfl, hw⟩ := hv
  have hx := B.exec
  have hb := B.bytes
  have hr := B.returns
  have hts := atoms_spec (ws := wsX3_findShift) B.pre
  have hown : s.vm.findClass RX3 = some m.cls := findClass_of_methodNamed B.named
  have hlocks := B.notSynchronized
  have hS : va_S (mfree G) s.heap s.heap [] := va_S.rf
  obtain ⟨k0, k1, k2, hL3, hL4, hL5, cR, cW, cS, -, -, -⟩ := id hC
  obtain ⟨md3, ed3, v3⟩ := hL3.obj
  obtain ⟨md4, ed4, v4⟩ := hL4.obj
  obtain ⟨md5, ed5, v5⟩ := hL5.obj
  have tk_170 := hts (.classLink RX3 170 "java/lang/IndexOutOfBoundsException") (by decide +kernel)
  have ti_170 := hts (.initialized "java/lang/IndexOutOfBoundsException") (by decide +kernel)
  have hat_174 : ∀ w ∈ (vx_atS RX3 174 "java/lang/IndexOutOfBoundsException" ["java/lang/RuntimeException", "java/lang/Exception"]).filter goodWord, w ∈ wsX3_findShift := by decide +kernel
  have fl_33 := hts (.fieldLink RX3 33 "RosterPay" "roster" "Ljava/util/ArrayList;") (by decide +kernel)
  have in_X3 : ∀ w ∈ u_ws RX3 TX3 5, w ∈ wsX3_findShift := by decide +kernel
  have hl := lv_entry ([.ref (α (0)), .int (y)]) (n := 2) (Nat.le_of_ble_eq_true rfl)
  rw [lg_entry_eq]
  generalize (lg_sl ([.ref (α (0)), .int (y)]) ++ List.replicate (2 - (lg_sl ([.ref (α (0)), .int (y)])).length) Slot.unset).toArray = ls at hl ⊢
  have hl : lv_has ls 2 [(0, .ref (α (0))), (1, .int (y))] := hl
  refine lv_iload_n hx hb dX3_findShift_0 rfl (lv_at hl 1 rfl) ?_
  refine lv_if_lt (tgt := 15) hx hb dX3_findShift_1 (by decide) (fun c1 => ?_) (fun c1 => ?_)
  ·
    exact mthrowS (text := "no such shift") hx hb hl0 hown (by decide +kernel) tk_170 ti_170 (fun w h9 => hts w (hat_174 w h9)) (by decide +kernel) (by decide +kernel) (by decide) hw hS (hl.1.trans hml.symm) dX3_findShift_15 dX3_findShift_18 dX3_findShift_19 dX3_findShift_21 dX3_findShift_24 hout (Nat.le_of_ble_eq_true rfl) (Nat.le_of_ble_eq_true rfl) (Nat.le_of_ble_eq_true rfl) (Nat.le_of_ble_eq_true rfl) hlocks
  ·
    refine lv_iload_n hx hb dX3_findShift_4 rfl (lv_at hl 1 rfl) ?_
    refine lv_aload_n hx hb dX3_findShift_5 rfl (lv_at hl 0 rfl) ?_
    refine mget (C := RX3) (T := TX3) (N := 5) (ci := 4) hx hb hts in_X3 hown hw (k0) rfl 4 (by decide) fl_33 rfl dX3_findShift_6 ?_
    refine mcallVi hw (v5) rfl rfl ⟨hx, hb, hml, hown, hts⟩ (c_lsize hL5) (cwV 0 hts gX3_findShift_Jx4a65c_size_8abf5 rfl rfl rfl (by decide +kernel) ⟨Nat.le_of_ble_eq_true rfl, Nat.le_of_ble_eq_true rfl⟩) rfl hl.1 rfl (Nat.le_of_ble_eq_true rfl) dX3_findShift_9 ⟨Nat.le_of_ble_eq_true rfl, Nat.le_of_ble_eq_true rfl⟩ ?_
    refine lv_icmp_lt (tgt := 25) hx hb dX3_findShift_12 (by decide) (fun c2 => ?_) (fun c2 => ?_)
    ·
      exact absurd (inn_of (by omega) c1 c2) hbad
    ·
      exact mthrowS (text := "no such shift") hx hb hl0 hown (by decide +kernel) tk_170 ti_170 (fun w h9 => hts w (hat_174 w h9)) (by decide +kernel) (by decide +kernel) (by decide) hw hS (hl.1.trans hml.symm) dX3_findShift_15 dX3_findShift_18 dX3_findShift_19 dX3_findShift_21 dX3_findShift_24 hout (Nat.le_of_ble_eq_true rfl) (Nat.le_of_ble_eq_true rfl) (Nat.le_of_ble_eq_true rfl) (Nat.le_of_ble_eq_true rfl) hlocks
