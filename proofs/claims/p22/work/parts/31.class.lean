set_option maxHeartbeats 4000000 in
set_option maxRecDepth 100000 in
theorem c_Jx4a65c_size_8abf5 {l : Launch} {G : mG} {V : mV} {α : Nat → Nat} {i n ed : Nat} {md : Int32} (hv : V i = some (.inr (0, [.int md, .ref ed, .int (nI n)])))  : Met l yJx4a65c_size_8abf5 wsJx4a65c_size_8abf5 ({ frames := 0, cells := 0, slots := 0, locals := 0 }) (va_Pc [.ref (α (i))] (fun U => mW G V α U U.heap)) (vp_Si (fun r9 => r9 = nI (n))) 0 0 (fun _ => False) := by
  refine Met.ofW (cc := cJx4a65c_size_8abf5) (maxL := 1) (ret := (some .int)) (by decide) rfl ?_
  intro p e s m args below meth c s₁ B hml hv
  obtain ⟨rfl, hw⟩ := hv
  have hx := B.exec
  have hb := B.bytes
  have hr := B.returns
  have hts := atoms_spec (ws := wsJx4a65c_size_8abf5) B.pre
  have hown : s.vm.findClass RJx4a65c = some m.cls := findClass_of_methodNamed B.named
  have hlocks := B.notSynchronized
  have fl_48 := hts (.fieldLink RJx4a65c 48 "java/util/ArrayList" "size" "I") (by decide +kernel)
  have in_Jx4a65c : ∀ w ∈ u_ws RJx4a65c TJx4a65c 3, w ∈ wsJx4a65c_size_8abf5 := by decide +kernel
  have hl := lv_entry ([.ref (α (i))]) (n := 1) (Nat.le_of_ble_eq_true rfl)
  rw [lg_entry_eq]
  generalize (lg_sl ([.ref (α (i))]) ++ List.replicate (1 - (lg_sl ([.ref (α (i))])).length) Slot.unset).toArray = ls at hl ⊢
  have hl : lv_has ls 1 [(0, .ref (α (i)))] := hl
  refine lv_aload_n hx hb dJx4a65c_size_8abf5_0 rfl (lv_at hl 0 rfl) ?_
  refine mget (C := RJx4a65c) (T := TJx4a65c) (N := 3) (ci := 0) hx hb hts in_Jx4a65c hown hw (hv) rfl 2 (by decide) fl_48 rfl dJx4a65c_size_8abf5_1 ?_
  exact W.iret (v := nI (n)) hx hb hr (fun t ht hW => ⟨_, rfl, rfl, ht⟩) (fun _ h => absurd h List.not_mem_nil) dJx4a65c_size_8abf5_4

set_option maxHeartbeats 4000000 in
set_option maxRecDepth 100000 in
theorem c_J3_checkIndex_8e157 {l : Launch} {G : mG} {V : mV} {α : Nat → Nat} (k n : Nat) (hk : k < n) (hn : n < 2 ^ 31)  : Met l yJ3_checkIndex_8e157 wsJ3_checkIndex_8e157 ({ frames := 0, cells := 0, slots := 0, locals := 0 }) (va_Pc [.int (nI (k)), .int (nI (n)), .null] (fun U => mW G V α U U.heap)) (vp_Si (fun r9 => r9 = nI (k))) 0 0 (fun _ => False) := by
  refine Met.ofW (cc := cJ3_checkIndex_8e157) (maxL := 3) (ret := (some .int)) (by decide) rfl ?_
  intro p e s m args below meth c s₁ B hml hv
  obtain ⟨rfl, hw⟩ := hv
  have hx := B.exec
  have hb := B.bytes
  have hr := B.returns
  have hts := atoms_spec (ws := wsJ3_checkIndex_8e157) B.pre
  have hown : s.vm.findClass RJ3 = some m.cls := findClass_of_methodNamed B.named
  have hlocks := B.notSynchronized
  have hl := lv_entry ([.int (nI (k)), .int (nI (n)), .null]) (n := 3) (Nat.le_of_ble_eq_true rfl)
  rw [lg_entry_eq]
  generalize (lg_sl ([.int (nI (k)), .int (nI (n)), .null]) ++ List.replicate (3 - (lg_sl ([.int (nI (k)), .int (nI (n)), .null])).length) Slot.unset).toArray = ls at hl ⊢
  have hl : lv_has ls 3 [(0, .int (nI (k))), (1, .int (nI (n))), (2, .null)] := hl
  refine lv_iload_n hx hb dJ3_checkIndex_8e157_0 rfl (lv_at hl 0 rfl) ?_
  refine lv_if_lt (tgt := 9) hx hb dJ3_checkIndex_8e157_1 (by decide) (fun z => absurd z ((nI_pos (by omega)))) (fun c1 => ?_)
  refine lv_iload_n hx hb dJ3_checkIndex_8e157_4 rfl (lv_at hl 0 rfl) ?_
  refine lv_iload_n hx hb dJ3_checkIndex_8e157_5 rfl (lv_at hl 1 rfl) ?_
  refine lv_icmp_lt (tgt := 16) hx hb dJ3_checkIndex_8e157_6 (by decide) (fun c2 => ?_) (fun z => absurd ((nI_lt hk hn)) z)
  refine lv_iload_n hx hb dJ3_checkIndex_8e157_16 rfl (lv_at hl 0 rfl) ?_
  exact W.iret (v := nI (k)) hx hb hr (fun t ht hW => ⟨_, rfl, rfl, ht⟩) (fun _ h => absurd h List.not_mem_nil) dJ3_checkIndex_8e157_17

set_option maxHeartbeats 4000000 in
set_option maxRecDepth 100000 in
theorem c_J15_checkIndex_7cf53 {l : Launch} {G : mG} {V : mV} {α : Nat → Nat} (k n : Nat) (hk : k < n) (hn : n < 2 ^ 31)  : Met l yJ15_checkIndex_7cf53 wsJ15_checkIndex_7cf53 ({ frames := 1, cells := 0, slots := 0, locals := 22 }) (va_Pc [.int (nI (k)), .int (nI (n))] (fun U => mW G V α U U.heap)) (vp_Si (fun r9 => r9 = nI (k))) 0 0 (fun _ => False) := by
  refine Met.ofW (cc := cJ15_checkIndex_7cf53) (maxL := 2) (ret := (some .int)) (by decide) rfl ?_
  intro p e s m args below meth c s₁ B hml hv
  obtain ⟨rfl, hw⟩ := hv
  have hx := B.exec
  have hb := B.bytes
  have hr := B.returns
  have hts := atoms_spec (ws := wsJ15_checkIndex_7cf53) B.pre
  have hown : s.vm.findClass RJ15 = some m.cls := findClass_of_methodNamed B.named
  have hlocks := B.notSynchronized
  have hl := lv_entry ([.int (nI (k)), .int (nI (n))]) (n := 2) (Nat.le_of_ble_eq_true rfl)
  rw [lg_entry_eq]
  generalize (lg_sl ([.int (nI (k)), .int (nI (n))]) ++ List.replicate (2 - (lg_sl ([.int (nI (k)), .int (nI (n))])).length) Slot.unset).toArray = ls at hl ⊢
  have hl : lv_has ls 2 [(0, .int (nI (k))), (1, .int (nI (n)))] := hl
  refine lv_iload_n hx hb dJ15_checkIndex_7cf53_0 rfl (lv_at hl 0 rfl) ?_
  refine lv_iload_n hx hb dJ15_checkIndex_7cf53_1 rfl (lv_at hl 1 rfl) ?_
  refine lv_null hx hb dJ15_checkIndex_7cf53_2 ?_
  refine mcallSi hw ⟨hx, hb, hml, hown, hts⟩ (c_J3_checkIndex_8e157 k n hk hn) (va_cwS 3 hts gJ15_checkIndex_7cf53_J3_checkIndex_8e157 rfl rfl rfl (by decide +kernel) ⟨Nat.le_of_ble_eq_true rfl, Nat.le_of_ble_eq_true rfl⟩) rfl hl.1 rfl (Nat.le_of_ble_eq_true rfl) dJ15_checkIndex_7cf53_3 ⟨Nat.le_of_ble_eq_true rfl, Nat.le_of_ble_eq_true rfl⟩ ?_
  exact W.iret (v := nI (k)) hx hb hr (fun t ht hW => ⟨_, rfl, rfl, ht⟩) (fun _ h => absurd h List.not_mem_nil) dJ15_checkIndex_7cf53_6

set_option maxHeartbeats 4000000 in
set_option maxRecDepth 100000 in
theorem c_Jx4a65c_elementData_915e3 {l : Launch} {G : mG} {V : mV} {α : Nat → Nat} {i j n cap : Nat} {md : Int32} {row : Nat → Option Nat} (hv : V i = some (.inr (0, [.int md, .ref (α j), .int (nI n)]))) (hj : V j = some (.inl (G.2.2.2.1, cap, .inr (.inr (.inr (.inr row)))))) (k : Nat) (hk : k < n) (hn : n ≤ cap) (hcap : cap < 2 ^ 31)  : Met l yJx4a65c_elementData_915e3 wsJx4a65c_elementData_915e3 ({ frames := 0, cells := 0, slots := 0, locals := 0 }) (va_Pc [.ref (α (i)), .int (nI (k))] (fun U => mW G V α U U.heap)) (va_Sq (fun r9 => r9 = row (k))) 0 0 (fun _ => False) := by
  refine Met.ofW (cc := cJx4a65c_elementData_915e3) (maxL := 2) (ret := (some (.object "java/lang/Object"))) (by decide) rfl ?_
  intro p e s m args below meth c s₁ B hml hv
  obtain ⟨rfl, hw⟩ := hv
  have hx := B.exec
  have hb := B.bytes
  have hr := B.returns
  have hts := atoms_spec (ws := wsJx4a65c_elementData_915e3) B.pre
  have hown : s.vm.findClass RJx4a65c = some m.cls := findClass_of_methodNamed B.named
  have hlocks := B.notSynchronized
  have fl_9 := hts (.fieldLink RJx4a65c 9 "java/util/ArrayList" "elementData" "[Ljava/lang/Object;") (by decide +kernel)
  have in_Jx4a65c : ∀ w ∈ u_ws RJx4a65c TJx4a65c 3, w ∈ wsJx4a65c_elementData_915e3 := by decide +kernel
  have hl := lv_entry ([.ref (α (i)), .int (nI (k))]) (n := 2) (Nat.le_of_ble_eq_true rfl)
  rw [lg_entry_eq]
  generalize (lg_sl ([.ref (α (i)), .int (nI (k))]) ++ List.replicate (2 - (lg_sl ([.ref (α (i)), .int (nI (k))])).length) Slot.unset).toArray = ls at hl ⊢
  have hl : lv_has ls 2 [(0, .ref (α (i))), (1, .int (nI (k)))] := hl
  refine lv_aload_n hx hb dJx4a65c_elementData_915e3_0 rfl (lv_at hl 0 rfl) ?_
  refine mget (C := RJx4a65c) (T := TJx4a65c) (N := 3) (ci := 0) hx hb hts in_Jx4a65c hown hw (hv) rfl 1 (by decide) fl_9 rfl dJx4a65c_elementData_915e3_1 ?_
  refine lv_iload_n hx hb dJx4a65c_elementData_915e3_4 rfl (lv_at hl 1 rfl) ?_
  refine maald' (k := k) hx hb hw (hj) (rfl) (by omega) hcap dJx4a65c_elementData_915e3_5 ?_
  exact W.aret (v := va_rf (row (k))) hx hb hr (Or.inl ⟨_, rfl⟩) (va_rf_or _) (fun t ht hW => ⟨_, rfl, rfl, ht⟩) (fun _ h => absurd h List.not_mem_nil) dJx4a65c_elementData_915e3_6

set_option maxHeartbeats 4000000 in
set_option maxRecDepth 100000 in
theorem c_Jx4a65c_get_915e3 {l : Launch} {G : mG} {V : mV} {α : Nat → Nat} {i j n cap : Nat} {md : Int32} {row : Nat → Option Nat} (hv : V i = some (.inr (0, [.int md, .ref (α j), .int (nI n)]))) (hj : V j = some (.inl (G.2.2.2.1, cap, .inr (.inr (.inr (.inr row)))))) (k : Nat) (hk : k < n) (hn : n ≤ cap) (hcap : cap < 2 ^ 31)  : Met l yJx4a65c_get_915e3 wsJx4a65c_get_915e3 ({ frames := 2, cells := 0, slots := 0, locals := 43 }) (va_Pc [.ref (α (i)), .int (nI (k))] (fun U => mW G V α U U.heap)) (va_Sq (fun r9 => r9 = row (k))) 0 0 (fun _ => False) := by
  refine Met.ofW (cc := cJx4a65c_get_915e3) (maxL := 2) (ret := (some (.object "java/lang/Object"))) (by decide) rfl ?_
  intro p e s m args below meth c s₁ B hml hv
  obtain ⟨rfl, hw⟩ := hv
  have hx := B.exec
  have hb := B.bytes
  have hr := B.returns
  have hts := atoms_spec (ws := wsJx4a65c_get_915e3) B.pre
  have hown : s.vm.findClass RJx4a65c = some m.cls := findClass_of_methodNamed B.named
  have hlocks := B.notSynchronized
  have fl_48 := hts (.fieldLink RJx4a65c 48 "java/util/ArrayList" "size" "I") (by decide +kernel)
  have in_Jx4a65c : ∀ w ∈ u_ws RJx4a65c TJx4a65c 3, w ∈ wsJx4a65c_get_915e3 := by decide +kernel
  have hl := lv_entry ([.ref (α (i)), .int (nI (k))]) (n := 2) (Nat.le_of_ble_eq_true rfl)
  rw [lg_entry_eq]
  generalize (lg_sl ([.ref (α (i)), .int (nI (k))]) ++ List.replicate (2 - (lg_sl ([.ref (α (i)), .int (nI (k))])).length) Slot.unset).toArray = ls at hl ⊢
  have hl : lv_has ls 2 [(0, .ref (α (i))), (1, .int (nI (k)))] := hl
  refine lv_iload_n hx hb dJx4a65c_get_915e3_0 rfl (lv_at hl 1 rfl) ?_
  refine lv_aload_n hx hb dJx4a65c_get_915e3_1 rfl (lv_at hl 0 rfl) ?_
  refine mget (C := RJx4a65c) (T := TJx4a65c) (N := 3) (ci := 0) hx hb hts in_Jx4a65c hown hw (hv) rfl 2 (by decide) fl_48 rfl dJx4a65c_get_915e3_2 ?_
  refine mcallSi hw ⟨hx, hb, hml, hown, hts⟩ (c_J15_checkIndex_7cf53 k n hk (by omega)) (va_cwS 2 hts gJx4a65c_get_915e3_J15_checkIndex_7cf53 rfl rfl rfl (by decide +kernel) ⟨Nat.le_of_ble_eq_true rfl, Nat.le_of_ble_eq_true rfl⟩) rfl hl.1 rfl (Nat.le_of_ble_eq_true rfl) dJx4a65c_get_915e3_5 ⟨Nat.le_of_ble_eq_true rfl, Nat.le_of_ble_eq_true rfl⟩ ?_
  refine lv_pop hx hb dJx4a65c_get_915e3_8 rfl ?_
  refine lv_aload_n hx hb dJx4a65c_get_915e3_9 rfl (lv_at hl 0 rfl) ?_
  refine lv_iload_n hx hb dJx4a65c_get_915e3_10 rfl (lv_at hl 1 rfl) ?_
  refine mcallVq hw (hv) rfl rfl ⟨hx, hb, hml, hown, hts⟩ (c_Jx4a65c_elementData_915e3 hv hj k hk hn hcap) (cwV 1 hts gJx4a65c_get_915e3_Jx4a65c_elementData_915e3 rfl rfl rfl (by decide +kernel) ⟨Nat.le_of_ble_eq_true rfl, Nat.le_of_ble_eq_true rfl⟩) rfl hl.1 rfl (Nat.le_of_ble_eq_true rfl) dJx4a65c_get_915e3_11 ⟨Nat.le_of_ble_eq_true rfl, Nat.le_of_ble_eq_true rfl⟩ ?_
  exact W.aret (v := va_rf (row (k))) hx hb hr (Or.inl ⟨_, rfl⟩) (va_rf_or _) (fun t ht hW => ⟨_, rfl, rfl, ht⟩) (fun _ h => absurd h List.not_mem_nil) dJx4a65c_get_915e3_14

theorem c_lsize {l : Launch} {G : mG} {V : mV} {α : Nat → Nat} {i n base : Nat} (h : mLs G V α i n base) : Met l yJx4a65c_size_8abf5 wsJx4a65c_size_8abf5 ({ frames := 0, cells := 0, slots := 0, locals := 0 }) (va_Pc [.ref (α i)] (fun U => mW G V α U U.heap)) (vp_Si (fun r9 => r9 = nI n)) 0 0 (fun _ => False) := by
  obtain ⟨md, ed, hv⟩ := h.obj
  exact c_Jx4a65c_size_8abf5 hv
theorem c_lget {l : Launch} {G : mG} {V : mV} {α : Nat → Nat} {i n base : Nat} (h : mLs G V α i n base) (k : Nat) (hk : k < n) : Met l yJx4a65c_get_915e3 wsJx4a65c_get_915e3 ({ frames := 2, cells := 0, slots := 0, locals := 43 }) (va_Pc [.ref (α i), .int (nI k)] (fun U => mW G V α U U.heap)) (va_Sq (fun r9 => r9 = some (α (base + k)))) 0 0 (fun _ => False) := by
  obtain ⟨md, cap, row, h1, h2, -, ⟨h3, h4, h5⟩ | ⟨h3, h4, h5, h6⟩⟩ := h
  · omega
  · rw [← h6 k hk]
    exact c_Jx4a65c_get_915e3 h4 h5 k hk h1 (by omega)

set_option maxHeartbeats 4000000 in
set_option maxRecDepth 100000 in
theorem c_X1_paidLength {l : Launch} {G : mG} {V : mV} {α : Nat → Nat} {f : sT} (si : Nat) (hv : V (300 + si) = some (sobj α f si))  : Met l yX1_paidLength wsX1_paidLength ({ frames := 1, cells := 0, slots := 0, locals := 21 }) (va_Pc [.ref (α (300 + si))] (fun U => mW G V α U U.heap)) (vp_Si (fun r9 => r9 = s_paid f si)) 0 0 (fun _ => False) := by
  refine Met.ofW (cc := cX1_paidLength) (maxL := 1) (ret := (some .int)) (by decide) rfl ?_
  intro p e s m args below meth c s₁ B hml hv
  obtain ⟨rfl, hw⟩ := hv
  have hx := B.exec
  have hb := B.bytes
  have hr := B.returns
  have hts := atoms_spec (ws := wsX1_paidLength) B.pre
  have hown : s.vm.findClass RX1 = some m.cls := findClass_of_methodNamed B.named
  have hlocks := B.notSynchronized
  have fl_25 := hts (.fieldLink RX1 25 "RosterPay$Shift" "isCancelled" "Z") (by decide +kernel)
  have in_X1 : ∀ w ∈ u_ws RX1 TX1 5, w ∈ wsX1_paidLength := by decide +kernel
  have fl_19 := hts (.fieldLink RX1 19 "RosterPay$Shift" "quarters" "I") (by decide +kernel)
  have mm_29 := hts (.methodLink RX1 29 Lib.Math.max.name) (by decide +kernel)
  have ms_29 := hts (.static Lib.Math.max.name) (by decide +kernel)
  have mi_29 := hts (.initialized "java/lang/Math") (by decide +kernel)
  have mc_29 := hts (.code Lib.Math.max.name Lib.Math.max.code 2 (some .int)) (by decide +kernel)
  have hl := lv_entry ([.ref (α (300 + si))]) (n := 1) (Nat.le_of_ble_eq_true rfl)
  rw [lg_entry_eq]
  generalize (lg_sl ([.ref (α (300 + si))]) ++ List.replicate (1 - (lg_sl ([.ref (α (300 + si))])).length) Slot.unset).toArray = ls at hl ⊢
  have hl : lv_has ls 1 [(0, .ref (α (300 + si)))] := hl
  refine lv_aload_n hx hb dX1_paidLength_0 rfl (lv_at hl 0 rfl) ?_
  refine mget (C := RX1) (T := TX1) (N := 5) (ci := 2) hx hb hts in_X1 hown hw (hv) rfl 4 (by decide) fl_25 rfl dX1_paidLength_1 ?_
  refine lv_if_eq (tgt := 11) hx hb dX1_paidLength_4 (by decide) (fun c1 => ?_) (fun c1 => ?_)
  ·
    refine lv_aload_n hx hb dX1_paidLength_11 rfl (lv_at hl 0 rfl) ?_
    refine mget (C := RX1) (T := TX1) (N := 5) (ci := 2) hx hb hts in_X1 hown hw (hv) rfl 2 (by decide) fl_19 rfl dX1_paidLength_12 ?_
    refine lv_bipush (v := (12)) hx hb dX1_paidLength_15 (by decide) ?_
    refine va_mmax hx hb (hml.trans hl.1.symm) hown mm_29 ms_29 mi_29 mc_29 (Nat.le_of_ble_eq_true rfl) (Nat.le_of_ble_eq_true rfl) (Nat.zero_le _) (Nat.zero_le _) dX1_paidLength_17 ?_
    exact W.iret (v := (if f 11 (si) < 12 then 12 else f 11 (si))) hx hb hr (fun t ht hW => ⟨_, rfl, s_paid_mx c1, ht⟩) (fun _ h => absurd h List.not_mem_nil) dX1_paidLength_20
  ·
    refine lv_iconst (v := (0)) hx hb dX1_paidLength_7 (by decide) ?_
    refine lv_goto (tgt := 20) hx hb dX1_paidLength_8 (by decide) ?_
    exact W.iret (v := 0) hx hb hr (fun t ht hW => ⟨_, rfl, (by unfold s_paid; rw [if_neg c1]), ht⟩) (fun _ h => absurd h List.not_mem_nil) dX1_paidLength_20

set_option maxHeartbeats 4000000 in
set_option maxRecDepth 100000 in
theorem c_X1_dayOf {l : Launch} {G : mG} {V : mV} {α : Nat → Nat} {f : sT} (si : Nat) (hv : V (300 + si) = some (sobj α f si)) (a q : Nat) (ha : a < 34848) (hq : q < 64) (h10 : f 10 si = nI a)  : Met l yX1_dayOf wsX1_dayOf ({ frames := 0, cells := 0, slots := 0, locals := 0 }) (va_Pc [.ref (α (300 + si)), .int (nI (q))] (fun U => mW G V α U U.heap)) (vp_Si (fun r9 => r9 = nI ((a + q) / 96))) 0 0 (fun _ => False) := by
  refine Met.ofW (cc := cX1_dayOf) (maxL := 2) (ret := (some .int)) (by decide) rfl ?_
  intro p e s m args below meth c s₁ B hml hv
  obtain ⟨rfl, hw⟩ := hv
  have hx := B.exec
  have hb := B.bytes
  have hr := B.returns
  have hts := atoms_spec (ws := wsX1_dayOf) B.pre
  have hown : s.vm.findClass RX1 = some m.cls := findClass_of_methodNamed B.named
  have hlocks := B.notSynchronized
  have fl_15 := hts (.fieldLink RX1 15 "RosterPay$Shift" "start" "I") (by decide +kernel)
  have in_X1 : ∀ w ∈ u_ws RX1 TX1 5, w ∈ wsX1_dayOf := by decide +kernel
  have hl := lv_entry ([.ref (α (300 + si)), .int (nI (q))]) (n := 2) (Nat.le_of_ble_eq_true rfl)
  rw [lg_entry_eq]
  generalize (lg_sl ([.ref (α (300 + si)), .int (nI (q))]) ++ List.replicate (2 - (lg_sl ([.ref (α (300 + si)), .int (nI (q))])).length) Slot.unset).toArray = ls at hl ⊢
  have hl : lv_has ls 2 [(0, .ref (α (300 + si))), (1, .int (nI (q)))] := hl
  refine lv_aload_n hx hb dX1_dayOf_0 rfl (lv_at hl 0 rfl) ?_
  refine mget (C := RX1) (T := TX1) (N := 5) (ci := 2) hx hb hts in_X1 hown hw (hv) rfl 1 (by decide) fl_15 rfl dX1_dayOf_1 ?_
  refine lv_iload_n hx hb dX1_dayOf_4 rfl (lv_at hl 1 rfl) ?_
  refine lv_iadd hx hb dX1_dayOf_5 ?_
  refine lv_topi (fun y1 ey1 => ?_)
  obtain rfl : y1 = (nI (a + q)) := ey1.trans (by rw [h10, nI_add])
  refine lv_bipush (v := (96)) hx hb dX1_dayOf_6 (by decide) ?_
  refine lv_idiv hx hb dX1_dayOf_8 (by decide) ?_
  exact W.iret (v := (nI (a + q) / 96)) hx hb hr (fun t ht hW => ⟨_, rfl, mdiv (by omega) 96 (by omega) (by omega), ht⟩) (fun _ h => absurd h List.not_mem_nil) dX1_dayOf_9

set_option maxHeartbeats 4000000 in
set_option maxRecDepth 100000 in
theorem c_X1_quarterOfDay {l : Launch} {G : mG} {V : mV} {α : Nat → Nat} {f : sT} (si : Nat) (hv : V (300 + si) = some (sobj α f si)) (a q : Nat) (ha : a < 34848) (hq : q < 64) (h10 : f 10 si = nI a)  : Met l yX1_quarterOfDay wsX1_quarterOfDay ({ frames := 0, cells := 0, slots := 0, locals := 0 }) (va_Pc [.ref (α (300 + si)), .int (nI (q))] (fun U => mW G V α U U.heap)) (vp_Si (fun r9 => r9 = nI ((a + q) % 96))) 0 0 (fun _ => False) := by
  refine Met.ofW (cc := cX1_quarterOfDay) (maxL := 2) (ret := (some .int)) (by decide) rfl ?_
  intro p e s m args below meth c s₁ B hml hv
  obtain ⟨rfl, hw⟩ := hv
  have hx := B.exec
  have hb := B.bytes
  have hr := B.returns
  have hts := atoms_spec (ws := wsX1_quarterOfDay) B.pre
  have hown : s.vm.findClass RX1 = some m.cls := findClass_of_methodNamed B.named
  have hlocks := B.notSynchronized
  have fl_15 := hts (.fieldLink RX1 15 "RosterPay$Shift" "start" "I") (by decide +kernel)
  have in_X1 : ∀ w ∈ u_ws RX1 TX1 5, w ∈ wsX1_quarterOfDay := by decide +kernel
  have hl := lv_entry ([.ref (α (300 + si)), .int (nI (q))]) (n := 2) (Nat.le_of_ble_eq_true rfl)
  rw [lg_entry_eq]
  generalize (lg_sl ([.ref (α (300 + si)), .int (nI (q))]) ++ List.replicate (2 - (lg_sl ([.ref (α (300 + si)), .int (nI (q))])).length) Slot.unset).toArray = ls at hl ⊢
  have hl : lv_has ls 2 [(0, .ref (α (300 + si))), (1, .int (nI (q)))] := hl
  refine lv_aload_n hx hb dX1_quarterOfDay_0 rfl (lv_at hl 0 rfl) ?_
  refine mget (C := RX1) (T := TX1) (N := 5) (ci := 2) hx hb hts in_X1 hown hw (hv) rfl 1 (by decide) fl_15 rfl dX1_quarterOfDay_1 ?_
  refine lv_iload_n hx hb dX1_quarterOfDay_4 rfl (lv_at hl 1 rfl) ?_
  refine lv_iadd hx hb dX1_quarterOfDay_5 ?_
  refine lv_topi (fun y1 ey1 => ?_)
  obtain rfl : y1 = (nI (a + q)) := ey1.trans (by rw [h10, nI_add])
  refine lv_bipush (v := (96)) hx hb dX1_quarterOfDay_6 (by decide) ?_
  refine lv_irem hx hb dX1_quarterOfDay_8 (by decide) ?_
  exact W.iret (v := (nI (a + q) - nI (a + q) / 96 * 96)) hx hb hr (fun t ht hW => ⟨_, rfl, mrem (by omega) 96 (by omega) (by omega), ht⟩) (fun _ h => absurd h List.not_mem_nil) dX1_quarterOfDay_9

set_option maxHeartbeats 4000000 in
set_option maxRecDepth 100000 in
theorem c_X1_breaksOwed {l : Launch} {G : mG} {V : mV} {α : Nat → Nat} {f : sT} (si : Nat) (hv : V (300 + si) = some (sobj α f si))  : Met l yX1_breaksOwed wsX1_breaksOwed ({ frames := 0, cells := 0, slots := 0, locals := 0 }) (va_Pc [.ref (α (300 + si))] (fun U => mW G V α U U.heap)) (vp_Si (fun r9 => r9 = s_owed (f 11 si))) 0 0 (fun _ => False) := by
  refine Met.ofW (cc := cX1_breaksOwed) (maxL := 1) (ret := (some .int)) (by decide) rfl ?_
  intro p e s m args below meth c s₁ B hml hv
  obtain ⟨rfl, hw⟩ := hv
  have hx := B.exec
  have hb := B.bytes
  have hr := B.returns
  have hts := atoms_spec (ws := wsX1_breaksOwed) B.pre
  have hown : s.vm.findClass RX1 = some m.cls := findClass_of_methodNamed B.named
  have hlocks := B.notSynchronized
  have fl_19 := hts (.fieldLink RX1 19 "RosterPay$Shift" "quarters" "I") (by decide +kernel)
  have in_X1 : ∀ w ∈ u_ws RX1 TX1 5, w ∈ wsX1_breaksOwed := by decide +kernel
  have hl := lv_entry ([.ref (α (300 + si))]) (n := 1) (Nat.le_of_ble_eq_true rfl)
  rw [lg_entry_eq]
  generalize (lg_sl ([.ref (α (300 + si))]) ++ List.replicate (1 - (lg_sl ([.ref (α (300 + si))])).length) Slot.unset).toArray = ls at hl ⊢
  have hl : lv_has ls 1 [(0, .ref (α (300 + si)))] := hl
  refine lv_aload_n hx hb dX1_breaksOwed_0 rfl (lv_at hl 0 rfl) ?_
  refine mget (C := RX1) (T := TX1) (N := 5) (ci := 2) hx hb hts in_X1 hown hw (hv) rfl 2 (by decide) fl_19 rfl dX1_breaksOwed_1 ?_
  refine lv_bipush (v := (40)) hx hb dX1_breaksOwed_4 (by decide) ?_
  refine lv_icmp_lt (tgt := 11) hx hb dX1_breaksOwed_6 (by decide) (fun c1 => ?_) (fun c1 => ?_)
  ·
    refine lv_aload_n hx hb dX1_breaksOwed_11 rfl (lv_at hl 0 rfl) ?_
    refine mget (C := RX1) (T := TX1) (N := 5) (ci := 2) hx hb hts in_X1 hown hw (hv) rfl 2 (by decide) fl_19 rfl dX1_breaksOwed_12 ?_
    refine lv_bipush (v := (20)) hx hb dX1_breaksOwed_15 (by decide) ?_
    refine lv_icmp_lt (tgt := 24) hx hb dX1_breaksOwed_17 (by decide) (fun c2 => ?_) (fun c2 => ?_)
    ·
      refine lv_iconst (v := (0)) hx hb dX1_breaksOwed_24 (by decide) ?_
      exact W.iret (v := 0) hx hb hr (fun t ht hW => ⟨_, rfl, (by unfold s_owed; rw [if_pos c1, if_pos c2]), ht⟩) (fun _ h => absurd h List.not_mem_nil) dX1_breaksOwed_25
    ·
      refine lv_iconst (v := (1)) hx hb dX1_breaksOwed_20 (by decide) ?_
      refine lv_goto (tgt := 25) hx hb dX1_breaksOwed_21 (by decide) ?_
      exact W.iret (v := 1) hx hb hr (fun t ht hW => ⟨_, rfl, (by unfold s_owed; rw [if_pos c1, if_neg c2]), ht⟩) (fun _ h => absurd h List.not_mem_nil) dX1_breaksOwed_25
  ·
    refine lv_iconst (v := (2)) hx hb dX1_breaksOwed_9 (by decide) ?_
    exact W.iret (v := 2) hx hb hr (fun t ht hW => ⟨_, rfl, (by unfold s_owed; rw [if_neg c1]), ht⟩) (fun _ h => absurd h List.not_mem_nil) dX1_breaksOwed_10

set_option maxHeartbeats 4000000 in
set_option maxRecDepth 100000 in
theorem c_X1_breaksMissed {l : Launch} {G : mG} {V : mV} {α : Nat → Nat} {f : sT} (si : Nat) (hv : V (300 + si) = some (sobj α f si)) (t : Nat) (h12 : f 12 si = nI t) (ht0 : t ≤ 5)  : Met l yX1_breaksMissed wsX1_breaksMissed ({ frames := 1, cells := 0, slots := 0, locals := 21 }) (va_Pc [.ref (α (300 + si))] (fun U => mW G V α U U.heap)) (vp_Si (fun r9 => r9 = s_lacks f si)) 0 0 (fun _ => False) := by
  refine Met.ofW (cc := cX1_breaksMissed) (maxL := 1) (ret := (some .int)) (by decide) rfl ?_
  intro p e s m args below meth c s₁ B hml hv
  obtain ⟨rfl, hw⟩ := hv
  have hx := B.exec
  have hb := B.bytes
  have hr := B.returns
  have hts := atoms_spec (ws := wsX1_breaksMissed) B.pre
  have hown : s.vm.findClass RX1 = some m.cls := findClass_of_methodNamed B.named
  have hlocks := B.notSynchronized
  have fl_25 := hts (.fieldLink RX1 25 "RosterPay$Shift" "isCancelled" "Z") (by decide +kernel)
  have in_X1 : ∀ w ∈ u_ws RX1 TX1 5, w ∈ wsX1_breaksMissed := by decide +kernel
  have fl_22 := hts (.fieldLink RX1 22 "RosterPay$Shift" "breaksTaken" "I") (by decide +kernel)
  have mm_29 := hts (.methodLink RX1 29 Lib.Math.max.name) (by decide +kernel)
  have ms_29 := hts (.static Lib.Math.max.name) (by decide +kernel)
  have mi_29 := hts (.initialized "java/lang/Math") (by decide +kernel)
  have mc_29 := hts (.code Lib.Math.max.name Lib.Math.max.code 2 (some .int)) (by decide +kernel)
  have hl := lv_entry ([.ref (α (300 + si))]) (n := 1) (Nat.le_of_ble_eq_true rfl)
  rw [lg_entry_eq]
  generalize (lg_sl ([.ref (α (300 + si))]) ++ List.replicate (1 - (lg_sl ([.ref (α (300 + si))])).length) Slot.unset).toArray = ls at hl ⊢
  have hl : lv_has ls 1 [(0, .ref (α (300 + si)))] := hl
  refine lv_aload_n hx hb dX1_breaksMissed_0 rfl (lv_at hl 0 rfl) ?_
  refine mget (C := RX1) (T := TX1) (N := 5) (ci := 2) hx hb hts in_X1 hown hw (hv) rfl 4 (by decide) fl_25 rfl dX1_breaksMissed_1 ?_
  refine lv_if_eq (tgt := 11) hx hb dX1_breaksMissed_4 (by decide) (fun c1 => ?_) (fun c1 => ?_)
  ·
    refine lv_aload_n hx hb dX1_breaksMissed_11 rfl (lv_at hl 0 rfl) ?_
    refine mcallVi hw (hv) rfl rfl ⟨hx, hb, hml, hown, hts⟩ (c_X1_breaksOwed si hv) (cwV 0 hts gX1_breaksMissed_X1_breaksOwed rfl rfl rfl (by decide +kernel) ⟨Nat.le_of_ble_eq_true rfl, Nat.le_of_ble_eq_true rfl⟩) rfl hl.1 rfl (Nat.le_of_ble_eq_true rfl) dX1_breaksMissed_12 ⟨Nat.le_of_ble_eq_true rfl, Nat.le_of_ble_eq_true rfl⟩ ?_
    refine lv_aload_n hx hb dX1_breaksMissed_15 rfl (lv_at hl 0 rfl) ?_
    refine mget (C := RX1) (T := TX1) (N := 5) (ci := 2) hx hb hts in_X1 hown hw (hv) rfl 3 (by decide) fl_22 rfl dX1_breaksMissed_16 ?_
    refine lv_isub hx hb dX1_breaksMissed_19 ?_
    refine lv_iconst (v := (0)) hx hb dX1_breaksMissed_20 (by decide) ?_
    refine va_mmax hx hb (hml.trans hl.1.symm) hown mm_29 ms_29 mi_29 mc_29 (Nat.le_of_ble_eq_true rfl) (Nat.le_of_ble_eq_true rfl) (Nat.zero_le _) (Nat.zero_le _) dX1_breaksMissed_21 ?_
    exact W.iret (v := (if (s_owed (f 11 si) - f 12 (si)) < 0 then 0 else (s_owed (f 11 si) - f 12 (si)))) hx hb hr (fun t ht hW => ⟨_, rfl, s_lacks_mx c1 h12 ht0, ht⟩) (fun _ h => absurd h List.not_mem_nil) dX1_breaksMissed_24
  ·
    refine lv_iconst (v := (0)) hx hb dX1_breaksMissed_7 (by decide) ?_
    refine lv_goto (tgt := 24) hx hb dX1_breaksMissed_8 (by decide) ?_
    exact W.iret (v := 0) hx hb hr (fun t ht hW => ⟨_, rfl, (by unfold s_lacks; rw [if_neg c1]), ht⟩) (fun _ h => absurd h List.not_mem_nil) dX1_breaksMissed_24

set_option maxHeartbeats 4000000 in
set_option maxRecDepth 100000 in
theorem c_X1_ownBetween {l : Launch} {G : mG} {V : mV} {α : Nat → Nat} {f : sT} (si : Nat) (hv : V (300 + si) = some (sobj α f si)) (lo hi : Int32)  : Met l yX1_ownBetween wsX1_ownBetween ({ frames := 1, cells := 0, slots := 0, locals := 21 }) (va_Pc [.ref (α (300 + si)), .int (lo), .int (hi)] (fun U => mW G V α U U.heap)) (vp_Si (fun r9 => r9 = s_own f si lo hi)) 0 0 (fun _ => False) := by
  refine Met.ofW (cc := cX1_ownBetween) (maxL := 3) (ret := (some .int)) (by decide) rfl ?_
  intro p e s m args below meth c s₁ B hml hv
  obtain ⟨rfl, hw⟩ := hv
  have hx := B.exec
  have hb := B.bytes
  have hr := B.returns
  have hts := atoms_spec (ws := wsX1_ownBetween) B.pre
  have hown : s.vm.findClass RX1 = some m.cls := findClass_of_methodNamed B.named
  have hlocks := B.notSynchronized
  have fl_15 := hts (.fieldLink RX1 15 "RosterPay$Shift" "start" "I") (by decide +kernel)
  have in_X1 : ∀ w ∈ u_ws RX1 TX1 5, w ∈ wsX1_ownBetween := by decide +kernel
  have fl_19 := hts (.fieldLink RX1 19 "RosterPay$Shift" "quarters" "I") (by decide +kernel)
  have mm_39 := hts (.methodLink RX1 39 Lib.Math.min.name) (by decide +kernel)
  have ms_39 := hts (.static Lib.Math.min.name) (by decide +kernel)
  have mi_39 := hts (.initialized "java/lang/Math") (by decide +kernel)
  have mc_39 := hts (.code Lib.Math.min.name Lib.Math.min.code 2 (some .int)) (by decide +kernel)
  have mm_29 := hts (.methodLink RX1 29 Lib.Math.max.name) (by decide +kernel)
  have ms_29 := hts (.static Lib.Math.max.name) (by decide +kernel)
  have mi_29 := hts (.initialized "java/lang/Math") (by decide +kernel)
  have mc_29 := hts (.code Lib.Math.max.name Lib.Math.max.code 2 (some .int)) (by decide +kernel)
  have hl := lv_entry ([.ref (α (300 + si)), .int (lo), .int (hi)]) (n := 3) (Nat.le_of_ble_eq_true rfl)
  rw [lg_entry_eq]
  generalize (lg_sl ([.ref (α (300 + si)), .int (lo), .int (hi)]) ++ List.replicate (3 - (lg_sl ([.ref (α (300 + si)), .int (lo), .int (hi)])).length) Slot.unset).toArray = ls at hl ⊢
  have hl : lv_has ls 3 [(0, .ref (α (300 + si))), (1, .int (lo)), (2, .int (hi))] := hl
  refine lv_aload_n hx hb dX1_ownBetween_0 rfl (lv_at hl 0 rfl) ?_
  refine mget (C := RX1) (T := TX1) (N := 5) (ci := 2) hx hb hts in_X1 hown hw (hv) rfl 1 (by decide) fl_15 rfl dX1_ownBetween_1 ?_
  refine lv_aload_n hx hb dX1_ownBetween_4 rfl (lv_at hl 0 rfl) ?_
  refine mget (C := RX1) (T := TX1) (N := 5) (ci := 2) hx hb hts in_X1 hown hw (hv) rfl 2 (by decide) fl_19 rfl dX1_ownBetween_5 ?_
  refine lv_iadd hx hb dX1_ownBetween_8 ?_
  refine lv_iload_n hx hb dX1_ownBetween_9 rfl (lv_at hl 2 rfl) ?_
  refine va_mmin hx hb (hml.trans hl.1.symm) hown mm_39 ms_39 mi_39 mc_39 (Nat.le_of_ble_eq_true rfl) (Nat.le_of_ble_eq_true rfl) (Nat.zero_le _) (Nat.zero_le _) dX1_ownBetween_10 ?_
  refine lv_aload_n hx hb dX1_ownBetween_13 rfl (lv_at hl 0 rfl) ?_
  refine mget (C := RX1) (T := TX1) (N := 5) (ci := 2) hx hb hts in_X1 hown hw (hv) rfl 1 (by decide) fl_15 rfl dX1_ownBetween_14 ?_
  refine lv_iload_n hx hb dX1_ownBetween_17 rfl (lv_at hl 1 rfl) ?_
  refine va_mmax hx hb (hml.trans hl.1.symm) hown mm_29 ms_29 mi_29 mc_29 (Nat.le_of_ble_eq_true rfl) (Nat.le_of_ble_eq_true rfl) (Nat.zero_le _) (Nat.zero_le _) dX1_ownBetween_18 ?_
  refine lv_isub hx hb dX1_ownBetween_21 ?_
  refine lv_iconst (v := (0)) hx hb dX1_ownBetween_22 (by decide) ?_
  refine va_mmax hx hb (hml.trans hl.1.symm) hown mm_29 ms_29 mi_29 mc_29 (Nat.le_of_ble_eq_true rfl) (Nat.le_of_ble_eq_true rfl) (Nat.zero_le _) (Nat.zero_le _) dX1_ownBetween_23 ?_
  exact W.iret (v := (if ((if hi < (f 10 (si) + f 11 (si)) then hi else (f 10 (si) + f 11 (si))) - (if f 10 (si) < lo then lo else f 10 (si))) < 0 then 0 else ((if hi < (f 10 (si) + f 11 (si)) then hi else (f 10 (si) + f 11 (si))) - (if f 10 (si) < lo then lo else f 10 (si))))) hx hb hr (fun t ht hW => ⟨_, rfl, rfl, ht⟩) (fun _ h => absurd h List.not_mem_nil) dX1_ownBetween_26

set_option maxHeartbeats 4000000 in
set_option maxRecDepth 100000 in
theorem c_X0_hasBit {l : Launch} {G : mG} {V : mV} {α : Nat → Nat} (x b : Int32)  : Met l yX0_hasBit wsX0_hasBit ({ frames := 0, cells := 0, slots := 0, locals := 0 }) (va_Pc [.int (x), .int (b)] (fun U => mW G V α U U.heap)) (vp_Si (fun r9 => r9 = bI ((x >>> (b &&& 31)) &&& 1 = 1))) 0 0 (fun _ => False) := by
  refine Met.ofW (cc := cX0_hasBit) (maxL := 2) (ret := (some .boolean)) (by decide) rfl ?_
  intro p e s m args below meth c s₁ B hml hv
  obtain ⟨rfl, hw⟩ := hv
  have hx := B.exec
  have hb := B.bytes
  have hr := B.returns
  have hts := atoms_spec (ws := wsX0_hasBit) B.pre
  have hown : s.vm.findClass RX0 = some m.cls := findClass_of_methodNamed B.named
  have hlocks := B.notSynchronized
  have hl := lv_entry ([.int (x), .int (b)]) (n := 2) (Nat.le_of_ble_eq_true rfl)
  rw [lg_entry_eq]
  generalize (lg_sl ([.int (x), .int (b)]) ++ List.replicate (2 - (lg_sl ([.int (x), .int (b)])).length) Slot.unset).toArray = ls at hl ⊢
  have hl : lv_has ls 2 [(0, .int (x)), (1, .int (b))] := hl
  refine lv_iload_n hx hb dX0_hasBit_0 rfl (lv_at hl 0 rfl) ?_
  refine lv_iload_n hx hb dX0_hasBit_1 rfl (lv_at hl 1 rfl) ?_
  refine lv_ishr hx hb dX0_hasBit_2 ?_
  refine lv_iconst (v := (1)) hx hb dX0_hasBit_3 (by decide) ?_
  refine lv_iand hx hb dX0_hasBit_4 ?_
  refine lv_iconst (v := (1)) hx hb dX0_hasBit_5 (by decide) ?_
  refine lv_icmp_ne (tgt := 13) hx hb dX0_hasBit_6 (by decide) (fun c1 => ?_) (fun c1 => ?_)
  ·
    refine lv_iconst (v := (0)) hx hb dX0_hasBit_13 (by decide) ?_
    exact W.zret (v := 0) hx hb hr (rfl) (fun t ht hW => ⟨_, rfl, (bI_f (fun z => c1 (z))).symm, ht⟩) (fun _ h => absurd h List.not_mem_nil) dX0_hasBit_14
  ·
    refine lv_iconst (v := (1)) hx hb dX0_hasBit_9 (by decide) ?_
    refine lv_goto (tgt := 14) hx hb dX0_hasBit_10 (by decide) ?_
    exact W.zret (v := 1) hx hb hr (rfl) (fun t ht hW => ⟨_, rfl, (bI_t c1).symm, ht⟩) (fun _ h => absurd h List.not_mem_nil) dX0_hasBit_14

set_option maxHeartbeats 4000000 in
set_option maxRecDepth 100000 in
theorem c_X0_isForDay {l : Launch} {G : mG} {V : mV} {α : Nat → Nat} {f : sT} (k : Nat) (hv : V (100 + k) = some (robj f k)) (d : Nat) (h7 : f 7 d = 0 ∨ f 7 d = 1)  : Met l yX0_isForDay wsX0_isForDay ({ frames := 1, cells := 0, slots := 0, locals := 21 }) (va_Pc [.ref (α (100 + k)), .int (nI (d)), .int (f 7 d)] (fun U => mW G V α U U.heap)) (vp_Si (fun r9 => r9 = s_on f k d)) 0 0 (fun _ => False) := by
  refine Met.ofW (cc := cX0_isForDay) (maxL := 3) (ret := (some .boolean)) (by decide) rfl ?_
  intro p e s m args below meth c s₁ B hml hv
  obtain ⟨rfl, hw⟩ := hv
  have hx := B.exec
  have hb := B.bytes
  have hr := B.returns
  have hts := atoms_spec (ws := wsX0_isForDay) B.pre
  have hown : s.vm.findClass RX0 = some m.cls := findClass_of_methodNamed B.named
  have hlocks := B.notSynchronized
  have fl_15 := hts (.fieldLink RX0 15 "RosterPay$Rule" "weekdays" "I") (by decide +kernel)
  have in_X0 : ∀ w ∈ u_ws RX0 TX0 7, w ∈ wsX0_isForDay := by decide +kernel
  have hl := lv_entry ([.ref (α (100 + k)), .int (nI (d)), .int (f 7 d)]) (n := 3) (Nat.le_of_ble_eq_true rfl)
  rw [lg_entry_eq]
  generalize (lg_sl ([.ref (α (100 + k)), .int (nI (d)), .int (f 7 d)]) ++ List.replicate (3 - (lg_sl ([.ref (α (100 + k)), .int (nI (d)), .int (f 7 d)])).length) Slot.unset).toArray = ls at hl ⊢
  have hl : lv_has ls 3 [(0, .ref (α (100 + k))), (1, .int (nI (d))), (2, .int (f 7 d))] := hl
  refine lv_aload_n hx hb dX0_isForDay_0 rfl (lv_at hl 0 rfl) ?_
  refine mget (C := RX0) (T := TX0) (N := 7) (ci := 1) hx hb hts in_X0 hown hw (hv) rfl 1 (by decide) fl_15 rfl dX0_isForDay_1 ?_
  refine lv_if_ne (tgt := 11) hx hb dX0_isForDay_4 (by decide) (fun c1 => ?_) (fun c1 => ?_)
  ·
    refine lv_aload_n hx hb dX0_isForDay_11 rfl (lv_at hl 0 rfl) ?_
    refine mget (C := RX0) (T := TX0) (N := 7) (ci := 1) hx hb hts in_X0 hown hw (hv) rfl 1 (by decide) fl_15 rfl dX0_isForDay_12 ?_
    refine lv_iload_n hx hb dX0_isForDay_15 rfl (lv_at hl 1 rfl) ?_
    refine lv_bipush (v := (7)) hx hb dX0_isForDay_16 (by decide) ?_
    refine lv_irem hx hb dX0_isForDay_18 (by decide) ?_
    refine mcallSi hw ⟨hx, hb, hml, hown, hts⟩ (c_X0_hasBit (f 1 (k)) ((nI (d) - nI (d) / 7 * 7))) (va_cwS 2 hts gX0_isForDay_X0_hasBit rfl rfl rfl (by decide +kernel) ⟨Nat.le_of_ble_eq_true rfl, Nat.le_of_ble_eq_true rfl⟩) rfl hl.1 rfl (Nat.le_of_ble_eq_true rfl) dX0_isForDay_19 ⟨Nat.le_of_ble_eq_true rfl, Nat.le_of_ble_eq_true rfl⟩ ?_
    exact W.zret (v := bI ((f 1 (k) >>> ((nI (d) - nI (d) / 7 * 7) &&& 31)) &&& 1 = 1)) hx hb hr (bI_nar) (fun t ht hW => ⟨_, rfl, (by unfold s_on; rw [if_neg c1]), ht⟩) (fun _ h => absurd h List.not_mem_nil) dX0_isForDay_22
  ·
    refine lv_iload_n hx hb dX0_isForDay_7 rfl (lv_at hl 2 rfl) ?_
    refine lv_goto (tgt := 22) hx hb dX0_isForDay_8 (by decide) ?_
    exact W.zret (v := f 7 d) hx hb hr (z1_nar h7) (fun t ht hW => ⟨_, rfl, (by unfold s_on; rw [if_pos c1]), ht⟩) (fun _ h => absurd h List.not_mem_nil) dX0_isForDay_22

set_option maxHeartbeats 4000000 in
set_option maxRecDepth 100000 in
theorem c_X0_appliesTo {l : Launch} {G : mG} {V : mV} {α : Nat → Nat} {f : sT} (k : Nat) (hv : V (100 + k) = some (robj f k)) (n : Nat) (hn : n < 34944) (r : Int32) (h6 : f 6 k = 0 ∨ f 6 k = 1) (h7 : f 7 (n / 96) = 0 ∨ f 7 (n / 96) = 1)  : Met l yX0_appliesTo wsX0_appliesTo ({ frames := 2, cells := 0, slots := 0, locals := 43 }) (va_Pc [.ref (α (100 + k)), .int (r), .int (nI (n / 96)), .int (nI (n % 96)), .int (f 7 (n / 96))] (fun U => mW G V α U U.heap)) (vp_Si (fun r9 => r9 = bI (s_ap f k n r))) 0 0 (fun _ => False) := by
  refine Met.ofW (cc := cX0_appliesTo) (maxL := 5) (ret := (some .boolean)) (by decide) rfl ?_
  intro p e s m args below meth c s₁ B hml hv
  obtain ⟨rfl, hw⟩ := hv
  have hx := B.exec
  have hb := B.bytes
  have hr := B.returns
  have hts := atoms_spec (ws := wsX0_appliesTo) B.pre
  have hown : s.vm.findClass RX0 = some m.cls := findClass_of_methodNamed B.named
  have hlocks := B.notSynchronized
  have fl_30 := hts (.fieldLink RX0 30 "RosterPay$Rule" "isOn" "Z") (by decide +kernel)
  have in_X0 : ∀ w ∈ u_ws RX0 TX0 7, w ∈ wsX0_appliesTo := by decide +kernel
  have fl_24 := hts (.fieldLink RX0 24 "RosterPay$Rule" "ranks" "I") (by decide +kernel)
  have fl_18 := hts (.fieldLink RX0 18 "RosterPay$Rule" "from" "I") (by decide +kernel)
  have fl_21 := hts (.fieldLink RX0 21 "RosterPay$Rule" "to" "I") (by decide +kernel)
  have hl := lv_entry ([.ref (α (100 + k)), .int (r), .int (nI (n / 96)), .int (nI (n % 96)), .int (f 7 (n / 96))]) (n := 5) (Nat.le_of_ble_eq_true rfl)
  rw [lg_entry_eq]
  generalize (lg_sl ([.ref (α (100 + k)), .int (r), .int (nI (n / 96)), .int (nI (n % 96)), .int (f 7 (n / 96))]) ++ List.replicate (5 - (lg_sl ([.ref (α (100 + k)), .int (r), .int (nI (n / 96)), .int (nI (n % 96)), .int (f 7 (n / 96))])).length) Slot.unset).toArray = ls at hl ⊢
  have hl : lv_has ls 5 [(0, .ref (α (100 + k))), (1, .int (r)), (2, .int (nI (n / 96))), (3, .int (nI (n % 96))), (4, .int (f 7 (n / 96)))] := hl
  refine lv_aload_n hx hb dX0_appliesTo_0 rfl (lv_at hl 0 rfl) ?_
  refine mget (C := RX0) (T := TX0) (N := 7) (ci := 1) hx hb hts in_X0 hown hw (hv) rfl 6 (by decide) fl_30 rfl dX0_appliesTo_1 ?_
  refine lv_if_eq (tgt := 48) hx hb dX0_appliesTo_4 (by decide) (fun c1 => ?_) (fun c1 => ?_)
  ·
    refine lv_iconst (v := (0)) hx hb dX0_appliesTo_48 (by decide) ?_
    exact W.zret (v := 0) hx hb hr (rfl) (fun t ht hW => ⟨_, rfl, (bI_f (fun z => on_ne c1 z.2.1)).symm, ht⟩) (fun _ h => absurd h List.not_mem_nil) dX0_appliesTo_49
  ·
    refine lv_aload_n hx hb dX0_appliesTo_7 rfl (lv_at hl 0 rfl) ?_
    refine mget (C := RX0) (T := TX0) (N := 7) (ci := 1) hx hb hts in_X0 hown hw (hv) rfl 4 (by decide) fl_24 rfl dX0_appliesTo_8 ?_
    refine lv_iload_n hx hb dX0_appliesTo_11 rfl (lv_at hl 1 rfl) ?_
    refine mcallSi hw ⟨hx, hb, hml, hown, hts⟩ (c_X0_hasBit (f 4 (k)) (r)) (va_cwS 2 hts gX0_appliesTo_X0_hasBit rfl rfl rfl (by decide +kernel) ⟨Nat.le_of_ble_eq_true rfl, Nat.le_of_ble_eq_true rfl⟩) rfl hl.1 rfl (Nat.le_of_ble_eq_true rfl) dX0_appliesTo_12 ⟨Nat.le_of_ble_eq_true rfl, Nat.le_of_ble_eq_true rfl⟩ ?_
    refine mif_eqB (tgt := 48) hx hb dX0_appliesTo_15 (by decide) (fun c2 => ?_) (fun c2 => ?_)
    ·
      refine lv_iconst (v := (0)) hx hb dX0_appliesTo_48 (by decide) ?_
      exact W.zret (v := 0) hx hb hr (rfl) (fun t ht hW => ⟨_, rfl, (bI_f (fun z => c2 z.2.2.1)).symm, ht⟩) (fun _ h => absurd h List.not_mem_nil) dX0_appliesTo_49
    ·
      refine lv_iload_n hx hb dX0_appliesTo_18 rfl (lv_at hl 3 rfl) ?_
      refine lv_aload_n hx hb dX0_appliesTo_19 rfl (lv_at hl 0 rfl) ?_
      refine mget (C := RX0) (T := TX0) (N := 7) (ci := 1) hx hb hts in_X0 hown hw (hv) rfl 2 (by decide) fl_18 rfl dX0_appliesTo_20 ?_
      refine lv_icmp_lt (tgt := 48) hx hb dX0_appliesTo_23 (by decide) (fun c3 => ?_) (fun c3 => ?_)
      ·
        refine lv_iconst (v := (0)) hx hb dX0_appliesTo_48 (by decide) ?_
        exact W.zret (v := 0) hx hb hr (rfl) (fun t ht hW => ⟨_, rfl, (bI_f (fun z => z.2.2.2.1 c3)).symm, ht⟩) (fun _ h => absurd h List.not_mem_nil) dX0_appliesTo_49
      ·
        refine lv_iload_n hx hb dX0_appliesTo_26 rfl (lv_at hl 3 rfl) ?_
        refine lv_aload_n hx hb dX0_appliesTo_27 rfl (lv_at hl 0 rfl) ?_
        refine mget (C := RX0) (T := TX0) (N := 7) (ci := 1) hx hb hts in_X0 hown hw (hv) rfl 3 (by decide) fl_21 rfl dX0_appliesTo_28 ?_
        refine lv_icmp_ge (tgt := 48) hx hb dX0_appliesTo_31 (by decide) (fun c4 => ?_) (fun c4 => ?_)
        ·
          refine lv_iconst (v := (0)) hx hb dX0_appliesTo_48 (by decide) ?_
          exact W.zret (v := 0) hx hb hr (rfl) (fun t ht hW => ⟨_, rfl, (bI_f (fun z => z.2.2.2.2 c4)).symm, ht⟩) (fun _ h => absurd h List.not_mem_nil) dX0_appliesTo_49
        ·
          refine lv_aload_n hx hb dX0_appliesTo_34 rfl (lv_at hl 0 rfl) ?_
          refine lv_iload_n hx hb dX0_appliesTo_35 rfl (lv_at hl 2 rfl) ?_
          refine lv_iload hx hb dX0_appliesTo_36 (lv_at hl 4 rfl) ?_
          refine mcallVi hw (hv) rfl rfl ⟨hx, hb, hml, hown, hts⟩ (c_X0_isForDay k hv (n / 96) h7) (cwV 2 hts gX0_appliesTo_X0_isForDay rfl rfl rfl (by decide +kernel) ⟨Nat.le_of_ble_eq_true rfl, Nat.le_of_ble_eq_true rfl⟩) rfl hl.1 rfl (Nat.le_of_ble_eq_true rfl) dX0_appliesTo_38 ⟨Nat.le_of_ble_eq_true rfl, Nat.le_of_ble_eq_true rfl⟩ ?_
          refine lv_if_eq (tgt := 48) hx hb dX0_appliesTo_41 (by decide) (fun c5 => ?_) (fun c5 => ?_)
          ·
            refine lv_iconst (v := (0)) hx hb dX0_appliesTo_48 (by decide) ?_
            exact W.zret (v := 0) hx hb hr (rfl) (fun t ht hW => ⟨_, rfl, (bI_f (fun z => z.1 c5)).symm, ht⟩) (fun _ h => absurd h List.not_mem_nil) dX0_appliesTo_49
          ·
            refine lv_iconst (v := (1)) hx hb dX0_appliesTo_44 (by decide) ?_
            refine lv_goto (tgt := 49) hx hb dX0_appliesTo_45 (by decide) ?_
            exact W.zret (v := 1) hx hb hr (rfl) (fun t ht hW => ⟨_, rfl, (bI_t ⟨c5, on_eq h6 c1, c2, c3, c4⟩).symm, ht⟩) (fun _ h => absurd h List.not_mem_nil) dX0_appliesTo_49

set_option maxHeartbeats 4000000 in
set_option maxRecDepth 100000 in
theorem c_X3_overtimePercent {l : Launch} {G : mG} {V : mV} {α : Nat → Nat} (q : Int32)  : Met l yX3_overtimePercent wsX3_overtimePercent ({ frames := 0, cells := 0, slots := 0, locals := 0 }) (va_Pc [.int (q)] (fun U => mW G V α U U.heap)) (vp_Si (fun r9 => r9 = s_ovt q)) 0 0 (fun _ => False) := by
  refine Met.ofW (cc := cX3_overtimePercent) (maxL := 1) (ret := (some .int)) (by decide) rfl ?_
  intro p e s m args below meth c s₁ B hml hv
  obtain ⟨rfl, hw⟩ := hv
  have hx := B.exec
  have hb := B.bytes
  have hr := B.returns
  have hts := atoms_spec (ws := wsX3_overtimePercent) B.pre
  have hown : s.vm.findClass RX3 = some m.cls := findClass_of_methodNamed B.named
  have hlocks := B.notSynchronized
  have hl := lv_entry ([.int (q)]) (n := 1) (Nat.le_of_ble_eq_true rfl)
  rw [lg_entry_eq]
  generalize (lg_sl ([.int (q)]) ++ List.replicate (1 - (lg_sl ([.int (q)])).length) Slot.unset).toArray = ls at hl ⊢
  have hl : lv_has ls 1 [(0, .int (q))] := hl
  refine lv_iload_n hx hb dX3_overtimePercent_0 rfl (lv_at hl 0 rfl) ?_
  refine lv_bipush (v := (40)) hx hb dX3_overtimePercent_1 (by decide) ?_
  refine lv_icmp_lt (tgt := 10) hx hb dX3_overtimePercent_3 (by decide) (fun c1 => ?_) (fun c1 => ?_)
  ·
    refine lv_iload_n hx hb dX3_overtimePercent_10 rfl (lv_at hl 0 rfl) ?_
    refine lv_bipush (v := (32)) hx hb dX3_overtimePercent_11 (by decide) ?_
    refine lv_icmp_lt (tgt := 22) hx hb dX3_overtimePercent_13 (by decide) (fun c2 => ?_) (fun c2 => ?_)
    ·
      refine lv_bipush (v := (100)) hx hb dX3_overtimePercent_22 (by decide) ?_
      exact W.iret (v := 100) hx hb hr (fun t ht hW => ⟨_, rfl, (by unfold s_ovt; rw [if_pos c1, if_pos c2]), ht⟩) (fun _ h => absurd h List.not_mem_nil) dX3_overtimePercent_24
    ·
      refine lv_sipush (v := (150)) hx hb dX3_overtimePercent_16 (by decide) ?_
      refine lv_goto (tgt := 24) hx hb dX3_overtimePercent_19 (by decide) ?_
      exact W.iret (v := 150) hx hb hr (fun t ht hW => ⟨_, rfl, (by unfold s_ovt; rw [if_pos c1, if_neg c2]), ht⟩) (fun _ h => absurd h List.not_mem_nil) dX3_overtimePercent_24
  ·
    refine lv_sipush (v := (200)) hx hb dX3_overtimePercent_6 (by decide) ?_
    exact W.iret (v := 200) hx hb hr (fun t ht hW => ⟨_, rfl, (by unfold s_ovt; rw [if_neg c1]), ht⟩) (fun _ h => absurd h List.not_mem_nil) dX3_overtimePercent_9

set_option maxHeartbeats 4000000 in
set_option maxRecDepth 100000 in
theorem c_X3_amount {l : Launch} {G : mG} {V : mV} {α : Nat → Nat} (x y : Int32)  : Met l yX3_amount wsX3_amount ({ frames := 0, cells := 0, slots := 0, locals := 0 }) (va_Pc [.int (x), .int (y)] (fun U => mW G V α U U.heap)) (vp_Si (fun r9 => r9 = x * y / 100)) 0 0 (fun _ => False) := by
  refine Met.ofW (cc := cX3_amount) (maxL := 2) (ret := (some .int)) (by decide) rfl ?_
  intro p e s m args below meth c s₁ B hml hv
  obtain ⟨rfl, hw⟩ := hv
  have hx := B.exec
  have hb := B.bytes
  have hr := B.returns
  have hts := atoms_spec (ws := wsX3_amount) B.pre
  have hown : s.vm.findClass RX3 = some m.cls := findClass_of_methodNamed B.named
  have hlocks := B.notSynchronized
  have hl := lv_entry ([.int (x), .int (y)]) (n := 2) (Nat.le_of_ble_eq_true rfl)
  rw [lg_entry_eq]
  generalize (lg_sl ([.int (x), .int (y)]) ++ List.replicate (2 - (lg_sl ([.int (x), .int (y)])).length) Slot.unset).toArray = ls at hl ⊢
  have hl : lv_has ls 2 [(0, .int (x)), (1, .int (y))] := hl
  refine lv_iload_n hx hb dX3_amount_0 rfl (lv_at hl 0 rfl) ?_
  refine lv_iload_n hx hb dX3_amount_1 rfl (lv_at hl 1 rfl) ?_
  refine lv_imul hx hb dX3_amount_2 ?_
  refine lv_bipush (v := (100)) hx hb dX3_amount_3 (by decide) ?_
  refine lv_idiv hx hb dX3_amount_5 (by decide) ?_
  exact W.iret (v := ((x * y) / 100)) hx hb hr (fun t ht hW => ⟨_, rfl, rfl, ht⟩) (fun _ h => absurd h List.not_mem_nil) dX3_amount_6

set_option maxHeartbeats 4000000 in
set_option maxRecDepth 100000 in
theorem c_X3_baseOf {l : Launch} {G : mG} {V : mV} {α : Nat → Nat} {f : sT} {nr nw ns : Nat} (hC : mC G V α f nr nw ns) (hwf : mwf f nr nw ns) (r : Nat) (hr0 : r < 4)  : Met l yX3_baseOf wsX3_baseOf ({ frames := 0, cells := 0, slots := 0, locals := 0 }) (va_Pc [.ref (α (0)), .int (nI (r))] (fun U => mW G V α U U.heap)) (vp_Si (fun r9 => r9 = f 0 r)) 0 0 (fun _ => False) := by
  refine Met.ofW (cc := cX3_baseOf) (maxL := 2) (ret := (some .int)) (by decide) rfl ?_
  intro p e s m args below meth c s₁ B hml hv
  obtain ⟨rfl, hw⟩ := hv
  have hx := B.exec
  have hb := B.bytes
  have hr := B.returns
  have hts := atoms_spec (ws := wsX3_baseOf) B.pre
  have hown : s.vm.findClass RX3 = some m.cls := findClass_of_methodNamed B.named
  have hlocks := B.notSynchronized
  obtain ⟨k0, k1, k2, hL3, hL4, hL5, cR, cW, cS, -, -, -⟩ := id hC
  obtain ⟨md3, ed3, v3⟩ := hL3.obj
  obtain ⟨md4, ed4, v4⟩ := hL4.obj
  obtain ⟨md5, ed5, v5⟩ := hL5.obj
  obtain ⟨⟨hnr, hnw, hns⟩, -, -, h6w, h7w, -⟩ := id hwf
  have fl_9 := hts (.fieldLink RX3 9 "RosterPay" "bases" "[I") (by decide +kernel)
  have in_X3 : ∀ w ∈ u_ws RX3 TX3 5, w ∈ wsX3_baseOf := by decide +kernel
  have hl := lv_entry ([.ref (α (0)), .int (nI (r))]) (n := 2) (Nat.le_of_ble_eq_true rfl)
  rw [lg_entry_eq]
  generalize (lg_sl ([.ref (α (0)), .int (nI (r))]) ++ List.replicate (2 - (lg_sl ([.ref (α (0)), .int (nI (r))])).length) Slot.unset).toArray = ls at hl ⊢
  have hl : lv_has ls 2 [(0, .ref (α (0))), (1, .int (nI (r)))] := hl
  refine lv_iload_n hx hb dX3_baseOf_0 rfl (lv_at hl 1 rfl) ?_
  refine lv_if_lt (tgt := 22) hx hb dX3_baseOf_1 (by decide) (fun z => absurd z ((nI_pos (by omega)))) (fun c1 => ?_)
  refine lv_iload_n hx hb dX3_baseOf_4 rfl (lv_at hl 1 rfl) ?_
  refine lv_aload_n hx hb dX3_baseOf_5 rfl (lv_at hl 0 rfl) ?_
  refine mget (C := RX3) (T := TX3) (N := 5) (ci := 4) hx hb hts in_X3 hown hw (k0) rfl 0 (by decide) fl_9 rfl dX3_baseOf_6 ?_
  refine mialen hx hb hw (k1) dX3_baseOf_9 ?_
  refine lv_icmp_ge (tgt := 22) hx hb dX3_baseOf_10 (by decide) (fun z => absurd z ((nI_ge hr0 (by omega)))) (fun c2 => ?_)
  refine lv_aload_n hx hb dX3_baseOf_13 rfl (lv_at hl 0 rfl) ?_
  refine mget (C := RX3) (T := TX3) (N := 5) (ci := 4) hx hb hts in_X3 hown hw (k0) rfl 0 (by decide) fl_9 rfl dX3_baseOf_14 ?_
  refine lv_iload_n hx hb dX3_baseOf_17 rfl (lv_at hl 1 rfl) ?_
  refine miald' (k := r) hx hb hw (k1) (rfl) (by omega) (by decide) dX3_baseOf_18 ?_
  refine lv_goto (tgt := 23) hx hb dX3_baseOf_19 (by decide) ?_
  exact W.iret (v := f 0 (r)) hx hb hr (fun t ht hW => ⟨_, rfl, rfl, ht⟩) (fun _ h => absurd h List.not_mem_nil) dX3_baseOf_23

set_option maxHeartbeats 4000000 in
set_option maxRecDepth 100000 in
theorem c_X3_isHoliday {l : Launch} {G : mG} {V : mV} {α : Nat → Nat} {f : sT} {nr nw ns : Nat} (hC : mC G V α f nr nw ns) (hwf : mwf f nr nw ns) (d : Nat) (hd : d < 364)  : Met l yX3_isHoliday wsX3_isHoliday ({ frames := 0, cells := 0, slots := 0, locals := 0 }) (va_Pc [.ref (α (0)), .int (nI (d))] (fun U => mW G V α U U.heap)) (vp_Si (fun r9 => r9 = f 7 d)) 0 0 (fun _ => False) := by
  refine Met.ofW (cc := cX3_isHoliday) (maxL := 2) (ret := (some .boolean)) (by decide) rfl ?_
  intro p e s m args below meth c s₁ B hml hv
  obtain ⟨rfl, hw⟩ := hv
  have hx := B.exec
  have hb := B.bytes
  have hr := B.returns
  have hts := atoms_spec (ws := wsX3_isHoliday) B.pre
  have hown : s.vm.findClass RX3 = some m.cls := findClass_of_methodNamed B.named
  have hlocks := B.notSynchronized
  obtain ⟨k0, k1, k2, hL3, hL4, hL5, cR, cW, cS, -, -, -⟩ := id hC
  obtain ⟨md3, ed3, v3⟩ := hL3.obj
  obtain ⟨md4, ed4, v4⟩ := hL4.obj
  obtain ⟨md5, ed5, v5⟩ := hL5.obj
  obtain ⟨⟨hnr, hnw, hns⟩, -, -, h6w, h7w, -⟩ := id hwf
  have fl_19 := hts (.fieldLink RX3 19 "RosterPay" "holidays" "[Z") (by decide +kernel)
  have in_X3 : ∀ w ∈ u_ws RX3 TX3 5, w ∈ wsX3_isHoliday := by decide +kernel
  have hl := lv_entry ([.ref (α (0)), .int (nI (d))]) (n := 2) (Nat.le_of_ble_eq_true rfl)
  rw [lg_entry_eq]
  generalize (lg_sl ([.ref (α (0)), .int (nI (d))]) ++ List.replicate (2 - (lg_sl ([.ref (α (0)), .int (nI (d))])).length) Slot.unset).toArray = ls at hl ⊢
  have hl : lv_has ls 2 [(0, .ref (α (0))), (1, .int (nI (d)))] := hl
  refine lv_iload_n hx hb dX3_isHoliday_0 rfl (lv_at hl 1 rfl) ?_
  refine lv_if_lt (tgt := 26) hx hb dX3_isHoliday_1 (by decide) (fun z => absurd z ((nI_pos (by omega)))) (fun c1 => ?_)
  refine lv_iload_n hx hb dX3_isHoliday_4 rfl (lv_at hl 1 rfl) ?_
  refine lv_aload_n hx hb dX3_isHoliday_5 rfl (lv_at hl 0 rfl) ?_
  refine mget (C := RX3) (T := TX3) (N := 5) (ci := 4) hx hb hts in_X3 hown hw (k0) rfl 1 (by decide) fl_19 rfl dX3_isHoliday_6 ?_
  refine mzalen hx hb hw (k2) dX3_isHoliday_9 ?_
  refine lv_icmp_ge (tgt := 26) hx hb dX3_isHoliday_10 (by decide) (fun z => absurd z ((nI_ge hd (by omega)))) (fun c2 => ?_)
  refine lv_aload_n hx hb dX3_isHoliday_13 rfl (lv_at hl 0 rfl) ?_
  refine mget (C := RX3) (T := TX3) (N := 5) (ci := 4) hx hb hts in_X3 hown hw (k0) rfl 1 (by decide) fl_19 rfl dX3_isHoliday_14 ?_
  refine lv_iload_n hx hb dX3_isHoliday_17 rfl (lv_at hl 1 rfl) ?_
  refine mzald' (k := d) hx hb hw (k2) (rfl) (by omega) (by decide) dX3_isHoliday_18 ?_
  refine lv_if_eq (tgt := 26) hx hb dX3_isHoliday_19 (by decide) (fun c3 => ?_) (fun c3 => ?_)
  ·
    refine lv_iconst (v := (0)) hx hb dX3_isHoliday_26 (by decide) ?_
    exact W.zret (v := 0) hx hb hr (rfl) (fun t ht hW => ⟨_, rfl, (c3).symm, ht⟩) (fun _ h => absurd h List.not_mem_nil) dX3_isHoliday_27
  ·
    refine lv_iconst (v := (1)) hx hb dX3_isHoliday_22 (by decide) ?_
    refine lv_goto (tgt := 27) hx hb dX3_isHoliday_23 (by decide) ?_
    exact W.zret (v := 1) hx hb hr (rfl) (fun t ht hW => ⟨_, rfl, ((h7w d).resolve_left c3).symm, ht⟩) (fun _ h => absurd h List.not_mem_nil) dX3_isHoliday_27

set_option maxHeartbeats 4000000 in
set_option maxRecDepth 100000 in
theorem c_X3_decidingRule {l : Launch} {G : mG} {V : mV} {α : Nat → Nat} {f : sT} {nr nw ns : Nat} (hC : mC G V α f nr nw ns) (hwf : mwf f nr nw ns) (si q : Nat) (hs : si < ns) (hq : q < 64)  : Met l yX3_decidingRule wsX3_decidingRule ({ frames := 3, cells := 0, slots := 0, locals := 67 }) (va_Pc [.ref (α (0)), .ref (α (300 + si)), .int (nI (q))] (fun U => mW G V α U U.heap)) (va_Sq (fun r9 => r9 = (s_D f (wN f si) (aN f si) q nr).map (fun k9 => α (100 + k9)))) 0 0 (fun _ => False) := by
  refine Met.ofW (cc := cX3_decidingRule) (maxL := 11) (ret := (some (.object "RosterPay$Rule"))) (by decide) rfl ?_
  intro p e s m args below meth c s₁ B hml hv
  obtain ⟨rfl, hw⟩ := hv
  have hx := B.exec
  have hb := B.bytes
  have hr := B.returns
  have hts := atoms_spec (ws := wsX3_decidingRule) B.pre
  have hown : s.vm.findClass RX3 = some m.cls := findClass_of_methodNamed B.named
  have hlocks := B.notSynchronized
  obtain ⟨k0, k1, k2, hL3, hL4, hL5, cR, cW, cS, -, -, -⟩ := id hC
  obtain ⟨md3, ed3, v3⟩ := hL3.obj
  obtain ⟨md4, ed4, v4⟩ := hL4.obj
  obtain ⟨md5, ed5, v5⟩ := hL5.obj
  obtain ⟨⟨hnr, hnw, hns⟩, -, -, h6w, h7w, -⟩ := id hwf
  obtain ⟨⟨hw0si, hw1si⟩, h9si, hasi, h10si, hr0si, h8si, hN2si, hNsi⟩ := hwf.sh si (by omega)
  have fl_26 := hts (.fieldLink RX3 26 "RosterPay" "rules" "Ljava/util/ArrayList;") (by decide +kernel)
  have in_X3 : ∀ w ∈ u_ws RX3 TX3 5, w ∈ wsX3_decidingRule := by decide +kernel
  have cl_56 := hts (.classLink RX3 56 "RosterPay$Rule") (by decide +kernel)
  have fl_148 := hts (.fieldLink RX3 148 "RosterPay$Shift" "worker" "LRosterPay$Worker;") (by decide +kernel)
  have in_X1 : ∀ w ∈ u_ws RX1 TX1 5, w ∈ wsX3_decidingRule := by decide +kernel
  have fl_86 := hts (.fieldLink RX3 86 "RosterPay$Worker" "rank" "I") (by decide +kernel)
  have in_X2 : ∀ w ∈ u_ws RX2 TX2 1, w ∈ wsX3_decidingRule := by decide +kernel
  have fl_191 := hts (.fieldLink RX3 191 "RosterPay$Rule" "percent" "I") (by decide +kernel)
  have in_X0 : ∀ w ∈ u_ws RX0 TX0 7, w ∈ wsX3_decidingRule := by decide +kernel
  have hl := lv_entry ([.ref (α (0)), .ref (α (300 + si)), .int (nI (q))]) (n := 11) (Nat.le_of_ble_eq_true rfl)
  rw [lg_entry_eq]
  generalize (lg_sl ([.ref (α (0)), .ref (α (300 + si)), .int (nI (q))]) ++ List.replicate (11 - (lg_sl ([.ref (α (0)), .ref (α (300 + si)), .int (nI (q))])).length) Slot.unset).toArray = ls at hl ⊢
  have hl : lv_has ls 11 [(0, .ref (α (0))), (1, .ref (α (300 + si))), (2, .int (nI (q)))] := hl
  refine lv_aload_n hx hb dX3_decidingRule_0 rfl (lv_at hl 1 rfl) ?_
  refine lv_iload_n hx hb dX3_decidingRule_1 rfl (lv_at hl 2 rfl) ?_
  refine mcallVi hw ((cS si (by omega))) rfl rfl ⟨hx, hb, hml, hown, hts⟩ (c_X1_dayOf si (cS si hs) (aN f si) q hasi hq h10si) (cwV 1 hts gX3_decidingRule_X1_dayOf rfl rfl rfl (by decide +kernel) ⟨Nat.le_of_ble_eq_true rfl, Nat.le_of_ble_eq_true rfl⟩) rfl hl.1 rfl (Nat.le_of_ble_eq_true rfl) dX3_decidingRule_2 ⟨Nat.le_of_ble_eq_true rfl, Nat.le_of_ble_eq_true rfl⟩ ?_
  refine lv_istore_n (lv' := [(3, .int (nI ((aN f si + q) / 96))), (0, .ref (α (0))), (1, .ref (α (300 + si))), (2, .int (nI (q)))]) hx hb dX3_decidingRule_5 rfl hl (by decide) rfl (fun ls hl => ?_)
  refine lv_aload_n hx hb dX3_decidingRule_6 rfl (lv_at hl 2 rfl) ?_
  refine lv_iload_n hx hb dX3_decidingRule_7 rfl (lv_at hl 3 rfl) ?_
  refine mcallVi hw ((cS si (by omega))) rfl rfl ⟨hx, hb, hml, hown, hts⟩ (c_X1_quarterOfDay si (cS si hs) (aN f si) q hasi hq h10si) (cwV 1 hts gX3_decidingRule_X1_quarterOfDay rfl rfl rfl (by decide +kernel) ⟨Nat.le_of_ble_eq_true rfl, Nat.le_of_ble_eq_true rfl⟩) rfl hl.1 rfl (Nat.le_of_ble_eq_true rfl) dX3_decidingRule_8 ⟨Nat.le_of_ble_eq_true rfl, Nat.le_of_ble_eq_true rfl⟩ ?_
  refine lv_istore (lv' := [(4, .int (nI ((aN f si + q) % 96))), (3, .int (nI ((aN f si + q) / 96))), (0, .ref (α (0))), (1, .ref (α (300 + si))), (2, .int (nI (q)))]) hx hb dX3_decidingRule_11 hl (by decide) rfl (fun ls hl => ?_)
  refine lv_aload_n hx hb dX3_decidingRule_13 rfl (lv_at hl 2 rfl) ?_
  refine lv_iload_n hx hb dX3_decidingRule_14 rfl (lv_at hl 1 rfl) ?_
  refine mcallVi hw (k0) rfl rfl ⟨hx, hb, hml, hown, hts⟩ (c_X3_isHoliday hC hwf ((aN f si + q) / 96) (by omega)) (cwV 1 hts gX3_decidingRule_X3_isHoliday rfl rfl rfl (by decide +kernel) ⟨Nat.le_of_ble_eq_true rfl, Nat.le_of_ble_eq_true rfl⟩) rfl hl.1 rfl (Nat.le_of_ble_eq_true rfl) dX3_decidingRule_15 ⟨Nat.le_of_ble_eq_true rfl, Nat.le_of_ble_eq_true rfl⟩ ?_
  refine lv_istore (lv' := [(5, .int (f 7 ((aN f si + q) / 96))), (4, .int (nI ((aN f si + q) % 96))), (3, .int (nI ((aN f si + q) / 96))), (0, .ref (α (0))), (1, .ref (α (300 + si))), (2, .int (nI (q)))]) hx hb dX3_decidingRule_18 hl (by decide) rfl (fun ls hl => ?_)
  refine lv_iload_n hx hb dX3_decidingRule_20 rfl (lv_at hl 5 rfl) ?_
  refine mcallSi hw ⟨hx, hb, hml, hown, hts⟩ (c_X3_overtimePercent (nI (q))) (va_cwS 1 hts gX3_decidingRule_X3_overtimePercent rfl rfl rfl (by decide +kernel) ⟨Nat.le_of_ble_eq_true rfl, Nat.le_of_ble_eq_true rfl⟩) rfl hl.1 rfl (Nat.le_of_ble_eq_true rfl) dX3_decidingRule_21 ⟨Nat.le_of_ble_eq_true rfl, Nat.le_of_ble_eq_true rfl⟩ ?_
  refine lv_topi (fun y1 ey1 => ?_)
  obtain rfl : y1 = (s_P f (wN f si) (aN f si) q 0) := ey1.trans (rfl)
  refine lv_istore (lv' := [(6, .int (s_P f (wN f si) (aN f si) q 0)), (5, .int (f 7 ((aN f si + q) / 96))), (4, .int (nI ((aN f si + q) % 96))), (3, .int (nI ((aN f si + q) / 96))), (0, .ref (α (0))), (1, .ref (α (300 + si))), (2, .int (nI (q)))]) hx hb dX3_decidingRule_24 hl (by decide) rfl (fun ls hl => ?_)
  refine lv_null hx hb dX3_decidingRule_26 ?_
  refine lv_astoreN (lv' := [(7, .null), (6, .int (s_P f (wN f si) (aN f si) q 0)), (5, .int (f 7 ((aN f si + q) / 96))), (4, .int (nI ((aN f si + q) % 96))), (3, .int (nI ((aN f si + q) / 96))), (0, .ref (α (0))), (1, .ref (α (300 + si))), (2, .int (nI (q)))]) hx hb dX3_decidingRule_27 hl (by decide) rfl (fun ls hl => ?_)
  have hl : lv_has ls 11 [(7, va_rf ((s_D f (wN f si) (aN f si) q 0).map (fun k9 => α (100 + k9)))), (6, .int (s_P f (wN f si) (aN f si) q 0)), (5, .int (f 7 ((aN f si + q) / 96))), (4, .int (nI ((aN f si + q) % 96))), (3, .int (nI ((aN f si + q) / 96))), (0, .ref (α (0))), (1, .ref (α (300 + si))), (2, .int (nI (q)))] := hl
  refine lv_iconst (v := (0)) hx hb dX3_decidingRule_29 (by decide) ?_
  refine lv_topi (fun y2 ey2 => ?_)
  obtain rfl : y2 = (nI (0)) := ey2.trans (rfl)
  refine lv_istore (lv' := [(8, .int (nI (0))), (7, va_rf ((s_D f (wN f si) (aN f si) q 0).map (fun k9 => α (100 + k9)))), (6, .int (s_P f (wN f si) (aN f si) q 0)), (5, .int (f 7 ((aN f si + q) / 96))), (4, .int (nI ((aN f si + q) % 96))), (3, .int (nI ((aN f si + q) / 96))), (0, .ref (α (0))), (1, .ref (α (300 + si))), (2, .int (nI (q)))]) hx hb dX3_decidingRule_30 hl (by decide) rfl (fun ls hl => ?_)
  refine mloop (nL := 11) (nr) (fun j => [(0, .ref (α (0))), (1, .ref (α (300 + si))), (2, .int (nI (q))), (3, .int (nI ((aN f si + q) / 96))), (4, .int (nI ((aN f si + q) % 96))), (5, .int (f 7 ((aN f si + q) / 96))), (6, .int (s_P f (wN f si) (aN f si) q j)), (7, va_rf ((s_D f (wN f si) (aN f si) q j).map (fun k9 => α (100 + k9)))), (8, .int (nI (j)))]) ?_ ?_ ls (lv_sub hl [6, 7, 8, 5, 4, 3, 2, 1, 0] rfl)
  ·
    intro ls hl
    have hl : lv_has ls 11 [(0, .ref (α (0))), (1, .ref (α (300 + si))), (2, .int (nI (q))), (3, .int (nI ((aN f si + q) / 96))), (4, .int (nI ((aN f si + q) % 96))), (5, .int (f 7 ((aN f si + q) / 96))), (6, .int (s_P f (wN f si) (aN f si) q nr)), (7, va_rf ((s_D f (wN f si) (aN f si) q nr).map (fun k9 => α (100 + k9)))), (8, .int (nI (nr)))] := hl
    refine lv_iload hx hb dX3_decidingRule_32 (lv_at hl 8 rfl) ?_
    refine lv_aload_n hx hb dX3_decidingRule_34 rfl (lv_at hl 0 rfl) ?_
    refine mget (C := RX3) (T := TX3) (N := 5) (ci := 4) hx hb hts in_X3 hown hw (k0) rfl 2 (by decide) fl_26 rfl dX3_decidingRule_35 ?_
    refine mcallVi hw (v3) rfl rfl ⟨hx, hb, hml, hown, hts⟩ (c_lsize hL3) (cwV 0 hts gX3_decidingRule_Jx4a65c_size_8abf5 rfl rfl rfl (by decide +kernel) ⟨Nat.le_of_ble_eq_true rfl, Nat.le_of_ble_eq_true rfl⟩) rfl hl.1 rfl (Nat.le_of_ble_eq_true rfl) dX3_decidingRule_38 ⟨Nat.le_of_ble_eq_true rfl, Nat.le_of_ble_eq_true rfl⟩ ?_
    refine lv_icmp_ge (tgt := 132) hx hb dX3_decidingRule_41 (by decide) (fun c3 => ?_) (fun z => absurd ((nI_le (Nat.le_refl _) (by omega))) z)
    refine maloadq hx hb dX3_decidingRule_132 (lv_at hl 7 rfl) ?_
    exact W.aret (v := va_rf ((s_D f (wN f si) (aN f si) q nr).map (fun k9 => α (100 + k9)))) hx hb hr (Or.inl ⟨_, rfl⟩) (va_rf_or _) (fun t ht hW => ⟨_, rfl, rfl, ht⟩) (fun _ h => absurd h List.not_mem_nil) dX3_decidingRule_134
  ·
    intro j hj ihj ls hl
    have hl : lv_has ls 11 [(0, .ref (α (0))), (1, .ref (α (300 + si))), (2, .int (nI (q))), (3, .int (nI ((aN f si + q) / 96))), (4, .int (nI ((aN f si + q) % 96))), (5, .int (f 7 ((aN f si + q) / 96))), (6, .int (s_P f (wN f si) (aN f si) q j)), (7, va_rf ((s_D f (wN f si) (aN f si) q j).map (fun k9 => α (100 + k9)))), (8, .int (nI (j)))] := hl
    refine lv_iload hx hb dX3_decidingRule_32 (lv_at hl 8 rfl) ?_
    refine lv_aload_n hx hb dX3_decidingRule_34 rfl (lv_at hl 0 rfl) ?_
    refine mget (C := RX3) (T := TX3) (N := 5) (ci := 4) hx hb hts in_X3 hown hw (k0) rfl 2 (by decide) fl_26 rfl dX3_decidingRule_35 ?_
    refine mcallVi hw (v3) rfl rfl ⟨hx, hb, hml, hown, hts⟩ (c_lsize hL3) (cwV 0 hts gX3_decidingRule_Jx4a65c_size_8abf5 rfl rfl rfl (by decide +kernel) ⟨Nat.le_of_ble_eq_true rfl, Nat.le_of_ble_eq_true rfl⟩) rfl hl.1 rfl (Nat.le_of_ble_eq_true rfl) dX3_decidingRule_38 ⟨Nat.le_of_ble_eq_true rfl, Nat.le_of_ble_eq_true rfl⟩ ?_
    refine lv_icmp_ge (tgt := 132) hx hb dX3_decidingRule_41 (by decide) (fun z => absurd z ((nI_ge hj (by omega)))) (fun c4 => ?_)
    refine lv_aload_n hx hb dX3_decidingRule_44 rfl (lv_at hl 0 rfl) ?_
    refine mget (C := RX3) (T := TX3) (N := 5) (ci := 4) hx hb hts in_X3 hown hw (k0) rfl 2 (by decide) fl_26 rfl dX3_decidingRule_45 ?_
    refine lv_iload hx hb dX3_decidingRule_48 (lv_at hl 8 rfl) ?_
    refine mcallVr hw (v3) rfl rfl ⟨hx, hb, hml, hown, hts⟩ (c_lget hL3 j (by omega)) (cwV 1 hts gX3_decidingRule_Jx4a65c_get_915e3 rfl rfl rfl (by decide +kernel) ⟨Nat.le_of_ble_eq_true rfl, Nat.le_of_ble_eq_true rfl⟩) rfl hl.1 rfl (Nat.le_of_ble_eq_true rfl) dX3_decidingRule_50 ⟨Nat.le_of_ble_eq_true rfl, Nat.le_of_ble_eq_true rfl⟩ ?_
    refine mcast hx hb hown cl_56 hw ((cR j (by omega))) rfl dX3_decidingRule_53 ?_
    refine lv_astore (lv' := [(9, .ref (α (100 + j))), (0, .ref (α (0))), (1, .ref (α (300 + si))), (2, .int (nI (q))), (3, .int (nI ((aN f si + q) / 96))), (4, .int (nI ((aN f si + q) % 96))), (5, .int (f 7 ((aN f si + q) / 96))), (6, .int (s_P f (wN f si) (aN f si) q j)), (7, va_rf ((s_D f (wN f si) (aN f si) q j).map (fun k9 => α (100 + k9)))), (8, .int (nI (j)))]) hx hb dX3_decidingRule_56 hl (by decide) rfl (fun ls hl => ?_)
    refine mjoin (E := bI (s_P f (wN f si) (aN f si) q j < f 5 j ∨ (f 5 j = s_P f (wN f si) (aN f si) q j ∧ s_D f (wN f si) (aN f si) q j = none))) (pcJ := 88) (st := []) ?_ (fun J5 => ?_)
    ·
      refine lv_istore (lv' := [(10, .int (bI (s_P f (wN f si) (aN f si) q j < f 5 j ∨ (f 5 j = s_P f (wN f si) (aN f si) q j ∧ s_D f (wN f si) (aN f si) q j = none)))), (9, .ref (α (100 + j))), (0, .ref (α (0))), (1, .ref (α (300 + si))), (2, .int (nI (q))), (3, .int (nI ((aN f si + q) / 96))), (4, .int (nI ((aN f si + q) % 96))), (5, .int (f 7 ((aN f si + q) / 96))), (6, .int (s_P f (wN f si) (aN f si) q j)), (7, va_rf ((s_D f (wN f si) (aN f si) q j).map (fun k9 => α (100 + k9)))), (8, .int (nI (j)))]) hx hb dX3_decidingRule_88 hl (by decide) rfl (fun ls hl => ?_)
      refine lv_iload hx hb dX3_decidingRule_90 (lv_at hl 0 rfl) ?_
      refine mif_eqB (tgt := 126) hx hb dX3_decidingRule_92 (by decide) (fun c6 => ?_) (fun c6 => ?_)
      ·
        have e7 : (s_D f (wN f si) (aN f si) q (j + 1)).map (fun k9 => α (100 + k9)) = (s_D f (wN f si) (aN f si) q j).map (fun k9 => α (100 + k9)) := by rw [s_D_miss (fun z => c6 z.1)]
        have e6 : s_P f (wN f si) (aN f si) q (j + 1) = s_P f (wN f si) (aN f si) q j := s_P_miss (fun z => c6 z.1)
        have hl : lv_has ls 11 [(10, .int (bI (s_P f (wN f si) (aN f si) q j < f 5 j ∨ (f 5 j = s_P f (wN f si) (aN f si) q j ∧ s_D f (wN f si) (aN f si) q j = none)))), (9, .ref (α (100 + j))), (0, .ref (α (0))), (1, .ref (α (300 + si))), (2, .int (nI (q))), (3, .int (nI ((aN f si + q) / 96))), (4, .int (nI ((aN f si + q) % 96))), (5, .int (f 7 ((aN f si + q) / 96))), (6, .int (s_P f (wN f si) (aN f si) q (j + 1))), (7, va_rf ((s_D f (wN f si) (aN f si) q (j + 1)).map (fun k9 => α (100 + k9)))), (8, .int (nI (j)))] := by rw [e7, e6]; exact hl
        refine lv_iinc (v := nI (j + 1)) (lv' := [(8, .int (nI (j + 1))), (10, .int (bI (s_P f (wN f si) (aN f si) q j < f 5 j ∨ (f 5 j = s_P f (wN f si) (aN f si) q j ∧ s_D f (wN f si) (aN f si) q j = none)))), (9, .ref (α (100 + j))), (0, .ref (α (0))), (1, .ref (α (300 + si))), (2, .int (nI (q))), (3, .int (nI ((aN f si + q) / 96))), (4, .int (nI ((aN f si + q) % 96))), (5, .int (f 7 ((aN f si + q) / 96))), (6, .int (s_P f (wN f si) (aN f si) q (j + 1))), (7, va_rf ((s_D f (wN f si) (aN f si) q (j + 1)).map (fun k9 => α (100 + k9))))]) hx hb dX3_decidingRule_126 hl (k := 10) rfl (nI_1 (j)) (by decide) (by cases ((s_D f (wN f si) (aN f si) q (j + 1)).map (fun k9 => α (100 + k9))) <;> rfl) (fun ls hl => ?_)
        refine lv_goto (tgt := 32) hx hb dX3_decidingRule_129 (by decide) ?_
        exact ihj ls (lv_sub hl [3, 4, 5, 6, 7, 8, 9, 10, 0] rfl)
      ·
        refine lv_aload hx hb dX3_decidingRule_95 (lv_at hl 1 rfl) ?_
        refine lv_aload_n hx hb dX3_decidingRule_97 rfl (lv_at hl 3 rfl) ?_
        refine mget (C := RX1) (T := TX1) (N := 5) (ci := 2) hx hb hts in_X1 hown hw ((cS si (by omega))) rfl 0 (by decide) fl_148 rfl dX3_decidingRule_98 ?_
        refine mget (C := RX2) (T := TX2) (N := 1) (ci := 3) hx hb hts in_X2 hown hw ((cW (wN f si) hw0si)) rfl 0 (by decide) fl_86 rfl dX3_decidingRule_101 ?_
        refine lv_iload_n hx hb dX3_decidingRule_104 rfl (lv_at hl 5 rfl) ?_
        refine lv_iload hx hb dX3_decidingRule_105 (lv_at hl 6 rfl) ?_
        refine lv_iload hx hb dX3_decidingRule_107 (lv_at hl 7 rfl) ?_
        refine mcallVi hw ((cR j (by omega))) rfl rfl ⟨hx, hb, hml, hown, hts⟩ (c_X0_appliesTo j (cR j (by omega)) (aN f si + q) (by omega) (f 8 (wN f si)) (h6w j (by omega)) (h7w _)) (cwV 4 hts gX3_decidingRule_X0_appliesTo rfl rfl rfl (by decide +kernel) ⟨Nat.le_of_ble_eq_true rfl, Nat.le_of_ble_eq_true rfl⟩) rfl hl.1 rfl (Nat.le_of_ble_eq_true rfl) dX3_decidingRule_109 ⟨Nat.le_of_ble_eq_true rfl, Nat.le_of_ble_eq_true rfl⟩ ?_
        refine mif_eqB (tgt := 126) hx hb dX3_decidingRule_112 (by decide) (fun c7 => ?_) (fun c7 => ?_)
        ·
          have e7 : (s_D f (wN f si) (aN f si) q (j + 1)).map (fun k9 => α (100 + k9)) = (s_D f (wN f si) (aN f si) q j).map (fun k9 => α (100 + k9)) := by rw [s_D_miss (fun z => c7 z.2)]
          have e6 : s_P f (wN f si) (aN f si) q (j + 1) = s_P f (wN f si) (aN f si) q j := s_P_miss (fun z => c7 z.2)
          have hl : lv_has ls 11 [(10, .int (bI (s_P f (wN f si) (aN f si) q j < f 5 j ∨ (f 5 j = s_P f (wN f si) (aN f si) q j ∧ s_D f (wN f si) (aN f si) q j = none)))), (9, .ref (α (100 + j))), (0, .ref (α (0))), (1, .ref (α (300 + si))), (2, .int (nI (q))), (3, .int (nI ((aN f si + q) / 96))), (4, .int (nI ((aN f si + q) % 96))), (5, .int (f 7 ((aN f si + q) / 96))), (6, .int (s_P f (wN f si) (aN f si) q (j + 1))), (7, va_rf ((s_D f (wN f si) (aN f si) q (j + 1)).map (fun k9 => α (100 + k9)))), (8, .int (nI (j)))] := by rw [e7, e6]; exact hl
          refine lv_iinc (v := nI (j + 1)) (lv' := [(8, .int (nI (j + 1))), (10, .int (bI (s_P f (wN f si) (aN f si) q j < f 5 j ∨ (f 5 j = s_P f (wN f si) (aN f si) q j ∧ s_D f (wN f si) (aN f si) q j = none)))), (9, .ref (α (100 + j))), (0, .ref (α (0))), (1, .ref (α (300 + si))), (2, .int (nI (q))), (3, .int (nI ((aN f si + q) / 96))), (4, .int (nI ((aN f si + q) % 96))), (5, .int (f 7 ((aN f si + q) / 96))), (6, .int (s_P f (wN f si) (aN f si) q (j + 1))), (7, va_rf ((s_D f (wN f si) (aN f si) q (j + 1)).map (fun k9 => α (100 + k9))))]) hx hb dX3_decidingRule_126 hl (k := 10) rfl (nI_1 (j)) (by decide) (by cases ((s_D f (wN f si) (aN f si) q (j + 1)).map (fun k9 => α (100 + k9))) <;> rfl) (fun ls hl => ?_)
          refine lv_goto (tgt := 32) hx hb dX3_decidingRule_129 (by decide) ?_
          exact ihj ls (lv_sub hl [3, 4, 5, 6, 7, 8, 9, 10, 0] rfl)
        ·
          refine lv_aload hx hb dX3_decidingRule_115 (lv_at hl 1 rfl) ?_
          refine mget (C := RX0) (T := TX0) (N := 7) (ci := 1) hx hb hts in_X0 hown hw ((cR j (by omega))) rfl 5 (by decide) fl_191 rfl dX3_decidingRule_117 ?_
          refine lv_istore (lv' := [(6, .int (f 5 (j))), (10, .int (bI (s_P f (wN f si) (aN f si) q j < f 5 j ∨ (f 5 j = s_P f (wN f si) (aN f si) q j ∧ s_D f (wN f si) (aN f si) q j = none)))), (9, .ref (α (100 + j))), (0, .ref (α (0))), (1, .ref (α (300 + si))), (2, .int (nI (q))), (3, .int (nI ((aN f si + q) / 96))), (4, .int (nI ((aN f si + q) % 96))), (5, .int (f 7 ((aN f si + q) / 96))), (7, va_rf ((s_D f (wN f si) (aN f si) q j).map (fun k9 => α (100 + k9)))), (8, .int (nI (j)))]) hx hb dX3_decidingRule_120 hl (by decide) rfl (fun ls hl => ?_)
          refine lv_aload hx hb dX3_decidingRule_122 (lv_at hl 2 rfl) ?_
          refine lv_astore (lv' := [(7, .ref (α (100 + j))), (6, .int (f 5 (j))), (10, .int (bI (s_P f (wN f si) (aN f si) q j < f 5 j ∨ (f 5 j = s_P f (wN f si) (aN f si) q j ∧ s_D f (wN f si) (aN f si) q j = none)))), (9, .ref (α (100 + j))), (0, .ref (α (0))), (1, .ref (α (300 + si))), (2, .int (nI (q))), (3, .int (nI ((aN f si + q) / 96))), (4, .int (nI ((aN f si + q) % 96))), (5, .int (f 7 ((aN f si + q) / 96))), (8, .int (nI (j)))]) hx hb dX3_decidingRule_124 hl (by decide) rfl (fun ls hl => ?_)
          have e7 : (s_D f (wN f si) (aN f si) q (j + 1)).map (fun k9 => α (100 + k9)) = some (α (100 + j)) := by rw [s_D_hit c6 c7]; rfl
          have e6 : s_P f (wN f si) (aN f si) q (j + 1) = f 5 (j) := s_P_hit c6 c7
          have hl : lv_has ls 11 [(7, va_rf ((s_D f (wN f si) (aN f si) q (j + 1)).map (fun k9 => α (100 + k9)))), (6, .int (s_P f (wN f si) (aN f si) q (j + 1))), (10, .int (bI (s_P f (wN f si) (aN f si) q j < f 5 j ∨ (f 5 j = s_P f (wN f si) (aN f si) q j ∧ s_D f (wN f si) (aN f si) q j = none)))), (9, .ref (α (100 + j))), (0, .ref (α (0))), (1, .ref (α (300 + si))), (2, .int (nI (q))), (3, .int (nI ((aN f si + q) / 96))), (4, .int (nI ((aN f si + q) % 96))), (5, .int (f 7 ((aN f si + q) / 96))), (8, .int (nI (j)))] := by rw [e7, e6]; exact hl
          refine lv_iinc (v := nI (j + 1)) (lv' := [(8, .int (nI (j + 1))), (7, va_rf ((s_D f (wN f si) (aN f si) q (j + 1)).map (fun k9 => α (100 + k9)))), (6, .int (s_P f (wN f si) (aN f si) q (j + 1))), (10, .int (bI (s_P f (wN f si) (aN f si) q j < f 5 j ∨ (f 5 j = s_P f (wN f si) (aN f si) q j ∧ s_D f (wN f si) (aN f si) q j = none)))), (9, .ref (α (100 + j))), (0, .ref (α (0))), (1, .ref (α (300 + si))), (2, .int (nI (q))), (3, .int (nI ((aN f si + q) / 96))), (4, .int (nI ((aN f si + q) % 96))), (5, .int (f 7 ((aN f si + q) / 96)))]) hx hb dX3_decidingRule_126 hl (k := 10) rfl (nI_1 (j)) (by decide) (by cases ((s_D f (wN f si) (aN f si) q (j + 1)).map (fun k9 => α (100 + k9))) <;> rfl) (fun ls hl => ?_)
          refine lv_goto (tgt := 32) hx hb dX3_decidingRule_129 (by decide) ?_
          exact ihj ls (lv_sub hl [5, 6, 7, 8, 9, 10, 2, 1, 0] rfl)
    ·
      refine lv_aload hx hb dX3_decidingRule_58 (lv_at hl 0 rfl) ?_
      refine mget (C := RX0) (T := TX0) (N := 7) (ci := 1) hx hb hts in_X0 hown hw ((cR j (by omega))) rfl 5 (by decide) fl_191 rfl dX3_decidingRule_60 ?_
      refine lv_iload hx hb dX3_decidingRule_63 (lv_at hl 7 rfl) ?_
      refine lv_icmp_gt (tgt := 83) hx hb dX3_decidingRule_65 (by decide) (fun c8 => ?_) (fun c8 => ?_)
      ·
        refine lv_iconst (v := (1)) hx hb dX3_decidingRule_83 (by decide) ?_
        refine lv_goto (tgt := 88) hx hb dX3_decidingRule_84 (by decide) ?_
        exact J5 _ ((bI_t (Or.inl c8)).symm)
      ·
        refine lv_aload hx hb dX3_decidingRule_68 (lv_at hl 0 rfl) ?_
        refine mget (C := RX0) (T := TX0) (N := 7) (ci := 1) hx hb hts in_X0 hown hw ((cR j (by omega))) rfl 5 (by decide) fl_191 rfl dX3_decidingRule_70 ?_
        refine lv_iload hx hb dX3_decidingRule_73 (lv_at hl 7 rfl) ?_
        refine lv_icmp_ne (tgt := 87) hx hb dX3_decidingRule_75 (by decide) (fun c9 => ?_) (fun c9 => ?_)
        ·
          refine lv_iconst (v := (0)) hx hb dX3_decidingRule_87 (by decide) ?_
          exact J5 _ ((bI_f (fun z => z.elim c8 (fun z2 => c9 z2.1))).symm)
        ·
          refine maloadq hx hb dX3_decidingRule_78 (lv_at hl 8 rfl) ?_
          refine mifnonnullq (tgt := 87) hx hb dX3_decidingRule_80 (by decide) (fun c10 => ?_) (fun c10 => ?_)
          ·
            refine lv_iconst (v := (0)) hx hb dX3_decidingRule_87 (by decide) ?_
            exact J5 _ ((bI_f (fun z => z.elim c8 (fun z2 => c10 (by rw [z2.2]; rfl)))).symm)
          ·
            refine lv_iconst (v := (1)) hx hb dX3_decidingRule_83 (by decide) ?_
            refine lv_goto (tgt := 88) hx hb dX3_decidingRule_84 (by decide) ?_
            exact J5 _ ((bI_t (Or.inr ⟨c9, Option.map_eq_none_iff.mp c10⟩)).symm)

set_option maxHeartbeats 4000000 in
set_option maxRecDepth 100000 in
theorem c_X3_percentOf {l : Launch} {G : mG} {V : mV} {α : Nat → Nat} {f : sT} {nr nw ns : Nat} (hC : mC G V α f nr nw ns) (hwf : mwf f nr nw ns) (si q : Nat) (hs : si < ns) (hq : q < 64)  : Met l yX3_percentOf wsX3_percentOf ({ frames := 4, cells := 0, slots := 0, locals := 97 }) (va_Pc [.ref (α (0)), .ref (α (300 + si)), .int (nI (q))] (fun U => mW G V α U U.heap)) (vp_Si (fun r9 => r9 = s_P f (wN f si) (aN f si) q nr)) 0 0 (fun _ => False) := by
  refine Met.ofW (cc := cX3_percentOf) (maxL := 4) (ret := (some .int)) (by decide) rfl ?_
  intro p e s m args below meth c s₁ B hml hv
  obtain ⟨rfl, hw⟩ := hv
  have hx := B.exec
  have hb := B.bytes
  have hr := B.returns
  have hts := atoms_spec (ws := wsX3_percentOf) B.pre
  have hown : s.vm.findClass RX3 = some m.cls := findClass_of_methodNamed B.named
  have hlocks := B.notSynchronized
  obtain ⟨k0, k1, k2, hL3, hL4, hL5, cR, cW, cS, -, -, -⟩ := id hC
  obtain ⟨md3, ed3, v3⟩ := hL3.obj
  obtain ⟨md4, ed4, v4⟩ := hL4.obj
  obtain ⟨md5, ed5, v5⟩ := hL5.obj
  obtain ⟨⟨hnr, hnw, hns⟩, -, -, h6w, h7w, -⟩ := id hwf
  obtain ⟨⟨hw0si, hw1si⟩, h9si, hasi, h10si, hr0si, h8si, hN2si, hNsi⟩ := hwf.sh si (by omega)
  have fl_191 := hts (.fieldLink RX3 191 "RosterPay$Rule" "percent" "I") (by decide +kernel)
  have in_X0 : ∀ w ∈ u_ws RX0 TX0 7, w ∈ wsX3_percentOf := by decide +kernel
  have hl := lv_entry ([.ref (α (0)), .ref (α (300 + si)), .int (nI (q))]) (n := 4) (Nat.le_of_ble_eq_true rfl)
  rw [lg_entry_eq]
  generalize (lg_sl ([.ref (α (0)), .ref (α (300 + si)), .int (nI (q))]) ++ List.replicate (4 - (lg_sl ([.ref (α (0)), .ref (α (300 + si)), .int (nI (q))])).length) Slot.unset).toArray = ls at hl ⊢
  have hl : lv_has ls 4 [(0, .ref (α (0))), (1, .ref (α (300 + si))), (2, .int (nI (q)))] := hl
  refine lv_aload_n hx hb dX3_percentOf_0 rfl (lv_at hl 0 rfl) ?_
  refine lv_aload_n hx hb dX3_percentOf_1 rfl (lv_at hl 1 rfl) ?_
  refine lv_iload_n hx hb dX3_percentOf_2 rfl (lv_at hl 2 rfl) ?_
  refine mcallVq hw (k0) rfl rfl ⟨hx, hb, hml, hown, hts⟩ (c_X3_decidingRule hC hwf si q hs hq) (cwV 2 hts gX3_percentOf_X3_decidingRule rfl rfl rfl (by decide +kernel) ⟨Nat.le_of_ble_eq_true rfl, Nat.le_of_ble_eq_true rfl⟩) rfl hl.1 rfl (Nat.le_of_ble_eq_true rfl) dX3_percentOf_3 ⟨Nat.le_of_ble_eq_true rfl, Nat.le_of_ble_eq_true rfl⟩ ?_
  generalize hx9 : (s_D f (wN f si) (aN f si) q nr).map (fun k9 => α (100 + k9)) = x9
  rcases x9 with _ | i9
  ·
    have hD := Option.map_eq_none_iff.mp hx9
    show W _ _ _ _ _ _ _ _ _ _ _ _ _ _ _ (F0 _ _ _ [.null])
    refine lv_astore_nN (lv' := [(3, .null), (0, .ref (α (0))), (1, .ref (α (300 + si))), (2, .int (nI (q)))]) hx hb dX3_percentOf_6 rfl hl (by decide) rfl (fun ls hl => ?_)
    refine lv_aload_nN hx hb dX3_percentOf_7 rfl (lv_at hl 0 rfl) ?_
    refine lv_ifnullN (tgt := 18) hx hb dX3_percentOf_8 (by decide) ?_
    refine lv_iload_n hx hb dX3_percentOf_18 rfl (lv_at hl 3 rfl) ?_
    refine mcallSi hw ⟨hx, hb, hml, hown, hts⟩ (c_X3_overtimePercent (nI (q))) (va_cwS 1 hts gX3_percentOf_X3_overtimePercent rfl rfl rfl (by decide +kernel) ⟨Nat.le_of_ble_eq_true rfl, Nat.le_of_ble_eq_true rfl⟩) rfl hl.1 rfl (Nat.le_of_ble_eq_true rfl) dX3_percentOf_19 ⟨Nat.le_of_ble_eq_true rfl, Nat.le_of_ble_eq_true rfl⟩ ?_
    exact W.iret (v := s_ovt (nI (q))) hx hb hr (fun t ht hW => ⟨_, rfl, ((s_D_key f (wN f si) (aN f si) q nr).1 hD).1.symm, ht⟩) (fun _ h => absurd h List.not_mem_nil) dX3_percentOf_22
  ·
    obtain ⟨k9, hD, rfl⟩ := Option.map_eq_some_iff.mp hx9
    have hk9 := s_D_lt hD
    show W _ _ _ _ _ _ _ _ _ _ _ _ _ _ _ (F0 _ _ _ [.ref (α (100 + k9))])
    refine lv_astore_n (lv' := [(3, .ref (α (100 + k9))), (0, .ref (α (0))), (1, .ref (α (300 + si))), (2, .int (nI (q)))]) hx hb dX3_percentOf_6 rfl hl (by decide) rfl (fun ls hl => ?_)
    refine lv_aload_n hx hb dX3_percentOf_7 rfl (lv_at hl 0 rfl) ?_
    refine lv_ifnull hx hb dX3_percentOf_8 ?_
    refine lv_aload_n hx hb dX3_percentOf_11 rfl (lv_at hl 0 rfl) ?_
    refine mget (C := RX0) (T := TX0) (N := 7) (ci := 1) hx hb hts in_X0 hown hw ((cR k9 (by omega))) rfl 5 (by decide) fl_191 rfl dX3_percentOf_12 ?_
    refine lv_goto (tgt := 22) hx hb dX3_percentOf_15 (by decide) ?_
    exact W.iret (v := f 5 (k9)) hx hb hr (fun t ht hW => ⟨_, rfl, ((s_D_key f (wN f si) (aN f si) q nr).2.1 k9 hD).1, ht⟩) (fun _ h => absurd h List.not_mem_nil) dX3_percentOf_22

set_option maxHeartbeats 4000000 in
set_option maxRecDepth 100000 in
theorem c_X3_payFor {l : Launch} {G : mG} {V : mV} {α : Nat → Nat} {f : sT} {nr nw ns : Nat} (hC : mC G V α f nr nw ns) (hwf : mwf f nr nw ns) (si : Nat) (hs : si < ns)  : Met l yX3_payFor wsX3_payFor ({ frames := 5, cells := 0, slots := 0, locals := 120 }) (va_Pc [.ref (α (0)), .ref (α (300 + si))] (fun U => mW G V α U U.heap)) (vp_Si (fun r9 => r9 = s_pay f nr si)) 0 0 (fun _ => False) := by
  refine Met.ofW (cc := cX3_payFor) (maxL := 5) (ret := (some .int)) (by decide) rfl ?_
  intro p e s m args below meth c s₁ B hml hv
  obtain ⟨rfl, hw⟩ := hv
  have hx := B.exec
  have hb := B.bytes
  have hr := B.returns
  have hts := atoms_spec (ws := wsX3_payFor) B.pre
  have hown : s.vm.findClass RX3 = some m.cls := findClass_of_methodNamed B.named
  have hlocks := B.notSynchronized
  obtain ⟨k0, k1, k2, hL3, hL4, hL5, cR, cW, cS, -, -, -⟩ := id hC
  obtain ⟨md3, ed3, v3⟩ := hL3.obj
  obtain ⟨md4, ed4, v4⟩ := hL4.obj
  obtain ⟨md5, ed5, v5⟩ := hL5.obj
  obtain ⟨⟨hnr, hnw, hns⟩, -, -, h6w, h7w, -⟩ := id hwf
  obtain ⟨⟨hw0si, hw1si⟩, h9si, hasi, h10si, hr0si, h8si, hN2si, hNsi⟩ := hwf.sh si (by omega)
  obtain ⟨-, -, ⟨n11, hn11a, hn11b, h11⟩, ⟨t12, ht12, h12⟩, h13⟩ := hwf.2.1 si hs
  have fl_148 := hts (.fieldLink RX3 148 "RosterPay$Shift" "worker" "LRosterPay$Worker;") (by decide +kernel)
  have in_X1 : ∀ w ∈ u_ws RX1 TX1 5, w ∈ wsX3_payFor := by decide +kernel
  have fl_86 := hts (.fieldLink RX3 86 "RosterPay$Worker" "rank" "I") (by decide +kernel)
  have in_X2 : ∀ w ∈ u_ws RX2 TX2 1, w ∈ wsX3_payFor := by decide +kernel
  have hl := lv_entry ([.ref (α (0)), .ref (α (300 + si))]) (n := 5) (Nat.le_of_ble_eq_true rfl)
  rw [lg_entry_eq]
  generalize (lg_sl ([.ref (α (0)), .ref (α (300 + si))]) ++ List.replicate (5 - (lg_sl ([.ref (α (0)), .ref (α (300 + si))])).length) Slot.unset).toArray = ls at hl ⊢
  have hl : lv_has ls 5 [(0, .ref (α (0))), (1, .ref (α (300 + si)))] := hl
  refine lv_aload_n hx hb dX3_payFor_0 rfl (lv_at hl 0 rfl) ?_
  refine lv_aload_n hx hb dX3_payFor_1 rfl (lv_at hl 1 rfl) ?_
  refine mget (C := RX1) (T := TX1) (N := 5) (ci := 2) hx hb hts in_X1 hown hw ((cS si (by omega))) rfl 0 (by decide) fl_148 rfl dX3_payFor_2 ?_
  refine mget (C := RX2) (T := TX2) (N := 1) (ci := 3) hx hb hts in_X2 hown hw ((cW (wN f si) hw0si)) rfl 0 (by decide) fl_86 rfl dX3_payFor_5 ?_
  refine lv_topi (fun y1 ey1 => ?_)
  obtain rfl : y1 = (nI (rN f (wN f si))) := ey1.trans (h8si)
  refine mcallVi hw (k0) rfl rfl ⟨hx, hb, hml, hown, hts⟩ (c_X3_baseOf hC hwf (rN f (wN f si)) hr0si) (cwV 1 hts gX3_payFor_X3_baseOf rfl rfl rfl (by decide +kernel) ⟨Nat.le_of_ble_eq_true rfl, Nat.le_of_ble_eq_true rfl⟩) rfl hl.1 rfl (Nat.le_of_ble_eq_true rfl) dX3_payFor_8 ⟨Nat.le_of_ble_eq_true rfl, Nat.le_of_ble_eq_true rfl⟩ ?_
  refine lv_istore_n (lv' := [(2, .int (f 0 (rN f (wN f si)))), (0, .ref (α (0))), (1, .ref (α (300 + si)))]) hx hb dX3_payFor_11 rfl hl (by decide) rfl (fun ls hl => ?_)
  refine lv_aload_n hx hb dX3_payFor_12 rfl (lv_at hl 2 rfl) ?_
  refine mcallVi hw ((cS si (by omega))) rfl rfl ⟨hx, hb, hml, hown, hts⟩ (c_X1_breaksMissed si (cS si hs) t12 h12 ht12) (cwV 0 hts gX3_payFor_X1_breaksMissed rfl rfl rfl (by decide +kernel) ⟨Nat.le_of_ble_eq_true rfl, Nat.le_of_ble_eq_true rfl⟩) rfl hl.1 rfl (Nat.le_of_ble_eq_true rfl) dX3_payFor_13 ⟨Nat.le_of_ble_eq_true rfl, Nat.le_of_ble_eq_true rfl⟩ ?_
  refine lv_iconst (v := (2)) hx hb dX3_payFor_16 (by decide) ?_
  refine lv_imul hx hb dX3_payFor_17 ?_
  refine lv_iload_n hx hb dX3_payFor_18 rfl (lv_at hl 0 rfl) ?_
  refine lv_imul hx hb dX3_payFor_19 ?_
  refine lv_topi (fun y2 ey2 => ?_)
  obtain rfl : y2 = (s_sum f nr si (wN f si) (aN f si) (rN f (wN f si)) 0) := ey2.trans (by show _ = 2 * s_lacks f si * f 0 (rN f (wN f si)); rw [Int32.mul_comm (s_lacks f si) 2])
  refine lv_istore_n (lv' := [(3, .int (s_sum f nr si (wN f si) (aN f si) (rN f (wN f si)) 0)), (2, .int (f 0 (rN f (wN f si)))), (0, .ref (α (0))), (1, .ref (α (300 + si)))]) hx hb dX3_payFor_20 rfl hl (by decide) rfl (fun ls hl => ?_)
  refine lv_iconst (v := (0)) hx hb dX3_payFor_21 (by decide) ?_
  refine lv_topi (fun y3 ey3 => ?_)
  obtain rfl : y3 = (nI (0)) := ey3.trans (rfl)
  refine lv_istore (lv' := [(4, .int (nI (0))), (3, .int (s_sum f nr si (wN f si) (aN f si) (rN f (wN f si)) 0)), (2, .int (f 0 (rN f (wN f si)))), (0, .ref (α (0))), (1, .ref (α (300 + si)))]) hx hb dX3_payFor_22 hl (by decide) rfl (fun ls hl => ?_)
  refine mloop (nL := 5) ((pN f si)) (fun j => [(0, .ref (α (0))), (1, .ref (α (300 + si))), (2, .int (f 0 (rN f (wN f si)))), (3, .int (s_sum f nr si (wN f si) (aN f si) (rN f (wN f si)) j)), (4, .int (nI (j)))]) ?_ ?_ ls (lv_sub hl [3, 4, 2, 1, 0] rfl)
  ·
    intro ls hl
    have hl : lv_has ls 5 [(0, .ref (α (0))), (1, .ref (α (300 + si))), (2, .int (f 0 (rN f (wN f si)))), (3, .int (s_sum f nr si (wN f si) (aN f si) (rN f (wN f si)) (pN f si))), (4, .int (nI ((pN f si))))] := hl
    refine lv_iload hx hb dX3_payFor_24 (lv_at hl 4 rfl) ?_
    refine lv_aload_n hx hb dX3_payFor_26 rfl (lv_at hl 1 rfl) ?_
    refine mcallVi hw ((cS si (by omega))) rfl rfl ⟨hx, hb, hml, hown, hts⟩ (c_X1_paidLength si (cS si hs)) (cwV 0 hts gX3_payFor_X1_paidLength rfl rfl rfl (by decide +kernel) ⟨Nat.le_of_ble_eq_true rfl, Nat.le_of_ble_eq_true rfl⟩) rfl hl.1 rfl (Nat.le_of_ble_eq_true rfl) dX3_payFor_27 ⟨Nat.le_of_ble_eq_true rfl, Nat.le_of_ble_eq_true rfl⟩ ?_
    refine lv_topi (fun y4 ey4 => ?_)
    obtain rfl : y4 = (nI (pN f si)) := ey4.trans (hNsi)
    refine lv_icmp_ge (tgt := 53) hx hb dX3_payFor_30 (by decide) (fun c5 => ?_) (fun z => absurd ((nI_le (Nat.le_refl _) (by omega))) z)
    refine lv_iload_n hx hb dX3_payFor_53 rfl (lv_at hl 3 rfl) ?_
    exact W.iret (v := s_sum f nr si (wN f si) (aN f si) (rN f (wN f si)) (pN f si)) hx hb hr (fun t ht hW => ⟨_, rfl, rfl, ht⟩) (fun _ h => absurd h List.not_mem_nil) dX3_payFor_54
  ·
    intro j hj ihj ls hl
    have hl : lv_has ls 5 [(0, .ref (α (0))), (1, .ref (α (300 + si))), (2, .int (f 0 (rN f (wN f si)))), (3, .int (s_sum f nr si (wN f si) (aN f si) (rN f (wN f si)) j)), (4, .int (nI (j)))] := hl
    refine lv_iload hx hb dX3_payFor_24 (lv_at hl 4 rfl) ?_
    refine lv_aload_n hx hb dX3_payFor_26 rfl (lv_at hl 1 rfl) ?_
    refine mcallVi hw ((cS si (by omega))) rfl rfl ⟨hx, hb, hml, hown, hts⟩ (c_X1_paidLength si (cS si hs)) (cwV 0 hts gX3_payFor_X1_paidLength rfl rfl rfl (by decide +kernel) ⟨Nat.le_of_ble_eq_true rfl, Nat.le_of_ble_eq_true rfl⟩) rfl hl.1 rfl (Nat.le_of_ble_eq_true rfl) dX3_payFor_27 ⟨Nat.le_of_ble_eq_true rfl, Nat.le_of_ble_eq_true rfl⟩ ?_
    refine lv_topi (fun y6 ey6 => ?_)
    obtain rfl : y6 = (nI (pN f si)) := ey6.trans (hNsi)
    refine lv_icmp_ge (tgt := 53) hx hb dX3_payFor_30 (by decide) (fun z => absurd z ((nI_ge hj (by omega)))) (fun c7 => ?_)
    refine lv_iload_n hx hb dX3_payFor_33 rfl (lv_at hl 3 rfl) ?_
    refine lv_iload_n hx hb dX3_payFor_34 rfl (lv_at hl 2 rfl) ?_
    refine lv_aload_n hx hb dX3_payFor_35 rfl (lv_at hl 0 rfl) ?_
    refine lv_aload_n hx hb dX3_payFor_36 rfl (lv_at hl 1 rfl) ?_
    refine lv_iload hx hb dX3_payFor_37 (lv_at hl 4 rfl) ?_
    refine mcallVi hw (k0) rfl rfl ⟨hx, hb, hml, hown, hts⟩ (c_X3_percentOf hC hwf si j hs (by omega)) (cwV 2 hts gX3_payFor_X3_percentOf rfl rfl rfl (by decide +kernel) ⟨Nat.le_of_ble_eq_true rfl, Nat.le_of_ble_eq_true rfl⟩) rfl hl.1 rfl (Nat.le_of_ble_eq_true rfl) dX3_payFor_39 ⟨Nat.le_of_ble_eq_true rfl, Nat.le_of_ble_eq_true rfl⟩ ?_
    refine mcallSi hw ⟨hx, hb, hml, hown, hts⟩ (c_X3_amount (f 0 (rN f (wN f si))) (s_P f (wN f si) (aN f si) j nr)) (va_cwS 2 hts gX3_payFor_X3_amount rfl rfl rfl (by decide +kernel) ⟨Nat.le_of_ble_eq_true rfl, Nat.le_of_ble_eq_true rfl⟩) rfl hl.1 rfl (Nat.le_of_ble_eq_true rfl) dX3_payFor_42 ⟨Nat.le_of_ble_eq_true rfl, Nat.le_of_ble_eq_true rfl⟩ ?_
    refine lv_iadd hx hb dX3_payFor_45 ?_
    refine lv_topi (fun y8 ey8 => ?_)
    obtain rfl : y8 = (s_sum f nr si (wN f si) (aN f si) (rN f (wN f si)) (j + 1)) := ey8.trans (rfl)
    refine lv_istore_n (lv' := [(3, .int (s_sum f nr si (wN f si) (aN f si) (rN f (wN f si)) (j + 1))), (0, .ref (α (0))), (1, .ref (α (300 + si))), (2, .int (f 0 (rN f (wN f si)))), (4, .int (nI (j)))]) hx hb dX3_payFor_46 rfl hl (by decide) rfl (fun ls hl => ?_)
    refine lv_iinc (v := nI (j + 1)) (lv' := [(4, .int (nI (j + 1))), (3, .int (s_sum f nr si (wN f si) (aN f si) (rN f (wN f si)) (j + 1))), (0, .ref (α (0))), (1, .ref (α (300 + si))), (2, .int (f 0 (rN f (wN f si))))]) hx hb dX3_payFor_47 hl (k := 4) rfl (nI_1 (j)) (by decide) rfl (fun ls hl => ?_)
    refine lv_goto (tgt := 24) hx hb dX3_payFor_50 (by decide) ?_
    exact ihj ls (lv_sub hl [2, 3, 4, 1, 0] rfl)

theorem neg_ne {k : Nat} (x : Int32) (hk : k < 2 ^ 31) : ¬ (if x < 32 then (-1 : Int32) else -2) = nI k := by
  intro z
  have h0 : (nI k).toInt = (k : Int) := nI_toInt hk
  rw [← z] at h0
  by_cases c : x < 32
  · rw [if_pos c, show (-1 : Int32).toInt = -1 by decide] at h0; omega
  · rw [if_neg c, show (-2 : Int32).toInt = -2 by decide] at h0; omega

set_option maxHeartbeats 4000000 in
set_option maxRecDepth 100000 in
theorem c_X3_payByRule {l : Launch} {G : mG} {V : mV} {α : Nat → Nat} {f : sT} {nr nw ns : Nat} (hC : mC G V α f nr nw ns) (hwf : mwf f nr nw ns) (si : Nat) (hs : si < ns) (k : Nat) (hk : k < nr)  : Met l yX3_payByRule wsX3_payByRule ({ frames := 4, cells := 0, slots := 0, locals := 97 }) (va_Pc [.ref (α (0)), .ref (α (300 + si)), .ref (α (100 + k))] (fun U => mW G V α U U.heap)) (vp_Si (fun r9 => r9 = s_pbI f nr (nI k) si 0 (pN f si))) 0 0 (fun _ => False) := by
  refine Met.ofW (cc := cX3_payByRule) (maxL := 7) (ret := (some .int)) (by decide) rfl ?_
  intro p e s m args below meth c s₁ B hml hv
  obtain ⟨rfl, hw⟩ := hv
  have hx := B.exec
  have hb := B.bytes
  have hr := B.returns
  have hts := atoms_spec (ws := wsX3_payByRule) B.pre
  have hown : s.vm.findClass RX3 = some m.cls := findClass_of_methodNamed B.named
  have hlocks := B.notSynchronized
  obtain ⟨k0, k1, k2, hL3, hL4, hL5, cR, cW, cS, -, -, -⟩ := id hC
  obtain ⟨md3, ed3, v3⟩ := hL3.obj
  obtain ⟨md4, ed4, v4⟩ := hL4.obj
  obtain ⟨md5, ed5, v5⟩ := hL5.obj
  obtain ⟨⟨hnr, hnw, hns⟩, -, -, h6w, h7w, -⟩ := id hwf
  obtain ⟨⟨hw0si, hw1si⟩, h9si, hasi, h10si, hr0si, h8si, hN2si, hNsi⟩ := hwf.sh si (by omega)
  obtain ⟨-, -, ⟨n11, hn11a, hn11b, h11⟩, ⟨t12, ht12, h12⟩, h13⟩ := hwf.2.1 si hs
  have fl_148 := hts (.fieldLink RX3 148 "RosterPay$Shift" "worker" "LRosterPay$Worker;") (by decide +kernel)
  have in_X1 : ∀ w ∈ u_ws RX1 TX1 5, w ∈ wsX3_payByRule := by decide +kernel
  have fl_86 := hts (.fieldLink RX3 86 "RosterPay$Worker" "rank" "I") (by decide +kernel)
  have in_X2 : ∀ w ∈ u_ws RX2 TX2 1, w ∈ wsX3_payByRule := by decide +kernel
  have fl_134 := hts (.fieldLink RX3 134 "RosterPay$Rule" "number" "I") (by decide +kernel)
  have in_X0 : ∀ w ∈ u_ws RX0 TX0 7, w ∈ wsX3_payByRule := by decide +kernel
  have fl_191 := hts (.fieldLink RX3 191 "RosterPay$Rule" "percent" "I") (by decide +kernel)
  have hl := lv_entry ([.ref (α (0)), .ref (α (300 + si)), .ref (α (100 + k))]) (n := 7) (Nat.le_of_ble_eq_true rfl)
  rw [lg_entry_eq]
  generalize (lg_sl ([.ref (α (0)), .ref (α (300 + si)), .ref (α (100 + k))]) ++ List.replicate (7 - (lg_sl ([.ref (α (0)), .ref (α (300 + si)), .ref (α (100 + k))])).length) Slot.unset).toArray = ls at hl ⊢
  have hl : lv_has ls 7 [(0, .ref (α (0))), (1, .ref (α (300 + si))), (2, .ref (α (100 + k)))] := hl
  refine lv_aload_n hx hb dX3_payByRule_0 rfl (lv_at hl 0 rfl) ?_
  refine lv_aload_n hx hb dX3_payByRule_1 rfl (lv_at hl 1 rfl) ?_
  refine mget (C := RX1) (T := TX1) (N := 5) (ci := 2) hx hb hts in_X1 hown hw ((cS si (by omega))) rfl 0 (by decide) fl_148 rfl dX3_payByRule_2 ?_
  refine mget (C := RX2) (T := TX2) (N := 1) (ci := 3) hx hb hts in_X2 hown hw ((cW (wN f si) hw0si)) rfl 0 (by decide) fl_86 rfl dX3_payByRule_5 ?_
  refine lv_topi (fun y1 ey1 => ?_)
  obtain rfl : y1 = (nI (rN f (wN f si))) := ey1.trans (h8si)
  refine mcallVi hw (k0) rfl rfl ⟨hx, hb, hml, hown, hts⟩ (c_X3_baseOf hC hwf (rN f (wN f si)) hr0si) (cwV 1 hts gX3_payByRule_X3_baseOf rfl rfl rfl (by decide +kernel) ⟨Nat.le_of_ble_eq_true rfl, Nat.le_of_ble_eq_true rfl⟩) rfl hl.1 rfl (Nat.le_of_ble_eq_true rfl) dX3_payByRule_8 ⟨Nat.le_of_ble_eq_true rfl, Nat.le_of_ble_eq_true rfl⟩ ?_
  refine lv_istore_n (lv' := [(3, .int (f 0 (rN f (wN f si)))), (0, .ref (α (0))), (1, .ref (α (300 + si))), (2, .ref (α (100 + k)))]) hx hb dX3_payByRule_11 rfl hl (by decide) rfl (fun ls hl => ?_)
  refine lv_iconst (v := (0)) hx hb dX3_payByRule_12 (by decide) ?_
  refine lv_topi (fun y2 ey2 => ?_)
  obtain rfl : y2 = (s_pbI f nr (nI k) si 0 0) := ey2.trans (rfl)
  refine lv_istore (lv' := [(4, .int (s_pbI f nr (nI k) si 0 0)), (3, .int (f 0 (rN f (wN f si)))), (0, .ref (α (0))), (1, .ref (α (300 + si))), (2, .ref (α (100 + k)))]) hx hb dX3_payByRule_13 hl (by decide) rfl (fun ls hl => ?_)
  refine lv_iconst (v := (0)) hx hb dX3_payByRule_15 (by decide) ?_
  refine lv_topi (fun y3 ey3 => ?_)
  obtain rfl : y3 = (nI (0)) := ey3.trans (rfl)
  refine lv_istore (lv' := [(5, .int (nI (0))), (4, .int (s_pbI f nr (nI k) si 0 0)), (3, .int (f 0 (rN f (wN f si)))), (0, .ref (α (0))), (1, .ref (α (300 + si))), (2, .ref (α (100 + k)))]) hx hb dX3_payByRule_16 hl (by decide) rfl (fun ls hl => ?_)
  refine mloop (nL := 7) ((pN f si)) (fun j => [(0, .ref (α (0))), (1, .ref (α (300 + si))), (2, .ref (α (100 + k))), (3, .int (f 0 (rN f (wN f si)))), (4, .int (s_pbI f nr (nI k) si 0 j)), (5, .int (nI (j)))]) ?_ ?_ ls (lv_sub hl [3, 4, 5, 2, 1, 0] rfl)
  ·
    intro ls hl
    have hl : lv_has ls 7 [(0, .ref (α (0))), (1, .ref (α (300 + si))), (2, .ref (α (100 + k))), (3, .int (f 0 (rN f (wN f si)))), (4, .int (s_pbI f nr (nI k) si 0 (pN f si))), (5, .int (nI ((pN f si))))] := hl
    refine lv_iload hx hb dX3_payByRule_18 (lv_at hl 5 rfl) ?_
    refine lv_aload_n hx hb dX3_payByRule_20 rfl (lv_at hl 1 rfl) ?_
    refine mcallVi hw ((cS si (by omega))) rfl rfl ⟨hx, hb, hml, hown, hts⟩ (c_X1_paidLength si (cS si hs)) (cwV 0 hts gX3_payByRule_X1_paidLength rfl rfl rfl (by decide +kernel) ⟨Nat.le_of_ble_eq_true rfl, Nat.le_of_ble_eq_true rfl⟩) rfl hl.1 rfl (Nat.le_of_ble_eq_true rfl) dX3_payByRule_21 ⟨Nat.le_of_ble_eq_true rfl, Nat.le_of_ble_eq_true rfl⟩ ?_
    refine lv_topi (fun y4 ey4 => ?_)
    obtain rfl : y4 = (nI (pN f si)) := ey4.trans (hNsi)
    refine lv_icmp_ge (tgt := 72) hx hb dX3_payByRule_24 (by decide) (fun c5 => ?_) (fun z => absurd ((nI_le (Nat.le_refl _) (by omega))) z)
    refine lv_iload hx hb dX3_payByRule_72 (lv_at hl 4 rfl) ?_
    exact W.iret (v := s_pbI f nr (nI k) si 0 (pN f si)) hx hb hr (fun t ht hW => ⟨_, rfl, rfl, ht⟩) (fun _ h => absurd h List.not_mem_nil) dX3_payByRule_74
  ·
    intro j hj ihj ls hl
    have hl : lv_has ls 7 [(0, .ref (α (0))), (1, .ref (α (300 + si))), (2, .ref (α (100 + k))), (3, .int (f 0 (rN f (wN f si)))), (4, .int (s_pbI f nr (nI k) si 0 j)), (5, .int (nI (j)))] := hl
    refine lv_iload hx hb dX3_payByRule_18 (lv_at hl 5 rfl) ?_
    refine lv_aload_n hx hb dX3_payByRule_20 rfl (lv_at hl 1 rfl) ?_
    refine mcallVi hw ((cS si (by omega))) rfl rfl ⟨hx, hb, hml, hown, hts⟩ (c_X1_paidLength si (cS si hs)) (cwV 0 hts gX3_payByRule_X1_paidLength rfl rfl rfl (by decide +kernel) ⟨Nat.le_of_ble_eq_true rfl, Nat.le_of_ble_eq_true rfl⟩) rfl hl.1 rfl (Nat.le_of_ble_eq_true rfl) dX3_payByRule_21 ⟨Nat.le_of_ble_eq_true rfl, Nat.le_of_ble_eq_true rfl⟩ ?_
    refine lv_topi (fun y6 ey6 => ?_)
    obtain rfl : y6 = (nI (pN f si)) := ey6.trans (hNsi)
    refine lv_icmp_ge (tgt := 72) hx hb dX3_payByRule_24 (by decide) (fun z => absurd z ((nI_ge hj (by omega)))) (fun c7 => ?_)
    refine lv_aload_n hx hb dX3_payByRule_27 rfl (lv_at hl 0 rfl) ?_
    refine lv_aload_n hx hb dX3_payByRule_28 rfl (lv_at hl 1 rfl) ?_
    refine lv_iload hx hb dX3_payByRule_29 (lv_at hl 5 rfl) ?_
    refine mcallVq hw (k0) rfl rfl ⟨hx, hb, hml, hown, hts⟩ (c_X3_decidingRule hC hwf si j hs (by omega)) (cwV 2 hts gX3_payByRule_X3_decidingRule rfl rfl rfl (by decide +kernel) ⟨Nat.le_of_ble_eq_true rfl, Nat.le_of_ble_eq_true rfl⟩) rfl hl.1 rfl (Nat.le_of_ble_eq_true rfl) dX3_payByRule_31 ⟨Nat.le_of_ble_eq_true rfl, Nat.le_of_ble_eq_true rfl⟩ ?_
    generalize hx9 : (s_D f (wN f si) (aN f si) j nr).map (fun k9 => α (100 + k9)) = x9
    rcases x9 with _ | i9
    ·
      have hD := Option.map_eq_none_iff.mp hx9
      show W _ _ _ _ _ _ _ _ _ _ _ _ _ _ _ (F0 _ _ _ [.null])
      refine lv_astoreN (lv' := [(6, .null), (0, .ref (α (0))), (1, .ref (α (300 + si))), (2, .ref (α (100 + k))), (3, .int (f 0 (rN f (wN f si)))), (4, .int (s_pbI f nr (nI k) si 0 j)), (5, .int (nI (j)))]) hx hb dX3_payByRule_34 hl (by decide) rfl (fun ls hl => ?_)
      refine lv_aloadN hx hb dX3_payByRule_36 (lv_at hl 0 rfl) ?_
      refine lv_ifnullN (tgt := 66) hx hb dX3_payByRule_38 (by decide) ?_
      have e4 : s_pbI f nr (nI k) si 0 (j + 1) = s_pbI f nr (nI k) si 0 j := by show s_pbI f nr (nI k) si 0 j + s_pb1 f nr (nI k) si j = _; unfold s_pb1; rw [s_R_none hD, if_neg (neg_ne (nI j) (by omega)), Int32.add_zero]
      have hl : lv_has ls 7 [(6, .null), (0, .ref (α (0))), (1, .ref (α (300 + si))), (2, .ref (α (100 + k))), (3, .int (f 0 (rN f (wN f si)))), (4, .int (s_pbI f nr (nI k) si 0 (j + 1))), (5, .int (nI (j)))] := by rw [e4]; exact hl
      refine lv_iinc (v := nI (j + 1)) (lv' := [(5, .int (nI (j + 1))), (6, .null), (0, .ref (α (0))), (1, .ref (α (300 + si))), (2, .ref (α (100 + k))), (3, .int (f 0 (rN f (wN f si)))), (4, .int (s_pbI f nr (nI k) si 0 (j + 1)))]) hx hb dX3_payByRule_66 hl (k := 6) rfl (nI_1 (j)) (by decide) rfl (fun ls hl => ?_)
      refine lv_goto (tgt := 18) hx hb dX3_payByRule_69 (by decide) ?_
      exact ihj ls (lv_sub hl [2, 3, 4, 5, 6, 0] rfl)
    ·
      obtain ⟨k9, hD, rfl⟩ := Option.map_eq_some_iff.mp hx9
      have hk9 := s_D_lt hD
      show W _ _ _ _ _ _ _ _ _ _ _ _ _ _ _ (F0 _ _ _ [.ref (α (100 + k9))])
      refine lv_astore (lv' := [(6, .ref (α (100 + k9))), (0, .ref (α (0))), (1, .ref (α (300 + si))), (2, .ref (α (100 + k))), (3, .int (f 0 (rN f (wN f si)))), (4, .int (s_pbI f nr (nI k) si 0 j)), (5, .int (nI (j)))]) hx hb dX3_payByRule_34 hl (by decide) rfl (fun ls hl => ?_)
      refine lv_aload hx hb dX3_payByRule_36 (lv_at hl 0 rfl) ?_
      refine lv_ifnull hx hb dX3_payByRule_38 ?_
      refine lv_aload hx hb dX3_payByRule_41 (lv_at hl 0 rfl) ?_
      refine mget (C := RX0) (T := TX0) (N := 7) (ci := 1) hx hb hts in_X0 hown hw ((cR k9 (by omega))) rfl 0 (by decide) fl_134 rfl dX3_payByRule_43 ?_
      refine lv_aload_n hx hb dX3_payByRule_46 rfl (lv_at hl 3 rfl) ?_
      refine mget (C := RX0) (T := TX0) (N := 7) (ci := 1) hx hb hts in_X0 hown hw ((cR k (by omega))) rfl 0 (by decide) fl_134 rfl dX3_payByRule_47 ?_
      refine lv_icmp_ne (tgt := 66) hx hb dX3_payByRule_50 (by decide) (fun c8 => ?_) (fun c8 => ?_)
      ·
        have e4 : s_pbI f nr (nI k) si 0 (j + 1) = s_pbI f nr (nI k) si 0 j := by show s_pbI f nr (nI k) si 0 j + s_pb1 f nr (nI k) si j = _; unfold s_pb1; rw [s_R_some hD, if_neg c8, Int32.add_zero]
        have hl : lv_has ls 7 [(6, .ref (α (100 + k9))), (0, .ref (α (0))), (1, .ref (α (300 + si))), (2, .ref (α (100 + k))), (3, .int (f 0 (rN f (wN f si)))), (4, .int (s_pbI f nr (nI k) si 0 (j + 1))), (5, .int (nI (j)))] := by rw [e4]; exact hl
        refine lv_iinc (v := nI (j + 1)) (lv' := [(5, .int (nI (j + 1))), (6, .ref (α (100 + k9))), (0, .ref (α (0))), (1, .ref (α (300 + si))), (2, .ref (α (100 + k))), (3, .int (f 0 (rN f (wN f si)))), (4, .int (s_pbI f nr (nI k) si 0 (j + 1)))]) hx hb dX3_payByRule_66 hl (k := 6) rfl (nI_1 (j)) (by decide) rfl (fun ls hl => ?_)
        refine lv_goto (tgt := 18) hx hb dX3_payByRule_69 (by decide) ?_
        exact ihj ls (lv_sub hl [2, 3, 4, 5, 6, 0] rfl)
      ·
        refine lv_iload hx hb dX3_payByRule_53 (lv_at hl 5 rfl) ?_
        refine lv_iload_n hx hb dX3_payByRule_55 rfl (lv_at hl 4 rfl) ?_
        refine lv_aload_n hx hb dX3_payByRule_56 rfl (lv_at hl 3 rfl) ?_
        refine mget (C := RX0) (T := TX0) (N := 7) (ci := 1) hx hb hts in_X0 hown hw ((cR k (by omega))) rfl 5 (by decide) fl_191 rfl dX3_payByRule_57 ?_
        refine mcallSi hw ⟨hx, hb, hml, hown, hts⟩ (c_X3_amount (f 0 (rN f (wN f si))) (f 5 (k))) (va_cwS 2 hts gX3_payByRule_X3_amount rfl rfl rfl (by decide +kernel) ⟨Nat.le_of_ble_eq_true rfl, Nat.le_of_ble_eq_true rfl⟩) rfl hl.1 rfl (Nat.le_of_ble_eq_true rfl) dX3_payByRule_60 ⟨Nat.le_of_ble_eq_true rfl, Nat.le_of_ble_eq_true rfl⟩ ?_
        refine lv_iadd hx hb dX3_payByRule_63 ?_
        refine lv_istore (lv' := [(4, .int ((s_pbI f nr (nI k) si 0 j + f 0 (rN f (wN f si)) * f 5 (k) / 100))), (6, .ref (α (100 + k9))), (0, .ref (α (0))), (1, .ref (α (300 + si))), (2, .ref (α (100 + k))), (3, .int (f 0 (rN f (wN f si)))), (5, .int (nI (j)))]) hx hb dX3_payByRule_64 hl (by decide) rfl (fun ls hl => ?_)
        have e4 : s_pbI f nr (nI k) si 0 (j + 1) = (s_pbI f nr (nI k) si 0 j + f 0 (rN f (wN f si)) * f 5 (k) / 100) := by show s_pbI f nr (nI k) si 0 j + s_pb1 f nr (nI k) si j = _; unfold s_pb1; rw [s_R_some hD, if_pos c8, s_amt, ← ((s_D_key f (wN f si) (aN f si) j nr).2.1 k9 hD).1, (nI_eq (by omega) (by omega)).mp c8]
        have hl : lv_has ls 7 [(4, .int (s_pbI f nr (nI k) si 0 (j + 1))), (6, .ref (α (100 + k9))), (0, .ref (α (0))), (1, .ref (α (300 + si))), (2, .ref (α (100 + k))), (3, .int (f 0 (rN f (wN f si)))), (5, .int (nI (j)))] := by rw [e4]; exact hl
        refine lv_iinc (v := nI (j + 1)) (lv' := [(5, .int (nI (j + 1))), (4, .int (s_pbI f nr (nI k) si 0 (j + 1))), (6, .ref (α (100 + k9))), (0, .ref (α (0))), (1, .ref (α (300 + si))), (2, .ref (α (100 + k))), (3, .int (f 0 (rN f (wN f si))))]) hx hb dX3_payByRule_66 hl (k := 6) rfl (nI_1 (j)) (by decide) rfl (fun ls hl => ?_)
        refine lv_goto (tgt := 18) hx hb dX3_payByRule_69 (by decide) ?_
        exact ihj ls (lv_sub hl [3, 4, 5, 6, 1, 0] rfl)

set_option maxHeartbeats 4000000 in
set_option maxRecDepth 100000 in
theorem c_X3_workedBetween {l : Launch} {G : mG} {V : mV} {α : Nat → Nat} {f : sT} {nr nw ns : Nat} (hC : mC G V α f nr nw ns) (hwf : mwf f nr nw ns) (wi : Nat) (hwi : wi < nw) (lo hi : Int32)  : Met l yX3_workedBetween wsX3_workedBetween ({ frames := 3, cells := 0, slots := 0, locals := 64 }) (va_Pc [.ref (α (0)), .ref (α (200 + wi)), .int (lo), .int (hi)] (fun U => mW G V α U U.heap)) (vp_Si (fun r9 => r9 = s_wb f wi lo hi ns)) 0 0 (fun _ => False) := by
  refine Met.ofW (cc := cX3_workedBetween) (maxL := 7) (ret := (some .int)) (by decide) rfl ?_
  intro p e s m args below meth c s₁ B hml hv
  obtain ⟨rfl, hw⟩ := hv
  have hx := B.exec
  have hb := B.bytes
  have hr := B.returns
  have hts := atoms_spec (ws := wsX3_workedBetween) B.pre
  have hown : s.vm.findClass RX3 = some m.cls := findClass_of_methodNamed B.named
  have hlocks := B.notSynchronized
  obtain ⟨k0, k1, k2, hL3, hL4, hL5, cR, cW, cS, -, -, -⟩ := id hC
  obtain ⟨md3, ed3, v3⟩ := hL3.obj
  obtain ⟨md4, ed4, v4⟩ := hL4.obj
  obtain ⟨md5, ed5, v5⟩ := hL5.obj
  obtain ⟨⟨hnr, hnw, hns⟩, -, -, h6w, h7w, -⟩ := id hwf
  have fl_33 := hts (.fieldLink RX3 33 "RosterPay" "roster" "Ljava/util/ArrayList;") (by decide +kernel)
  have in_X3 : ∀ w ∈ u_ws RX3 TX3 5, w ∈ wsX3_workedBetween := by decide +kernel
  have cl_96 := hts (.classLink RX3 96 "RosterPay$Shift") (by decide +kernel)
  have fl_148 := hts (.fieldLink RX3 148 "RosterPay$Shift" "worker" "LRosterPay$Worker;") (by decide +kernel)
  have in_X1 : ∀ w ∈ u_ws RX1 TX1 5, w ∈ wsX3_workedBetween := by decide +kernel
  have fl_113 := hts (.fieldLink RX3 113 "RosterPay$Shift" "isCancelled" "Z") (by decide +kernel)
  have hl := lv_entry ([.ref (α (0)), .ref (α (200 + wi)), .int (lo), .int (hi)]) (n := 7) (Nat.le_of_ble_eq_true rfl)
  rw [lg_entry_eq]
  generalize (lg_sl ([.ref (α (0)), .ref (α (200 + wi)), .int (lo), .int (hi)]) ++ List.replicate (7 - (lg_sl ([.ref (α (0)), .ref (α (200 + wi)), .int (lo), .int (hi)])).length) Slot.unset).toArray = ls at hl ⊢
  have hl : lv_has ls 7 [(0, .ref (α (0))), (1, .ref (α (200 + wi))), (2, .int (lo)), (3, .int (hi))] := hl
  refine lv_iconst (v := (0)) hx hb dX3_workedBetween_0 (by decide) ?_
  refine lv_topi (fun y1 ey1 => ?_)
  obtain rfl : y1 = (s_wb f wi lo hi 0) := ey1.trans (rfl)
  refine lv_istore (lv' := [(4, .int (s_wb f wi lo hi 0)), (0, .ref (α (0))), (1, .ref (α (200 + wi))), (2, .int (lo)), (3, .int (hi))]) hx hb dX3_workedBetween_1 hl (by decide) rfl (fun ls hl => ?_)
  refine lv_iconst (v := (0)) hx hb dX3_workedBetween_3 (by decide) ?_
  refine lv_topi (fun y2 ey2 => ?_)
  obtain rfl : y2 = (nI (0)) := ey2.trans (rfl)
  refine lv_istore (lv' := [(5, .int (nI (0))), (4, .int (s_wb f wi lo hi 0)), (0, .ref (α (0))), (1, .ref (α (200 + wi))), (2, .int (lo)), (3, .int (hi))]) hx hb dX3_workedBetween_4 hl (by decide) rfl (fun ls hl => ?_)
  refine mloop (nL := 7) (ns) (fun j => [(0, .ref (α (0))), (1, .ref (α (200 + wi))), (2, .int (lo)), (3, .int (hi)), (4, .int (s_wb f wi lo hi j)), (5, .int (nI (j)))]) ?_ ?_ ls (lv_sub hl [2, 3, 4, 5, 1, 0] rfl)
  ·
    intro ls hl
    have hl : lv_has ls 7 [(0, .ref (α (0))), (1, .ref (α (200 + wi))), (2, .int (lo)), (3, .int (hi)), (4, .int (s_wb f wi lo hi ns)), (5, .int (nI (ns)))] := hl
    refine lv_iload hx hb dX3_workedBetween_6 (lv_at hl 5 rfl) ?_
    refine lv_aload_n hx hb dX3_workedBetween_8 rfl (lv_at hl 0 rfl) ?_
    refine mget (C := RX3) (T := TX3) (N := 5) (ci := 4) hx hb hts in_X3 hown hw (k0) rfl 4 (by decide) fl_33 rfl dX3_workedBetween_9 ?_
    refine mcallVi hw (v5) rfl rfl ⟨hx, hb, hml, hown, hts⟩ (c_lsize hL5) (cwV 0 hts gX3_workedBetween_Jx4a65c_size_8abf5 rfl rfl rfl (by decide +kernel) ⟨Nat.le_of_ble_eq_true rfl, Nat.le_of_ble_eq_true rfl⟩) rfl hl.1 rfl (Nat.le_of_ble_eq_true rfl) dX3_workedBetween_12 ⟨Nat.le_of_ble_eq_true rfl, Nat.le_of_ble_eq_true rfl⟩ ?_
    refine lv_icmp_ge (tgt := 67) hx hb dX3_workedBetween_15 (by decide) (fun c3 => ?_) (fun z => absurd ((nI_le (Nat.le_refl _) (by omega))) z)
    refine lv_iload hx hb dX3_workedBetween_67 (lv_at hl 4 rfl) ?_
    exact W.iret (v := s_wb f wi lo hi ns) hx hb hr (fun t ht hW => ⟨_, rfl, rfl, ht⟩) (fun _ h => absurd h List.not_mem_nil) dX3_workedBetween_69
  ·
    intro j hj ihj ls hl
    have hl : lv_has ls 7 [(0, .ref (α (0))), (1, .ref (α (200 + wi))), (2, .int (lo)), (3, .int (hi)), (4, .int (s_wb f wi lo hi j)), (5, .int (nI (j)))] := hl
    obtain ⟨⟨hw0j, hw1j⟩, h9j, haj, h10j, hr0j, h8j, hN2j, hNj⟩ := hwf.sh j (by omega)
    have inj : α (200 + wN f j) = α (200 + wi) → wN f j = wi := fun z => Nat.add_left_cancel (hw.2.2.2.1 _ _ _ _ (cW _ hw0j) (cW wi hwi) z)
    refine lv_iload hx hb dX3_workedBetween_6 (lv_at hl 5 rfl) ?_
    refine lv_aload_n hx hb dX3_workedBetween_8 rfl (lv_at hl 0 rfl) ?_
    refine mget (C := RX3) (T := TX3) (N := 5) (ci := 4) hx hb hts in_X3 hown hw (k0) rfl 4 (by decide) fl_33 rfl dX3_workedBetween_9 ?_
    refine mcallVi hw (v5) rfl rfl ⟨hx, hb, hml, hown, hts⟩ (c_lsize hL5) (cwV 0 hts gX3_workedBetween_Jx4a65c_size_8abf5 rfl rfl rfl (by decide +kernel) ⟨Nat.le_of_ble_eq_true rfl, Nat.le_of_ble_eq_true rfl⟩) rfl hl.1 rfl (Nat.le_of_ble_eq_true rfl) dX3_workedBetween_12 ⟨Nat.le_of_ble_eq_true rfl, Nat.le_of_ble_eq_true rfl⟩ ?_
    refine lv_icmp_ge (tgt := 67) hx hb dX3_workedBetween_15 (by decide) (fun z => absurd z ((nI_ge hj (by omega)))) (fun c4 => ?_)
    refine lv_aload_n hx hb dX3_workedBetween_18 rfl (lv_at hl 0 rfl) ?_
    refine mget (C := RX3) (T := TX3) (N := 5) (ci := 4) hx hb hts in_X3 hown hw (k0) rfl 4 (by decide) fl_33 rfl dX3_workedBetween_19 ?_
    refine lv_iload hx hb dX3_workedBetween_22 (lv_at hl 5 rfl) ?_
    refine mcallVr hw (v5) rfl rfl ⟨hx, hb, hml, hown, hts⟩ (c_lget hL5 j (by omega)) (cwV 1 hts gX3_workedBetween_Jx4a65c_get_915e3 rfl rfl rfl (by decide +kernel) ⟨Nat.le_of_ble_eq_true rfl, Nat.le_of_ble_eq_true rfl⟩) rfl hl.1 rfl (Nat.le_of_ble_eq_true rfl) dX3_workedBetween_24 ⟨Nat.le_of_ble_eq_true rfl, Nat.le_of_ble_eq_true rfl⟩ ?_
    refine mcast hx hb hown cl_96 hw ((cS j (by omega))) rfl dX3_workedBetween_27 ?_
    refine lv_astore (lv' := [(6, .ref (α (300 + j))), (0, .ref (α (0))), (1, .ref (α (200 + wi))), (2, .int (lo)), (3, .int (hi)), (4, .int (s_wb f wi lo hi j)), (5, .int (nI (j)))]) hx hb dX3_workedBetween_30 hl (by decide) rfl (fun ls hl => ?_)
    refine lv_aload hx hb dX3_workedBetween_32 (lv_at hl 0 rfl) ?_
    refine mget (C := RX1) (T := TX1) (N := 5) (ci := 2) hx hb hts in_X1 hown hw ((cS j (by omega))) rfl 0 (by decide) fl_148 rfl dX3_workedBetween_34 ?_
    refine lv_aload_n hx hb dX3_workedBetween_37 rfl (lv_at hl 2 rfl) ?_
    refine macmp_ne (tgt := 61) hx hb dX3_workedBetween_38 (by decide) (fun c5 => ?_) (fun c5 => ?_)
    ·
      have e4 : s_wb f wi lo hi (j + 1) = s_wb f wi lo hi j := if_neg (fun z => c5 (by rw [z.1]))
      have hl : lv_has ls 7 [(6, .ref (α (300 + j))), (0, .ref (α (0))), (1, .ref (α (200 + wi))), (2, .int (lo)), (3, .int (hi)), (4, .int (s_wb f wi lo hi (j + 1))), (5, .int (nI (j)))] := by rw [e4]; exact hl
      refine lv_iinc (v := nI (j + 1)) (lv' := [(5, .int (nI (j + 1))), (6, .ref (α (300 + j))), (0, .ref (α (0))), (1, .ref (α (200 + wi))), (2, .int (lo)), (3, .int (hi)), (4, .int (s_wb f wi lo hi (j + 1)))]) hx hb dX3_workedBetween_61 hl (k := 6) rfl (nI_1 (j)) (by decide) rfl (fun ls hl => ?_)
      refine lv_goto (tgt := 6) hx hb dX3_workedBetween_64 (by decide) ?_
      exact ihj ls (lv_sub hl [2, 3, 4, 5, 6, 0] rfl)
    ·
      refine lv_aload hx hb dX3_workedBetween_41 (lv_at hl 0 rfl) ?_
      refine mget (C := RX1) (T := TX1) (N := 5) (ci := 2) hx hb hts in_X1 hown hw ((cS j (by omega))) rfl 4 (by decide) fl_113 rfl dX3_workedBetween_43 ?_
      refine lv_if_ne (tgt := 61) hx hb dX3_workedBetween_46 (by decide) (fun c6 => ?_) (fun c6 => ?_)
      ·
        have e4 : s_wb f wi lo hi (j + 1) = s_wb f wi lo hi j := if_neg (fun z => c6 z.2)
        have hl : lv_has ls 7 [(6, .ref (α (300 + j))), (0, .ref (α (0))), (1, .ref (α (200 + wi))), (2, .int (lo)), (3, .int (hi)), (4, .int (s_wb f wi lo hi (j + 1))), (5, .int (nI (j)))] := by rw [e4]; exact hl
        refine lv_iinc (v := nI (j + 1)) (lv' := [(5, .int (nI (j + 1))), (6, .ref (α (300 + j))), (0, .ref (α (0))), (1, .ref (α (200 + wi))), (2, .int (lo)), (3, .int (hi)), (4, .int (s_wb f wi lo hi (j + 1)))]) hx hb dX3_workedBetween_61 hl (k := 6) rfl (nI_1 (j)) (by decide) rfl (fun ls hl => ?_)
        refine lv_goto (tgt := 6) hx hb dX3_workedBetween_64 (by decide) ?_
        exact ihj ls (lv_sub hl [2, 3, 4, 5, 6, 0] rfl)
      ·
        refine lv_iload hx hb dX3_workedBetween_49 (lv_at hl 5 rfl) ?_
        refine lv_aload hx hb dX3_workedBetween_51 (lv_at hl 0 rfl) ?_
        refine lv_iload_n hx hb dX3_workedBetween_53 rfl (lv_at hl 3 rfl) ?_
        refine lv_iload_n hx hb dX3_workedBetween_54 rfl (lv_at hl 4 rfl) ?_
        refine mcallVi hw ((cS j (by omega))) rfl rfl ⟨hx, hb, hml, hown, hts⟩ (c_X1_ownBetween j (cS j (by omega)) lo hi) (cwV 2 hts gX3_workedBetween_X1_ownBetween rfl rfl rfl (by decide +kernel) ⟨Nat.le_of_ble_eq_true rfl, Nat.le_of_ble_eq_true rfl⟩) rfl hl.1 rfl (Nat.le_of_ble_eq_true rfl) dX3_workedBetween_55 ⟨Nat.le_of_ble_eq_true rfl, Nat.le_of_ble_eq_true rfl⟩ ?_
        refine lv_iadd hx hb dX3_workedBetween_58 ?_
        refine lv_istore (lv' := [(4, .int ((s_wb f wi lo hi j + s_own f j lo hi))), (6, .ref (α (300 + j))), (0, .ref (α (0))), (1, .ref (α (200 + wi))), (2, .int (lo)), (3, .int (hi)), (5, .int (nI (j)))]) hx hb dX3_workedBetween_59 hl (by decide) rfl (fun ls hl => ?_)
        have e4 : s_wb f wi lo hi (j + 1) = (s_wb f wi lo hi j + s_own f j lo hi) := if_pos ⟨inj c5, c6⟩
        have hl : lv_has ls 7 [(4, .int (s_wb f wi lo hi (j + 1))), (6, .ref (α (300 + j))), (0, .ref (α (0))), (1, .ref (α (200 + wi))), (2, .int (lo)), (3, .int (hi)), (5, .int (nI (j)))] := by rw [e4]; exact hl
        refine lv_iinc (v := nI (j + 1)) (lv' := [(5, .int (nI (j + 1))), (4, .int (s_wb f wi lo hi (j + 1))), (6, .ref (α (300 + j))), (0, .ref (α (0))), (1, .ref (α (200 + wi))), (2, .int (lo)), (3, .int (hi))]) hx hb dX3_workedBetween_61 hl (k := 6) rfl (nI_1 (j)) (by decide) rfl (fun ls hl => ?_)
        refine lv_goto (tgt := 6) hx hb dX3_workedBetween_64 (by decide) ?_
        exact ihj ls (lv_sub hl [3, 4, 5, 6, 1, 0] rfl)

set_option maxHeartbeats 4000000 in
set_option maxRecDepth 100000 in
theorem c_X3_overlapsAnother {l : Launch} {G : mG} {V : mV} {α : Nat → Nat} {f : sT} {nr nw ns : Nat} (hC : mC G V α f nr nw ns) (hwf : mwf f nr nw ns) (wi : Nat) (hwi : wi < nw) (lo hi : Int32)  : Met l yX3_overlapsAnother wsX3_overlapsAnother ({ frames := 4, cells := 0, slots := 0, locals := 90 }) (va_Pc [.ref (α (0)), .ref (α (200 + wi)), .int (lo), .int (hi)] (fun U => mW G V α U U.heap)) (vp_Si (fun r9 => r9 = bI (0 < s_wb f wi lo hi ns))) 0 0 (fun _ => False) := by
  refine Met.ofW (cc := cX3_overlapsAnother) (maxL := 4) (ret := (some .boolean)) (by decide) rfl ?_
  intro p e s m args below meth c s₁ B hml hv
  obtain ⟨rfl, hw⟩ := hv
  have hx := B.exec
  have hb := B.bytes
  have hr := B.returns
  have hts := atoms_spec (ws := wsX3_overlapsAnother) B.pre
  have hown : s.vm.findClass RX3 = some m.cls := findClass_of_methodNamed B.named
  have hlocks := B.notSynchronized
  obtain ⟨k0, k1, k2, hL3, hL4, hL5, cR, cW, cS, -, -, -⟩ := id hC
  obtain ⟨md3, ed3, v3⟩ := hL3.obj
  obtain ⟨md4, ed4, v4⟩ := hL4.obj
  obtain ⟨md5, ed5, v5⟩ := hL5.obj
  obtain ⟨⟨hnr, hnw, hns⟩, -, -, h6w, h7w, -⟩ := id hwf
  have hl := lv_entry ([.ref (α (0)), .ref (α (200 + wi)), .int (lo), .int (hi)]) (n := 4) (Nat.le_of_ble_eq_true rfl)
  rw [lg_entry_eq]
  generalize (lg_sl ([.ref (α (0)), .ref (α (200 + wi)), .int (lo), .int (hi)]) ++ List.replicate (4 - (lg_sl ([.ref (α (0)), .ref (α (200 + wi)), .int (lo), .int (hi)])).length) Slot.unset).toArray = ls at hl ⊢
  have hl : lv_has ls 4 [(0, .ref (α (0))), (1, .ref (α (200 + wi))), (2, .int (lo)), (3, .int (hi))] := hl
  refine lv_aload_n hx hb dX3_overlapsAnother_0 rfl (lv_at hl 0 rfl) ?_
  refine lv_aload_n hx hb dX3_overlapsAnother_1 rfl (lv_at hl 1 rfl) ?_
  refine lv_iload_n hx hb dX3_overlapsAnother_2 rfl (lv_at hl 2 rfl) ?_
  refine lv_iload_n hx hb dX3_overlapsAnother_3 rfl (lv_at hl 3 rfl) ?_
  refine mcallVi hw (k0) rfl rfl ⟨hx, hb, hml, hown, hts⟩ (c_X3_workedBetween hC hwf wi hwi (lo) (hi)) (cwV 3 hts gX3_overlapsAnother_X3_workedBetween rfl rfl rfl (by decide +kernel) ⟨Nat.le_of_ble_eq_true rfl, Nat.le_of_ble_eq_true rfl⟩) rfl hl.1 rfl (Nat.le_of_ble_eq_true rfl) dX3_overlapsAnother_4 ⟨Nat.le_of_ble_eq_true rfl, Nat.le_of_ble_eq_true rfl⟩ ?_
  refine lv_if_le (tgt := 14) hx hb dX3_overlapsAnother_7 (by decide) (fun c1 => ?_) (fun c1 => ?_)
  ·
    refine lv_iconst (v := (0)) hx hb dX3_overlapsAnother_14 (by decide) ?_
    exact W.zret (v := 0) hx hb hr (rfl) (fun t ht hW => ⟨_, rfl, (bI_f (fun z => absurd (Int32.lt_of_le_of_lt c1 z) Int32.lt_irrefl)).symm, ht⟩) (fun _ h => absurd h List.not_mem_nil) dX3_overlapsAnother_15
  ·
    refine lv_iconst (v := (1)) hx hb dX3_overlapsAnother_10 (by decide) ?_
    refine lv_goto (tgt := 15) hx hb dX3_overlapsAnother_11 (by decide) ?_
    exact W.zret (v := 1) hx hb hr (rfl) (fun t ht hW => ⟨_, rfl, (bI_t (Int32.not_le.mp c1)).symm, ht⟩) (fun _ h => absurd h List.not_mem_nil) dX3_overlapsAnother_15

set_option maxHeartbeats 4000000 in
set_option maxRecDepth 100000 in
theorem c_X3_workedInWeeks {l : Launch} {G : mG} {V : mV} {α : Nat → Nat} {f : sT} {nr nw ns : Nat} (hC : mC G V α f nr nw ns) (hwf : mwf f nr nw ns) (wi : Nat) (hwi : wi < nw) (x y : Int32)  : Met l yX3_workedInWeeks wsX3_workedInWeeks ({ frames := 4, cells := 0, slots := 0, locals := 90 }) (va_Pc [.ref (α (0)), .ref (α (200 + wi)), .int (x), .int (y)] (fun U => mW G V α U U.heap)) (vp_Si (fun r9 => r9 = s_wb f wi (x * 672) ((x + y) * 672) ns)) 0 0 (fun _ => False) := by
  refine Met.ofW (cc := cX3_workedInWeeks) (maxL := 4) (ret := (some .int)) (by decide) rfl ?_
  intro p e s m args below meth c s₁ B hml hv
  obtain ⟨rfl, hw⟩ := hv
  have hx := B.exec
  have hb := B.bytes
  have hr := B.returns
  have hts := atoms_spec (ws := wsX3_workedInWeeks) B.pre
  have hown : s.vm.findClass RX3 = some m.cls := findClass_of_methodNamed B.named
  have hlocks := B.notSynchronized
  obtain ⟨k0, k1, k2, hL3, hL4, hL5, cR, cW, cS, -, -, -⟩ := id hC
  obtain ⟨md3, ed3, v3⟩ := hL3.obj
  obtain ⟨md4, ed4, v4⟩ := hL4.obj
  obtain ⟨md5, ed5, v5⟩ := hL5.obj
  obtain ⟨⟨hnr, hnw, hns⟩, -, -, h6w, h7w, -⟩ := id hwf
  have hl := lv_entry ([.ref (α (0)), .ref (α (200 + wi)), .int (x), .int (y)]) (n := 4) (Nat.le_of_ble_eq_true rfl)
  rw [lg_entry_eq]
  generalize (lg_sl ([.ref (α (0)), .ref (α (200 + wi)), .int (x), .int (y)]) ++ List.replicate (4 - (lg_sl ([.ref (α (0)), .ref (α (200 + wi)), .int (x), .int (y)])).length) Slot.unset).toArray = ls at hl ⊢
  have hl : lv_has ls 4 [(0, .ref (α (0))), (1, .ref (α (200 + wi))), (2, .int (x)), (3, .int (y))] := hl
  refine lv_aload_n hx hb dX3_workedInWeeks_0 rfl (lv_at hl 0 rfl) ?_
  refine lv_aload_n hx hb dX3_workedInWeeks_1 rfl (lv_at hl 1 rfl) ?_
  refine lv_iload_n hx hb dX3_workedInWeeks_2 rfl (lv_at hl 2 rfl) ?_
  refine lv_sipush (v := (672)) hx hb dX3_workedInWeeks_3 (by decide) ?_
  refine lv_imul hx hb dX3_workedInWeeks_6 ?_
  refine lv_iload_n hx hb dX3_workedInWeeks_7 rfl (lv_at hl 2 rfl) ?_
  refine lv_iload_n hx hb dX3_workedInWeeks_8 rfl (lv_at hl 3 rfl) ?_
  refine lv_iadd hx hb dX3_workedInWeeks_9 ?_
  refine lv_sipush (v := (672)) hx hb dX3_workedInWeeks_10 (by decide) ?_
  refine lv_imul hx hb dX3_workedInWeeks_13 ?_
  refine mcallVi hw (k0) rfl rfl ⟨hx, hb, hml, hown, hts⟩ (c_X3_workedBetween hC hwf wi hwi ((x * 672)) (((x + y) * 672))) (cwV 3 hts gX3_workedInWeeks_X3_workedBetween rfl rfl rfl (by decide +kernel) ⟨Nat.le_of_ble_eq_true rfl, Nat.le_of_ble_eq_true rfl⟩) rfl hl.1 rfl (Nat.le_of_ble_eq_true rfl) dX3_workedInWeeks_14 ⟨Nat.le_of_ble_eq_true rfl, Nat.le_of_ble_eq_true rfl⟩ ?_
  exact W.iret (v := s_wb f wi ((x * 672)) (((x + y) * 672)) ns) hx hb hr (fun t ht hW => ⟨_, rfl, rfl, ht⟩) (fun _ h => absurd h List.not_mem_nil) dX3_workedInWeeks_17
