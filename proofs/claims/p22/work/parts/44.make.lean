set_option maxHeartbeats 4000000 in
set_option maxRecDepth 100000 in
theorem c_X0_init {l : Launch} {G : mG} {V : mV} {α : Nat → Nat} {z : Nat} (x0 x1 x2 x3 x4 x5 : Int32) (hz : V z = some (.inr (1, [.int 0, .int 0, .int 0, .int 0, .int 0, .int 0, .int 0]))) : Met l yX0_init wsX0_init ({ frames := 1, cells := 0, slots := 0, locals := 40 }) (va_Pc [.ref (α (z)), .int (x0), .int (x1), .int (x2), .int (x3), .int (x4), .int (x5)] (fun U => mW G V α U U.heap)) (va_Qv (fun (u : mV × (Nat → Nat)) => u.1 = vup V z (.inr (1, [.int x0, .int x1, .int x2, .int x3, .int x4, .int x5, .int 1])) ∧ α = u.2) (fun u t => mH G u.1 u.2 t.heap) (mfree G)) 0 0 (mfree G) := by
  refine Met.ofW (cc := cX0_init) (maxL := 7) (ret := none) (by decide) rfl ?_
  intro p e s m args below meth c s₁ B hml hv
  obtain ⟨rfl, hw⟩ := hv
  have hw0 := hw
  have hx := B.exec
  have hb := B.bytes
  have hr := B.returns
  have hts := atoms_spec (ws := wsX0_init) B.pre
  have hown : s.vm.findClass RX0 = some m.cls := findClass_of_methodNamed B.named
  have hlocks := B.notSynchronized
  have hS : va_S (mfree G) s.heap s.heap [] := va_S.rf
  have hin : meth.name = "<init>" := (name_of_methodNamed B.named B.method).1
  have oi_l3 := hts (.methodLink RX0 3 objectInit) (by decide +kernel)
  have oi_i := hts (.instanceMethod objectInit) (by decide +kernel)
  have oi_c := hts (.code objectInit ⟨#[0xb1]⟩ 1 none) (by decide +kernel)
  have fl_9 := hts (.fieldLink RX0 9 "RosterPay$Rule" "number" "I") (by decide +kernel)
  have in_X0 : ∀ w ∈ u_ws RX0 TX0 7, w ∈ wsX0_init := by decide +kernel
  have fl_15 := hts (.fieldLink RX0 15 "RosterPay$Rule" "weekdays" "I") (by decide +kernel)
  have fl_18 := hts (.fieldLink RX0 18 "RosterPay$Rule" "from" "I") (by decide +kernel)
  have fl_21 := hts (.fieldLink RX0 21 "RosterPay$Rule" "to" "I") (by decide +kernel)
  have fl_24 := hts (.fieldLink RX0 24 "RosterPay$Rule" "ranks" "I") (by decide +kernel)
  have fl_27 := hts (.fieldLink RX0 27 "RosterPay$Rule" "percent" "I") (by decide +kernel)
  have fl_30 := hts (.fieldLink RX0 30 "RosterPay$Rule" "isOn" "Z") (by decide +kernel)
  have hl := lv_entry ([.ref (α (z)), .int (x0), .int (x1), .int (x2), .int (x3), .int (x4), .int (x5)]) (n := 7) (Nat.le_of_ble_eq_true rfl)
  rw [lg_entry_eq]
  generalize (lg_sl ([.ref (α (z)), .int (x0), .int (x1), .int (x2), .int (x3), .int (x4), .int (x5)]) ++ List.replicate (7 - (lg_sl ([.ref (α (z)), .int (x0), .int (x1), .int (x2), .int (x3), .int (x4), .int (x5)])).length) Slot.unset).toArray = ls at hl ⊢
  have hl : lv_has ls 7 [(0, .ref (α (z))), (1, .int (x0)), (2, .int (x1)), (3, .int (x2)), (4, .int (x3)), (5, .int (x4)), (6, .int (x5))] := hl
  refine lv_aload_n hx hb dX0_init_0 rfl (lv_at hl 0 rfl) ?_
  refine W.objInit hx hb hown oi_l3 oi_i oi_c rfl (by rw [hml]; exact hl.1) rfl dX0_init_1 (Nat.le_of_ble_eq_true rfl) (Nat.le_of_ble_eq_true rfl) ?_
  refine W.eq (g2 := F0 m 4 ls []) rfl ?_
  refine lv_aload_n hx hb dX0_init_4 rfl (lv_at hl 0 rfl) ?_
  refine lv_iload_n hx hb dX0_init_5 rfl (lv_at hl 1 rfl) ?_
  refine mputF (C := RX0) (T := TX0) (N := 7) (ci := 1) hx hb hts in_X0 tyX0 tyX0_ok nmX0 hown hw hS (hz) rfl 0 (by decide) fl_9 rfl hin rfl (rfl) (rfl) (Nat.le_of_ble_eq_true rfl) dX0_init_6 (fun H locs hw hS => ?_)
  have hw : mW G (vup V z (.inr (1, [.int (x0), .int (0), .int (0), .int (0), .int (0), .int (0), .int (0)]))) α s H := hw
  have hz1 : (vup V z (.inr (1, [.int (x0), .int (0), .int (0), .int (0), .int (0), .int (0), .int (0)]))) z = some (.inr (1, [.int (x0), .int (0), .int (0), .int (0), .int (0), .int (0), .int (0)])) := vup_s _ _ _
  refine lv_aload_n hx hb dX0_init_9 rfl (lv_at hl 0 rfl) ?_
  refine lv_iload_n hx hb dX0_init_10 rfl (lv_at hl 2 rfl) ?_
  refine mputF (C := RX0) (T := TX0) (N := 7) (ci := 1) hx hb hts in_X0 tyX0 tyX0_ok nmX0 hown hw hS (hz1) rfl 1 (by decide) fl_15 rfl hin rfl (rfl) (rfl) (Nat.le_of_ble_eq_true rfl) dX0_init_11 (fun H locs hw hS => ?_)
  have hw : mW G (vup (vup V z (.inr (1, [.int (x0), .int (0), .int (0), .int (0), .int (0), .int (0), .int (0)]))) z (.inr (1, [.int (x0), .int (x1), .int (0), .int (0), .int (0), .int (0), .int (0)]))) α s H := hw
  have hz2 : (vup (vup V z (.inr (1, [.int (x0), .int (0), .int (0), .int (0), .int (0), .int (0), .int (0)]))) z (.inr (1, [.int (x0), .int (x1), .int (0), .int (0), .int (0), .int (0), .int (0)]))) z = some (.inr (1, [.int (x0), .int (x1), .int (0), .int (0), .int (0), .int (0), .int (0)])) := vup_s _ _ _
  refine lv_aload_n hx hb dX0_init_14 rfl (lv_at hl 0 rfl) ?_
  refine lv_iload_n hx hb dX0_init_15 rfl (lv_at hl 3 rfl) ?_
  refine mputF (C := RX0) (T := TX0) (N := 7) (ci := 1) hx hb hts in_X0 tyX0 tyX0_ok nmX0 hown hw hS (hz2) rfl 2 (by decide) fl_18 rfl hin rfl (rfl) (rfl) (Nat.le_of_ble_eq_true rfl) dX0_init_16 (fun H locs hw hS => ?_)
  have hw : mW G (vup (vup (vup V z (.inr (1, [.int (x0), .int (0), .int (0), .int (0), .int (0), .int (0), .int (0)]))) z (.inr (1, [.int (x0), .int (x1), .int (0), .int (0), .int (0), .int (0), .int (0)]))) z (.inr (1, [.int (x0), .int (x1), .int (x2), .int (0), .int (0), .int (0), .int (0)]))) α s H := hw
  have hz3 : (vup (vup (vup V z (.inr (1, [.int (x0), .int (0), .int (0), .int (0), .int (0), .int (0), .int (0)]))) z (.inr (1, [.int (x0), .int (x1), .int (0), .int (0), .int (0), .int (0), .int (0)]))) z (.inr (1, [.int (x0), .int (x1), .int (x2), .int (0), .int (0), .int (0), .int (0)]))) z = some (.inr (1, [.int (x0), .int (x1), .int (x2), .int (0), .int (0), .int (0), .int (0)])) := vup_s _ _ _
  refine lv_aload_n hx hb dX0_init_19 rfl (lv_at hl 0 rfl) ?_
  refine lv_iload hx hb dX0_init_20 (lv_at hl 4 rfl) ?_
  refine mputF (C := RX0) (T := TX0) (N := 7) (ci := 1) hx hb hts in_X0 tyX0 tyX0_ok nmX0 hown hw hS (hz3) rfl 3 (by decide) fl_21 rfl hin rfl (rfl) (rfl) (Nat.le_of_ble_eq_true rfl) dX0_init_22 (fun H locs hw hS => ?_)
  have hw : mW G (vup (vup (vup (vup V z (.inr (1, [.int (x0), .int (0), .int (0), .int (0), .int (0), .int (0), .int (0)]))) z (.inr (1, [.int (x0), .int (x1), .int (0), .int (0), .int (0), .int (0), .int (0)]))) z (.inr (1, [.int (x0), .int (x1), .int (x2), .int (0), .int (0), .int (0), .int (0)]))) z (.inr (1, [.int (x0), .int (x1), .int (x2), .int (x3), .int (0), .int (0), .int (0)]))) α s H := hw
  have hz4 : (vup (vup (vup (vup V z (.inr (1, [.int (x0), .int (0), .int (0), .int (0), .int (0), .int (0), .int (0)]))) z (.inr (1, [.int (x0), .int (x1), .int (0), .int (0), .int (0), .int (0), .int (0)]))) z (.inr (1, [.int (x0), .int (x1), .int (x2), .int (0), .int (0), .int (0), .int (0)]))) z (.inr (1, [.int (x0), .int (x1), .int (x2), .int (x3), .int (0), .int (0), .int (0)]))) z = some (.inr (1, [.int (x0), .int (x1), .int (x2), .int (x3), .int (0), .int (0), .int (0)])) := vup_s _ _ _
  refine lv_aload_n hx hb dX0_init_25 rfl (lv_at hl 0 rfl) ?_
  refine lv_iload hx hb dX0_init_26 (lv_at hl 5 rfl) ?_
  refine mputF (C := RX0) (T := TX0) (N := 7) (ci := 1) hx hb hts in_X0 tyX0 tyX0_ok nmX0 hown hw hS (hz4) rfl 4 (by decide) fl_24 rfl hin rfl (rfl) (rfl) (Nat.le_of_ble_eq_true rfl) dX0_init_28 (fun H locs hw hS => ?_)
  have hw : mW G (vup (vup (vup (vup (vup V z (.inr (1, [.int (x0), .int (0), .int (0), .int (0), .int (0), .int (0), .int (0)]))) z (.inr (1, [.int (x0), .int (x1), .int (0), .int (0), .int (0), .int (0), .int (0)]))) z (.inr (1, [.int (x0), .int (x1), .int (x2), .int (0), .int (0), .int (0), .int (0)]))) z (.inr (1, [.int (x0), .int (x1), .int (x2), .int (x3), .int (0), .int (0), .int (0)]))) z (.inr (1, [.int (x0), .int (x1), .int (x2), .int (x3), .int (x4), .int (0), .int (0)]))) α s H := hw
  have hz5 : (vup (vup (vup (vup (vup V z (.inr (1, [.int (x0), .int (0), .int (0), .int (0), .int (0), .int (0), .int (0)]))) z (.inr (1, [.int (x0), .int (x1), .int (0), .int (0), .int (0), .int (0), .int (0)]))) z (.inr (1, [.int (x0), .int (x1), .int (x2), .int (0), .int (0), .int (0), .int (0)]))) z (.inr (1, [.int (x0), .int (x1), .int (x2), .int (x3), .int (0), .int (0), .int (0)]))) z (.inr (1, [.int (x0), .int (x1), .int (x2), .int (x3), .int (x4), .int (0), .int (0)]))) z = some (.inr (1, [.int (x0), .int (x1), .int (x2), .int (x3), .int (x4), .int (0), .int (0)])) := vup_s _ _ _
  refine lv_aload_n hx hb dX0_init_31 rfl (lv_at hl 0 rfl) ?_
  refine lv_iload hx hb dX0_init_32 (lv_at hl 6 rfl) ?_
  refine mputF (C := RX0) (T := TX0) (N := 7) (ci := 1) hx hb hts in_X0 tyX0 tyX0_ok nmX0 hown hw hS (hz5) rfl 5 (by decide) fl_27 rfl hin rfl (rfl) (rfl) (Nat.le_of_ble_eq_true rfl) dX0_init_34 (fun H locs hw hS => ?_)
  have hw : mW G (vup (vup (vup (vup (vup (vup V z (.inr (1, [.int (x0), .int (0), .int (0), .int (0), .int (0), .int (0), .int (0)]))) z (.inr (1, [.int (x0), .int (x1), .int (0), .int (0), .int (0), .int (0), .int (0)]))) z (.inr (1, [.int (x0), .int (x1), .int (x2), .int (0), .int (0), .int (0), .int (0)]))) z (.inr (1, [.int (x0), .int (x1), .int (x2), .int (x3), .int (0), .int (0), .int (0)]))) z (.inr (1, [.int (x0), .int (x1), .int (x2), .int (x3), .int (x4), .int (0), .int (0)]))) z (.inr (1, [.int (x0), .int (x1), .int (x2), .int (x3), .int (x4), .int (x5), .int (0)]))) α s H := hw
  have hz6 : (vup (vup (vup (vup (vup (vup V z (.inr (1, [.int (x0), .int (0), .int (0), .int (0), .int (0), .int (0), .int (0)]))) z (.inr (1, [.int (x0), .int (x1), .int (0), .int (0), .int (0), .int (0), .int (0)]))) z (.inr (1, [.int (x0), .int (x1), .int (x2), .int (0), .int (0), .int (0), .int (0)]))) z (.inr (1, [.int (x0), .int (x1), .int (x2), .int (x3), .int (0), .int (0), .int (0)]))) z (.inr (1, [.int (x0), .int (x1), .int (x2), .int (x3), .int (x4), .int (0), .int (0)]))) z (.inr (1, [.int (x0), .int (x1), .int (x2), .int (x3), .int (x4), .int (x5), .int (0)]))) z = some (.inr (1, [.int (x0), .int (x1), .int (x2), .int (x3), .int (x4), .int (x5), .int (0)])) := vup_s _ _ _
  refine lv_aload_n hx hb dX0_init_37 rfl (lv_at hl 0 rfl) ?_
  refine lv_iconst (v := (1)) hx hb dX0_init_38 (by decide) ?_
  refine mput (C := RX0) (T := TX0) (N := 7) (ci := 1) hx hb hts in_X0 tyX0 tyX0_ok nmX0 hown hw hS (hz6) rfl 6 (by decide) fl_30 rfl (rfl) (rfl) (Nat.le_of_ble_eq_true rfl) dX0_init_39 (fun H locs hw hS => ?_)
  have hw : mW G (vup (vup (vup (vup (vup (vup (vup V z (.inr (1, [.int (x0), .int (0), .int (0), .int (0), .int (0), .int (0), .int (0)]))) z (.inr (1, [.int (x0), .int (x1), .int (0), .int (0), .int (0), .int (0), .int (0)]))) z (.inr (1, [.int (x0), .int (x1), .int (x2), .int (0), .int (0), .int (0), .int (0)]))) z (.inr (1, [.int (x0), .int (x1), .int (x2), .int (x3), .int (0), .int (0), .int (0)]))) z (.inr (1, [.int (x0), .int (x1), .int (x2), .int (x3), .int (x4), .int (0), .int (0)]))) z (.inr (1, [.int (x0), .int (x1), .int (x2), .int (x3), .int (x4), .int (x5), .int (0)]))) z (.inr (1, [.int (x0), .int (x1), .int (x2), .int (x3), .int (x4), .int (x5), .int (1)]))) α s H := hw
  have hz7 : (vup (vup (vup (vup (vup (vup (vup V z (.inr (1, [.int (x0), .int (0), .int (0), .int (0), .int (0), .int (0), .int (0)]))) z (.inr (1, [.int (x0), .int (x1), .int (0), .int (0), .int (0), .int (0), .int (0)]))) z (.inr (1, [.int (x0), .int (x1), .int (x2), .int (0), .int (0), .int (0), .int (0)]))) z (.inr (1, [.int (x0), .int (x1), .int (x2), .int (x3), .int (0), .int (0), .int (0)]))) z (.inr (1, [.int (x0), .int (x1), .int (x2), .int (x3), .int (x4), .int (0), .int (0)]))) z (.inr (1, [.int (x0), .int (x1), .int (x2), .int (x3), .int (x4), .int (x5), .int (0)]))) z (.inr (1, [.int (x0), .int (x1), .int (x2), .int (x3), .int (x4), .int (x5), .int (1)]))) z = some (.inr (1, [.int (x0), .int (x1), .int (x2), .int (x3), .int (x4), .int (x5), .int (1)])) := vup_s _ _ _
  exact W.vret hx hb hr (fun t ht hW => ⟨⟨((vup (vup (vup (vup (vup (vup (vup V z (.inr (1, [.int (x0), .int (0), .int (0), .int (0), .int (0), .int (0), .int (0)]))) z (.inr (1, [.int (x0), .int (x1), .int (0), .int (0), .int (0), .int (0), .int (0)]))) z (.inr (1, [.int (x0), .int (x1), .int (x2), .int (0), .int (0), .int (0), .int (0)]))) z (.inr (1, [.int (x0), .int (x1), .int (x2), .int (x3), .int (0), .int (0), .int (0)]))) z (.inr (1, [.int (x0), .int (x1), .int (x2), .int (x3), .int (x4), .int (0), .int (0)]))) z (.inr (1, [.int (x0), .int (x1), .int (x2), .int (x3), .int (x4), .int (x5), .int (0)]))) z (.inr (1, [.int (x0), .int (x1), .int (x2), .int (x3), .int (x4), .int (x5), .int (1)]))), α), rfl, ⟨by simp only [vup2], rfl⟩, by show mH G (vup (vup (vup (vup (vup (vup (vup V z (.inr (1, [.int (x0), .int (0), .int (0), .int (0), .int (0), .int (0), .int (0)]))) z (.inr (1, [.int (x0), .int (x1), .int (0), .int (0), .int (0), .int (0), .int (0)]))) z (.inr (1, [.int (x0), .int (x1), .int (x2), .int (0), .int (0), .int (0), .int (0)]))) z (.inr (1, [.int (x0), .int (x1), .int (x2), .int (x3), .int (0), .int (0), .int (0)]))) z (.inr (1, [.int (x0), .int (x1), .int (x2), .int (x3), .int (x4), .int (0), .int (0)]))) z (.inr (1, [.int (x0), .int (x1), .int (x2), .int (x3), .int (x4), .int (x5), .int (0)]))) z (.inr (1, [.int (x0), .int (x1), .int (x2), .int (x3), .int (x4), .int (x5), .int (1)]))) α t.heap; rw [ht]; exact hw.2.2⟩, hS.F ht⟩) hS.2.2 dX0_init_42

set_option maxHeartbeats 4000000 in
set_option maxRecDepth 100000 in
theorem c_X2_init {l : Launch} {G : mG} {V : mV} {α : Nat → Nat} {z : Nat} (x : Int32) (hz : V z = some (.inr (3, [.int 0]))) : Met l yX2_init wsX2_init ({ frames := 1, cells := 0, slots := 0, locals := 40 }) (va_Pc [.ref (α (z)), .int (x)] (fun U => mW G V α U U.heap)) (va_Qv (fun (u : mV × (Nat → Nat)) => u.1 = vup V z (.inr (3, [.int x])) ∧ α = u.2) (fun u t => mH G u.1 u.2 t.heap) (mfree G)) 0 0 (mfree G) := by
  refine Met.ofW (cc := cX2_init) (maxL := 2) (ret := none) (by decide) rfl ?_
  intro p e s m args below meth c s₁ B hml hv
  obtain ⟨rfl, hw⟩ := hv
  have hw0 := hw
  have hx := B.exec
  have hb := B.bytes
  have hr := B.returns
  have hts := atoms_spec (ws := wsX2_init) B.pre
  have hown : s.vm.findClass RX2 = some m.cls := findClass_of_methodNamed B.named
  have hlocks := B.notSynchronized
  have hS : va_S (mfree G) s.heap s.heap [] := va_S.rf
  have hin : meth.name = "<init>" := (name_of_methodNamed B.named B.method).1
  have oi_l1 := hts (.methodLink RX2 1 objectInit) (by decide +kernel)
  have oi_i := hts (.instanceMethod objectInit) (by decide +kernel)
  have oi_c := hts (.code objectInit ⟨#[0xb1]⟩ 1 none) (by decide +kernel)
  have fl_7 := hts (.fieldLink RX2 7 "RosterPay$Worker" "rank" "I") (by decide +kernel)
  have in_X2 : ∀ w ∈ u_ws RX2 TX2 1, w ∈ wsX2_init := by decide +kernel
  have hl := lv_entry ([.ref (α (z)), .int (x)]) (n := 2) (Nat.le_of_ble_eq_true rfl)
  rw [lg_entry_eq]
  generalize (lg_sl ([.ref (α (z)), .int (x)]) ++ List.replicate (2 - (lg_sl ([.ref (α (z)), .int (x)])).length) Slot.unset).toArray = ls at hl ⊢
  have hl : lv_has ls 2 [(0, .ref (α (z))), (1, .int (x))] := hl
  refine lv_aload_n hx hb dX2_init_0 rfl (lv_at hl 0 rfl) ?_
  refine W.objInit hx hb hown oi_l1 oi_i oi_c rfl (by rw [hml]; exact hl.1) rfl dX2_init_1 (Nat.le_of_ble_eq_true rfl) (Nat.le_of_ble_eq_true rfl) ?_
  refine W.eq (g2 := F0 m 4 ls []) rfl ?_
  refine lv_aload_n hx hb dX2_init_4 rfl (lv_at hl 0 rfl) ?_
  refine lv_iload_n hx hb dX2_init_5 rfl (lv_at hl 1 rfl) ?_
  refine mput (C := RX2) (T := TX2) (N := 1) (ci := 3) hx hb hts in_X2 tyX2 tyX2_ok nmX2 hown hw hS (hz) rfl 0 (by decide) fl_7 rfl (rfl) (rfl) (Nat.le_of_ble_eq_true rfl) dX2_init_6 (fun H locs hw hS => ?_)
  have hw : mW G (vup V z (.inr (3, [.int (x)]))) α s H := hw
  have hz1 : (vup V z (.inr (3, [.int (x)]))) z = some (.inr (3, [.int (x)])) := vup_s _ _ _
  exact W.vret hx hb hr (fun t ht hW => ⟨⟨((vup V z (.inr (3, [.int (x)]))), α), rfl, ⟨by simp only [vup2], rfl⟩, by show mH G (vup V z (.inr (3, [.int (x)]))) α t.heap; rw [ht]; exact hw.2.2⟩, hS.F ht⟩) hS.2.2 dX2_init_9

set_option maxHeartbeats 4000000 in
set_option maxRecDepth 100000 in
theorem c_X1_init {l : Launch} {G : mG} {V : mV} {α : Nat → Nat} {z w : Nat} (y x : Int32) (hz : V z = some (.inr (2, [.null, .int 0, .int 0, .int 0, .int 0]))) : Met l yX1_init wsX1_init ({ frames := 1, cells := 0, slots := 0, locals := 40 }) (va_Pc [.ref (α (z)), .ref (α (w)), .int (y), .int (x)] (fun U => mW G V α U U.heap)) (va_Qv (fun (u : mV × (Nat → Nat)) => u.1 = vup V z (.inr (2, [.ref (α w), .int y, .int x, .int 0, .int 0])) ∧ α = u.2) (fun u t => mH G u.1 u.2 t.heap) (mfree G)) 0 0 (mfree G) := by
  refine Met.ofW (cc := cX1_init) (maxL := 4) (ret := none) (by decide) rfl ?_
  intro p e s m args below meth c s₁ B hml hv
  obtain ⟨rfl, hw⟩ := hv
  have hw0 := hw
  have hx := B.exec
  have hb := B.bytes
  have hr := B.returns
  have hts := atoms_spec (ws := wsX1_init) B.pre
  have hown : s.vm.findClass RX1 = some m.cls := findClass_of_methodNamed B.named
  have hlocks := B.notSynchronized
  have hS : va_S (mfree G) s.heap s.heap [] := va_S.rf
  have hin : meth.name = "<init>" := (name_of_methodNamed B.named B.method).1
  have oi_l3 := hts (.methodLink RX1 3 objectInit) (by decide +kernel)
  have oi_i := hts (.instanceMethod objectInit) (by decide +kernel)
  have oi_c := hts (.code objectInit ⟨#[0xb1]⟩ 1 none) (by decide +kernel)
  have fl_9 := hts (.fieldLink RX1 9 "RosterPay$Shift" "worker" "LRosterPay$Worker;") (by decide +kernel)
  have in_X1 : ∀ w ∈ u_ws RX1 TX1 5, w ∈ wsX1_init := by decide +kernel
  have fl_15 := hts (.fieldLink RX1 15 "RosterPay$Shift" "start" "I") (by decide +kernel)
  have fl_19 := hts (.fieldLink RX1 19 "RosterPay$Shift" "quarters" "I") (by decide +kernel)
  have fl_22 := hts (.fieldLink RX1 22 "RosterPay$Shift" "breaksTaken" "I") (by decide +kernel)
  have fl_25 := hts (.fieldLink RX1 25 "RosterPay$Shift" "isCancelled" "Z") (by decide +kernel)
  have hl := lv_entry ([.ref (α (z)), .ref (α (w)), .int (y), .int (x)]) (n := 4) (Nat.le_of_ble_eq_true rfl)
  rw [lg_entry_eq]
  generalize (lg_sl ([.ref (α (z)), .ref (α (w)), .int (y), .int (x)]) ++ List.replicate (4 - (lg_sl ([.ref (α (z)), .ref (α (w)), .int (y), .int (x)])).length) Slot.unset).toArray = ls at hl ⊢
  have hl : lv_has ls 4 [(0, .ref (α (z))), (1, .ref (α (w))), (2, .int (y)), (3, .int (x))] := hl
  refine lv_aload_n hx hb dX1_init_0 rfl (lv_at hl 0 rfl) ?_
  refine W.objInit hx hb hown oi_l3 oi_i oi_c rfl (by rw [hml]; exact hl.1) rfl dX1_init_1 (Nat.le_of_ble_eq_true rfl) (Nat.le_of_ble_eq_true rfl) ?_
  refine W.eq (g2 := F0 m 4 ls []) rfl ?_
  refine lv_aload_n hx hb dX1_init_4 rfl (lv_at hl 0 rfl) ?_
  refine lv_aload_n hx hb dX1_init_5 rfl (lv_at hl 1 rfl) ?_
  refine mputF (C := RX1) (T := TX1) (N := 5) (ci := 2) hx hb hts in_X1 tyX1 tyX1_ok nmX1 hown hw hS (hz) rfl 0 (by decide) fl_9 rfl hin rfl (rfl) (rfl) (Nat.le_of_ble_eq_true rfl) dX1_init_6 (fun H locs hw hS => ?_)
  have hw : mW G (vup V z (.inr (2, [.ref (α (w)), .int (0), .int (0), .int (0), .int (0)]))) α s H := hw
  have hz1 : (vup V z (.inr (2, [.ref (α (w)), .int (0), .int (0), .int (0), .int (0)]))) z = some (.inr (2, [.ref (α (w)), .int (0), .int (0), .int (0), .int (0)])) := vup_s _ _ _
  refine lv_aload_n hx hb dX1_init_9 rfl (lv_at hl 0 rfl) ?_
  refine lv_iload_n hx hb dX1_init_10 rfl (lv_at hl 2 rfl) ?_
  refine mputF (C := RX1) (T := TX1) (N := 5) (ci := 2) hx hb hts in_X1 tyX1 tyX1_ok nmX1 hown hw hS (hz1) rfl 1 (by decide) fl_15 rfl hin rfl (rfl) (rfl) (Nat.le_of_ble_eq_true rfl) dX1_init_11 (fun H locs hw hS => ?_)
  have hw : mW G (vup (vup V z (.inr (2, [.ref (α (w)), .int (0), .int (0), .int (0), .int (0)]))) z (.inr (2, [.ref (α (w)), .int (y), .int (0), .int (0), .int (0)]))) α s H := hw
  have hz2 : (vup (vup V z (.inr (2, [.ref (α (w)), .int (0), .int (0), .int (0), .int (0)]))) z (.inr (2, [.ref (α (w)), .int (y), .int (0), .int (0), .int (0)]))) z = some (.inr (2, [.ref (α (w)), .int (y), .int (0), .int (0), .int (0)])) := vup_s _ _ _
  refine lv_aload_n hx hb dX1_init_14 rfl (lv_at hl 0 rfl) ?_
  refine lv_iload_n hx hb dX1_init_15 rfl (lv_at hl 3 rfl) ?_
  refine mputF (C := RX1) (T := TX1) (N := 5) (ci := 2) hx hb hts in_X1 tyX1 tyX1_ok nmX1 hown hw hS (hz2) rfl 2 (by decide) fl_19 rfl hin rfl (rfl) (rfl) (Nat.le_of_ble_eq_true rfl) dX1_init_16 (fun H locs hw hS => ?_)
  have hw : mW G (vup (vup (vup V z (.inr (2, [.ref (α (w)), .int (0), .int (0), .int (0), .int (0)]))) z (.inr (2, [.ref (α (w)), .int (y), .int (0), .int (0), .int (0)]))) z (.inr (2, [.ref (α (w)), .int (y), .int (x), .int (0), .int (0)]))) α s H := hw
  have hz3 : (vup (vup (vup V z (.inr (2, [.ref (α (w)), .int (0), .int (0), .int (0), .int (0)]))) z (.inr (2, [.ref (α (w)), .int (y), .int (0), .int (0), .int (0)]))) z (.inr (2, [.ref (α (w)), .int (y), .int (x), .int (0), .int (0)]))) z = some (.inr (2, [.ref (α (w)), .int (y), .int (x), .int (0), .int (0)])) := vup_s _ _ _
  refine lv_aload_n hx hb dX1_init_19 rfl (lv_at hl 0 rfl) ?_
  refine lv_iconst (v := (0)) hx hb dX1_init_20 (by decide) ?_
  refine mput (C := RX1) (T := TX1) (N := 5) (ci := 2) hx hb hts in_X1 tyX1 tyX1_ok nmX1 hown hw hS (hz3) rfl 3 (by decide) fl_22 rfl (rfl) (rfl) (Nat.le_of_ble_eq_true rfl) dX1_init_21 (fun H locs hw hS => ?_)
  have hw : mW G (vup (vup (vup (vup V z (.inr (2, [.ref (α (w)), .int (0), .int (0), .int (0), .int (0)]))) z (.inr (2, [.ref (α (w)), .int (y), .int (0), .int (0), .int (0)]))) z (.inr (2, [.ref (α (w)), .int (y), .int (x), .int (0), .int (0)]))) z (.inr (2, [.ref (α (w)), .int (y), .int (x), .int (0), .int (0)]))) α s H := hw
  have hz4 : (vup (vup (vup (vup V z (.inr (2, [.ref (α (w)), .int (0), .int (0), .int (0), .int (0)]))) z (.inr (2, [.ref (α (w)), .int (y), .int (0), .int (0), .int (0)]))) z (.inr (2, [.ref (α (w)), .int (y), .int (x), .int (0), .int (0)]))) z (.inr (2, [.ref (α (w)), .int (y), .int (x), .int (0), .int (0)]))) z = some (.inr (2, [.ref (α (w)), .int (y), .int (x), .int (0), .int (0)])) := vup_s _ _ _
  refine lv_aload_n hx hb dX1_init_24 rfl (lv_at hl 0 rfl) ?_
  refine lv_iconst (v := (0)) hx hb dX1_init_25 (by decide) ?_
  refine mput (C := RX1) (T := TX1) (N := 5) (ci := 2) hx hb hts in_X1 tyX1 tyX1_ok nmX1 hown hw hS (hz4) rfl 4 (by decide) fl_25 rfl (rfl) (rfl) (Nat.le_of_ble_eq_true rfl) dX1_init_26 (fun H locs hw hS => ?_)
  have hw : mW G (vup (vup (vup (vup (vup V z (.inr (2, [.ref (α (w)), .int (0), .int (0), .int (0), .int (0)]))) z (.inr (2, [.ref (α (w)), .int (y), .int (0), .int (0), .int (0)]))) z (.inr (2, [.ref (α (w)), .int (y), .int (x), .int (0), .int (0)]))) z (.inr (2, [.ref (α (w)), .int (y), .int (x), .int (0), .int (0)]))) z (.inr (2, [.ref (α (w)), .int (y), .int (x), .int (0), .int (0)]))) α s H := hw
  have hz5 : (vup (vup (vup (vup (vup V z (.inr (2, [.ref (α (w)), .int (0), .int (0), .int (0), .int (0)]))) z (.inr (2, [.ref (α (w)), .int (y), .int (0), .int (0), .int (0)]))) z (.inr (2, [.ref (α (w)), .int (y), .int (x), .int (0), .int (0)]))) z (.inr (2, [.ref (α (w)), .int (y), .int (x), .int (0), .int (0)]))) z (.inr (2, [.ref (α (w)), .int (y), .int (x), .int (0), .int (0)]))) z = some (.inr (2, [.ref (α (w)), .int (y), .int (x), .int (0), .int (0)])) := vup_s _ _ _
  exact W.vret hx hb hr (fun t ht hW => ⟨⟨((vup (vup (vup (vup (vup V z (.inr (2, [.ref (α (w)), .int (0), .int (0), .int (0), .int (0)]))) z (.inr (2, [.ref (α (w)), .int (y), .int (0), .int (0), .int (0)]))) z (.inr (2, [.ref (α (w)), .int (y), .int (x), .int (0), .int (0)]))) z (.inr (2, [.ref (α (w)), .int (y), .int (x), .int (0), .int (0)]))) z (.inr (2, [.ref (α (w)), .int (y), .int (x), .int (0), .int (0)]))), α), rfl, ⟨by simp only [vup2], rfl⟩, by show mH G (vup (vup (vup (vup (vup V z (.inr (2, [.ref (α (w)), .int (0), .int (0), .int (0), .int (0)]))) z (.inr (2, [.ref (α (w)), .int (y), .int (0), .int (0), .int (0)]))) z (.inr (2, [.ref (α (w)), .int (y), .int (x), .int (0), .int (0)]))) z (.inr (2, [.ref (α (w)), .int (y), .int (x), .int (0), .int (0)]))) z (.inr (2, [.ref (α (w)), .int (y), .int (x), .int (0), .int (0)]))) α t.heap; rw [ht]; exact hw.2.2⟩, hS.F ht⟩) hS.2.2 dX1_init_29

set_option maxHeartbeats 4000000 in
set_option maxRecDepth 100000 in
theorem c_X3_addRule {l : Launch} {G : mG} {V : mV} {α : Nat → Nat} {f : sT} {nr nw ns : Nat} (hC : mC G V α f nr nw ns) (hwf : mwf f nr nw ns) (x1 x2 x3 x4 x5 : Int32) (q1 : inn x1 0 127) (q2 : inn x2 0 95) (q3 : inn x3 (x2 + 1) 96) (q4 : inn x4 1 15) (q5 : inn x5 100 400) (hn9 : nr < 16) : Met l yX3_addRule wsX3_addRule ({ frames := 7, cells := 2, slots := 210, locals := 290 }) (va_Pc [.ref (α (0)), .int (x1), .int (x2), .int (x3), .int (x4), .int (x5)] (fun U => mW G V α U U.heap)) (va_Qi (fun (r9 : Int32) (u : mV × (Nat → Nat)) => nI nr = r9 ∧ mCQ G V α u (u2 (u2 (u2 (u2 (u2 f 1 nr x1) 2 nr x2) 3 nr x3) 4 nr x4) 5 nr x5) (nr + 1) nw ns) (fun u t => mH G u.1 u.2 t.heap) (mfree G)) 2 210 (mfree G) := by
  refine Met.ofW (cc := cX3_addRule) (maxL := 7) (ret := (some .int)) (by decide) rfl ?_
  intro p e s m args below meth c s₁ B hml hv
  obtain ⟨rfl, hw⟩ := hv
  have hw0 := hw
  have hx := B.exec
  have hb := B.bytes
  have hr := B.returns
  have hts := atoms_spec (ws := wsX3_addRule) B.pre
  have hown : s.vm.findClass RX3 = some m.cls := findClass_of_methodNamed B.named
  have hlocks := B.notSynchronized
  have hS : va_S (mfree G) s.heap s.heap [] := va_S.rf
  obtain ⟨k0, k1, k2, hL3, hL4, hL5, cR, cW, cS, fR, fW, fS⟩ := id hC
  obtain ⟨md3, ed3, v3⟩ := hL3.obj
  obtain ⟨md4, ed4, v4⟩ := hL4.obj
  obtain ⟨md5, ed5, v5⟩ := hL5.obj
  obtain ⟨⟨hnr, hnw, hns⟩, -, -, h6w, h7w, -⟩ := id hwf
  have h6r := hwf.2.2.2.2.2.1
  have h123 := hwf.2.2.2.2.2.2
  have hwN : ∀ k, k < ns → wN f k < nw := fun k hk => (hwf.sh k hk).1.1
  have fl_26 := hts (.fieldLink RX3 26 "RosterPay" "rules" "Ljava/util/ArrayList;") (by decide +kernel)
  have in_X3 : ∀ w ∈ u_ws RX3 TX3 5, w ∈ wsX3_addRule := by decide +kernel
  have nk1 := hts (.classLink RX3 56 RX0) (by decide +kernel)
  have nk2 := hts (.instantiable RX0 7) (by decide +kernel)
  have nk3 := hts (.initialized RX0) (by decide +kernel)
  have in_X0 : ∀ w ∈ u_ws RX0 TX0 7, w ∈ wsX3_addRule := by decide +kernel
  have ik2 := hts (.methodLink RX3 58 yX0_init) (by decide +kernel)
  have ik3 := hts (.instanceMethod yX0_init) (by decide +kernel)
  have hl := lv_entry ([.ref (α (0)), .int (x1), .int (x2), .int (x3), .int (x4), .int (x5)]) (n := 7) (Nat.le_of_ble_eq_true rfl)
  rw [lg_entry_eq]
  generalize (lg_sl ([.ref (α (0)), .int (x1), .int (x2), .int (x3), .int (x4), .int (x5)]) ++ List.replicate (7 - (lg_sl ([.ref (α (0)), .int (x1), .int (x2), .int (x3), .int (x4), .int (x5)])).length) Slot.unset).toArray = ls at hl ⊢
  have hl : lv_has ls 7 [(0, .ref (α (0))), (1, .int (x1)), (2, .int (x2)), (3, .int (x3)), (4, .int (x4)), (5, .int (x5))] := hl
  refine lv_iload_n hx hb dX3_addRule_0 rfl (lv_at hl 1 rfl) ?_
  refine lv_iconst (v := (0)) hx hb dX3_addRule_1 (by decide) ?_
  refine lv_bipush (v := (127)) hx hb dX3_addRule_2 (by decide) ?_
  refine mcallSv hw ⟨hx, hb, hml, hown, hts⟩ (c_X3_checkArgument (x1) (0) (127) (q1)) (va_cwS 3 hts gX3_addRule_X3_checkArgument rfl rfl rfl (by decide +kernel) ⟨Nat.le_of_ble_eq_true rfl, Nat.le_of_ble_eq_true rfl⟩) rfl hl.1 rfl (Nat.le_of_ble_eq_true rfl) dX3_addRule_4 ⟨Nat.le_of_ble_eq_true rfl, Nat.le_of_ble_eq_true rfl⟩ ?_
  refine lv_iload_n hx hb dX3_addRule_7 rfl (lv_at hl 2 rfl) ?_
  refine lv_iconst (v := (0)) hx hb dX3_addRule_8 (by decide) ?_
  refine lv_bipush (v := (95)) hx hb dX3_addRule_9 (by decide) ?_
  refine mcallSv hw ⟨hx, hb, hml, hown, hts⟩ (c_X3_checkArgument (x2) (0) (95) (q2)) (va_cwS 3 hts gX3_addRule_X3_checkArgument rfl rfl rfl (by decide +kernel) ⟨Nat.le_of_ble_eq_true rfl, Nat.le_of_ble_eq_true rfl⟩) rfl hl.1 rfl (Nat.le_of_ble_eq_true rfl) dX3_addRule_11 ⟨Nat.le_of_ble_eq_true rfl, Nat.le_of_ble_eq_true rfl⟩ ?_
  refine lv_iload_n hx hb dX3_addRule_14 rfl (lv_at hl 3 rfl) ?_
  refine lv_iload_n hx hb dX3_addRule_15 rfl (lv_at hl 2 rfl) ?_
  refine lv_iconst (v := (1)) hx hb dX3_addRule_16 (by decide) ?_
  refine lv_iadd hx hb dX3_addRule_17 ?_
  refine lv_bipush (v := (96)) hx hb dX3_addRule_18 (by decide) ?_
  refine mcallSv hw ⟨hx, hb, hml, hown, hts⟩ (c_X3_checkArgument (x3) ((x2 + 1)) (96) (q3)) (va_cwS 3 hts gX3_addRule_X3_checkArgument rfl rfl rfl (by decide +kernel) ⟨Nat.le_of_ble_eq_true rfl, Nat.le_of_ble_eq_true rfl⟩) rfl hl.1 rfl (Nat.le_of_ble_eq_true rfl) dX3_addRule_20 ⟨Nat.le_of_ble_eq_true rfl, Nat.le_of_ble_eq_true rfl⟩ ?_
  refine lv_iload hx hb dX3_addRule_23 (lv_at hl 4 rfl) ?_
  refine lv_iconst (v := (1)) hx hb dX3_addRule_25 (by decide) ?_
  refine lv_bipush (v := (15)) hx hb dX3_addRule_26 (by decide) ?_
  refine mcallSv hw ⟨hx, hb, hml, hown, hts⟩ (c_X3_checkArgument (x4) (1) (15) (q4)) (va_cwS 3 hts gX3_addRule_X3_checkArgument rfl rfl rfl (by decide +kernel) ⟨Nat.le_of_ble_eq_true rfl, Nat.le_of_ble_eq_true rfl⟩) rfl hl.1 rfl (Nat.le_of_ble_eq_true rfl) dX3_addRule_28 ⟨Nat.le_of_ble_eq_true rfl, Nat.le_of_ble_eq_true rfl⟩ ?_
  refine lv_iload hx hb dX3_addRule_31 (lv_at hl 5 rfl) ?_
  refine lv_bipush (v := (100)) hx hb dX3_addRule_33 (by decide) ?_
  refine lv_sipush (v := (400)) hx hb dX3_addRule_35 (by decide) ?_
  refine mcallSv hw ⟨hx, hb, hml, hown, hts⟩ (c_X3_checkArgument (x5) (100) (400) (q5)) (va_cwS 3 hts gX3_addRule_X3_checkArgument rfl rfl rfl (by decide +kernel) ⟨Nat.le_of_ble_eq_true rfl, Nat.le_of_ble_eq_true rfl⟩) rfl hl.1 rfl (Nat.le_of_ble_eq_true rfl) dX3_addRule_38 ⟨Nat.le_of_ble_eq_true rfl, Nat.le_of_ble_eq_true rfl⟩ ?_
  refine lv_aload_n hx hb dX3_addRule_41 rfl (lv_at hl 0 rfl) ?_
  refine mget (C := RX3) (T := TX3) (N := 5) (ci := 4) hx hb hts in_X3 hown hw (k0) rfl 2 (by decide) fl_26 rfl dX3_addRule_42 ?_
  refine mcallVi hw (v3) rfl rfl ⟨hx, hb, hml, hown, hts⟩ (c_lsize hL3) (cwV 0 hts gX3_addRule_Jx4a65c_size_8abf5 rfl rfl rfl (by decide +kernel) ⟨Nat.le_of_ble_eq_true rfl, Nat.le_of_ble_eq_true rfl⟩) rfl hl.1 rfl (Nat.le_of_ble_eq_true rfl) dX3_addRule_45 ⟨Nat.le_of_ble_eq_true rfl, Nat.le_of_ble_eq_true rfl⟩ ?_
  refine lv_istore (lv' := [(6, .int (nI (nr))), (0, .ref (α (0))), (1, .int (x1)), (2, .int (x2)), (3, .int (x3)), (4, .int (x4)), (5, .int (x5))]) hx hb dX3_addRule_48 hl (by decide) rfl (fun ls hl => ?_)
  refine lv_iload hx hb dX3_addRule_50 (lv_at hl 0 rfl) ?_
  refine lv_bipush (v := (16)) hx hb dX3_addRule_52 (by decide) ?_
  refine lv_icmp_lt (tgt := 67) hx hb dX3_addRule_54 (by decide) (fun c1 => ?_) (fun z => absurd ((nI_lt hn9 (by omega))) z)
  refine lv_aload_n hx hb dX3_addRule_67 rfl (lv_at hl 1 rfl) ?_
  refine mget (C := RX3) (T := TX3) (N := 5) (ci := 4) hx hb hts in_X3 hown hw (k0) rfl 2 (by decide) fl_26 rfl dX3_addRule_68 ?_
  refine mnew (C := RX0) (T := TX0) (N := 7) (ci := 1) (fs := [.int (0), .int (0), .int (0), .int (0), .int (0), .int (0), .int (0)]) hx hb hts in_X0 tyX0 tyX0_ok hown nk1 nk2 nk3 hw hS rfl (100 + nr) (fR nr (Nat.le_refl _) hn9) (fun j hj => by rcases (show j = 0 ∨ j = 1 ∨ j = 2 ∨ j = 3 ∨ j = 4 ∨ j = 5 ∨ j = 6 by omega) with rfl | rfl | rfl | rfl | rfl | rfl | rfl <;> rfl) (Nat.le_of_ble_eq_true rfl) (Nat.le_of_ble_eq_true rfl) dX3_addRule_71 (fun α1 H h1 hw hS => ?_)
  have el : α 3 = α1 3 := (h1 3 (by omega)).symm
  refine W.eq (g2 := F0 m 74 ls [.ref (α1 (100 + nr)), .ref (α1 (3))]) (by rw [el]) ?_
  have hz0 := vup_s V (100 + nr) (.inr (1, [.int (0), .int (0), .int (0), .int (0), .int (0), .int (0), .int (0)]))
  refine lv_dup hx hb dX3_addRule_74 rfl ?_
  refine lv_iload hx hb dX3_addRule_75 (lv_at hl 0 rfl) ?_
  refine lv_iload_n hx hb dX3_addRule_77 rfl (lv_at hl 2 rfl) ?_
  refine lv_iload_n hx hb dX3_addRule_78 rfl (lv_at hl 3 rfl) ?_
  refine lv_iload_n hx hb dX3_addRule_79 rfl (lv_at hl 4 rfl) ?_
  refine lv_iload hx hb dX3_addRule_80 (lv_at hl 5 rfl) ?_
  refine lv_iload hx hb dX3_addRule_82 (lv_at hl 6 rfl) ?_
  refine mcallIwv (rest := [.ref (α1 (100 + nr)), .ref (α1 (3))]) hw ⟨hx, hb, hml, hown, hts⟩ hS (c_X0_init (nI nr) x1 x2 x3 x4 x5 hz0) (cwI 6 hts gX3_addRule_X0_init rfl rfl rfl nk3 ik2 ik3 rfl (by decide +kernel) ⟨Nat.le_of_ble_eq_true rfl, Nat.le_of_ble_eq_true rfl⟩) rfl hl.1 rfl (Nat.le_of_ble_eq_true rfl) dX3_addRule_84 ⟨Nat.le_of_ble_eq_true rfl, Nat.le_of_ble_eq_true rfl⟩ (fun V2 α2 H locs hp hw hS => ?_)
  obtain ⟨p1, p2⟩ := hp
  dsimp only at p1 p2
  subst p2
  rw [vup2] at p1
  have hLa : mLs G V2 α1 3 nr 100 := hL3.mv (fun j hj => by rw [p1]; exact vup_n _ _ (by omega)) (fun j hj => h1 j (by omega))
  obtain ⟨mda, eda, hva⟩ := hLa.obj
  have hxa : V2 (100 + nr) = some (.inr (1, [.int (nI nr), .int x1, .int x2, .int x3, .int x4, .int x5, .int 1])) := by rw [p1]; exact vup_s _ _ _
  have hela : ∀ k, k < nr → ∃ (ci : Nat) (vs : List Value) (r : vw_C), V2 (100 + k) = some (.inr (ci, vs)) ∧ vwCl[ci]? = some r ∧ (r.1, "java/lang/Object") ∈ MCA := fun k hk => ⟨1, _, _, by rw [p1, vup_n _ _ (by omega)]; exact cR k hk, rfl, by decide⟩
  refine mcallVw hw hva rfl rfl ⟨hx, hb, hml, hown, hts⟩ hS (c_ladd (by decide) hLa (by omega) hela (by omega) hxa rfl (by decide)) (cwV 1 hts gX3_addRule_Jx4a65c_add_9ea2d rfl rfl rfl (by decide +kernel) ⟨Nat.le_of_ble_eq_true rfl, Nat.le_of_ble_eq_true rfl⟩) rfl hl.1 rfl (Nat.le_of_ble_eq_true rfl) dX3_addRule_87 ⟨Nat.le_of_ble_eq_true rfl, Nat.le_of_ble_eq_true rfl⟩ (fun r9 V3 α3 H locs hq hw hS => ?_)
  refine lv_pop hx hb dX3_addRule_90 rfl ?_
  refine lv_iload hx hb dX3_addRule_91 (lv_at hl 0 rfl) ?_
  have hz3 : ∀ j, j < 100 → α3 j = α j := fun j hj => (hq.2.2 j (fun c => by omega)).trans (h1 j (by omega))
  rw [p1] at hq
  refine W.widen (k := 2) (n := 210) (by omega) (by omega) ?_
  exact W.iret (v := nI (nr)) hx hb hr (fun t ht hW => ⟨⟨_, (V3, α3), rfl, ⟨rfl, hC.addR (fun k hk => by have := hwN k hk; omega) (h6r nr (Nat.le_refl _)) hn9 hnw hns h1 hq hz3⟩, by show mH G V3 α3 t.heap; rw [ht]; exact hw.2.2⟩, hS.F ht⟩) hS.2.2 dX3_addRule_93

set_option maxHeartbeats 4000000 in
set_option maxRecDepth 100000 in
theorem c_X3_addWorker {l : Launch} {G : mG} {V : mV} {α : Nat → Nat} {f : sT} {nr nw ns : Nat} (hC : mC G V α f nr nw ns) (hwf : mwf f nr nw ns) (r : Nat) (hr0 : r < 4) (hn9 : nw < 12) : Met l yX3_addWorker wsX3_addWorker ({ frames := 7, cells := 2, slots := 210, locals := 290 }) (va_Pc [.ref (α (0)), .int (nI (r))] (fun U => mW G V α U U.heap)) (va_Qi (fun (r9 : Int32) (u : mV × (Nat → Nat)) => nI nw = r9 ∧ mCQ G V α u (u2 f 8 nw (nI r)) nr (nw + 1) ns) (fun u t => mH G u.1 u.2 t.heap) (mfree G)) 2 210 (mfree G) := by
  refine Met.ofW (cc := cX3_addWorker) (maxL := 3) (ret := (some .int)) (by decide) rfl ?_
  intro p e s m args below meth c s₁ B hml hv
  obtain ⟨rfl, hw⟩ := hv
  have hw0 := hw
  have hx := B.exec
  have hb := B.bytes
  have hr := B.returns
  have hts := atoms_spec (ws := wsX3_addWorker) B.pre
  have hown : s.vm.findClass RX3 = some m.cls := findClass_of_methodNamed B.named
  have hlocks := B.notSynchronized
  have hS : va_S (mfree G) s.heap s.heap [] := va_S.rf
  obtain ⟨k0, k1, k2, hL3, hL4, hL5, cR, cW, cS, fR, fW, fS⟩ := id hC
  obtain ⟨md3, ed3, v3⟩ := hL3.obj
  obtain ⟨md4, ed4, v4⟩ := hL4.obj
  obtain ⟨md5, ed5, v5⟩ := hL5.obj
  obtain ⟨⟨hnr, hnw, hns⟩, -, -, h6w, h7w, -⟩ := id hwf
  have h6r := hwf.2.2.2.2.2.1
  have h123 := hwf.2.2.2.2.2.2
  have hwN : ∀ k, k < ns → wN f k < nw := fun k hk => (hwf.sh k hk).1.1
  have fl_30 := hts (.fieldLink RX3 30 "RosterPay" "workers" "Ljava/util/ArrayList;") (by decide +kernel)
  have in_X3 : ∀ w ∈ u_ws RX3 TX3 5, w ∈ wsX3_addWorker := by decide +kernel
  have nk1 := hts (.classLink RX3 77 RX2) (by decide +kernel)
  have nk2 := hts (.instantiable RX2 1) (by decide +kernel)
  have nk3 := hts (.initialized RX2) (by decide +kernel)
  have in_X2 : ∀ w ∈ u_ws RX2 TX2 1, w ∈ wsX3_addWorker := by decide +kernel
  have ik2 := hts (.methodLink RX3 79 yX2_init) (by decide +kernel)
  have ik3 := hts (.instanceMethod yX2_init) (by decide +kernel)
  have hl := lv_entry ([.ref (α (0)), .int (nI (r))]) (n := 3) (Nat.le_of_ble_eq_true rfl)
  rw [lg_entry_eq]
  generalize (lg_sl ([.ref (α (0)), .int (nI (r))]) ++ List.replicate (3 - (lg_sl ([.ref (α (0)), .int (nI (r))])).length) Slot.unset).toArray = ls at hl ⊢
  have hl : lv_has ls 3 [(0, .ref (α (0))), (1, .int (nI (r)))] := hl
  refine lv_iload_n hx hb dX3_addWorker_0 rfl (lv_at hl 1 rfl) ?_
  refine lv_iconst (v := (0)) hx hb dX3_addWorker_1 (by decide) ?_
  refine lv_iconst (v := (3)) hx hb dX3_addWorker_2 (by decide) ?_
  refine mcallSv hw ⟨hx, hb, hml, hown, hts⟩ (c_X3_checkArgument (nI (r)) (0) (3) (inn_3 hr0)) (va_cwS 3 hts gX3_addWorker_X3_checkArgument rfl rfl rfl (by decide +kernel) ⟨Nat.le_of_ble_eq_true rfl, Nat.le_of_ble_eq_true rfl⟩) rfl hl.1 rfl (Nat.le_of_ble_eq_true rfl) dX3_addWorker_3 ⟨Nat.le_of_ble_eq_true rfl, Nat.le_of_ble_eq_true rfl⟩ ?_
  refine lv_aload_n hx hb dX3_addWorker_6 rfl (lv_at hl 0 rfl) ?_
  refine mget (C := RX3) (T := TX3) (N := 5) (ci := 4) hx hb hts in_X3 hown hw (k0) rfl 3 (by decide) fl_30 rfl dX3_addWorker_7 ?_
  refine mcallVi hw (v4) rfl rfl ⟨hx, hb, hml, hown, hts⟩ (c_lsize hL4) (cwV 0 hts gX3_addWorker_Jx4a65c_size_8abf5 rfl rfl rfl (by decide +kernel) ⟨Nat.le_of_ble_eq_true rfl, Nat.le_of_ble_eq_true rfl⟩) rfl hl.1 rfl (Nat.le_of_ble_eq_true rfl) dX3_addWorker_10 ⟨Nat.le_of_ble_eq_true rfl, Nat.le_of_ble_eq_true rfl⟩ ?_
  refine lv_istore_n (lv' := [(2, .int (nI (nw))), (0, .ref (α (0))), (1, .int (nI (r)))]) hx hb dX3_addWorker_13 rfl hl (by decide) rfl (fun ls hl => ?_)
  refine lv_iload_n hx hb dX3_addWorker_14 rfl (lv_at hl 0 rfl) ?_
  refine lv_bipush (v := (12)) hx hb dX3_addWorker_15 (by decide) ?_
  refine lv_icmp_lt (tgt := 30) hx hb dX3_addWorker_17 (by decide) (fun c1 => ?_) (fun z => absurd ((nI_lt hn9 (by omega))) z)
  refine lv_aload_n hx hb dX3_addWorker_30 rfl (lv_at hl 1 rfl) ?_
  refine mget (C := RX3) (T := TX3) (N := 5) (ci := 4) hx hb hts in_X3 hown hw (k0) rfl 3 (by decide) fl_30 rfl dX3_addWorker_31 ?_
  refine mnew (C := RX2) (T := TX2) (N := 1) (ci := 3) (fs := [.int (0)]) hx hb hts in_X2 tyX2 tyX2_ok hown nk1 nk2 nk3 hw hS rfl (200 + nw) (fW nw (Nat.le_refl _) hn9) (fun j hj => by rcases (show j = 0 by omega) with rfl <;> rfl) (Nat.le_of_ble_eq_true rfl) (Nat.le_of_ble_eq_true rfl) dX3_addWorker_34 (fun α1 H h1 hw hS => ?_)
  have el : α 4 = α1 4 := (h1 4 (by omega)).symm
  refine W.eq (g2 := F0 m 37 ls [.ref (α1 (200 + nw)), .ref (α1 (4))]) (by rw [el]) ?_
  have hz0 := vup_s V (200 + nw) (.inr (3, [.int (0)]))
  refine lv_dup hx hb dX3_addWorker_37 rfl ?_
  refine lv_iload_n hx hb dX3_addWorker_38 rfl (lv_at hl 2 rfl) ?_
  refine mcallIwv (rest := [.ref (α1 (200 + nw)), .ref (α1 (4))]) hw ⟨hx, hb, hml, hown, hts⟩ hS (c_X2_init (nI r) hz0) (cwI 1 hts gX3_addWorker_X2_init rfl rfl rfl nk3 ik2 ik3 rfl (by decide +kernel) ⟨Nat.le_of_ble_eq_true rfl, Nat.le_of_ble_eq_true rfl⟩) rfl hl.1 rfl (Nat.le_of_ble_eq_true rfl) dX3_addWorker_39 ⟨Nat.le_of_ble_eq_true rfl, Nat.le_of_ble_eq_true rfl⟩ (fun V2 α2 H locs hp hw hS => ?_)
  obtain ⟨p1, p2⟩ := hp
  dsimp only at p1 p2
  subst p2
  rw [vup2] at p1
  have hLa : mLs G V2 α1 4 nw 200 := hL4.mv (fun j hj => by rw [p1]; exact vup_n _ _ (by omega)) (fun j hj => h1 j (by omega))
  obtain ⟨mda, eda, hva⟩ := hLa.obj
  have hxa : V2 (200 + nw) = some (.inr (3, [.int (nI r)])) := by rw [p1]; exact vup_s _ _ _
  have hela : ∀ k, k < nw → ∃ (ci : Nat) (vs : List Value) (r : vw_C), V2 (200 + k) = some (.inr (ci, vs)) ∧ vwCl[ci]? = some r ∧ (r.1, "java/lang/Object") ∈ MCA := fun k hk => ⟨3, _, _, by rw [p1, vup_n _ _ (by omega)]; exact cW k hk, rfl, by decide⟩
  refine mcallVw hw hva rfl rfl ⟨hx, hb, hml, hown, hts⟩ hS (c_ladd (by decide) hLa (by omega) hela (by omega) hxa rfl (by decide)) (cwV 1 hts gX3_addWorker_Jx4a65c_add_9ea2d rfl rfl rfl (by decide +kernel) ⟨Nat.le_of_ble_eq_true rfl, Nat.le_of_ble_eq_true rfl⟩) rfl hl.1 rfl (Nat.le_of_ble_eq_true rfl) dX3_addWorker_42 ⟨Nat.le_of_ble_eq_true rfl, Nat.le_of_ble_eq_true rfl⟩ (fun r9 V3 α3 H locs hq hw hS => ?_)
  refine lv_pop hx hb dX3_addWorker_45 rfl ?_
  refine lv_iload_n hx hb dX3_addWorker_46 rfl (lv_at hl 0 rfl) ?_
  have hz3 : ∀ j, j < 100 → α3 j = α j := fun j hj => (hq.2.2 j (fun c => by omega)).trans (h1 j (by omega))
  rw [p1] at hq
  refine W.widen (k := 2) (n := 210) (by omega) (by omega) ?_
  exact W.iret (v := nI (nw)) hx hb hr (fun t ht hW => ⟨⟨_, (V3, α3), rfl, ⟨rfl, hC.addW hwN hnr hn9 hns h1 hq hz3⟩, by show mH G V3 α3 t.heap; rw [ht]; exact hw.2.2⟩, hS.F ht⟩) hS.2.2 dX3_addWorker_47

set_option maxHeartbeats 4000000 in
set_option maxRecDepth 100000 in
theorem c_X3_addShift {l : Launch} {G : mG} {V : mV} {α : Nat → Nat} {f : sT} {nr nw ns : Nat} (hC : mC G V α f nr nw ns) (hwf : mwf f nr nw ns) (k d qq ln : Nat) (hk : k < nw) (hd : d < 363) (hqq : qq < 96) (hln : 1 ≤ ln) (hln2 : ln ≤ 64) (hn9 : ns < 80) (hov : ¬ 0 < s_wb f k (nI (d * 96 + qq)) (nI (d * 96 + qq + ln)) ns) : Met l yX3_addShift wsX3_addShift ({ frames := 7, cells := 2, slots := 210, locals := 290 }) (va_Pc [.ref (α (0)), .int (nI (k)), .int (nI (d)), .int (nI (qq)), .int (nI (ln))] (fun U => mW G V α U U.heap)) (va_Qi (fun (r9 : Int32) (u : mV × (Nat → Nat)) => nI ns = r9 ∧ mCQ G V α u (u2 (u2 (u2 f 9 ns (nI k)) 10 ns (nI (d * 96 + qq))) 11 ns (nI ln)) nr nw (ns + 1)) (fun u t => mH G u.1 u.2 t.heap) (mfree G)) 2 210 (mfree G) := by
  refine Met.ofW (cc := cX3_addShift) (maxL := 8) (ret := (some .int)) (by decide) rfl ?_
  intro p e s m args below meth c s₁ B hml hv
  obtain ⟨rfl, hw⟩ := hv
  have hw0 := hw
  have hx := B.exec
  have hb := B.bytes
  have hr := B.returns
  have hts := atoms_spec (ws := wsX3_addShift) B.pre
  have hown : s.vm.findClass RX3 = some m.cls := findClass_of_methodNamed B.named
  have hlocks := B.notSynchronized
  have hS : va_S (mfree G) s.heap s.heap [] := va_S.rf
  obtain ⟨k0, k1, k2, hL3, hL4, hL5, cR, cW, cS, fR, fW, fS⟩ := id hC
  obtain ⟨md3, ed3, v3⟩ := hL3.obj
  obtain ⟨md4, ed4, v4⟩ := hL4.obj
  obtain ⟨md5, ed5, v5⟩ := hL5.obj
  obtain ⟨⟨hnr, hnw, hns⟩, -, -, h6w, h7w, -⟩ := id hwf
  have h6r := hwf.2.2.2.2.2.1
  have h123 := hwf.2.2.2.2.2.2
  have hwN : ∀ k, k < ns → wN f k < nw := fun k hk => (hwf.sh k hk).1.1
  have fl_33 := hts (.fieldLink RX3 33 "RosterPay" "roster" "Ljava/util/ArrayList;") (by decide +kernel)
  have in_X3 : ∀ w ∈ u_ws RX3 TX3 5, w ∈ wsX3_addShift := by decide +kernel
  have nk1 := hts (.classLink RX3 96 RX1) (by decide +kernel)
  have nk2 := hts (.instantiable RX1 5) (by decide +kernel)
  have nk3 := hts (.initialized RX1) (by decide +kernel)
  have in_X1 : ∀ w ∈ u_ws RX1 TX1 5, w ∈ wsX3_addShift := by decide +kernel
  have ik2 := hts (.methodLink RX3 98 yX1_init) (by decide +kernel)
  have ik3 := hts (.instanceMethod yX1_init) (by decide +kernel)
  have hl := lv_entry ([.ref (α (0)), .int (nI (k)), .int (nI (d)), .int (nI (qq)), .int (nI (ln))]) (n := 8) (Nat.le_of_ble_eq_true rfl)
  rw [lg_entry_eq]
  generalize (lg_sl ([.ref (α (0)), .int (nI (k)), .int (nI (d)), .int (nI (qq)), .int (nI (ln))]) ++ List.replicate (8 - (lg_sl ([.ref (α (0)), .int (nI (k)), .int (nI (d)), .int (nI (qq)), .int (nI (ln))])).length) Slot.unset).toArray = ls at hl ⊢
  have hl : lv_has ls 8 [(0, .ref (α (0))), (1, .int (nI (k))), (2, .int (nI (d))), (3, .int (nI (qq))), (4, .int (nI (ln)))] := hl
  refine lv_aload_n hx hb dX3_addShift_0 rfl (lv_at hl 0 rfl) ?_
  refine lv_iload_n hx hb dX3_addShift_1 rfl (lv_at hl 1 rfl) ?_
  refine mcallVr hw (k0) rfl rfl ⟨hx, hb, hml, hown, hts⟩ (c_X3_findWorker hC (by omega) k (by omega)) (cwV 1 hts gX3_addShift_X3_findWorker rfl rfl rfl (by decide +kernel) ⟨Nat.le_of_ble_eq_true rfl, Nat.le_of_ble_eq_true rfl⟩) rfl hl.1 rfl (Nat.le_of_ble_eq_true rfl) dX3_addShift_2 ⟨Nat.le_of_ble_eq_true rfl, Nat.le_of_ble_eq_true rfl⟩ ?_
  refine lv_astore (lv' := [(5, .ref (α (200 + k))), (0, .ref (α (0))), (1, .int (nI (k))), (2, .int (nI (d))), (3, .int (nI (qq))), (4, .int (nI (ln)))]) hx hb dX3_addShift_5 hl (by decide) rfl (fun ls hl => ?_)
  refine lv_iload_n hx hb dX3_addShift_7 rfl (lv_at hl 3 rfl) ?_
  refine lv_iconst (v := (0)) hx hb dX3_addShift_8 (by decide) ?_
  refine lv_sipush (v := (362)) hx hb dX3_addShift_9 (by decide) ?_
  refine mcallSv hw ⟨hx, hb, hml, hown, hts⟩ (c_X3_checkArgument (nI (d)) (0) (362) (inn_ix (n := 363) hd (by decide))) (va_cwS 3 hts gX3_addShift_X3_checkArgument rfl rfl rfl (by decide +kernel) ⟨Nat.le_of_ble_eq_true rfl, Nat.le_of_ble_eq_true rfl⟩) rfl hl.1 rfl (Nat.le_of_ble_eq_true rfl) dX3_addShift_12 ⟨Nat.le_of_ble_eq_true rfl, Nat.le_of_ble_eq_true rfl⟩ ?_
  refine lv_iload_n hx hb dX3_addShift_15 rfl (lv_at hl 4 rfl) ?_
  refine lv_iconst (v := (0)) hx hb dX3_addShift_16 (by decide) ?_
  refine lv_bipush (v := (95)) hx hb dX3_addShift_17 (by decide) ?_
  refine mcallSv hw ⟨hx, hb, hml, hown, hts⟩ (c_X3_checkArgument (nI (qq)) (0) (95) (inn_ix (n := 96) hqq (by decide))) (va_cwS 3 hts gX3_addShift_X3_checkArgument rfl rfl rfl (by decide +kernel) ⟨Nat.le_of_ble_eq_true rfl, Nat.le_of_ble_eq_true rfl⟩) rfl hl.1 rfl (Nat.le_of_ble_eq_true rfl) dX3_addShift_19 ⟨Nat.le_of_ble_eq_true rfl, Nat.le_of_ble_eq_true rfl⟩ ?_
  refine lv_iload hx hb dX3_addShift_22 (lv_at hl 5 rfl) ?_
  refine lv_iconst (v := (1)) hx hb dX3_addShift_24 (by decide) ?_
  refine lv_bipush (v := (64)) hx hb dX3_addShift_25 (by decide) ?_
  refine mcallSv hw ⟨hx, hb, hml, hown, hts⟩ (c_X3_checkArgument (nI (ln)) (1) (64) (inn_n 1 64 hln hln2 (by decide))) (va_cwS 3 hts gX3_addShift_X3_checkArgument rfl rfl rfl (by decide +kernel) ⟨Nat.le_of_ble_eq_true rfl, Nat.le_of_ble_eq_true rfl⟩) rfl hl.1 rfl (Nat.le_of_ble_eq_true rfl) dX3_addShift_27 ⟨Nat.le_of_ble_eq_true rfl, Nat.le_of_ble_eq_true rfl⟩ ?_
  refine lv_iload_n hx hb dX3_addShift_30 rfl (lv_at hl 3 rfl) ?_
  refine lv_bipush (v := (96)) hx hb dX3_addShift_31 (by decide) ?_
  refine lv_imul hx hb dX3_addShift_33 ?_
  refine lv_iload_n hx hb dX3_addShift_34 rfl (lv_at hl 4 rfl) ?_
  refine lv_iadd hx hb dX3_addShift_35 ?_
  refine lv_topi (fun y1 ey1 => ?_)
  obtain rfl : y1 = (nI (d * 96 + qq)) := ey1.trans (by rw [show nI (d) * (96 : Int32) = nI (d * 96) from pk_mul d 96, nI_add])
  refine lv_istore (lv' := [(6, .int (nI (d * 96 + qq))), (5, .ref (α (200 + k))), (0, .ref (α (0))), (1, .int (nI (k))), (2, .int (nI (d))), (3, .int (nI (qq))), (4, .int (nI (ln)))]) hx hb dX3_addShift_36 hl (by decide) rfl (fun ls hl => ?_)
  refine lv_aload_n hx hb dX3_addShift_38 rfl (lv_at hl 2 rfl) ?_
  refine mget (C := RX3) (T := TX3) (N := 5) (ci := 4) hx hb hts in_X3 hown hw (k0) rfl 4 (by decide) fl_33 rfl dX3_addShift_39 ?_
  refine mcallVi hw (v5) rfl rfl ⟨hx, hb, hml, hown, hts⟩ (c_lsize hL5) (cwV 0 hts gX3_addShift_Jx4a65c_size_8abf5 rfl rfl rfl (by decide +kernel) ⟨Nat.le_of_ble_eq_true rfl, Nat.le_of_ble_eq_true rfl⟩) rfl hl.1 rfl (Nat.le_of_ble_eq_true rfl) dX3_addShift_42 ⟨Nat.le_of_ble_eq_true rfl, Nat.le_of_ble_eq_true rfl⟩ ?_
  refine lv_istore (lv' := [(7, .int (nI (ns))), (6, .int (nI (d * 96 + qq))), (5, .ref (α (200 + k))), (0, .ref (α (0))), (1, .int (nI (k))), (2, .int (nI (d))), (3, .int (nI (qq))), (4, .int (nI (ln)))]) hx hb dX3_addShift_45 hl (by decide) rfl (fun ls hl => ?_)
  refine lv_iload hx hb dX3_addShift_47 (lv_at hl 0 rfl) ?_
  refine lv_bipush (v := (80)) hx hb dX3_addShift_49 (by decide) ?_
  refine lv_icmp_ge (tgt := 70) hx hb dX3_addShift_51 (by decide) (fun z => absurd z ((nI_ge (a := ns) (b := 80) hn9 (by decide)))) (fun c2 => ?_)
  refine lv_aload_n hx hb dX3_addShift_54 rfl (lv_at hl 3 rfl) ?_
  refine lv_aload hx hb dX3_addShift_55 (lv_at hl 2 rfl) ?_
  refine lv_iload hx hb dX3_addShift_57 (lv_at hl 1 rfl) ?_
  refine lv_iload hx hb dX3_addShift_59 (lv_at hl 1 rfl) ?_
  refine lv_iload hx hb dX3_addShift_61 (lv_at hl 7 rfl) ?_
  refine lv_iadd hx hb dX3_addShift_63 ?_
  refine lv_topi (fun y3 ey3 => ?_)
  obtain rfl : y3 = (nI (d * 96 + qq + ln)) := ey3.trans (nI_add (d * 96 + qq) ln)
  refine mcallVi hw (k0) rfl rfl ⟨hx, hb, hml, hown, hts⟩ (c_X3_overlapsAnother hC hwf k hk (nI (d * 96 + qq)) (nI (d * 96 + qq + ln))) (cwV 3 hts gX3_addShift_X3_overlapsAnother rfl rfl rfl (by decide +kernel) ⟨Nat.le_of_ble_eq_true rfl, Nat.le_of_ble_eq_true rfl⟩) rfl hl.1 rfl (Nat.le_of_ble_eq_true rfl) dX3_addShift_64 ⟨Nat.le_of_ble_eq_true rfl, Nat.le_of_ble_eq_true rfl⟩ ?_
  refine mif_eqB (tgt := 80) hx hb dX3_addShift_67 (by decide) (fun c4 => ?_) (fun z => absurd z (hov))
  refine lv_aload_n hx hb dX3_addShift_80 rfl (lv_at hl 3 rfl) ?_
  refine mget (C := RX3) (T := TX3) (N := 5) (ci := 4) hx hb hts in_X3 hown hw (k0) rfl 4 (by decide) fl_33 rfl dX3_addShift_81 ?_
  refine mnew (C := RX1) (T := TX1) (N := 5) (ci := 2) (fs := [.null, .int (0), .int (0), .int (0), .int (0)]) hx hb hts in_X1 tyX1 tyX1_ok hown nk1 nk2 nk3 hw hS rfl (300 + ns) (fS ns (Nat.le_refl _) hn9) (fun j hj => by rcases (show j = 0 ∨ j = 1 ∨ j = 2 ∨ j = 3 ∨ j = 4 by omega) with rfl | rfl | rfl | rfl | rfl <;> rfl) (Nat.le_of_ble_eq_true rfl) (Nat.le_of_ble_eq_true rfl) dX3_addShift_84 (fun α1 H h1 hw hS => ?_)
  have el : α 5 = α1 5 := (h1 5 (by omega)).symm
  refine W.eq (g2 := F0 m 87 ls [.ref (α1 (300 + ns)), .ref (α1 (5))]) (by rw [el]) ?_
  have ek : α (200 + k) = α1 (200 + k) := (h1 _ (by omega)).symm
  rw [ek] at hl
  have hz0 := vup_s V (300 + ns) (.inr (2, [.null, .int (0), .int (0), .int (0), .int (0)]))
  refine lv_dup hx hb dX3_addShift_87 rfl ?_
  refine lv_aload hx hb dX3_addShift_88 (lv_at hl 2 rfl) ?_
  refine lv_iload hx hb dX3_addShift_90 (lv_at hl 1 rfl) ?_
  refine lv_iload hx hb dX3_addShift_92 (lv_at hl 7 rfl) ?_
  refine mcallIwv (rest := [.ref (α1 (300 + ns)), .ref (α1 (5))]) hw ⟨hx, hb, hml, hown, hts⟩ hS (c_X1_init (w := 200 + k) (nI (d * 96 + qq)) (nI ln) hz0) (cwI 3 hts gX3_addShift_X1_init rfl rfl rfl nk3 ik2 ik3 rfl (by decide +kernel) ⟨Nat.le_of_ble_eq_true rfl, Nat.le_of_ble_eq_true rfl⟩) rfl hl.1 rfl (Nat.le_of_ble_eq_true rfl) dX3_addShift_94 ⟨Nat.le_of_ble_eq_true rfl, Nat.le_of_ble_eq_true rfl⟩ (fun V2 α2 H locs hp hw hS => ?_)
  obtain ⟨p1, p2⟩ := hp
  dsimp only at p1 p2
  subst p2
  rw [vup2] at p1
  have hLa : mLs G V2 α1 5 ns 300 := hL5.mv (fun j hj => by rw [p1]; exact vup_n _ _ (by omega)) (fun j hj => h1 j (by omega))
  obtain ⟨mda, eda, hva⟩ := hLa.obj
  have hxa : V2 (300 + ns) = some (.inr (2, [.ref (α1 (200 + k)), .int (nI (d * 96 + qq)), .int (nI ln), .int 0, .int 0])) := by rw [p1]; exact vup_s _ _ _
  have hela : ∀ k, k < ns → ∃ (ci : Nat) (vs : List Value) (r : vw_C), V2 (300 + k) = some (.inr (ci, vs)) ∧ vwCl[ci]? = some r ∧ (r.1, "java/lang/Object") ∈ MCA := fun k hk => ⟨2, _, _, by rw [p1, vup_n _ _ (by omega)]; exact cS k hk, rfl, by decide⟩
  refine mcallVw hw hva rfl rfl ⟨hx, hb, hml, hown, hts⟩ hS (c_ladd (by decide) hLa (by omega) hela (by omega) hxa rfl (by decide)) (cwV 1 hts gX3_addShift_Jx4a65c_add_9ea2d rfl rfl rfl (by decide +kernel) ⟨Nat.le_of_ble_eq_true rfl, Nat.le_of_ble_eq_true rfl⟩) rfl hl.1 rfl (Nat.le_of_ble_eq_true rfl) dX3_addShift_97 ⟨Nat.le_of_ble_eq_true rfl, Nat.le_of_ble_eq_true rfl⟩ (fun r9 V3 α3 H locs hq hw hS => ?_)
  refine lv_pop hx hb dX3_addShift_100 rfl ?_
  refine lv_iload hx hb dX3_addShift_101 (lv_at hl 0 rfl) ?_
  have hz3 : ∀ j, j < 100 → α3 j = α j := fun j hj => (hq.2.2 j (fun c => by omega)).trans (h1 j (by omega))
  rw [p1] at hq
  refine W.widen (k := 2) (n := 210) (by omega) (by omega) ?_
  exact W.iret (v := nI (ns)) hx hb hr (fun t ht hW => ⟨⟨_, (V3, α3), rfl, ⟨rfl, hC.addS hwN (h123 ns (Nat.le_refl _)).1 (h123 ns (Nat.le_refl _)).2 hnr hnw hn9 hk h1 (by rw [← h1 (200 + k) (by omega)]; exact hq) hz3⟩, by show mH G V3 α3 t.heap; rw [ht]; exact hw.2.2⟩, hS.F ht⟩) hS.2.2 dX3_addShift_103
