set_option maxHeartbeats 40000000 in
set_option maxRecDepth 100000 in
theorem a_s5 {p : Program} {l : Launch} {e : Env} {s : State} {m : MethodId} {args : Array Value} {below : List Frame} {meth : Method} {c : Code} {Q : State → Prop} {G : mG} {V : mV} {α : Nat → Nat} (hl0 : l.stackTraces = false) (hx : p.tables.exec = Jvm.exec) (hb : c.code = cL_pays) (hml : c.maxLocals = 1) (hown : s.vm.findClass RL = some m.cls) (hts : ∀ w ∈ wsL_pays, w.before args s = true) (hC : mC G V α aF17 4 2 2)
    (kk : ∀ (V : mV) (α : Nat → Nat) (H : Heap) (locs : List Loc) (ls : Array Slot), mC G V α aF18 4 2 3 → lv_has ls 1 [(0, .ref (α (0)))] → mW G V α s H → va_S (mfree G) s.heap H locs → W p l e ({ frames := 10, cells := 566, slots := 5920, locals := 317 } : Room) s m args below meth c H locs 286 3844 Q (F0 m 701 ls []))
    (H : Heap) (locs : List Loc) (ls : Array Slot) (hl : lv_has ls 1 [(0, .ref (α (0)))]) (hw : mW G V α s H) (hS : va_S (mfree G) s.heap H locs) : W p l e ({ frames := 10, cells := 566, slots := 5920, locals := 317 } : Room) s m args below meth c H locs 284 3634 Q (F0 m 575 ls []) := by
  refine lv_aload_n hx hb dL_pays_575 rfl (lv_at hl 0 rfl) ?_
  refine lv_iconst (v := (1)) hx hb dL_pays_576 (by decide) ?_
  refine lv_iconst (v := (0)) hx hb dL_pays_577 (by decide) ?_
  refine lv_sipush (v := (363)) hx hb dL_pays_578 (by decide) ?_
  refine mcallVi hw (hC.1) rfl rfl ⟨hx, hb, hml, hown, hts⟩ (c_X3_payOf hC wf_aF17 1 (by decide) 0 363 (by decide) (by decide)) (cwV 3 hts gL_pays_X3_payOf rfl rfl rfl (by decide +kernel) ⟨Nat.le_of_ble_eq_true rfl, Nat.le_of_ble_eq_true rfl⟩) rfl hl.1 rfl (Nat.le_of_ble_eq_true rfl) dL_pays_581 ⟨Nat.le_of_ble_eq_true rfl, Nat.le_of_ble_eq_true rfl⟩ ?_
  refine lv_topi (fun y1 ey1 => ?_)
  obtain rfl : y1 = 0 := ey1.trans av57
  refine lv_if_ne (tgt := 607) hx hb dL_pays_584 (by decide) (fun z => absurd ((by decide)) z) (fun c2 => ?_)
  refine lv_aload_n hx hb dL_pays_587 rfl (lv_at hl 0 rfl) ?_
  refine lv_iconst (v := (0)) hx hb dL_pays_588 (by decide) ?_
  refine lv_iconst (v := (0)) hx hb dL_pays_589 (by decide) ?_
  refine mcallVi hw (hC.1) rfl rfl ⟨hx, hb, hml, hown, hts⟩ (c_X3_worked hC wf_aF17 0 0 (by decide) (by decide)) (cwV 2 hts gL_pays_X3_worked rfl rfl rfl (by decide +kernel) ⟨Nat.le_of_ble_eq_true rfl, Nat.le_of_ble_eq_true rfl⟩) rfl hl.1 rfl (Nat.le_of_ble_eq_true rfl) dL_pays_590 ⟨Nat.le_of_ble_eq_true rfl, Nat.le_of_ble_eq_true rfl⟩ ?_
  refine lv_topi (fun y3 ey3 => ?_)
  obtain rfl : y3 = 28 := ey3.trans av58
  refine lv_bipush (v := (28)) hx hb dL_pays_593 (by decide) ?_
  refine lv_icmp_ne (tgt := 607) hx hb dL_pays_595 (by decide) (fun z => absurd ((by decide)) z) (fun c4 => ?_)
  refine lv_aload_n hx hb dL_pays_598 rfl (lv_at hl 0 rfl) ?_
  refine lv_iconst (v := (0)) hx hb dL_pays_599 (by decide) ?_
  refine lv_iconst (v := (1)) hx hb dL_pays_600 (by decide) ?_
  refine mcallVi hw (hC.1) rfl rfl ⟨hx, hb, hml, hown, hts⟩ (c_X3_worked hC wf_aF17 0 1 (by decide) (by decide)) (cwV 2 hts gL_pays_X3_worked rfl rfl rfl (by decide +kernel) ⟨Nat.le_of_ble_eq_true rfl, Nat.le_of_ble_eq_true rfl⟩) rfl hl.1 rfl (Nat.le_of_ble_eq_true rfl) dL_pays_601 ⟨Nat.le_of_ble_eq_true rfl, Nat.le_of_ble_eq_true rfl⟩ ?_
  refine lv_topi (fun y5 ey5 => ?_)
  obtain rfl : y5 = 0 := ey5.trans av59
  refine lv_if_eq (tgt := 609) hx hb dL_pays_604 (by decide) (fun c6 => ?_) (fun z => absurd ((by decide)) z)
  refine lv_aload_n hx hb dL_pays_609 rfl (lv_at hl 0 rfl) ?_
  refine lv_iconst (v := (1)) hx hb dL_pays_610 (by decide) ?_
  refine lv_iconst (v := (1)) hx hb dL_pays_611 (by decide) ?_
  refine lv_bipush (v := (30)) hx hb dL_pays_612 (by decide) ?_
  refine lv_bipush (v := (45)) hx hb dL_pays_614 (by decide) ?_
  refine mcallVw hw hC.1 rfl rfl ⟨hx, hb, hml, hown, hts⟩ hS (c_X3_addShift hC wf_aF17 1 1 30 45 (by decide) (by decide) (by decide) (by decide) (by decide) (by decide) av60) (cwV 4 hts gL_pays_X3_addShift rfl rfl rfl (by decide +kernel) ⟨Nat.le_of_ble_eq_true rfl, Nat.le_of_ble_eq_true rfl⟩) rfl hl.1 rfl (Nat.le_of_ble_eq_true rfl) dL_pays_616 ⟨Nat.le_of_ble_eq_true rfl, Nat.le_of_ble_eq_true rfl⟩ (fun r9 V1 α1 H locs hq hw hS => ?_)
  obtain ⟨er, hC, hO⟩ := hq
  have hC : mC G V1 α1 aF18 4 2 3 := hC
  have e0 : α1 0 = α 0 := (hO 0 (by omega)).2
  have hl : lv_has ls 1 [(0, .ref (α1 (0)))] := by rw [e0]; exact hl
  obtain rfl : r9 = 2 := er.symm.trans (by decide)
  refine lv_iconst (v := (2)) hx hb dL_pays_619 (by decide) ?_
  refine lv_icmp_ne (tgt := 900) hx hb dL_pays_620 (by decide) (fun z => absurd ((by decide)) z) (fun c7 => ?_)
  refine lv_aload_n hx hb dL_pays_623 rfl (lv_at hl 0 rfl) ?_
  refine lv_iconst (v := (2)) hx hb dL_pays_624 (by decide) ?_
  refine lv_bipush (v := (31)) hx hb dL_pays_625 (by decide) ?_
  refine lv_bipush (v := (100)) hx hb dL_pays_627 (by decide) ?_
  refine lv_iconst (v := (-1)) hx hb dL_pays_629 (by decide) ?_
  refine mcallSi hw ⟨hx, hb, hml, hown, hts⟩ (c_L_at hC wf_aF18 2 (by decide) 31 av61 100 (-1) av62 av63) (va_cwS 5 hts gL_pays_L_at rfl rfl rfl (by decide +kernel) ⟨Nat.le_of_ble_eq_true rfl, Nat.le_of_ble_eq_true rfl⟩) rfl hl.1 rfl (Nat.le_of_ble_eq_true rfl) dL_pays_630 ⟨Nat.le_of_ble_eq_true rfl, Nat.le_of_ble_eq_true rfl⟩ ?_
  refine lv_if_eq (tgt := 900) hx hb dL_pays_633 (by decide) (fun z => absurd z ((by decide))) (fun c8 => ?_)
  refine lv_aload_n hx hb dL_pays_636 rfl (lv_at hl 0 rfl) ?_
  refine lv_iconst (v := (2)) hx hb dL_pays_637 (by decide) ?_
  refine lv_bipush (v := (32)) hx hb dL_pays_638 (by decide) ?_
  refine lv_sipush (v := (150)) hx hb dL_pays_640 (by decide) ?_
  refine lv_bipush (v := (-2)) hx hb dL_pays_643 (by decide) ?_
  refine mcallSi hw ⟨hx, hb, hml, hown, hts⟩ (c_L_at hC wf_aF18 2 (by decide) 32 av64 150 (-2) av65 av66) (va_cwS 5 hts gL_pays_L_at rfl rfl rfl (by decide +kernel) ⟨Nat.le_of_ble_eq_true rfl, Nat.le_of_ble_eq_true rfl⟩) rfl hl.1 rfl (Nat.le_of_ble_eq_true rfl) dL_pays_645 ⟨Nat.le_of_ble_eq_true rfl, Nat.le_of_ble_eq_true rfl⟩ ?_
  refine lv_if_eq (tgt := 900) hx hb dL_pays_648 (by decide) (fun z => absurd z ((by decide))) (fun c9 => ?_)
  refine lv_aload_n hx hb dL_pays_651 rfl (lv_at hl 0 rfl) ?_
  refine lv_iconst (v := (2)) hx hb dL_pays_652 (by decide) ?_
  refine lv_bipush (v := (39)) hx hb dL_pays_653 (by decide) ?_
  refine lv_sipush (v := (150)) hx hb dL_pays_655 (by decide) ?_
  refine lv_bipush (v := (-2)) hx hb dL_pays_658 (by decide) ?_
  refine mcallSi hw ⟨hx, hb, hml, hown, hts⟩ (c_L_at hC wf_aF18 2 (by decide) 39 av67 150 (-2) av68 av69) (va_cwS 5 hts gL_pays_L_at rfl rfl rfl (by decide +kernel) ⟨Nat.le_of_ble_eq_true rfl, Nat.le_of_ble_eq_true rfl⟩) rfl hl.1 rfl (Nat.le_of_ble_eq_true rfl) dL_pays_660 ⟨Nat.le_of_ble_eq_true rfl, Nat.le_of_ble_eq_true rfl⟩ ?_
  refine lv_if_eq (tgt := 900) hx hb dL_pays_663 (by decide) (fun z => absurd z ((by decide))) (fun c10 => ?_)
  refine lv_aload_n hx hb dL_pays_666 rfl (lv_at hl 0 rfl) ?_
  refine lv_iconst (v := (2)) hx hb dL_pays_667 (by decide) ?_
  refine lv_bipush (v := (40)) hx hb dL_pays_668 (by decide) ?_
  refine lv_sipush (v := (200)) hx hb dL_pays_670 (by decide) ?_
  refine lv_bipush (v := (-2)) hx hb dL_pays_673 (by decide) ?_
  refine mcallSi hw ⟨hx, hb, hml, hown, hts⟩ (c_L_at hC wf_aF18 2 (by decide) 40 av70 200 (-2) av71 av72) (va_cwS 5 hts gL_pays_L_at rfl rfl rfl (by decide +kernel) ⟨Nat.le_of_ble_eq_true rfl, Nat.le_of_ble_eq_true rfl⟩) rfl hl.1 rfl (Nat.le_of_ble_eq_true rfl) dL_pays_675 ⟨Nat.le_of_ble_eq_true rfl, Nat.le_of_ble_eq_true rfl⟩ ?_
  refine lv_if_eq (tgt := 900) hx hb dL_pays_678 (by decide) (fun z => absurd z ((by decide))) (fun c11 => ?_)
  refine lv_aload_n hx hb dL_pays_681 rfl (lv_at hl 0 rfl) ?_
  refine lv_iconst (v := (2)) hx hb dL_pays_682 (by decide) ?_
  refine mcallVi hw (hC.1) rfl rfl ⟨hx, hb, hml, hown, hts⟩ (c_X3_missed hC wf_aF18 2 (by decide)) (cwV 1 hts gL_pays_X3_missed rfl rfl rfl (by decide +kernel) ⟨Nat.le_of_ble_eq_true rfl, Nat.le_of_ble_eq_true rfl⟩) rfl hl.1 rfl (Nat.le_of_ble_eq_true rfl) dL_pays_683 ⟨Nat.le_of_ble_eq_true rfl, Nat.le_of_ble_eq_true rfl⟩ ?_
  refine lv_topi (fun y12 ey12 => ?_)
  obtain rfl : y12 = 2 := ey12.trans av73
  refine lv_iconst (v := (2)) hx hb dL_pays_686 (by decide) ?_
  refine lv_icmp_ne (tgt := 900) hx hb dL_pays_687 (by decide) (fun z => absurd ((by decide)) z) (fun c13 => ?_)
  refine lv_aload_n hx hb dL_pays_690 rfl (lv_at hl 0 rfl) ?_
  refine lv_iconst (v := (2)) hx hb dL_pays_691 (by decide) ?_
  refine mcallVi hw (hC.1) rfl rfl ⟨hx, hb, hml, hown, hts⟩ (c_X3_pay hC wf_aF18 2 (by decide)) (cwV 1 hts gL_pays_X3_pay rfl rfl rfl (by decide +kernel) ⟨Nat.le_of_ble_eq_true rfl, Nat.le_of_ble_eq_true rfl⟩) rfl hl.1 rfl (Nat.le_of_ble_eq_true rfl) dL_pays_692 ⟨Nat.le_of_ble_eq_true rfl, Nat.le_of_ble_eq_true rfl⟩ ?_
  refine lv_topi (fun y14 ey14 => ?_)
  obtain rfl : y14 = 29000 := ey14.trans av74
  refine lv_sipush (v := (29000)) hx hb dL_pays_695 (by decide) ?_
  refine lv_icmp_ne (tgt := 900) hx hb dL_pays_698 (by decide) (fun z => absurd ((by decide)) z) (fun c15 => ?_)
  exact kk _ _ _ _ _ hC hl hw hS

set_option maxHeartbeats 40000000 in
set_option maxRecDepth 100000 in
theorem a_s6 {p : Program} {l : Launch} {e : Env} {s : State} {m : MethodId} {args : Array Value} {below : List Frame} {meth : Method} {c : Code} {Q : State → Prop} {G : mG} {V : mV} {α : Nat → Nat} (hl0 : l.stackTraces = false) (hx : p.tables.exec = Jvm.exec) (hb : c.code = cL_pays) (hml : c.maxLocals = 1) (hown : s.vm.findClass RL = some m.cls) (hts : ∀ w ∈ wsL_pays, w.before args s = true) (hC : mC G V α aF18 4 2 3)
    (kk : ∀ (V : mV) (α : Nat → Nat) (H : Heap) (locs : List Loc) (ls : Array Slot), mC G V α aF20 6 2 3 → lv_has ls 1 [(0, .ref (α (0)))] → mW G V α s H → va_S (mfree G) s.heap H locs → W p l e ({ frames := 10, cells := 566, slots := 5920, locals := 317 } : Room) s m args below meth c H locs 290 4264 Q (F0 m 836 ls []))
    (H : Heap) (locs : List Loc) (ls : Array Slot) (hl : lv_has ls 1 [(0, .ref (α (0)))]) (hw : mW G V α s H) (hS : va_S (mfree G) s.heap H locs) : W p l e ({ frames := 10, cells := 566, slots := 5920, locals := 317 } : Room) s m args below meth c H locs 286 3844 Q (F0 m 701 ls []) := by
  refine lv_aload_n hx hb dL_pays_701 rfl (lv_at hl 0 rfl) ?_
  refine lv_iconst (v := (2)) hx hb dL_pays_702 (by decide) ?_
  refine lv_bipush (v := (62)) hx hb dL_pays_703 (by decide) ?_
  refine lv_bipush (v := (66)) hx hb dL_pays_705 (by decide) ?_
  refine lv_iconst (v := (4)) hx hb dL_pays_707 (by decide) ?_
  refine lv_sipush (v := (150)) hx hb dL_pays_708 (by decide) ?_
  refine mcallVw hw hC.1 rfl rfl ⟨hx, hb, hml, hown, hts⟩ hS (c_X3_addRule hC wf_aF18 2 62 66 4 150 (by decide) (by decide) (by decide) (by decide) (by decide) (by decide)) (cwV 5 hts gL_pays_X3_addRule rfl rfl rfl (by decide +kernel) ⟨Nat.le_of_ble_eq_true rfl, Nat.le_of_ble_eq_true rfl⟩) rfl hl.1 rfl (Nat.le_of_ble_eq_true rfl) dL_pays_711 ⟨Nat.le_of_ble_eq_true rfl, Nat.le_of_ble_eq_true rfl⟩ (fun r9 V1 α1 H locs hq hw hS => ?_)
  obtain ⟨er, hC, hO⟩ := hq
  have hC : mC G V1 α1 aF19 5 2 3 := hC
  have e0 : α1 0 = α 0 := (hO 0 (by omega)).2
  have hl : lv_has ls 1 [(0, .ref (α1 (0)))] := by rw [e0]; exact hl
  obtain rfl : r9 = 4 := er.symm.trans (by decide)
  refine lv_iconst (v := (4)) hx hb dL_pays_714 (by decide) ?_
  refine lv_icmp_ne (tgt := 900) hx hb dL_pays_715 (by decide) (fun z => absurd ((by decide)) z) (fun c1 => ?_)
  refine lv_aload_n hx hb dL_pays_718 rfl (lv_at hl 0 rfl) ?_
  refine lv_iconst (v := (2)) hx hb dL_pays_719 (by decide) ?_
  refine lv_bipush (v := (31)) hx hb dL_pays_720 (by decide) ?_
  refine lv_bipush (v := (100)) hx hb dL_pays_722 (by decide) ?_
  refine lv_iconst (v := (-1)) hx hb dL_pays_724 (by decide) ?_
  refine mcallSi hw ⟨hx, hb, hml, hown, hts⟩ (c_L_at hC wf_aF19 2 (by decide) 31 av75 100 (-1) av76 av77) (va_cwS 5 hts gL_pays_L_at rfl rfl rfl (by decide +kernel) ⟨Nat.le_of_ble_eq_true rfl, Nat.le_of_ble_eq_true rfl⟩) rfl hl.1 rfl (Nat.le_of_ble_eq_true rfl) dL_pays_725 ⟨Nat.le_of_ble_eq_true rfl, Nat.le_of_ble_eq_true rfl⟩ ?_
  refine lv_if_eq (tgt := 900) hx hb dL_pays_728 (by decide) (fun z => absurd z ((by decide))) (fun c2 => ?_)
  refine lv_aload_n hx hb dL_pays_731 rfl (lv_at hl 0 rfl) ?_
  refine lv_iconst (v := (2)) hx hb dL_pays_732 (by decide) ?_
  refine lv_bipush (v := (32)) hx hb dL_pays_733 (by decide) ?_
  refine lv_sipush (v := (150)) hx hb dL_pays_735 (by decide) ?_
  refine lv_iconst (v := (4)) hx hb dL_pays_738 (by decide) ?_
  refine mcallSi hw ⟨hx, hb, hml, hown, hts⟩ (c_L_at hC wf_aF19 2 (by decide) 32 av78 150 4 av79 av80) (va_cwS 5 hts gL_pays_L_at rfl rfl rfl (by decide +kernel) ⟨Nat.le_of_ble_eq_true rfl, Nat.le_of_ble_eq_true rfl⟩) rfl hl.1 rfl (Nat.le_of_ble_eq_true rfl) dL_pays_739 ⟨Nat.le_of_ble_eq_true rfl, Nat.le_of_ble_eq_true rfl⟩ ?_
  refine lv_if_eq (tgt := 900) hx hb dL_pays_742 (by decide) (fun z => absurd z ((by decide))) (fun c3 => ?_)
  refine lv_aload_n hx hb dL_pays_745 rfl (lv_at hl 0 rfl) ?_
  refine lv_iconst (v := (2)) hx hb dL_pays_746 (by decide) ?_
  refine lv_bipush (v := (35)) hx hb dL_pays_747 (by decide) ?_
  refine lv_sipush (v := (150)) hx hb dL_pays_749 (by decide) ?_
  refine lv_iconst (v := (4)) hx hb dL_pays_752 (by decide) ?_
  refine mcallSi hw ⟨hx, hb, hml, hown, hts⟩ (c_L_at hC wf_aF19 2 (by decide) 35 av81 150 4 av82 av83) (va_cwS 5 hts gL_pays_L_at rfl rfl rfl (by decide +kernel) ⟨Nat.le_of_ble_eq_true rfl, Nat.le_of_ble_eq_true rfl⟩) rfl hl.1 rfl (Nat.le_of_ble_eq_true rfl) dL_pays_753 ⟨Nat.le_of_ble_eq_true rfl, Nat.le_of_ble_eq_true rfl⟩ ?_
  refine lv_if_eq (tgt := 900) hx hb dL_pays_756 (by decide) (fun z => absurd z ((by decide))) (fun c4 => ?_)
  refine lv_aload_n hx hb dL_pays_759 rfl (lv_at hl 0 rfl) ?_
  refine lv_iconst (v := (2)) hx hb dL_pays_760 (by decide) ?_
  refine lv_bipush (v := (36)) hx hb dL_pays_761 (by decide) ?_
  refine lv_sipush (v := (150)) hx hb dL_pays_763 (by decide) ?_
  refine lv_bipush (v := (-2)) hx hb dL_pays_766 (by decide) ?_
  refine mcallSi hw ⟨hx, hb, hml, hown, hts⟩ (c_L_at hC wf_aF19 2 (by decide) 36 av84 150 (-2) av85 av86) (va_cwS 5 hts gL_pays_L_at rfl rfl rfl (by decide +kernel) ⟨Nat.le_of_ble_eq_true rfl, Nat.le_of_ble_eq_true rfl⟩) rfl hl.1 rfl (Nat.le_of_ble_eq_true rfl) dL_pays_768 ⟨Nat.le_of_ble_eq_true rfl, Nat.le_of_ble_eq_true rfl⟩ ?_
  refine lv_if_eq (tgt := 900) hx hb dL_pays_771 (by decide) (fun z => absurd z ((by decide))) (fun c5 => ?_)
  refine lv_aload_n hx hb dL_pays_774 rfl (lv_at hl 0 rfl) ?_
  refine lv_iconst (v := (2)) hx hb dL_pays_775 (by decide) ?_
  refine mcallVi hw (hC.1) rfl rfl ⟨hx, hb, hml, hown, hts⟩ (c_X3_pay hC wf_aF19 2 (by decide)) (cwV 1 hts gL_pays_X3_pay rfl rfl rfl (by decide +kernel) ⟨Nat.le_of_ble_eq_true rfl, Nat.le_of_ble_eq_true rfl⟩) rfl hl.1 rfl (Nat.le_of_ble_eq_true rfl) dL_pays_776 ⟨Nat.le_of_ble_eq_true rfl, Nat.le_of_ble_eq_true rfl⟩ ?_
  refine lv_topi (fun y6 ey6 => ?_)
  obtain rfl : y6 = 29000 := ey6.trans av87
  refine lv_sipush (v := (29000)) hx hb dL_pays_779 (by decide) ?_
  refine lv_icmp_ne (tgt := 900) hx hb dL_pays_782 (by decide) (fun z => absurd ((by decide)) z) (fun c7 => ?_)
  refine lv_aload_n hx hb dL_pays_785 rfl (lv_at hl 0 rfl) ?_
  refine lv_iconst (v := (4)) hx hb dL_pays_786 (by decide) ?_
  refine mcallVi hw (hC.1) rfl rfl ⟨hx, hb, hml, hown, hts⟩ (c_X3_paidBy hC wf_aF19 4 (by decide)) (cwV 1 hts gL_pays_X3_paidBy rfl rfl rfl (by decide +kernel) ⟨Nat.le_of_ble_eq_true rfl, Nat.le_of_ble_eq_true rfl⟩) rfl hl.1 rfl (Nat.le_of_ble_eq_true rfl) dL_pays_787 ⟨Nat.le_of_ble_eq_true rfl, Nat.le_of_ble_eq_true rfl⟩ ?_
  refine lv_topi (fun y8 ey8 => ?_)
  obtain rfl : y8 = 3000 := ey8.trans av88
  refine lv_sipush (v := (3000)) hx hb dL_pays_790 (by decide) ?_
  refine lv_icmp_ne (tgt := 900) hx hb dL_pays_793 (by decide) (fun z => absurd ((by decide)) z) (fun c9 => ?_)
  refine lv_aload_n hx hb dL_pays_796 rfl (lv_at hl 0 rfl) ?_
  refine lv_bipush (v := (127)) hx hb dL_pays_797 (by decide) ?_
  refine lv_bipush (v := (30)) hx hb dL_pays_799 (by decide) ?_
  refine lv_bipush (v := (31)) hx hb dL_pays_801 (by decide) ?_
  refine lv_iconst (v := (4)) hx hb dL_pays_803 (by decide) ?_
  refine lv_bipush (v := (100)) hx hb dL_pays_804 (by decide) ?_
  refine mcallVw hw hC.1 rfl rfl ⟨hx, hb, hml, hown, hts⟩ hS (c_X3_addRule hC wf_aF19 127 30 31 4 100 (by decide) (by decide) (by decide) (by decide) (by decide) (by decide)) (cwV 5 hts gL_pays_X3_addRule rfl rfl rfl (by decide +kernel) ⟨Nat.le_of_ble_eq_true rfl, Nat.le_of_ble_eq_true rfl⟩) rfl hl.1 rfl (Nat.le_of_ble_eq_true rfl) dL_pays_806 ⟨Nat.le_of_ble_eq_true rfl, Nat.le_of_ble_eq_true rfl⟩ (fun r9 V2 α2 H locs hq hw hS => ?_)
  obtain ⟨er, hC, hO⟩ := hq
  have hC : mC G V2 α2 aF20 6 2 3 := hC
  have e0 : α2 0 = α1 0 := (hO 0 (by omega)).2
  have hl : lv_has ls 1 [(0, .ref (α2 (0)))] := by rw [e0]; exact hl
  obtain rfl : r9 = 5 := er.symm.trans (by decide)
  refine lv_iconst (v := (5)) hx hb dL_pays_809 (by decide) ?_
  refine lv_icmp_ne (tgt := 900) hx hb dL_pays_810 (by decide) (fun z => absurd ((by decide)) z) (fun c10 => ?_)
  refine lv_aload_n hx hb dL_pays_813 rfl (lv_at hl 0 rfl) ?_
  refine lv_iconst (v := (2)) hx hb dL_pays_814 (by decide) ?_
  refine lv_iconst (v := (0)) hx hb dL_pays_815 (by decide) ?_
  refine lv_bipush (v := (100)) hx hb dL_pays_816 (by decide) ?_
  refine lv_iconst (v := (5)) hx hb dL_pays_818 (by decide) ?_
  refine mcallSi hw ⟨hx, hb, hml, hown, hts⟩ (c_L_at hC wf_aF20 2 (by decide) 0 av89 100 5 av90 av91) (va_cwS 5 hts gL_pays_L_at rfl rfl rfl (by decide +kernel) ⟨Nat.le_of_ble_eq_true rfl, Nat.le_of_ble_eq_true rfl⟩) rfl hl.1 rfl (Nat.le_of_ble_eq_true rfl) dL_pays_819 ⟨Nat.le_of_ble_eq_true rfl, Nat.le_of_ble_eq_true rfl⟩ ?_
  refine lv_if_eq (tgt := 900) hx hb dL_pays_822 (by decide) (fun z => absurd z ((by decide))) (fun c11 => ?_)
  refine lv_aload_n hx hb dL_pays_825 rfl (lv_at hl 0 rfl) ?_
  refine lv_iconst (v := (5)) hx hb dL_pays_826 (by decide) ?_
  refine mcallVi hw (hC.1) rfl rfl ⟨hx, hb, hml, hown, hts⟩ (c_X3_paidBy hC wf_aF20 5 (by decide)) (cwV 1 hts gL_pays_X3_paidBy rfl rfl rfl (by decide +kernel) ⟨Nat.le_of_ble_eq_true rfl, Nat.le_of_ble_eq_true rfl⟩) rfl hl.1 rfl (Nat.le_of_ble_eq_true rfl) dL_pays_827 ⟨Nat.le_of_ble_eq_true rfl, Nat.le_of_ble_eq_true rfl⟩ ?_
  refine lv_topi (fun y12 ey12 => ?_)
  obtain rfl : y12 = 500 := ey12.trans av92
  refine lv_sipush (v := (500)) hx hb dL_pays_830 (by decide) ?_
  refine lv_icmp_ne (tgt := 900) hx hb dL_pays_833 (by decide) (fun z => absurd ((by decide)) z) (fun c13 => ?_)
  exact kk _ _ _ _ _ hC hl hw hS

set_option maxHeartbeats 40000000 in
set_option maxRecDepth 100000 in
theorem a_s7 {p : Program} {l : Launch} {e : Env} {s : State} {m : MethodId} {args : Array Value} {below : List Frame} {meth : Method} {c : Code} {Q : State → Prop} {G : mG} {V : mV} {α : Nat → Nat} (hl0 : l.stackTraces = false) (hx : p.tables.exec = Jvm.exec) (hb : c.code = cL_pays) (hml : c.maxLocals = 1) (hown : s.vm.findClass RL = some m.cls) (hts : ∀ w ∈ wsL_pays, w.before args s = true) (hC : mC G V α aF20 6 2 3)
    (kk : ∀ (V : mV) (α : Nat → Nat) (H : Heap) (locs : List Loc) (ls : Array Slot), mC G V α aF23 6 2 3 → lv_has ls 1 [(0, .ref (α (0)))] → mW G V α s H → va_S (mfree G) s.heap H locs → W p l e ({ frames := 10, cells := 566, slots := 5920, locals := 317 } : Room) s m args below meth c H locs 429 5098 Q (F0 m 959 ls []))
    (H : Heap) (locs : List Loc) (ls : Array Slot) (hl : lv_has ls 1 [(0, .ref (α (0)))]) (hw : mW G V α s H) (hS : va_S (mfree G) s.heap H locs) : W p l e ({ frames := 10, cells := 566, slots := 5920, locals := 317 } : Room) s m args below meth c H locs 290 4264 Q (F0 m 836 ls []) := by
  refine lv_aload_n hx hb dL_pays_836 rfl (lv_at hl 0 rfl) ?_
  refine lv_iconst (v := (2)) hx hb dL_pays_837 (by decide) ?_
  refine lv_sipush (v := (333)) hx hb dL_pays_838 (by decide) ?_
  refine mcallVw hw hC.1 rfl rfl ⟨hx, hb, hml, hown, hts⟩ hS (c_X3_setBase hC wf_aF20 2 (by decide) 333 (by decide)) (cwV 2 hts gL_pays_X3_setBase rfl rfl rfl (by decide +kernel) ⟨Nat.le_of_ble_eq_true rfl, Nat.le_of_ble_eq_true rfl⟩) rfl hl.1 rfl (Nat.le_of_ble_eq_true rfl) dL_pays_841 ⟨Nat.le_of_ble_eq_true rfl, Nat.le_of_ble_eq_true rfl⟩ (fun r9 V1 α1 H locs hq hw hS => ?_)
  obtain ⟨er, hC, hO⟩ := hq
  have hC : mC G V1 α1 aF21 6 2 3 := hC
  have e0 : α1 0 = α 0 := (hO 0 (by omega)).2
  have hl : lv_has ls 1 [(0, .ref (α1 (0)))] := by rw [e0]; exact hl
  obtain rfl : r9 = 500 := er.symm.trans av93
  refine lv_sipush (v := (500)) hx hb dL_pays_844 (by decide) ?_
  refine lv_icmp_ne (tgt := 900) hx hb dL_pays_847 (by decide) (fun z => absurd ((by decide)) z) (fun c1 => ?_)
  refine lv_aload_n hx hb dL_pays_850 rfl (lv_at hl 0 rfl) ?_
  refine lv_iconst (v := (2)) hx hb dL_pays_851 (by decide) ?_
  refine mcallVi hw (hC.1) rfl rfl ⟨hx, hb, hml, hown, hts⟩ (c_X3_pay hC wf_aF21 2 (by decide)) (cwV 1 hts gL_pays_X3_pay rfl rfl rfl (by decide +kernel) ⟨Nat.le_of_ble_eq_true rfl, Nat.le_of_ble_eq_true rfl⟩) rfl hl.1 rfl (Nat.le_of_ble_eq_true rfl) dL_pays_852 ⟨Nat.le_of_ble_eq_true rfl, Nat.le_of_ble_eq_true rfl⟩ ?_
  refine lv_topi (fun y2 ey2 => ?_)
  obtain rfl : y2 = 19310 := ey2.trans av94
  refine lv_sipush (v := (19310)) hx hb dL_pays_855 (by decide) ?_
  refine lv_icmp_ne (tgt := 900) hx hb dL_pays_858 (by decide) (fun z => absurd ((by decide)) z) (fun c3 => ?_)
  refine lv_aload_n hx hb dL_pays_861 rfl (lv_at hl 0 rfl) ?_
  refine lv_iconst (v := (4)) hx hb dL_pays_862 (by decide) ?_
  refine mcallVi hw (hC.1) rfl rfl ⟨hx, hb, hml, hown, hts⟩ (c_X3_paidBy hC wf_aF21 4 (by decide)) (cwV 1 hts gL_pays_X3_paidBy rfl rfl rfl (by decide +kernel) ⟨Nat.le_of_ble_eq_true rfl, Nat.le_of_ble_eq_true rfl⟩) rfl hl.1 rfl (Nat.le_of_ble_eq_true rfl) dL_pays_863 ⟨Nat.le_of_ble_eq_true rfl, Nat.le_of_ble_eq_true rfl⟩ ?_
  refine lv_topi (fun y4 ey4 => ?_)
  obtain rfl : y4 = 1996 := ey4.trans av95
  refine lv_sipush (v := (1996)) hx hb dL_pays_866 (by decide) ?_
  refine lv_icmp_ne (tgt := 900) hx hb dL_pays_869 (by decide) (fun z => absurd ((by decide)) z) (fun c5 => ?_)
  refine lv_aload_n hx hb dL_pays_872 rfl (lv_at hl 0 rfl) ?_
  refine lv_iconst (v := (2)) hx hb dL_pays_873 (by decide) ?_
  refine lv_iconst (v := (1)) hx hb dL_pays_874 (by decide) ?_
  refine mcallVw hw hC.1 rfl rfl ⟨hx, hb, hml, hown, hts⟩ hS (c_X3_takeBreaks hC wf_aF21 2 (by decide) av96 1 (by decide)) (cwV 2 hts gL_pays_X3_takeBreaks rfl rfl rfl (by decide +kernel) ⟨Nat.le_of_ble_eq_true rfl, Nat.le_of_ble_eq_true rfl⟩) rfl hl.1 rfl (Nat.le_of_ble_eq_true rfl) dL_pays_875 ⟨Nat.le_of_ble_eq_true rfl, Nat.le_of_ble_eq_true rfl⟩ (fun r9 V2 α2 H locs hq hw hS => ?_)
  obtain ⟨er, hC, hO⟩ := hq
  have hC : mC G V2 α2 aF22 6 2 3 := hC
  have e0 : α2 0 = α1 0 := (hO 0 (by omega)).2
  have hl : lv_has ls 1 [(0, .ref (α2 (0)))] := by rw [e0]; exact hl
  obtain rfl : r9 = 0 := er.symm.trans av97
  refine lv_if_ne (tgt := 900) hx hb dL_pays_878 (by decide) (fun z => absurd ((by decide)) z) (fun c6 => ?_)
  refine lv_aload_n hx hb dL_pays_881 rfl (lv_at hl 0 rfl) ?_
  refine lv_iconst (v := (2)) hx hb dL_pays_882 (by decide) ?_
  refine mcallVi hw (hC.1) rfl rfl ⟨hx, hb, hml, hown, hts⟩ (c_X3_missed hC wf_aF22 2 (by decide)) (cwV 1 hts gL_pays_X3_missed rfl rfl rfl (by decide +kernel) ⟨Nat.le_of_ble_eq_true rfl, Nat.le_of_ble_eq_true rfl⟩) rfl hl.1 rfl (Nat.le_of_ble_eq_true rfl) dL_pays_883 ⟨Nat.le_of_ble_eq_true rfl, Nat.le_of_ble_eq_true rfl⟩ ?_
  refine lv_topi (fun y7 ey7 => ?_)
  obtain rfl : y7 = 1 := ey7.trans av98
  refine lv_iconst (v := (1)) hx hb dL_pays_886 (by decide) ?_
  refine lv_icmp_ne (tgt := 900) hx hb dL_pays_887 (by decide) (fun z => absurd ((by decide)) z) (fun c8 => ?_)
  refine lv_aload_n hx hb dL_pays_890 rfl (lv_at hl 0 rfl) ?_
  refine lv_bipush (v := (6)) hx hb dL_pays_891 (by decide) ?_
  refine lv_iconst (v := (2)) hx hb dL_pays_893 (by decide) ?_
  refine mcallSi2 (V2 := V2) (α2 := α2) (rest := []) hw ⟨hx, hb, hml, hown, hts⟩ hS (w_refusesB hl0 hC wf_aF22 (by decide) (by decide)) (va_cwS 3 hts gL_pays_L_refuses rfl rfl rfl (by decide +kernel) ⟨Nat.le_of_ble_eq_true rfl, Nat.le_of_ble_eq_true rfl⟩) rfl hl.1 rfl (Nat.le_of_ble_eq_true rfl) dL_pays_894 ⟨Nat.le_of_ble_eq_true rfl, Nat.le_of_ble_eq_true rfl⟩ (fun H locs hw hS => ?_)
  refine lv_if_ne (tgt := 902) hx hb dL_pays_897 (by decide) (fun c9 => ?_) (fun z => absurd z ((by decide)))
  refine lv_aload_n hx hb dL_pays_902 rfl (lv_at hl 0 rfl) ?_
  refine lv_iconst (v := (1)) hx hb dL_pays_903 (by decide) ?_
  refine mcallVw hw hC.1 rfl rfl ⟨hx, hb, hml, hown, hts⟩ hS (c_X3_cancel hC wf_aF22 1 (by decide) av99) (cwV 1 hts gL_pays_X3_cancel rfl rfl rfl (by decide +kernel) ⟨Nat.le_of_ble_eq_true rfl, Nat.le_of_ble_eq_true rfl⟩) rfl hl.1 rfl (Nat.le_of_ble_eq_true rfl) dL_pays_904 ⟨Nat.le_of_ble_eq_true rfl, Nat.le_of_ble_eq_true rfl⟩ (fun r9 V3 α3 H locs hq hw hS => ?_)
  obtain ⟨er, hC, hO⟩ := hq
  have hC : mC G V3 α3 aF23 6 2 3 := hC
  have e0 : α3 0 = α2 0 := (hO 0 (by omega)).2
  have hl : lv_has ls 1 [(0, .ref (α3 (0)))] := by rw [e0]; exact hl
  obtain rfl : r9 = 14250 := er.symm.trans av100
  refine lv_sipush (v := (14250)) hx hb dL_pays_907 (by decide) ?_
  refine lv_icmp_ne (tgt := 1054) hx hb dL_pays_910 (by decide) (fun z => absurd ((by decide)) z) (fun c10 => ?_)
  refine lv_aload_n hx hb dL_pays_913 rfl (lv_at hl 0 rfl) ?_
  refine lv_bipush (v := (6)) hx hb dL_pays_914 (by decide) ?_
  refine lv_iconst (v := (1)) hx hb dL_pays_916 (by decide) ?_
  refine lv_iconst (v := (0)) hx hb dL_pays_917 (by decide) ?_
  refine lv_iconst (v := (0)) hx hb dL_pays_918 (by decide) ?_
  refine lv_iconst (v := (0)) hx hb dL_pays_919 (by decide) ?_
  refine mcallX (rest := []) hw ⟨hx, hb, hml, hown, hts⟩ hS (x_X3_cancel_2 hl0 hC wf_aF23 1 (by decide) av101 0 0 0) (vx_cwSW 6 hts gL_pays_L_act rfl rfl rfl (by decide +kernel) ⟨Nat.le_of_ble_eq_true rfl, Nat.le_of_ble_eq_true rfl⟩) rfl hl.1 rfl (Nat.le_of_ble_eq_true rfl) dL_pays_920 ⟨Nat.le_of_ble_eq_true rfl, Nat.le_of_ble_eq_true rfl⟩ (fun H locs hw hS => ?_)
  refine lv_bipush (v := (-73)) hx hb dL_pays_923 (by decide) ?_
  refine lv_icmp_ne (tgt := 1054) hx hb dL_pays_925 (by decide) (fun z => absurd ((by decide)) z) (fun c11 => ?_)
  refine lv_aload_n hx hb dL_pays_928 rfl (lv_at hl 0 rfl) ?_
  refine lv_bipush (v := (7)) hx hb dL_pays_929 (by decide) ?_
  refine lv_iconst (v := (1)) hx hb dL_pays_931 (by decide) ?_
  refine lv_iconst (v := (1)) hx hb dL_pays_932 (by decide) ?_
  refine lv_iconst (v := (0)) hx hb dL_pays_933 (by decide) ?_
  refine lv_iconst (v := (0)) hx hb dL_pays_934 (by decide) ?_
  refine mcallX (rest := []) hw ⟨hx, hb, hml, hown, hts⟩ hS (x_X3_takeBreaks_3 hl0 hC wf_aF23 1 (by decide) 1 (by decide) av101 0 0) (vx_cwSW 6 hts gL_pays_L_act rfl rfl rfl (by decide +kernel) ⟨Nat.le_of_ble_eq_true rfl, Nat.le_of_ble_eq_true rfl⟩) rfl hl.1 rfl (Nat.le_of_ble_eq_true rfl) dL_pays_935 ⟨Nat.le_of_ble_eq_true rfl, Nat.le_of_ble_eq_true rfl⟩ (fun H locs hw hS => ?_)
  refine lv_bipush (v := (-73)) hx hb dL_pays_938 (by decide) ?_
  refine lv_icmp_ne (tgt := 1054) hx hb dL_pays_940 (by decide) (fun z => absurd ((by decide)) z) (fun c12 => ?_)
  refine lv_aload_n hx hb dL_pays_943 rfl (lv_at hl 0 rfl) ?_
  refine lv_bipush (v := (7)) hx hb dL_pays_944 (by decide) ?_
  refine lv_iconst (v := (1)) hx hb dL_pays_946 (by decide) ?_
  refine lv_bipush (v := (6)) hx hb dL_pays_947 (by decide) ?_
  refine lv_iconst (v := (0)) hx hb dL_pays_949 (by decide) ?_
  refine lv_iconst (v := (0)) hx hb dL_pays_950 (by decide) ?_
  refine mcallX (rest := []) hw ⟨hx, hb, hml, hown, hts⟩ hS (x_X3_takeBreaks_2 hl0 hC wf_aF23 1 (by decide) 6 (by decide) 0 0) (vx_cwSW 6 hts gL_pays_L_act rfl rfl rfl (by decide +kernel) ⟨Nat.le_of_ble_eq_true rfl, Nat.le_of_ble_eq_true rfl⟩) rfl hl.1 rfl (Nat.le_of_ble_eq_true rfl) dL_pays_951 ⟨Nat.le_of_ble_eq_true rfl, Nat.le_of_ble_eq_true rfl⟩ (fun H locs hw hS => ?_)
  refine lv_bipush (v := (-72)) hx hb dL_pays_954 (by decide) ?_
  refine lv_icmp_ne (tgt := 1054) hx hb dL_pays_956 (by decide) (fun z => absurd ((by decide)) z) (fun c13 => ?_)
  exact kk _ _ _ _ _ hC hl hw hS

set_option maxHeartbeats 40000000 in
set_option maxRecDepth 100000 in
theorem a_s8 {p : Program} {l : Launch} {e : Env} {s : State} {m : MethodId} {args : Array Value} {below : List Frame} {meth : Method} {c : Code} {Q : State → Prop} {G : mG} {V : mV} {α : Nat → Nat} (hl0 : l.stackTraces = false) (hx : p.tables.exec = Jvm.exec) (hb : c.code = cL_pays) (hml : c.maxLocals = 1) (hown : s.vm.findClass RL = some m.cls) (hts : ∀ w ∈ wsL_pays, w.before args s = true) (hC : mC G V α aF23 6 2 3)
    (kk : ∀ (V : mV) (α : Nat → Nat) (H : Heap) (locs : List Loc) (ls : Array Slot), mC G V α aF23 6 2 3 → lv_has ls 1 [(0, .ref (α (0)))] → mW G V α s H → va_S (mfree G) s.heap H locs → W p l e ({ frames := 10, cells := 566, slots := 5920, locals := 317 } : Room) s m args below meth c H locs 566 5920 Q (F0 m 1050 ls []))
    (H : Heap) (locs : List Loc) (ls : Array Slot) (hl : lv_has ls 1 [(0, .ref (α (0)))]) (hw : mW G V α s H) (hS : va_S (mfree G) s.heap H locs) : W p l e ({ frames := 10, cells := 566, slots := 5920, locals := 317 } : Room) s m args below meth c H locs 429 5098 Q (F0 m 959 ls []) := by
  refine lv_aload_n hx hb dL_pays_959 rfl (lv_at hl 0 rfl) ?_
  refine lv_iconst (v := (1)) hx hb dL_pays_960 (by decide) ?_
  refine mcallVi hw (hC.1) rfl rfl ⟨hx, hb, hml, hown, hts⟩ (c_X3_paidQuarters hC wf_aF23 1 (by decide)) (cwV 1 hts gL_pays_X3_paidQuarters rfl rfl rfl (by decide +kernel) ⟨Nat.le_of_ble_eq_true rfl, Nat.le_of_ble_eq_true rfl⟩) rfl hl.1 rfl (Nat.le_of_ble_eq_true rfl) dL_pays_961 ⟨Nat.le_of_ble_eq_true rfl, Nat.le_of_ble_eq_true rfl⟩ ?_
  refine lv_topi (fun y1 ey1 => ?_)
  obtain rfl : y1 = 0 := ey1.trans av102
  refine lv_if_ne (tgt := 1054) hx hb dL_pays_964 (by decide) (fun z => absurd ((by decide)) z) (fun c2 => ?_)
  refine lv_aload_n hx hb dL_pays_967 rfl (lv_at hl 0 rfl) ?_
  refine lv_bipush (v := (9)) hx hb dL_pays_968 (by decide) ?_
  refine lv_iconst (v := (1)) hx hb dL_pays_970 (by decide) ?_
  refine lv_iconst (v := (0)) hx hb dL_pays_971 (by decide) ?_
  refine lv_iconst (v := (0)) hx hb dL_pays_972 (by decide) ?_
  refine lv_iconst (v := (0)) hx hb dL_pays_973 (by decide) ?_
  refine mcallX (rest := []) hw ⟨hx, hb, hml, hown, hts⟩ hS (x_X3_percentAt_2 hl0 hC wf_aF23 1 (by decide) 0 av103 0 0) (vx_cwSW 6 hts gL_pays_L_act rfl rfl rfl (by decide +kernel) ⟨Nat.le_of_ble_eq_true rfl, Nat.le_of_ble_eq_true rfl⟩) rfl hl.1 rfl (Nat.le_of_ble_eq_true rfl) dL_pays_974 ⟨Nat.le_of_ble_eq_true rfl, Nat.le_of_ble_eq_true rfl⟩ (fun H locs hw hS => ?_)
  refine lv_bipush (v := (-71)) hx hb dL_pays_977 (by decide) ?_
  refine lv_icmp_ne (tgt := 1054) hx hb dL_pays_979 (by decide) (fun z => absurd ((by decide)) z) (fun c3 => ?_)
  refine lv_aload_n hx hb dL_pays_982 rfl (lv_at hl 0 rfl) ?_
  refine lv_iconst (v := (1)) hx hb dL_pays_983 (by decide) ?_
  refine mcallVi hw (hC.1) rfl rfl ⟨hx, hb, hml, hown, hts⟩ (c_X3_missed hC wf_aF23 1 (by decide)) (cwV 1 hts gL_pays_X3_missed rfl rfl rfl (by decide +kernel) ⟨Nat.le_of_ble_eq_true rfl, Nat.le_of_ble_eq_true rfl⟩) rfl hl.1 rfl (Nat.le_of_ble_eq_true rfl) dL_pays_984 ⟨Nat.le_of_ble_eq_true rfl, Nat.le_of_ble_eq_true rfl⟩ ?_
  refine lv_topi (fun y4 ey4 => ?_)
  obtain rfl : y4 = 0 := ey4.trans av104
  refine lv_if_ne (tgt := 1054) hx hb dL_pays_987 (by decide) (fun z => absurd ((by decide)) z) (fun c5 => ?_)
  refine lv_aload_n hx hb dL_pays_990 rfl (lv_at hl 0 rfl) ?_
  refine lv_iconst (v := (1)) hx hb dL_pays_991 (by decide) ?_
  refine mcallVi hw (hC.1) rfl rfl ⟨hx, hb, hml, hown, hts⟩ (c_X3_pay hC wf_aF23 1 (by decide)) (cwV 1 hts gL_pays_X3_pay rfl rfl rfl (by decide +kernel) ⟨Nat.le_of_ble_eq_true rfl, Nat.le_of_ble_eq_true rfl⟩) rfl hl.1 rfl (Nat.le_of_ble_eq_true rfl) dL_pays_992 ⟨Nat.le_of_ble_eq_true rfl, Nat.le_of_ble_eq_true rfl⟩ ?_
  refine lv_topi (fun y6 ey6 => ?_)
  obtain rfl : y6 = 0 := ey6.trans av105
  refine lv_if_ne (tgt := 1054) hx hb dL_pays_995 (by decide) (fun z => absurd ((by decide)) z) (fun c7 => ?_)
  refine lv_aload_n hx hb dL_pays_998 rfl (lv_at hl 0 rfl) ?_
  refine lv_iconst (v := (0)) hx hb dL_pays_999 (by decide) ?_
  refine lv_iconst (v := (0)) hx hb dL_pays_1000 (by decide) ?_
  refine mcallVi hw (hC.1) rfl rfl ⟨hx, hb, hml, hown, hts⟩ (c_X3_worked hC wf_aF23 0 0 (by decide) (by decide)) (cwV 2 hts gL_pays_X3_worked rfl rfl rfl (by decide +kernel) ⟨Nat.le_of_ble_eq_true rfl, Nat.le_of_ble_eq_true rfl⟩) rfl hl.1 rfl (Nat.le_of_ble_eq_true rfl) dL_pays_1001 ⟨Nat.le_of_ble_eq_true rfl, Nat.le_of_ble_eq_true rfl⟩ ?_
  refine lv_topi (fun y8 ey8 => ?_)
  obtain rfl : y8 = 8 := ey8.trans av106
  refine lv_bipush (v := (8)) hx hb dL_pays_1004 (by decide) ?_
  refine lv_icmp_ne (tgt := 1054) hx hb dL_pays_1006 (by decide) (fun z => absurd ((by decide)) z) (fun c9 => ?_)
  refine lv_aload_n hx hb dL_pays_1009 rfl (lv_at hl 0 rfl) ?_
  refine lv_iconst (v := (0)) hx hb dL_pays_1010 (by decide) ?_
  refine mcallVi hw (hC.1) rfl rfl ⟨hx, hb, hml, hown, hts⟩ (c_X3_paidBy hC wf_aF23 0 (by decide)) (cwV 1 hts gL_pays_X3_paidBy rfl rfl rfl (by decide +kernel) ⟨Nat.le_of_ble_eq_true rfl, Nat.le_of_ble_eq_true rfl⟩) rfl hl.1 rfl (Nat.le_of_ble_eq_true rfl) dL_pays_1011 ⟨Nat.le_of_ble_eq_true rfl, Nat.le_of_ble_eq_true rfl⟩ ?_
  refine lv_topi (fun y10 ey10 => ?_)
  obtain rfl : y10 = 0 := ey10.trans av107
  refine lv_if_ne (tgt := 1054) hx hb dL_pays_1014 (by decide) (fun z => absurd ((by decide)) z) (fun c11 => ?_)
  refine lv_aload_n hx hb dL_pays_1017 rfl (lv_at hl 0 rfl) ?_
  refine lv_iconst (v := (0)) hx hb dL_pays_1018 (by decide) ?_
  refine lv_iconst (v := (0)) hx hb dL_pays_1019 (by decide) ?_
  refine lv_sipush (v := (363)) hx hb dL_pays_1020 (by decide) ?_
  refine mcallVi hw (hC.1) rfl rfl ⟨hx, hb, hml, hown, hts⟩ (c_X3_payOf hC wf_aF23 0 (by decide) 0 363 (by decide) (by decide)) (cwV 3 hts gL_pays_X3_payOf rfl rfl rfl (by decide +kernel) ⟨Nat.le_of_ble_eq_true rfl, Nat.le_of_ble_eq_true rfl⟩) rfl hl.1 rfl (Nat.le_of_ble_eq_true rfl) dL_pays_1023 ⟨Nat.le_of_ble_eq_true rfl, Nat.le_of_ble_eq_true rfl⟩ ?_
  refine lv_topi (fun y12 ey12 => ?_)
  obtain rfl : y12 = 7000 := ey12.trans av108
  refine lv_sipush (v := (7000)) hx hb dL_pays_1026 (by decide) ?_
  refine lv_icmp_ne (tgt := 1054) hx hb dL_pays_1029 (by decide) (fun z => absurd ((by decide)) z) (fun c13 => ?_)
  refine lv_aload_n hx hb dL_pays_1032 rfl (lv_at hl 0 rfl) ?_
  refine mcallVi hw (hC.1) rfl rfl ⟨hx, hb, hml, hown, hts⟩ (c_X3_shifts hC wf_aF23) (cwV 0 hts gL_pays_X3_shifts rfl rfl rfl (by decide +kernel) ⟨Nat.le_of_ble_eq_true rfl, Nat.le_of_ble_eq_true rfl⟩) rfl hl.1 rfl (Nat.le_of_ble_eq_true rfl) dL_pays_1033 ⟨Nat.le_of_ble_eq_true rfl, Nat.le_of_ble_eq_true rfl⟩ ?_
  refine lv_topi (fun y14 ey14 => ?_)
  obtain rfl : y14 = 3 := ey14.trans av109
  refine lv_iconst (v := (3)) hx hb dL_pays_1036 (by decide) ?_
  refine lv_icmp_ne (tgt := 1054) hx hb dL_pays_1037 (by decide) (fun z => absurd ((by decide)) z) (fun c15 => ?_)
  refine lv_aload_n hx hb dL_pays_1040 rfl (lv_at hl 0 rfl) ?_
  refine lv_bipush (v := (6)) hx hb dL_pays_1041 (by decide) ?_
  refine lv_iconst (v := (2)) hx hb dL_pays_1043 (by decide) ?_
  refine mcallSi2 (V2 := V) (α2 := α) (rest := []) hw ⟨hx, hb, hml, hown, hts⟩ hS (w_refusesB hl0 hC wf_aF23 (by decide) (by decide)) (va_cwS 3 hts gL_pays_L_refuses rfl rfl rfl (by decide +kernel) ⟨Nat.le_of_ble_eq_true rfl, Nat.le_of_ble_eq_true rfl⟩) rfl hl.1 rfl (Nat.le_of_ble_eq_true rfl) dL_pays_1044 ⟨Nat.le_of_ble_eq_true rfl, Nat.le_of_ble_eq_true rfl⟩ (fun H locs hw hS => ?_)
  refine lv_if_eq (tgt := 1054) hx hb dL_pays_1047 (by decide) (fun z => absurd z ((by decide))) (fun c16 => ?_)
  exact kk _ _ _ _ _ hC hl hw hS
