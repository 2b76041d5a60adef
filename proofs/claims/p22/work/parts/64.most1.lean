set_option maxHeartbeats 40000000 in
set_option maxRecDepth 100000 in
theorem m_s0 {p : Program} {l : Launch} {e : Env} {s : State} {m : MethodId} {args : Array Value} {below : List Frame} {meth : Method} {c : Code} {Q : State → Prop} {G : mG} {V : mV} {α : Nat → Nat} (hl0 : l.stackTraces = false) (hx : p.tables.exec = Jvm.exec) (hb : c.code = cL_most) (hml : c.maxLocals = 2) (hown : s.vm.findClass RL = some m.cls) (hts : ∀ w ∈ wsL_most, w.before args s = true) (hC : mC G V α hFe 0 1 76)
    (kk : ∀ (V : mV) (α : Nat → Nat) (H : Heap) (locs : List Loc) (ls : Array Slot), mC G V α mF9 0 6 80 → lv_has ls 2 [(1, .int (5)), (0, .ref (α (0)))] → mW G V α s H → va_S (mfree G) s.heap H locs → W p l e ({ frames := 10, cells := 201, slots := 7344, locals := 343 } : Room) s m args below meth c H locs 19 1896 Q (F0 m 77 ls []))
    (H : Heap) (locs : List Loc) (ls : Array Slot) (hl : lv_has ls 2 [(0, .ref (α (0)))]) (hw : mW G V α s H) (hS : va_S (mfree G) s.heap H locs) : W p l e ({ frames := 10, cells := 201, slots := 7344, locals := 343 } : Room) s m args below meth c H locs 0 0 Q (F0 m 0 ls []) := by
  refine lv_bipush (v := (76)) hx hb dL_most_0 (by decide) ?_
  refine lv_istore_n (lv' := [(1, .int (76)), (0, .ref (α (0)))]) hx hb dL_most_2 rfl hl (by decide) rfl (fun ls hl => ?_)
  refine lv_iload_n hx hb dL_most_3 rfl (lv_at hl 0 rfl) ?_
  refine lv_bipush (v := (81)) hx hb dL_most_4 (by decide) ?_
  refine lv_icmp_ge (tgt := 41) hx hb dL_most_6 (by decide) (fun z => absurd z ((by decide))) (fun c1 => ?_)
  refine lv_aload_n hx hb dL_most_9 rfl (lv_at hl 1 rfl) ?_
  refine lv_iconst (v := (5)) hx hb dL_most_10 (by decide) ?_
  refine lv_iconst (v := (0)) hx hb dL_most_11 (by decide) ?_
  refine lv_iconst (v := (1)) hx hb dL_most_12 (by decide) ?_
  refine lv_iload_n hx hb dL_most_13 rfl (lv_at hl 0 rfl) ?_
  refine lv_iconst (v := (1)) hx hb dL_most_14 (by decide) ?_
  refine mcallSWi hw ⟨hx, hb, hml, hown, hts⟩ hS (w_X3_addShift hC wf_hFe 0 1 76 1 (by decide) (by decide) (by decide) (by decide) (by decide) (by decide) mv0 ) (vx_cwSW 6 hts gL_most_L_act rfl rfl rfl (by decide +kernel) ⟨Nat.le_of_ble_eq_true rfl, Nat.le_of_ble_eq_true rfl⟩) rfl hl.1 rfl (Nat.le_of_ble_eq_true rfl) dL_most_15 ⟨Nat.le_of_ble_eq_true rfl, Nat.le_of_ble_eq_true rfl⟩ (fun r9 V1 α1 H locs hq hw hS => ?_)
  obtain ⟨er, hC, hO⟩ := hq
  have hC : mC G V1 α1 mF1 0 1 77 := hC
  have e0 : α1 0 = α 0 := (hO 0 (by omega)).2
  have hl : lv_has ls 2 [(1, .int (76)), (0, .ref (α1 (0)))] := by rw [e0]; exact hl
  obtain rfl : r9 = 76 := er.symm.trans (by decide)
  refine lv_iload_n hx hb dL_most_18 rfl (lv_at hl 0 rfl) ?_
  refine lv_bipush (v := (80)) hx hb dL_most_19 (by decide) ?_
  refine lv_icmp_ge (tgt := 28) hx hb dL_most_21 (by decide) (fun z => absurd z ((by decide))) (fun c2 => ?_)
  refine lv_iload_n hx hb dL_most_24 rfl (lv_at hl 0 rfl) ?_
  refine lv_goto (tgt := 30) hx hb dL_most_25 (by decide) ?_
  refine lv_icmp_eq (tgt := 35) hx hb dL_most_30 (by decide) (fun c3 => ?_) (fun z => absurd ((by decide)) z)
  refine lv_iinc (v := 77) (lv' := [(1, .int (77)), (0, .ref (α1 (0)))]) hx hb dL_most_35 hl (k := 0) rfl (by decide) (by decide) rfl (fun ls hl => ?_)
  refine lv_goto (tgt := 3) hx hb dL_most_38 (by decide) ?_
  refine lv_iload_n hx hb dL_most_3 rfl (lv_at hl 0 rfl) ?_
  refine lv_bipush (v := (81)) hx hb dL_most_4 (by decide) ?_
  refine lv_icmp_ge (tgt := 41) hx hb dL_most_6 (by decide) (fun z => absurd z ((by decide))) (fun c4 => ?_)
  refine lv_aload_n hx hb dL_most_9 rfl (lv_at hl 1 rfl) ?_
  refine lv_iconst (v := (5)) hx hb dL_most_10 (by decide) ?_
  refine lv_iconst (v := (0)) hx hb dL_most_11 (by decide) ?_
  refine lv_iconst (v := (1)) hx hb dL_most_12 (by decide) ?_
  refine lv_iload_n hx hb dL_most_13 rfl (lv_at hl 0 rfl) ?_
  refine lv_iconst (v := (1)) hx hb dL_most_14 (by decide) ?_
  refine mcallSWi hw ⟨hx, hb, hml, hown, hts⟩ hS (w_X3_addShift hC wf_mF1 0 1 77 1 (by decide) (by decide) (by decide) (by decide) (by decide) (by decide) mv1 ) (vx_cwSW 6 hts gL_most_L_act rfl rfl rfl (by decide +kernel) ⟨Nat.le_of_ble_eq_true rfl, Nat.le_of_ble_eq_true rfl⟩) rfl hl.1 rfl (Nat.le_of_ble_eq_true rfl) dL_most_15 ⟨Nat.le_of_ble_eq_true rfl, Nat.le_of_ble_eq_true rfl⟩ (fun r9 V2 α2 H locs hq hw hS => ?_)
  obtain ⟨er, hC, hO⟩ := hq
  have hC : mC G V2 α2 mF2 0 1 78 := hC
  have e0 : α2 0 = α1 0 := (hO 0 (by omega)).2
  have hl : lv_has ls 2 [(1, .int (77)), (0, .ref (α2 (0)))] := by rw [e0]; exact hl
  obtain rfl : r9 = 77 := er.symm.trans (by decide)
  refine lv_iload_n hx hb dL_most_18 rfl (lv_at hl 0 rfl) ?_
  refine lv_bipush (v := (80)) hx hb dL_most_19 (by decide) ?_
  refine lv_icmp_ge (tgt := 28) hx hb dL_most_21 (by decide) (fun z => absurd z ((by decide))) (fun c5 => ?_)
  refine lv_iload_n hx hb dL_most_24 rfl (lv_at hl 0 rfl) ?_
  refine lv_goto (tgt := 30) hx hb dL_most_25 (by decide) ?_
  refine lv_icmp_eq (tgt := 35) hx hb dL_most_30 (by decide) (fun c6 => ?_) (fun z => absurd ((by decide)) z)
  refine lv_iinc (v := 78) (lv' := [(1, .int (78)), (0, .ref (α2 (0)))]) hx hb dL_most_35 hl (k := 0) rfl (by decide) (by decide) rfl (fun ls hl => ?_)
  refine lv_goto (tgt := 3) hx hb dL_most_38 (by decide) ?_
  refine lv_iload_n hx hb dL_most_3 rfl (lv_at hl 0 rfl) ?_
  refine lv_bipush (v := (81)) hx hb dL_most_4 (by decide) ?_
  refine lv_icmp_ge (tgt := 41) hx hb dL_most_6 (by decide) (fun z => absurd z ((by decide))) (fun c7 => ?_)
  refine lv_aload_n hx hb dL_most_9 rfl (lv_at hl 1 rfl) ?_
  refine lv_iconst (v := (5)) hx hb dL_most_10 (by decide) ?_
  refine lv_iconst (v := (0)) hx hb dL_most_11 (by decide) ?_
  refine lv_iconst (v := (1)) hx hb dL_most_12 (by decide) ?_
  refine lv_iload_n hx hb dL_most_13 rfl (lv_at hl 0 rfl) ?_
  refine lv_iconst (v := (1)) hx hb dL_most_14 (by decide) ?_
  refine mcallSWi hw ⟨hx, hb, hml, hown, hts⟩ hS (w_X3_addShift hC wf_mF2 0 1 78 1 (by decide) (by decide) (by decide) (by decide) (by decide) (by decide) mv2 ) (vx_cwSW 6 hts gL_most_L_act rfl rfl rfl (by decide +kernel) ⟨Nat.le_of_ble_eq_true rfl, Nat.le_of_ble_eq_true rfl⟩) rfl hl.1 rfl (Nat.le_of_ble_eq_true rfl) dL_most_15 ⟨Nat.le_of_ble_eq_true rfl, Nat.le_of_ble_eq_true rfl⟩ (fun r9 V3 α3 H locs hq hw hS => ?_)
  obtain ⟨er, hC, hO⟩ := hq
  have hC : mC G V3 α3 mF3 0 1 79 := hC
  have e0 : α3 0 = α2 0 := (hO 0 (by omega)).2
  have hl : lv_has ls 2 [(1, .int (78)), (0, .ref (α3 (0)))] := by rw [e0]; exact hl
  obtain rfl : r9 = 78 := er.symm.trans (by decide)
  refine lv_iload_n hx hb dL_most_18 rfl (lv_at hl 0 rfl) ?_
  refine lv_bipush (v := (80)) hx hb dL_most_19 (by decide) ?_
  refine lv_icmp_ge (tgt := 28) hx hb dL_most_21 (by decide) (fun z => absurd z ((by decide))) (fun c8 => ?_)
  refine lv_iload_n hx hb dL_most_24 rfl (lv_at hl 0 rfl) ?_
  refine lv_goto (tgt := 30) hx hb dL_most_25 (by decide) ?_
  refine lv_icmp_eq (tgt := 35) hx hb dL_most_30 (by decide) (fun c9 => ?_) (fun z => absurd ((by decide)) z)
  refine lv_iinc (v := 79) (lv' := [(1, .int (79)), (0, .ref (α3 (0)))]) hx hb dL_most_35 hl (k := 0) rfl (by decide) (by decide) rfl (fun ls hl => ?_)
  refine lv_goto (tgt := 3) hx hb dL_most_38 (by decide) ?_
  refine lv_iload_n hx hb dL_most_3 rfl (lv_at hl 0 rfl) ?_
  refine lv_bipush (v := (81)) hx hb dL_most_4 (by decide) ?_
  refine lv_icmp_ge (tgt := 41) hx hb dL_most_6 (by decide) (fun z => absurd z ((by decide))) (fun c10 => ?_)
  refine lv_aload_n hx hb dL_most_9 rfl (lv_at hl 1 rfl) ?_
  refine lv_iconst (v := (5)) hx hb dL_most_10 (by decide) ?_
  refine lv_iconst (v := (0)) hx hb dL_most_11 (by decide) ?_
  refine lv_iconst (v := (1)) hx hb dL_most_12 (by decide) ?_
  refine lv_iload_n hx hb dL_most_13 rfl (lv_at hl 0 rfl) ?_
  refine lv_iconst (v := (1)) hx hb dL_most_14 (by decide) ?_
  refine mcallSWi hw ⟨hx, hb, hml, hown, hts⟩ hS (w_X3_addShift hC wf_mF3 0 1 79 1 (by decide) (by decide) (by decide) (by decide) (by decide) (by decide) mv3 ) (vx_cwSW 6 hts gL_most_L_act rfl rfl rfl (by decide +kernel) ⟨Nat.le_of_ble_eq_true rfl, Nat.le_of_ble_eq_true rfl⟩) rfl hl.1 rfl (Nat.le_of_ble_eq_true rfl) dL_most_15 ⟨Nat.le_of_ble_eq_true rfl, Nat.le_of_ble_eq_true rfl⟩ (fun r9 V4 α4 H locs hq hw hS => ?_)
  obtain ⟨er, hC, hO⟩ := hq
  have hC : mC G V4 α4 mF4 0 1 80 := hC
  have e0 : α4 0 = α3 0 := (hO 0 (by omega)).2
  have hl : lv_has ls 2 [(1, .int (79)), (0, .ref (α4 (0)))] := by rw [e0]; exact hl
  obtain rfl : r9 = 79 := er.symm.trans (by decide)
  refine lv_iload_n hx hb dL_most_18 rfl (lv_at hl 0 rfl) ?_
  refine lv_bipush (v := (80)) hx hb dL_most_19 (by decide) ?_
  refine lv_icmp_ge (tgt := 28) hx hb dL_most_21 (by decide) (fun z => absurd z ((by decide))) (fun c11 => ?_)
  refine lv_iload_n hx hb dL_most_24 rfl (lv_at hl 0 rfl) ?_
  refine lv_goto (tgt := 30) hx hb dL_most_25 (by decide) ?_
  refine lv_icmp_eq (tgt := 35) hx hb dL_most_30 (by decide) (fun c12 => ?_) (fun z => absurd ((by decide)) z)
  refine lv_iinc (v := 80) (lv' := [(1, .int (80)), (0, .ref (α4 (0)))]) hx hb dL_most_35 hl (k := 0) rfl (by decide) (by decide) rfl (fun ls hl => ?_)
  refine lv_goto (tgt := 3) hx hb dL_most_38 (by decide) ?_
  refine lv_iload_n hx hb dL_most_3 rfl (lv_at hl 0 rfl) ?_
  refine lv_bipush (v := (81)) hx hb dL_most_4 (by decide) ?_
  refine lv_icmp_ge (tgt := 41) hx hb dL_most_6 (by decide) (fun z => absurd z ((by decide))) (fun c13 => ?_)
  refine lv_aload_n hx hb dL_most_9 rfl (lv_at hl 1 rfl) ?_
  refine lv_iconst (v := (5)) hx hb dL_most_10 (by decide) ?_
  refine lv_iconst (v := (0)) hx hb dL_most_11 (by decide) ?_
  refine lv_iconst (v := (1)) hx hb dL_most_12 (by decide) ?_
  refine lv_iload_n hx hb dL_most_13 rfl (lv_at hl 0 rfl) ?_
  refine lv_iconst (v := (1)) hx hb dL_most_14 (by decide) ?_
  refine mcallX (rest := []) hw ⟨hx, hb, hml, hown, hts⟩ hS (x_X3_addShift_3 hl0 hC wf_mF4 0 1 80 1 (by decide) (by decide) (by decide) (by decide) (by decide) (Or.inl rfl)) (vx_cwSW 6 hts gL_most_L_act rfl rfl rfl (by decide +kernel) ⟨Nat.le_of_ble_eq_true rfl, Nat.le_of_ble_eq_true rfl⟩) rfl hl.1 rfl (Nat.le_of_ble_eq_true rfl) dL_most_15 ⟨Nat.le_of_ble_eq_true rfl, Nat.le_of_ble_eq_true rfl⟩ (fun H locs hw hS => ?_)
  refine lv_iload_n hx hb dL_most_18 rfl (lv_at hl 0 rfl) ?_
  refine lv_bipush (v := (80)) hx hb dL_most_19 (by decide) ?_
  refine lv_icmp_ge (tgt := 28) hx hb dL_most_21 (by decide) (fun c14 => ?_) (fun z => absurd ((by decide)) z)
  refine lv_bipush (v := (-73)) hx hb dL_most_28 (by decide) ?_
  refine lv_icmp_eq (tgt := 35) hx hb dL_most_30 (by decide) (fun c15 => ?_) (fun z => absurd ((by decide)) z)
  refine lv_iinc (v := 81) (lv' := [(1, .int (81)), (0, .ref (α4 (0)))]) hx hb dL_most_35 hl (k := 0) rfl (by decide) (by decide) rfl (fun ls hl => ?_)
  refine lv_goto (tgt := 3) hx hb dL_most_38 (by decide) ?_
  refine lv_iload_n hx hb dL_most_3 rfl (lv_at hl 0 rfl) ?_
  refine lv_bipush (v := (81)) hx hb dL_most_4 (by decide) ?_
  refine lv_icmp_ge (tgt := 41) hx hb dL_most_6 (by decide) (fun c16 => ?_) (fun z => absurd ((by decide)) z)
  refine lv_iconst (v := (1)) hx hb dL_most_41 (by decide) ?_
  refine lv_istore_n (lv' := [(1, .int (1)), (0, .ref (α4 (0)))]) hx hb dL_most_42 rfl hl (by decide) rfl (fun ls hl => ?_)
  refine lv_iload_n hx hb dL_most_43 rfl (lv_at hl 0 rfl) ?_
  refine lv_bipush (v := (13)) hx hb dL_most_44 (by decide) ?_
  refine lv_icmp_ge (tgt := 83) hx hb dL_most_46 (by decide) (fun z => absurd z ((by decide))) (fun c17 => ?_)
  refine lv_aload_n hx hb dL_most_49 rfl (lv_at hl 1 rfl) ?_
  refine lv_iconst (v := (3)) hx hb dL_most_50 (by decide) ?_
  refine lv_iload_n hx hb dL_most_51 rfl (lv_at hl 0 rfl) ?_
  refine lv_iconst (v := (4)) hx hb dL_most_52 (by decide) ?_
  refine lv_irem hx hb dL_most_53 (by decide) ?_
  refine lv_topi (fun y18 ey18 => ?_)
  obtain rfl : y18 = 1 := ey18.trans (by decide)
  refine lv_iconst (v := (0)) hx hb dL_most_54 (by decide) ?_
  refine lv_iconst (v := (0)) hx hb dL_most_55 (by decide) ?_
  refine lv_iconst (v := (0)) hx hb dL_most_56 (by decide) ?_
  refine mcallSWi hw ⟨hx, hb, hml, hown, hts⟩ hS (w_X3_addWorker hC wf_mF4 1 (by decide) (by decide) 0 0 0) (vx_cwSW 6 hts gL_most_L_act rfl rfl rfl (by decide +kernel) ⟨Nat.le_of_ble_eq_true rfl, Nat.le_of_ble_eq_true rfl⟩) rfl hl.1 rfl (Nat.le_of_ble_eq_true rfl) dL_most_57 ⟨Nat.le_of_ble_eq_true rfl, Nat.le_of_ble_eq_true rfl⟩ (fun r9 V5 α5 H locs hq hw hS => ?_)
  obtain ⟨er, hC, hO⟩ := hq
  have hC : mC G V5 α5 mF5 0 2 80 := hC
  have e0 : α5 0 = α4 0 := (hO 0 (by omega)).2
  have hl : lv_has ls 2 [(1, .int (1)), (0, .ref (α5 (0)))] := by rw [e0]; exact hl
  obtain rfl : r9 = 1 := er.symm.trans (by decide)
  refine lv_iload_n hx hb dL_most_60 rfl (lv_at hl 0 rfl) ?_
  refine lv_bipush (v := (12)) hx hb dL_most_61 (by decide) ?_
  refine lv_icmp_ge (tgt := 70) hx hb dL_most_63 (by decide) (fun z => absurd z ((by decide))) (fun c19 => ?_)
  refine lv_iload_n hx hb dL_most_66 rfl (lv_at hl 0 rfl) ?_
  refine lv_goto (tgt := 72) hx hb dL_most_67 (by decide) ?_
  refine lv_icmp_eq (tgt := 77) hx hb dL_most_72 (by decide) (fun c20 => ?_) (fun z => absurd ((by decide)) z)
  refine lv_iinc (v := 2) (lv' := [(1, .int (2)), (0, .ref (α5 (0)))]) hx hb dL_most_77 hl (k := 0) rfl (by decide) (by decide) rfl (fun ls hl => ?_)
  refine lv_goto (tgt := 43) hx hb dL_most_80 (by decide) ?_
  refine lv_iload_n hx hb dL_most_43 rfl (lv_at hl 0 rfl) ?_
  refine lv_bipush (v := (13)) hx hb dL_most_44 (by decide) ?_
  refine lv_icmp_ge (tgt := 83) hx hb dL_most_46 (by decide) (fun z => absurd z ((by decide))) (fun c21 => ?_)
  refine lv_aload_n hx hb dL_most_49 rfl (lv_at hl 1 rfl) ?_
  refine lv_iconst (v := (3)) hx hb dL_most_50 (by decide) ?_
  refine lv_iload_n hx hb dL_most_51 rfl (lv_at hl 0 rfl) ?_
  refine lv_iconst (v := (4)) hx hb dL_most_52 (by decide) ?_
  refine lv_irem hx hb dL_most_53 (by decide) ?_
  refine lv_topi (fun y22 ey22 => ?_)
  obtain rfl : y22 = 2 := ey22.trans (by decide)
  refine lv_iconst (v := (0)) hx hb dL_most_54 (by decide) ?_
  refine lv_iconst (v := (0)) hx hb dL_most_55 (by decide) ?_
  refine lv_iconst (v := (0)) hx hb dL_most_56 (by decide) ?_
  refine mcallSWi hw ⟨hx, hb, hml, hown, hts⟩ hS (w_X3_addWorker hC wf_mF5 2 (by decide) (by decide) 0 0 0) (vx_cwSW 6 hts gL_most_L_act rfl rfl rfl (by decide +kernel) ⟨Nat.le_of_ble_eq_true rfl, Nat.le_of_ble_eq_true rfl⟩) rfl hl.1 rfl (Nat.le_of_ble_eq_true rfl) dL_most_57 ⟨Nat.le_of_ble_eq_true rfl, Nat.le_of_ble_eq_true rfl⟩ (fun r9 V6 α6 H locs hq hw hS => ?_)
  obtain ⟨er, hC, hO⟩ := hq
  have hC : mC G V6 α6 mF6 0 3 80 := hC
  have e0 : α6 0 = α5 0 := (hO 0 (by omega)).2
  have hl : lv_has ls 2 [(1, .int (2)), (0, .ref (α6 (0)))] := by rw [e0]; exact hl
  obtain rfl : r9 = 2 := er.symm.trans (by decide)
  refine lv_iload_n hx hb dL_most_60 rfl (lv_at hl 0 rfl) ?_
  refine lv_bipush (v := (12)) hx hb dL_most_61 (by decide) ?_
  refine lv_icmp_ge (tgt := 70) hx hb dL_most_63 (by decide) (fun z => absurd z ((by decide))) (fun c23 => ?_)
  refine lv_iload_n hx hb dL_most_66 rfl (lv_at hl 0 rfl) ?_
  refine lv_goto (tgt := 72) hx hb dL_most_67 (by decide) ?_
  refine lv_icmp_eq (tgt := 77) hx hb dL_most_72 (by decide) (fun c24 => ?_) (fun z => absurd ((by decide)) z)
  refine lv_iinc (v := 3) (lv' := [(1, .int (3)), (0, .ref (α6 (0)))]) hx hb dL_most_77 hl (k := 0) rfl (by decide) (by decide) rfl (fun ls hl => ?_)
  refine lv_goto (tgt := 43) hx hb dL_most_80 (by decide) ?_
  refine lv_iload_n hx hb dL_most_43 rfl (lv_at hl 0 rfl) ?_
  refine lv_bipush (v := (13)) hx hb dL_most_44 (by decide) ?_
  refine lv_icmp_ge (tgt := 83) hx hb dL_most_46 (by decide) (fun z => absurd z ((by decide))) (fun c25 => ?_)
  refine lv_aload_n hx hb dL_most_49 rfl (lv_at hl 1 rfl) ?_
  refine lv_iconst (v := (3)) hx hb dL_most_50 (by decide) ?_
  refine lv_iload_n hx hb dL_most_51 rfl (lv_at hl 0 rfl) ?_
  refine lv_iconst (v := (4)) hx hb dL_most_52 (by decide) ?_
  refine lv_irem hx hb dL_most_53 (by decide) ?_
  refine lv_topi (fun y26 ey26 => ?_)
  obtain rfl : y26 = 3 := ey26.trans (by decide)
  refine lv_iconst (v := (0)) hx hb dL_most_54 (by decide) ?_
  refine lv_iconst (v := (0)) hx hb dL_most_55 (by decide) ?_
  refine lv_iconst (v := (0)) hx hb dL_most_56 (by decide) ?_
  refine mcallSWi hw ⟨hx, hb, hml, hown, hts⟩ hS (w_X3_addWorker hC wf_mF6 3 (by decide) (by decide) 0 0 0) (vx_cwSW 6 hts gL_most_L_act rfl rfl rfl (by decide +kernel) ⟨Nat.le_of_ble_eq_true rfl, Nat.le_of_ble_eq_true rfl⟩) rfl hl.1 rfl (Nat.le_of_ble_eq_true rfl) dL_most_57 ⟨Nat.le_of_ble_eq_true rfl, Nat.le_of_ble_eq_true rfl⟩ (fun r9 V7 α7 H locs hq hw hS => ?_)
  obtain ⟨er, hC, hO⟩ := hq
  have hC : mC G V7 α7 mF7 0 4 80 := hC
  have e0 : α7 0 = α6 0 := (hO 0 (by omega)).2
  have hl : lv_has ls 2 [(1, .int (3)), (0, .ref (α7 (0)))] := by rw [e0]; exact hl
  obtain rfl : r9 = 3 := er.symm.trans (by decide)
  refine lv_iload_n hx hb dL_most_60 rfl (lv_at hl 0 rfl) ?_
  refine lv_bipush (v := (12)) hx hb dL_most_61 (by decide) ?_
  refine lv_icmp_ge (tgt := 70) hx hb dL_most_63 (by decide) (fun z => absurd z ((by decide))) (fun c27 => ?_)
  refine lv_iload_n hx hb dL_most_66 rfl (lv_at hl 0 rfl) ?_
  refine lv_goto (tgt := 72) hx hb dL_most_67 (by decide) ?_
  refine lv_icmp_eq (tgt := 77) hx hb dL_most_72 (by decide) (fun c28 => ?_) (fun z => absurd ((by decide)) z)
  refine lv_iinc (v := 4) (lv' := [(1, .int (4)), (0, .ref (α7 (0)))]) hx hb dL_most_77 hl (k := 0) rfl (by decide) (by decide) rfl (fun ls hl => ?_)
  refine lv_goto (tgt := 43) hx hb dL_most_80 (by decide) ?_
  refine lv_iload_n hx hb dL_most_43 rfl (lv_at hl 0 rfl) ?_
  refine lv_bipush (v := (13)) hx hb dL_most_44 (by decide) ?_
  refine lv_icmp_ge (tgt := 83) hx hb dL_most_46 (by decide) (fun z => absurd z ((by decide))) (fun c29 => ?_)
  refine lv_aload_n hx hb dL_most_49 rfl (lv_at hl 1 rfl) ?_
  refine lv_iconst (v := (3)) hx hb dL_most_50 (by decide) ?_
  refine lv_iload_n hx hb dL_most_51 rfl (lv_at hl 0 rfl) ?_
  refine lv_iconst (v := (4)) hx hb dL_most_52 (by decide) ?_
  refine lv_irem hx hb dL_most_53 (by decide) ?_
  refine lv_topi (fun y30 ey30 => ?_)
  obtain rfl : y30 = 0 := ey30.trans (by decide)
  refine lv_iconst (v := (0)) hx hb dL_most_54 (by decide) ?_
  refine lv_iconst (v := (0)) hx hb dL_most_55 (by decide) ?_
  refine lv_iconst (v := (0)) hx hb dL_most_56 (by decide) ?_
  refine mcallSWi hw ⟨hx, hb, hml, hown, hts⟩ hS (w_X3_addWorker hC wf_mF7 0 (by decide) (by decide) 0 0 0) (vx_cwSW 6 hts gL_most_L_act rfl rfl rfl (by decide +kernel) ⟨Nat.le_of_ble_eq_true rfl, Nat.le_of_ble_eq_true rfl⟩) rfl hl.1 rfl (Nat.le_of_ble_eq_true rfl) dL_most_57 ⟨Nat.le_of_ble_eq_true rfl, Nat.le_of_ble_eq_true rfl⟩ (fun r9 V8 α8 H locs hq hw hS => ?_)
  obtain ⟨er, hC, hO⟩ := hq
  have hC : mC G V8 α8 mF8 0 5 80 := hC
  have e0 : α8 0 = α7 0 := (hO 0 (by omega)).2
  have hl : lv_has ls 2 [(1, .int (4)), (0, .ref (α8 (0)))] := by rw [e0]; exact hl
  obtain rfl : r9 = 4 := er.symm.trans (by decide)
  refine lv_iload_n hx hb dL_most_60 rfl (lv_at hl 0 rfl) ?_
  refine lv_bipush (v := (12)) hx hb dL_most_61 (by decide) ?_
  refine lv_icmp_ge (tgt := 70) hx hb dL_most_63 (by decide) (fun z => absurd z ((by decide))) (fun c31 => ?_)
  refine lv_iload_n hx hb dL_most_66 rfl (lv_at hl 0 rfl) ?_
  refine lv_goto (tgt := 72) hx hb dL_most_67 (by decide) ?_
  refine lv_icmp_eq (tgt := 77) hx hb dL_most_72 (by decide) (fun c32 => ?_) (fun z => absurd ((by decide)) z)
  refine lv_iinc (v := 5) (lv' := [(1, .int (5)), (0, .ref (α8 (0)))]) hx hb dL_most_77 hl (k := 0) rfl (by decide) (by decide) rfl (fun ls hl => ?_)
  refine lv_goto (tgt := 43) hx hb dL_most_80 (by decide) ?_
  refine lv_iload_n hx hb dL_most_43 rfl (lv_at hl 0 rfl) ?_
  refine lv_bipush (v := (13)) hx hb dL_most_44 (by decide) ?_
  refine lv_icmp_ge (tgt := 83) hx hb dL_most_46 (by decide) (fun z => absurd z ((by decide))) (fun c33 => ?_)
  refine lv_aload_n hx hb dL_most_49 rfl (lv_at hl 1 rfl) ?_
  refine lv_iconst (v := (3)) hx hb dL_most_50 (by decide) ?_
  refine lv_iload_n hx hb dL_most_51 rfl (lv_at hl 0 rfl) ?_
  refine lv_iconst (v := (4)) hx hb dL_most_52 (by decide) ?_
  refine lv_irem hx hb dL_most_53 (by decide) ?_
  refine lv_topi (fun y34 ey34 => ?_)
  obtain rfl : y34 = 1 := ey34.trans (by decide)
  refine lv_iconst (v := (0)) hx hb dL_most_54 (by decide) ?_
  refine lv_iconst (v := (0)) hx hb dL_most_55 (by decide) ?_
  refine lv_iconst (v := (0)) hx hb dL_most_56 (by decide) ?_
  refine mcallSWi hw ⟨hx, hb, hml, hown, hts⟩ hS (w_X3_addWorker hC wf_mF8 1 (by decide) (by decide) 0 0 0) (vx_cwSW 6 hts gL_most_L_act rfl rfl rfl (by decide +kernel) ⟨Nat.le_of_ble_eq_true rfl, Nat.le_of_ble_eq_true rfl⟩) rfl hl.1 rfl (Nat.le_of_ble_eq_true rfl) dL_most_57 ⟨Nat.le_of_ble_eq_true rfl, Nat.le_of_ble_eq_true rfl⟩ (fun r9 V9 α9 H locs hq hw hS => ?_)
  obtain ⟨er, hC, hO⟩ := hq
  have hC : mC G V9 α9 mF9 0 6 80 := hC
  have e0 : α9 0 = α8 0 := (hO 0 (by omega)).2
  have hl : lv_has ls 2 [(1, .int (5)), (0, .ref (α9 (0)))] := by rw [e0]; exact hl
  obtain rfl : r9 = 5 := er.symm.trans (by decide)
  refine lv_iload_n hx hb dL_most_60 rfl (lv_at hl 0 rfl) ?_
  refine lv_bipush (v := (12)) hx hb dL_most_61 (by decide) ?_
  refine lv_icmp_ge (tgt := 70) hx hb dL_most_63 (by decide) (fun z => absurd z ((by decide))) (fun c35 => ?_)
  refine lv_iload_n hx hb dL_most_66 rfl (lv_at hl 0 rfl) ?_
  refine lv_goto (tgt := 72) hx hb dL_most_67 (by decide) ?_
  refine lv_icmp_eq (tgt := 77) hx hb dL_most_72 (by decide) (fun c36 => ?_) (fun z => absurd ((by decide)) z)
  exact kk _ _ _ _ _ hC hl hw hS

set_option maxHeartbeats 40000000 in
set_option maxRecDepth 100000 in
theorem m_s1 {p : Program} {l : Launch} {e : Env} {s : State} {m : MethodId} {args : Array Value} {below : List Frame} {meth : Method} {c : Code} {Q : State → Prop} {G : mG} {V : mV} {α : Nat → Nat} (hl0 : l.stackTraces = false) (hx : p.tables.exec = Jvm.exec) (hb : c.code = cL_most) (hml : c.maxLocals = 2) (hown : s.vm.findClass RL = some m.cls) (hts : ∀ w ∈ wsL_most, w.before args s = true) (hC : mC G V α mF9 0 6 80)
    (kk : ∀ (V : mV) (α : Nat → Nat) (H : Heap) (locs : List Loc) (ls : Array Slot), mC G V α mF18 3 12 80 → lv_has ls 2 [(1, .int (2)), (0, .ref (α (0)))] → mW G V α s H → va_S (mfree G) s.heap H locs → W p l e ({ frames := 10, cells := 201, slots := 7344, locals := 343 } : Room) s m args below meth c H locs 38 3792 Q (F0 m 123 ls []))
    (H : Heap) (locs : List Loc) (ls : Array Slot) (hl : lv_has ls 2 [(1, .int (5)), (0, .ref (α (0)))]) (hw : mW G V α s H) (hS : va_S (mfree G) s.heap H locs) : W p l e ({ frames := 10, cells := 201, slots := 7344, locals := 343 } : Room) s m args below meth c H locs 19 1896 Q (F0 m 77 ls []) := by
  refine lv_iinc (v := 6) (lv' := [(1, .int (6)), (0, .ref (α (0)))]) hx hb dL_most_77 hl (k := 0) rfl (by decide) (by decide) rfl (fun ls hl => ?_)
  refine lv_goto (tgt := 43) hx hb dL_most_80 (by decide) ?_
  refine lv_iload_n hx hb dL_most_43 rfl (lv_at hl 0 rfl) ?_
  refine lv_bipush (v := (13)) hx hb dL_most_44 (by decide) ?_
  refine lv_icmp_ge (tgt := 83) hx hb dL_most_46 (by decide) (fun z => absurd z ((by decide))) (fun c1 => ?_)
  refine lv_aload_n hx hb dL_most_49 rfl (lv_at hl 1 rfl) ?_
  refine lv_iconst (v := (3)) hx hb dL_most_50 (by decide) ?_
  refine lv_iload_n hx hb dL_most_51 rfl (lv_at hl 0 rfl) ?_
  refine lv_iconst (v := (4)) hx hb dL_most_52 (by decide) ?_
  refine lv_irem hx hb dL_most_53 (by decide) ?_
  refine lv_topi (fun y2 ey2 => ?_)
  obtain rfl : y2 = 2 := ey2.trans (by decide)
  refine lv_iconst (v := (0)) hx hb dL_most_54 (by decide) ?_
  refine lv_iconst (v := (0)) hx hb dL_most_55 (by decide) ?_
  refine lv_iconst (v := (0)) hx hb dL_most_56 (by decide) ?_
  refine mcallSWi hw ⟨hx, hb, hml, hown, hts⟩ hS (w_X3_addWorker hC wf_mF9 2 (by decide) (by decide) 0 0 0) (vx_cwSW 6 hts gL_most_L_act rfl rfl rfl (by decide +kernel) ⟨Nat.le_of_ble_eq_true rfl, Nat.le_of_ble_eq_true rfl⟩) rfl hl.1 rfl (Nat.le_of_ble_eq_true rfl) dL_most_57 ⟨Nat.le_of_ble_eq_true rfl, Nat.le_of_ble_eq_true rfl⟩ (fun r9 V1 α1 H locs hq hw hS => ?_)
  obtain ⟨er, hC, hO⟩ := hq
  have hC : mC G V1 α1 mF10 0 7 80 := hC
  have e0 : α1 0 = α 0 := (hO 0 (by omega)).2
  have hl : lv_has ls 2 [(1, .int (6)), (0, .ref (α1 (0)))] := by rw [e0]; exact hl
  obtain rfl : r9 = 6 := er.symm.trans (by decide)
  refine lv_iload_n hx hb dL_most_60 rfl (lv_at hl 0 rfl) ?_
  refine lv_bipush (v := (12)) hx hb dL_most_61 (by decide) ?_
  refine lv_icmp_ge (tgt := 70) hx hb dL_most_63 (by decide) (fun z => absurd z ((by decide))) (fun c3 => ?_)
  refine lv_iload_n hx hb dL_most_66 rfl (lv_at hl 0 rfl) ?_
  refine lv_goto (tgt := 72) hx hb dL_most_67 (by decide) ?_
  refine lv_icmp_eq (tgt := 77) hx hb dL_most_72 (by decide) (fun c4 => ?_) (fun z => absurd ((by decide)) z)
  refine lv_iinc (v := 7) (lv' := [(1, .int (7)), (0, .ref (α1 (0)))]) hx hb dL_most_77 hl (k := 0) rfl (by decide) (by decide) rfl (fun ls hl => ?_)
  refine lv_goto (tgt := 43) hx hb dL_most_80 (by decide) ?_
  refine lv_iload_n hx hb dL_most_43 rfl (lv_at hl 0 rfl) ?_
  refine lv_bipush (v := (13)) hx hb dL_most_44 (by decide) ?_
  refine lv_icmp_ge (tgt := 83) hx hb dL_most_46 (by decide) (fun z => absurd z ((by decide))) (fun c5 => ?_)
  refine lv_aload_n hx hb dL_most_49 rfl (lv_at hl 1 rfl) ?_
  refine lv_iconst (v := (3)) hx hb dL_most_50 (by decide) ?_
  refine lv_iload_n hx hb dL_most_51 rfl (lv_at hl 0 rfl) ?_
  refine lv_iconst (v := (4)) hx hb dL_most_52 (by decide) ?_
  refine lv_irem hx hb dL_most_53 (by decide) ?_
  refine lv_topi (fun y6 ey6 => ?_)
  obtain rfl : y6 = 3 := ey6.trans (by decide)
  refine lv_iconst (v := (0)) hx hb dL_most_54 (by decide) ?_
  refine lv_iconst (v := (0)) hx hb dL_most_55 (by decide) ?_
  refine lv_iconst (v := (0)) hx hb dL_most_56 (by decide) ?_
  refine mcallSWi hw ⟨hx, hb, hml, hown, hts⟩ hS (w_X3_addWorker hC wf_mF10 3 (by decide) (by decide) 0 0 0) (vx_cwSW 6 hts gL_most_L_act rfl rfl rfl (by decide +kernel) ⟨Nat.le_of_ble_eq_true rfl, Nat.le_of_ble_eq_true rfl⟩) rfl hl.1 rfl (Nat.le_of_ble_eq_true rfl) dL_most_57 ⟨Nat.le_of_ble_eq_true rfl, Nat.le_of_ble_eq_true rfl⟩ (fun r9 V2 α2 H locs hq hw hS => ?_)
  obtain ⟨er, hC, hO⟩ := hq
  have hC : mC G V2 α2 mF11 0 8 80 := hC
  have e0 : α2 0 = α1 0 := (hO 0 (by omega)).2
  have hl : lv_has ls 2 [(1, .int (7)), (0, .ref (α2 (0)))] := by rw [e0]; exact hl
  obtain rfl : r9 = 7 := er.symm.trans (by decide)
  refine lv_iload_n hx hb dL_most_60 rfl (lv_at hl 0 rfl) ?_
  refine lv_bipush (v := (12)) hx hb dL_most_61 (by decide) ?_
  refine lv_icmp_ge (tgt := 70) hx hb dL_most_63 (by decide) (fun z => absurd z ((by decide))) (fun c7 => ?_)
  refine lv_iload_n hx hb dL_most_66 rfl (lv_at hl 0 rfl) ?_
  refine lv_goto (tgt := 72) hx hb dL_most_67 (by decide) ?_
  refine lv_icmp_eq (tgt := 77) hx hb dL_most_72 (by decide) (fun c8 => ?_) (fun z => absurd ((by decide)) z)
  refine lv_iinc (v := 8) (lv' := [(1, .int (8)), (0, .ref (α2 (0)))]) hx hb dL_most_77 hl (k := 0) rfl (by decide) (by decide) rfl (fun ls hl => ?_)
  refine lv_goto (tgt := 43) hx hb dL_most_80 (by decide) ?_
  refine lv_iload_n hx hb dL_most_43 rfl (lv_at hl 0 rfl) ?_
  refine lv_bipush (v := (13)) hx hb dL_most_44 (by decide) ?_
  refine lv_icmp_ge (tgt := 83) hx hb dL_most_46 (by decide) (fun z => absurd z ((by decide))) (fun c9 => ?_)
  refine lv_aload_n hx hb dL_most_49 rfl (lv_at hl 1 rfl) ?_
  refine lv_iconst (v := (3)) hx hb dL_most_50 (by decide) ?_
  refine lv_iload_n hx hb dL_most_51 rfl (lv_at hl 0 rfl) ?_
  refine lv_iconst (v := (4)) hx hb dL_most_52 (by decide) ?_
  refine lv_irem hx hb dL_most_53 (by decide) ?_
  refine lv_topi (fun y10 ey10 => ?_)
  obtain rfl : y10 = 0 := ey10.trans (by decide)
  refine lv_iconst (v := (0)) hx hb dL_most_54 (by decide) ?_
  refine lv_iconst (v := (0)) hx hb dL_most_55 (by decide) ?_
  refine lv_iconst (v := (0)) hx hb dL_most_56 (by decide) ?_
  refine mcallSWi hw ⟨hx, hb, hml, hown, hts⟩ hS (w_X3_addWorker hC wf_mF11 0 (by decide) (by decide) 0 0 0) (vx_cwSW 6 hts gL_most_L_act rfl rfl rfl (by decide +kernel) ⟨Nat.le_of_ble_eq_true rfl, Nat.le_of_ble_eq_true rfl⟩) rfl hl.1 rfl (Nat.le_of_ble_eq_true rfl) dL_most_57 ⟨Nat.le_of_ble_eq_true rfl, Nat.le_of_ble_eq_true rfl⟩ (fun r9 V3 α3 H locs hq hw hS => ?_)
  obtain ⟨er, hC, hO⟩ := hq
  have hC : mC G V3 α3 mF12 0 9 80 := hC
  have e0 : α3 0 = α2 0 := (hO 0 (by omega)).2
  have hl : lv_has ls 2 [(1, .int (8)), (0, .ref (α3 (0)))] := by rw [e0]; exact hl
  obtain rfl : r9 = 8 := er.symm.trans (by decide)
  refine lv_iload_n hx hb dL_most_60 rfl (lv_at hl 0 rfl) ?_
  refine lv_bipush (v := (12)) hx hb dL_most_61 (by decide) ?_
  refine lv_icmp_ge (tgt := 70) hx hb dL_most_63 (by decide) (fun z => absurd z ((by decide))) (fun c11 => ?_)
  refine lv_iload_n hx hb dL_most_66 rfl (lv_at hl 0 rfl) ?_
  refine lv_goto (tgt := 72) hx hb dL_most_67 (by decide) ?_
  refine lv_icmp_eq (tgt := 77) hx hb dL_most_72 (by decide) (fun c12 => ?_) (fun z => absurd ((by decide)) z)
  refine lv_iinc (v := 9) (lv' := [(1, .int (9)), (0, .ref (α3 (0)))]) hx hb dL_most_77 hl (k := 0) rfl (by decide) (by decide) rfl (fun ls hl => ?_)
  refine lv_goto (tgt := 43) hx hb dL_most_80 (by decide) ?_
  refine lv_iload_n hx hb dL_most_43 rfl (lv_at hl 0 rfl) ?_
  refine lv_bipush (v := (13)) hx hb dL_most_44 (by decide) ?_
  refine lv_icmp_ge (tgt := 83) hx hb dL_most_46 (by decide) (fun z => absurd z ((by decide))) (fun c13 => ?_)
  refine lv_aload_n hx hb dL_most_49 rfl (lv_at hl 1 rfl) ?_
  refine lv_iconst (v := (3)) hx hb dL_most_50 (by decide) ?_
  refine lv_iload_n hx hb dL_most_51 rfl (lv_at hl 0 rfl) ?_
  refine lv_iconst (v := (4)) hx hb dL_most_52 (by decide) ?_
  refine lv_irem hx hb dL_most_53 (by decide) ?_
  refine lv_topi (fun y14 ey14 => ?_)
  obtain rfl : y14 = 1 := ey14.trans (by decide)
  refine lv_iconst (v := (0)) hx hb dL_most_54 (by decide) ?_
  refine lv_iconst (v := (0)) hx hb dL_most_55 (by decide) ?_
  refine lv_iconst (v := (0)) hx hb dL_most_56 (by decide) ?_
  refine mcallSWi hw ⟨hx, hb, hml, hown, hts⟩ hS (w_X3_addWorker hC wf_mF12 1 (by decide) (by decide) 0 0 0) (vx_cwSW 6 hts gL_most_L_act rfl rfl rfl (by decide +kernel) ⟨Nat.le_of_ble_eq_true rfl, Nat.le_of_ble_eq_true rfl⟩) rfl hl.1 rfl (Nat.le_of_ble_eq_true rfl) dL_most_57 ⟨Nat.le_of_ble_eq_true rfl, Nat.le_of_ble_eq_true rfl⟩ (fun r9 V4 α4 H locs hq hw hS => ?_)
  obtain ⟨er, hC, hO⟩ := hq
  have hC : mC G V4 α4 mF13 0 10 80 := hC
  have e0 : α4 0 = α3 0 := (hO 0 (by omega)).2
  have hl : lv_has ls 2 [(1, .int (9)), (0, .ref (α4 (0)))] := by rw [e0]; exact hl
  obtain rfl : r9 = 9 := er.symm.trans (by decide)
  refine lv_iload_n hx hb dL_most_60 rfl (lv_at hl 0 rfl) ?_
  refine lv_bipush (v := (12)) hx hb dL_most_61 (by decide) ?_
  refine lv_icmp_ge (tgt := 70) hx hb dL_most_63 (by decide) (fun z => absurd z ((by decide))) (fun c15 => ?_)
  refine lv_iload_n hx hb dL_most_66 rfl (lv_at hl 0 rfl) ?_
  refine lv_goto (tgt := 72) hx hb dL_most_67 (by decide) ?_
  refine lv_icmp_eq (tgt := 77) hx hb dL_most_72 (by decide) (fun c16 => ?_) (fun z => absurd ((by decide)) z)
  refine lv_iinc (v := 10) (lv' := [(1, .int (10)), (0, .ref (α4 (0)))]) hx hb dL_most_77 hl (k := 0) rfl (by decide) (by decide) rfl (fun ls hl => ?_)
  refine lv_goto (tgt := 43) hx hb dL_most_80 (by decide) ?_
  refine lv_iload_n hx hb dL_most_43 rfl (lv_at hl 0 rfl) ?_
  refine lv_bipush (v := (13)) hx hb dL_most_44 (by decide) ?_
  refine lv_icmp_ge (tgt := 83) hx hb dL_most_46 (by decide) (fun z => absurd z ((by decide))) (fun c17 => ?_)
  refine lv_aload_n hx hb dL_most_49 rfl (lv_at hl 1 rfl) ?_
  refine lv_iconst (v := (3)) hx hb dL_most_50 (by decide) ?_
  refine lv_iload_n hx hb dL_most_51 rfl (lv_at hl 0 rfl) ?_
  refine lv_iconst (v := (4)) hx hb dL_most_52 (by decide) ?_
  refine lv_irem hx hb dL_most_53 (by decide) ?_
  refine lv_topi (fun y18 ey18 => ?_)
  obtain rfl : y18 = 2 := ey18.trans (by decide)
  refine lv_iconst (v := (0)) hx hb dL_most_54 (by decide) ?_
  refine lv_iconst (v := (0)) hx hb dL_most_55 (by decide) ?_
  refine lv_iconst (v := (0)) hx hb dL_most_56 (by decide) ?_
  refine mcallSWi hw ⟨hx, hb, hml, hown, hts⟩ hS (w_X3_addWorker hC wf_mF13 2 (by decide) (by decide) 0 0 0) (vx_cwSW 6 hts gL_most_L_act rfl rfl rfl (by decide +kernel) ⟨Nat.le_of_ble_eq_true rfl, Nat.le_of_ble_eq_true rfl⟩) rfl hl.1 rfl (Nat.le_of_ble_eq_true rfl) dL_most_57 ⟨Nat.le_of_ble_eq_true rfl, Nat.le_of_ble_eq_true rfl⟩ (fun r9 V5 α5 H locs hq hw hS => ?_)
  obtain ⟨er, hC, hO⟩ := hq
  have hC : mC G V5 α5 mF14 0 11 80 := hC
  have e0 : α5 0 = α4 0 := (hO 0 (by omega)).2
  have hl : lv_has ls 2 [(1, .int (10)), (0, .ref (α5 (0)))] := by rw [e0]; exact hl
  obtain rfl : r9 = 10 := er.symm.trans (by decide)
  refine lv_iload_n hx hb dL_most_60 rfl (lv_at hl 0 rfl) ?_
  refine lv_bipush (v := (12)) hx hb dL_most_61 (by decide) ?_
  refine lv_icmp_ge (tgt := 70) hx hb dL_most_63 (by decide) (fun z => absurd z ((by decide))) (fun c19 => ?_)
  refine lv_iload_n hx hb dL_most_66 rfl (lv_at hl 0 rfl) ?_
  refine lv_goto (tgt := 72) hx hb dL_most_67 (by decide) ?_
  refine lv_icmp_eq (tgt := 77) hx hb dL_most_72 (by decide) (fun c20 => ?_) (fun z => absurd ((by decide)) z)
  refine lv_iinc (v := 11) (lv' := [(1, .int (11)), (0, .ref (α5 (0)))]) hx hb dL_most_77 hl (k := 0) rfl (by decide) (by decide) rfl (fun ls hl => ?_)
  refine lv_goto (tgt := 43) hx hb dL_most_80 (by decide) ?_
  refine lv_iload_n hx hb dL_most_43 rfl (lv_at hl 0 rfl) ?_
  refine lv_bipush (v := (13)) hx hb dL_most_44 (by decide) ?_
  refine lv_icmp_ge (tgt := 83) hx hb dL_most_46 (by decide) (fun z => absurd z ((by decide))) (fun c21 => ?_)
  refine lv_aload_n hx hb dL_most_49 rfl (lv_at hl 1 rfl) ?_
  refine lv_iconst (v := (3)) hx hb dL_most_50 (by decide) ?_
  refine lv_iload_n hx hb dL_most_51 rfl (lv_at hl 0 rfl) ?_
  refine lv_iconst (v := (4)) hx hb dL_most_52 (by decide) ?_
  refine lv_irem hx hb dL_most_53 (by decide) ?_
  refine lv_topi (fun y22 ey22 => ?_)
  obtain rfl : y22 = 3 := ey22.trans (by decide)
  refine lv_iconst (v := (0)) hx hb dL_most_54 (by decide) ?_
  refine lv_iconst (v := (0)) hx hb dL_most_55 (by decide) ?_
  refine lv_iconst (v := (0)) hx hb dL_most_56 (by decide) ?_
  refine mcallSWi hw ⟨hx, hb, hml, hown, hts⟩ hS (w_X3_addWorker hC wf_mF14 3 (by decide) (by decide) 0 0 0) (vx_cwSW 6 hts gL_most_L_act rfl rfl rfl (by decide +kernel) ⟨Nat.le_of_ble_eq_true rfl, Nat.le_of_ble_eq_true rfl⟩) rfl hl.1 rfl (Nat.le_of_ble_eq_true rfl) dL_most_57 ⟨Nat.le_of_ble_eq_true rfl, Nat.le_of_ble_eq_true rfl⟩ (fun r9 V6 α6 H locs hq hw hS => ?_)
  obtain ⟨er, hC, hO⟩ := hq
  have hC : mC G V6 α6 mF15 0 12 80 := hC
  have e0 : α6 0 = α5 0 := (hO 0 (by omega)).2
  have hl : lv_has ls 2 [(1, .int (11)), (0, .ref (α6 (0)))] := by rw [e0]; exact hl
  obtain rfl : r9 = 11 := er.symm.trans (by decide)
  refine lv_iload_n hx hb dL_most_60 rfl (lv_at hl 0 rfl) ?_
  refine lv_bipush (v := (12)) hx hb dL_most_61 (by decide) ?_
  refine lv_icmp_ge (tgt := 70) hx hb dL_most_63 (by decide) (fun z => absurd z ((by decide))) (fun c23 => ?_)
  refine lv_iload_n hx hb dL_most_66 rfl (lv_at hl 0 rfl) ?_
  refine lv_goto (tgt := 72) hx hb dL_most_67 (by decide) ?_
  refine lv_icmp_eq (tgt := 77) hx hb dL_most_72 (by decide) (fun c24 => ?_) (fun z => absurd ((by decide)) z)
  refine lv_iinc (v := 12) (lv' := [(1, .int (12)), (0, .ref (α6 (0)))]) hx hb dL_most_77 hl (k := 0) rfl (by decide) (by decide) rfl (fun ls hl => ?_)
  refine lv_goto (tgt := 43) hx hb dL_most_80 (by decide) ?_
  refine lv_iload_n hx hb dL_most_43 rfl (lv_at hl 0 rfl) ?_
  refine lv_bipush (v := (13)) hx hb dL_most_44 (by decide) ?_
  refine lv_icmp_ge (tgt := 83) hx hb dL_most_46 (by decide) (fun z => absurd z ((by decide))) (fun c25 => ?_)
  refine lv_aload_n hx hb dL_most_49 rfl (lv_at hl 1 rfl) ?_
  refine lv_iconst (v := (3)) hx hb dL_most_50 (by decide) ?_
  refine lv_iload_n hx hb dL_most_51 rfl (lv_at hl 0 rfl) ?_
  refine lv_iconst (v := (4)) hx hb dL_most_52 (by decide) ?_
  refine lv_irem hx hb dL_most_53 (by decide) ?_
  refine lv_topi (fun y26 ey26 => ?_)
  obtain rfl : y26 = 0 := ey26.trans (by decide)
  refine lv_iconst (v := (0)) hx hb dL_most_54 (by decide) ?_
  refine lv_iconst (v := (0)) hx hb dL_most_55 (by decide) ?_
  refine lv_iconst (v := (0)) hx hb dL_most_56 (by decide) ?_
  refine mcallX (rest := []) hw ⟨hx, hb, hml, hown, hts⟩ hS (x_X3_addWorker_2 hl0 hC wf_mF15 0 (by decide) rfl 0 0 0) (vx_cwSW 6 hts gL_most_L_act rfl rfl rfl (by decide +kernel) ⟨Nat.le_of_ble_eq_true rfl, Nat.le_of_ble_eq_true rfl⟩) rfl hl.1 rfl (Nat.le_of_ble_eq_true rfl) dL_most_57 ⟨Nat.le_of_ble_eq_true rfl, Nat.le_of_ble_eq_true rfl⟩ (fun H locs hw hS => ?_)
  refine lv_iload_n hx hb dL_most_60 rfl (lv_at hl 0 rfl) ?_
  refine lv_bipush (v := (12)) hx hb dL_most_61 (by decide) ?_
  refine lv_icmp_ge (tgt := 70) hx hb dL_most_63 (by decide) (fun c27 => ?_) (fun z => absurd ((by decide)) z)
  refine lv_bipush (v := (-73)) hx hb dL_most_70 (by decide) ?_
  refine lv_icmp_eq (tgt := 77) hx hb dL_most_72 (by decide) (fun c28 => ?_) (fun z => absurd ((by decide)) z)
  refine lv_iinc (v := 13) (lv' := [(1, .int (13)), (0, .ref (α6 (0)))]) hx hb dL_most_77 hl (k := 0) rfl (by decide) (by decide) rfl (fun ls hl => ?_)
  refine lv_goto (tgt := 43) hx hb dL_most_80 (by decide) ?_
  refine lv_iload_n hx hb dL_most_43 rfl (lv_at hl 0 rfl) ?_
  refine lv_bipush (v := (13)) hx hb dL_most_44 (by decide) ?_
  refine lv_icmp_ge (tgt := 83) hx hb dL_most_46 (by decide) (fun c29 => ?_) (fun z => absurd ((by decide)) z)
  refine lv_iconst (v := (0)) hx hb dL_most_83 (by decide) ?_
  refine lv_istore_n (lv' := [(1, .int (0)), (0, .ref (α6 (0)))]) hx hb dL_most_84 rfl hl (by decide) rfl (fun ls hl => ?_)
  refine lv_iload_n hx hb dL_most_85 rfl (lv_at hl 0 rfl) ?_
  refine lv_bipush (v := (17)) hx hb dL_most_86 (by decide) ?_
  refine lv_icmp_ge (tgt := 129) hx hb dL_most_88 (by decide) (fun z => absurd z ((by decide))) (fun c30 => ?_)
  refine lv_aload_n hx hb dL_most_91 rfl (lv_at hl 1 rfl) ?_
  refine lv_bipush (v := (127)) hx hb dL_most_92 (by decide) ?_
  refine lv_iconst (v := (0)) hx hb dL_most_94 (by decide) ?_
  refine lv_bipush (v := (96)) hx hb dL_most_95 (by decide) ?_
  refine lv_bipush (v := (8)) hx hb dL_most_97 (by decide) ?_
  refine lv_bipush (v := (100)) hx hb dL_most_99 (by decide) ?_
  refine lv_iload_n hx hb dL_most_101 rfl (lv_at hl 0 rfl) ?_
  refine lv_iadd hx hb dL_most_102 ?_
  refine lv_topi (fun y31 ey31 => ?_)
  obtain rfl : y31 = 100 := ey31.trans (by decide)
  refine mcallSWi hw ⟨hx, hb, hml, hown, hts⟩ hS (w_X3_addRule hC wf_mF15 127 0 96 8 100 (by decide) (by decide) (by decide) (by decide) (by decide) (by decide) ) (vx_cwSW 6 hts gL_most_L_rule rfl rfl rfl (by decide +kernel) ⟨Nat.le_of_ble_eq_true rfl, Nat.le_of_ble_eq_true rfl⟩) rfl hl.1 rfl (Nat.le_of_ble_eq_true rfl) dL_most_103 ⟨Nat.le_of_ble_eq_true rfl, Nat.le_of_ble_eq_true rfl⟩ (fun r9 V7 α7 H locs hq hw hS => ?_)
  obtain ⟨er, hC, hO⟩ := hq
  have hC : mC G V7 α7 mF16 1 12 80 := hC
  have e0 : α7 0 = α6 0 := (hO 0 (by omega)).2
  have hl : lv_has ls 2 [(1, .int (0)), (0, .ref (α7 (0)))] := by rw [e0]; exact hl
  obtain rfl : r9 = 0 := er.symm.trans (by decide)
  refine lv_iload_n hx hb dL_most_106 rfl (lv_at hl 0 rfl) ?_
  refine lv_bipush (v := (16)) hx hb dL_most_107 (by decide) ?_
  refine lv_icmp_ge (tgt := 116) hx hb dL_most_109 (by decide) (fun z => absurd z ((by decide))) (fun c32 => ?_)
  refine lv_iload_n hx hb dL_most_112 rfl (lv_at hl 0 rfl) ?_
  refine lv_goto (tgt := 118) hx hb dL_most_113 (by decide) ?_
  refine lv_icmp_eq (tgt := 123) hx hb dL_most_118 (by decide) (fun c33 => ?_) (fun z => absurd ((by decide)) z)
  refine lv_iinc (v := 1) (lv' := [(1, .int (1)), (0, .ref (α7 (0)))]) hx hb dL_most_123 hl (k := 0) rfl (by decide) (by decide) rfl (fun ls hl => ?_)
  refine lv_goto (tgt := 85) hx hb dL_most_126 (by decide) ?_
  refine lv_iload_n hx hb dL_most_85 rfl (lv_at hl 0 rfl) ?_
  refine lv_bipush (v := (17)) hx hb dL_most_86 (by decide) ?_
  refine lv_icmp_ge (tgt := 129) hx hb dL_most_88 (by decide) (fun z => absurd z ((by decide))) (fun c34 => ?_)
  refine lv_aload_n hx hb dL_most_91 rfl (lv_at hl 1 rfl) ?_
  refine lv_bipush (v := (127)) hx hb dL_most_92 (by decide) ?_
  refine lv_iconst (v := (0)) hx hb dL_most_94 (by decide) ?_
  refine lv_bipush (v := (96)) hx hb dL_most_95 (by decide) ?_
  refine lv_bipush (v := (8)) hx hb dL_most_97 (by decide) ?_
  refine lv_bipush (v := (100)) hx hb dL_most_99 (by decide) ?_
  refine lv_iload_n hx hb dL_most_101 rfl (lv_at hl 0 rfl) ?_
  refine lv_iadd hx hb dL_most_102 ?_
  refine lv_topi (fun y35 ey35 => ?_)
  obtain rfl : y35 = 101 := ey35.trans (by decide)
  refine mcallSWi hw ⟨hx, hb, hml, hown, hts⟩ hS (w_X3_addRule hC wf_mF16 127 0 96 8 101 (by decide) (by decide) (by decide) (by decide) (by decide) (by decide) ) (vx_cwSW 6 hts gL_most_L_rule rfl rfl rfl (by decide +kernel) ⟨Nat.le_of_ble_eq_true rfl, Nat.le_of_ble_eq_true rfl⟩) rfl hl.1 rfl (Nat.le_of_ble_eq_true rfl) dL_most_103 ⟨Nat.le_of_ble_eq_true rfl, Nat.le_of_ble_eq_true rfl⟩ (fun r9 V8 α8 H locs hq hw hS => ?_)
  obtain ⟨er, hC, hO⟩ := hq
  have hC : mC G V8 α8 mF17 2 12 80 := hC
  have e0 : α8 0 = α7 0 := (hO 0 (by omega)).2
  have hl : lv_has ls 2 [(1, .int (1)), (0, .ref (α8 (0)))] := by rw [e0]; exact hl
  obtain rfl : r9 = 1 := er.symm.trans (by decide)
  refine lv_iload_n hx hb dL_most_106 rfl (lv_at hl 0 rfl) ?_
  refine lv_bipush (v := (16)) hx hb dL_most_107 (by decide) ?_
  refine lv_icmp_ge (tgt := 116) hx hb dL_most_109 (by decide) (fun z => absurd z ((by decide))) (fun c36 => ?_)
  refine lv_iload_n hx hb dL_most_112 rfl (lv_at hl 0 rfl) ?_
  refine lv_goto (tgt := 118) hx hb dL_most_113 (by decide) ?_
  refine lv_icmp_eq (tgt := 123) hx hb dL_most_118 (by decide) (fun c37 => ?_) (fun z => absurd ((by decide)) z)
  refine lv_iinc (v := 2) (lv' := [(1, .int (2)), (0, .ref (α8 (0)))]) hx hb dL_most_123 hl (k := 0) rfl (by decide) (by decide) rfl (fun ls hl => ?_)
  refine lv_goto (tgt := 85) hx hb dL_most_126 (by decide) ?_
  refine lv_iload_n hx hb dL_most_85 rfl (lv_at hl 0 rfl) ?_
  refine lv_bipush (v := (17)) hx hb dL_most_86 (by decide) ?_
  refine lv_icmp_ge (tgt := 129) hx hb dL_most_88 (by decide) (fun z => absurd z ((by decide))) (fun c38 => ?_)
  refine lv_aload_n hx hb dL_most_91 rfl (lv_at hl 1 rfl) ?_
  refine lv_bipush (v := (127)) hx hb dL_most_92 (by decide) ?_
  refine lv_iconst (v := (0)) hx hb dL_most_94 (by decide) ?_
  refine lv_bipush (v := (96)) hx hb dL_most_95 (by decide) ?_
  refine lv_bipush (v := (8)) hx hb dL_most_97 (by decide) ?_
  refine lv_bipush (v := (100)) hx hb dL_most_99 (by decide) ?_
  refine lv_iload_n hx hb dL_most_101 rfl (lv_at hl 0 rfl) ?_
  refine lv_iadd hx hb dL_most_102 ?_
  refine lv_topi (fun y39 ey39 => ?_)
  obtain rfl : y39 = 102 := ey39.trans (by decide)
  refine mcallSWi hw ⟨hx, hb, hml, hown, hts⟩ hS (w_X3_addRule hC wf_mF17 127 0 96 8 102 (by decide) (by decide) (by decide) (by decide) (by decide) (by decide) ) (vx_cwSW 6 hts gL_most_L_rule rfl rfl rfl (by decide +kernel) ⟨Nat.le_of_ble_eq_true rfl, Nat.le_of_ble_eq_true rfl⟩) rfl hl.1 rfl (Nat.le_of_ble_eq_true rfl) dL_most_103 ⟨Nat.le_of_ble_eq_true rfl, Nat.le_of_ble_eq_true rfl⟩ (fun r9 V9 α9 H locs hq hw hS => ?_)
  obtain ⟨er, hC, hO⟩ := hq
  have hC : mC G V9 α9 mF18 3 12 80 := hC
  have e0 : α9 0 = α8 0 := (hO 0 (by omega)).2
  have hl : lv_has ls 2 [(1, .int (2)), (0, .ref (α9 (0)))] := by rw [e0]; exact hl
  obtain rfl : r9 = 2 := er.symm.trans (by decide)
  refine lv_iload_n hx hb dL_most_106 rfl (lv_at hl 0 rfl) ?_
  refine lv_bipush (v := (16)) hx hb dL_most_107 (by decide) ?_
  refine lv_icmp_ge (tgt := 116) hx hb dL_most_109 (by decide) (fun z => absurd z ((by decide))) (fun c40 => ?_)
  refine lv_iload_n hx hb dL_most_112 rfl (lv_at hl 0 rfl) ?_
  refine lv_goto (tgt := 118) hx hb dL_most_113 (by decide) ?_
  refine lv_icmp_eq (tgt := 123) hx hb dL_most_118 (by decide) (fun c41 => ?_) (fun z => absurd ((by decide)) z)
  exact kk _ _ _ _ _ hC hl hw hS

set_option maxHeartbeats 40000000 in
set_option maxRecDepth 100000 in
theorem m_s2 {p : Program} {l : Launch} {e : Env} {s : State} {m : MethodId} {args : Array Value} {below : List Frame} {meth : Method} {c : Code} {Q : State → Prop} {G : mG} {V : mV} {α : Nat → Nat} (hl0 : l.stackTraces = false) (hx : p.tables.exec = Jvm.exec) (hb : c.code = cL_most) (hml : c.maxLocals = 2) (hown : s.vm.findClass RL = some m.cls) (hts : ∀ w ∈ wsL_most, w.before args s = true) (hC : mC G V α mF18 3 12 80)
    (kk : ∀ (V : mV) (α : Nat → Nat) (H : Heap) (locs : List Loc) (ls : Array Slot), mC G V α mF28 13 12 80 → lv_has ls 2 [(1, .int (12)), (0, .ref (α (0)))] → mW G V α s H → va_S (mfree G) s.heap H locs → W p l e ({ frames := 10, cells := 201, slots := 7344, locals := 343 } : Room) s m args below meth c H locs 58 5892 Q (F0 m 123 ls []))
    (H : Heap) (locs : List Loc) (ls : Array Slot) (hl : lv_has ls 2 [(1, .int (2)), (0, .ref (α (0)))]) (hw : mW G V α s H) (hS : va_S (mfree G) s.heap H locs) : W p l e ({ frames := 10, cells := 201, slots := 7344, locals := 343 } : Room) s m args below meth c H locs 38 3792 Q (F0 m 123 ls []) := by
  refine lv_iinc (v := 3) (lv' := [(1, .int (3)), (0, .ref (α (0)))]) hx hb dL_most_123 hl (k := 0) rfl (by decide) (by decide) rfl (fun ls hl => ?_)
  refine lv_goto (tgt := 85) hx hb dL_most_126 (by decide) ?_
  refine lv_iload_n hx hb dL_most_85 rfl (lv_at hl 0 rfl) ?_
  refine lv_bipush (v := (17)) hx hb dL_most_86 (by decide) ?_
  refine lv_icmp_ge (tgt := 129) hx hb dL_most_88 (by decide) (fun z => absurd z ((by decide))) (fun c1 => ?_)
  refine lv_aload_n hx hb dL_most_91 rfl (lv_at hl 1 rfl) ?_
  refine lv_bipush (v := (127)) hx hb dL_most_92 (by decide) ?_
  refine lv_iconst (v := (0)) hx hb dL_most_94 (by decide) ?_
  refine lv_bipush (v := (96)) hx hb dL_most_95 (by decide) ?_
  refine lv_bipush (v := (8)) hx hb dL_most_97 (by decide) ?_
  refine lv_bipush (v := (100)) hx hb dL_most_99 (by decide) ?_
  refine lv_iload_n hx hb dL_most_101 rfl (lv_at hl 0 rfl) ?_
  refine lv_iadd hx hb dL_most_102 ?_
  refine lv_topi (fun y2 ey2 => ?_)
  obtain rfl : y2 = 103 := ey2.trans (by decide)
  refine mcallSWi hw ⟨hx, hb, hml, hown, hts⟩ hS (w_X3_addRule hC wf_mF18 127 0 96 8 103 (by decide) (by decide) (by decide) (by decide) (by decide) (by decide) ) (vx_cwSW 6 hts gL_most_L_rule rfl rfl rfl (by decide +kernel) ⟨Nat.le_of_ble_eq_true rfl, Nat.le_of_ble_eq_true rfl⟩) rfl hl.1 rfl (Nat.le_of_ble_eq_true rfl) dL_most_103 ⟨Nat.le_of_ble_eq_true rfl, Nat.le_of_ble_eq_true rfl⟩ (fun r9 V1 α1 H locs hq hw hS => ?_)
  obtain ⟨er, hC, hO⟩ := hq
  have hC : mC G V1 α1 mF19 4 12 80 := hC
  have e0 : α1 0 = α 0 := (hO 0 (by omega)).2
  have hl : lv_has ls 2 [(1, .int (3)), (0, .ref (α1 (0)))] := by rw [e0]; exact hl
  obtain rfl : r9 = 3 := er.symm.trans (by decide)
  refine lv_iload_n hx hb dL_most_106 rfl (lv_at hl 0 rfl) ?_
  refine lv_bipush (v := (16)) hx hb dL_most_107 (by decide) ?_
  refine lv_icmp_ge (tgt := 116) hx hb dL_most_109 (by decide) (fun z => absurd z ((by decide))) (fun c3 => ?_)
  refine lv_iload_n hx hb dL_most_112 rfl (lv_at hl 0 rfl) ?_
  refine lv_goto (tgt := 118) hx hb dL_most_113 (by decide) ?_
  refine lv_icmp_eq (tgt := 123) hx hb dL_most_118 (by decide) (fun c4 => ?_) (fun z => absurd ((by decide)) z)
  refine lv_iinc (v := 4) (lv' := [(1, .int (4)), (0, .ref (α1 (0)))]) hx hb dL_most_123 hl (k := 0) rfl (by decide) (by decide) rfl (fun ls hl => ?_)
  refine lv_goto (tgt := 85) hx hb dL_most_126 (by decide) ?_
  refine lv_iload_n hx hb dL_most_85 rfl (lv_at hl 0 rfl) ?_
  refine lv_bipush (v := (17)) hx hb dL_most_86 (by decide) ?_
  refine lv_icmp_ge (tgt := 129) hx hb dL_most_88 (by decide) (fun z => absurd z ((by decide))) (fun c5 => ?_)
  refine lv_aload_n hx hb dL_most_91 rfl (lv_at hl 1 rfl) ?_
  refine lv_bipush (v := (127)) hx hb dL_most_92 (by decide) ?_
  refine lv_iconst (v := (0)) hx hb dL_most_94 (by decide) ?_
  refine lv_bipush (v := (96)) hx hb dL_most_95 (by decide) ?_
  refine lv_bipush (v := (8)) hx hb dL_most_97 (by decide) ?_
  refine lv_bipush (v := (100)) hx hb dL_most_99 (by decide) ?_
  refine lv_iload_n hx hb dL_most_101 rfl (lv_at hl 0 rfl) ?_
  refine lv_iadd hx hb dL_most_102 ?_
  refine lv_topi (fun y6 ey6 => ?_)
  obtain rfl : y6 = 104 := ey6.trans (by decide)
  refine mcallSWi hw ⟨hx, hb, hml, hown, hts⟩ hS (w_X3_addRule hC wf_mF19 127 0 96 8 104 (by decide) (by decide) (by decide) (by decide) (by decide) (by decide) ) (vx_cwSW 6 hts gL_most_L_rule rfl rfl rfl (by decide +kernel) ⟨Nat.le_of_ble_eq_true rfl, Nat.le_of_ble_eq_true rfl⟩) rfl hl.1 rfl (Nat.le_of_ble_eq_true rfl) dL_most_103 ⟨Nat.le_of_ble_eq_true rfl, Nat.le_of_ble_eq_true rfl⟩ (fun r9 V2 α2 H locs hq hw hS => ?_)
  obtain ⟨er, hC, hO⟩ := hq
  have hC : mC G V2 α2 mF20 5 12 80 := hC
  have e0 : α2 0 = α1 0 := (hO 0 (by omega)).2
  have hl : lv_has ls 2 [(1, .int (4)), (0, .ref (α2 (0)))] := by rw [e0]; exact hl
  obtain rfl : r9 = 4 := er.symm.trans (by decide)
  refine lv_iload_n hx hb dL_most_106 rfl (lv_at hl 0 rfl) ?_
  refine lv_bipush (v := (16)) hx hb dL_most_107 (by decide) ?_
  refine lv_icmp_ge (tgt := 116) hx hb dL_most_109 (by decide) (fun z => absurd z ((by decide))) (fun c7 => ?_)
  refine lv_iload_n hx hb dL_most_112 rfl (lv_at hl 0 rfl) ?_
  refine lv_goto (tgt := 118) hx hb dL_most_113 (by decide) ?_
  refine lv_icmp_eq (tgt := 123) hx hb dL_most_118 (by decide) (fun c8 => ?_) (fun z => absurd ((by decide)) z)
  refine lv_iinc (v := 5) (lv' := [(1, .int (5)), (0, .ref (α2 (0)))]) hx hb dL_most_123 hl (k := 0) rfl (by decide) (by decide) rfl (fun ls hl => ?_)
  refine lv_goto (tgt := 85) hx hb dL_most_126 (by decide) ?_
  refine lv_iload_n hx hb dL_most_85 rfl (lv_at hl 0 rfl) ?_
  refine lv_bipush (v := (17)) hx hb dL_most_86 (by decide) ?_
  refine lv_icmp_ge (tgt := 129) hx hb dL_most_88 (by decide) (fun z => absurd z ((by decide))) (fun c9 => ?_)
  refine lv_aload_n hx hb dL_most_91 rfl (lv_at hl 1 rfl) ?_
  refine lv_bipush (v := (127)) hx hb dL_most_92 (by decide) ?_
  refine lv_iconst (v := (0)) hx hb dL_most_94 (by decide) ?_
  refine lv_bipush (v := (96)) hx hb dL_most_95 (by decide) ?_
  refine lv_bipush (v := (8)) hx hb dL_most_97 (by decide) ?_
  refine lv_bipush (v := (100)) hx hb dL_most_99 (by decide) ?_
  refine lv_iload_n hx hb dL_most_101 rfl (lv_at hl 0 rfl) ?_
  refine lv_iadd hx hb dL_most_102 ?_
  refine lv_topi (fun y10 ey10 => ?_)
  obtain rfl : y10 = 105 := ey10.trans (by decide)
  refine mcallSWi hw ⟨hx, hb, hml, hown, hts⟩ hS (w_X3_addRule hC wf_mF20 127 0 96 8 105 (by decide) (by decide) (by decide) (by decide) (by decide) (by decide) ) (vx_cwSW 6 hts gL_most_L_rule rfl rfl rfl (by decide +kernel) ⟨Nat.le_of_ble_eq_true rfl, Nat.le_of_ble_eq_true rfl⟩) rfl hl.1 rfl (Nat.le_of_ble_eq_true rfl) dL_most_103 ⟨Nat.le_of_ble_eq_true rfl, Nat.le_of_ble_eq_true rfl⟩ (fun r9 V3 α3 H locs hq hw hS => ?_)
  obtain ⟨er, hC, hO⟩ := hq
  have hC : mC G V3 α3 mF21 6 12 80 := hC
  have e0 : α3 0 = α2 0 := (hO 0 (by omega)).2
  have hl : lv_has ls 2 [(1, .int (5)), (0, .ref (α3 (0)))] := by rw [e0]; exact hl
  obtain rfl : r9 = 5 := er.symm.trans (by decide)
  refine lv_iload_n hx hb dL_most_106 rfl (lv_at hl 0 rfl) ?_
  refine lv_bipush (v := (16)) hx hb dL_most_107 (by decide) ?_
  refine lv_icmp_ge (tgt := 116) hx hb dL_most_109 (by decide) (fun z => absurd z ((by decide))) (fun c11 => ?_)
  refine lv_iload_n hx hb dL_most_112 rfl (lv_at hl 0 rfl) ?_
  refine lv_goto (tgt := 118) hx hb dL_most_113 (by decide) ?_
  refine lv_icmp_eq (tgt := 123) hx hb dL_most_118 (by decide) (fun c12 => ?_) (fun z => absurd ((by decide)) z)
  refine lv_iinc (v := 6) (lv' := [(1, .int (6)), (0, .ref (α3 (0)))]) hx hb dL_most_123 hl (k := 0) rfl (by decide) (by decide) rfl (fun ls hl => ?_)
  refine lv_goto (tgt := 85) hx hb dL_most_126 (by decide) ?_
  refine lv_iload_n hx hb dL_most_85 rfl (lv_at hl 0 rfl) ?_
  refine lv_bipush (v := (17)) hx hb dL_most_86 (by decide) ?_
  refine lv_icmp_ge (tgt := 129) hx hb dL_most_88 (by decide) (fun z => absurd z ((by decide))) (fun c13 => ?_)
  refine lv_aload_n hx hb dL_most_91 rfl (lv_at hl 1 rfl) ?_
  refine lv_bipush (v := (127)) hx hb dL_most_92 (by decide) ?_
  refine lv_iconst (v := (0)) hx hb dL_most_94 (by decide) ?_
  refine lv_bipush (v := (96)) hx hb dL_most_95 (by decide) ?_
  refine lv_bipush (v := (8)) hx hb dL_most_97 (by decide) ?_
  refine lv_bipush (v := (100)) hx hb dL_most_99 (by decide) ?_
  refine lv_iload_n hx hb dL_most_101 rfl (lv_at hl 0 rfl) ?_
  refine lv_iadd hx hb dL_most_102 ?_
  refine lv_topi (fun y14 ey14 => ?_)
  obtain rfl : y14 = 106 := ey14.trans (by decide)
  refine mcallSWi hw ⟨hx, hb, hml, hown, hts⟩ hS (w_X3_addRule hC wf_mF21 127 0 96 8 106 (by decide) (by decide) (by decide) (by decide) (by decide) (by decide) ) (vx_cwSW 6 hts gL_most_L_rule rfl rfl rfl (by decide +kernel) ⟨Nat.le_of_ble_eq_true rfl, Nat.le_of_ble_eq_true rfl⟩) rfl hl.1 rfl (Nat.le_of_ble_eq_true rfl) dL_most_103 ⟨Nat.le_of_ble_eq_true rfl, Nat.le_of_ble_eq_true rfl⟩ (fun r9 V4 α4 H locs hq hw hS => ?_)
  obtain ⟨er, hC, hO⟩ := hq
  have hC : mC G V4 α4 mF22 7 12 80 := hC
  have e0 : α4 0 = α3 0 := (hO 0 (by omega)).2
  have hl : lv_has ls 2 [(1, .int (6)), (0, .ref (α4 (0)))] := by rw [e0]; exact hl
  obtain rfl : r9 = 6 := er.symm.trans (by decide)
  refine lv_iload_n hx hb dL_most_106 rfl (lv_at hl 0 rfl) ?_
  refine lv_bipush (v := (16)) hx hb dL_most_107 (by decide) ?_
  refine lv_icmp_ge (tgt := 116) hx hb dL_most_109 (by decide) (fun z => absurd z ((by decide))) (fun c15 => ?_)
  refine lv_iload_n hx hb dL_most_112 rfl (lv_at hl 0 rfl) ?_
  refine lv_goto (tgt := 118) hx hb dL_most_113 (by decide) ?_
  refine lv_icmp_eq (tgt := 123) hx hb dL_most_118 (by decide) (fun c16 => ?_) (fun z => absurd ((by decide)) z)
  refine lv_iinc (v := 7) (lv' := [(1, .int (7)), (0, .ref (α4 (0)))]) hx hb dL_most_123 hl (k := 0) rfl (by decide) (by decide) rfl (fun ls hl => ?_)
  refine lv_goto (tgt := 85) hx hb dL_most_126 (by decide) ?_
  refine lv_iload_n hx hb dL_most_85 rfl (lv_at hl 0 rfl) ?_
  refine lv_bipush (v := (17)) hx hb dL_most_86 (by decide) ?_
  refine lv_icmp_ge (tgt := 129) hx hb dL_most_88 (by decide) (fun z => absurd z ((by decide))) (fun c17 => ?_)
  refine lv_aload_n hx hb dL_most_91 rfl (lv_at hl 1 rfl) ?_
  refine lv_bipush (v := (127)) hx hb dL_most_92 (by decide) ?_
  refine lv_iconst (v := (0)) hx hb dL_most_94 (by decide) ?_
  refine lv_bipush (v := (96)) hx hb dL_most_95 (by decide) ?_
  refine lv_bipush (v := (8)) hx hb dL_most_97 (by decide) ?_
  refine lv_bipush (v := (100)) hx hb dL_most_99 (by decide) ?_
  refine lv_iload_n hx hb dL_most_101 rfl (lv_at hl 0 rfl) ?_
  refine lv_iadd hx hb dL_most_102 ?_
  refine lv_topi (fun y18 ey18 => ?_)
  obtain rfl : y18 = 107 := ey18.trans (by decide)
  refine mcallSWi hw ⟨hx, hb, hml, hown, hts⟩ hS (w_X3_addRule hC wf_mF22 127 0 96 8 107 (by decide) (by decide) (by decide) (by decide) (by decide) (by decide) ) (vx_cwSW 6 hts gL_most_L_rule rfl rfl rfl (by decide +kernel) ⟨Nat.le_of_ble_eq_true rfl, Nat.le_of_ble_eq_true rfl⟩) rfl hl.1 rfl (Nat.le_of_ble_eq_true rfl) dL_most_103 ⟨Nat.le_of_ble_eq_true rfl, Nat.le_of_ble_eq_true rfl⟩ (fun r9 V5 α5 H locs hq hw hS => ?_)
  obtain ⟨er, hC, hO⟩ := hq
  have hC : mC G V5 α5 mF23 8 12 80 := hC
  have e0 : α5 0 = α4 0 := (hO 0 (by omega)).2
  have hl : lv_has ls 2 [(1, .int (7)), (0, .ref (α5 (0)))] := by rw [e0]; exact hl
  obtain rfl : r9 = 7 := er.symm.trans (by decide)
  refine lv_iload_n hx hb dL_most_106 rfl (lv_at hl 0 rfl) ?_
  refine lv_bipush (v := (16)) hx hb dL_most_107 (by decide) ?_
  refine lv_icmp_ge (tgt := 116) hx hb dL_most_109 (by decide) (fun z => absurd z ((by decide))) (fun c19 => ?_)
  refine lv_iload_n hx hb dL_most_112 rfl (lv_at hl 0 rfl) ?_
  refine lv_goto (tgt := 118) hx hb dL_most_113 (by decide) ?_
  refine lv_icmp_eq (tgt := 123) hx hb dL_most_118 (by decide) (fun c20 => ?_) (fun z => absurd ((by decide)) z)
  refine lv_iinc (v := 8) (lv' := [(1, .int (8)), (0, .ref (α5 (0)))]) hx hb dL_most_123 hl (k := 0) rfl (by decide) (by decide) rfl (fun ls hl => ?_)
  refine lv_goto (tgt := 85) hx hb dL_most_126 (by decide) ?_
  refine lv_iload_n hx hb dL_most_85 rfl (lv_at hl 0 rfl) ?_
  refine lv_bipush (v := (17)) hx hb dL_most_86 (by decide) ?_
  refine lv_icmp_ge (tgt := 129) hx hb dL_most_88 (by decide) (fun z => absurd z ((by decide))) (fun c21 => ?_)
  refine lv_aload_n hx hb dL_most_91 rfl (lv_at hl 1 rfl) ?_
  refine lv_bipush (v := (127)) hx hb dL_most_92 (by decide) ?_
  refine lv_iconst (v := (0)) hx hb dL_most_94 (by decide) ?_
  refine lv_bipush (v := (96)) hx hb dL_most_95 (by decide) ?_
  refine lv_bipush (v := (8)) hx hb dL_most_97 (by decide) ?_
  refine lv_bipush (v := (100)) hx hb dL_most_99 (by decide) ?_
  refine lv_iload_n hx hb dL_most_101 rfl (lv_at hl 0 rfl) ?_
  refine lv_iadd hx hb dL_most_102 ?_
  refine lv_topi (fun y22 ey22 => ?_)
  obtain rfl : y22 = 108 := ey22.trans (by decide)
  refine mcallSWi hw ⟨hx, hb, hml, hown, hts⟩ hS (w_X3_addRule hC wf_mF23 127 0 96 8 108 (by decide) (by decide) (by decide) (by decide) (by decide) (by decide) ) (vx_cwSW 6 hts gL_most_L_rule rfl rfl rfl (by decide +kernel) ⟨Nat.le_of_ble_eq_true rfl, Nat.le_of_ble_eq_true rfl⟩) rfl hl.1 rfl (Nat.le_of_ble_eq_true rfl) dL_most_103 ⟨Nat.le_of_ble_eq_true rfl, Nat.le_of_ble_eq_true rfl⟩ (fun r9 V6 α6 H locs hq hw hS => ?_)
  obtain ⟨er, hC, hO⟩ := hq
  have hC : mC G V6 α6 mF24 9 12 80 := hC
  have e0 : α6 0 = α5 0 := (hO 0 (by omega)).2
  have hl : lv_has ls 2 [(1, .int (8)), (0, .ref (α6 (0)))] := by rw [e0]; exact hl
  obtain rfl : r9 = 8 := er.symm.trans (by decide)
  refine lv_iload_n hx hb dL_most_106 rfl (lv_at hl 0 rfl) ?_
  refine lv_bipush (v := (16)) hx hb dL_most_107 (by decide) ?_
  refine lv_icmp_ge (tgt := 116) hx hb dL_most_109 (by decide) (fun z => absurd z ((by decide))) (fun c23 => ?_)
  refine lv_iload_n hx hb dL_most_112 rfl (lv_at hl 0 rfl) ?_
  refine lv_goto (tgt := 118) hx hb dL_most_113 (by decide) ?_
  refine lv_icmp_eq (tgt := 123) hx hb dL_most_118 (by decide) (fun c24 => ?_) (fun z => absurd ((by decide)) z)
  refine lv_iinc (v := 9) (lv' := [(1, .int (9)), (0, .ref (α6 (0)))]) hx hb dL_most_123 hl (k := 0) rfl (by decide) (by decide) rfl (fun ls hl => ?_)
  refine lv_goto (tgt := 85) hx hb dL_most_126 (by decide) ?_
  refine lv_iload_n hx hb dL_most_85 rfl (lv_at hl 0 rfl) ?_
  refine lv_bipush (v := (17)) hx hb dL_most_86 (by decide) ?_
  refine lv_icmp_ge (tgt := 129) hx hb dL_most_88 (by decide) (fun z => absurd z ((by decide))) (fun c25 => ?_)
  refine lv_aload_n hx hb dL_most_91 rfl (lv_at hl 1 rfl) ?_
  refine lv_bipush (v := (127)) hx hb dL_most_92 (by decide) ?_
  refine lv_iconst (v := (0)) hx hb dL_most_94 (by decide) ?_
  refine lv_bipush (v := (96)) hx hb dL_most_95 (by decide) ?_
  refine lv_bipush (v := (8)) hx hb dL_most_97 (by decide) ?_
  refine lv_bipush (v := (100)) hx hb dL_most_99 (by decide) ?_
  refine lv_iload_n hx hb dL_most_101 rfl (lv_at hl 0 rfl) ?_
  refine lv_iadd hx hb dL_most_102 ?_
  refine lv_topi (fun y26 ey26 => ?_)
  obtain rfl : y26 = 109 := ey26.trans (by decide)
  refine mcallSWi hw ⟨hx, hb, hml, hown, hts⟩ hS (w_X3_addRule hC wf_mF24 127 0 96 8 109 (by decide) (by decide) (by decide) (by decide) (by decide) (by decide) ) (vx_cwSW 6 hts gL_most_L_rule rfl rfl rfl (by decide +kernel) ⟨Nat.le_of_ble_eq_true rfl, Nat.le_of_ble_eq_true rfl⟩) rfl hl.1 rfl (Nat.le_of_ble_eq_true rfl) dL_most_103 ⟨Nat.le_of_ble_eq_true rfl, Nat.le_of_ble_eq_true rfl⟩ (fun r9 V7 α7 H locs hq hw hS => ?_)
  obtain ⟨er, hC, hO⟩ := hq
  have hC : mC G V7 α7 mF25 10 12 80 := hC
  have e0 : α7 0 = α6 0 := (hO 0 (by omega)).2
  have hl : lv_has ls 2 [(1, .int (9)), (0, .ref (α7 (0)))] := by rw [e0]; exact hl
  obtain rfl : r9 = 9 := er.symm.trans (by decide)
  refine lv_iload_n hx hb dL_most_106 rfl (lv_at hl 0 rfl) ?_
  refine lv_bipush (v := (16)) hx hb dL_most_107 (by decide) ?_
  refine lv_icmp_ge (tgt := 116) hx hb dL_most_109 (by decide) (fun z => absurd z ((by decide))) (fun c27 => ?_)
  refine lv_iload_n hx hb dL_most_112 rfl (lv_at hl 0 rfl) ?_
  refine lv_goto (tgt := 118) hx hb dL_most_113 (by decide) ?_
  refine lv_icmp_eq (tgt := 123) hx hb dL_most_118 (by decide) (fun c28 => ?_) (fun z => absurd ((by decide)) z)
  refine lv_iinc (v := 10) (lv' := [(1, .int (10)), (0, .ref (α7 (0)))]) hx hb dL_most_123 hl (k := 0) rfl (by decide) (by decide) rfl (fun ls hl => ?_)
  refine lv_goto (tgt := 85) hx hb dL_most_126 (by decide) ?_
  refine lv_iload_n hx hb dL_most_85 rfl (lv_at hl 0 rfl) ?_
  refine lv_bipush (v := (17)) hx hb dL_most_86 (by decide) ?_
  refine lv_icmp_ge (tgt := 129) hx hb dL_most_88 (by decide) (fun z => absurd z ((by decide))) (fun c29 => ?_)
  refine lv_aload_n hx hb dL_most_91 rfl (lv_at hl 1 rfl) ?_
  refine lv_bipush (v := (127)) hx hb dL_most_92 (by decide) ?_
  refine lv_iconst (v := (0)) hx hb dL_most_94 (by decide) ?_
  refine lv_bipush (v := (96)) hx hb dL_most_95 (by decide) ?_
  refine lv_bipush (v := (8)) hx hb dL_most_97 (by decide) ?_
  refine lv_bipush (v := (100)) hx hb dL_most_99 (by decide) ?_
  refine lv_iload_n hx hb dL_most_101 rfl (lv_at hl 0 rfl) ?_
  refine lv_iadd hx hb dL_most_102 ?_
  refine lv_topi (fun y30 ey30 => ?_)
  obtain rfl : y30 = 110 := ey30.trans (by decide)
  refine mcallSWi hw ⟨hx, hb, hml, hown, hts⟩ hS (w_X3_addRule hC wf_mF25 127 0 96 8 110 (by decide) (by decide) (by decide) (by decide) (by decide) (by decide) ) (vx_cwSW 6 hts gL_most_L_rule rfl rfl rfl (by decide +kernel) ⟨Nat.le_of_ble_eq_true rfl, Nat.le_of_ble_eq_true rfl⟩) rfl hl.1 rfl (Nat.le_of_ble_eq_true rfl) dL_most_103 ⟨Nat.le_of_ble_eq_true rfl, Nat.le_of_ble_eq_true rfl⟩ (fun r9 V8 α8 H locs hq hw hS => ?_)
  obtain ⟨er, hC, hO⟩ := hq
  have hC : mC G V8 α8 mF26 11 12 80 := hC
  have e0 : α8 0 = α7 0 := (hO 0 (by omega)).2
  have hl : lv_has ls 2 [(1, .int (10)), (0, .ref (α8 (0)))] := by rw [e0]; exact hl
  obtain rfl : r9 = 10 := er.symm.trans (by decide)
  refine lv_iload_n hx hb dL_most_106 rfl (lv_at hl 0 rfl) ?_
  refine lv_bipush (v := (16)) hx hb dL_most_107 (by decide) ?_
  refine lv_icmp_ge (tgt := 116) hx hb dL_most_109 (by decide) (fun z => absurd z ((by decide))) (fun c31 => ?_)
  refine lv_iload_n hx hb dL_most_112 rfl (lv_at hl 0 rfl) ?_
  refine lv_goto (tgt := 118) hx hb dL_most_113 (by decide) ?_
  refine lv_icmp_eq (tgt := 123) hx hb dL_most_118 (by decide) (fun c32 => ?_) (fun z => absurd ((by decide)) z)
  refine lv_iinc (v := 11) (lv' := [(1, .int (11)), (0, .ref (α8 (0)))]) hx hb dL_most_123 hl (k := 0) rfl (by decide) (by decide) rfl (fun ls hl => ?_)
  refine lv_goto (tgt := 85) hx hb dL_most_126 (by decide) ?_
  refine lv_iload_n hx hb dL_most_85 rfl (lv_at hl 0 rfl) ?_
  refine lv_bipush (v := (17)) hx hb dL_most_86 (by decide) ?_
  refine lv_icmp_ge (tgt := 129) hx hb dL_most_88 (by decide) (fun z => absurd z ((by decide))) (fun c33 => ?_)
  refine lv_aload_n hx hb dL_most_91 rfl (lv_at hl 1 rfl) ?_
  refine lv_bipush (v := (127)) hx hb dL_most_92 (by decide) ?_
  refine lv_iconst (v := (0)) hx hb dL_most_94 (by decide) ?_
  refine lv_bipush (v := (96)) hx hb dL_most_95 (by decide) ?_
  refine lv_bipush (v := (8)) hx hb dL_most_97 (by decide) ?_
  refine lv_bipush (v := (100)) hx hb dL_most_99 (by decide) ?_
  refine lv_iload_n hx hb dL_most_101 rfl (lv_at hl 0 rfl) ?_
  refine lv_iadd hx hb dL_most_102 ?_
  refine lv_topi (fun y34 ey34 => ?_)
  obtain rfl : y34 = 111 := ey34.trans (by decide)
  refine mcallSWi hw ⟨hx, hb, hml, hown, hts⟩ hS (w_X3_addRule hC wf_mF26 127 0 96 8 111 (by decide) (by decide) (by decide) (by decide) (by decide) (by decide) ) (vx_cwSW 6 hts gL_most_L_rule rfl rfl rfl (by decide +kernel) ⟨Nat.le_of_ble_eq_true rfl, Nat.le_of_ble_eq_true rfl⟩) rfl hl.1 rfl (Nat.le_of_ble_eq_true rfl) dL_most_103 ⟨Nat.le_of_ble_eq_true rfl, Nat.le_of_ble_eq_true rfl⟩ (fun r9 V9 α9 H locs hq hw hS => ?_)
  obtain ⟨er, hC, hO⟩ := hq
  have hC : mC G V9 α9 mF27 12 12 80 := hC
  have e0 : α9 0 = α8 0 := (hO 0 (by omega)).2
  have hl : lv_has ls 2 [(1, .int (11)), (0, .ref (α9 (0)))] := by rw [e0]; exact hl
  obtain rfl : r9 = 11 := er.symm.trans (by decide)
  refine lv_iload_n hx hb dL_most_106 rfl (lv_at hl 0 rfl) ?_
  refine lv_bipush (v := (16)) hx hb dL_most_107 (by decide) ?_
  refine lv_icmp_ge (tgt := 116) hx hb dL_most_109 (by decide) (fun z => absurd z ((by decide))) (fun c35 => ?_)
  refine lv_iload_n hx hb dL_most_112 rfl (lv_at hl 0 rfl) ?_
  refine lv_goto (tgt := 118) hx hb dL_most_113 (by decide) ?_
  refine lv_icmp_eq (tgt := 123) hx hb dL_most_118 (by decide) (fun c36 => ?_) (fun z => absurd ((by decide)) z)
  refine lv_iinc (v := 12) (lv' := [(1, .int (12)), (0, .ref (α9 (0)))]) hx hb dL_most_123 hl (k := 0) rfl (by decide) (by decide) rfl (fun ls hl => ?_)
  refine lv_goto (tgt := 85) hx hb dL_most_126 (by decide) ?_
  refine lv_iload_n hx hb dL_most_85 rfl (lv_at hl 0 rfl) ?_
  refine lv_bipush (v := (17)) hx hb dL_most_86 (by decide) ?_
  refine lv_icmp_ge (tgt := 129) hx hb dL_most_88 (by decide) (fun z => absurd z ((by decide))) (fun c37 => ?_)
  refine lv_aload_n hx hb dL_most_91 rfl (lv_at hl 1 rfl) ?_
  refine lv_bipush (v := (127)) hx hb dL_most_92 (by decide) ?_
  refine lv_iconst (v := (0)) hx hb dL_most_94 (by decide) ?_
  refine lv_bipush (v := (96)) hx hb dL_most_95 (by decide) ?_
  refine lv_bipush (v := (8)) hx hb dL_most_97 (by decide) ?_
  refine lv_bipush (v := (100)) hx hb dL_most_99 (by decide) ?_
  refine lv_iload_n hx hb dL_most_101 rfl (lv_at hl 0 rfl) ?_
  refine lv_iadd hx hb dL_most_102 ?_
  refine lv_topi (fun y38 ey38 => ?_)
  obtain rfl : y38 = 112 := ey38.trans (by decide)
  refine mcallSWi hw ⟨hx, hb, hml, hown, hts⟩ hS (w_X3_addRule hC wf_mF27 127 0 96 8 112 (by decide) (by decide) (by decide) (by decide) (by decide) (by decide) ) (vx_cwSW 6 hts gL_most_L_rule rfl rfl rfl (by decide +kernel) ⟨Nat.le_of_ble_eq_true rfl, Nat.le_of_ble_eq_true rfl⟩) rfl hl.1 rfl (Nat.le_of_ble_eq_true rfl) dL_most_103 ⟨Nat.le_of_ble_eq_true rfl, Nat.le_of_ble_eq_true rfl⟩ (fun r9 V10 α10 H locs hq hw hS => ?_)
  obtain ⟨er, hC, hO⟩ := hq
  have hC : mC G V10 α10 mF28 13 12 80 := hC
  have e0 : α10 0 = α9 0 := (hO 0 (by omega)).2
  have hl : lv_has ls 2 [(1, .int (12)), (0, .ref (α10 (0)))] := by rw [e0]; exact hl
  obtain rfl : r9 = 12 := er.symm.trans (by decide)
  refine lv_iload_n hx hb dL_most_106 rfl (lv_at hl 0 rfl) ?_
  refine lv_bipush (v := (16)) hx hb dL_most_107 (by decide) ?_
  refine lv_icmp_ge (tgt := 116) hx hb dL_most_109 (by decide) (fun z => absurd z ((by decide))) (fun c39 => ?_)
  refine lv_iload_n hx hb dL_most_112 rfl (lv_at hl 0 rfl) ?_
  refine lv_goto (tgt := 118) hx hb dL_most_113 (by decide) ?_
  refine lv_icmp_eq (tgt := 123) hx hb dL_most_118 (by decide) (fun c40 => ?_) (fun z => absurd ((by decide)) z)
  exact kk _ _ _ _ _ hC hl hw hS

set_option maxHeartbeats 40000000 in
set_option maxRecDepth 100000 in
theorem m_s3 {p : Program} {l : Launch} {e : Env} {s : State} {m : MethodId} {args : Array Value} {below : List Frame} {meth : Method} {c : Code} {Q : State → Prop} {G : mG} {V : mV} {α : Nat → Nat} (hl0 : l.stackTraces = false) (hx : p.tables.exec = Jvm.exec) (hb : c.code = cL_most) (hml : c.maxLocals = 2) (hown : s.vm.findClass RL = some m.cls) (hts : ∀ w ∈ wsL_most, w.before args s = true) (hC : mC G V α mF28 13 12 80)
    (kk : ∀ (V : mV) (α : Nat → Nat) (H : Heap) (locs : List Loc) (ls : Array Slot), mC G V α mF31 16 12 80 → lv_has ls 2 [(1, .int (17)), (0, .ref (α (0)))] → mW G V α s H → va_S (mfree G) s.heap H locs → W p l e ({ frames := 10, cells := 201, slots := 7344, locals := 343 } : Room) s m args below meth c H locs 201 7344 Q (F0 m 162 ls []))
    (H : Heap) (locs : List Loc) (ls : Array Slot) (hl : lv_has ls 2 [(1, .int (12)), (0, .ref (α (0)))]) (hw : mW G V α s H) (hS : va_S (mfree G) s.heap H locs) : W p l e ({ frames := 10, cells := 201, slots := 7344, locals := 343 } : Room) s m args below meth c H locs 58 5892 Q (F0 m 123 ls []) := by
  refine lv_iinc (v := 13) (lv' := [(1, .int (13)), (0, .ref (α (0)))]) hx hb dL_most_123 hl (k := 0) rfl (by decide) (by decide) rfl (fun ls hl => ?_)
  refine lv_goto (tgt := 85) hx hb dL_most_126 (by decide) ?_
  refine lv_iload_n hx hb dL_most_85 rfl (lv_at hl 0 rfl) ?_
  refine lv_bipush (v := (17)) hx hb dL_most_86 (by decide) ?_
  refine lv_icmp_ge (tgt := 129) hx hb dL_most_88 (by decide) (fun z => absurd z ((by decide))) (fun c1 => ?_)
  refine lv_aload_n hx hb dL_most_91 rfl (lv_at hl 1 rfl) ?_
  refine lv_bipush (v := (127)) hx hb dL_most_92 (by decide) ?_
  refine lv_iconst (v := (0)) hx hb dL_most_94 (by decide) ?_
  refine lv_bipush (v := (96)) hx hb dL_most_95 (by decide) ?_
  refine lv_bipush (v := (8)) hx hb dL_most_97 (by decide) ?_
  refine lv_bipush (v := (100)) hx hb dL_most_99 (by decide) ?_
  refine lv_iload_n hx hb dL_most_101 rfl (lv_at hl 0 rfl) ?_
  refine lv_iadd hx hb dL_most_102 ?_
  refine lv_topi (fun y2 ey2 => ?_)
  obtain rfl : y2 = 113 := ey2.trans (by decide)
  refine mcallSWi hw ⟨hx, hb, hml, hown, hts⟩ hS (w_X3_addRule hC wf_mF28 127 0 96 8 113 (by decide) (by decide) (by decide) (by decide) (by decide) (by decide) ) (vx_cwSW 6 hts gL_most_L_rule rfl rfl rfl (by decide +kernel) ⟨Nat.le_of_ble_eq_true rfl, Nat.le_of_ble_eq_true rfl⟩) rfl hl.1 rfl (Nat.le_of_ble_eq_true rfl) dL_most_103 ⟨Nat.le_of_ble_eq_true rfl, Nat.le_of_ble_eq_true rfl⟩ (fun r9 V1 α1 H locs hq hw hS => ?_)
  obtain ⟨er, hC, hO⟩ := hq
  have hC : mC G V1 α1 mF29 14 12 80 := hC
  have e0 : α1 0 = α 0 := (hO 0 (by omega)).2
  have hl : lv_has ls 2 [(1, .int (13)), (0, .ref (α1 (0)))] := by rw [e0]; exact hl
  obtain rfl : r9 = 13 := er.symm.trans (by decide)
  refine lv_iload_n hx hb dL_most_106 rfl (lv_at hl 0 rfl) ?_
  refine lv_bipush (v := (16)) hx hb dL_most_107 (by decide) ?_
  refine lv_icmp_ge (tgt := 116) hx hb dL_most_109 (by decide) (fun z => absurd z ((by decide))) (fun c3 => ?_)
  refine lv_iload_n hx hb dL_most_112 rfl (lv_at hl 0 rfl) ?_
  refine lv_goto (tgt := 118) hx hb dL_most_113 (by decide) ?_
  refine lv_icmp_eq (tgt := 123) hx hb dL_most_118 (by decide) (fun c4 => ?_) (fun z => absurd ((by decide)) z)
  refine lv_iinc (v := 14) (lv' := [(1, .int (14)), (0, .ref (α1 (0)))]) hx hb dL_most_123 hl (k := 0) rfl (by decide) (by decide) rfl (fun ls hl => ?_)
  refine lv_goto (tgt := 85) hx hb dL_most_126 (by decide) ?_
  refine lv_iload_n hx hb dL_most_85 rfl (lv_at hl 0 rfl) ?_
  refine lv_bipush (v := (17)) hx hb dL_most_86 (by decide) ?_
  refine lv_icmp_ge (tgt := 129) hx hb dL_most_88 (by decide) (fun z => absurd z ((by decide))) (fun c5 => ?_)
  refine lv_aload_n hx hb dL_most_91 rfl (lv_at hl 1 rfl) ?_
  refine lv_bipush (v := (127)) hx hb dL_most_92 (by decide) ?_
  refine lv_iconst (v := (0)) hx hb dL_most_94 (by decide) ?_
  refine lv_bipush (v := (96)) hx hb dL_most_95 (by decide) ?_
  refine lv_bipush (v := (8)) hx hb dL_most_97 (by decide) ?_
  refine lv_bipush (v := (100)) hx hb dL_most_99 (by decide) ?_
  refine lv_iload_n hx hb dL_most_101 rfl (lv_at hl 0 rfl) ?_
  refine lv_iadd hx hb dL_most_102 ?_
  refine lv_topi (fun y6 ey6 => ?_)
  obtain rfl : y6 = 114 := ey6.trans (by decide)
  refine mcallSWi hw ⟨hx, hb, hml, hown, hts⟩ hS (w_X3_addRule hC wf_mF29 127 0 96 8 114 (by decide) (by decide) (by decide) (by decide) (by decide) (by decide) ) (vx_cwSW 6 hts gL_most_L_rule rfl rfl rfl (by decide +kernel) ⟨Nat.le_of_ble_eq_true rfl, Nat.le_of_ble_eq_true rfl⟩) rfl hl.1 rfl (Nat.le_of_ble_eq_true rfl) dL_most_103 ⟨Nat.le_of_ble_eq_true rfl, Nat.le_of_ble_eq_true rfl⟩ (fun r9 V2 α2 H locs hq hw hS => ?_)
  obtain ⟨er, hC, hO⟩ := hq
  have hC : mC G V2 α2 mF30 15 12 80 := hC
  have e0 : α2 0 = α1 0 := (hO 0 (by omega)).2
  have hl : lv_has ls 2 [(1, .int (14)), (0, .ref (α2 (0)))] := by rw [e0]; exact hl
  obtain rfl : r9 = 14 := er.symm.trans (by decide)
  refine lv_iload_n hx hb dL_most_106 rfl (lv_at hl 0 rfl) ?_
  refine lv_bipush (v := (16)) hx hb dL_most_107 (by decide) ?_
  refine lv_icmp_ge (tgt := 116) hx hb dL_most_109 (by decide) (fun z => absurd z ((by decide))) (fun c7 => ?_)
  refine lv_iload_n hx hb dL_most_112 rfl (lv_at hl 0 rfl) ?_
  refine lv_goto (tgt := 118) hx hb dL_most_113 (by decide) ?_
  refine lv_icmp_eq (tgt := 123) hx hb dL_most_118 (by decide) (fun c8 => ?_) (fun z => absurd ((by decide)) z)
  refine lv_iinc (v := 15) (lv' := [(1, .int (15)), (0, .ref (α2 (0)))]) hx hb dL_most_123 hl (k := 0) rfl (by decide) (by decide) rfl (fun ls hl => ?_)
  refine lv_goto (tgt := 85) hx hb dL_most_126 (by decide) ?_
  refine lv_iload_n hx hb dL_most_85 rfl (lv_at hl 0 rfl) ?_
  refine lv_bipush (v := (17)) hx hb dL_most_86 (by decide) ?_
  refine lv_icmp_ge (tgt := 129) hx hb dL_most_88 (by decide) (fun z => absurd z ((by decide))) (fun c9 => ?_)
  refine lv_aload_n hx hb dL_most_91 rfl (lv_at hl 1 rfl) ?_
  refine lv_bipush (v := (127)) hx hb dL_most_92 (by decide) ?_
  refine lv_iconst (v := (0)) hx hb dL_most_94 (by decide) ?_
  refine lv_bipush (v := (96)) hx hb dL_most_95 (by decide) ?_
  refine lv_bipush (v := (8)) hx hb dL_most_97 (by decide) ?_
  refine lv_bipush (v := (100)) hx hb dL_most_99 (by decide) ?_
  refine lv_iload_n hx hb dL_most_101 rfl (lv_at hl 0 rfl) ?_
  refine lv_iadd hx hb dL_most_102 ?_
  refine lv_topi (fun y10 ey10 => ?_)
  obtain rfl : y10 = 115 := ey10.trans (by decide)
  refine mcallSWi hw ⟨hx, hb, hml, hown, hts⟩ hS (w_X3_addRule hC wf_mF30 127 0 96 8 115 (by decide) (by decide) (by decide) (by decide) (by decide) (by decide) ) (vx_cwSW 6 hts gL_most_L_rule rfl rfl rfl (by decide +kernel) ⟨Nat.le_of_ble_eq_true rfl, Nat.le_of_ble_eq_true rfl⟩) rfl hl.1 rfl (Nat.le_of_ble_eq_true rfl) dL_most_103 ⟨Nat.le_of_ble_eq_true rfl, Nat.le_of_ble_eq_true rfl⟩ (fun r9 V3 α3 H locs hq hw hS => ?_)
  obtain ⟨er, hC, hO⟩ := hq
  have hC : mC G V3 α3 mF31 16 12 80 := hC
  have e0 : α3 0 = α2 0 := (hO 0 (by omega)).2
  have hl : lv_has ls 2 [(1, .int (15)), (0, .ref (α3 (0)))] := by rw [e0]; exact hl
  obtain rfl : r9 = 15 := er.symm.trans (by decide)
  refine lv_iload_n hx hb dL_most_106 rfl (lv_at hl 0 rfl) ?_
  refine lv_bipush (v := (16)) hx hb dL_most_107 (by decide) ?_
  refine lv_icmp_ge (tgt := 116) hx hb dL_most_109 (by decide) (fun z => absurd z ((by decide))) (fun c11 => ?_)
  refine lv_iload_n hx hb dL_most_112 rfl (lv_at hl 0 rfl) ?_
  refine lv_goto (tgt := 118) hx hb dL_most_113 (by decide) ?_
  refine lv_icmp_eq (tgt := 123) hx hb dL_most_118 (by decide) (fun c12 => ?_) (fun z => absurd ((by decide)) z)
  refine lv_iinc (v := 16) (lv' := [(1, .int (16)), (0, .ref (α3 (0)))]) hx hb dL_most_123 hl (k := 0) rfl (by decide) (by decide) rfl (fun ls hl => ?_)
  refine lv_goto (tgt := 85) hx hb dL_most_126 (by decide) ?_
  refine lv_iload_n hx hb dL_most_85 rfl (lv_at hl 0 rfl) ?_
  refine lv_bipush (v := (17)) hx hb dL_most_86 (by decide) ?_
  refine lv_icmp_ge (tgt := 129) hx hb dL_most_88 (by decide) (fun z => absurd z ((by decide))) (fun c13 => ?_)
  refine lv_aload_n hx hb dL_most_91 rfl (lv_at hl 1 rfl) ?_
  refine lv_bipush (v := (127)) hx hb dL_most_92 (by decide) ?_
  refine lv_iconst (v := (0)) hx hb dL_most_94 (by decide) ?_
  refine lv_bipush (v := (96)) hx hb dL_most_95 (by decide) ?_
  refine lv_bipush (v := (8)) hx hb dL_most_97 (by decide) ?_
  refine lv_bipush (v := (100)) hx hb dL_most_99 (by decide) ?_
  refine lv_iload_n hx hb dL_most_101 rfl (lv_at hl 0 rfl) ?_
  refine lv_iadd hx hb dL_most_102 ?_
  refine lv_topi (fun y14 ey14 => ?_)
  obtain rfl : y14 = 116 := ey14.trans (by decide)
  refine mcallX (rest := []) hw ⟨hx, hb, hml, hown, hts⟩ hS (x_X3_addRule_2 hl0 hC wf_mF31 127 0 96 8 116 (by decide) (by decide) (by decide) (by decide) (by decide) rfl) (vx_cwSW 6 hts gL_most_L_rule rfl rfl rfl (by decide +kernel) ⟨Nat.le_of_ble_eq_true rfl, Nat.le_of_ble_eq_true rfl⟩) rfl hl.1 rfl (Nat.le_of_ble_eq_true rfl) dL_most_103 ⟨Nat.le_of_ble_eq_true rfl, Nat.le_of_ble_eq_true rfl⟩ (fun H locs hw hS => ?_)
  refine lv_iload_n hx hb dL_most_106 rfl (lv_at hl 0 rfl) ?_
  refine lv_bipush (v := (16)) hx hb dL_most_107 (by decide) ?_
  refine lv_icmp_ge (tgt := 116) hx hb dL_most_109 (by decide) (fun c15 => ?_) (fun z => absurd ((by decide)) z)
  refine lv_bipush (v := (-73)) hx hb dL_most_116 (by decide) ?_
  refine lv_icmp_eq (tgt := 123) hx hb dL_most_118 (by decide) (fun c16 => ?_) (fun z => absurd ((by decide)) z)
  refine lv_iinc (v := 17) (lv' := [(1, .int (17)), (0, .ref (α3 (0)))]) hx hb dL_most_123 hl (k := 0) rfl (by decide) (by decide) rfl (fun ls hl => ?_)
  refine lv_goto (tgt := 85) hx hb dL_most_126 (by decide) ?_
  refine lv_iload_n hx hb dL_most_85 rfl (lv_at hl 0 rfl) ?_
  refine lv_bipush (v := (17)) hx hb dL_most_86 (by decide) ?_
  refine lv_icmp_ge (tgt := 129) hx hb dL_most_88 (by decide) (fun c17 => ?_) (fun z => absurd ((by decide)) z)
  refine lv_aload_n hx hb dL_most_129 rfl (lv_at hl 1 rfl) ?_
  refine lv_bipush (v := (14)) hx hb dL_most_130 (by decide) ?_
  refine mcallVi hw (hC.1) rfl rfl ⟨hx, hb, hml, hown, hts⟩ (c_X3_paidBy hC wf_mF31 14 (by decide)) (cwV 1 hts gL_most_X3_paidBy rfl rfl rfl (by decide +kernel) ⟨Nat.le_of_ble_eq_true rfl, Nat.le_of_ble_eq_true rfl⟩) rfl hl.1 rfl (Nat.le_of_ble_eq_true rfl) dL_most_132 ⟨Nat.le_of_ble_eq_true rfl, Nat.le_of_ble_eq_true rfl⟩ ?_
  refine lv_topi (fun y18 ey18 => ?_)
  obtain rfl : y18 = 0 := ey18.trans mv4
  refine lv_if_ne (tgt := 166) hx hb dL_most_135 (by decide) (fun z => absurd ((by decide)) z) (fun c19 => ?_)
  refine lv_aload_n hx hb dL_most_138 rfl (lv_at hl 1 rfl) ?_
  refine lv_iconst (v := (0)) hx hb dL_most_139 (by decide) ?_
  refine lv_iconst (v := (0)) hx hb dL_most_140 (by decide) ?_
  refine lv_bipush (v := (115)) hx hb dL_most_141 (by decide) ?_
  refine lv_bipush (v := (15)) hx hb dL_most_143 (by decide) ?_
  refine mcallSi hw ⟨hx, hb, hml, hown, hts⟩ (c_L_at hC wf_mF31 0 (by decide) 0 mv5 115 15 mv6 mv7) (va_cwS 5 hts gL_most_L_at rfl rfl rfl (by decide +kernel) ⟨Nat.le_of_ble_eq_true rfl, Nat.le_of_ble_eq_true rfl⟩) rfl hl.1 rfl (Nat.le_of_ble_eq_true rfl) dL_most_145 ⟨Nat.le_of_ble_eq_true rfl, Nat.le_of_ble_eq_true rfl⟩ ?_
  refine lv_if_eq (tgt := 166) hx hb dL_most_148 (by decide) (fun z => absurd z ((by decide))) (fun c20 => ?_)
  refine lv_aload_n hx hb dL_most_151 rfl (lv_at hl 1 rfl) ?_
  refine lv_bipush (v := (16)) hx hb dL_most_152 (by decide) ?_
  refine lv_bipush (v := (12)) hx hb dL_most_154 (by decide) ?_
  refine mcallSi2 (V2 := V3) (α2 := α3) (rest := []) hw ⟨hx, hb, hml, hown, hts⟩ hS (w_refusesB hl0 hC wf_mF31 (by decide) (by decide)) (va_cwS 3 hts gL_most_L_refuses rfl rfl rfl (by decide +kernel) ⟨Nat.le_of_ble_eq_true rfl, Nat.le_of_ble_eq_true rfl⟩) rfl hl.1 rfl (Nat.le_of_ble_eq_true rfl) dL_most_156 ⟨Nat.le_of_ble_eq_true rfl, Nat.le_of_ble_eq_true rfl⟩ (fun H locs hw hS => ?_)
  refine lv_if_eq (tgt := 166) hx hb dL_most_159 (by decide) (fun z => absurd z ((by decide))) (fun c21 => ?_)
  exact kk _ _ _ _ _ hC hl hw hS
