set_option maxHeartbeats 40000000 in
set_option maxRecDepth 100000 in
theorem h_s0 {p : Program} {l : Launch} {e : Env} {s : State} {m : MethodId} {args : Array Value} {below : List Frame} {meth : Method} {c : Code} {Q : State → Prop} {G : mG} {V : mV} {α : Nat → Nat} (hl0 : l.stackTraces = false) (hx : p.tables.exec = Jvm.exec) (hb : c.code = cL_hours) (hml : c.maxLocals = 2) (hown : s.vm.findClass RL = some m.cls) (hts : ∀ w ∈ wsL_hours, w.before args s = true) (hC : mC G V α f00 0 0 0)
    (kk : ∀ (V : mV) (α : Nat → Nat) (H : Heap) (locs : List Loc) (ls : Array Slot), mC G V α hF6 0 1 5 → lv_has ls 2 [(0, .ref (α (0)))] → mW G V α s H → va_S (mfree G) s.heap H locs → W p l e ({ frames := 11, cells := 501, slots := 24736, locals := 364 } : Room) s m args below meth c H locs 21 1660 Q (F0 m 140 ls []))
    (H : Heap) (locs : List Loc) (ls : Array Slot) (hl : lv_has ls 2 [(0, .ref (α (0)))]) (hw : mW G V α s H) (hS : va_S (mfree G) s.heap H locs) : W p l e ({ frames := 11, cells := 501, slots := 24736, locals := 364 } : Room) s m args below meth c H locs 6 382 Q (F0 m 8 ls []) := by
  refine lv_aload_n hx hb dL_hours_8 rfl (lv_at hl 0 rfl) ?_
  refine lv_iconst (v := (3)) hx hb dL_hours_9 (by decide) ?_
  refine mcallVw hw hC.1 rfl rfl ⟨hx, hb, hml, hown, hts⟩ hS (c_X3_addWorker hC wf_f00 3 (by decide) (by decide)) (cwV 1 hts gL_hours_X3_addWorker rfl rfl rfl (by decide +kernel) ⟨Nat.le_of_ble_eq_true rfl, Nat.le_of_ble_eq_true rfl⟩) rfl hl.1 rfl (Nat.le_of_ble_eq_true rfl) dL_hours_10 ⟨Nat.le_of_ble_eq_true rfl, Nat.le_of_ble_eq_true rfl⟩ (fun r9 V1 α1 H locs hq hw hS => ?_)
  obtain ⟨er, hC, hO⟩ := hq
  have hC : mC G V1 α1 hF1 0 1 0 := hC
  have e0 : α1 0 = α 0 := (hO 0 (by omega)).2
  have hl : lv_has ls 2 [(0, .ref (α1 (0)))] := by rw [e0]; exact hl
  obtain rfl : r9 = 0 := er.symm.trans (by decide)
  refine lv_if_ne (tgt := 204) hx hb dL_hours_13 (by decide) (fun z => absurd ((by decide)) z) (fun c1 => ?_)
  refine lv_aload_n hx hb dL_hours_16 rfl (lv_at hl 0 rfl) ?_
  refine lv_iconst (v := (0)) hx hb dL_hours_17 (by decide) ?_
  refine lv_iconst (v := (0)) hx hb dL_hours_18 (by decide) ?_
  refine lv_bipush (v := (76)) hx hb dL_hours_19 (by decide) ?_
  refine lv_bipush (v := (8)) hx hb dL_hours_21 (by decide) ?_
  refine mcallVw hw hC.1 rfl rfl ⟨hx, hb, hml, hown, hts⟩ hS (c_X3_addShift hC wf_hF1 0 0 76 8 (by decide) (by decide) (by decide) (by decide) (by decide) (by decide) hv0) (cwV 4 hts gL_hours_X3_addShift rfl rfl rfl (by decide +kernel) ⟨Nat.le_of_ble_eq_true rfl, Nat.le_of_ble_eq_true rfl⟩) rfl hl.1 rfl (Nat.le_of_ble_eq_true rfl) dL_hours_23 ⟨Nat.le_of_ble_eq_true rfl, Nat.le_of_ble_eq_true rfl⟩ (fun r9 V2 α2 H locs hq hw hS => ?_)
  obtain ⟨er, hC, hO⟩ := hq
  have hC : mC G V2 α2 hF2 0 1 1 := hC
  have e0 : α2 0 = α1 0 := (hO 0 (by omega)).2
  have hl : lv_has ls 2 [(0, .ref (α2 (0)))] := by rw [e0]; exact hl
  obtain rfl : r9 = 0 := er.symm.trans (by decide)
  refine lv_if_ne (tgt := 204) hx hb dL_hours_26 (by decide) (fun z => absurd ((by decide)) z) (fun c2 => ?_)
  refine lv_aload_n hx hb dL_hours_29 rfl (lv_at hl 0 rfl) ?_
  refine lv_iconst (v := (5)) hx hb dL_hours_30 (by decide) ?_
  refine lv_iconst (v := (0)) hx hb dL_hours_31 (by decide) ?_
  refine lv_iconst (v := (0)) hx hb dL_hours_32 (by decide) ?_
  refine lv_bipush (v := (83)) hx hb dL_hours_33 (by decide) ?_
  refine lv_iconst (v := (5)) hx hb dL_hours_35 (by decide) ?_
  refine mcallX (rest := []) hw ⟨hx, hb, hml, hown, hts⟩ hS (x_X3_addShift_3 hl0 hC wf_hF2 0 0 83 5 (by decide) (by decide) (by decide) (by decide) (by decide) (Or.inr hv1)) (vx_cwSW 6 hts gL_hours_L_act rfl rfl rfl (by decide +kernel) ⟨Nat.le_of_ble_eq_true rfl, Nat.le_of_ble_eq_true rfl⟩) rfl hl.1 rfl (Nat.le_of_ble_eq_true rfl) dL_hours_36 ⟨Nat.le_of_ble_eq_true rfl, Nat.le_of_ble_eq_true rfl⟩ (fun H locs hw hS => ?_)
  refine lv_bipush (v := (-73)) hx hb dL_hours_39 (by decide) ?_
  refine lv_icmp_ne (tgt := 204) hx hb dL_hours_41 (by decide) (fun z => absurd ((by decide)) z) (fun c3 => ?_)
  refine lv_aload_n hx hb dL_hours_44 rfl (lv_at hl 0 rfl) ?_
  refine lv_iconst (v := (5)) hx hb dL_hours_45 (by decide) ?_
  refine lv_iconst (v := (0)) hx hb dL_hours_46 (by decide) ?_
  refine lv_iconst (v := (0)) hx hb dL_hours_47 (by decide) ?_
  refine lv_bipush (v := (70)) hx hb dL_hours_48 (by decide) ?_
  refine lv_bipush (v := (7)) hx hb dL_hours_50 (by decide) ?_
  refine mcallX (rest := []) hw ⟨hx, hb, hml, hown, hts⟩ hS (x_X3_addShift_3 hl0 hC wf_hF2 0 0 70 7 (by decide) (by decide) (by decide) (by decide) (by decide) (Or.inr hv2)) (vx_cwSW 6 hts gL_hours_L_act rfl rfl rfl (by decide +kernel) ⟨Nat.le_of_ble_eq_true rfl, Nat.le_of_ble_eq_true rfl⟩) rfl hl.1 rfl (Nat.le_of_ble_eq_true rfl) dL_hours_52 ⟨Nat.le_of_ble_eq_true rfl, Nat.le_of_ble_eq_true rfl⟩ (fun H locs hw hS => ?_)
  refine lv_bipush (v := (-73)) hx hb dL_hours_55 (by decide) ?_
  refine lv_icmp_ne (tgt := 204) hx hb dL_hours_57 (by decide) (fun z => absurd ((by decide)) z) (fun c4 => ?_)
  refine lv_aload_n hx hb dL_hours_60 rfl (lv_at hl 0 rfl) ?_
  refine lv_iconst (v := (0)) hx hb dL_hours_61 (by decide) ?_
  refine lv_iconst (v := (0)) hx hb dL_hours_62 (by decide) ?_
  refine lv_bipush (v := (84)) hx hb dL_hours_63 (by decide) ?_
  refine lv_iconst (v := (1)) hx hb dL_hours_65 (by decide) ?_
  refine mcallVw hw hC.1 rfl rfl ⟨hx, hb, hml, hown, hts⟩ hS (c_X3_addShift hC wf_hF2 0 0 84 1 (by decide) (by decide) (by decide) (by decide) (by decide) (by decide) hv3) (cwV 4 hts gL_hours_X3_addShift rfl rfl rfl (by decide +kernel) ⟨Nat.le_of_ble_eq_true rfl, Nat.le_of_ble_eq_true rfl⟩) rfl hl.1 rfl (Nat.le_of_ble_eq_true rfl) dL_hours_66 ⟨Nat.le_of_ble_eq_true rfl, Nat.le_of_ble_eq_true rfl⟩ (fun r9 V3 α3 H locs hq hw hS => ?_)
  obtain ⟨er, hC, hO⟩ := hq
  have hC : mC G V3 α3 hF3 0 1 2 := hC
  have e0 : α3 0 = α2 0 := (hO 0 (by omega)).2
  have hl : lv_has ls 2 [(0, .ref (α3 (0)))] := by rw [e0]; exact hl
  obtain rfl : r9 = 1 := er.symm.trans (by decide)
  refine lv_iconst (v := (1)) hx hb dL_hours_69 (by decide) ?_
  refine lv_icmp_ne (tgt := 204) hx hb dL_hours_70 (by decide) (fun z => absurd ((by decide)) z) (fun c5 => ?_)
  refine lv_aload_n hx hb dL_hours_73 rfl (lv_at hl 0 rfl) ?_
  refine lv_iconst (v := (0)) hx hb dL_hours_74 (by decide) ?_
  refine lv_iconst (v := (0)) hx hb dL_hours_75 (by decide) ?_
  refine lv_bipush (v := (75)) hx hb dL_hours_76 (by decide) ?_
  refine lv_iconst (v := (1)) hx hb dL_hours_78 (by decide) ?_
  refine mcallVw hw hC.1 rfl rfl ⟨hx, hb, hml, hown, hts⟩ hS (c_X3_addShift hC wf_hF3 0 0 75 1 (by decide) (by decide) (by decide) (by decide) (by decide) (by decide) hv4) (cwV 4 hts gL_hours_X3_addShift rfl rfl rfl (by decide +kernel) ⟨Nat.le_of_ble_eq_true rfl, Nat.le_of_ble_eq_true rfl⟩) rfl hl.1 rfl (Nat.le_of_ble_eq_true rfl) dL_hours_79 ⟨Nat.le_of_ble_eq_true rfl, Nat.le_of_ble_eq_true rfl⟩ (fun r9 V4 α4 H locs hq hw hS => ?_)
  obtain ⟨er, hC, hO⟩ := hq
  have hC : mC G V4 α4 hF4 0 1 3 := hC
  have e0 : α4 0 = α3 0 := (hO 0 (by omega)).2
  have hl : lv_has ls 2 [(0, .ref (α4 (0)))] := by rw [e0]; exact hl
  obtain rfl : r9 = 2 := er.symm.trans (by decide)
  refine lv_iconst (v := (2)) hx hb dL_hours_82 (by decide) ?_
  refine lv_icmp_ne (tgt := 204) hx hb dL_hours_83 (by decide) (fun z => absurd ((by decide)) z) (fun c6 => ?_)
  refine lv_aload_n hx hb dL_hours_86 rfl (lv_at hl 0 rfl) ?_
  refine lv_iconst (v := (0)) hx hb dL_hours_87 (by decide) ?_
  refine lv_bipush (v := (6)) hx hb dL_hours_88 (by decide) ?_
  refine lv_bipush (v := (90)) hx hb dL_hours_90 (by decide) ?_
  refine lv_bipush (v := (10)) hx hb dL_hours_92 (by decide) ?_
  refine mcallVw hw hC.1 rfl rfl ⟨hx, hb, hml, hown, hts⟩ hS (c_X3_addShift hC wf_hF4 0 6 90 10 (by decide) (by decide) (by decide) (by decide) (by decide) (by decide) hv5) (cwV 4 hts gL_hours_X3_addShift rfl rfl rfl (by decide +kernel) ⟨Nat.le_of_ble_eq_true rfl, Nat.le_of_ble_eq_true rfl⟩) rfl hl.1 rfl (Nat.le_of_ble_eq_true rfl) dL_hours_94 ⟨Nat.le_of_ble_eq_true rfl, Nat.le_of_ble_eq_true rfl⟩ (fun r9 V5 α5 H locs hq hw hS => ?_)
  obtain ⟨er, hC, hO⟩ := hq
  have hC : mC G V5 α5 hF5 0 1 4 := hC
  have e0 : α5 0 = α4 0 := (hO 0 (by omega)).2
  have hl : lv_has ls 2 [(0, .ref (α5 (0)))] := by rw [e0]; exact hl
  obtain rfl : r9 = 3 := er.symm.trans (by decide)
  refine lv_iconst (v := (3)) hx hb dL_hours_97 (by decide) ?_
  refine lv_icmp_ne (tgt := 204) hx hb dL_hours_98 (by decide) (fun z => absurd ((by decide)) z) (fun c7 => ?_)
  refine lv_aload_n hx hb dL_hours_101 rfl (lv_at hl 0 rfl) ?_
  refine lv_iconst (v := (5)) hx hb dL_hours_102 (by decide) ?_
  refine lv_iconst (v := (0)) hx hb dL_hours_103 (by decide) ?_
  refine lv_bipush (v := (7)) hx hb dL_hours_104 (by decide) ?_
  refine lv_iconst (v := (3)) hx hb dL_hours_106 (by decide) ?_
  refine lv_iconst (v := (1)) hx hb dL_hours_107 (by decide) ?_
  refine mcallX (rest := []) hw ⟨hx, hb, hml, hown, hts⟩ hS (x_X3_addShift_3 hl0 hC wf_hF5 0 7 3 1 (by decide) (by decide) (by decide) (by decide) (by decide) (Or.inr hv6)) (vx_cwSW 6 hts gL_hours_L_act rfl rfl rfl (by decide +kernel) ⟨Nat.le_of_ble_eq_true rfl, Nat.le_of_ble_eq_true rfl⟩) rfl hl.1 rfl (Nat.le_of_ble_eq_true rfl) dL_hours_108 ⟨Nat.le_of_ble_eq_true rfl, Nat.le_of_ble_eq_true rfl⟩ (fun H locs hw hS => ?_)
  refine lv_bipush (v := (-73)) hx hb dL_hours_111 (by decide) ?_
  refine lv_icmp_ne (tgt := 204) hx hb dL_hours_113 (by decide) (fun z => absurd ((by decide)) z) (fun c8 => ?_)
  refine lv_aload_n hx hb dL_hours_116 rfl (lv_at hl 0 rfl) ?_
  refine lv_iconst (v := (0)) hx hb dL_hours_117 (by decide) ?_
  refine lv_bipush (v := (7)) hx hb dL_hours_118 (by decide) ?_
  refine lv_iconst (v := (4)) hx hb dL_hours_120 (by decide) ?_
  refine lv_iconst (v := (1)) hx hb dL_hours_121 (by decide) ?_
  refine mcallVw hw hC.1 rfl rfl ⟨hx, hb, hml, hown, hts⟩ hS (c_X3_addShift hC wf_hF5 0 7 4 1 (by decide) (by decide) (by decide) (by decide) (by decide) (by decide) hv7) (cwV 4 hts gL_hours_X3_addShift rfl rfl rfl (by decide +kernel) ⟨Nat.le_of_ble_eq_true rfl, Nat.le_of_ble_eq_true rfl⟩) rfl hl.1 rfl (Nat.le_of_ble_eq_true rfl) dL_hours_122 ⟨Nat.le_of_ble_eq_true rfl, Nat.le_of_ble_eq_true rfl⟩ (fun r9 V6 α6 H locs hq hw hS => ?_)
  obtain ⟨er, hC, hO⟩ := hq
  have hC : mC G V6 α6 hF6 0 1 5 := hC
  have e0 : α6 0 = α5 0 := (hO 0 (by omega)).2
  have hl : lv_has ls 2 [(0, .ref (α6 (0)))] := by rw [e0]; exact hl
  obtain rfl : r9 = 4 := er.symm.trans (by decide)
  refine lv_iconst (v := (4)) hx hb dL_hours_125 (by decide) ?_
  refine lv_icmp_ne (tgt := 204) hx hb dL_hours_126 (by decide) (fun z => absurd ((by decide)) z) (fun c9 => ?_)
  refine lv_aload_n hx hb dL_hours_129 rfl (lv_at hl 0 rfl) ?_
  refine lv_iconst (v := (0)) hx hb dL_hours_130 (by decide) ?_
  refine lv_iconst (v := (0)) hx hb dL_hours_131 (by decide) ?_
  refine mcallVi hw (hC.1) rfl rfl ⟨hx, hb, hml, hown, hts⟩ (c_X3_worked hC wf_hF6 0 0 (by decide) (by decide)) (cwV 2 hts gL_hours_X3_worked rfl rfl rfl (by decide +kernel) ⟨Nat.le_of_ble_eq_true rfl, Nat.le_of_ble_eq_true rfl⟩) rfl hl.1 rfl (Nat.le_of_ble_eq_true rfl) dL_hours_132 ⟨Nat.le_of_ble_eq_true rfl, Nat.le_of_ble_eq_true rfl⟩ ?_
  refine lv_topi (fun y10 ey10 => ?_)
  obtain rfl : y10 = 16 := ey10.trans hv8
  refine lv_bipush (v := (16)) hx hb dL_hours_135 (by decide) ?_
  refine lv_icmp_ne (tgt := 204) hx hb dL_hours_137 (by decide) (fun z => absurd ((by decide)) z) (fun c11 => ?_)
  exact kk _ _ _ _ _ hC hl hw hS

set_option maxHeartbeats 40000000 in
set_option maxRecDepth 100000 in
theorem h_s1 {p : Program} {l : Launch} {e : Env} {s : State} {m : MethodId} {args : Array Value} {below : List Frame} {meth : Method} {c : Code} {Q : State → Prop} {G : mG} {V : mV} {α : Nat → Nat} (hl0 : l.stackTraces = false) (hx : p.tables.exec = Jvm.exec) (hb : c.code = cL_hours) (hml : c.maxLocals = 2) (hown : s.vm.findClass RL = some m.cls) (hts : ∀ w ∈ wsL_hours, w.before args s = true) (hC : mC G V α hF6 0 1 5)
    (kk : ∀ (V : mV) (α : Nat → Nat) (H : Heap) (locs : List Loc) (ls : Array Slot), mC G V α hF10 0 1 8 → lv_has ls 2 [(1, .int (1)), (0, .ref (α (0)))] → mW G V α s H → va_S (mfree G) s.heap H locs → W p l e ({ frames := 11, cells := 501, slots := 24736, locals := 364 } : Room) s m args below meth c H locs 27 2290 Q (F0 m 259 ls []))
    (H : Heap) (locs : List Loc) (ls : Array Slot) (hl : lv_has ls 2 [(0, .ref (α (0)))]) (hw : mW G V α s H) (hS : va_S (mfree G) s.heap H locs) : W p l e ({ frames := 11, cells := 501, slots := 24736, locals := 364 } : Room) s m args below meth c H locs 21 1660 Q (F0 m 140 ls []) := by
  refine lv_aload_n hx hb dL_hours_140 rfl (lv_at hl 0 rfl) ?_
  refine lv_iconst (v := (0)) hx hb dL_hours_141 (by decide) ?_
  refine lv_iconst (v := (1)) hx hb dL_hours_142 (by decide) ?_
  refine mcallVi hw (hC.1) rfl rfl ⟨hx, hb, hml, hown, hts⟩ (c_X3_worked hC wf_hF6 0 1 (by decide) (by decide)) (cwV 2 hts gL_hours_X3_worked rfl rfl rfl (by decide +kernel) ⟨Nat.le_of_ble_eq_true rfl, Nat.le_of_ble_eq_true rfl⟩) rfl hl.1 rfl (Nat.le_of_ble_eq_true rfl) dL_hours_143 ⟨Nat.le_of_ble_eq_true rfl, Nat.le_of_ble_eq_true rfl⟩ ?_
  refine lv_topi (fun y1 ey1 => ?_)
  obtain rfl : y1 = 5 := ey1.trans hv9
  refine lv_iconst (v := (5)) hx hb dL_hours_146 (by decide) ?_
  refine lv_icmp_ne (tgt := 204) hx hb dL_hours_147 (by decide) (fun z => absurd ((by decide)) z) (fun c2 => ?_)
  refine lv_aload_n hx hb dL_hours_150 rfl (lv_at hl 0 rfl) ?_
  refine lv_iconst (v := (0)) hx hb dL_hours_151 (by decide) ?_
  refine lv_iconst (v := (0)) hx hb dL_hours_152 (by decide) ?_
  refine mcallVi hw (hC.1) rfl rfl ⟨hx, hb, hml, hown, hts⟩ (c_X3_excess hC wf_hF6 0 0 (by decide) (by decide)) (cwV 2 hts gL_hours_X3_excess rfl rfl rfl (by decide +kernel) ⟨Nat.le_of_ble_eq_true rfl, Nat.le_of_ble_eq_true rfl⟩) rfl hl.1 rfl (Nat.le_of_ble_eq_true rfl) dL_hours_153 ⟨Nat.le_of_ble_eq_true rfl, Nat.le_of_ble_eq_true rfl⟩ ?_
  refine lv_topi (fun y3 ey3 => ?_)
  obtain rfl : y3 = 0 := ey3.trans hv10
  refine lv_if_ne (tgt := 204) hx hb dL_hours_156 (by decide) (fun z => absurd ((by decide)) z) (fun c4 => ?_)
  refine lv_aload_n hx hb dL_hours_159 rfl (lv_at hl 0 rfl) ?_
  refine lv_iconst (v := (3)) hx hb dL_hours_160 (by decide) ?_
  refine mcallVw hw hC.1 rfl rfl ⟨hx, hb, hml, hown, hts⟩ hS (c_X3_cancel hC wf_hF6 3 (by decide) hv11) (cwV 1 hts gL_hours_X3_cancel rfl rfl rfl (by decide +kernel) ⟨Nat.le_of_ble_eq_true rfl, Nat.le_of_ble_eq_true rfl⟩) rfl hl.1 rfl (Nat.le_of_ble_eq_true rfl) dL_hours_161 ⟨Nat.le_of_ble_eq_true rfl, Nat.le_of_ble_eq_true rfl⟩ (fun r9 V1 α1 H locs hq hw hS => ?_)
  obtain ⟨er, hC, hO⟩ := hq
  have hC : mC G V1 α1 hF7 0 1 5 := hC
  have e0 : α1 0 = α 0 := (hO 0 (by omega)).2
  have hl : lv_has ls 2 [(0, .ref (α1 (0)))] := by rw [e0]; exact hl
  obtain rfl : r9 = 6000 := er.symm.trans hv12
  refine lv_sipush (v := (6000)) hx hb dL_hours_164 (by decide) ?_
  refine lv_icmp_ne (tgt := 204) hx hb dL_hours_167 (by decide) (fun z => absurd ((by decide)) z) (fun c5 => ?_)
  refine lv_aload_n hx hb dL_hours_170 rfl (lv_at hl 0 rfl) ?_
  refine lv_iconst (v := (0)) hx hb dL_hours_171 (by decide) ?_
  refine lv_bipush (v := (7)) hx hb dL_hours_172 (by decide) ?_
  refine lv_iconst (v := (0)) hx hb dL_hours_174 (by decide) ?_
  refine lv_iconst (v := (4)) hx hb dL_hours_175 (by decide) ?_
  refine mcallVw hw hC.1 rfl rfl ⟨hx, hb, hml, hown, hts⟩ hS (c_X3_addShift hC wf_hF7 0 7 0 4 (by decide) (by decide) (by decide) (by decide) (by decide) (by decide) hv13) (cwV 4 hts gL_hours_X3_addShift rfl rfl rfl (by decide +kernel) ⟨Nat.le_of_ble_eq_true rfl, Nat.le_of_ble_eq_true rfl⟩) rfl hl.1 rfl (Nat.le_of_ble_eq_true rfl) dL_hours_176 ⟨Nat.le_of_ble_eq_true rfl, Nat.le_of_ble_eq_true rfl⟩ (fun r9 V2 α2 H locs hq hw hS => ?_)
  obtain ⟨er, hC, hO⟩ := hq
  have hC : mC G V2 α2 hF8 0 1 6 := hC
  have e0 : α2 0 = α1 0 := (hO 0 (by omega)).2
  have hl : lv_has ls 2 [(0, .ref (α2 (0)))] := by rw [e0]; exact hl
  obtain rfl : r9 = 5 := er.symm.trans (by decide)
  refine lv_iconst (v := (5)) hx hb dL_hours_179 (by decide) ?_
  refine lv_icmp_ne (tgt := 204) hx hb dL_hours_180 (by decide) (fun z => absurd ((by decide)) z) (fun c6 => ?_)
  refine lv_aload_n hx hb dL_hours_183 rfl (lv_at hl 0 rfl) ?_
  refine lv_iconst (v := (0)) hx hb dL_hours_184 (by decide) ?_
  refine lv_iconst (v := (0)) hx hb dL_hours_185 (by decide) ?_
  refine mcallVi hw (hC.1) rfl rfl ⟨hx, hb, hml, hown, hts⟩ (c_X3_worked hC wf_hF8 0 0 (by decide) (by decide)) (cwV 2 hts gL_hours_X3_worked rfl rfl rfl (by decide +kernel) ⟨Nat.le_of_ble_eq_true rfl, Nat.le_of_ble_eq_true rfl⟩) rfl hl.1 rfl (Nat.le_of_ble_eq_true rfl) dL_hours_186 ⟨Nat.le_of_ble_eq_true rfl, Nat.le_of_ble_eq_true rfl⟩ ?_
  refine lv_topi (fun y7 ey7 => ?_)
  obtain rfl : y7 = 10 := ey7.trans hv14
  refine lv_bipush (v := (10)) hx hb dL_hours_189 (by decide) ?_
  refine lv_icmp_ne (tgt := 204) hx hb dL_hours_191 (by decide) (fun z => absurd ((by decide)) z) (fun c8 => ?_)
  refine lv_aload_n hx hb dL_hours_194 rfl (lv_at hl 0 rfl) ?_
  refine lv_iconst (v := (0)) hx hb dL_hours_195 (by decide) ?_
  refine lv_iconst (v := (1)) hx hb dL_hours_196 (by decide) ?_
  refine mcallVi hw (hC.1) rfl rfl ⟨hx, hb, hml, hown, hts⟩ (c_X3_worked hC wf_hF8 0 1 (by decide) (by decide)) (cwV 2 hts gL_hours_X3_worked rfl rfl rfl (by decide +kernel) ⟨Nat.le_of_ble_eq_true rfl, Nat.le_of_ble_eq_true rfl⟩) rfl hl.1 rfl (Nat.le_of_ble_eq_true rfl) dL_hours_197 ⟨Nat.le_of_ble_eq_true rfl, Nat.le_of_ble_eq_true rfl⟩ ?_
  refine lv_topi (fun y9 ey9 => ?_)
  obtain rfl : y9 = 5 := ey9.trans hv15
  refine lv_iconst (v := (5)) hx hb dL_hours_200 (by decide) ?_
  refine lv_icmp_eq (tgt := 206) hx hb dL_hours_201 (by decide) (fun c10 => ?_) (fun z => absurd ((by decide)) z)
  refine lv_iconst (v := (0)) hx hb dL_hours_206 (by decide) ?_
  refine lv_istore_n (lv' := [(1, .int (0)), (0, .ref (α2 (0)))]) hx hb dL_hours_207 rfl hl (by decide) rfl (fun ls hl => ?_)
  refine lv_iload_n hx hb dL_hours_208 rfl (lv_at hl 0 rfl) ?_
  refine lv_bipush (v := (10)) hx hb dL_hours_209 (by decide) ?_
  refine lv_icmp_ge (tgt := 265) hx hb dL_hours_211 (by decide) (fun z => absurd z ((by decide))) (fun c11 => ?_)
  refine lv_aload_n hx hb dL_hours_214 rfl (lv_at hl 1 rfl) ?_
  refine lv_iconst (v := (0)) hx hb dL_hours_215 (by decide) ?_
  refine lv_bipush (v := (28)) hx hb dL_hours_216 (by decide) ?_
  refine lv_iconst (v := (2)) hx hb dL_hours_218 (by decide) ?_
  refine lv_iload_n hx hb dL_hours_219 rfl (lv_at hl 0 rfl) ?_
  refine lv_imul hx hb dL_hours_220 ?_
  refine lv_topi (fun y12 ey12 => ?_)
  obtain rfl : y12 = 0 := ey12.trans (by decide)
  refine lv_iadd hx hb dL_hours_221 ?_
  refine lv_topi (fun y13 ey13 => ?_)
  obtain rfl : y13 = 28 := ey13.trans (by decide)
  refine lv_bipush (v := (40)) hx hb dL_hours_222 (by decide) ?_
  refine lv_bipush (v := (64)) hx hb dL_hours_224 (by decide) ?_
  refine mcallVw hw hC.1 rfl rfl ⟨hx, hb, hml, hown, hts⟩ hS (c_X3_addShift hC wf_hF8 0 28 40 64 (by decide) (by decide) (by decide) (by decide) (by decide) (by decide) hv16) (cwV 4 hts gL_hours_X3_addShift rfl rfl rfl (by decide +kernel) ⟨Nat.le_of_ble_eq_true rfl, Nat.le_of_ble_eq_true rfl⟩) rfl hl.1 rfl (Nat.le_of_ble_eq_true rfl) dL_hours_226 ⟨Nat.le_of_ble_eq_true rfl, Nat.le_of_ble_eq_true rfl⟩ (fun r9 V3 α3 H locs hq hw hS => ?_)
  obtain ⟨er, hC, hO⟩ := hq
  have hC : mC G V3 α3 hF9 0 1 7 := hC
  have e0 : α3 0 = α2 0 := (hO 0 (by omega)).2
  have hl : lv_has ls 2 [(1, .int (0)), (0, .ref (α3 (0)))] := by rw [e0]; exact hl
  obtain rfl : r9 = 6 := er.symm.trans (by decide)
  refine lv_bipush (v := (6)) hx hb dL_hours_229 (by decide) ?_
  refine lv_iload_n hx hb dL_hours_231 rfl (lv_at hl 0 rfl) ?_
  refine lv_iadd hx hb dL_hours_232 ?_
  refine lv_topi (fun y14 ey14 => ?_)
  obtain rfl : y14 = 6 := ey14.trans (by decide)
  refine lv_icmp_ne (tgt := 257) hx hb dL_hours_233 (by decide) (fun z => absurd ((by decide)) z) (fun c15 => ?_)
  refine lv_aload_n hx hb dL_hours_236 rfl (lv_at hl 1 rfl) ?_
  refine lv_iconst (v := (0)) hx hb dL_hours_237 (by decide) ?_
  refine lv_iconst (v := (1)) hx hb dL_hours_238 (by decide) ?_
  refine mcallVi hw (hC.1) rfl rfl ⟨hx, hb, hml, hown, hts⟩ (c_X3_excess hC wf_hF9 0 1 (by decide) (by decide)) (cwV 2 hts gL_hours_X3_excess rfl rfl rfl (by decide +kernel) ⟨Nat.le_of_ble_eq_true rfl, Nat.le_of_ble_eq_true rfl⟩) rfl hl.1 rfl (Nat.le_of_ble_eq_true rfl) dL_hours_239 ⟨Nat.le_of_ble_eq_true rfl, Nat.le_of_ble_eq_true rfl⟩ ?_
  refine lv_topi (fun y16 ey16 => ?_)
  obtain rfl : y16 = 0 := ey16.trans hv17
  refine lv_iload_n hx hb dL_hours_242 rfl (lv_at hl 0 rfl) ?_
  refine lv_bipush (v := (9)) hx hb dL_hours_243 (by decide) ?_
  refine lv_icmp_ne (tgt := 253) hx hb dL_hours_245 (by decide) (fun c17 => ?_) (fun z => absurd z ((by decide)))
  refine lv_iconst (v := (0)) hx hb dL_hours_253 (by decide) ?_
  refine lv_icmp_eq (tgt := 259) hx hb dL_hours_254 (by decide) (fun c18 => ?_) (fun z => absurd ((by decide)) z)
  refine lv_iinc (v := 1) (lv' := [(1, .int (1)), (0, .ref (α3 (0)))]) hx hb dL_hours_259 hl (k := 0) rfl (by decide) (by decide) rfl (fun ls hl => ?_)
  refine lv_goto (tgt := 208) hx hb dL_hours_262 (by decide) ?_
  refine lv_iload_n hx hb dL_hours_208 rfl (lv_at hl 0 rfl) ?_
  refine lv_bipush (v := (10)) hx hb dL_hours_209 (by decide) ?_
  refine lv_icmp_ge (tgt := 265) hx hb dL_hours_211 (by decide) (fun z => absurd z ((by decide))) (fun c19 => ?_)
  refine lv_aload_n hx hb dL_hours_214 rfl (lv_at hl 1 rfl) ?_
  refine lv_iconst (v := (0)) hx hb dL_hours_215 (by decide) ?_
  refine lv_bipush (v := (28)) hx hb dL_hours_216 (by decide) ?_
  refine lv_iconst (v := (2)) hx hb dL_hours_218 (by decide) ?_
  refine lv_iload_n hx hb dL_hours_219 rfl (lv_at hl 0 rfl) ?_
  refine lv_imul hx hb dL_hours_220 ?_
  refine lv_topi (fun y20 ey20 => ?_)
  obtain rfl : y20 = 2 := ey20.trans (by decide)
  refine lv_iadd hx hb dL_hours_221 ?_
  refine lv_topi (fun y21 ey21 => ?_)
  obtain rfl : y21 = 30 := ey21.trans (by decide)
  refine lv_bipush (v := (40)) hx hb dL_hours_222 (by decide) ?_
  refine lv_bipush (v := (64)) hx hb dL_hours_224 (by decide) ?_
  refine mcallVw hw hC.1 rfl rfl ⟨hx, hb, hml, hown, hts⟩ hS (c_X3_addShift hC wf_hF9 0 30 40 64 (by decide) (by decide) (by decide) (by decide) (by decide) (by decide) hv18) (cwV 4 hts gL_hours_X3_addShift rfl rfl rfl (by decide +kernel) ⟨Nat.le_of_ble_eq_true rfl, Nat.le_of_ble_eq_true rfl⟩) rfl hl.1 rfl (Nat.le_of_ble_eq_true rfl) dL_hours_226 ⟨Nat.le_of_ble_eq_true rfl, Nat.le_of_ble_eq_true rfl⟩ (fun r9 V4 α4 H locs hq hw hS => ?_)
  obtain ⟨er, hC, hO⟩ := hq
  have hC : mC G V4 α4 hF10 0 1 8 := hC
  have e0 : α4 0 = α3 0 := (hO 0 (by omega)).2
  have hl : lv_has ls 2 [(1, .int (1)), (0, .ref (α4 (0)))] := by rw [e0]; exact hl
  obtain rfl : r9 = 7 := er.symm.trans (by decide)
  refine lv_bipush (v := (6)) hx hb dL_hours_229 (by decide) ?_
  refine lv_iload_n hx hb dL_hours_231 rfl (lv_at hl 0 rfl) ?_
  refine lv_iadd hx hb dL_hours_232 ?_
  refine lv_topi (fun y22 ey22 => ?_)
  obtain rfl : y22 = 7 := ey22.trans (by decide)
  refine lv_icmp_ne (tgt := 257) hx hb dL_hours_233 (by decide) (fun z => absurd ((by decide)) z) (fun c23 => ?_)
  refine lv_aload_n hx hb dL_hours_236 rfl (lv_at hl 1 rfl) ?_
  refine lv_iconst (v := (0)) hx hb dL_hours_237 (by decide) ?_
  refine lv_iconst (v := (1)) hx hb dL_hours_238 (by decide) ?_
  refine mcallVi hw (hC.1) rfl rfl ⟨hx, hb, hml, hown, hts⟩ (c_X3_excess hC wf_hF10 0 1 (by decide) (by decide)) (cwV 2 hts gL_hours_X3_excess rfl rfl rfl (by decide +kernel) ⟨Nat.le_of_ble_eq_true rfl, Nat.le_of_ble_eq_true rfl⟩) rfl hl.1 rfl (Nat.le_of_ble_eq_true rfl) dL_hours_239 ⟨Nat.le_of_ble_eq_true rfl, Nat.le_of_ble_eq_true rfl⟩ ?_
  refine lv_topi (fun y24 ey24 => ?_)
  obtain rfl : y24 = 0 := ey24.trans hv19
  refine lv_iload_n hx hb dL_hours_242 rfl (lv_at hl 0 rfl) ?_
  refine lv_bipush (v := (9)) hx hb dL_hours_243 (by decide) ?_
  refine lv_icmp_ne (tgt := 253) hx hb dL_hours_245 (by decide) (fun c25 => ?_) (fun z => absurd z ((by decide)))
  refine lv_iconst (v := (0)) hx hb dL_hours_253 (by decide) ?_
  refine lv_icmp_eq (tgt := 259) hx hb dL_hours_254 (by decide) (fun c26 => ?_) (fun z => absurd ((by decide)) z)
  exact kk _ _ _ _ _ hC hl hw hS

set_option maxHeartbeats 40000000 in
set_option maxRecDepth 100000 in
theorem h_s2 {p : Program} {l : Launch} {e : Env} {s : State} {m : MethodId} {args : Array Value} {below : List Frame} {meth : Method} {c : Code} {Q : State → Prop} {G : mG} {V : mV} {α : Nat → Nat} (hl0 : l.stackTraces = false) (hx : p.tables.exec = Jvm.exec) (hb : c.code = cL_hours) (hml : c.maxLocals = 2) (hown : s.vm.findClass RL = some m.cls) (hts : ∀ w ∈ wsL_hours, w.before args s = true) (hC : mC G V α hF10 0 1 8)
    (kk : ∀ (V : mV) (α : Nat → Nat) (H : Heap) (locs : List Loc) (ls : Array Slot), mC G V α hF15 0 1 13 → lv_has ls 2 [(1, .int (6)), (0, .ref (α (0)))] → mW G V α s H → va_S (mfree G) s.heap H locs → W p l e ({ frames := 11, cells := 501, slots := 24736, locals := 364 } : Room) s m args below meth c H locs 37 3340 Q (F0 m 259 ls []))
    (H : Heap) (locs : List Loc) (ls : Array Slot) (hl : lv_has ls 2 [(1, .int (1)), (0, .ref (α (0)))]) (hw : mW G V α s H) (hS : va_S (mfree G) s.heap H locs) : W p l e ({ frames := 11, cells := 501, slots := 24736, locals := 364 } : Room) s m args below meth c H locs 27 2290 Q (F0 m 259 ls []) := by
  refine lv_iinc (v := 2) (lv' := [(1, .int (2)), (0, .ref (α (0)))]) hx hb dL_hours_259 hl (k := 0) rfl (by decide) (by decide) rfl (fun ls hl => ?_)
  refine lv_goto (tgt := 208) hx hb dL_hours_262 (by decide) ?_
  refine lv_iload_n hx hb dL_hours_208 rfl (lv_at hl 0 rfl) ?_
  refine lv_bipush (v := (10)) hx hb dL_hours_209 (by decide) ?_
  refine lv_icmp_ge (tgt := 265) hx hb dL_hours_211 (by decide) (fun z => absurd z ((by decide))) (fun c1 => ?_)
  refine lv_aload_n hx hb dL_hours_214 rfl (lv_at hl 1 rfl) ?_
  refine lv_iconst (v := (0)) hx hb dL_hours_215 (by decide) ?_
  refine lv_bipush (v := (28)) hx hb dL_hours_216 (by decide) ?_
  refine lv_iconst (v := (2)) hx hb dL_hours_218 (by decide) ?_
  refine lv_iload_n hx hb dL_hours_219 rfl (lv_at hl 0 rfl) ?_
  refine lv_imul hx hb dL_hours_220 ?_
  refine lv_topi (fun y2 ey2 => ?_)
  obtain rfl : y2 = 4 := ey2.trans (by decide)
  refine lv_iadd hx hb dL_hours_221 ?_
  refine lv_topi (fun y3 ey3 => ?_)
  obtain rfl : y3 = 32 := ey3.trans (by decide)
  refine lv_bipush (v := (40)) hx hb dL_hours_222 (by decide) ?_
  refine lv_bipush (v := (64)) hx hb dL_hours_224 (by decide) ?_
  refine mcallVw hw hC.1 rfl rfl ⟨hx, hb, hml, hown, hts⟩ hS (c_X3_addShift hC wf_hF10 0 32 40 64 (by decide) (by decide) (by decide) (by decide) (by decide) (by decide) hv20) (cwV 4 hts gL_hours_X3_addShift rfl rfl rfl (by decide +kernel) ⟨Nat.le_of_ble_eq_true rfl, Nat.le_of_ble_eq_true rfl⟩) rfl hl.1 rfl (Nat.le_of_ble_eq_true rfl) dL_hours_226 ⟨Nat.le_of_ble_eq_true rfl, Nat.le_of_ble_eq_true rfl⟩ (fun r9 V1 α1 H locs hq hw hS => ?_)
  obtain ⟨er, hC, hO⟩ := hq
  have hC : mC G V1 α1 hF11 0 1 9 := hC
  have e0 : α1 0 = α 0 := (hO 0 (by omega)).2
  have hl : lv_has ls 2 [(1, .int (2)), (0, .ref (α1 (0)))] := by rw [e0]; exact hl
  obtain rfl : r9 = 8 := er.symm.trans (by decide)
  refine lv_bipush (v := (6)) hx hb dL_hours_229 (by decide) ?_
  refine lv_iload_n hx hb dL_hours_231 rfl (lv_at hl 0 rfl) ?_
  refine lv_iadd hx hb dL_hours_232 ?_
  refine lv_topi (fun y4 ey4 => ?_)
  obtain rfl : y4 = 8 := ey4.trans (by decide)
  refine lv_icmp_ne (tgt := 257) hx hb dL_hours_233 (by decide) (fun z => absurd ((by decide)) z) (fun c5 => ?_)
  refine lv_aload_n hx hb dL_hours_236 rfl (lv_at hl 1 rfl) ?_
  refine lv_iconst (v := (0)) hx hb dL_hours_237 (by decide) ?_
  refine lv_iconst (v := (1)) hx hb dL_hours_238 (by decide) ?_
  refine mcallVi hw (hC.1) rfl rfl ⟨hx, hb, hml, hown, hts⟩ (c_X3_excess hC wf_hF11 0 1 (by decide) (by decide)) (cwV 2 hts gL_hours_X3_excess rfl rfl rfl (by decide +kernel) ⟨Nat.le_of_ble_eq_true rfl, Nat.le_of_ble_eq_true rfl⟩) rfl hl.1 rfl (Nat.le_of_ble_eq_true rfl) dL_hours_239 ⟨Nat.le_of_ble_eq_true rfl, Nat.le_of_ble_eq_true rfl⟩ ?_
  refine lv_topi (fun y6 ey6 => ?_)
  obtain rfl : y6 = 0 := ey6.trans hv21
  refine lv_iload_n hx hb dL_hours_242 rfl (lv_at hl 0 rfl) ?_
  refine lv_bipush (v := (9)) hx hb dL_hours_243 (by decide) ?_
  refine lv_icmp_ne (tgt := 253) hx hb dL_hours_245 (by decide) (fun c7 => ?_) (fun z => absurd z ((by decide)))
  refine lv_iconst (v := (0)) hx hb dL_hours_253 (by decide) ?_
  refine lv_icmp_eq (tgt := 259) hx hb dL_hours_254 (by decide) (fun c8 => ?_) (fun z => absurd ((by decide)) z)
  refine lv_iinc (v := 3) (lv' := [(1, .int (3)), (0, .ref (α1 (0)))]) hx hb dL_hours_259 hl (k := 0) rfl (by decide) (by decide) rfl (fun ls hl => ?_)
  refine lv_goto (tgt := 208) hx hb dL_hours_262 (by decide) ?_
  refine lv_iload_n hx hb dL_hours_208 rfl (lv_at hl 0 rfl) ?_
  refine lv_bipush (v := (10)) hx hb dL_hours_209 (by decide) ?_
  refine lv_icmp_ge (tgt := 265) hx hb dL_hours_211 (by decide) (fun z => absurd z ((by decide))) (fun c9 => ?_)
  refine lv_aload_n hx hb dL_hours_214 rfl (lv_at hl 1 rfl) ?_
  refine lv_iconst (v := (0)) hx hb dL_hours_215 (by decide) ?_
  refine lv_bipush (v := (28)) hx hb dL_hours_216 (by decide) ?_
  refine lv_iconst (v := (2)) hx hb dL_hours_218 (by decide) ?_
  refine lv_iload_n hx hb dL_hours_219 rfl (lv_at hl 0 rfl) ?_
  refine lv_imul hx hb dL_hours_220 ?_
  refine lv_topi (fun y10 ey10 => ?_)
  obtain rfl : y10 = 6 := ey10.trans (by decide)
  refine lv_iadd hx hb dL_hours_221 ?_
  refine lv_topi (fun y11 ey11 => ?_)
  obtain rfl : y11 = 34 := ey11.trans (by decide)
  refine lv_bipush (v := (40)) hx hb dL_hours_222 (by decide) ?_
  refine lv_bipush (v := (64)) hx hb dL_hours_224 (by decide) ?_
  refine mcallVw hw hC.1 rfl rfl ⟨hx, hb, hml, hown, hts⟩ hS (c_X3_addShift hC wf_hF11 0 34 40 64 (by decide) (by decide) (by decide) (by decide) (by decide) (by decide) hv22) (cwV 4 hts gL_hours_X3_addShift rfl rfl rfl (by decide +kernel) ⟨Nat.le_of_ble_eq_true rfl, Nat.le_of_ble_eq_true rfl⟩) rfl hl.1 rfl (Nat.le_of_ble_eq_true rfl) dL_hours_226 ⟨Nat.le_of_ble_eq_true rfl, Nat.le_of_ble_eq_true rfl⟩ (fun r9 V2 α2 H locs hq hw hS => ?_)
  obtain ⟨er, hC, hO⟩ := hq
  have hC : mC G V2 α2 hF12 0 1 10 := hC
  have e0 : α2 0 = α1 0 := (hO 0 (by omega)).2
  have hl : lv_has ls 2 [(1, .int (3)), (0, .ref (α2 (0)))] := by rw [e0]; exact hl
  obtain rfl : r9 = 9 := er.symm.trans (by decide)
  refine lv_bipush (v := (6)) hx hb dL_hours_229 (by decide) ?_
  refine lv_iload_n hx hb dL_hours_231 rfl (lv_at hl 0 rfl) ?_
  refine lv_iadd hx hb dL_hours_232 ?_
  refine lv_topi (fun y12 ey12 => ?_)
  obtain rfl : y12 = 9 := ey12.trans (by decide)
  refine lv_icmp_ne (tgt := 257) hx hb dL_hours_233 (by decide) (fun z => absurd ((by decide)) z) (fun c13 => ?_)
  refine lv_aload_n hx hb dL_hours_236 rfl (lv_at hl 1 rfl) ?_
  refine lv_iconst (v := (0)) hx hb dL_hours_237 (by decide) ?_
  refine lv_iconst (v := (1)) hx hb dL_hours_238 (by decide) ?_
  refine mcallVi hw (hC.1) rfl rfl ⟨hx, hb, hml, hown, hts⟩ (c_X3_excess hC wf_hF12 0 1 (by decide) (by decide)) (cwV 2 hts gL_hours_X3_excess rfl rfl rfl (by decide +kernel) ⟨Nat.le_of_ble_eq_true rfl, Nat.le_of_ble_eq_true rfl⟩) rfl hl.1 rfl (Nat.le_of_ble_eq_true rfl) dL_hours_239 ⟨Nat.le_of_ble_eq_true rfl, Nat.le_of_ble_eq_true rfl⟩ ?_
  refine lv_topi (fun y14 ey14 => ?_)
  obtain rfl : y14 = 0 := ey14.trans hv23
  refine lv_iload_n hx hb dL_hours_242 rfl (lv_at hl 0 rfl) ?_
  refine lv_bipush (v := (9)) hx hb dL_hours_243 (by decide) ?_
  refine lv_icmp_ne (tgt := 253) hx hb dL_hours_245 (by decide) (fun c15 => ?_) (fun z => absurd z ((by decide)))
  refine lv_iconst (v := (0)) hx hb dL_hours_253 (by decide) ?_
  refine lv_icmp_eq (tgt := 259) hx hb dL_hours_254 (by decide) (fun c16 => ?_) (fun z => absurd ((by decide)) z)
  refine lv_iinc (v := 4) (lv' := [(1, .int (4)), (0, .ref (α2 (0)))]) hx hb dL_hours_259 hl (k := 0) rfl (by decide) (by decide) rfl (fun ls hl => ?_)
  refine lv_goto (tgt := 208) hx hb dL_hours_262 (by decide) ?_
  refine lv_iload_n hx hb dL_hours_208 rfl (lv_at hl 0 rfl) ?_
  refine lv_bipush (v := (10)) hx hb dL_hours_209 (by decide) ?_
  refine lv_icmp_ge (tgt := 265) hx hb dL_hours_211 (by decide) (fun z => absurd z ((by decide))) (fun c17 => ?_)
  refine lv_aload_n hx hb dL_hours_214 rfl (lv_at hl 1 rfl) ?_
  refine lv_iconst (v := (0)) hx hb dL_hours_215 (by decide) ?_
  refine lv_bipush (v := (28)) hx hb dL_hours_216 (by decide) ?_
  refine lv_iconst (v := (2)) hx hb dL_hours_218 (by decide) ?_
  refine lv_iload_n hx hb dL_hours_219 rfl (lv_at hl 0 rfl) ?_
  refine lv_imul hx hb dL_hours_220 ?_
  refine lv_topi (fun y18 ey18 => ?_)
  obtain rfl : y18 = 8 := ey18.trans (by decide)
  refine lv_iadd hx hb dL_hours_221 ?_
  refine lv_topi (fun y19 ey19 => ?_)
  obtain rfl : y19 = 36 := ey19.trans (by decide)
  refine lv_bipush (v := (40)) hx hb dL_hours_222 (by decide) ?_
  refine lv_bipush (v := (64)) hx hb dL_hours_224 (by decide) ?_
  refine mcallVw hw hC.1 rfl rfl ⟨hx, hb, hml, hown, hts⟩ hS (c_X3_addShift hC wf_hF12 0 36 40 64 (by decide) (by decide) (by decide) (by decide) (by decide) (by decide) hv24) (cwV 4 hts gL_hours_X3_addShift rfl rfl rfl (by decide +kernel) ⟨Nat.le_of_ble_eq_true rfl, Nat.le_of_ble_eq_true rfl⟩) rfl hl.1 rfl (Nat.le_of_ble_eq_true rfl) dL_hours_226 ⟨Nat.le_of_ble_eq_true rfl, Nat.le_of_ble_eq_true rfl⟩ (fun r9 V3 α3 H locs hq hw hS => ?_)
  obtain ⟨er, hC, hO⟩ := hq
  have hC : mC G V3 α3 hF13 0 1 11 := hC
  have e0 : α3 0 = α2 0 := (hO 0 (by omega)).2
  have hl : lv_has ls 2 [(1, .int (4)), (0, .ref (α3 (0)))] := by rw [e0]; exact hl
  obtain rfl : r9 = 10 := er.symm.trans (by decide)
  refine lv_bipush (v := (6)) hx hb dL_hours_229 (by decide) ?_
  refine lv_iload_n hx hb dL_hours_231 rfl (lv_at hl 0 rfl) ?_
  refine lv_iadd hx hb dL_hours_232 ?_
  refine lv_topi (fun y20 ey20 => ?_)
  obtain rfl : y20 = 10 := ey20.trans (by decide)
  refine lv_icmp_ne (tgt := 257) hx hb dL_hours_233 (by decide) (fun z => absurd ((by decide)) z) (fun c21 => ?_)
  refine lv_aload_n hx hb dL_hours_236 rfl (lv_at hl 1 rfl) ?_
  refine lv_iconst (v := (0)) hx hb dL_hours_237 (by decide) ?_
  refine lv_iconst (v := (1)) hx hb dL_hours_238 (by decide) ?_
  refine mcallVi hw (hC.1) rfl rfl ⟨hx, hb, hml, hown, hts⟩ (c_X3_excess hC wf_hF13 0 1 (by decide) (by decide)) (cwV 2 hts gL_hours_X3_excess rfl rfl rfl (by decide +kernel) ⟨Nat.le_of_ble_eq_true rfl, Nat.le_of_ble_eq_true rfl⟩) rfl hl.1 rfl (Nat.le_of_ble_eq_true rfl) dL_hours_239 ⟨Nat.le_of_ble_eq_true rfl, Nat.le_of_ble_eq_true rfl⟩ ?_
  refine lv_topi (fun y22 ey22 => ?_)
  obtain rfl : y22 = 0 := ey22.trans hv25
  refine lv_iload_n hx hb dL_hours_242 rfl (lv_at hl 0 rfl) ?_
  refine lv_bipush (v := (9)) hx hb dL_hours_243 (by decide) ?_
  refine lv_icmp_ne (tgt := 253) hx hb dL_hours_245 (by decide) (fun c23 => ?_) (fun z => absurd z ((by decide)))
  refine lv_iconst (v := (0)) hx hb dL_hours_253 (by decide) ?_
  refine lv_icmp_eq (tgt := 259) hx hb dL_hours_254 (by decide) (fun c24 => ?_) (fun z => absurd ((by decide)) z)
  refine lv_iinc (v := 5) (lv' := [(1, .int (5)), (0, .ref (α3 (0)))]) hx hb dL_hours_259 hl (k := 0) rfl (by decide) (by decide) rfl (fun ls hl => ?_)
  refine lv_goto (tgt := 208) hx hb dL_hours_262 (by decide) ?_
  refine lv_iload_n hx hb dL_hours_208 rfl (lv_at hl 0 rfl) ?_
  refine lv_bipush (v := (10)) hx hb dL_hours_209 (by decide) ?_
  refine lv_icmp_ge (tgt := 265) hx hb dL_hours_211 (by decide) (fun z => absurd z ((by decide))) (fun c25 => ?_)
  refine lv_aload_n hx hb dL_hours_214 rfl (lv_at hl 1 rfl) ?_
  refine lv_iconst (v := (0)) hx hb dL_hours_215 (by decide) ?_
  refine lv_bipush (v := (28)) hx hb dL_hours_216 (by decide) ?_
  refine lv_iconst (v := (2)) hx hb dL_hours_218 (by decide) ?_
  refine lv_iload_n hx hb dL_hours_219 rfl (lv_at hl 0 rfl) ?_
  refine lv_imul hx hb dL_hours_220 ?_
  refine lv_topi (fun y26 ey26 => ?_)
  obtain rfl : y26 = 10 := ey26.trans (by decide)
  refine lv_iadd hx hb dL_hours_221 ?_
  refine lv_topi (fun y27 ey27 => ?_)
  obtain rfl : y27 = 38 := ey27.trans (by decide)
  refine lv_bipush (v := (40)) hx hb dL_hours_222 (by decide) ?_
  refine lv_bipush (v := (64)) hx hb dL_hours_224 (by decide) ?_
  refine mcallVw hw hC.1 rfl rfl ⟨hx, hb, hml, hown, hts⟩ hS (c_X3_addShift hC wf_hF13 0 38 40 64 (by decide) (by decide) (by decide) (by decide) (by decide) (by decide) hv26) (cwV 4 hts gL_hours_X3_addShift rfl rfl rfl (by decide +kernel) ⟨Nat.le_of_ble_eq_true rfl, Nat.le_of_ble_eq_true rfl⟩) rfl hl.1 rfl (Nat.le_of_ble_eq_true rfl) dL_hours_226 ⟨Nat.le_of_ble_eq_true rfl, Nat.le_of_ble_eq_true rfl⟩ (fun r9 V4 α4 H locs hq hw hS => ?_)
  obtain ⟨er, hC, hO⟩ := hq
  have hC : mC G V4 α4 hF14 0 1 12 := hC
  have e0 : α4 0 = α3 0 := (hO 0 (by omega)).2
  have hl : lv_has ls 2 [(1, .int (5)), (0, .ref (α4 (0)))] := by rw [e0]; exact hl
  obtain rfl : r9 = 11 := er.symm.trans (by decide)
  refine lv_bipush (v := (6)) hx hb dL_hours_229 (by decide) ?_
  refine lv_iload_n hx hb dL_hours_231 rfl (lv_at hl 0 rfl) ?_
  refine lv_iadd hx hb dL_hours_232 ?_
  refine lv_topi (fun y28 ey28 => ?_)
  obtain rfl : y28 = 11 := ey28.trans (by decide)
  refine lv_icmp_ne (tgt := 257) hx hb dL_hours_233 (by decide) (fun z => absurd ((by decide)) z) (fun c29 => ?_)
  refine lv_aload_n hx hb dL_hours_236 rfl (lv_at hl 1 rfl) ?_
  refine lv_iconst (v := (0)) hx hb dL_hours_237 (by decide) ?_
  refine lv_iconst (v := (1)) hx hb dL_hours_238 (by decide) ?_
  refine mcallVi hw (hC.1) rfl rfl ⟨hx, hb, hml, hown, hts⟩ (c_X3_excess hC wf_hF14 0 1 (by decide) (by decide)) (cwV 2 hts gL_hours_X3_excess rfl rfl rfl (by decide +kernel) ⟨Nat.le_of_ble_eq_true rfl, Nat.le_of_ble_eq_true rfl⟩) rfl hl.1 rfl (Nat.le_of_ble_eq_true rfl) dL_hours_239 ⟨Nat.le_of_ble_eq_true rfl, Nat.le_of_ble_eq_true rfl⟩ ?_
  refine lv_topi (fun y30 ey30 => ?_)
  obtain rfl : y30 = 0 := ey30.trans hv27
  refine lv_iload_n hx hb dL_hours_242 rfl (lv_at hl 0 rfl) ?_
  refine lv_bipush (v := (9)) hx hb dL_hours_243 (by decide) ?_
  refine lv_icmp_ne (tgt := 253) hx hb dL_hours_245 (by decide) (fun c31 => ?_) (fun z => absurd z ((by decide)))
  refine lv_iconst (v := (0)) hx hb dL_hours_253 (by decide) ?_
  refine lv_icmp_eq (tgt := 259) hx hb dL_hours_254 (by decide) (fun c32 => ?_) (fun z => absurd ((by decide)) z)
  refine lv_iinc (v := 6) (lv' := [(1, .int (6)), (0, .ref (α4 (0)))]) hx hb dL_hours_259 hl (k := 0) rfl (by decide) (by decide) rfl (fun ls hl => ?_)
  refine lv_goto (tgt := 208) hx hb dL_hours_262 (by decide) ?_
  refine lv_iload_n hx hb dL_hours_208 rfl (lv_at hl 0 rfl) ?_
  refine lv_bipush (v := (10)) hx hb dL_hours_209 (by decide) ?_
  refine lv_icmp_ge (tgt := 265) hx hb dL_hours_211 (by decide) (fun z => absurd z ((by decide))) (fun c33 => ?_)
  refine lv_aload_n hx hb dL_hours_214 rfl (lv_at hl 1 rfl) ?_
  refine lv_iconst (v := (0)) hx hb dL_hours_215 (by decide) ?_
  refine lv_bipush (v := (28)) hx hb dL_hours_216 (by decide) ?_
  refine lv_iconst (v := (2)) hx hb dL_hours_218 (by decide) ?_
  refine lv_iload_n hx hb dL_hours_219 rfl (lv_at hl 0 rfl) ?_
  refine lv_imul hx hb dL_hours_220 ?_
  refine lv_topi (fun y34 ey34 => ?_)
  obtain rfl : y34 = 12 := ey34.trans (by decide)
  refine lv_iadd hx hb dL_hours_221 ?_
  refine lv_topi (fun y35 ey35 => ?_)
  obtain rfl : y35 = 40 := ey35.trans (by decide)
  refine lv_bipush (v := (40)) hx hb dL_hours_222 (by decide) ?_
  refine lv_bipush (v := (64)) hx hb dL_hours_224 (by decide) ?_
  refine mcallVw hw hC.1 rfl rfl ⟨hx, hb, hml, hown, hts⟩ hS (c_X3_addShift hC wf_hF14 0 40 40 64 (by decide) (by decide) (by decide) (by decide) (by decide) (by decide) hv28) (cwV 4 hts gL_hours_X3_addShift rfl rfl rfl (by decide +kernel) ⟨Nat.le_of_ble_eq_true rfl, Nat.le_of_ble_eq_true rfl⟩) rfl hl.1 rfl (Nat.le_of_ble_eq_true rfl) dL_hours_226 ⟨Nat.le_of_ble_eq_true rfl, Nat.le_of_ble_eq_true rfl⟩ (fun r9 V5 α5 H locs hq hw hS => ?_)
  obtain ⟨er, hC, hO⟩ := hq
  have hC : mC G V5 α5 hF15 0 1 13 := hC
  have e0 : α5 0 = α4 0 := (hO 0 (by omega)).2
  have hl : lv_has ls 2 [(1, .int (6)), (0, .ref (α5 (0)))] := by rw [e0]; exact hl
  obtain rfl : r9 = 12 := er.symm.trans (by decide)
  refine lv_bipush (v := (6)) hx hb dL_hours_229 (by decide) ?_
  refine lv_iload_n hx hb dL_hours_231 rfl (lv_at hl 0 rfl) ?_
  refine lv_iadd hx hb dL_hours_232 ?_
  refine lv_topi (fun y36 ey36 => ?_)
  obtain rfl : y36 = 12 := ey36.trans (by decide)
  refine lv_icmp_ne (tgt := 257) hx hb dL_hours_233 (by decide) (fun z => absurd ((by decide)) z) (fun c37 => ?_)
  refine lv_aload_n hx hb dL_hours_236 rfl (lv_at hl 1 rfl) ?_
  refine lv_iconst (v := (0)) hx hb dL_hours_237 (by decide) ?_
  refine lv_iconst (v := (1)) hx hb dL_hours_238 (by decide) ?_
  refine mcallVi hw (hC.1) rfl rfl ⟨hx, hb, hml, hown, hts⟩ (c_X3_excess hC wf_hF15 0 1 (by decide) (by decide)) (cwV 2 hts gL_hours_X3_excess rfl rfl rfl (by decide +kernel) ⟨Nat.le_of_ble_eq_true rfl, Nat.le_of_ble_eq_true rfl⟩) rfl hl.1 rfl (Nat.le_of_ble_eq_true rfl) dL_hours_239 ⟨Nat.le_of_ble_eq_true rfl, Nat.le_of_ble_eq_true rfl⟩ ?_
  refine lv_topi (fun y38 ey38 => ?_)
  obtain rfl : y38 = 0 := ey38.trans hv29
  refine lv_iload_n hx hb dL_hours_242 rfl (lv_at hl 0 rfl) ?_
  refine lv_bipush (v := (9)) hx hb dL_hours_243 (by decide) ?_
  refine lv_icmp_ne (tgt := 253) hx hb dL_hours_245 (by decide) (fun c39 => ?_) (fun z => absurd z ((by decide)))
  refine lv_iconst (v := (0)) hx hb dL_hours_253 (by decide) ?_
  refine lv_icmp_eq (tgt := 259) hx hb dL_hours_254 (by decide) (fun c40 => ?_) (fun z => absurd ((by decide)) z)
  exact kk _ _ _ _ _ hC hl hw hS

set_option maxHeartbeats 40000000 in
set_option maxRecDepth 100000 in
theorem h_s3 {p : Program} {l : Launch} {e : Env} {s : State} {m : MethodId} {args : Array Value} {below : List Frame} {meth : Method} {c : Code} {Q : State → Prop} {G : mG} {V : mV} {α : Nat → Nat} (hl0 : l.stackTraces = false) (hx : p.tables.exec = Jvm.exec) (hb : c.code = cL_hours) (hml : c.maxLocals = 2) (hown : s.vm.findClass RL = some m.cls) (hts : ∀ w ∈ wsL_hours, w.before args s = true) (hC : mC G V α hF15 0 1 13)
    (kk : ∀ (V : mV) (α : Nat → Nat) (H : Heap) (locs : List Loc) (ls : Array Slot), mC G V α hF18 0 1 16 → lv_has ls 2 [(1, .int (10)), (0, .ref (α (0)))] → mW G V α s H → va_S (mfree G) s.heap H locs → W p l e ({ frames := 11, cells := 501, slots := 24736, locals := 364 } : Room) s m args below meth c H locs 43 3970 Q (F0 m 312 ls []))
    (H : Heap) (locs : List Loc) (ls : Array Slot) (hl : lv_has ls 2 [(1, .int (6)), (0, .ref (α (0)))]) (hw : mW G V α s H) (hS : va_S (mfree G) s.heap H locs) : W p l e ({ frames := 11, cells := 501, slots := 24736, locals := 364 } : Room) s m args below meth c H locs 37 3340 Q (F0 m 259 ls []) := by
  refine lv_iinc (v := 7) (lv' := [(1, .int (7)), (0, .ref (α (0)))]) hx hb dL_hours_259 hl (k := 0) rfl (by decide) (by decide) rfl (fun ls hl => ?_)
  refine lv_goto (tgt := 208) hx hb dL_hours_262 (by decide) ?_
  refine lv_iload_n hx hb dL_hours_208 rfl (lv_at hl 0 rfl) ?_
  refine lv_bipush (v := (10)) hx hb dL_hours_209 (by decide) ?_
  refine lv_icmp_ge (tgt := 265) hx hb dL_hours_211 (by decide) (fun z => absurd z ((by decide))) (fun c1 => ?_)
  refine lv_aload_n hx hb dL_hours_214 rfl (lv_at hl 1 rfl) ?_
  refine lv_iconst (v := (0)) hx hb dL_hours_215 (by decide) ?_
  refine lv_bipush (v := (28)) hx hb dL_hours_216 (by decide) ?_
  refine lv_iconst (v := (2)) hx hb dL_hours_218 (by decide) ?_
  refine lv_iload_n hx hb dL_hours_219 rfl (lv_at hl 0 rfl) ?_
  refine lv_imul hx hb dL_hours_220 ?_
  refine lv_topi (fun y2 ey2 => ?_)
  obtain rfl : y2 = 14 := ey2.trans (by decide)
  refine lv_iadd hx hb dL_hours_221 ?_
  refine lv_topi (fun y3 ey3 => ?_)
  obtain rfl : y3 = 42 := ey3.trans (by decide)
  refine lv_bipush (v := (40)) hx hb dL_hours_222 (by decide) ?_
  refine lv_bipush (v := (64)) hx hb dL_hours_224 (by decide) ?_
  refine mcallVw hw hC.1 rfl rfl ⟨hx, hb, hml, hown, hts⟩ hS (c_X3_addShift hC wf_hF15 0 42 40 64 (by decide) (by decide) (by decide) (by decide) (by decide) (by decide) hv30) (cwV 4 hts gL_hours_X3_addShift rfl rfl rfl (by decide +kernel) ⟨Nat.le_of_ble_eq_true rfl, Nat.le_of_ble_eq_true rfl⟩) rfl hl.1 rfl (Nat.le_of_ble_eq_true rfl) dL_hours_226 ⟨Nat.le_of_ble_eq_true rfl, Nat.le_of_ble_eq_true rfl⟩ (fun r9 V1 α1 H locs hq hw hS => ?_)
  obtain ⟨er, hC, hO⟩ := hq
  have hC : mC G V1 α1 hF16 0 1 14 := hC
  have e0 : α1 0 = α 0 := (hO 0 (by omega)).2
  have hl : lv_has ls 2 [(1, .int (7)), (0, .ref (α1 (0)))] := by rw [e0]; exact hl
  obtain rfl : r9 = 13 := er.symm.trans (by decide)
  refine lv_bipush (v := (6)) hx hb dL_hours_229 (by decide) ?_
  refine lv_iload_n hx hb dL_hours_231 rfl (lv_at hl 0 rfl) ?_
  refine lv_iadd hx hb dL_hours_232 ?_
  refine lv_topi (fun y4 ey4 => ?_)
  obtain rfl : y4 = 13 := ey4.trans (by decide)
  refine lv_icmp_ne (tgt := 257) hx hb dL_hours_233 (by decide) (fun z => absurd ((by decide)) z) (fun c5 => ?_)
  refine lv_aload_n hx hb dL_hours_236 rfl (lv_at hl 1 rfl) ?_
  refine lv_iconst (v := (0)) hx hb dL_hours_237 (by decide) ?_
  refine lv_iconst (v := (1)) hx hb dL_hours_238 (by decide) ?_
  refine mcallVi hw (hC.1) rfl rfl ⟨hx, hb, hml, hown, hts⟩ (c_X3_excess hC wf_hF16 0 1 (by decide) (by decide)) (cwV 2 hts gL_hours_X3_excess rfl rfl rfl (by decide +kernel) ⟨Nat.le_of_ble_eq_true rfl, Nat.le_of_ble_eq_true rfl⟩) rfl hl.1 rfl (Nat.le_of_ble_eq_true rfl) dL_hours_239 ⟨Nat.le_of_ble_eq_true rfl, Nat.le_of_ble_eq_true rfl⟩ ?_
  refine lv_topi (fun y6 ey6 => ?_)
  obtain rfl : y6 = 0 := ey6.trans hv31
  refine lv_iload_n hx hb dL_hours_242 rfl (lv_at hl 0 rfl) ?_
  refine lv_bipush (v := (9)) hx hb dL_hours_243 (by decide) ?_
  refine lv_icmp_ne (tgt := 253) hx hb dL_hours_245 (by decide) (fun c7 => ?_) (fun z => absurd z ((by decide)))
  refine lv_iconst (v := (0)) hx hb dL_hours_253 (by decide) ?_
  refine lv_icmp_eq (tgt := 259) hx hb dL_hours_254 (by decide) (fun c8 => ?_) (fun z => absurd ((by decide)) z)
  refine lv_iinc (v := 8) (lv' := [(1, .int (8)), (0, .ref (α1 (0)))]) hx hb dL_hours_259 hl (k := 0) rfl (by decide) (by decide) rfl (fun ls hl => ?_)
  refine lv_goto (tgt := 208) hx hb dL_hours_262 (by decide) ?_
  refine lv_iload_n hx hb dL_hours_208 rfl (lv_at hl 0 rfl) ?_
  refine lv_bipush (v := (10)) hx hb dL_hours_209 (by decide) ?_
  refine lv_icmp_ge (tgt := 265) hx hb dL_hours_211 (by decide) (fun z => absurd z ((by decide))) (fun c9 => ?_)
  refine lv_aload_n hx hb dL_hours_214 rfl (lv_at hl 1 rfl) ?_
  refine lv_iconst (v := (0)) hx hb dL_hours_215 (by decide) ?_
  refine lv_bipush (v := (28)) hx hb dL_hours_216 (by decide) ?_
  refine lv_iconst (v := (2)) hx hb dL_hours_218 (by decide) ?_
  refine lv_iload_n hx hb dL_hours_219 rfl (lv_at hl 0 rfl) ?_
  refine lv_imul hx hb dL_hours_220 ?_
  refine lv_topi (fun y10 ey10 => ?_)
  obtain rfl : y10 = 16 := ey10.trans (by decide)
  refine lv_iadd hx hb dL_hours_221 ?_
  refine lv_topi (fun y11 ey11 => ?_)
  obtain rfl : y11 = 44 := ey11.trans (by decide)
  refine lv_bipush (v := (40)) hx hb dL_hours_222 (by decide) ?_
  refine lv_bipush (v := (64)) hx hb dL_hours_224 (by decide) ?_
  refine mcallVw hw hC.1 rfl rfl ⟨hx, hb, hml, hown, hts⟩ hS (c_X3_addShift hC wf_hF16 0 44 40 64 (by decide) (by decide) (by decide) (by decide) (by decide) (by decide) hv32) (cwV 4 hts gL_hours_X3_addShift rfl rfl rfl (by decide +kernel) ⟨Nat.le_of_ble_eq_true rfl, Nat.le_of_ble_eq_true rfl⟩) rfl hl.1 rfl (Nat.le_of_ble_eq_true rfl) dL_hours_226 ⟨Nat.le_of_ble_eq_true rfl, Nat.le_of_ble_eq_true rfl⟩ (fun r9 V2 α2 H locs hq hw hS => ?_)
  obtain ⟨er, hC, hO⟩ := hq
  have hC : mC G V2 α2 hF17 0 1 15 := hC
  have e0 : α2 0 = α1 0 := (hO 0 (by omega)).2
  have hl : lv_has ls 2 [(1, .int (8)), (0, .ref (α2 (0)))] := by rw [e0]; exact hl
  obtain rfl : r9 = 14 := er.symm.trans (by decide)
  refine lv_bipush (v := (6)) hx hb dL_hours_229 (by decide) ?_
  refine lv_iload_n hx hb dL_hours_231 rfl (lv_at hl 0 rfl) ?_
  refine lv_iadd hx hb dL_hours_232 ?_
  refine lv_topi (fun y12 ey12 => ?_)
  obtain rfl : y12 = 14 := ey12.trans (by decide)
  refine lv_icmp_ne (tgt := 257) hx hb dL_hours_233 (by decide) (fun z => absurd ((by decide)) z) (fun c13 => ?_)
  refine lv_aload_n hx hb dL_hours_236 rfl (lv_at hl 1 rfl) ?_
  refine lv_iconst (v := (0)) hx hb dL_hours_237 (by decide) ?_
  refine lv_iconst (v := (1)) hx hb dL_hours_238 (by decide) ?_
  refine mcallVi hw (hC.1) rfl rfl ⟨hx, hb, hml, hown, hts⟩ (c_X3_excess hC wf_hF17 0 1 (by decide) (by decide)) (cwV 2 hts gL_hours_X3_excess rfl rfl rfl (by decide +kernel) ⟨Nat.le_of_ble_eq_true rfl, Nat.le_of_ble_eq_true rfl⟩) rfl hl.1 rfl (Nat.le_of_ble_eq_true rfl) dL_hours_239 ⟨Nat.le_of_ble_eq_true rfl, Nat.le_of_ble_eq_true rfl⟩ ?_
  refine lv_topi (fun y14 ey14 => ?_)
  obtain rfl : y14 = 0 := ey14.trans hv33
  refine lv_iload_n hx hb dL_hours_242 rfl (lv_at hl 0 rfl) ?_
  refine lv_bipush (v := (9)) hx hb dL_hours_243 (by decide) ?_
  refine lv_icmp_ne (tgt := 253) hx hb dL_hours_245 (by decide) (fun c15 => ?_) (fun z => absurd z ((by decide)))
  refine lv_iconst (v := (0)) hx hb dL_hours_253 (by decide) ?_
  refine lv_icmp_eq (tgt := 259) hx hb dL_hours_254 (by decide) (fun c16 => ?_) (fun z => absurd ((by decide)) z)
  refine lv_iinc (v := 9) (lv' := [(1, .int (9)), (0, .ref (α2 (0)))]) hx hb dL_hours_259 hl (k := 0) rfl (by decide) (by decide) rfl (fun ls hl => ?_)
  refine lv_goto (tgt := 208) hx hb dL_hours_262 (by decide) ?_
  refine lv_iload_n hx hb dL_hours_208 rfl (lv_at hl 0 rfl) ?_
  refine lv_bipush (v := (10)) hx hb dL_hours_209 (by decide) ?_
  refine lv_icmp_ge (tgt := 265) hx hb dL_hours_211 (by decide) (fun z => absurd z ((by decide))) (fun c17 => ?_)
  refine lv_aload_n hx hb dL_hours_214 rfl (lv_at hl 1 rfl) ?_
  refine lv_iconst (v := (0)) hx hb dL_hours_215 (by decide) ?_
  refine lv_bipush (v := (28)) hx hb dL_hours_216 (by decide) ?_
  refine lv_iconst (v := (2)) hx hb dL_hours_218 (by decide) ?_
  refine lv_iload_n hx hb dL_hours_219 rfl (lv_at hl 0 rfl) ?_
  refine lv_imul hx hb dL_hours_220 ?_
  refine lv_topi (fun y18 ey18 => ?_)
  obtain rfl : y18 = 18 := ey18.trans (by decide)
  refine lv_iadd hx hb dL_hours_221 ?_
  refine lv_topi (fun y19 ey19 => ?_)
  obtain rfl : y19 = 46 := ey19.trans (by decide)
  refine lv_bipush (v := (40)) hx hb dL_hours_222 (by decide) ?_
  refine lv_bipush (v := (64)) hx hb dL_hours_224 (by decide) ?_
  refine mcallVw hw hC.1 rfl rfl ⟨hx, hb, hml, hown, hts⟩ hS (c_X3_addShift hC wf_hF17 0 46 40 64 (by decide) (by decide) (by decide) (by decide) (by decide) (by decide) hv34) (cwV 4 hts gL_hours_X3_addShift rfl rfl rfl (by decide +kernel) ⟨Nat.le_of_ble_eq_true rfl, Nat.le_of_ble_eq_true rfl⟩) rfl hl.1 rfl (Nat.le_of_ble_eq_true rfl) dL_hours_226 ⟨Nat.le_of_ble_eq_true rfl, Nat.le_of_ble_eq_true rfl⟩ (fun r9 V3 α3 H locs hq hw hS => ?_)
  obtain ⟨er, hC, hO⟩ := hq
  have hC : mC G V3 α3 hF18 0 1 16 := hC
  have e0 : α3 0 = α2 0 := (hO 0 (by omega)).2
  have hl : lv_has ls 2 [(1, .int (9)), (0, .ref (α3 (0)))] := by rw [e0]; exact hl
  obtain rfl : r9 = 15 := er.symm.trans (by decide)
  refine lv_bipush (v := (6)) hx hb dL_hours_229 (by decide) ?_
  refine lv_iload_n hx hb dL_hours_231 rfl (lv_at hl 0 rfl) ?_
  refine lv_iadd hx hb dL_hours_232 ?_
  refine lv_topi (fun y20 ey20 => ?_)
  obtain rfl : y20 = 15 := ey20.trans (by decide)
  refine lv_icmp_ne (tgt := 257) hx hb dL_hours_233 (by decide) (fun z => absurd ((by decide)) z) (fun c21 => ?_)
  refine lv_aload_n hx hb dL_hours_236 rfl (lv_at hl 1 rfl) ?_
  refine lv_iconst (v := (0)) hx hb dL_hours_237 (by decide) ?_
  refine lv_iconst (v := (1)) hx hb dL_hours_238 (by decide) ?_
  refine mcallVi hw (hC.1) rfl rfl ⟨hx, hb, hml, hown, hts⟩ (c_X3_excess hC wf_hF18 0 1 (by decide) (by decide)) (cwV 2 hts gL_hours_X3_excess rfl rfl rfl (by decide +kernel) ⟨Nat.le_of_ble_eq_true rfl, Nat.le_of_ble_eq_true rfl⟩) rfl hl.1 rfl (Nat.le_of_ble_eq_true rfl) dL_hours_239 ⟨Nat.le_of_ble_eq_true rfl, Nat.le_of_ble_eq_true rfl⟩ ?_
  refine lv_topi (fun y22 ey22 => ?_)
  obtain rfl : y22 = 32 := ey22.trans hv35
  refine lv_iload_n hx hb dL_hours_242 rfl (lv_at hl 0 rfl) ?_
  refine lv_bipush (v := (9)) hx hb dL_hours_243 (by decide) ?_
  refine lv_icmp_ne (tgt := 253) hx hb dL_hours_245 (by decide) (fun z => absurd ((by decide)) z) (fun c23 => ?_)
  refine lv_bipush (v := (32)) hx hb dL_hours_248 (by decide) ?_
  refine lv_goto (tgt := 254) hx hb dL_hours_250 (by decide) ?_
  refine lv_icmp_eq (tgt := 259) hx hb dL_hours_254 (by decide) (fun c24 => ?_) (fun z => absurd ((by decide)) z)
  refine lv_iinc (v := 10) (lv' := [(1, .int (10)), (0, .ref (α3 (0)))]) hx hb dL_hours_259 hl (k := 0) rfl (by decide) (by decide) rfl (fun ls hl => ?_)
  refine lv_goto (tgt := 208) hx hb dL_hours_262 (by decide) ?_
  refine lv_iload_n hx hb dL_hours_208 rfl (lv_at hl 0 rfl) ?_
  refine lv_bipush (v := (10)) hx hb dL_hours_209 (by decide) ?_
  refine lv_icmp_ge (tgt := 265) hx hb dL_hours_211 (by decide) (fun c25 => ?_) (fun z => absurd ((by decide)) z)
  refine lv_aload_n hx hb dL_hours_265 rfl (lv_at hl 1 rfl) ?_
  refine lv_iconst (v := (0)) hx hb dL_hours_266 (by decide) ?_
  refine lv_iconst (v := (4)) hx hb dL_hours_267 (by decide) ?_
  refine mcallVi hw (hC.1) rfl rfl ⟨hx, hb, hml, hown, hts⟩ (c_X3_worked hC wf_hF18 0 4 (by decide) (by decide)) (cwV 2 hts gL_hours_X3_worked rfl rfl rfl (by decide +kernel) ⟨Nat.le_of_ble_eq_true rfl, Nat.le_of_ble_eq_true rfl⟩) rfl hl.1 rfl (Nat.le_of_ble_eq_true rfl) dL_hours_268 ⟨Nat.le_of_ble_eq_true rfl, Nat.le_of_ble_eq_true rfl⟩ ?_
  refine lv_topi (fun y26 ey26 => ?_)
  obtain rfl : y26 = 248 := ey26.trans hv36
  refine lv_sipush (v := (248)) hx hb dL_hours_271 (by decide) ?_
  refine lv_icmp_ne (tgt := 421) hx hb dL_hours_274 (by decide) (fun z => absurd ((by decide)) z) (fun c27 => ?_)
  refine lv_aload_n hx hb dL_hours_277 rfl (lv_at hl 1 rfl) ?_
  refine lv_iconst (v := (0)) hx hb dL_hours_278 (by decide) ?_
  refine lv_iconst (v := (5)) hx hb dL_hours_279 (by decide) ?_
  refine mcallVi hw (hC.1) rfl rfl ⟨hx, hb, hml, hown, hts⟩ (c_X3_worked hC wf_hF18 0 5 (by decide) (by decide)) (cwV 2 hts gL_hours_X3_worked rfl rfl rfl (by decide +kernel) ⟨Nat.le_of_ble_eq_true rfl, Nat.le_of_ble_eq_true rfl⟩) rfl hl.1 rfl (Nat.le_of_ble_eq_true rfl) dL_hours_280 ⟨Nat.le_of_ble_eq_true rfl, Nat.le_of_ble_eq_true rfl⟩ ?_
  refine lv_topi (fun y28 ey28 => ?_)
  obtain rfl : y28 = 200 := ey28.trans hv37
  refine lv_sipush (v := (200)) hx hb dL_hours_283 (by decide) ?_
  refine lv_icmp_ne (tgt := 421) hx hb dL_hours_286 (by decide) (fun z => absurd ((by decide)) z) (fun c29 => ?_)
  refine lv_aload_n hx hb dL_hours_289 rfl (lv_at hl 1 rfl) ?_
  refine lv_iconst (v := (0)) hx hb dL_hours_290 (by decide) ?_
  refine lv_bipush (v := (6)) hx hb dL_hours_291 (by decide) ?_
  refine mcallVi hw (hC.1) rfl rfl ⟨hx, hb, hml, hown, hts⟩ (c_X3_worked hC wf_hF18 0 6 (by decide) (by decide)) (cwV 2 hts gL_hours_X3_worked rfl rfl rfl (by decide +kernel) ⟨Nat.le_of_ble_eq_true rfl, Nat.le_of_ble_eq_true rfl⟩) rfl hl.1 rfl (Nat.le_of_ble_eq_true rfl) dL_hours_293 ⟨Nat.le_of_ble_eq_true rfl, Nat.le_of_ble_eq_true rfl⟩ ?_
  refine lv_topi (fun y30 ey30 => ?_)
  obtain rfl : y30 = 192 := ey30.trans hv38
  refine lv_sipush (v := (192)) hx hb dL_hours_296 (by decide) ?_
  refine lv_icmp_ne (tgt := 421) hx hb dL_hours_299 (by decide) (fun z => absurd ((by decide)) z) (fun c31 => ?_)
  refine lv_aload_n hx hb dL_hours_302 rfl (lv_at hl 1 rfl) ?_
  refine lv_iconst (v := (0)) hx hb dL_hours_303 (by decide) ?_
  refine lv_bipush (v := (7)) hx hb dL_hours_304 (by decide) ?_
  refine mcallVi hw (hC.1) rfl rfl ⟨hx, hb, hml, hown, hts⟩ (c_X3_worked hC wf_hF18 0 7 (by decide) (by decide)) (cwV 2 hts gL_hours_X3_worked rfl rfl rfl (by decide +kernel) ⟨Nat.le_of_ble_eq_true rfl, Nat.le_of_ble_eq_true rfl⟩) rfl hl.1 rfl (Nat.le_of_ble_eq_true rfl) dL_hours_306 ⟨Nat.le_of_ble_eq_true rfl, Nat.le_of_ble_eq_true rfl⟩ ?_
  refine lv_topi (fun y32 ey32 => ?_)
  obtain rfl : y32 = 0 := ey32.trans hv39
  refine lv_if_ne (tgt := 421) hx hb dL_hours_309 (by decide) (fun z => absurd ((by decide)) z) (fun c33 => ?_)
  exact kk _ _ _ _ _ hC hl hw hS

set_option maxHeartbeats 40000000 in
set_option maxRecDepth 100000 in
theorem h_s4 {p : Program} {l : Launch} {e : Env} {s : State} {m : MethodId} {args : Array Value} {below : List Frame} {meth : Method} {c : Code} {Q : State → Prop} {G : mG} {V : mV} {α : Nat → Nat} (hl0 : l.stackTraces = false) (hx : p.tables.exec = Jvm.exec) (hb : c.code = cL_hours) (hml : c.maxLocals = 2) (hown : s.vm.findClass RL = some m.cls) (hts : ∀ w ∈ wsL_hours, w.before args s = true) (hC : mC G V α hF18 0 1 16)
    (kk : ∀ (V : mV) (α : Nat → Nat) (H : Heap) (locs : List Loc) (ls : Array Slot), mC G V α hF21 0 1 18 → lv_has ls 2 [(1, .int (10)), (0, .ref (α (0)))] → mW G V α s H → va_S (mfree G) s.heap H locs → W p l e ({ frames := 11, cells := 501, slots := 24736, locals := 364 } : Room) s m args below meth c H locs 183 5206 Q (F0 m 423 ls []))
    (H : Heap) (locs : List Loc) (ls : Array Slot) (hl : lv_has ls 2 [(1, .int (10)), (0, .ref (α (0)))]) (hw : mW G V α s H) (hS : va_S (mfree G) s.heap H locs) : W p l e ({ frames := 11, cells := 501, slots := 24736, locals := 364 } : Room) s m args below meth c H locs 43 3970 Q (F0 m 312 ls []) := by
  have kc_98 := hts (.constant RL 98 (48000)) (by decide +kernel)
  refine lv_aload_n hx hb dL_hours_312 rfl (lv_at hl 1 rfl) ?_
  refine lv_iconst (v := (0)) hx hb dL_hours_313 (by decide) ?_
  refine lv_bipush (v := (55)) hx hb dL_hours_314 (by decide) ?_
  refine lv_bipush (v := (90)) hx hb dL_hours_316 (by decide) ?_
  refine lv_bipush (v := (20)) hx hb dL_hours_318 (by decide) ?_
  refine mcallVw hw hC.1 rfl rfl ⟨hx, hb, hml, hown, hts⟩ hS (c_X3_addShift hC wf_hF18 0 55 90 20 (by decide) (by decide) (by decide) (by decide) (by decide) (by decide) hv40) (cwV 4 hts gL_hours_X3_addShift rfl rfl rfl (by decide +kernel) ⟨Nat.le_of_ble_eq_true rfl, Nat.le_of_ble_eq_true rfl⟩) rfl hl.1 rfl (Nat.le_of_ble_eq_true rfl) dL_hours_320 ⟨Nat.le_of_ble_eq_true rfl, Nat.le_of_ble_eq_true rfl⟩ (fun r9 V1 α1 H locs hq hw hS => ?_)
  obtain ⟨er, hC, hO⟩ := hq
  have hC : mC G V1 α1 hF19 0 1 17 := hC
  have e0 : α1 0 = α 0 := (hO 0 (by omega)).2
  have hl : lv_has ls 2 [(1, .int (10)), (0, .ref (α1 (0)))] := by rw [e0]; exact hl
  obtain rfl : r9 = 16 := er.symm.trans (by decide)
  refine lv_bipush (v := (16)) hx hb dL_hours_323 (by decide) ?_
  refine lv_icmp_ne (tgt := 421) hx hb dL_hours_325 (by decide) (fun z => absurd ((by decide)) z) (fun c1 => ?_)
  refine lv_aload_n hx hb dL_hours_328 rfl (lv_at hl 1 rfl) ?_
  refine lv_iconst (v := (0)) hx hb dL_hours_329 (by decide) ?_
  refine lv_iconst (v := (1)) hx hb dL_hours_330 (by decide) ?_
  refine mcallVi hw (hC.1) rfl rfl ⟨hx, hb, hml, hown, hts⟩ (c_X3_excess hC wf_hF19 0 1 (by decide) (by decide)) (cwV 2 hts gL_hours_X3_excess rfl rfl rfl (by decide +kernel) ⟨Nat.le_of_ble_eq_true rfl, Nat.le_of_ble_eq_true rfl⟩) rfl hl.1 rfl (Nat.le_of_ble_eq_true rfl) dL_hours_331 ⟨Nat.le_of_ble_eq_true rfl, Nat.le_of_ble_eq_true rfl⟩ ?_
  refine lv_topi (fun y2 ey2 => ?_)
  obtain rfl : y2 = 38 := ey2.trans hv41
  refine lv_bipush (v := (38)) hx hb dL_hours_334 (by decide) ?_
  refine lv_icmp_ne (tgt := 421) hx hb dL_hours_336 (by decide) (fun z => absurd ((by decide)) z) (fun c3 => ?_)
  refine lv_aload_n hx hb dL_hours_339 rfl (lv_at hl 1 rfl) ?_
  refine lv_iconst (v := (0)) hx hb dL_hours_340 (by decide) ?_
  refine lv_bipush (v := (8)) hx hb dL_hours_341 (by decide) ?_
  refine mcallVi hw (hC.1) rfl rfl ⟨hx, hb, hml, hown, hts⟩ (c_X3_worked hC wf_hF19 0 8 (by decide) (by decide)) (cwV 2 hts gL_hours_X3_worked rfl rfl rfl (by decide +kernel) ⟨Nat.le_of_ble_eq_true rfl, Nat.le_of_ble_eq_true rfl⟩) rfl hl.1 rfl (Nat.le_of_ble_eq_true rfl) dL_hours_343 ⟨Nat.le_of_ble_eq_true rfl, Nat.le_of_ble_eq_true rfl⟩ ?_
  refine lv_topi (fun y4 ey4 => ?_)
  obtain rfl : y4 = 14 := ey4.trans hv42
  refine lv_bipush (v := (14)) hx hb dL_hours_346 (by decide) ?_
  refine lv_icmp_ne (tgt := 421) hx hb dL_hours_348 (by decide) (fun z => absurd ((by decide)) z) (fun c5 => ?_)
  refine lv_aload_n hx hb dL_hours_351 rfl (lv_at hl 1 rfl) ?_
  refine lv_iconst (v := (0)) hx hb dL_hours_352 (by decide) ?_
  refine lv_bipush (v := (12)) hx hb dL_hours_353 (by decide) ?_
  refine mcallVi hw (hC.1) rfl rfl ⟨hx, hb, hml, hown, hts⟩ (c_X3_excess hC wf_hF19 0 12 (by decide) (by decide)) (cwV 2 hts gL_hours_X3_excess rfl rfl rfl (by decide +kernel) ⟨Nat.le_of_ble_eq_true rfl, Nat.le_of_ble_eq_true rfl⟩) rfl hl.1 rfl (Nat.le_of_ble_eq_true rfl) dL_hours_355 ⟨Nat.le_of_ble_eq_true rfl, Nat.le_of_ble_eq_true rfl⟩ ?_
  refine lv_topi (fun y6 ey6 => ?_)
  obtain rfl : y6 = 0 := ey6.trans hv43
  refine lv_if_ne (tgt := 421) hx hb dL_hours_358 (by decide) (fun z => absurd ((by decide)) z) (fun c7 => ?_)
  refine lv_aload_n hx hb dL_hours_361 rfl (lv_at hl 1 rfl) ?_
  refine lv_iconst (v := (0)) hx hb dL_hours_362 (by decide) ?_
  refine lv_sipush (v := (362)) hx hb dL_hours_363 (by decide) ?_
  refine lv_bipush (v := (95)) hx hb dL_hours_366 (by decide) ?_
  refine lv_bipush (v := (64)) hx hb dL_hours_368 (by decide) ?_
  refine mcallVw hw hC.1 rfl rfl ⟨hx, hb, hml, hown, hts⟩ hS (c_X3_addShift hC wf_hF19 0 362 95 64 (by decide) (by decide) (by decide) (by decide) (by decide) (by decide) hv44) (cwV 4 hts gL_hours_X3_addShift rfl rfl rfl (by decide +kernel) ⟨Nat.le_of_ble_eq_true rfl, Nat.le_of_ble_eq_true rfl⟩) rfl hl.1 rfl (Nat.le_of_ble_eq_true rfl) dL_hours_370 ⟨Nat.le_of_ble_eq_true rfl, Nat.le_of_ble_eq_true rfl⟩ (fun r9 V2 α2 H locs hq hw hS => ?_)
  obtain ⟨er, hC, hO⟩ := hq
  have hC : mC G V2 α2 hF20 0 1 18 := hC
  have e0 : α2 0 = α1 0 := (hO 0 (by omega)).2
  have hl : lv_has ls 2 [(1, .int (10)), (0, .ref (α2 (0)))] := by rw [e0]; exact hl
  obtain rfl : r9 = 17 := er.symm.trans (by decide)
  refine lv_bipush (v := (17)) hx hb dL_hours_373 (by decide) ?_
  refine lv_icmp_ne (tgt := 421) hx hb dL_hours_375 (by decide) (fun z => absurd ((by decide)) z) (fun c8 => ?_)
  refine lv_aload_n hx hb dL_hours_378 rfl (lv_at hl 1 rfl) ?_
  refine lv_iconst (v := (0)) hx hb dL_hours_379 (by decide) ?_
  refine lv_bipush (v := (51)) hx hb dL_hours_380 (by decide) ?_
  refine mcallVi hw (hC.1) rfl rfl ⟨hx, hb, hml, hown, hts⟩ (c_X3_worked hC wf_hF20 0 51 (by decide) (by decide)) (cwV 2 hts gL_hours_X3_worked rfl rfl rfl (by decide +kernel) ⟨Nat.le_of_ble_eq_true rfl, Nat.le_of_ble_eq_true rfl⟩) rfl hl.1 rfl (Nat.le_of_ble_eq_true rfl) dL_hours_382 ⟨Nat.le_of_ble_eq_true rfl, Nat.le_of_ble_eq_true rfl⟩ ?_
  refine lv_topi (fun y9 ey9 => ?_)
  obtain rfl : y9 = 64 := ey9.trans hv45
  refine lv_bipush (v := (64)) hx hb dL_hours_385 (by decide) ?_
  refine lv_icmp_ne (tgt := 421) hx hb dL_hours_387 (by decide) (fun z => absurd ((by decide)) z) (fun c10 => ?_)
  refine lv_aload_n hx hb dL_hours_390 rfl (lv_at hl 1 rfl) ?_
  refine lv_bipush (v := (17)) hx hb dL_hours_391 (by decide) ?_
  refine mcallVi hw (hC.1) rfl rfl ⟨hx, hb, hml, hown, hts⟩ (c_X3_pay hC wf_hF20 17 (by decide)) (cwV 1 hts gL_hours_X3_pay rfl rfl rfl (by decide +kernel) ⟨Nat.le_of_ble_eq_true rfl, Nat.le_of_ble_eq_true rfl⟩) rfl hl.1 rfl (Nat.le_of_ble_eq_true rfl) dL_hours_393 ⟨Nat.le_of_ble_eq_true rfl, Nat.le_of_ble_eq_true rfl⟩ ?_
  refine lv_topi (fun y11 ey11 => ?_)
  obtain rfl : y11 = 48000 := ey11.trans hv46
  refine lv_ldc hx hb hown kc_98 dL_hours_396 ?_
  refine lv_icmp_ne (tgt := 421) hx hb dL_hours_398 (by decide) (fun z => absurd ((by decide)) z) (fun c12 => ?_)
  refine lv_aload_n hx hb dL_hours_401 rfl (lv_at hl 1 rfl) ?_
  refine lv_sipush (v := (363)) hx hb dL_hours_402 (by decide) ?_
  refine lv_iconst (v := (1)) hx hb dL_hours_405 (by decide) ?_
  refine mcallVw hw hC.1 rfl rfl ⟨hx, hb, hml, hown, hts⟩ hS (c_X3_setHoliday hC wf_hF20 363 (by decide) 1 (by decide)) (cwV 2 hts gL_hours_X3_setHoliday rfl rfl rfl (by decide +kernel) ⟨Nat.le_of_ble_eq_true rfl, Nat.le_of_ble_eq_true rfl⟩) rfl hl.1 rfl (Nat.le_of_ble_eq_true rfl) dL_hours_406 ⟨Nat.le_of_ble_eq_true rfl, Nat.le_of_ble_eq_true rfl⟩ (fun r9 V3 α3 H locs hq hw hS => ?_)
  obtain ⟨er, hC, hO⟩ := hq
  have hC : mC G V3 α3 hF21 0 1 18 := hC
  have e0 : α3 0 = α2 0 := (hO 0 (by omega)).2
  have hl : lv_has ls 2 [(1, .int (10)), (0, .ref (α3 (0)))] := by rw [e0]; exact hl
  obtain rfl : r9 = 0 := er.symm.trans hv47
  refine lv_if_ne (tgt := 421) hx hb dL_hours_409 (by decide) (fun z => absurd ((by decide)) z) (fun c13 => ?_)
  refine lv_aload_n hx hb dL_hours_412 rfl (lv_at hl 1 rfl) ?_
  refine lv_iconst (v := (0)) hx hb dL_hours_413 (by decide) ?_
  refine lv_iconst (v := (1)) hx hb dL_hours_414 (by decide) ?_
  refine mcallSi2 (V2 := V3) (α2 := α3) (rest := []) hw ⟨hx, hb, hml, hown, hts⟩ hS (w_refusesB hl0 hC wf_hF21 (by decide) (by decide)) (va_cwS 3 hts gL_hours_L_refuses rfl rfl rfl (by decide +kernel) ⟨Nat.le_of_ble_eq_true rfl, Nat.le_of_ble_eq_true rfl⟩) rfl hl.1 rfl (Nat.le_of_ble_eq_true rfl) dL_hours_415 ⟨Nat.le_of_ble_eq_true rfl, Nat.le_of_ble_eq_true rfl⟩ (fun H locs hw hS => ?_)
  refine lv_if_ne (tgt := 423) hx hb dL_hours_418 (by decide) (fun c14 => ?_) (fun z => absurd z ((by decide)))
  exact kk _ _ _ _ _ hC hl hw hS
