set_option maxHeartbeats 40000000 in
set_option maxRecDepth 100000 in
theorem a_s0 {p : Program} {l : Launch} {e : Env} {s : State} {m : MethodId} {args : Array Value} {below : List Frame} {meth : Method} {c : Code} {Q : State → Prop} {G : mG} {V : mV} {α : Nat → Nat} (hl0 : l.stackTraces = false) (hx : p.tables.exec = Jvm.exec) (hb : c.code = cL_pays) (hml : c.maxLocals = 1) (hown : s.vm.findClass RL = some m.cls) (hts : ∀ w ∈ wsL_pays, w.before args s = true) (hC : mC G V α f00 0 0 0)
    (kk : ∀ (V : mV) (α : Nat → Nat) (H : Heap) (locs : List Loc) (ls : Array Slot), mC G V α aF7 4 2 1 → lv_has ls 1 [(0, .ref (α (0)))] → mW G V α s H → va_S (mfree G) s.heap H locs → W p l e ({ frames := 10, cells := 566, slots := 5920, locals := 317 } : Room) s m args below meth c H locs 145 2602 Q (F0 m 137 ls []))
    (H : Heap) (locs : List Loc) (ls : Array Slot) (hl : lv_has ls 1 [(0, .ref (α (0)))]) (hw : mW G V α s H) (hS : va_S (mfree G) s.heap H locs) : W p l e ({ frames := 10, cells := 566, slots := 5920, locals := 317 } : Room) s m args below meth c H locs 6 382 Q (F0 m 8 ls []) := by
  refine lv_aload_n hx hb dL_pays_8 rfl (lv_at hl 0 rfl) ?_
  refine mcallVi hw (hC.1) rfl rfl ⟨hx, hb, hml, hown, hts⟩ (c_X3_shifts hC wf_f00) (cwV 0 hts gL_pays_X3_shifts rfl rfl rfl (by decide +kernel) ⟨Nat.le_of_ble_eq_true rfl, Nat.le_of_ble_eq_true rfl⟩) rfl hl.1 rfl (Nat.le_of_ble_eq_true rfl) dL_pays_9 ⟨Nat.le_of_ble_eq_true rfl, Nat.le_of_ble_eq_true rfl⟩ ?_
  refine lv_topi (fun y1 ey1 => ?_)
  obtain rfl : y1 = 0 := ey1.trans av0
  refine lv_if_ne (tgt := 341) hx hb dL_pays_12 (by decide) (fun z => absurd ((by decide)) z) (fun c2 => ?_)
  refine lv_aload_n hx hb dL_pays_15 rfl (lv_at hl 0 rfl) ?_
  refine lv_bipush (v := (15)) hx hb dL_pays_16 (by decide) ?_
  refine lv_iconst (v := (0)) hx hb dL_pays_18 (by decide) ?_
  refine lv_iconst (v := (0)) hx hb dL_pays_19 (by decide) ?_
  refine lv_iconst (v := (0)) hx hb dL_pays_20 (by decide) ?_
  refine lv_iconst (v := (0)) hx hb dL_pays_21 (by decide) ?_
  refine mcallX (rest := []) hw ⟨hx, hb, hml, hown, hts⟩ hS (x_X3_worked_1 hl0 hC wf_f00 0 0 (by decide) 0 0) (vx_cwSW 6 hts gL_pays_L_act rfl rfl rfl (by decide +kernel) ⟨Nat.le_of_ble_eq_true rfl, Nat.le_of_ble_eq_true rfl⟩) rfl hl.1 rfl (Nat.le_of_ble_eq_true rfl) dL_pays_22 ⟨Nat.le_of_ble_eq_true rfl, Nat.le_of_ble_eq_true rfl⟩ (fun H locs hw hS => ?_)
  refine lv_bipush (v := (-71)) hx hb dL_pays_25 (by decide) ?_
  refine lv_icmp_ne (tgt := 341) hx hb dL_pays_27 (by decide) (fun z => absurd ((by decide)) z) (fun c3 => ?_)
  refine lv_aload_n hx hb dL_pays_30 rfl (lv_at hl 0 rfl) ?_
  refine lv_iconst (v := (0)) hx hb dL_pays_31 (by decide) ?_
  refine mcallVw hw hC.1 rfl rfl ⟨hx, hb, hml, hown, hts⟩ hS (c_X3_addWorker hC wf_f00 0 (by decide) (by decide)) (cwV 1 hts gL_pays_X3_addWorker rfl rfl rfl (by decide +kernel) ⟨Nat.le_of_ble_eq_true rfl, Nat.le_of_ble_eq_true rfl⟩) rfl hl.1 rfl (Nat.le_of_ble_eq_true rfl) dL_pays_32 ⟨Nat.le_of_ble_eq_true rfl, Nat.le_of_ble_eq_true rfl⟩ (fun r9 V1 α1 H locs hq hw hS => ?_)
  obtain ⟨er, hC, hO⟩ := hq
  have hC : mC G V1 α1 aF1 0 1 0 := hC
  have e0 : α1 0 = α 0 := (hO 0 (by omega)).2
  have hl : lv_has ls 1 [(0, .ref (α1 (0)))] := by rw [e0]; exact hl
  obtain rfl : r9 = 0 := er.symm.trans (by decide)
  refine lv_if_ne (tgt := 341) hx hb dL_pays_35 (by decide) (fun z => absurd ((by decide)) z) (fun c4 => ?_)
  refine lv_aload_n hx hb dL_pays_38 rfl (lv_at hl 0 rfl) ?_
  refine lv_iconst (v := (2)) hx hb dL_pays_39 (by decide) ?_
  refine mcallVw hw hC.1 rfl rfl ⟨hx, hb, hml, hown, hts⟩ hS (c_X3_addWorker hC wf_aF1 2 (by decide) (by decide)) (cwV 1 hts gL_pays_X3_addWorker rfl rfl rfl (by decide +kernel) ⟨Nat.le_of_ble_eq_true rfl, Nat.le_of_ble_eq_true rfl⟩) rfl hl.1 rfl (Nat.le_of_ble_eq_true rfl) dL_pays_40 ⟨Nat.le_of_ble_eq_true rfl, Nat.le_of_ble_eq_true rfl⟩ (fun r9 V2 α2 H locs hq hw hS => ?_)
  obtain ⟨er, hC, hO⟩ := hq
  have hC : mC G V2 α2 aF2 0 2 0 := hC
  have e0 : α2 0 = α1 0 := (hO 0 (by omega)).2
  have hl : lv_has ls 1 [(0, .ref (α2 (0)))] := by rw [e0]; exact hl
  obtain rfl : r9 = 1 := er.symm.trans (by decide)
  refine lv_iconst (v := (1)) hx hb dL_pays_43 (by decide) ?_
  refine lv_icmp_ne (tgt := 341) hx hb dL_pays_44 (by decide) (fun z => absurd ((by decide)) z) (fun c5 => ?_)
  refine lv_aload_n hx hb dL_pays_47 rfl (lv_at hl 0 rfl) ?_
  refine lv_iconst (v := (0)) hx hb dL_pays_48 (by decide) ?_
  refine lv_iconst (v := (2)) hx hb dL_pays_49 (by decide) ?_
  refine mcallSi2 (V2 := V2) (α2 := α2) (rest := []) hw ⟨hx, hb, hml, hown, hts⟩ hS (w_refusesA hl0 hC wf_aF2 (by decide) rfl) (va_cwS 3 hts gL_pays_L_refuses rfl rfl rfl (by decide +kernel) ⟨Nat.le_of_ble_eq_true rfl, Nat.le_of_ble_eq_true rfl⟩) rfl hl.1 rfl (Nat.le_of_ble_eq_true rfl) dL_pays_50 ⟨Nat.le_of_ble_eq_true rfl, Nat.le_of_ble_eq_true rfl⟩ (fun H locs hw hS => ?_)
  refine lv_if_eq (tgt := 341) hx hb dL_pays_53 (by decide) (fun z => absurd z ((by decide))) (fun c6 => ?_)
  refine lv_aload_n hx hb dL_pays_56 rfl (lv_at hl 0 rfl) ?_
  refine lv_bipush (v := (96)) hx hb dL_pays_57 (by decide) ?_
  refine lv_iconst (v := (0)) hx hb dL_pays_59 (by decide) ?_
  refine lv_bipush (v := (96)) hx hb dL_pays_60 (by decide) ?_
  refine lv_bipush (v := (15)) hx hb dL_pays_62 (by decide) ?_
  refine lv_sipush (v := (150)) hx hb dL_pays_64 (by decide) ?_
  refine mcallVw hw hC.1 rfl rfl ⟨hx, hb, hml, hown, hts⟩ hS (c_X3_addRule hC wf_aF2 96 0 96 15 150 (by decide) (by decide) (by decide) (by decide) (by decide) (by decide)) (cwV 5 hts gL_pays_X3_addRule rfl rfl rfl (by decide +kernel) ⟨Nat.le_of_ble_eq_true rfl, Nat.le_of_ble_eq_true rfl⟩) rfl hl.1 rfl (Nat.le_of_ble_eq_true rfl) dL_pays_67 ⟨Nat.le_of_ble_eq_true rfl, Nat.le_of_ble_eq_true rfl⟩ (fun r9 V3 α3 H locs hq hw hS => ?_)
  obtain ⟨er, hC, hO⟩ := hq
  have hC : mC G V3 α3 aF3 1 2 0 := hC
  have e0 : α3 0 = α2 0 := (hO 0 (by omega)).2
  have hl : lv_has ls 1 [(0, .ref (α3 (0)))] := by rw [e0]; exact hl
  obtain rfl : r9 = 0 := er.symm.trans (by decide)
  refine lv_if_ne (tgt := 341) hx hb dL_pays_70 (by decide) (fun z => absurd ((by decide)) z) (fun c7 => ?_)
  refine lv_aload_n hx hb dL_pays_73 rfl (lv_at hl 0 rfl) ?_
  refine lv_bipush (v := (127)) hx hb dL_pays_74 (by decide) ?_
  refine lv_bipush (v := (80)) hx hb dL_pays_76 (by decide) ?_
  refine lv_bipush (v := (96)) hx hb dL_pays_78 (by decide) ?_
  refine lv_iconst (v := (1)) hx hb dL_pays_80 (by decide) ?_
  refine lv_bipush (v := (125)) hx hb dL_pays_81 (by decide) ?_
  refine mcallVw hw hC.1 rfl rfl ⟨hx, hb, hml, hown, hts⟩ hS (c_X3_addRule hC wf_aF3 127 80 96 1 125 (by decide) (by decide) (by decide) (by decide) (by decide) (by decide)) (cwV 5 hts gL_pays_X3_addRule rfl rfl rfl (by decide +kernel) ⟨Nat.le_of_ble_eq_true rfl, Nat.le_of_ble_eq_true rfl⟩) rfl hl.1 rfl (Nat.le_of_ble_eq_true rfl) dL_pays_83 ⟨Nat.le_of_ble_eq_true rfl, Nat.le_of_ble_eq_true rfl⟩ (fun r9 V4 α4 H locs hq hw hS => ?_)
  obtain ⟨er, hC, hO⟩ := hq
  have hC : mC G V4 α4 aF4 2 2 0 := hC
  have e0 : α4 0 = α3 0 := (hO 0 (by omega)).2
  have hl : lv_has ls 1 [(0, .ref (α4 (0)))] := by rw [e0]; exact hl
  obtain rfl : r9 = 1 := er.symm.trans (by decide)
  refine lv_iconst (v := (1)) hx hb dL_pays_86 (by decide) ?_
  refine lv_icmp_ne (tgt := 341) hx hb dL_pays_87 (by decide) (fun z => absurd ((by decide)) z) (fun c8 => ?_)
  refine lv_aload_n hx hb dL_pays_90 rfl (lv_at hl 0 rfl) ?_
  refine lv_iconst (v := (0)) hx hb dL_pays_91 (by decide) ?_
  refine lv_iconst (v := (0)) hx hb dL_pays_92 (by decide) ?_
  refine lv_bipush (v := (96)) hx hb dL_pays_93 (by decide) ?_
  refine lv_iconst (v := (3)) hx hb dL_pays_95 (by decide) ?_
  refine lv_sipush (v := (250)) hx hb dL_pays_96 (by decide) ?_
  refine mcallVw hw hC.1 rfl rfl ⟨hx, hb, hml, hown, hts⟩ hS (c_X3_addRule hC wf_aF4 0 0 96 3 250 (by decide) (by decide) (by decide) (by decide) (by decide) (by decide)) (cwV 5 hts gL_pays_X3_addRule rfl rfl rfl (by decide +kernel) ⟨Nat.le_of_ble_eq_true rfl, Nat.le_of_ble_eq_true rfl⟩) rfl hl.1 rfl (Nat.le_of_ble_eq_true rfl) dL_pays_99 ⟨Nat.le_of_ble_eq_true rfl, Nat.le_of_ble_eq_true rfl⟩ (fun r9 V5 α5 H locs hq hw hS => ?_)
  obtain ⟨er, hC, hO⟩ := hq
  have hC : mC G V5 α5 aF5 3 2 0 := hC
  have e0 : α5 0 = α4 0 := (hO 0 (by omega)).2
  have hl : lv_has ls 1 [(0, .ref (α5 (0)))] := by rw [e0]; exact hl
  obtain rfl : r9 = 2 := er.symm.trans (by decide)
  refine lv_iconst (v := (2)) hx hb dL_pays_102 (by decide) ?_
  refine lv_icmp_ne (tgt := 341) hx hb dL_pays_103 (by decide) (fun z => absurd ((by decide)) z) (fun c9 => ?_)
  refine lv_aload_n hx hb dL_pays_106 rfl (lv_at hl 0 rfl) ?_
  refine lv_bipush (v := (127)) hx hb dL_pays_107 (by decide) ?_
  refine lv_iconst (v := (0)) hx hb dL_pays_109 (by decide) ?_
  refine lv_bipush (v := (24)) hx hb dL_pays_110 (by decide) ?_
  refine lv_bipush (v := (15)) hx hb dL_pays_112 (by decide) ?_
  refine lv_sipush (v := (130)) hx hb dL_pays_114 (by decide) ?_
  refine mcallVw hw hC.1 rfl rfl ⟨hx, hb, hml, hown, hts⟩ hS (c_X3_addRule hC wf_aF5 127 0 24 15 130 (by decide) (by decide) (by decide) (by decide) (by decide) (by decide)) (cwV 5 hts gL_pays_X3_addRule rfl rfl rfl (by decide +kernel) ⟨Nat.le_of_ble_eq_true rfl, Nat.le_of_ble_eq_true rfl⟩) rfl hl.1 rfl (Nat.le_of_ble_eq_true rfl) dL_pays_117 ⟨Nat.le_of_ble_eq_true rfl, Nat.le_of_ble_eq_true rfl⟩ (fun r9 V6 α6 H locs hq hw hS => ?_)
  obtain ⟨er, hC, hO⟩ := hq
  have hC : mC G V6 α6 aF6 4 2 0 := hC
  have e0 : α6 0 = α5 0 := (hO 0 (by omega)).2
  have hl : lv_has ls 1 [(0, .ref (α6 (0)))] := by rw [e0]; exact hl
  obtain rfl : r9 = 3 := er.symm.trans (by decide)
  refine lv_iconst (v := (3)) hx hb dL_pays_120 (by decide) ?_
  refine lv_icmp_ne (tgt := 341) hx hb dL_pays_121 (by decide) (fun z => absurd ((by decide)) z) (fun c10 => ?_)
  refine lv_aload_n hx hb dL_pays_124 rfl (lv_at hl 0 rfl) ?_
  refine lv_iconst (v := (0)) hx hb dL_pays_125 (by decide) ?_
  refine lv_iconst (v := (0)) hx hb dL_pays_126 (by decide) ?_
  refine lv_bipush (v := (76)) hx hb dL_pays_127 (by decide) ?_
  refine lv_bipush (v := (8)) hx hb dL_pays_129 (by decide) ?_
  refine mcallVw hw hC.1 rfl rfl ⟨hx, hb, hml, hown, hts⟩ hS (c_X3_addShift hC wf_aF6 0 0 76 8 (by decide) (by decide) (by decide) (by decide) (by decide) (by decide) av1) (cwV 4 hts gL_pays_X3_addShift rfl rfl rfl (by decide +kernel) ⟨Nat.le_of_ble_eq_true rfl, Nat.le_of_ble_eq_true rfl⟩) rfl hl.1 rfl (Nat.le_of_ble_eq_true rfl) dL_pays_131 ⟨Nat.le_of_ble_eq_true rfl, Nat.le_of_ble_eq_true rfl⟩ (fun r9 V7 α7 H locs hq hw hS => ?_)
  obtain ⟨er, hC, hO⟩ := hq
  have hC : mC G V7 α7 aF7 4 2 1 := hC
  have e0 : α7 0 = α6 0 := (hO 0 (by omega)).2
  have hl : lv_has ls 1 [(0, .ref (α7 (0)))] := by rw [e0]; exact hl
  obtain rfl : r9 = 0 := er.symm.trans (by decide)
  refine lv_if_ne (tgt := 341) hx hb dL_pays_134 (by decide) (fun z => absurd ((by decide)) z) (fun c11 => ?_)
  exact kk _ _ _ _ _ hC hl hw hS

set_option maxHeartbeats 40000000 in
set_option maxRecDepth 100000 in
theorem a_s1 {p : Program} {l : Launch} {e : Env} {s : State} {m : MethodId} {args : Array Value} {below : List Frame} {meth : Method} {c : Code} {Q : State → Prop} {G : mG} {V : mV} {α : Nat → Nat} (hl0 : l.stackTraces = false) (hx : p.tables.exec = Jvm.exec) (hb : c.code = cL_pays) (hml : c.maxLocals = 1) (hown : s.vm.findClass RL = some m.cls) (hts : ∀ w ∈ wsL_pays, w.before args s = true) (hC : mC G V α aF7 4 2 1)
    (kk : ∀ (V : mV) (α : Nat → Nat) (H : Heap) (locs : List Loc) (ls : Array Slot), mC G V α aF8 4 2 1 → lv_has ls 1 [(0, .ref (α (0)))] → mW G V α s H → va_S (mfree G) s.heap H locs → W p l e ({ frames := 10, cells := 566, slots := 5920, locals := 317 } : Room) s m args below meth c H locs 146 2608 Q (F0 m 252 ls []))
    (H : Heap) (locs : List Loc) (ls : Array Slot) (hl : lv_has ls 1 [(0, .ref (α (0)))]) (hw : mW G V α s H) (hS : va_S (mfree G) s.heap H locs) : W p l e ({ frames := 10, cells := 566, slots := 5920, locals := 317 } : Room) s m args below meth c H locs 145 2602 Q (F0 m 137 ls []) := by
  refine lv_aload_n hx hb dL_pays_137 rfl (lv_at hl 0 rfl) ?_
  refine lv_iconst (v := (0)) hx hb dL_pays_138 (by decide) ?_
  refine mcallVi hw (hC.1) rfl rfl ⟨hx, hb, hml, hown, hts⟩ (c_X3_paidQuarters hC wf_aF7 0 (by decide)) (cwV 1 hts gL_pays_X3_paidQuarters rfl rfl rfl (by decide +kernel) ⟨Nat.le_of_ble_eq_true rfl, Nat.le_of_ble_eq_true rfl⟩) rfl hl.1 rfl (Nat.le_of_ble_eq_true rfl) dL_pays_139 ⟨Nat.le_of_ble_eq_true rfl, Nat.le_of_ble_eq_true rfl⟩ ?_
  refine lv_topi (fun y1 ey1 => ?_)
  obtain rfl : y1 = 12 := ey1.trans av2
  refine lv_bipush (v := (12)) hx hb dL_pays_142 (by decide) ?_
  refine lv_icmp_ne (tgt := 341) hx hb dL_pays_144 (by decide) (fun z => absurd ((by decide)) z) (fun c2 => ?_)
  refine lv_aload_n hx hb dL_pays_147 rfl (lv_at hl 0 rfl) ?_
  refine lv_iconst (v := (0)) hx hb dL_pays_148 (by decide) ?_
  refine lv_iconst (v := (3)) hx hb dL_pays_149 (by decide) ?_
  refine lv_bipush (v := (100)) hx hb dL_pays_150 (by decide) ?_
  refine lv_iconst (v := (-1)) hx hb dL_pays_152 (by decide) ?_
  refine mcallSi hw ⟨hx, hb, hml, hown, hts⟩ (c_L_at hC wf_aF7 0 (by decide) 3 av3 100 (-1) av4 av5) (va_cwS 5 hts gL_pays_L_at rfl rfl rfl (by decide +kernel) ⟨Nat.le_of_ble_eq_true rfl, Nat.le_of_ble_eq_true rfl⟩) rfl hl.1 rfl (Nat.le_of_ble_eq_true rfl) dL_pays_153 ⟨Nat.le_of_ble_eq_true rfl, Nat.le_of_ble_eq_true rfl⟩ ?_
  refine lv_if_eq (tgt := 341) hx hb dL_pays_156 (by decide) (fun z => absurd z ((by decide))) (fun c3 => ?_)
  refine lv_aload_n hx hb dL_pays_159 rfl (lv_at hl 0 rfl) ?_
  refine lv_iconst (v := (0)) hx hb dL_pays_160 (by decide) ?_
  refine lv_iconst (v := (4)) hx hb dL_pays_161 (by decide) ?_
  refine lv_bipush (v := (125)) hx hb dL_pays_162 (by decide) ?_
  refine lv_iconst (v := (1)) hx hb dL_pays_164 (by decide) ?_
  refine mcallSi hw ⟨hx, hb, hml, hown, hts⟩ (c_L_at hC wf_aF7 0 (by decide) 4 av6 125 1 av7 av8) (va_cwS 5 hts gL_pays_L_at rfl rfl rfl (by decide +kernel) ⟨Nat.le_of_ble_eq_true rfl, Nat.le_of_ble_eq_true rfl⟩) rfl hl.1 rfl (Nat.le_of_ble_eq_true rfl) dL_pays_165 ⟨Nat.le_of_ble_eq_true rfl, Nat.le_of_ble_eq_true rfl⟩ ?_
  refine lv_if_eq (tgt := 341) hx hb dL_pays_168 (by decide) (fun z => absurd z ((by decide))) (fun c4 => ?_)
  refine lv_aload_n hx hb dL_pays_171 rfl (lv_at hl 0 rfl) ?_
  refine lv_iconst (v := (0)) hx hb dL_pays_172 (by decide) ?_
  refine lv_bipush (v := (11)) hx hb dL_pays_173 (by decide) ?_
  refine lv_bipush (v := (125)) hx hb dL_pays_175 (by decide) ?_
  refine lv_iconst (v := (1)) hx hb dL_pays_177 (by decide) ?_
  refine mcallSi hw ⟨hx, hb, hml, hown, hts⟩ (c_L_at hC wf_aF7 0 (by decide) 11 av9 125 1 av10 av11) (va_cwS 5 hts gL_pays_L_at rfl rfl rfl (by decide +kernel) ⟨Nat.le_of_ble_eq_true rfl, Nat.le_of_ble_eq_true rfl⟩) rfl hl.1 rfl (Nat.le_of_ble_eq_true rfl) dL_pays_178 ⟨Nat.le_of_ble_eq_true rfl, Nat.le_of_ble_eq_true rfl⟩ ?_
  refine lv_if_eq (tgt := 341) hx hb dL_pays_181 (by decide) (fun z => absurd z ((by decide))) (fun c5 => ?_)
  refine lv_aload_n hx hb dL_pays_184 rfl (lv_at hl 0 rfl) ?_
  refine lv_bipush (v := (9)) hx hb dL_pays_185 (by decide) ?_
  refine lv_iconst (v := (0)) hx hb dL_pays_187 (by decide) ?_
  refine lv_bipush (v := (12)) hx hb dL_pays_188 (by decide) ?_
  refine lv_iconst (v := (0)) hx hb dL_pays_190 (by decide) ?_
  refine lv_iconst (v := (0)) hx hb dL_pays_191 (by decide) ?_
  refine mcallX (rest := []) hw ⟨hx, hb, hml, hown, hts⟩ hS (x_X3_percentAt_2 hl0 hC wf_aF7 0 (by decide) 12 av12 0 0) (vx_cwSW 6 hts gL_pays_L_act rfl rfl rfl (by decide +kernel) ⟨Nat.le_of_ble_eq_true rfl, Nat.le_of_ble_eq_true rfl⟩) rfl hl.1 rfl (Nat.le_of_ble_eq_true rfl) dL_pays_192 ⟨Nat.le_of_ble_eq_true rfl, Nat.le_of_ble_eq_true rfl⟩ (fun H locs hw hS => ?_)
  refine lv_bipush (v := (-71)) hx hb dL_pays_195 (by decide) ?_
  refine lv_icmp_ne (tgt := 341) hx hb dL_pays_197 (by decide) (fun z => absurd ((by decide)) z) (fun c6 => ?_)
  refine lv_aload_n hx hb dL_pays_200 rfl (lv_at hl 0 rfl) ?_
  refine lv_iconst (v := (0)) hx hb dL_pays_201 (by decide) ?_
  refine mcallVi hw (hC.1) rfl rfl ⟨hx, hb, hml, hown, hts⟩ (c_X3_pay hC wf_aF7 0 (by decide)) (cwV 1 hts gL_pays_X3_pay rfl rfl rfl (by decide +kernel) ⟨Nat.le_of_ble_eq_true rfl, Nat.le_of_ble_eq_true rfl⟩) rfl hl.1 rfl (Nat.le_of_ble_eq_true rfl) dL_pays_202 ⟨Nat.le_of_ble_eq_true rfl, Nat.le_of_ble_eq_true rfl⟩ ?_
  refine lv_topi (fun y7 ey7 => ?_)
  obtain rfl : y7 = 7000 := ey7.trans av13
  refine lv_sipush (v := (7000)) hx hb dL_pays_205 (by decide) ?_
  refine lv_icmp_ne (tgt := 341) hx hb dL_pays_208 (by decide) (fun z => absurd ((by decide)) z) (fun c8 => ?_)
  refine lv_aload_n hx hb dL_pays_211 rfl (lv_at hl 0 rfl) ?_
  refine lv_iconst (v := (0)) hx hb dL_pays_212 (by decide) ?_
  refine mcallVi hw (hC.1) rfl rfl ⟨hx, hb, hml, hown, hts⟩ (c_X3_missed hC wf_aF7 0 (by decide)) (cwV 1 hts gL_pays_X3_missed rfl rfl rfl (by decide +kernel) ⟨Nat.le_of_ble_eq_true rfl, Nat.le_of_ble_eq_true rfl⟩) rfl hl.1 rfl (Nat.le_of_ble_eq_true rfl) dL_pays_213 ⟨Nat.le_of_ble_eq_true rfl, Nat.le_of_ble_eq_true rfl⟩ ?_
  refine lv_topi (fun y9 ey9 => ?_)
  obtain rfl : y9 = 0 := ey9.trans av14
  refine lv_if_ne (tgt := 341) hx hb dL_pays_216 (by decide) (fun z => absurd ((by decide)) z) (fun c10 => ?_)
  refine lv_aload_n hx hb dL_pays_219 rfl (lv_at hl 0 rfl) ?_
  refine lv_iconst (v := (1)) hx hb dL_pays_220 (by decide) ?_
  refine mcallVi hw (hC.1) rfl rfl ⟨hx, hb, hml, hown, hts⟩ (c_X3_paidBy hC wf_aF7 1 (by decide)) (cwV 1 hts gL_pays_X3_paidBy rfl rfl rfl (by decide +kernel) ⟨Nat.le_of_ble_eq_true rfl, Nat.le_of_ble_eq_true rfl⟩) rfl hl.1 rfl (Nat.le_of_ble_eq_true rfl) dL_pays_221 ⟨Nat.le_of_ble_eq_true rfl, Nat.le_of_ble_eq_true rfl⟩ ?_
  refine lv_topi (fun y11 ey11 => ?_)
  obtain rfl : y11 = 5000 := ey11.trans av15
  refine lv_sipush (v := (5000)) hx hb dL_pays_224 (by decide) ?_
  refine lv_icmp_ne (tgt := 341) hx hb dL_pays_227 (by decide) (fun z => absurd ((by decide)) z) (fun c12 => ?_)
  refine lv_aload_n hx hb dL_pays_230 rfl (lv_at hl 0 rfl) ?_
  refine lv_iconst (v := (0)) hx hb dL_pays_231 (by decide) ?_
  refine lv_iconst (v := (1)) hx hb dL_pays_232 (by decide) ?_
  refine mcallVw hw hC.1 rfl rfl ⟨hx, hb, hml, hown, hts⟩ hS (c_X3_setHoliday hC wf_aF7 0 (by decide) 1 (by decide)) (cwV 2 hts gL_pays_X3_setHoliday rfl rfl rfl (by decide +kernel) ⟨Nat.le_of_ble_eq_true rfl, Nat.le_of_ble_eq_true rfl⟩) rfl hl.1 rfl (Nat.le_of_ble_eq_true rfl) dL_pays_233 ⟨Nat.le_of_ble_eq_true rfl, Nat.le_of_ble_eq_true rfl⟩ (fun r9 V1 α1 H locs hq hw hS => ?_)
  obtain ⟨er, hC, hO⟩ := hq
  have hC : mC G V1 α1 aF8 4 2 1 := hC
  have e0 : α1 0 = α 0 := (hO 0 (by omega)).2
  have hl : lv_has ls 1 [(0, .ref (α1 (0)))] := by rw [e0]; exact hl
  obtain rfl : r9 = 0 := er.symm.trans av16
  refine lv_if_ne (tgt := 341) hx hb dL_pays_236 (by decide) (fun z => absurd ((by decide)) z) (fun c13 => ?_)
  refine lv_aload_n hx hb dL_pays_239 rfl (lv_at hl 0 rfl) ?_
  refine lv_iconst (v := (0)) hx hb dL_pays_240 (by decide) ?_
  refine lv_iconst (v := (0)) hx hb dL_pays_241 (by decide) ?_
  refine lv_sipush (v := (250)) hx hb dL_pays_242 (by decide) ?_
  refine lv_iconst (v := (2)) hx hb dL_pays_245 (by decide) ?_
  refine mcallSi hw ⟨hx, hb, hml, hown, hts⟩ (c_L_at hC wf_aF8 0 (by decide) 0 av17 250 2 av18 av19) (va_cwS 5 hts gL_pays_L_at rfl rfl rfl (by decide +kernel) ⟨Nat.le_of_ble_eq_true rfl, Nat.le_of_ble_eq_true rfl⟩) rfl hl.1 rfl (Nat.le_of_ble_eq_true rfl) dL_pays_246 ⟨Nat.le_of_ble_eq_true rfl, Nat.le_of_ble_eq_true rfl⟩ ?_
  refine lv_if_eq (tgt := 341) hx hb dL_pays_249 (by decide) (fun z => absurd z ((by decide))) (fun c14 => ?_)
  exact kk _ _ _ _ _ hC hl hw hS

set_option maxHeartbeats 40000000 in
set_option maxRecDepth 100000 in
theorem a_s2 {p : Program} {l : Launch} {e : Env} {s : State} {m : MethodId} {args : Array Value} {below : List Frame} {meth : Method} {c : Code} {Q : State → Prop} {G : mG} {V : mV} {α : Nat → Nat} (hl0 : l.stackTraces = false) (hx : p.tables.exec = Jvm.exec) (hb : c.code = cL_pays) (hml : c.maxLocals = 1) (hown : s.vm.findClass RL = some m.cls) (hts : ∀ w ∈ wsL_pays, w.before args s = true) (hC : mC G V α aF8 4 2 1)
    (kk : ∀ (V : mV) (α : Nat → Nat) (H : Heap) (locs : List Loc) (ls : Array Slot), mC G V α aF12 4 2 2 → lv_has ls 1 [(0, .ref (α (0)))] → mW G V α s H → va_S (mfree G) s.heap H locs → W p l e ({ frames := 10, cells := 566, slots := 5920, locals := 317 } : Room) s m args below meth c H locs 284 3634 Q (F0 m 357 ls []))
    (H : Heap) (locs : List Loc) (ls : Array Slot) (hl : lv_has ls 1 [(0, .ref (α (0)))]) (hw : mW G V α s H) (hS : va_S (mfree G) s.heap H locs) : W p l e ({ frames := 10, cells := 566, slots := 5920, locals := 317 } : Room) s m args below meth c H locs 146 2608 Q (F0 m 252 ls []) := by
  refine lv_aload_n hx hb dL_pays_252 rfl (lv_at hl 0 rfl) ?_
  refine lv_iconst (v := (0)) hx hb dL_pays_253 (by decide) ?_
  refine mcallVi hw (hC.1) rfl rfl ⟨hx, hb, hml, hown, hts⟩ (c_X3_pay hC wf_aF8 0 (by decide)) (cwV 1 hts gL_pays_X3_pay rfl rfl rfl (by decide +kernel) ⟨Nat.le_of_ble_eq_true rfl, Nat.le_of_ble_eq_true rfl⟩) rfl hl.1 rfl (Nat.le_of_ble_eq_true rfl) dL_pays_254 ⟨Nat.le_of_ble_eq_true rfl, Nat.le_of_ble_eq_true rfl⟩ ?_
  refine lv_topi (fun y1 ey1 => ?_)
  obtain rfl : y1 = 15000 := ey1.trans av20
  refine lv_sipush (v := (15000)) hx hb dL_pays_257 (by decide) ?_
  refine lv_icmp_ne (tgt := 341) hx hb dL_pays_260 (by decide) (fun z => absurd ((by decide)) z) (fun c2 => ?_)
  refine lv_aload_n hx hb dL_pays_263 rfl (lv_at hl 0 rfl) ?_
  refine lv_iconst (v := (1)) hx hb dL_pays_264 (by decide) ?_
  refine mcallVi hw (hC.1) rfl rfl ⟨hx, hb, hml, hown, hts⟩ (c_X3_paidBy hC wf_aF8 1 (by decide)) (cwV 1 hts gL_pays_X3_paidBy rfl rfl rfl (by decide +kernel) ⟨Nat.le_of_ble_eq_true rfl, Nat.le_of_ble_eq_true rfl⟩) rfl hl.1 rfl (Nat.le_of_ble_eq_true rfl) dL_pays_265 ⟨Nat.le_of_ble_eq_true rfl, Nat.le_of_ble_eq_true rfl⟩ ?_
  refine lv_topi (fun y3 ey3 => ?_)
  obtain rfl : y3 = 0 := ey3.trans av21
  refine lv_if_ne (tgt := 341) hx hb dL_pays_268 (by decide) (fun z => absurd ((by decide)) z) (fun c4 => ?_)
  refine lv_aload_n hx hb dL_pays_271 rfl (lv_at hl 0 rfl) ?_
  refine lv_iconst (v := (2)) hx hb dL_pays_272 (by decide) ?_
  refine mcallVi hw (hC.1) rfl rfl ⟨hx, hb, hml, hown, hts⟩ (c_X3_paidBy hC wf_aF8 2 (by decide)) (cwV 1 hts gL_pays_X3_paidBy rfl rfl rfl (by decide +kernel) ⟨Nat.le_of_ble_eq_true rfl, Nat.le_of_ble_eq_true rfl⟩) rfl hl.1 rfl (Nat.le_of_ble_eq_true rfl) dL_pays_273 ⟨Nat.le_of_ble_eq_true rfl, Nat.le_of_ble_eq_true rfl⟩ ?_
  refine lv_topi (fun y5 ey5 => ?_)
  obtain rfl : y5 = 15000 := ey5.trans av22
  refine lv_sipush (v := (15000)) hx hb dL_pays_276 (by decide) ?_
  refine lv_icmp_ne (tgt := 341) hx hb dL_pays_279 (by decide) (fun z => absurd ((by decide)) z) (fun c6 => ?_)
  refine lv_aload_n hx hb dL_pays_282 rfl (lv_at hl 0 rfl) ?_
  refine lv_iconst (v := (0)) hx hb dL_pays_283 (by decide) ?_
  refine lv_iconst (v := (2)) hx hb dL_pays_284 (by decide) ?_
  refine mcallVw hw hC.1 rfl rfl ⟨hx, hb, hml, hown, hts⟩ hS (c_X3_setRank hC wf_aF8 0 2 (by decide) (by decide)) (cwV 2 hts gL_pays_X3_setRank rfl rfl rfl (by decide +kernel) ⟨Nat.le_of_ble_eq_true rfl, Nat.le_of_ble_eq_true rfl⟩) rfl hl.1 rfl (Nat.le_of_ble_eq_true rfl) dL_pays_285 ⟨Nat.le_of_ble_eq_true rfl, Nat.le_of_ble_eq_true rfl⟩ (fun r9 V1 α1 H locs hq hw hS => ?_)
  obtain ⟨er, hC, hO⟩ := hq
  have hC : mC G V1 α1 aF9 4 2 1 := hC
  have e0 : α1 0 = α 0 := (hO 0 (by omega)).2
  have hl : lv_has ls 1 [(0, .ref (α1 (0)))] := by rw [e0]; exact hl
  obtain rfl : r9 = 0 := er.symm.trans av23
  refine lv_if_ne (tgt := 341) hx hb dL_pays_288 (by decide) (fun z => absurd ((by decide)) z) (fun c7 => ?_)
  refine lv_aload_n hx hb dL_pays_291 rfl (lv_at hl 0 rfl) ?_
  refine lv_iconst (v := (0)) hx hb dL_pays_292 (by decide) ?_
  refine mcallVi hw (hC.1) rfl rfl ⟨hx, hb, hml, hown, hts⟩ (c_X3_pay hC wf_aF9 0 (by decide)) (cwV 1 hts gL_pays_X3_pay rfl rfl rfl (by decide +kernel) ⟨Nat.le_of_ble_eq_true rfl, Nat.le_of_ble_eq_true rfl⟩) rfl hl.1 rfl (Nat.le_of_ble_eq_true rfl) dL_pays_293 ⟨Nat.le_of_ble_eq_true rfl, Nat.le_of_ble_eq_true rfl⟩ ?_
  refine lv_topi (fun y8 ey8 => ?_)
  obtain rfl : y8 = 6000 := ey8.trans av24
  refine lv_sipush (v := (6000)) hx hb dL_pays_296 (by decide) ?_
  refine lv_icmp_ne (tgt := 341) hx hb dL_pays_299 (by decide) (fun z => absurd ((by decide)) z) (fun c9 => ?_)
  refine lv_aload_n hx hb dL_pays_302 rfl (lv_at hl 0 rfl) ?_
  refine lv_iconst (v := (0)) hx hb dL_pays_303 (by decide) ?_
  refine lv_iconst (v := (0)) hx hb dL_pays_304 (by decide) ?_
  refine mcallVw hw hC.1 rfl rfl ⟨hx, hb, hml, hown, hts⟩ hS (c_X3_setRank hC wf_aF9 0 0 (by decide) (by decide)) (cwV 2 hts gL_pays_X3_setRank rfl rfl rfl (by decide +kernel) ⟨Nat.le_of_ble_eq_true rfl, Nat.le_of_ble_eq_true rfl⟩) rfl hl.1 rfl (Nat.le_of_ble_eq_true rfl) dL_pays_305 ⟨Nat.le_of_ble_eq_true rfl, Nat.le_of_ble_eq_true rfl⟩ (fun r9 V2 α2 H locs hq hw hS => ?_)
  obtain ⟨er, hC, hO⟩ := hq
  have hC : mC G V2 α2 aF10 4 2 1 := hC
  have e0 : α2 0 = α1 0 := (hO 0 (by omega)).2
  have hl : lv_has ls 1 [(0, .ref (α2 (0)))] := by rw [e0]; exact hl
  obtain rfl : r9 = 2 := er.symm.trans av25
  refine lv_iconst (v := (2)) hx hb dL_pays_308 (by decide) ?_
  refine lv_icmp_ne (tgt := 341) hx hb dL_pays_309 (by decide) (fun z => absurd ((by decide)) z) (fun c10 => ?_)
  refine lv_aload_n hx hb dL_pays_312 rfl (lv_at hl 0 rfl) ?_
  refine lv_iconst (v := (0)) hx hb dL_pays_313 (by decide) ?_
  refine lv_iconst (v := (0)) hx hb dL_pays_314 (by decide) ?_
  refine mcallVw hw hC.1 rfl rfl ⟨hx, hb, hml, hown, hts⟩ hS (c_X3_setHoliday hC wf_aF10 0 (by decide) 0 (by decide)) (cwV 2 hts gL_pays_X3_setHoliday rfl rfl rfl (by decide +kernel) ⟨Nat.le_of_ble_eq_true rfl, Nat.le_of_ble_eq_true rfl⟩) rfl hl.1 rfl (Nat.le_of_ble_eq_true rfl) dL_pays_315 ⟨Nat.le_of_ble_eq_true rfl, Nat.le_of_ble_eq_true rfl⟩ (fun r9 V3 α3 H locs hq hw hS => ?_)
  obtain ⟨er, hC, hO⟩ := hq
  have hC : mC G V3 α3 aF11 4 2 1 := hC
  have e0 : α3 0 = α2 0 := (hO 0 (by omega)).2
  have hl : lv_has ls 1 [(0, .ref (α3 (0)))] := by rw [e0]; exact hl
  obtain rfl : r9 = 1 := er.symm.trans av26
  refine lv_if_eq (tgt := 341) hx hb dL_pays_318 (by decide) (fun z => absurd z ((by decide))) (fun c11 => ?_)
  refine lv_aload_n hx hb dL_pays_321 rfl (lv_at hl 0 rfl) ?_
  refine lv_iconst (v := (0)) hx hb dL_pays_322 (by decide) ?_
  refine mcallVi hw (hC.1) rfl rfl ⟨hx, hb, hml, hown, hts⟩ (c_X3_pay hC wf_aF11 0 (by decide)) (cwV 1 hts gL_pays_X3_pay rfl rfl rfl (by decide +kernel) ⟨Nat.le_of_ble_eq_true rfl, Nat.le_of_ble_eq_true rfl⟩) rfl hl.1 rfl (Nat.le_of_ble_eq_true rfl) dL_pays_323 ⟨Nat.le_of_ble_eq_true rfl, Nat.le_of_ble_eq_true rfl⟩ ?_
  refine lv_topi (fun y12 ey12 => ?_)
  obtain rfl : y12 = 7000 := ey12.trans av27
  refine lv_sipush (v := (7000)) hx hb dL_pays_326 (by decide) ?_
  refine lv_icmp_ne (tgt := 341) hx hb dL_pays_329 (by decide) (fun z => absurd ((by decide)) z) (fun c13 => ?_)
  refine lv_aload_n hx hb dL_pays_332 rfl (lv_at hl 0 rfl) ?_
  refine lv_iconst (v := (4)) hx hb dL_pays_333 (by decide) ?_
  refine lv_iconst (v := (2)) hx hb dL_pays_334 (by decide) ?_
  refine mcallSi2 (V2 := V3) (α2 := α3) (rest := []) hw ⟨hx, hb, hml, hown, hts⟩ hS (w_refusesB hl0 hC wf_aF11 (by decide) (by decide)) (va_cwS 3 hts gL_pays_L_refuses rfl rfl rfl (by decide +kernel) ⟨Nat.le_of_ble_eq_true rfl, Nat.le_of_ble_eq_true rfl⟩) rfl hl.1 rfl (Nat.le_of_ble_eq_true rfl) dL_pays_335 ⟨Nat.le_of_ble_eq_true rfl, Nat.le_of_ble_eq_true rfl⟩ (fun H locs hw hS => ?_)
  refine lv_if_ne (tgt := 343) hx hb dL_pays_338 (by decide) (fun c14 => ?_) (fun z => absurd z ((by decide)))
  refine lv_aload_n hx hb dL_pays_343 rfl (lv_at hl 0 rfl) ?_
  refine lv_iconst (v := (0)) hx hb dL_pays_344 (by decide) ?_
  refine lv_iconst (v := (4)) hx hb dL_pays_345 (by decide) ?_
  refine lv_bipush (v := (90)) hx hb dL_pays_346 (by decide) ?_
  refine lv_bipush (v := (20)) hx hb dL_pays_348 (by decide) ?_
  refine mcallVw hw hC.1 rfl rfl ⟨hx, hb, hml, hown, hts⟩ hS (c_X3_addShift hC wf_aF11 0 4 90 20 (by decide) (by decide) (by decide) (by decide) (by decide) (by decide) av28) (cwV 4 hts gL_pays_X3_addShift rfl rfl rfl (by decide +kernel) ⟨Nat.le_of_ble_eq_true rfl, Nat.le_of_ble_eq_true rfl⟩) rfl hl.1 rfl (Nat.le_of_ble_eq_true rfl) dL_pays_350 ⟨Nat.le_of_ble_eq_true rfl, Nat.le_of_ble_eq_true rfl⟩ (fun r9 V4 α4 H locs hq hw hS => ?_)
  obtain ⟨er, hC, hO⟩ := hq
  have hC : mC G V4 α4 aF12 4 2 2 := hC
  have e0 : α4 0 = α3 0 := (hO 0 (by omega)).2
  have hl : lv_has ls 1 [(0, .ref (α4 (0)))] := by rw [e0]; exact hl
  obtain rfl : r9 = 1 := er.symm.trans (by decide)
  refine lv_iconst (v := (1)) hx hb dL_pays_353 (by decide) ?_
  refine lv_icmp_ne (tgt := 607) hx hb dL_pays_354 (by decide) (fun z => absurd ((by decide)) z) (fun c15 => ?_)
  exact kk _ _ _ _ _ hC hl hw hS

set_option maxHeartbeats 40000000 in
set_option maxRecDepth 100000 in
theorem a_s3 {p : Program} {l : Launch} {e : Env} {s : State} {m : MethodId} {args : Array Value} {below : List Frame} {meth : Method} {c : Code} {Q : State → Prop} {G : mG} {V : mV} {α : Nat → Nat} (hl0 : l.stackTraces = false) (hx : p.tables.exec = Jvm.exec) (hb : c.code = cL_pays) (hml : c.maxLocals = 1) (hown : s.vm.findClass RL = some m.cls) (hts : ∀ w ∈ wsL_pays, w.before args s = true) (hC : mC G V α aF12 4 2 2)
    (kk : ∀ (V : mV) (α : Nat → Nat) (H : Heap) (locs : List Loc) (ls : Array Slot), mC G V α aF15 4 2 2 → lv_has ls 1 [(0, .ref (α (0)))] → mW G V α s H → va_S (mfree G) s.heap H locs → W p l e ({ frames := 10, cells := 566, slots := 5920, locals := 317 } : Room) s m args below meth c H locs 284 3634 Q (F0 m 460 ls []))
    (H : Heap) (locs : List Loc) (ls : Array Slot) (hl : lv_has ls 1 [(0, .ref (α (0)))]) (hw : mW G V α s H) (hS : va_S (mfree G) s.heap H locs) : W p l e ({ frames := 10, cells := 566, slots := 5920, locals := 317 } : Room) s m args below meth c H locs 284 3634 Q (F0 m 357 ls []) := by
  refine lv_aload_n hx hb dL_pays_357 rfl (lv_at hl 0 rfl) ?_
  refine lv_iconst (v := (1)) hx hb dL_pays_358 (by decide) ?_
  refine mcallVi hw (hC.1) rfl rfl ⟨hx, hb, hml, hown, hts⟩ (c_X3_paidQuarters hC wf_aF12 1 (by decide)) (cwV 1 hts gL_pays_X3_paidQuarters rfl rfl rfl (by decide +kernel) ⟨Nat.le_of_ble_eq_true rfl, Nat.le_of_ble_eq_true rfl⟩) rfl hl.1 rfl (Nat.le_of_ble_eq_true rfl) dL_pays_359 ⟨Nat.le_of_ble_eq_true rfl, Nat.le_of_ble_eq_true rfl⟩ ?_
  refine lv_topi (fun y1 ey1 => ?_)
  obtain rfl : y1 = 20 := ey1.trans av29
  refine lv_bipush (v := (20)) hx hb dL_pays_362 (by decide) ?_
  refine lv_icmp_ne (tgt := 607) hx hb dL_pays_364 (by decide) (fun z => absurd ((by decide)) z) (fun c2 => ?_)
  refine lv_aload_n hx hb dL_pays_367 rfl (lv_at hl 0 rfl) ?_
  refine lv_iconst (v := (1)) hx hb dL_pays_368 (by decide) ?_
  refine lv_iconst (v := (5)) hx hb dL_pays_369 (by decide) ?_
  refine lv_bipush (v := (125)) hx hb dL_pays_370 (by decide) ?_
  refine lv_iconst (v := (1)) hx hb dL_pays_372 (by decide) ?_
  refine mcallSi hw ⟨hx, hb, hml, hown, hts⟩ (c_L_at hC wf_aF12 1 (by decide) 5 av30 125 1 av31 av32) (va_cwS 5 hts gL_pays_L_at rfl rfl rfl (by decide +kernel) ⟨Nat.le_of_ble_eq_true rfl, Nat.le_of_ble_eq_true rfl⟩) rfl hl.1 rfl (Nat.le_of_ble_eq_true rfl) dL_pays_373 ⟨Nat.le_of_ble_eq_true rfl, Nat.le_of_ble_eq_true rfl⟩ ?_
  refine lv_if_eq (tgt := 607) hx hb dL_pays_376 (by decide) (fun z => absurd z ((by decide))) (fun c3 => ?_)
  refine lv_aload_n hx hb dL_pays_379 rfl (lv_at hl 0 rfl) ?_
  refine lv_iconst (v := (1)) hx hb dL_pays_380 (by decide) ?_
  refine lv_bipush (v := (6)) hx hb dL_pays_381 (by decide) ?_
  refine lv_sipush (v := (150)) hx hb dL_pays_383 (by decide) ?_
  refine lv_iconst (v := (0)) hx hb dL_pays_386 (by decide) ?_
  refine mcallSi hw ⟨hx, hb, hml, hown, hts⟩ (c_L_at hC wf_aF12 1 (by decide) 6 av33 150 0 av34 av35) (va_cwS 5 hts gL_pays_L_at rfl rfl rfl (by decide +kernel) ⟨Nat.le_of_ble_eq_true rfl, Nat.le_of_ble_eq_true rfl⟩) rfl hl.1 rfl (Nat.le_of_ble_eq_true rfl) dL_pays_387 ⟨Nat.le_of_ble_eq_true rfl, Nat.le_of_ble_eq_true rfl⟩ ?_
  refine lv_if_eq (tgt := 607) hx hb dL_pays_390 (by decide) (fun z => absurd z ((by decide))) (fun c4 => ?_)
  refine lv_aload_n hx hb dL_pays_393 rfl (lv_at hl 0 rfl) ?_
  refine lv_iconst (v := (1)) hx hb dL_pays_394 (by decide) ?_
  refine mcallVi hw (hC.1) rfl rfl ⟨hx, hb, hml, hown, hts⟩ (c_X3_missed hC wf_aF12 1 (by decide)) (cwV 1 hts gL_pays_X3_missed rfl rfl rfl (by decide +kernel) ⟨Nat.le_of_ble_eq_true rfl, Nat.le_of_ble_eq_true rfl⟩) rfl hl.1 rfl (Nat.le_of_ble_eq_true rfl) dL_pays_395 ⟨Nat.le_of_ble_eq_true rfl, Nat.le_of_ble_eq_true rfl⟩ ?_
  refine lv_topi (fun y5 ey5 => ?_)
  obtain rfl : y5 = 1 := ey5.trans av36
  refine lv_iconst (v := (1)) hx hb dL_pays_398 (by decide) ?_
  refine lv_icmp_ne (tgt := 607) hx hb dL_pays_399 (by decide) (fun z => absurd ((by decide)) z) (fun c6 => ?_)
  refine lv_aload_n hx hb dL_pays_402 rfl (lv_at hl 0 rfl) ?_
  refine lv_iconst (v := (1)) hx hb dL_pays_403 (by decide) ?_
  refine mcallVi hw (hC.1) rfl rfl ⟨hx, hb, hml, hown, hts⟩ (c_X3_pay hC wf_aF12 1 (by decide)) (cwV 1 hts gL_pays_X3_pay rfl rfl rfl (by decide +kernel) ⟨Nat.le_of_ble_eq_true rfl, Nat.le_of_ble_eq_true rfl⟩) rfl hl.1 rfl (Nat.le_of_ble_eq_true rfl) dL_pays_404 ⟨Nat.le_of_ble_eq_true rfl, Nat.le_of_ble_eq_true rfl⟩ ?_
  refine lv_topi (fun y7 ey7 => ?_)
  obtain rfl : y7 = 15250 := ey7.trans av37
  refine lv_sipush (v := (15250)) hx hb dL_pays_407 (by decide) ?_
  refine lv_icmp_ne (tgt := 607) hx hb dL_pays_410 (by decide) (fun z => absurd ((by decide)) z) (fun c8 => ?_)
  refine lv_aload_n hx hb dL_pays_413 rfl (lv_at hl 0 rfl) ?_
  refine lv_iconst (v := (1)) hx hb dL_pays_414 (by decide) ?_
  refine lv_iconst (v := (1)) hx hb dL_pays_415 (by decide) ?_
  refine mcallVw hw hC.1 rfl rfl ⟨hx, hb, hml, hown, hts⟩ hS (c_X3_takeBreaks hC wf_aF12 1 (by decide) av38 1 (by decide)) (cwV 2 hts gL_pays_X3_takeBreaks rfl rfl rfl (by decide +kernel) ⟨Nat.le_of_ble_eq_true rfl, Nat.le_of_ble_eq_true rfl⟩) rfl hl.1 rfl (Nat.le_of_ble_eq_true rfl) dL_pays_416 ⟨Nat.le_of_ble_eq_true rfl, Nat.le_of_ble_eq_true rfl⟩ (fun r9 V1 α1 H locs hq hw hS => ?_)
  obtain ⟨er, hC, hO⟩ := hq
  have hC : mC G V1 α1 aF13 4 2 2 := hC
  have e0 : α1 0 = α 0 := (hO 0 (by omega)).2
  have hl : lv_has ls 1 [(0, .ref (α1 (0)))] := by rw [e0]; exact hl
  obtain rfl : r9 = 0 := er.symm.trans av39
  refine lv_if_ne (tgt := 607) hx hb dL_pays_419 (by decide) (fun z => absurd ((by decide)) z) (fun c9 => ?_)
  refine lv_aload_n hx hb dL_pays_422 rfl (lv_at hl 0 rfl) ?_
  refine lv_iconst (v := (1)) hx hb dL_pays_423 (by decide) ?_
  refine mcallVi hw (hC.1) rfl rfl ⟨hx, hb, hml, hown, hts⟩ (c_X3_pay hC wf_aF13 1 (by decide)) (cwV 1 hts gL_pays_X3_pay rfl rfl rfl (by decide +kernel) ⟨Nat.le_of_ble_eq_true rfl, Nat.le_of_ble_eq_true rfl⟩) rfl hl.1 rfl (Nat.le_of_ble_eq_true rfl) dL_pays_424 ⟨Nat.le_of_ble_eq_true rfl, Nat.le_of_ble_eq_true rfl⟩ ?_
  refine lv_topi (fun y10 ey10 => ?_)
  obtain rfl : y10 = 14250 := ey10.trans av40
  refine lv_sipush (v := (14250)) hx hb dL_pays_427 (by decide) ?_
  refine lv_icmp_ne (tgt := 607) hx hb dL_pays_430 (by decide) (fun z => absurd ((by decide)) z) (fun c11 => ?_)
  refine lv_aload_n hx hb dL_pays_433 rfl (lv_at hl 0 rfl) ?_
  refine lv_iconst (v := (1)) hx hb dL_pays_434 (by decide) ?_
  refine lv_iconst (v := (5)) hx hb dL_pays_435 (by decide) ?_
  refine mcallVw hw hC.1 rfl rfl ⟨hx, hb, hml, hown, hts⟩ hS (c_X3_takeBreaks hC wf_aF13 1 (by decide) av41 5 (by decide)) (cwV 2 hts gL_pays_X3_takeBreaks rfl rfl rfl (by decide +kernel) ⟨Nat.le_of_ble_eq_true rfl, Nat.le_of_ble_eq_true rfl⟩) rfl hl.1 rfl (Nat.le_of_ble_eq_true rfl) dL_pays_436 ⟨Nat.le_of_ble_eq_true rfl, Nat.le_of_ble_eq_true rfl⟩ (fun r9 V2 α2 H locs hq hw hS => ?_)
  obtain ⟨er, hC, hO⟩ := hq
  have hC : mC G V2 α2 aF14 4 2 2 := hC
  have e0 : α2 0 = α1 0 := (hO 0 (by omega)).2
  have hl : lv_has ls 1 [(0, .ref (α2 (0)))] := by rw [e0]; exact hl
  obtain rfl : r9 = 1 := er.symm.trans av42
  refine lv_iconst (v := (1)) hx hb dL_pays_439 (by decide) ?_
  refine lv_icmp_ne (tgt := 607) hx hb dL_pays_440 (by decide) (fun z => absurd ((by decide)) z) (fun c12 => ?_)
  refine lv_aload_n hx hb dL_pays_443 rfl (lv_at hl 0 rfl) ?_
  refine lv_iconst (v := (1)) hx hb dL_pays_444 (by decide) ?_
  refine mcallVi hw (hC.1) rfl rfl ⟨hx, hb, hml, hown, hts⟩ (c_X3_missed hC wf_aF14 1 (by decide)) (cwV 1 hts gL_pays_X3_missed rfl rfl rfl (by decide +kernel) ⟨Nat.le_of_ble_eq_true rfl, Nat.le_of_ble_eq_true rfl⟩) rfl hl.1 rfl (Nat.le_of_ble_eq_true rfl) dL_pays_445 ⟨Nat.le_of_ble_eq_true rfl, Nat.le_of_ble_eq_true rfl⟩ ?_
  refine lv_topi (fun y13 ey13 => ?_)
  obtain rfl : y13 = 0 := ey13.trans av43
  refine lv_if_ne (tgt := 607) hx hb dL_pays_448 (by decide) (fun z => absurd ((by decide)) z) (fun c14 => ?_)
  refine lv_aload_n hx hb dL_pays_451 rfl (lv_at hl 0 rfl) ?_
  refine lv_iconst (v := (0)) hx hb dL_pays_452 (by decide) ?_
  refine lv_iconst (v := (0)) hx hb dL_pays_453 (by decide) ?_
  refine mcallVw hw hC.1 rfl rfl ⟨hx, hb, hml, hown, hts⟩ hS (c_X3_setRule hC wf_aF14 0 (by decide) 0 (by decide)) (cwV 2 hts gL_pays_X3_setRule rfl rfl rfl (by decide +kernel) ⟨Nat.le_of_ble_eq_true rfl, Nat.le_of_ble_eq_true rfl⟩) rfl hl.1 rfl (Nat.le_of_ble_eq_true rfl) dL_pays_454 ⟨Nat.le_of_ble_eq_true rfl, Nat.le_of_ble_eq_true rfl⟩ (fun r9 V3 α3 H locs hq hw hS => ?_)
  obtain ⟨er, hC, hO⟩ := hq
  have hC : mC G V3 α3 aF15 4 2 2 := hC
  have e0 : α3 0 = α2 0 := (hO 0 (by omega)).2
  have hl : lv_has ls 1 [(0, .ref (α3 (0)))] := by rw [e0]; exact hl
  obtain rfl : r9 = 1 := er.symm.trans av44
  refine lv_if_eq (tgt := 607) hx hb dL_pays_457 (by decide) (fun z => absurd z ((by decide))) (fun c15 => ?_)
  exact kk _ _ _ _ _ hC hl hw hS

set_option maxHeartbeats 40000000 in
set_option maxRecDepth 100000 in
theorem a_s4 {p : Program} {l : Launch} {e : Env} {s : State} {m : MethodId} {args : Array Value} {below : List Frame} {meth : Method} {c : Code} {Q : State → Prop} {G : mG} {V : mV} {α : Nat → Nat} (hl0 : l.stackTraces = false) (hx : p.tables.exec = Jvm.exec) (hb : c.code = cL_pays) (hml : c.maxLocals = 1) (hown : s.vm.findClass RL = some m.cls) (hts : ∀ w ∈ wsL_pays, w.before args s = true) (hC : mC G V α aF15 4 2 2)
    (kk : ∀ (V : mV) (α : Nat → Nat) (H : Heap) (locs : List Loc) (ls : Array Slot), mC G V α aF17 4 2 2 → lv_has ls 1 [(0, .ref (α (0)))] → mW G V α s H → va_S (mfree G) s.heap H locs → W p l e ({ frames := 10, cells := 566, slots := 5920, locals := 317 } : Room) s m args below meth c H locs 284 3634 Q (F0 m 575 ls []))
    (H : Heap) (locs : List Loc) (ls : Array Slot) (hl : lv_has ls 1 [(0, .ref (α (0)))]) (hw : mW G V α s H) (hS : va_S (mfree G) s.heap H locs) : W p l e ({ frames := 10, cells := 566, slots := 5920, locals := 317 } : Room) s m args below meth c H locs 284 3634 Q (F0 m 460 ls []) := by
  refine lv_aload_n hx hb dL_pays_460 rfl (lv_at hl 0 rfl) ?_
  refine lv_iconst (v := (0)) hx hb dL_pays_461 (by decide) ?_
  refine lv_iconst (v := (0)) hx hb dL_pays_462 (by decide) ?_
  refine mcallVw hw hC.1 rfl rfl ⟨hx, hb, hml, hown, hts⟩ hS (c_X3_setRule hC wf_aF15 0 (by decide) 0 (by decide)) (cwV 2 hts gL_pays_X3_setRule rfl rfl rfl (by decide +kernel) ⟨Nat.le_of_ble_eq_true rfl, Nat.le_of_ble_eq_true rfl⟩) rfl hl.1 rfl (Nat.le_of_ble_eq_true rfl) dL_pays_463 ⟨Nat.le_of_ble_eq_true rfl, Nat.le_of_ble_eq_true rfl⟩ (fun r9 V1 α1 H locs hq hw hS => ?_)
  obtain ⟨er, hC, hO⟩ := hq
  have hC : mC G V1 α1 aF16 4 2 2 := hC
  have e0 : α1 0 = α 0 := (hO 0 (by omega)).2
  have hl : lv_has ls 1 [(0, .ref (α1 (0)))] := by rw [e0]; exact hl
  obtain rfl : r9 = 0 := er.symm.trans av45
  refine lv_if_ne (tgt := 607) hx hb dL_pays_466 (by decide) (fun z => absurd ((by decide)) z) (fun c1 => ?_)
  refine lv_aload_n hx hb dL_pays_469 rfl (lv_at hl 0 rfl) ?_
  refine lv_iconst (v := (1)) hx hb dL_pays_470 (by decide) ?_
  refine lv_bipush (v := (19)) hx hb dL_pays_471 (by decide) ?_
  refine lv_sipush (v := (130)) hx hb dL_pays_473 (by decide) ?_
  refine lv_iconst (v := (3)) hx hb dL_pays_476 (by decide) ?_
  refine mcallSi hw ⟨hx, hb, hml, hown, hts⟩ (c_L_at hC wf_aF16 1 (by decide) 19 av46 130 3 av47 av48) (va_cwS 5 hts gL_pays_L_at rfl rfl rfl (by decide +kernel) ⟨Nat.le_of_ble_eq_true rfl, Nat.le_of_ble_eq_true rfl⟩) rfl hl.1 rfl (Nat.le_of_ble_eq_true rfl) dL_pays_477 ⟨Nat.le_of_ble_eq_true rfl, Nat.le_of_ble_eq_true rfl⟩ ?_
  refine lv_if_eq (tgt := 607) hx hb dL_pays_480 (by decide) (fun z => absurd z ((by decide))) (fun c2 => ?_)
  refine lv_aload_n hx hb dL_pays_483 rfl (lv_at hl 0 rfl) ?_
  refine lv_iconst (v := (1)) hx hb dL_pays_484 (by decide) ?_
  refine mcallVi hw (hC.1) rfl rfl ⟨hx, hb, hml, hown, hts⟩ (c_X3_pay hC wf_aF16 1 (by decide)) (cwV 1 hts gL_pays_X3_pay rfl rfl rfl (by decide +kernel) ⟨Nat.le_of_ble_eq_true rfl, Nat.le_of_ble_eq_true rfl⟩) rfl hl.1 rfl (Nat.le_of_ble_eq_true rfl) dL_pays_485 ⟨Nat.le_of_ble_eq_true rfl, Nat.le_of_ble_eq_true rfl⟩ ?_
  refine lv_topi (fun y3 ey3 => ?_)
  obtain rfl : y3 = 12850 := ey3.trans av49
  refine lv_sipush (v := (12850)) hx hb dL_pays_488 (by decide) ?_
  refine lv_icmp_ne (tgt := 607) hx hb dL_pays_491 (by decide) (fun z => absurd ((by decide)) z) (fun c4 => ?_)
  refine lv_aload_n hx hb dL_pays_494 rfl (lv_at hl 0 rfl) ?_
  refine lv_iconst (v := (0)) hx hb dL_pays_495 (by decide) ?_
  refine mcallVi hw (hC.1) rfl rfl ⟨hx, hb, hml, hown, hts⟩ (c_X3_paidBy hC wf_aF16 0 (by decide)) (cwV 1 hts gL_pays_X3_paidBy rfl rfl rfl (by decide +kernel) ⟨Nat.le_of_ble_eq_true rfl, Nat.le_of_ble_eq_true rfl⟩) rfl hl.1 rfl (Nat.le_of_ble_eq_true rfl) dL_pays_496 ⟨Nat.le_of_ble_eq_true rfl, Nat.le_of_ble_eq_true rfl⟩ ?_
  refine lv_topi (fun y5 ey5 => ?_)
  obtain rfl : y5 = 0 := ey5.trans av50
  refine lv_if_ne (tgt := 607) hx hb dL_pays_499 (by decide) (fun z => absurd ((by decide)) z) (fun c6 => ?_)
  refine lv_aload_n hx hb dL_pays_502 rfl (lv_at hl 0 rfl) ?_
  refine lv_iconst (v := (3)) hx hb dL_pays_503 (by decide) ?_
  refine mcallVi hw (hC.1) rfl rfl ⟨hx, hb, hml, hown, hts⟩ (c_X3_paidBy hC wf_aF16 3 (by decide)) (cwV 1 hts gL_pays_X3_paidBy rfl rfl rfl (by decide +kernel) ⟨Nat.le_of_ble_eq_true rfl, Nat.le_of_ble_eq_true rfl⟩) rfl hl.1 rfl (Nat.le_of_ble_eq_true rfl) dL_pays_504 ⟨Nat.le_of_ble_eq_true rfl, Nat.le_of_ble_eq_true rfl⟩ ?_
  refine lv_topi (fun y7 ey7 => ?_)
  obtain rfl : y7 = 9100 := ey7.trans av51
  refine lv_sipush (v := (9100)) hx hb dL_pays_507 (by decide) ?_
  refine lv_icmp_ne (tgt := 607) hx hb dL_pays_510 (by decide) (fun z => absurd ((by decide)) z) (fun c8 => ?_)
  refine lv_aload_n hx hb dL_pays_513 rfl (lv_at hl 0 rfl) ?_
  refine lv_iconst (v := (0)) hx hb dL_pays_514 (by decide) ?_
  refine lv_iconst (v := (1)) hx hb dL_pays_515 (by decide) ?_
  refine mcallVw hw hC.1 rfl rfl ⟨hx, hb, hml, hown, hts⟩ hS (c_X3_setRule hC wf_aF16 0 (by decide) 1 (by decide)) (cwV 2 hts gL_pays_X3_setRule rfl rfl rfl (by decide +kernel) ⟨Nat.le_of_ble_eq_true rfl, Nat.le_of_ble_eq_true rfl⟩) rfl hl.1 rfl (Nat.le_of_ble_eq_true rfl) dL_pays_516 ⟨Nat.le_of_ble_eq_true rfl, Nat.le_of_ble_eq_true rfl⟩ (fun r9 V2 α2 H locs hq hw hS => ?_)
  obtain ⟨er, hC, hO⟩ := hq
  have hC : mC G V2 α2 aF17 4 2 2 := hC
  have e0 : α2 0 = α1 0 := (hO 0 (by omega)).2
  have hl : lv_has ls 1 [(0, .ref (α2 (0)))] := by rw [e0]; exact hl
  obtain rfl : r9 = 0 := er.symm.trans av52
  refine lv_if_ne (tgt := 607) hx hb dL_pays_519 (by decide) (fun z => absurd ((by decide)) z) (fun c9 => ?_)
  refine lv_aload_n hx hb dL_pays_522 rfl (lv_at hl 0 rfl) ?_
  refine lv_iconst (v := (0)) hx hb dL_pays_523 (by decide) ?_
  refine lv_iconst (v := (0)) hx hb dL_pays_524 (by decide) ?_
  refine lv_iconst (v := (3)) hx hb dL_pays_525 (by decide) ?_
  refine mcallVi hw (hC.1) rfl rfl ⟨hx, hb, hml, hown, hts⟩ (c_X3_payOf hC wf_aF17 0 (by decide) 0 3 (by decide) (by decide)) (cwV 3 hts gL_pays_X3_payOf rfl rfl rfl (by decide +kernel) ⟨Nat.le_of_ble_eq_true rfl, Nat.le_of_ble_eq_true rfl⟩) rfl hl.1 rfl (Nat.le_of_ble_eq_true rfl) dL_pays_526 ⟨Nat.le_of_ble_eq_true rfl, Nat.le_of_ble_eq_true rfl⟩ ?_
  refine lv_topi (fun y10 ey10 => ?_)
  obtain rfl : y10 = 7000 := ey10.trans av53
  refine lv_sipush (v := (7000)) hx hb dL_pays_529 (by decide) ?_
  refine lv_icmp_ne (tgt := 607) hx hb dL_pays_532 (by decide) (fun z => absurd ((by decide)) z) (fun c11 => ?_)
  refine lv_aload_n hx hb dL_pays_535 rfl (lv_at hl 0 rfl) ?_
  refine lv_iconst (v := (0)) hx hb dL_pays_536 (by decide) ?_
  refine lv_iconst (v := (4)) hx hb dL_pays_537 (by decide) ?_
  refine lv_iconst (v := (4)) hx hb dL_pays_538 (by decide) ?_
  refine mcallVi hw (hC.1) rfl rfl ⟨hx, hb, hml, hown, hts⟩ (c_X3_payOf hC wf_aF17 0 (by decide) 4 4 (by decide) (by decide)) (cwV 3 hts gL_pays_X3_payOf rfl rfl rfl (by decide +kernel) ⟨Nat.le_of_ble_eq_true rfl, Nat.le_of_ble_eq_true rfl⟩) rfl hl.1 rfl (Nat.le_of_ble_eq_true rfl) dL_pays_539 ⟨Nat.le_of_ble_eq_true rfl, Nat.le_of_ble_eq_true rfl⟩ ?_
  refine lv_topi (fun y12 ey12 => ?_)
  obtain rfl : y12 = 14250 := ey12.trans av54
  refine lv_sipush (v := (14250)) hx hb dL_pays_542 (by decide) ?_
  refine lv_icmp_ne (tgt := 607) hx hb dL_pays_545 (by decide) (fun z => absurd ((by decide)) z) (fun c13 => ?_)
  refine lv_aload_n hx hb dL_pays_548 rfl (lv_at hl 0 rfl) ?_
  refine lv_iconst (v := (0)) hx hb dL_pays_549 (by decide) ?_
  refine lv_iconst (v := (5)) hx hb dL_pays_550 (by decide) ?_
  refine lv_sipush (v := (363)) hx hb dL_pays_551 (by decide) ?_
  refine mcallVi hw (hC.1) rfl rfl ⟨hx, hb, hml, hown, hts⟩ (c_X3_payOf hC wf_aF17 0 (by decide) 5 363 (by decide) (by decide)) (cwV 3 hts gL_pays_X3_payOf rfl rfl rfl (by decide +kernel) ⟨Nat.le_of_ble_eq_true rfl, Nat.le_of_ble_eq_true rfl⟩) rfl hl.1 rfl (Nat.le_of_ble_eq_true rfl) dL_pays_554 ⟨Nat.le_of_ble_eq_true rfl, Nat.le_of_ble_eq_true rfl⟩ ?_
  refine lv_topi (fun y14 ey14 => ?_)
  obtain rfl : y14 = 0 := ey14.trans av55
  refine lv_if_ne (tgt := 607) hx hb dL_pays_557 (by decide) (fun z => absurd ((by decide)) z) (fun c15 => ?_)
  refine lv_aload_n hx hb dL_pays_560 rfl (lv_at hl 0 rfl) ?_
  refine lv_iconst (v := (0)) hx hb dL_pays_561 (by decide) ?_
  refine lv_iconst (v := (0)) hx hb dL_pays_562 (by decide) ?_
  refine lv_sipush (v := (363)) hx hb dL_pays_563 (by decide) ?_
  refine mcallVi hw (hC.1) rfl rfl ⟨hx, hb, hml, hown, hts⟩ (c_X3_payOf hC wf_aF17 0 (by decide) 0 363 (by decide) (by decide)) (cwV 3 hts gL_pays_X3_payOf rfl rfl rfl (by decide +kernel) ⟨Nat.le_of_ble_eq_true rfl, Nat.le_of_ble_eq_true rfl⟩) rfl hl.1 rfl (Nat.le_of_ble_eq_true rfl) dL_pays_566 ⟨Nat.le_of_ble_eq_true rfl, Nat.le_of_ble_eq_true rfl⟩ ?_
  refine lv_topi (fun y16 ey16 => ?_)
  obtain rfl : y16 = 21250 := ey16.trans av56
  refine lv_sipush (v := (21250)) hx hb dL_pays_569 (by decide) ?_
  refine lv_icmp_ne (tgt := 607) hx hb dL_pays_572 (by decide) (fun z => absurd ((by decide)) z) (fun c17 => ?_)
  exact kk _ _ _ _ _ hC hl hw hS
