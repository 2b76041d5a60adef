set_option maxHeartbeats 40000000 in
set_option maxRecDepth 100000 in
theorem rfA_0 {p : Program} {l : Launch} {e : Env} {s : State} {m : MethodId} {args : Array Value} {below : List Frame} {meth : Method} {c : Code} {Q : State → Prop} {G : mG} {V : mV} {α : Nat → Nat} (hl0 : l.stackTraces = false) (hx : p.tables.exec = Jvm.exec) (hb : c.code = cL_refuses) (hml : c.maxLocals = 16) (hown : s.vm.findClass RL = some m.cls) (hts : ∀ w ∈ wsL_refuses, w.before args s = true) {f : sT} {nr nw ns : Nat} (hC : mC G V α f nr nw ns) (hwf : mwf f nr nw ns) (hnw : 0 < nw) (hns : ns = 0) {P Wk : Int32}
    (kk : ∀ (H : Heap) (locs : List Loc) {ls : Array Slot} (hl : lv_has ls 16 [(0, .ref (α (0))), (1, .int (nI nr)), (2, .int (nI nw)), (3, .int (nI ns)), (4, .int (P)), (5, .int (Wk)), (6, .int (2147483647)), (7, .int (1))]) (hw : mW G V α s H) (hS : va_S (mfree G) s.heap H locs), W p l e ({ frames := 9, cells := 124, slots := 744, locals := 172 } : Room) s m args below meth c H locs 31 186 Q (F0 m 31 ls []))
    (H : Heap) (locs : List Loc) {ls : Array Slot} (hl : lv_has ls 16 [(0, .ref (α (0))), (1, .int (nI nr)), (2, .int (nI nw)), (3, .int (nI ns)), (4, .int (P)), (5, .int (Wk)), (6, .int (2147483647)), (7, .int (0))]) (hw : mW G V α s H) (hS : va_S (mfree G) s.heap H locs) : W p l e ({ frames := 9, cells := 124, slots := 744, locals := 172 } : Room) s m args below meth c H locs 0 0 Q (F0 m 31 ls []) := by
  have hl16 := hwf.1.1
  have hl12 := hwf.1.2.1
  have hl80 := hwf.1.2.2
  refine lv_iload hx hb dL_refuses_31 (lv_at hl 7 rfl) ?_
  refine lv_iconst (v := (4)) hx hb dL_refuses_33 (by decide) ?_
  refine lv_icmp_ge (tgt := 856) hx hb dL_refuses_34 (by decide) (fun z => absurd z ((by decide))) (fun c1 => ?_)
  refine lv_iload hx hb dL_refuses_37 (lv_at hl 7 rfl) ?_
  refine lv_if_ne (tgt := 46) hx hb dL_refuses_39 (by decide) (fun z => absurd ((by decide)) z) (fun c2 => ?_)
  refine lv_iconst (v := (-1)) hx hb dL_refuses_42 (by decide) ?_
  refine lv_goto (tgt := 62) hx hb dL_refuses_43 (by decide) ?_
  refine lv_istore (lv' := [(8, .int ((-1))), (0, .ref (α (0))), (1, .int (nI nr)), (2, .int (nI nw)), (3, .int (nI ns)), (4, .int (P)), (5, .int (Wk)), (6, .int (2147483647)), (7, .int (0))]) hx hb dL_refuses_62 hl (by decide) rfl (fun ls hl => ?_)
  refine lv_iload hx hb dL_refuses_64 (lv_at hl 8 rfl) ?_
  refine lv_iconst (v := (1)) hx hb dL_refuses_66 (by decide) ?_
  refine lv_icmp_ne (tgt := 74) hx hb dL_refuses_67 (by decide) (fun c3 => ?_) (fun z => absurd z ((by decide)))
  refine lv_iload hx hb dL_refuses_74 (lv_at hl 0 rfl) ?_
  refine lv_istore (lv' := [(9, .int ((-1))), (8, .int ((-1))), (0, .ref (α (0))), (1, .int (nI nr)), (2, .int (nI nw)), (3, .int (nI ns)), (4, .int (P)), (5, .int (Wk)), (6, .int (2147483647)), (7, .int (0))]) hx hb dL_refuses_76 hl (by decide) rfl (fun ls hl => ?_)
  refine lv_iload hx hb dL_refuses_78 (lv_at hl 9 rfl) ?_
  refine lv_iconst (v := (1)) hx hb dL_refuses_80 (by decide) ?_
  refine lv_icmp_ne (tgt := 88) hx hb dL_refuses_81 (by decide) (fun c4 => ?_) (fun z => absurd z ((by decide)))
  refine lv_iload hx hb dL_refuses_88 (lv_at hl 1 rfl) ?_
  refine lv_istore (lv' := [(10, .int ((-1))), (9, .int ((-1))), (8, .int ((-1))), (0, .ref (α (0))), (1, .int (nI nr)), (2, .int (nI nw)), (3, .int (nI ns)), (4, .int (P)), (5, .int (Wk)), (6, .int (2147483647)), (7, .int (0))]) hx hb dL_refuses_90 hl (by decide) rfl (fun ls hl => ?_)
  refine lv_iload hx hb dL_refuses_92 (lv_at hl 10 rfl) ?_
  refine lv_iconst (v := (1)) hx hb dL_refuses_94 (by decide) ?_
  refine lv_icmp_ne (tgt := 102) hx hb dL_refuses_95 (by decide) (fun c5 => ?_) (fun z => absurd z ((by decide)))
  refine lv_iload hx hb dL_refuses_102 (lv_at hl 2 rfl) ?_
  refine lv_istore (lv' := [(11, .int ((-1))), (10, .int ((-1))), (9, .int ((-1))), (8, .int ((-1))), (0, .ref (α (0))), (1, .int (nI nr)), (2, .int (nI nw)), (3, .int (nI ns)), (4, .int (P)), (5, .int (Wk)), (6, .int (2147483647)), (7, .int (0))]) hx hb dL_refuses_104 hl (by decide) rfl (fun ls hl => ?_)
  refine lv_iload hx hb dL_refuses_106 (lv_at hl 11 rfl) ?_
  refine lv_iconst (v := (1)) hx hb dL_refuses_108 (by decide) ?_
  refine lv_icmp_ne (tgt := 116) hx hb dL_refuses_109 (by decide) (fun c6 => ?_) (fun z => absurd z ((by decide)))
  refine lv_iload hx hb dL_refuses_116 (lv_at hl 3 rfl) ?_
  refine lv_istore (lv' := [(12, .int ((-1))), (11, .int ((-1))), (10, .int ((-1))), (9, .int ((-1))), (8, .int ((-1))), (0, .ref (α (0))), (1, .int (nI nr)), (2, .int (nI nw)), (3, .int (nI ns)), (4, .int (P)), (5, .int (Wk)), (6, .int (2147483647)), (7, .int (0))]) hx hb dL_refuses_118 hl (by decide) rfl (fun ls hl => ?_)
  refine lv_iload hx hb dL_refuses_120 (lv_at hl 12 rfl) ?_
  refine lv_iconst (v := (1)) hx hb dL_refuses_122 (by decide) ?_
  refine lv_icmp_ne (tgt := 132) hx hb dL_refuses_123 (by decide) (fun c7 => ?_) (fun z => absurd z ((by decide)))
  refine lv_iload hx hb dL_refuses_132 (lv_at hl 4 rfl) ?_
  refine lv_istore (lv' := [(13, .int ((-1))), (12, .int ((-1))), (11, .int ((-1))), (10, .int ((-1))), (9, .int ((-1))), (8, .int ((-1))), (0, .ref (α (0))), (1, .int (nI nr)), (2, .int (nI nw)), (3, .int (nI ns)), (4, .int (P)), (5, .int (Wk)), (6, .int (2147483647)), (7, .int (0))]) hx hb dL_refuses_134 hl (by decide) rfl (fun ls hl => ?_)
  refine lv_aload_n hx hb dL_refuses_136 rfl (lv_at hl 6 rfl) ?_
  refine lv_iconst (v := (0)) hx hb dL_refuses_137 (by decide) ?_
  refine lv_iload hx hb dL_refuses_138 (lv_at hl 4 rfl) ?_
  refine lv_iconst (v := (5)) hx hb dL_refuses_140 (by decide) ?_
  refine lv_iconst (v := (0)) hx hb dL_refuses_141 (by decide) ?_
  refine lv_iconst (v := (0)) hx hb dL_refuses_142 (by decide) ?_
  refine mcallX (rest := []) hw ⟨hx, hb, hml, hown, hts⟩ hS (x_X3_setBase hl0 hC hwf (-1) 5 (by decide) 0 0) (vx_cwSW 6 hts gL_refuses_L_act rfl rfl rfl (by decide +kernel) ⟨Nat.le_of_ble_eq_true rfl, Nat.le_of_ble_eq_true rfl⟩) rfl hl.1 rfl (Nat.le_of_ble_eq_true rfl) dL_refuses_143 ⟨Nat.le_of_ble_eq_true rfl, Nat.le_of_ble_eq_true rfl⟩ (fun H locs hw hS => ?_)
  refine lv_bipush (v := (-72)) hx hb dL_refuses_146 (by decide) ?_
  refine lv_icmp_ne (tgt := 537) hx hb dL_refuses_148 (by decide) (fun z => absurd ((by decide)) z) (fun c8 => ?_)
  refine lv_aload_n hx hb dL_refuses_151 rfl (lv_at hl 6 rfl) ?_
  refine lv_iconst (v := (0)) hx hb dL_refuses_152 (by decide) ?_
  refine lv_iconst (v := (0)) hx hb dL_refuses_153 (by decide) ?_
  refine lv_iload hx hb dL_refuses_154 (lv_at hl 13 rfl) ?_
  refine lv_if_ne (tgt := 163) hx hb dL_refuses_156 (by decide) (fun z => absurd ((by decide)) z) (fun c9 => ?_)
  refine lv_iconst (v := (0)) hx hb dL_refuses_159 (by decide) ?_
  refine lv_goto (tgt := 177) hx hb dL_refuses_160 (by decide) ?_
  refine lv_iconst (v := (0)) hx hb dL_refuses_177 (by decide) ?_
  refine lv_iconst (v := (0)) hx hb dL_refuses_178 (by decide) ?_
  refine mcallX (rest := []) hw ⟨hx, hb, hml, hown, hts⟩ hS (x_X3_setBase hl0 hC hwf 0 0 (by decide) 0 0) (vx_cwSW 6 hts gL_refuses_L_act rfl rfl rfl (by decide +kernel) ⟨Nat.le_of_ble_eq_true rfl, Nat.le_of_ble_eq_true rfl⟩) rfl hl.1 rfl (Nat.le_of_ble_eq_true rfl) dL_refuses_179 ⟨Nat.le_of_ble_eq_true rfl, Nat.le_of_ble_eq_true rfl⟩ (fun H locs hw hS => ?_)
  refine lv_bipush (v := (-72)) hx hb dL_refuses_182 (by decide) ?_
  refine lv_icmp_ne (tgt := 537) hx hb dL_refuses_184 (by decide) (fun z => absurd ((by decide)) z) (fun c10 => ?_)
  refine lv_aload_n hx hb dL_refuses_187 rfl (lv_at hl 6 rfl) ?_
  refine lv_iload hx hb dL_refuses_188 (lv_at hl 13 rfl) ?_
  refine lv_iconst (v := (1)) hx hb dL_refuses_190 (by decide) ?_
  refine lv_icmp_ne (tgt := 200) hx hb dL_refuses_191 (by decide) (fun c11 => ?_) (fun z => absurd z ((by decide)))
  refine lv_iload hx hb dL_refuses_200 (lv_at hl 5 rfl) ?_
  refine lv_iconst (v := (5)) hx hb dL_refuses_202 (by decide) ?_
  refine lv_bipush (v := (6)) hx hb dL_refuses_203 (by decide) ?_
  refine lv_iconst (v := (1)) hx hb dL_refuses_205 (by decide) ?_
  refine lv_bipush (v := (100)) hx hb dL_refuses_206 (by decide) ?_
  refine mcallX (rest := []) hw ⟨hx, hb, hml, hown, hts⟩ hS (x_X3_addRule_1 hl0 hC hwf (-1) 5 6 1 100 (by decide)) (vx_cwSW 6 hts gL_refuses_L_rule rfl rfl rfl (by decide +kernel) ⟨Nat.le_of_ble_eq_true rfl, Nat.le_of_ble_eq_true rfl⟩) rfl hl.1 rfl (Nat.le_of_ble_eq_true rfl) dL_refuses_208 ⟨Nat.le_of_ble_eq_true rfl, Nat.le_of_ble_eq_true rfl⟩ (fun H locs hw hS => ?_)
  refine lv_bipush (v := (-72)) hx hb dL_refuses_211 (by decide) ?_
  refine lv_icmp_ne (tgt := 537) hx hb dL_refuses_213 (by decide) (fun z => absurd ((by decide)) z) (fun c12 => ?_)
  refine lv_aload_n hx hb dL_refuses_216 rfl (lv_at hl 6 rfl) ?_
  refine lv_iconst (v := (1)) hx hb dL_refuses_217 (by decide) ?_
  refine lv_iload hx hb dL_refuses_218 (lv_at hl 13 rfl) ?_
  refine lv_iconst (v := (1)) hx hb dL_refuses_220 (by decide) ?_
  refine lv_icmp_ne (tgt := 229) hx hb dL_refuses_221 (by decide) (fun c13 => ?_) (fun z => absurd z ((by decide)))
  refine lv_iload hx hb dL_refuses_229 (lv_at hl 5 rfl) ?_
  refine lv_bipush (v := (96)) hx hb dL_refuses_231 (by decide) ?_
  refine lv_iconst (v := (1)) hx hb dL_refuses_233 (by decide) ?_
  refine lv_bipush (v := (100)) hx hb dL_refuses_234 (by decide) ?_
  refine mcallX (rest := []) hw ⟨hx, hb, hml, hown, hts⟩ hS (x_X3_addRule_1 hl0 hC hwf 1 (-1) 96 1 100 (by decide)) (vx_cwSW 6 hts gL_refuses_L_rule rfl rfl rfl (by decide +kernel) ⟨Nat.le_of_ble_eq_true rfl, Nat.le_of_ble_eq_true rfl⟩) rfl hl.1 rfl (Nat.le_of_ble_eq_true rfl) dL_refuses_236 ⟨Nat.le_of_ble_eq_true rfl, Nat.le_of_ble_eq_true rfl⟩ (fun H locs hw hS => ?_)
  refine lv_bipush (v := (-72)) hx hb dL_refuses_239 (by decide) ?_
  refine lv_icmp_ne (tgt := 537) hx hb dL_refuses_241 (by decide) (fun z => absurd ((by decide)) z) (fun c14 => ?_)
  refine lv_aload_n hx hb dL_refuses_244 rfl (lv_at hl 6 rfl) ?_
  refine lv_iconst (v := (1)) hx hb dL_refuses_245 (by decide) ?_
  refine lv_iconst (v := (5)) hx hb dL_refuses_246 (by decide) ?_
  refine lv_iload hx hb dL_refuses_247 (lv_at hl 13 rfl) ?_
  refine lv_if_ne (tgt := 256) hx hb dL_refuses_249 (by decide) (fun z => absurd ((by decide)) z) (fun c15 => ?_)
  refine lv_iconst (v := (5)) hx hb dL_refuses_252 (by decide) ?_
  refine lv_goto (tgt := 269) hx hb dL_refuses_253 (by decide) ?_
  refine lv_iconst (v := (1)) hx hb dL_refuses_269 (by decide) ?_
  refine lv_bipush (v := (100)) hx hb dL_refuses_270 (by decide) ?_
  refine mcallX (rest := []) hw ⟨hx, hb, hml, hown, hts⟩ hS (x_X3_addRule_1 hl0 hC hwf 1 5 5 1 100 (by decide)) (vx_cwSW 6 hts gL_refuses_L_rule rfl rfl rfl (by decide +kernel) ⟨Nat.le_of_ble_eq_true rfl, Nat.le_of_ble_eq_true rfl⟩) rfl hl.1 rfl (Nat.le_of_ble_eq_true rfl) dL_refuses_272 ⟨Nat.le_of_ble_eq_true rfl, Nat.le_of_ble_eq_true rfl⟩ (fun H locs hw hS => ?_)
  refine lv_bipush (v := (-72)) hx hb dL_refuses_275 (by decide) ?_
  refine lv_icmp_ne (tgt := 537) hx hb dL_refuses_277 (by decide) (fun z => absurd ((by decide)) z) (fun c16 => ?_)
  refine lv_aload_n hx hb dL_refuses_280 rfl (lv_at hl 6 rfl) ?_
  refine lv_iconst (v := (1)) hx hb dL_refuses_281 (by decide) ?_
  refine lv_iconst (v := (5)) hx hb dL_refuses_282 (by decide) ?_
  refine lv_bipush (v := (6)) hx hb dL_refuses_283 (by decide) ?_
  refine lv_iload hx hb dL_refuses_285 (lv_at hl 13 rfl) ?_
  refine lv_if_ne (tgt := 294) hx hb dL_refuses_287 (by decide) (fun z => absurd ((by decide)) z) (fun c17 => ?_)
  refine lv_iconst (v := (0)) hx hb dL_refuses_290 (by decide) ?_
  refine lv_goto (tgt := 307) hx hb dL_refuses_291 (by decide) ?_
  refine lv_bipush (v := (100)) hx hb dL_refuses_307 (by decide) ?_
  refine mcallX (rest := []) hw ⟨hx, hb, hml, hown, hts⟩ hS (x_X3_addRule_1 hl0 hC hwf 1 5 6 0 100 (by decide)) (vx_cwSW 6 hts gL_refuses_L_rule rfl rfl rfl (by decide +kernel) ⟨Nat.le_of_ble_eq_true rfl, Nat.le_of_ble_eq_true rfl⟩) rfl hl.1 rfl (Nat.le_of_ble_eq_true rfl) dL_refuses_309 ⟨Nat.le_of_ble_eq_true rfl, Nat.le_of_ble_eq_true rfl⟩ (fun H locs hw hS => ?_)
  refine lv_bipush (v := (-72)) hx hb dL_refuses_312 (by decide) ?_
  refine lv_icmp_ne (tgt := 537) hx hb dL_refuses_314 (by decide) (fun z => absurd ((by decide)) z) (fun c18 => ?_)
  refine lv_aload_n hx hb dL_refuses_317 rfl (lv_at hl 6 rfl) ?_
  refine lv_iconst (v := (1)) hx hb dL_refuses_318 (by decide) ?_
  refine lv_iconst (v := (5)) hx hb dL_refuses_319 (by decide) ?_
  refine lv_bipush (v := (6)) hx hb dL_refuses_320 (by decide) ?_
  refine lv_iconst (v := (1)) hx hb dL_refuses_322 (by decide) ?_
  refine lv_iload hx hb dL_refuses_323 (lv_at hl 13 rfl) ?_
  refine lv_if_ne (tgt := 333) hx hb dL_refuses_325 (by decide) (fun z => absurd ((by decide)) z) (fun c19 => ?_)
  refine lv_bipush (v := (99)) hx hb dL_refuses_328 (by decide) ?_
  refine lv_goto (tgt := 347) hx hb dL_refuses_330 (by decide) ?_
  refine mcallX (rest := []) hw ⟨hx, hb, hml, hown, hts⟩ hS (x_X3_addRule_1 hl0 hC hwf 1 5 6 1 99 (by decide)) (vx_cwSW 6 hts gL_refuses_L_rule rfl rfl rfl (by decide +kernel) ⟨Nat.le_of_ble_eq_true rfl, Nat.le_of_ble_eq_true rfl⟩) rfl hl.1 rfl (Nat.le_of_ble_eq_true rfl) dL_refuses_347 ⟨Nat.le_of_ble_eq_true rfl, Nat.le_of_ble_eq_true rfl⟩ (fun H locs hw hS => ?_)
  refine lv_bipush (v := (-72)) hx hb dL_refuses_350 (by decide) ?_
  refine lv_icmp_ne (tgt := 537) hx hb dL_refuses_352 (by decide) (fun z => absurd ((by decide)) z) (fun c20 => ?_)
  refine lv_aload_n hx hb dL_refuses_355 rfl (lv_at hl 6 rfl) ?_
  refine lv_iconst (v := (1)) hx hb dL_refuses_356 (by decide) ?_
  refine lv_iload hx hb dL_refuses_357 (lv_at hl 3 rfl) ?_
  refine lv_iconst (v := (1)) hx hb dL_refuses_359 (by decide) ?_
  refine lv_iconst (v := (0)) hx hb dL_refuses_360 (by decide) ?_
  refine lv_iconst (v := (0)) hx hb dL_refuses_361 (by decide) ?_
  refine mcallX (rest := []) hw ⟨hx, hb, hml, hown, hts⟩ hS (x_X3_setRule hl0 hC hwf (-1) (inn_neg (by decide)) 0 0) (vx_cwSW 6 hts gL_refuses_L_act rfl rfl rfl (by decide +kernel) ⟨Nat.le_of_ble_eq_true rfl, Nat.le_of_ble_eq_true rfl⟩) rfl hl.1 rfl (Nat.le_of_ble_eq_true rfl) dL_refuses_362 ⟨Nat.le_of_ble_eq_true rfl, Nat.le_of_ble_eq_true rfl⟩ (fun H locs hw hS => ?_)
  refine lv_bipush (v := (-71)) hx hb dL_refuses_365 (by decide) ?_
  refine lv_icmp_ne (tgt := 537) hx hb dL_refuses_367 (by decide) (fun z => absurd ((by decide)) z) (fun c21 => ?_)
  refine lv_aload_n hx hb dL_refuses_370 rfl (lv_at hl 6 rfl) ?_
  refine lv_iconst (v := (2)) hx hb dL_refuses_371 (by decide) ?_
  refine lv_iload hx hb dL_refuses_372 (lv_at hl 0 rfl) ?_
  refine lv_iconst (v := (1)) hx hb dL_refuses_374 (by decide) ?_
  refine lv_iconst (v := (0)) hx hb dL_refuses_375 (by decide) ?_
  refine lv_iconst (v := (0)) hx hb dL_refuses_376 (by decide) ?_
  refine mcallX (rest := []) hw ⟨hx, hb, hml, hown, hts⟩ hS (x_X3_setHoliday hl0 hC hwf (-1) (by decide) 0 0) (vx_cwSW 6 hts gL_refuses_L_act rfl rfl rfl (by decide +kernel) ⟨Nat.le_of_ble_eq_true rfl, Nat.le_of_ble_eq_true rfl⟩) rfl hl.1 rfl (Nat.le_of_ble_eq_true rfl) dL_refuses_377 ⟨Nat.le_of_ble_eq_true rfl, Nat.le_of_ble_eq_true rfl⟩ (fun H locs hw hS => ?_)
  refine lv_bipush (v := (-72)) hx hb dL_refuses_380 (by decide) ?_
  refine lv_icmp_ne (tgt := 537) hx hb dL_refuses_382 (by decide) (fun z => absurd ((by decide)) z) (fun c22 => ?_)
  refine lv_aload_n hx hb dL_refuses_385 rfl (lv_at hl 6 rfl) ?_
  refine lv_iconst (v := (3)) hx hb dL_refuses_386 (by decide) ?_
  refine lv_iload hx hb dL_refuses_387 (lv_at hl 4 rfl) ?_
  refine lv_iconst (v := (0)) hx hb dL_refuses_389 (by decide) ?_
  refine lv_iconst (v := (0)) hx hb dL_refuses_390 (by decide) ?_
  refine lv_iconst (v := (0)) hx hb dL_refuses_391 (by decide) ?_
  refine mcallX (rest := []) hw ⟨hx, hb, hml, hown, hts⟩ hS (x_X3_addWorker_1 hl0 hC hwf (-1) (by decide) 0 0 0) (vx_cwSW 6 hts gL_refuses_L_act rfl rfl rfl (by decide +kernel) ⟨Nat.le_of_ble_eq_true rfl, Nat.le_of_ble_eq_true rfl⟩) rfl hl.1 rfl (Nat.le_of_ble_eq_true rfl) dL_refuses_392 ⟨Nat.le_of_ble_eq_true rfl, Nat.le_of_ble_eq_true rfl⟩ (fun H locs hw hS => ?_)
  refine lv_bipush (v := (-72)) hx hb dL_refuses_395 (by decide) ?_
  refine lv_icmp_ne (tgt := 537) hx hb dL_refuses_397 (by decide) (fun z => absurd ((by decide)) z) (fun c23 => ?_)
  refine lv_aload_n hx hb dL_refuses_400 rfl (lv_at hl 6 rfl) ?_
  refine lv_iconst (v := (4)) hx hb dL_refuses_401 (by decide) ?_
  refine lv_iload hx hb dL_refuses_402 (lv_at hl 2 rfl) ?_
  refine lv_iconst (v := (-1)) hx hb dL_refuses_404 (by decide) ?_
  refine lv_iconst (v := (0)) hx hb dL_refuses_405 (by decide) ?_
  refine lv_iconst (v := (0)) hx hb dL_refuses_406 (by decide) ?_
  refine mcallX (rest := []) hw ⟨hx, hb, hml, hown, hts⟩ hS (x_X3_setRank_1 hl0 hC hwf (-1) (-1) (inn_neg (by decide)) 0 0) (vx_cwSW 6 hts gL_refuses_L_act rfl rfl rfl (by decide +kernel) ⟨Nat.le_of_ble_eq_true rfl, Nat.le_of_ble_eq_true rfl⟩) rfl hl.1 rfl (Nat.le_of_ble_eq_true rfl) dL_refuses_407 ⟨Nat.le_of_ble_eq_true rfl, Nat.le_of_ble_eq_true rfl⟩ (fun H locs hw hS => ?_)
  refine lv_bipush (v := (-71)) hx hb dL_refuses_410 (by decide) ?_
  refine lv_icmp_ne (tgt := 537) hx hb dL_refuses_412 (by decide) (fun z => absurd ((by decide)) z) (fun c24 => ?_)
  refine lv_aload_n hx hb dL_refuses_415 rfl (lv_at hl 6 rfl) ?_
  refine lv_iconst (v := (4)) hx hb dL_refuses_416 (by decide) ?_
  refine lv_iconst (v := (0)) hx hb dL_refuses_417 (by decide) ?_
  refine lv_iload hx hb dL_refuses_418 (lv_at hl 4 rfl) ?_
  refine lv_iconst (v := (0)) hx hb dL_refuses_420 (by decide) ?_
  refine lv_iconst (v := (0)) hx hb dL_refuses_421 (by decide) ?_
  refine mcallX (rest := []) hw ⟨hx, hb, hml, hown, hts⟩ hS (x_X3_setRank_2 hl0 hC hwf 0 hnw (-1) (by decide) 0 0) (vx_cwSW 6 hts gL_refuses_L_act rfl rfl rfl (by decide +kernel) ⟨Nat.le_of_ble_eq_true rfl, Nat.le_of_ble_eq_true rfl⟩) rfl hl.1 rfl (Nat.le_of_ble_eq_true rfl) dL_refuses_422 ⟨Nat.le_of_ble_eq_true rfl, Nat.le_of_ble_eq_true rfl⟩ (fun H locs hw hS => ?_)
  refine lv_bipush (v := (-72)) hx hb dL_refuses_425 (by decide) ?_
  refine lv_icmp_ne (tgt := 537) hx hb dL_refuses_427 (by decide) (fun z => absurd ((by decide)) z) (fun c25 => ?_)
  refine lv_aload_n hx hb dL_refuses_430 rfl (lv_at hl 6 rfl) ?_
  refine lv_iconst (v := (5)) hx hb dL_refuses_431 (by decide) ?_
  refine lv_iload hx hb dL_refuses_432 (lv_at hl 2 rfl) ?_
  refine lv_iconst (v := (-1)) hx hb dL_refuses_434 (by decide) ?_
  refine lv_iconst (v := (0)) hx hb dL_refuses_435 (by decide) ?_
  refine lv_iconst (v := (0)) hx hb dL_refuses_436 (by decide) ?_
  refine mcallX (rest := []) hw ⟨hx, hb, hml, hown, hts⟩ hS (x_X3_addShift_1 hl0 hC hwf (-1) (-1) 0 0 (inn_neg (by decide))) (vx_cwSW 6 hts gL_refuses_L_act rfl rfl rfl (by decide +kernel) ⟨Nat.le_of_ble_eq_true rfl, Nat.le_of_ble_eq_true rfl⟩) rfl hl.1 rfl (Nat.le_of_ble_eq_true rfl) dL_refuses_437 ⟨Nat.le_of_ble_eq_true rfl, Nat.le_of_ble_eq_true rfl⟩ (fun H locs hw hS => ?_)
  refine lv_bipush (v := (-71)) hx hb dL_refuses_440 (by decide) ?_
  refine lv_icmp_ne (tgt := 537) hx hb dL_refuses_442 (by decide) (fun z => absurd ((by decide)) z) (fun c26 => ?_)
  refine lv_aload_n hx hb dL_refuses_445 rfl (lv_at hl 6 rfl) ?_
  refine lv_iconst (v := (5)) hx hb dL_refuses_446 (by decide) ?_
  refine lv_iconst (v := (0)) hx hb dL_refuses_447 (by decide) ?_
  refine lv_iload hx hb dL_refuses_448 (lv_at hl 13 rfl) ?_
  refine lv_iconst (v := (1)) hx hb dL_refuses_450 (by decide) ?_
  refine lv_icmp_ne (tgt := 460) hx hb dL_refuses_451 (by decide) (fun c27 => ?_) (fun z => absurd z ((by decide)))
  refine lv_iload hx hb dL_refuses_460 (lv_at hl 5 rfl) ?_
  refine lv_iconst (v := (5)) hx hb dL_refuses_462 (by decide) ?_
  refine lv_iconst (v := (5)) hx hb dL_refuses_463 (by decide) ?_
  refine mcallX (rest := []) hw ⟨hx, hb, hml, hown, hts⟩ hS (x_X3_addShift_2 hl0 hC hwf 0 hnw (-1) 5 5 (by decide)) (vx_cwSW 6 hts gL_refuses_L_act rfl rfl rfl (by decide +kernel) ⟨Nat.le_of_ble_eq_true rfl, Nat.le_of_ble_eq_true rfl⟩) rfl hl.1 rfl (Nat.le_of_ble_eq_true rfl) dL_refuses_464 ⟨Nat.le_of_ble_eq_true rfl, Nat.le_of_ble_eq_true rfl⟩ (fun H locs hw hS => ?_)
  refine lv_bipush (v := (-72)) hx hb dL_refuses_467 (by decide) ?_
  refine lv_icmp_ne (tgt := 537) hx hb dL_refuses_469 (by decide) (fun z => absurd ((by decide)) z) (fun c28 => ?_)
  refine lv_aload_n hx hb dL_refuses_472 rfl (lv_at hl 6 rfl) ?_
  refine lv_iconst (v := (5)) hx hb dL_refuses_473 (by decide) ?_
  refine lv_iconst (v := (0)) hx hb dL_refuses_474 (by decide) ?_
  refine lv_iconst (v := (5)) hx hb dL_refuses_475 (by decide) ?_
  refine lv_iload hx hb dL_refuses_476 (lv_at hl 13 rfl) ?_
  refine lv_iconst (v := (1)) hx hb dL_refuses_478 (by decide) ?_
  refine lv_icmp_ne (tgt := 487) hx hb dL_refuses_479 (by decide) (fun c29 => ?_) (fun z => absurd z ((by decide)))
  refine lv_iload hx hb dL_refuses_487 (lv_at hl 5 rfl) ?_
  refine lv_iconst (v := (5)) hx hb dL_refuses_489 (by decide) ?_
  refine mcallX (rest := []) hw ⟨hx, hb, hml, hown, hts⟩ hS (x_X3_addShift_2 hl0 hC hwf 0 hnw 5 (-1) 5 (by decide)) (vx_cwSW 6 hts gL_refuses_L_act rfl rfl rfl (by decide +kernel) ⟨Nat.le_of_ble_eq_true rfl, Nat.le_of_ble_eq_true rfl⟩) rfl hl.1 rfl (Nat.le_of_ble_eq_true rfl) dL_refuses_490 ⟨Nat.le_of_ble_eq_true rfl, Nat.le_of_ble_eq_true rfl⟩ (fun H locs hw hS => ?_)
  refine lv_bipush (v := (-72)) hx hb dL_refuses_493 (by decide) ?_
  refine lv_icmp_ne (tgt := 537) hx hb dL_refuses_495 (by decide) (fun z => absurd ((by decide)) z) (fun c30 => ?_)
  refine lv_aload_n hx hb dL_refuses_498 rfl (lv_at hl 6 rfl) ?_
  refine lv_iconst (v := (5)) hx hb dL_refuses_499 (by decide) ?_
  refine lv_iconst (v := (0)) hx hb dL_refuses_500 (by decide) ?_
  refine lv_iconst (v := (5)) hx hb dL_refuses_501 (by decide) ?_
  refine lv_iconst (v := (5)) hx hb dL_refuses_502 (by decide) ?_
  refine lv_iload hx hb dL_refuses_503 (lv_at hl 13 rfl) ?_
  refine lv_if_ne (tgt := 512) hx hb dL_refuses_505 (by decide) (fun z => absurd ((by decide)) z) (fun c31 => ?_)
  refine lv_iconst (v := (0)) hx hb dL_refuses_508 (by decide) ?_
  refine lv_goto (tgt := 525) hx hb dL_refuses_509 (by decide) ?_
  refine mcallX (rest := []) hw ⟨hx, hb, hml, hown, hts⟩ hS (x_X3_addShift_2 hl0 hC hwf 0 hnw 5 5 0 (by decide)) (vx_cwSW 6 hts gL_refuses_L_act rfl rfl rfl (by decide +kernel) ⟨Nat.le_of_ble_eq_true rfl, Nat.le_of_ble_eq_true rfl⟩) rfl hl.1 rfl (Nat.le_of_ble_eq_true rfl) dL_refuses_525 ⟨Nat.le_of_ble_eq_true rfl, Nat.le_of_ble_eq_true rfl⟩ (fun H locs hw hS => ?_)
  refine lv_bipush (v := (-72)) hx hb dL_refuses_528 (by decide) ?_
  refine lv_icmp_ne (tgt := 537) hx hb dL_refuses_530 (by decide) (fun z => absurd ((by decide)) z) (fun c32 => ?_)
  refine lv_iconst (v := (1)) hx hb dL_refuses_533 (by decide) ?_
  refine lv_goto (tgt := 538) hx hb dL_refuses_534 (by decide) ?_
  refine lv_istore (lv' := [(14, .int (1)), (13, .int ((-1))), (12, .int ((-1))), (11, .int ((-1))), (10, .int ((-1))), (9, .int ((-1))), (8, .int ((-1))), (0, .ref (α (0))), (1, .int (nI nr)), (2, .int (nI nw)), (3, .int (nI ns)), (4, .int (P)), (5, .int (Wk)), (6, .int (2147483647)), (7, .int (0))]) hx hb dL_refuses_538 hl (by decide) rfl (fun ls hl => ?_)
  refine lv_bipush (v := (6)) hx hb dL_refuses_540 (by decide) ?_
  refine lv_istore (lv' := [(15, .int (6)), (14, .int (1)), (13, .int ((-1))), (12, .int ((-1))), (11, .int ((-1))), (10, .int ((-1))), (9, .int ((-1))), (8, .int ((-1))), (0, .ref (α (0))), (1, .int (nI nr)), (2, .int (nI nw)), (3, .int (nI ns)), (4, .int (P)), (5, .int (Wk)), (6, .int (2147483647)), (7, .int (0))]) hx hb dL_refuses_542 hl (by decide) rfl (fun ls hl => ?_)
  refine lv_iload hx hb dL_refuses_544 (lv_at hl 0 rfl) ?_
  refine lv_bipush (v := (13)) hx hb dL_refuses_546 (by decide) ?_
  refine lv_icmp_ge (tgt := 585) hx hb dL_refuses_548 (by decide) (fun z => absurd z ((by decide))) (fun c33 => ?_)
  refine lv_iload hx hb dL_refuses_551 (lv_at hl 1 rfl) ?_
  refine lv_if_eq (tgt := 576) hx hb dL_refuses_553 (by decide) (fun z => absurd z ((by decide))) (fun c34 => ?_)
  refine lv_aload_n hx hb dL_refuses_556 rfl (lv_at hl 8 rfl) ?_
  refine lv_iload hx hb dL_refuses_557 (lv_at hl 0 rfl) ?_
  refine lv_iload hx hb dL_refuses_559 (lv_at hl 3 rfl) ?_
  refine lv_iconst (v := (-1)) hx hb dL_refuses_561 (by decide) ?_
  refine lv_iconst (v := (0)) hx hb dL_refuses_562 (by decide) ?_
  refine lv_iconst (v := (0)) hx hb dL_refuses_563 (by decide) ?_
  refine mcallX (rest := []) hw ⟨hx, hb, hml, hown, hts⟩ hS (x_X3_cancel_1 hl0 hC hwf (-1) (inn_neg (by decide)) (-1) 0 0) (vx_cwSW 6 hts gL_refuses_L_act rfl rfl rfl (by decide +kernel) ⟨Nat.le_of_ble_eq_true rfl, Nat.le_of_ble_eq_true rfl⟩) rfl hl.1 rfl (Nat.le_of_ble_eq_true rfl) dL_refuses_564 ⟨Nat.le_of_ble_eq_true rfl, Nat.le_of_ble_eq_true rfl⟩ (fun H locs hw hS => ?_)
  refine lv_bipush (v := (-71)) hx hb dL_refuses_567 (by decide) ?_
  refine lv_icmp_ne (tgt := 576) hx hb dL_refuses_569 (by decide) (fun z => absurd ((by decide)) z) (fun c35 => ?_)
  refine lv_iconst (v := (1)) hx hb dL_refuses_572 (by decide) ?_
  refine lv_goto (tgt := 577) hx hb dL_refuses_573 (by decide) ?_
  refine lv_istore (lv' := [(14, .int (1)), (15, .int (6)), (13, .int ((-1))), (12, .int ((-1))), (11, .int ((-1))), (10, .int ((-1))), (9, .int ((-1))), (8, .int ((-1))), (0, .ref (α (0))), (1, .int (nI nr)), (2, .int (nI nw)), (3, .int (nI ns)), (4, .int (P)), (5, .int (Wk)), (6, .int (2147483647)), (7, .int (0))]) hx hb dL_refuses_577 hl (by decide) rfl (fun ls hl => ?_)
  refine lv_iinc (v := 7) (lv' := [(15, .int (7)), (14, .int (1)), (13, .int ((-1))), (12, .int ((-1))), (11, .int ((-1))), (10, .int ((-1))), (9, .int ((-1))), (8, .int ((-1))), (0, .ref (α (0))), (1, .int (nI nr)), (2, .int (nI nw)), (3, .int (nI ns)), (4, .int (P)), (5, .int (Wk)), (6, .int (2147483647)), (7, .int (0))]) hx hb dL_refuses_579 hl (k := 1) rfl (by decide) (by decide) rfl (fun ls hl => ?_)
  refine lv_goto (tgt := 544) hx hb dL_refuses_582 (by decide) ?_
  refine lv_iload hx hb dL_refuses_544 (lv_at hl 0 rfl) ?_
  refine lv_bipush (v := (13)) hx hb dL_refuses_546 (by decide) ?_
  refine lv_icmp_ge (tgt := 585) hx hb dL_refuses_548 (by decide) (fun z => absurd z ((by decide))) (fun c36 => ?_)
  refine lv_iload hx hb dL_refuses_551 (lv_at hl 1 rfl) ?_
  refine lv_if_eq (tgt := 576) hx hb dL_refuses_553 (by decide) (fun z => absurd z ((by decide))) (fun c37 => ?_)
  refine lv_aload_n hx hb dL_refuses_556 rfl (lv_at hl 8 rfl) ?_
  refine lv_iload hx hb dL_refuses_557 (lv_at hl 0 rfl) ?_
  refine lv_iload hx hb dL_refuses_559 (lv_at hl 3 rfl) ?_
  refine lv_iconst (v := (-1)) hx hb dL_refuses_561 (by decide) ?_
  refine lv_iconst (v := (0)) hx hb dL_refuses_562 (by decide) ?_
  refine lv_iconst (v := (0)) hx hb dL_refuses_563 (by decide) ?_
  refine mcallX (rest := []) hw ⟨hx, hb, hml, hown, hts⟩ hS (x_X3_takeBreaks_1 hl0 hC hwf (-1) (inn_neg (by decide)) (-1) 0 0) (vx_cwSW 6 hts gL_refuses_L_act rfl rfl rfl (by decide +kernel) ⟨Nat.le_of_ble_eq_true rfl, Nat.le_of_ble_eq_true rfl⟩) rfl hl.1 rfl (Nat.le_of_ble_eq_true rfl) dL_refuses_564 ⟨Nat.le_of_ble_eq_true rfl, Nat.le_of_ble_eq_true rfl⟩ (fun H locs hw hS => ?_)
  refine lv_bipush (v := (-71)) hx hb dL_refuses_567 (by decide) ?_
  refine lv_icmp_ne (tgt := 576) hx hb dL_refuses_569 (by decide) (fun z => absurd ((by decide)) z) (fun c38 => ?_)
  refine lv_iconst (v := (1)) hx hb dL_refuses_572 (by decide) ?_
  refine lv_goto (tgt := 577) hx hb dL_refuses_573 (by decide) ?_
  refine lv_istore (lv' := [(14, .int (1)), (15, .int (7)), (13, .int ((-1))), (12, .int ((-1))), (11, .int ((-1))), (10, .int ((-1))), (9, .int ((-1))), (8, .int ((-1))), (0, .ref (α (0))), (1, .int (nI nr)), (2, .int (nI nw)), (3, .int (nI ns)), (4, .int (P)), (5, .int (Wk)), (6, .int (2147483647)), (7, .int (0))]) hx hb dL_refuses_577 hl (by decide) rfl (fun ls hl => ?_)
  refine lv_iinc (v := 8) (lv' := [(15, .int (8)), (14, .int (1)), (13, .int ((-1))), (12, .int ((-1))), (11, .int ((-1))), (10, .int ((-1))), (9, .int ((-1))), (8, .int ((-1))), (0, .ref (α (0))), (1, .int (nI nr)), (2, .int (nI nw)), (3, .int (nI ns)), (4, .int (P)), (5, .int (Wk)), (6, .int (2147483647)), (7, .int (0))]) hx hb dL_refuses_579 hl (k := 1) rfl (by decide) (by decide) rfl (fun ls hl => ?_)
  refine lv_goto (tgt := 544) hx hb dL_refuses_582 (by decide) ?_
  refine lv_iload hx hb dL_refuses_544 (lv_at hl 0 rfl) ?_
  refine lv_bipush (v := (13)) hx hb dL_refuses_546 (by decide) ?_
  refine lv_icmp_ge (tgt := 585) hx hb dL_refuses_548 (by decide) (fun z => absurd z ((by decide))) (fun c39 => ?_)
  refine lv_iload hx hb dL_refuses_551 (lv_at hl 1 rfl) ?_
  refine lv_if_eq (tgt := 576) hx hb dL_refuses_553 (by decide) (fun z => absurd z ((by decide))) (fun c40 => ?_)
  refine lv_aload_n hx hb dL_refuses_556 rfl (lv_at hl 8 rfl) ?_
  refine lv_iload hx hb dL_refuses_557 (lv_at hl 0 rfl) ?_
  refine lv_iload hx hb dL_refuses_559 (lv_at hl 3 rfl) ?_
  refine lv_iconst (v := (-1)) hx hb dL_refuses_561 (by decide) ?_
  refine lv_iconst (v := (0)) hx hb dL_refuses_562 (by decide) ?_
  refine lv_iconst (v := (0)) hx hb dL_refuses_563 (by decide) ?_
  refine mcallX (rest := []) hw ⟨hx, hb, hml, hown, hts⟩ hS (x_X3_paidQuarters_1 hl0 hC hwf (-1) (inn_neg (by decide)) (-1) 0 0) (vx_cwSW 6 hts gL_refuses_L_act rfl rfl rfl (by decide +kernel) ⟨Nat.le_of_ble_eq_true rfl, Nat.le_of_ble_eq_true rfl⟩) rfl hl.1 rfl (Nat.le_of_ble_eq_true rfl) dL_refuses_564 ⟨Nat.le_of_ble_eq_true rfl, Nat.le_of_ble_eq_true rfl⟩ (fun H locs hw hS => ?_)
  refine lv_bipush (v := (-71)) hx hb dL_refuses_567 (by decide) ?_
  refine lv_icmp_ne (tgt := 576) hx hb dL_refuses_569 (by decide) (fun z => absurd ((by decide)) z) (fun c41 => ?_)
  refine lv_iconst (v := (1)) hx hb dL_refuses_572 (by decide) ?_
  refine lv_goto (tgt := 577) hx hb dL_refuses_573 (by decide) ?_
  refine lv_istore (lv' := [(14, .int (1)), (15, .int (8)), (13, .int ((-1))), (12, .int ((-1))), (11, .int ((-1))), (10, .int ((-1))), (9, .int ((-1))), (8, .int ((-1))), (0, .ref (α (0))), (1, .int (nI nr)), (2, .int (nI nw)), (3, .int (nI ns)), (4, .int (P)), (5, .int (Wk)), (6, .int (2147483647)), (7, .int (0))]) hx hb dL_refuses_577 hl (by decide) rfl (fun ls hl => ?_)
  refine lv_iinc (v := 9) (lv' := [(15, .int (9)), (14, .int (1)), (13, .int ((-1))), (12, .int ((-1))), (11, .int ((-1))), (10, .int ((-1))), (9, .int ((-1))), (8, .int ((-1))), (0, .ref (α (0))), (1, .int (nI nr)), (2, .int (nI nw)), (3, .int (nI ns)), (4, .int (P)), (5, .int (Wk)), (6, .int (2147483647)), (7, .int (0))]) hx hb dL_refuses_579 hl (k := 1) rfl (by decide) (by decide) rfl (fun ls hl => ?_)
  refine lv_goto (tgt := 544) hx hb dL_refuses_582 (by decide) ?_
  refine lv_iload hx hb dL_refuses_544 (lv_at hl 0 rfl) ?_
  refine lv_bipush (v := (13)) hx hb dL_refuses_546 (by decide) ?_
  refine lv_icmp_ge (tgt := 585) hx hb dL_refuses_548 (by decide) (fun z => absurd z ((by decide))) (fun c42 => ?_)
  refine lv_iload hx hb dL_refuses_551 (lv_at hl 1 rfl) ?_
  refine lv_if_eq (tgt := 576) hx hb dL_refuses_553 (by decide) (fun z => absurd z ((by decide))) (fun c43 => ?_)
  refine lv_aload_n hx hb dL_refuses_556 rfl (lv_at hl 8 rfl) ?_
  refine lv_iload hx hb dL_refuses_557 (lv_at hl 0 rfl) ?_
  refine lv_iload hx hb dL_refuses_559 (lv_at hl 3 rfl) ?_
  refine lv_iconst (v := (-1)) hx hb dL_refuses_561 (by decide) ?_
  refine lv_iconst (v := (0)) hx hb dL_refuses_562 (by decide) ?_
  refine lv_iconst (v := (0)) hx hb dL_refuses_563 (by decide) ?_
  refine mcallX (rest := []) hw ⟨hx, hb, hml, hown, hts⟩ hS (x_X3_percentAt_1 hl0 hC hwf (-1) (inn_neg (by decide)) (-1) 0 0) (vx_cwSW 6 hts gL_refuses_L_act rfl rfl rfl (by decide +kernel) ⟨Nat.le_of_ble_eq_true rfl, Nat.le_of_ble_eq_true rfl⟩) rfl hl.1 rfl (Nat.le_of_ble_eq_true rfl) dL_refuses_564 ⟨Nat.le_of_ble_eq_true rfl, Nat.le_of_ble_eq_true rfl⟩ (fun H locs hw hS => ?_)
  refine lv_bipush (v := (-71)) hx hb dL_refuses_567 (by decide) ?_
  refine lv_icmp_ne (tgt := 576) hx hb dL_refuses_569 (by decide) (fun z => absurd ((by decide)) z) (fun c44 => ?_)
  refine lv_iconst (v := (1)) hx hb dL_refuses_572 (by decide) ?_
  refine lv_goto (tgt := 577) hx hb dL_refuses_573 (by decide) ?_
  refine lv_istore (lv' := [(14, .int (1)), (15, .int (9)), (13, .int ((-1))), (12, .int ((-1))), (11, .int ((-1))), (10, .int ((-1))), (9, .int ((-1))), (8, .int ((-1))), (0, .ref (α (0))), (1, .int (nI nr)), (2, .int (nI nw)), (3, .int (nI ns)), (4, .int (P)), (5, .int (Wk)), (6, .int (2147483647)), (7, .int (0))]) hx hb dL_refuses_577 hl (by decide) rfl (fun ls hl => ?_)
  refine lv_iinc (v := 10) (lv' := [(15, .int (10)), (14, .int (1)), (13, .int ((-1))), (12, .int ((-1))), (11, .int ((-1))), (10, .int ((-1))), (9, .int ((-1))), (8, .int ((-1))), (0, .ref (α (0))), (1, .int (nI nr)), (2, .int (nI nw)), (3, .int (nI ns)), (4, .int (P)), (5, .int (Wk)), (6, .int (2147483647)), (7, .int (0))]) hx hb dL_refuses_579 hl (k := 1) rfl (by decide) (by decide) rfl (fun ls hl => ?_)
  refine lv_goto (tgt := 544) hx hb dL_refuses_582 (by decide) ?_
  refine lv_iload hx hb dL_refuses_544 (lv_at hl 0 rfl) ?_
  refine lv_bipush (v := (13)) hx hb dL_refuses_546 (by decide) ?_
  refine lv_icmp_ge (tgt := 585) hx hb dL_refuses_548 (by decide) (fun z => absurd z ((by decide))) (fun c45 => ?_)
  refine lv_iload hx hb dL_refuses_551 (lv_at hl 1 rfl) ?_
  refine lv_if_eq (tgt := 576) hx hb dL_refuses_553 (by decide) (fun z => absurd z ((by decide))) (fun c46 => ?_)
  refine lv_aload_n hx hb dL_refuses_556 rfl (lv_at hl 8 rfl) ?_
  refine lv_iload hx hb dL_refuses_557 (lv_at hl 0 rfl) ?_
  refine lv_iload hx hb dL_refuses_559 (lv_at hl 3 rfl) ?_
  refine lv_iconst (v := (-1)) hx hb dL_refuses_561 (by decide) ?_
  refine lv_iconst (v := (0)) hx hb dL_refuses_562 (by decide) ?_
  refine lv_iconst (v := (0)) hx hb dL_refuses_563 (by decide) ?_
  refine mcallX (rest := []) hw ⟨hx, hb, hml, hown, hts⟩ hS (x_X3_reasonAt_1 hl0 hC hwf (-1) (inn_neg (by decide)) (-1) 0 0) (vx_cwSW 6 hts gL_refuses_L_act rfl rfl rfl (by decide +kernel) ⟨Nat.le_of_ble_eq_true rfl, Nat.le_of_ble_eq_true rfl⟩) rfl hl.1 rfl (Nat.le_of_ble_eq_true rfl) dL_refuses_564 ⟨Nat.le_of_ble_eq_true rfl, Nat.le_of_ble_eq_true rfl⟩ (fun H locs hw hS => ?_)
  refine lv_bipush (v := (-71)) hx hb dL_refuses_567 (by decide) ?_
  refine lv_icmp_ne (tgt := 576) hx hb dL_refuses_569 (by decide) (fun z => absurd ((by decide)) z) (fun c47 => ?_)
  refine lv_iconst (v := (1)) hx hb dL_refuses_572 (by decide) ?_
  refine lv_goto (tgt := 577) hx hb dL_refuses_573 (by decide) ?_
  refine lv_istore (lv' := [(14, .int (1)), (15, .int (10)), (13, .int ((-1))), (12, .int ((-1))), (11, .int ((-1))), (10, .int ((-1))), (9, .int ((-1))), (8, .int ((-1))), (0, .ref (α (0))), (1, .int (nI nr)), (2, .int (nI nw)), (3, .int (nI ns)), (4, .int (P)), (5, .int (Wk)), (6, .int (2147483647)), (7, .int (0))]) hx hb dL_refuses_577 hl (by decide) rfl (fun ls hl => ?_)
  refine lv_iinc (v := 11) (lv' := [(15, .int (11)), (14, .int (1)), (13, .int ((-1))), (12, .int ((-1))), (11, .int ((-1))), (10, .int ((-1))), (9, .int ((-1))), (8, .int ((-1))), (0, .ref (α (0))), (1, .int (nI nr)), (2, .int (nI nw)), (3, .int (nI ns)), (4, .int (P)), (5, .int (Wk)), (6, .int (2147483647)), (7, .int (0))]) hx hb dL_refuses_579 hl (k := 1) rfl (by decide) (by decide) rfl (fun ls hl => ?_)
  refine lv_goto (tgt := 544) hx hb dL_refuses_582 (by decide) ?_
  refine lv_iload hx hb dL_refuses_544 (lv_at hl 0 rfl) ?_
  refine lv_bipush (v := (13)) hx hb dL_refuses_546 (by decide) ?_
  refine lv_icmp_ge (tgt := 585) hx hb dL_refuses_548 (by decide) (fun z => absurd z ((by decide))) (fun c48 => ?_)
  refine lv_iload hx hb dL_refuses_551 (lv_at hl 1 rfl) ?_
  refine lv_if_eq (tgt := 576) hx hb dL_refuses_553 (by decide) (fun z => absurd z ((by decide))) (fun c49 => ?_)
  refine lv_aload_n hx hb dL_refuses_556 rfl (lv_at hl 8 rfl) ?_
  refine lv_iload hx hb dL_refuses_557 (lv_at hl 0 rfl) ?_
  refine lv_iload hx hb dL_refuses_559 (lv_at hl 3 rfl) ?_
  refine lv_iconst (v := (-1)) hx hb dL_refuses_561 (by decide) ?_
  refine lv_iconst (v := (0)) hx hb dL_refuses_562 (by decide) ?_
  refine lv_iconst (v := (0)) hx hb dL_refuses_563 (by decide) ?_
  refine mcallX (rest := []) hw ⟨hx, hb, hml, hown, hts⟩ hS (x_X3_missed_1 hl0 hC hwf (-1) (inn_neg (by decide)) (-1) 0 0) (vx_cwSW 6 hts gL_refuses_L_act rfl rfl rfl (by decide +kernel) ⟨Nat.le_of_ble_eq_true rfl, Nat.le_of_ble_eq_true rfl⟩) rfl hl.1 rfl (Nat.le_of_ble_eq_true rfl) dL_refuses_564 ⟨Nat.le_of_ble_eq_true rfl, Nat.le_of_ble_eq_true rfl⟩ (fun H locs hw hS => ?_)
  refine lv_bipush (v := (-71)) hx hb dL_refuses_567 (by decide) ?_
  refine lv_icmp_ne (tgt := 576) hx hb dL_refuses_569 (by decide) (fun z => absurd ((by decide)) z) (fun c50 => ?_)
  refine lv_iconst (v := (1)) hx hb dL_refuses_572 (by decide) ?_
  refine lv_goto (tgt := 577) hx hb dL_refuses_573 (by decide) ?_
  refine lv_istore (lv' := [(14, .int (1)), (15, .int (11)), (13, .int ((-1))), (12, .int ((-1))), (11, .int ((-1))), (10, .int ((-1))), (9, .int ((-1))), (8, .int ((-1))), (0, .ref (α (0))), (1, .int (nI nr)), (2, .int (nI nw)), (3, .int (nI ns)), (4, .int (P)), (5, .int (Wk)), (6, .int (2147483647)), (7, .int (0))]) hx hb dL_refuses_577 hl (by decide) rfl (fun ls hl => ?_)
  refine lv_iinc (v := 12) (lv' := [(15, .int (12)), (14, .int (1)), (13, .int ((-1))), (12, .int ((-1))), (11, .int ((-1))), (10, .int ((-1))), (9, .int ((-1))), (8, .int ((-1))), (0, .ref (α (0))), (1, .int (nI nr)), (2, .int (nI nw)), (3, .int (nI ns)), (4, .int (P)), (5, .int (Wk)), (6, .int (2147483647)), (7, .int (0))]) hx hb dL_refuses_579 hl (k := 1) rfl (by decide) (by decide) rfl (fun ls hl => ?_)
  refine lv_goto (tgt := 544) hx hb dL_refuses_582 (by decide) ?_
  refine lv_iload hx hb dL_refuses_544 (lv_at hl 0 rfl) ?_
  refine lv_bipush (v := (13)) hx hb dL_refuses_546 (by decide) ?_
  refine lv_icmp_ge (tgt := 585) hx hb dL_refuses_548 (by decide) (fun z => absurd z ((by decide))) (fun c51 => ?_)
  refine lv_iload hx hb dL_refuses_551 (lv_at hl 1 rfl) ?_
  refine lv_if_eq (tgt := 576) hx hb dL_refuses_553 (by decide) (fun z => absurd z ((by decide))) (fun c52 => ?_)
  refine lv_aload_n hx hb dL_refuses_556 rfl (lv_at hl 8 rfl) ?_
  refine lv_iload hx hb dL_refuses_557 (lv_at hl 0 rfl) ?_
  refine lv_iload hx hb dL_refuses_559 (lv_at hl 3 rfl) ?_
  refine lv_iconst (v := (-1)) hx hb dL_refuses_561 (by decide) ?_
  refine lv_iconst (v := (0)) hx hb dL_refuses_562 (by decide) ?_
  refine lv_iconst (v := (0)) hx hb dL_refuses_563 (by decide) ?_
  refine mcallX (rest := []) hw ⟨hx, hb, hml, hown, hts⟩ hS (x_X3_pay_1 hl0 hC hwf (-1) (inn_neg (by decide)) (-1) 0 0) (vx_cwSW 6 hts gL_refuses_L_act rfl rfl rfl (by decide +kernel) ⟨Nat.le_of_ble_eq_true rfl, Nat.le_of_ble_eq_true rfl⟩) rfl hl.1 rfl (Nat.le_of_ble_eq_true rfl) dL_refuses_564 ⟨Nat.le_of_ble_eq_true rfl, Nat.le_of_ble_eq_true rfl⟩ (fun H locs hw hS => ?_)
  refine lv_bipush (v := (-71)) hx hb dL_refuses_567 (by decide) ?_
  refine lv_icmp_ne (tgt := 576) hx hb dL_refuses_569 (by decide) (fun z => absurd ((by decide)) z) (fun c53 => ?_)
  refine lv_iconst (v := (1)) hx hb dL_refuses_572 (by decide) ?_
  refine lv_goto (tgt := 577) hx hb dL_refuses_573 (by decide) ?_
  refine lv_istore (lv' := [(14, .int (1)), (15, .int (12)), (13, .int ((-1))), (12, .int ((-1))), (11, .int ((-1))), (10, .int ((-1))), (9, .int ((-1))), (8, .int ((-1))), (0, .ref (α (0))), (1, .int (nI nr)), (2, .int (nI nw)), (3, .int (nI ns)), (4, .int (P)), (5, .int (Wk)), (6, .int (2147483647)), (7, .int (0))]) hx hb dL_refuses_577 hl (by decide) rfl (fun ls hl => ?_)
  refine lv_iinc (v := 13) (lv' := [(15, .int (13)), (14, .int (1)), (13, .int ((-1))), (12, .int ((-1))), (11, .int ((-1))), (10, .int ((-1))), (9, .int ((-1))), (8, .int ((-1))), (0, .ref (α (0))), (1, .int (nI nr)), (2, .int (nI nw)), (3, .int (nI ns)), (4, .int (P)), (5, .int (Wk)), (6, .int (2147483647)), (7, .int (0))]) hx hb dL_refuses_579 hl (k := 1) rfl (by decide) (by decide) rfl (fun ls hl => ?_)
  refine lv_goto (tgt := 544) hx hb dL_refuses_582 (by decide) ?_
  refine lv_iload hx hb dL_refuses_544 (lv_at hl 0 rfl) ?_
  refine lv_bipush (v := (13)) hx hb dL_refuses_546 (by decide) ?_
  refine lv_icmp_ge (tgt := 585) hx hb dL_refuses_548 (by decide) (fun c54 => ?_) (fun z => absurd ((by decide)) z)
  refine lv_iload hx hb dL_refuses_585 (lv_at hl 1 rfl) ?_
  refine lv_if_eq (tgt := 840) hx hb dL_refuses_587 (by decide) (fun z => absurd z ((by decide))) (fun c55 => ?_)
  refine lv_iload_n hx hb dL_refuses_590 rfl (lv_at hl 11 rfl) ?_
  refine lv_if_eq (tgt := 675) hx hb dL_refuses_591 (by decide) (fun c56 => ?_) (fun z => absurd ((by rw [hns]; rfl)) z)
  refine lv_aload_n hx hb dL_refuses_675 rfl (lv_at hl 8 rfl) ?_
  refine lv_bipush (v := (13)) hx hb dL_refuses_676 (by decide) ?_
  refine lv_iload hx hb dL_refuses_678 (lv_at hl 4 rfl) ?_
  refine lv_iconst (v := (-1)) hx hb dL_refuses_680 (by decide) ?_
  refine lv_iconst (v := (0)) hx hb dL_refuses_681 (by decide) ?_
  refine lv_iconst (v := (0)) hx hb dL_refuses_682 (by decide) ?_
  refine mcallX (rest := []) hw ⟨hx, hb, hml, hown, hts⟩ hS (x_X3_payOf_1 hl0 hC hwf (-1) (-1) 0 (inn_neg (by decide)) 0) (vx_cwSW 6 hts gL_refuses_L_act rfl rfl rfl (by decide +kernel) ⟨Nat.le_of_ble_eq_true rfl, Nat.le_of_ble_eq_true rfl⟩) rfl hl.1 rfl (Nat.le_of_ble_eq_true rfl) dL_refuses_683 ⟨Nat.le_of_ble_eq_true rfl, Nat.le_of_ble_eq_true rfl⟩ (fun H locs hw hS => ?_)
  refine lv_bipush (v := (-71)) hx hb dL_refuses_686 (by decide) ?_
  refine lv_icmp_ne (tgt := 840) hx hb dL_refuses_688 (by decide) (fun z => absurd ((by decide)) z) (fun c57 => ?_)
  refine lv_aload_n hx hb dL_refuses_691 rfl (lv_at hl 8 rfl) ?_
  refine lv_bipush (v := (13)) hx hb dL_refuses_692 (by decide) ?_
  refine lv_iconst (v := (0)) hx hb dL_refuses_694 (by decide) ?_
  refine lv_iload hx hb dL_refuses_695 (lv_at hl 2 rfl) ?_
  refine lv_sipush (v := (363)) hx hb dL_refuses_697 (by decide) ?_
  refine lv_iconst (v := (0)) hx hb dL_refuses_700 (by decide) ?_
  refine mcallX (rest := []) hw ⟨hx, hb, hml, hown, hts⟩ hS (x_X3_payOf_2 hl0 hC hwf 0 hnw (-1) 363 (by decide) 0) (vx_cwSW 6 hts gL_refuses_L_act rfl rfl rfl (by decide +kernel) ⟨Nat.le_of_ble_eq_true rfl, Nat.le_of_ble_eq_true rfl⟩) rfl hl.1 rfl (Nat.le_of_ble_eq_true rfl) dL_refuses_701 ⟨Nat.le_of_ble_eq_true rfl, Nat.le_of_ble_eq_true rfl⟩ (fun H locs hw hS => ?_)
  refine lv_bipush (v := (-72)) hx hb dL_refuses_704 (by decide) ?_
  refine lv_icmp_ne (tgt := 840) hx hb dL_refuses_706 (by decide) (fun z => absurd ((by decide)) z) (fun c58 => ?_)
  refine lv_aload_n hx hb dL_refuses_709 rfl (lv_at hl 8 rfl) ?_
  refine lv_bipush (v := (13)) hx hb dL_refuses_710 (by decide) ?_
  refine lv_iconst (v := (0)) hx hb dL_refuses_712 (by decide) ?_
  refine lv_iconst (v := (5)) hx hb dL_refuses_713 (by decide) ?_
  refine lv_iload hx hb dL_refuses_714 (lv_at hl 15 rfl) ?_
  refine lv_if_ne (tgt := 723) hx hb dL_refuses_716 (by decide) (fun z => absurd ((by decide)) z) (fun c59 => ?_)
  refine lv_iconst (v := (4)) hx hb dL_refuses_719 (by decide) ?_
  refine lv_goto (tgt := 725) hx hb dL_refuses_720 (by decide) ?_
  refine lv_iconst (v := (0)) hx hb dL_refuses_725 (by decide) ?_
  refine mcallX (rest := []) hw ⟨hx, hb, hml, hown, hts⟩ hS (x_X3_payOf_2 hl0 hC hwf 0 hnw 5 4 (by decide) 0) (vx_cwSW 6 hts gL_refuses_L_act rfl rfl rfl (by decide +kernel) ⟨Nat.le_of_ble_eq_true rfl, Nat.le_of_ble_eq_true rfl⟩) rfl hl.1 rfl (Nat.le_of_ble_eq_true rfl) dL_refuses_726 ⟨Nat.le_of_ble_eq_true rfl, Nat.le_of_ble_eq_true rfl⟩ (fun H locs hw hS => ?_)
  refine lv_bipush (v := (-72)) hx hb dL_refuses_729 (by decide) ?_
  refine lv_icmp_ne (tgt := 840) hx hb dL_refuses_731 (by decide) (fun z => absurd ((by decide)) z) (fun c60 => ?_)
  refine lv_aload_n hx hb dL_refuses_734 rfl (lv_at hl 8 rfl) ?_
  refine lv_bipush (v := (14)) hx hb dL_refuses_735 (by decide) ?_
  refine lv_iload hx hb dL_refuses_737 (lv_at hl 5 rfl) ?_
  refine lv_iconst (v := (0)) hx hb dL_refuses_739 (by decide) ?_
  refine lv_iconst (v := (0)) hx hb dL_refuses_740 (by decide) ?_
  refine lv_iconst (v := (0)) hx hb dL_refuses_741 (by decide) ?_
  refine mcallX (rest := []) hw ⟨hx, hb, hml, hown, hts⟩ hS (x_X3_paidBy_1 hl0 hC hwf (-1) (inn_neg (by decide)) 0 0 0) (vx_cwSW 6 hts gL_refuses_L_act rfl rfl rfl (by decide +kernel) ⟨Nat.le_of_ble_eq_true rfl, Nat.le_of_ble_eq_true rfl⟩) rfl hl.1 rfl (Nat.le_of_ble_eq_true rfl) dL_refuses_742 ⟨Nat.le_of_ble_eq_true rfl, Nat.le_of_ble_eq_true rfl⟩ (fun H locs hw hS => ?_)
  refine lv_bipush (v := (-71)) hx hb dL_refuses_745 (by decide) ?_
  refine lv_icmp_ne (tgt := 840) hx hb dL_refuses_747 (by decide) (fun z => absurd ((by decide)) z) (fun c61 => ?_)
  refine lv_aload_n hx hb dL_refuses_750 rfl (lv_at hl 8 rfl) ?_
  refine lv_bipush (v := (15)) hx hb dL_refuses_751 (by decide) ?_
  refine lv_iload hx hb dL_refuses_753 (lv_at hl 4 rfl) ?_
  refine lv_iconst (v := (-1)) hx hb dL_refuses_755 (by decide) ?_
  refine lv_iconst (v := (0)) hx hb dL_refuses_756 (by decide) ?_
  refine lv_iconst (v := (0)) hx hb dL_refuses_757 (by decide) ?_
  refine mcallX (rest := []) hw ⟨hx, hb, hml, hown, hts⟩ hS (x_X3_worked_1 hl0 hC hwf (-1) (-1) (inn_neg (by decide)) 0 0) (vx_cwSW 6 hts gL_refuses_L_act rfl rfl rfl (by decide +kernel) ⟨Nat.le_of_ble_eq_true rfl, Nat.le_of_ble_eq_true rfl⟩) rfl hl.1 rfl (Nat.le_of_ble_eq_true rfl) dL_refuses_758 ⟨Nat.le_of_ble_eq_true rfl, Nat.le_of_ble_eq_true rfl⟩ (fun H locs hw hS => ?_)
  refine lv_bipush (v := (-71)) hx hb dL_refuses_761 (by decide) ?_
  refine lv_icmp_ne (tgt := 840) hx hb dL_refuses_763 (by decide) (fun z => absurd ((by decide)) z) (fun c62 => ?_)
  refine lv_aload_n hx hb dL_refuses_766 rfl (lv_at hl 8 rfl) ?_
  refine lv_bipush (v := (15)) hx hb dL_refuses_767 (by decide) ?_
  refine lv_iconst (v := (0)) hx hb dL_refuses_769 (by decide) ?_
  refine lv_iload hx hb dL_refuses_770 (lv_at hl 15 rfl) ?_
  refine lv_iconst (v := (1)) hx hb dL_refuses_772 (by decide) ?_
  refine lv_icmp_ne (tgt := 781) hx hb dL_refuses_773 (by decide) (fun c63 => ?_) (fun z => absurd z ((by decide)))
  refine lv_iload hx hb dL_refuses_781 (lv_at hl 7 rfl) ?_
  refine lv_iconst (v := (0)) hx hb dL_refuses_783 (by decide) ?_
  refine lv_iconst (v := (0)) hx hb dL_refuses_784 (by decide) ?_
  refine mcallX (rest := []) hw ⟨hx, hb, hml, hown, hts⟩ hS (x_X3_worked_2 hl0 hC hwf 0 hnw (-1) (by decide) 0 0) (vx_cwSW 6 hts gL_refuses_L_act rfl rfl rfl (by decide +kernel) ⟨Nat.le_of_ble_eq_true rfl, Nat.le_of_ble_eq_true rfl⟩) rfl hl.1 rfl (Nat.le_of_ble_eq_true rfl) dL_refuses_785 ⟨Nat.le_of_ble_eq_true rfl, Nat.le_of_ble_eq_true rfl⟩ (fun H locs hw hS => ?_)
  refine lv_bipush (v := (-72)) hx hb dL_refuses_788 (by decide) ?_
  refine lv_icmp_ne (tgt := 840) hx hb dL_refuses_790 (by decide) (fun z => absurd ((by decide)) z) (fun c64 => ?_)
  refine lv_aload_n hx hb dL_refuses_793 rfl (lv_at hl 8 rfl) ?_
  refine lv_bipush (v := (16)) hx hb dL_refuses_794 (by decide) ?_
  refine lv_iload hx hb dL_refuses_796 (lv_at hl 4 rfl) ?_
  refine lv_iconst (v := (-1)) hx hb dL_refuses_798 (by decide) ?_
  refine lv_iconst (v := (0)) hx hb dL_refuses_799 (by decide) ?_
  refine lv_iconst (v := (0)) hx hb dL_refuses_800 (by decide) ?_
  refine mcallX (rest := []) hw ⟨hx, hb, hml, hown, hts⟩ hS (x_X3_excess_1 hl0 hC hwf (-1) (-1) (inn_neg (by decide)) 0 0) (vx_cwSW 6 hts gL_refuses_L_act rfl rfl rfl (by decide +kernel) ⟨Nat.le_of_ble_eq_true rfl, Nat.le_of_ble_eq_true rfl⟩) rfl hl.1 rfl (Nat.le_of_ble_eq_true rfl) dL_refuses_801 ⟨Nat.le_of_ble_eq_true rfl, Nat.le_of_ble_eq_true rfl⟩ (fun H locs hw hS => ?_)
  refine lv_bipush (v := (-71)) hx hb dL_refuses_804 (by decide) ?_
  refine lv_icmp_ne (tgt := 840) hx hb dL_refuses_806 (by decide) (fun z => absurd ((by decide)) z) (fun c65 => ?_)
  refine lv_aload_n hx hb dL_refuses_809 rfl (lv_at hl 8 rfl) ?_
  refine lv_bipush (v := (16)) hx hb dL_refuses_810 (by decide) ?_
  refine lv_iconst (v := (0)) hx hb dL_refuses_812 (by decide) ?_
  refine lv_iload hx hb dL_refuses_813 (lv_at hl 15 rfl) ?_
  refine lv_iconst (v := (1)) hx hb dL_refuses_815 (by decide) ?_
  refine lv_icmp_ne (tgt := 824) hx hb dL_refuses_816 (by decide) (fun c66 => ?_) (fun z => absurd z ((by decide)))
  refine lv_iload hx hb dL_refuses_824 (lv_at hl 7 rfl) ?_
  refine lv_iconst (v := (0)) hx hb dL_refuses_826 (by decide) ?_
  refine lv_iconst (v := (0)) hx hb dL_refuses_827 (by decide) ?_
  refine mcallX (rest := []) hw ⟨hx, hb, hml, hown, hts⟩ hS (x_X3_excess_2 hl0 hC hwf 0 hnw (-1) (by decide) 0 0) (vx_cwSW 6 hts gL_refuses_L_act rfl rfl rfl (by decide +kernel) ⟨Nat.le_of_ble_eq_true rfl, Nat.le_of_ble_eq_true rfl⟩) rfl hl.1 rfl (Nat.le_of_ble_eq_true rfl) dL_refuses_828 ⟨Nat.le_of_ble_eq_true rfl, Nat.le_of_ble_eq_true rfl⟩ (fun H locs hw hS => ?_)
  refine lv_bipush (v := (-72)) hx hb dL_refuses_831 (by decide) ?_
  refine lv_icmp_ne (tgt := 840) hx hb dL_refuses_833 (by decide) (fun z => absurd ((by decide)) z) (fun c67 => ?_)
  refine lv_iconst (v := (1)) hx hb dL_refuses_836 (by decide) ?_
  refine lv_goto (tgt := 841) hx hb dL_refuses_837 (by decide) ?_
  refine lv_istore (lv' := [(14, .int (1)), (15, .int (13)), (13, .int ((-1))), (12, .int ((-1))), (11, .int ((-1))), (10, .int ((-1))), (9, .int ((-1))), (8, .int ((-1))), (0, .ref (α (0))), (1, .int (nI nr)), (2, .int (nI nw)), (3, .int (nI ns)), (4, .int (P)), (5, .int (Wk)), (6, .int (2147483647)), (7, .int (0))]) hx hb dL_refuses_841 hl (by decide) rfl (fun ls hl => ?_)
  refine lv_iload hx hb dL_refuses_843 (lv_at hl 0 rfl) ?_
  refine lv_if_ne (tgt := 850) hx hb dL_refuses_845 (by decide) (fun c68 => ?_) (fun z => absurd z ((by decide)))
  refine lv_iinc (v := 1) (lv' := [(7, .int (1)), (14, .int (1)), (15, .int (13)), (13, .int ((-1))), (12, .int ((-1))), (11, .int ((-1))), (10, .int ((-1))), (9, .int ((-1))), (8, .int ((-1))), (0, .ref (α (0))), (1, .int (nI nr)), (2, .int (nI nw)), (3, .int (nI ns)), (4, .int (P)), (5, .int (Wk)), (6, .int (2147483647))]) hx hb dL_refuses_850 hl (k := 15) rfl (by decide) (by decide) rfl (fun ls hl => ?_)
  refine lv_goto (tgt := 31) hx hb dL_refuses_853 (by decide) ?_
  exact kk H locs (lv_sub hl [9, 10, 11, 12, 13, 14, 15, 0] rfl) hw hS

set_option maxHeartbeats 40000000 in
set_option maxRecDepth 100000 in
theorem rfA_1 {p : Program} {l : Launch} {e : Env} {s : State} {m : MethodId} {args : Array Value} {below : List Frame} {meth : Method} {c : Code} {Q : State → Prop} {G : mG} {V : mV} {α : Nat → Nat} (hl0 : l.stackTraces = false) (hx : p.tables.exec = Jvm.exec) (hb : c.code = cL_refuses) (hml : c.maxLocals = 16) (hown : s.vm.findClass RL = some m.cls) (hts : ∀ w ∈ wsL_refuses, w.before args s = true) {f : sT} {nr nw ns : Nat} (hC : mC G V α f nr nw ns) (hwf : mwf f nr nw ns) (hnw : 0 < nw) (hns : ns = 0) {P Wk : Int32}
    (kk : ∀ (H : Heap) (locs : List Loc) {ls : Array Slot} (hl : lv_has ls 16 [(0, .ref (α (0))), (1, .int (nI nr)), (2, .int (nI nw)), (3, .int (nI ns)), (4, .int (P)), (5, .int (Wk)), (6, .int (2147483647)), (7, .int (2))]) (hw : mW G V α s H) (hS : va_S (mfree G) s.heap H locs), W p l e ({ frames := 9, cells := 124, slots := 744, locals := 172 } : Room) s m args below meth c H locs 62 372 Q (F0 m 31 ls []))
    (H : Heap) (locs : List Loc) {ls : Array Slot} (hl : lv_has ls 16 [(0, .ref (α (0))), (1, .int (nI nr)), (2, .int (nI nw)), (3, .int (nI ns)), (4, .int (P)), (5, .int (Wk)), (6, .int (2147483647)), (7, .int (1))]) (hw : mW G V α s H) (hS : va_S (mfree G) s.heap H locs) : W p l e ({ frames := 9, cells := 124, slots := 744, locals := 172 } : Room) s m args below meth c H locs 31 186 Q (F0 m 31 ls []) := by
  have hl16 := hwf.1.1
  have hl12 := hwf.1.2.1
  have hl80 := hwf.1.2.2
  refine lv_iload hx hb dL_refuses_31 (lv_at hl 7 rfl) ?_
  refine lv_iconst (v := (4)) hx hb dL_refuses_33 (by decide) ?_
  refine lv_icmp_ge (tgt := 856) hx hb dL_refuses_34 (by decide) (fun z => absurd z ((by decide))) (fun c1 => ?_)
  refine lv_iload hx hb dL_refuses_37 (lv_at hl 7 rfl) ?_
  refine lv_if_ne (tgt := 46) hx hb dL_refuses_39 (by decide) (fun c2 => ?_) (fun z => absurd z ((by decide)))
  refine lv_iload hx hb dL_refuses_46 (lv_at hl 7 rfl) ?_
  refine lv_iconst (v := (2)) hx hb dL_refuses_48 (by decide) ?_
  refine lv_icmp_ne (tgt := 57) hx hb dL_refuses_49 (by decide) (fun c3 => ?_) (fun z => absurd z ((by decide)))
  refine lv_iload hx hb dL_refuses_57 (lv_at hl 6 rfl) ?_
  refine lv_ineg hx hb dL_refuses_59 ?_
  refine lv_iconst (v := (1)) hx hb dL_refuses_60 (by decide) ?_
  refine lv_isub hx hb dL_refuses_61 ?_
  refine lv_topi (fun y4 ey4 => ?_)
  obtain rfl : y4 = (-2147483648) := ey4.trans (by decide)
  refine lv_istore (lv' := [(8, .int ((-2147483648))), (0, .ref (α (0))), (1, .int (nI nr)), (2, .int (nI nw)), (3, .int (nI ns)), (4, .int (P)), (5, .int (Wk)), (6, .int (2147483647)), (7, .int (1))]) hx hb dL_refuses_62 hl (by decide) rfl (fun ls hl => ?_)
  refine lv_iload hx hb dL_refuses_64 (lv_at hl 8 rfl) ?_
  refine lv_iconst (v := (1)) hx hb dL_refuses_66 (by decide) ?_
  refine lv_icmp_ne (tgt := 74) hx hb dL_refuses_67 (by decide) (fun z => absurd ((by decide)) z) (fun c5 => ?_)
  refine lv_iconst (v := (4)) hx hb dL_refuses_70 (by decide) ?_
  refine lv_goto (tgt := 76) hx hb dL_refuses_71 (by decide) ?_
  refine lv_istore (lv' := [(9, .int (4)), (8, .int ((-2147483648))), (0, .ref (α (0))), (1, .int (nI nr)), (2, .int (nI nw)), (3, .int (nI ns)), (4, .int (P)), (5, .int (Wk)), (6, .int (2147483647)), (7, .int (1))]) hx hb dL_refuses_76 hl (by decide) rfl (fun ls hl => ?_)
  refine lv_iload hx hb dL_refuses_78 (lv_at hl 9 rfl) ?_
  refine lv_iconst (v := (1)) hx hb dL_refuses_80 (by decide) ?_
  refine lv_icmp_ne (tgt := 88) hx hb dL_refuses_81 (by decide) (fun z => absurd ((by decide)) z) (fun c6 => ?_)
  refine lv_iload_n hx hb dL_refuses_84 rfl (lv_at hl 3 rfl) ?_
  refine lv_goto (tgt := 90) hx hb dL_refuses_85 (by decide) ?_
  refine lv_istore (lv' := [(10, .int (nI nr)), (9, .int (4)), (8, .int ((-2147483648))), (0, .ref (α (0))), (1, .int (nI nr)), (2, .int (nI nw)), (3, .int (nI ns)), (4, .int (P)), (5, .int (Wk)), (6, .int (2147483647)), (7, .int (1))]) hx hb dL_refuses_90 hl (by decide) rfl (fun ls hl => ?_)
  refine lv_iload hx hb dL_refuses_92 (lv_at hl 10 rfl) ?_
  refine lv_iconst (v := (1)) hx hb dL_refuses_94 (by decide) ?_
  refine lv_icmp_ne (tgt := 102) hx hb dL_refuses_95 (by decide) (fun z => absurd ((by decide)) z) (fun c7 => ?_)
  refine lv_iload_n hx hb dL_refuses_98 rfl (lv_at hl 5 rfl) ?_
  refine lv_goto (tgt := 104) hx hb dL_refuses_99 (by decide) ?_
  refine lv_istore (lv' := [(11, .int (nI nw)), (10, .int (nI nr)), (9, .int (4)), (8, .int ((-2147483648))), (0, .ref (α (0))), (1, .int (nI nr)), (2, .int (nI nw)), (3, .int (nI ns)), (4, .int (P)), (5, .int (Wk)), (6, .int (2147483647)), (7, .int (1))]) hx hb dL_refuses_104 hl (by decide) rfl (fun ls hl => ?_)
  refine lv_iload hx hb dL_refuses_106 (lv_at hl 11 rfl) ?_
  refine lv_iconst (v := (1)) hx hb dL_refuses_108 (by decide) ?_
  refine lv_icmp_ne (tgt := 116) hx hb dL_refuses_109 (by decide) (fun z => absurd ((by decide)) z) (fun c8 => ?_)
  refine lv_iload_n hx hb dL_refuses_112 rfl (lv_at hl 7 rfl) ?_
  refine lv_goto (tgt := 118) hx hb dL_refuses_113 (by decide) ?_
  refine lv_istore (lv' := [(12, .int (nI ns)), (11, .int (nI nw)), (10, .int (nI nr)), (9, .int (4)), (8, .int ((-2147483648))), (0, .ref (α (0))), (1, .int (nI nr)), (2, .int (nI nw)), (3, .int (nI ns)), (4, .int (P)), (5, .int (Wk)), (6, .int (2147483647)), (7, .int (1))]) hx hb dL_refuses_118 hl (by decide) rfl (fun ls hl => ?_)
  refine lv_iload hx hb dL_refuses_120 (lv_at hl 12 rfl) ?_
  refine lv_iconst (v := (1)) hx hb dL_refuses_122 (by decide) ?_
  refine lv_icmp_ne (tgt := 132) hx hb dL_refuses_123 (by decide) (fun z => absurd ((by decide)) z) (fun c9 => ?_)
  refine lv_sipush (v := (364)) hx hb dL_refuses_126 (by decide) ?_
  refine lv_goto (tgt := 134) hx hb dL_refuses_129 (by decide) ?_
  refine lv_istore (lv' := [(13, .int (364)), (12, .int (nI ns)), (11, .int (nI nw)), (10, .int (nI nr)), (9, .int (4)), (8, .int ((-2147483648))), (0, .ref (α (0))), (1, .int (nI nr)), (2, .int (nI nw)), (3, .int (nI ns)), (4, .int (P)), (5, .int (Wk)), (6, .int (2147483647)), (7, .int (1))]) hx hb dL_refuses_134 hl (by decide) rfl (fun ls hl => ?_)
  refine lv_aload_n hx hb dL_refuses_136 rfl (lv_at hl 6 rfl) ?_
  refine lv_iconst (v := (0)) hx hb dL_refuses_137 (by decide) ?_
  refine lv_iload hx hb dL_refuses_138 (lv_at hl 4 rfl) ?_
  refine lv_iconst (v := (5)) hx hb dL_refuses_140 (by decide) ?_
  refine lv_iconst (v := (0)) hx hb dL_refuses_141 (by decide) ?_
  refine lv_iconst (v := (0)) hx hb dL_refuses_142 (by decide) ?_
  refine mcallX (rest := []) hw ⟨hx, hb, hml, hown, hts⟩ hS (x_X3_setBase hl0 hC hwf 4 5 (by decide) 0 0) (vx_cwSW 6 hts gL_refuses_L_act rfl rfl rfl (by decide +kernel) ⟨Nat.le_of_ble_eq_true rfl, Nat.le_of_ble_eq_true rfl⟩) rfl hl.1 rfl (Nat.le_of_ble_eq_true rfl) dL_refuses_143 ⟨Nat.le_of_ble_eq_true rfl, Nat.le_of_ble_eq_true rfl⟩ (fun H locs hw hS => ?_)
  refine lv_bipush (v := (-72)) hx hb dL_refuses_146 (by decide) ?_
  refine lv_icmp_ne (tgt := 537) hx hb dL_refuses_148 (by decide) (fun z => absurd ((by decide)) z) (fun c10 => ?_)
  refine lv_aload_n hx hb dL_refuses_151 rfl (lv_at hl 6 rfl) ?_
  refine lv_iconst (v := (0)) hx hb dL_refuses_152 (by decide) ?_
  refine lv_iconst (v := (0)) hx hb dL_refuses_153 (by decide) ?_
  refine lv_iload hx hb dL_refuses_154 (lv_at hl 13 rfl) ?_
  refine lv_if_ne (tgt := 163) hx hb dL_refuses_156 (by decide) (fun c11 => ?_) (fun z => absurd z ((by decide)))
  refine lv_iload hx hb dL_refuses_163 (lv_at hl 13 rfl) ?_
  refine lv_iconst (v := (1)) hx hb dL_refuses_165 (by decide) ?_
  refine lv_icmp_ne (tgt := 175) hx hb dL_refuses_166 (by decide) (fun z => absurd ((by decide)) z) (fun c12 => ?_)
  refine lv_sipush (v := (10001)) hx hb dL_refuses_169 (by decide) ?_
  refine lv_goto (tgt := 177) hx hb dL_refuses_172 (by decide) ?_
  refine lv_iconst (v := (0)) hx hb dL_refuses_177 (by decide) ?_
  refine lv_iconst (v := (0)) hx hb dL_refuses_178 (by decide) ?_
  refine mcallX (rest := []) hw ⟨hx, hb, hml, hown, hts⟩ hS (x_X3_setBase hl0 hC hwf 0 10001 (by decide) 0 0) (vx_cwSW 6 hts gL_refuses_L_act rfl rfl rfl (by decide +kernel) ⟨Nat.le_of_ble_eq_true rfl, Nat.le_of_ble_eq_true rfl⟩) rfl hl.1 rfl (Nat.le_of_ble_eq_true rfl) dL_refuses_179 ⟨Nat.le_of_ble_eq_true rfl, Nat.le_of_ble_eq_true rfl⟩ (fun H locs hw hS => ?_)
  refine lv_bipush (v := (-72)) hx hb dL_refuses_182 (by decide) ?_
  refine lv_icmp_ne (tgt := 537) hx hb dL_refuses_184 (by decide) (fun z => absurd ((by decide)) z) (fun c13 => ?_)
  refine lv_aload_n hx hb dL_refuses_187 rfl (lv_at hl 6 rfl) ?_
  refine lv_iload hx hb dL_refuses_188 (lv_at hl 13 rfl) ?_
  refine lv_iconst (v := (1)) hx hb dL_refuses_190 (by decide) ?_
  refine lv_icmp_ne (tgt := 200) hx hb dL_refuses_191 (by decide) (fun z => absurd ((by decide)) z) (fun c14 => ?_)
  refine lv_sipush (v := (128)) hx hb dL_refuses_194 (by decide) ?_
  refine lv_goto (tgt := 202) hx hb dL_refuses_197 (by decide) ?_
  refine lv_iconst (v := (5)) hx hb dL_refuses_202 (by decide) ?_
  refine lv_bipush (v := (6)) hx hb dL_refuses_203 (by decide) ?_
  refine lv_iconst (v := (1)) hx hb dL_refuses_205 (by decide) ?_
  refine lv_bipush (v := (100)) hx hb dL_refuses_206 (by decide) ?_
  refine mcallX (rest := []) hw ⟨hx, hb, hml, hown, hts⟩ hS (x_X3_addRule_1 hl0 hC hwf 128 5 6 1 100 (by decide)) (vx_cwSW 6 hts gL_refuses_L_rule rfl rfl rfl (by decide +kernel) ⟨Nat.le_of_ble_eq_true rfl, Nat.le_of_ble_eq_true rfl⟩) rfl hl.1 rfl (Nat.le_of_ble_eq_true rfl) dL_refuses_208 ⟨Nat.le_of_ble_eq_true rfl, Nat.le_of_ble_eq_true rfl⟩ (fun H locs hw hS => ?_)
  refine lv_bipush (v := (-72)) hx hb dL_refuses_211 (by decide) ?_
  refine lv_icmp_ne (tgt := 537) hx hb dL_refuses_213 (by decide) (fun z => absurd ((by decide)) z) (fun c15 => ?_)
  refine lv_aload_n hx hb dL_refuses_216 rfl (lv_at hl 6 rfl) ?_
  refine lv_iconst (v := (1)) hx hb dL_refuses_217 (by decide) ?_
  refine lv_iload hx hb dL_refuses_218 (lv_at hl 13 rfl) ?_
  refine lv_iconst (v := (1)) hx hb dL_refuses_220 (by decide) ?_
  refine lv_icmp_ne (tgt := 229) hx hb dL_refuses_221 (by decide) (fun z => absurd ((by decide)) z) (fun c16 => ?_)
  refine lv_bipush (v := (96)) hx hb dL_refuses_224 (by decide) ?_
  refine lv_goto (tgt := 231) hx hb dL_refuses_226 (by decide) ?_
  refine lv_bipush (v := (96)) hx hb dL_refuses_231 (by decide) ?_
  refine lv_iconst (v := (1)) hx hb dL_refuses_233 (by decide) ?_
  refine lv_bipush (v := (100)) hx hb dL_refuses_234 (by decide) ?_
  refine mcallX (rest := []) hw ⟨hx, hb, hml, hown, hts⟩ hS (x_X3_addRule_1 hl0 hC hwf 1 96 96 1 100 (by decide)) (vx_cwSW 6 hts gL_refuses_L_rule rfl rfl rfl (by decide +kernel) ⟨Nat.le_of_ble_eq_true rfl, Nat.le_of_ble_eq_true rfl⟩) rfl hl.1 rfl (Nat.le_of_ble_eq_true rfl) dL_refuses_236 ⟨Nat.le_of_ble_eq_true rfl, Nat.le_of_ble_eq_true rfl⟩ (fun H locs hw hS => ?_)
  refine lv_bipush (v := (-72)) hx hb dL_refuses_239 (by decide) ?_
  refine lv_icmp_ne (tgt := 537) hx hb dL_refuses_241 (by decide) (fun z => absurd ((by decide)) z) (fun c17 => ?_)
  refine lv_aload_n hx hb dL_refuses_244 rfl (lv_at hl 6 rfl) ?_
  refine lv_iconst (v := (1)) hx hb dL_refuses_245 (by decide) ?_
  refine lv_iconst (v := (5)) hx hb dL_refuses_246 (by decide) ?_
  refine lv_iload hx hb dL_refuses_247 (lv_at hl 13 rfl) ?_
  refine lv_if_ne (tgt := 256) hx hb dL_refuses_249 (by decide) (fun c18 => ?_) (fun z => absurd z ((by decide)))
  refine lv_iload hx hb dL_refuses_256 (lv_at hl 13 rfl) ?_
  refine lv_iconst (v := (1)) hx hb dL_refuses_258 (by decide) ?_
  refine lv_icmp_ne (tgt := 267) hx hb dL_refuses_259 (by decide) (fun z => absurd ((by decide)) z) (fun c19 => ?_)
  refine lv_bipush (v := (97)) hx hb dL_refuses_262 (by decide) ?_
  refine lv_goto (tgt := 269) hx hb dL_refuses_264 (by decide) ?_
  refine lv_iconst (v := (1)) hx hb dL_refuses_269 (by decide) ?_
  refine lv_bipush (v := (100)) hx hb dL_refuses_270 (by decide) ?_
  refine mcallX (rest := []) hw ⟨hx, hb, hml, hown, hts⟩ hS (x_X3_addRule_1 hl0 hC hwf 1 5 97 1 100 (by decide)) (vx_cwSW 6 hts gL_refuses_L_rule rfl rfl rfl (by decide +kernel) ⟨Nat.le_of_ble_eq_true rfl, Nat.le_of_ble_eq_true rfl⟩) rfl hl.1 rfl (Nat.le_of_ble_eq_true rfl) dL_refuses_272 ⟨Nat.le_of_ble_eq_true rfl, Nat.le_of_ble_eq_true rfl⟩ (fun H locs hw hS => ?_)
  refine lv_bipush (v := (-72)) hx hb dL_refuses_275 (by decide) ?_
  refine lv_icmp_ne (tgt := 537) hx hb dL_refuses_277 (by decide) (fun z => absurd ((by decide)) z) (fun c20 => ?_)
  refine lv_aload_n hx hb dL_refuses_280 rfl (lv_at hl 6 rfl) ?_
  refine lv_iconst (v := (1)) hx hb dL_refuses_281 (by decide) ?_
  refine lv_iconst (v := (5)) hx hb dL_refuses_282 (by decide) ?_
  refine lv_bipush (v := (6)) hx hb dL_refuses_283 (by decide) ?_
  refine lv_iload hx hb dL_refuses_285 (lv_at hl 13 rfl) ?_
  refine lv_if_ne (tgt := 294) hx hb dL_refuses_287 (by decide) (fun c21 => ?_) (fun z => absurd z ((by decide)))
  refine lv_iload hx hb dL_refuses_294 (lv_at hl 13 rfl) ?_
  refine lv_iconst (v := (1)) hx hb dL_refuses_296 (by decide) ?_
  refine lv_icmp_ne (tgt := 305) hx hb dL_refuses_297 (by decide) (fun z => absurd ((by decide)) z) (fun c22 => ?_)
  refine lv_bipush (v := (16)) hx hb dL_refuses_300 (by decide) ?_
  refine lv_goto (tgt := 307) hx hb dL_refuses_302 (by decide) ?_
  refine lv_bipush (v := (100)) hx hb dL_refuses_307 (by decide) ?_
  refine mcallX (rest := []) hw ⟨hx, hb, hml, hown, hts⟩ hS (x_X3_addRule_1 hl0 hC hwf 1 5 6 16 100 (by decide)) (vx_cwSW 6 hts gL_refuses_L_rule rfl rfl rfl (by decide +kernel) ⟨Nat.le_of_ble_eq_true rfl, Nat.le_of_ble_eq_true rfl⟩) rfl hl.1 rfl (Nat.le_of_ble_eq_true rfl) dL_refuses_309 ⟨Nat.le_of_ble_eq_true rfl, Nat.le_of_ble_eq_true rfl⟩ (fun H locs hw hS => ?_)
  refine lv_bipush (v := (-72)) hx hb dL_refuses_312 (by decide) ?_
  refine lv_icmp_ne (tgt := 537) hx hb dL_refuses_314 (by decide) (fun z => absurd ((by decide)) z) (fun c23 => ?_)
  refine lv_aload_n hx hb dL_refuses_317 rfl (lv_at hl 6 rfl) ?_
  refine lv_iconst (v := (1)) hx hb dL_refuses_318 (by decide) ?_
  refine lv_iconst (v := (5)) hx hb dL_refuses_319 (by decide) ?_
  refine lv_bipush (v := (6)) hx hb dL_refuses_320 (by decide) ?_
  refine lv_iconst (v := (1)) hx hb dL_refuses_322 (by decide) ?_
  refine lv_iload hx hb dL_refuses_323 (lv_at hl 13 rfl) ?_
  refine lv_if_ne (tgt := 333) hx hb dL_refuses_325 (by decide) (fun c24 => ?_) (fun z => absurd z ((by decide)))
  refine lv_iload hx hb dL_refuses_333 (lv_at hl 13 rfl) ?_
  refine lv_iconst (v := (1)) hx hb dL_refuses_335 (by decide) ?_
  refine lv_icmp_ne (tgt := 345) hx hb dL_refuses_336 (by decide) (fun z => absurd ((by decide)) z) (fun c25 => ?_)
  refine lv_sipush (v := (401)) hx hb dL_refuses_339 (by decide) ?_
  refine lv_goto (tgt := 347) hx hb dL_refuses_342 (by decide) ?_
  refine mcallX (rest := []) hw ⟨hx, hb, hml, hown, hts⟩ hS (x_X3_addRule_1 hl0 hC hwf 1 5 6 1 401 (by decide)) (vx_cwSW 6 hts gL_refuses_L_rule rfl rfl rfl (by decide +kernel) ⟨Nat.le_of_ble_eq_true rfl, Nat.le_of_ble_eq_true rfl⟩) rfl hl.1 rfl (Nat.le_of_ble_eq_true rfl) dL_refuses_347 ⟨Nat.le_of_ble_eq_true rfl, Nat.le_of_ble_eq_true rfl⟩ (fun H locs hw hS => ?_)
  refine lv_bipush (v := (-72)) hx hb dL_refuses_350 (by decide) ?_
  refine lv_icmp_ne (tgt := 537) hx hb dL_refuses_352 (by decide) (fun z => absurd ((by decide)) z) (fun c26 => ?_)
  refine lv_aload_n hx hb dL_refuses_355 rfl (lv_at hl 6 rfl) ?_
  refine lv_iconst (v := (1)) hx hb dL_refuses_356 (by decide) ?_
  refine lv_iload hx hb dL_refuses_357 (lv_at hl 3 rfl) ?_
  refine lv_iconst (v := (1)) hx hb dL_refuses_359 (by decide) ?_
  refine lv_iconst (v := (0)) hx hb dL_refuses_360 (by decide) ?_
  refine lv_iconst (v := (0)) hx hb dL_refuses_361 (by decide) ?_
  refine mcallX (rest := []) hw ⟨hx, hb, hml, hown, hts⟩ hS (x_X3_setRule hl0 hC hwf (nI nr) (inn_self (by omega)) 0 0) (vx_cwSW 6 hts gL_refuses_L_act rfl rfl rfl (by decide +kernel) ⟨Nat.le_of_ble_eq_true rfl, Nat.le_of_ble_eq_true rfl⟩) rfl hl.1 rfl (Nat.le_of_ble_eq_true rfl) dL_refuses_362 ⟨Nat.le_of_ble_eq_true rfl, Nat.le_of_ble_eq_true rfl⟩ (fun H locs hw hS => ?_)
  refine lv_bipush (v := (-71)) hx hb dL_refuses_365 (by decide) ?_
  refine lv_icmp_ne (tgt := 537) hx hb dL_refuses_367 (by decide) (fun z => absurd ((by decide)) z) (fun c27 => ?_)
  refine lv_aload_n hx hb dL_refuses_370 rfl (lv_at hl 6 rfl) ?_
  refine lv_iconst (v := (2)) hx hb dL_refuses_371 (by decide) ?_
  refine lv_iload hx hb dL_refuses_372 (lv_at hl 0 rfl) ?_
  refine lv_iconst (v := (1)) hx hb dL_refuses_374 (by decide) ?_
  refine lv_iconst (v := (0)) hx hb dL_refuses_375 (by decide) ?_
  refine lv_iconst (v := (0)) hx hb dL_refuses_376 (by decide) ?_
  refine mcallX (rest := []) hw ⟨hx, hb, hml, hown, hts⟩ hS (x_X3_setHoliday hl0 hC hwf 364 (by decide) 0 0) (vx_cwSW 6 hts gL_refuses_L_act rfl rfl rfl (by decide +kernel) ⟨Nat.le_of_ble_eq_true rfl, Nat.le_of_ble_eq_true rfl⟩) rfl hl.1 rfl (Nat.le_of_ble_eq_true rfl) dL_refuses_377 ⟨Nat.le_of_ble_eq_true rfl, Nat.le_of_ble_eq_true rfl⟩ (fun H locs hw hS => ?_)
  refine lv_bipush (v := (-72)) hx hb dL_refuses_380 (by decide) ?_
  refine lv_icmp_ne (tgt := 537) hx hb dL_refuses_382 (by decide) (fun z => absurd ((by decide)) z) (fun c28 => ?_)
  refine lv_aload_n hx hb dL_refuses_385 rfl (lv_at hl 6 rfl) ?_
  refine lv_iconst (v := (3)) hx hb dL_refuses_386 (by decide) ?_
  refine lv_iload hx hb dL_refuses_387 (lv_at hl 4 rfl) ?_
  refine lv_iconst (v := (0)) hx hb dL_refuses_389 (by decide) ?_
  refine lv_iconst (v := (0)) hx hb dL_refuses_390 (by decide) ?_
  refine lv_iconst (v := (0)) hx hb dL_refuses_391 (by decide) ?_
  refine mcallX (rest := []) hw ⟨hx, hb, hml, hown, hts⟩ hS (x_X3_addWorker_1 hl0 hC hwf 4 (by decide) 0 0 0) (vx_cwSW 6 hts gL_refuses_L_act rfl rfl rfl (by decide +kernel) ⟨Nat.le_of_ble_eq_true rfl, Nat.le_of_ble_eq_true rfl⟩) rfl hl.1 rfl (Nat.le_of_ble_eq_true rfl) dL_refuses_392 ⟨Nat.le_of_ble_eq_true rfl, Nat.le_of_ble_eq_true rfl⟩ (fun H locs hw hS => ?_)
  refine lv_bipush (v := (-72)) hx hb dL_refuses_395 (by decide) ?_
  refine lv_icmp_ne (tgt := 537) hx hb dL_refuses_397 (by decide) (fun z => absurd ((by decide)) z) (fun c29 => ?_)
  refine lv_aload_n hx hb dL_refuses_400 rfl (lv_at hl 6 rfl) ?_
  refine lv_iconst (v := (4)) hx hb dL_refuses_401 (by decide) ?_
  refine lv_iload hx hb dL_refuses_402 (lv_at hl 2 rfl) ?_
  refine lv_iconst (v := (-1)) hx hb dL_refuses_404 (by decide) ?_
  refine lv_iconst (v := (0)) hx hb dL_refuses_405 (by decide) ?_
  refine lv_iconst (v := (0)) hx hb dL_refuses_406 (by decide) ?_
  refine mcallX (rest := []) hw ⟨hx, hb, hml, hown, hts⟩ hS (x_X3_setRank_1 hl0 hC hwf (nI nw) (-1) (inn_self (by omega)) 0 0) (vx_cwSW 6 hts gL_refuses_L_act rfl rfl rfl (by decide +kernel) ⟨Nat.le_of_ble_eq_true rfl, Nat.le_of_ble_eq_true rfl⟩) rfl hl.1 rfl (Nat.le_of_ble_eq_true rfl) dL_refuses_407 ⟨Nat.le_of_ble_eq_true rfl, Nat.le_of_ble_eq_true rfl⟩ (fun H locs hw hS => ?_)
  refine lv_bipush (v := (-71)) hx hb dL_refuses_410 (by decide) ?_
  refine lv_icmp_ne (tgt := 537) hx hb dL_refuses_412 (by decide) (fun z => absurd ((by decide)) z) (fun c30 => ?_)
  refine lv_aload_n hx hb dL_refuses_415 rfl (lv_at hl 6 rfl) ?_
  refine lv_iconst (v := (4)) hx hb dL_refuses_416 (by decide) ?_
  refine lv_iconst (v := (0)) hx hb dL_refuses_417 (by decide) ?_
  refine lv_iload hx hb dL_refuses_418 (lv_at hl 4 rfl) ?_
  refine lv_iconst (v := (0)) hx hb dL_refuses_420 (by decide) ?_
  refine lv_iconst (v := (0)) hx hb dL_refuses_421 (by decide) ?_
  refine mcallX (rest := []) hw ⟨hx, hb, hml, hown, hts⟩ hS (x_X3_setRank_2 hl0 hC hwf 0 hnw 4 (by decide) 0 0) (vx_cwSW 6 hts gL_refuses_L_act rfl rfl rfl (by decide +kernel) ⟨Nat.le_of_ble_eq_true rfl, Nat.le_of_ble_eq_true rfl⟩) rfl hl.1 rfl (Nat.le_of_ble_eq_true rfl) dL_refuses_422 ⟨Nat.le_of_ble_eq_true rfl, Nat.le_of_ble_eq_true rfl⟩ (fun H locs hw hS => ?_)
  refine lv_bipush (v := (-72)) hx hb dL_refuses_425 (by decide) ?_
  refine lv_icmp_ne (tgt := 537) hx hb dL_refuses_427 (by decide) (fun z => absurd ((by decide)) z) (fun c31 => ?_)
  refine lv_aload_n hx hb dL_refuses_430 rfl (lv_at hl 6 rfl) ?_
  refine lv_iconst (v := (5)) hx hb dL_refuses_431 (by decide) ?_
  refine lv_iload hx hb dL_refuses_432 (lv_at hl 2 rfl) ?_
  refine lv_iconst (v := (-1)) hx hb dL_refuses_434 (by decide) ?_
  refine lv_iconst (v := (0)) hx hb dL_refuses_435 (by decide) ?_
  refine lv_iconst (v := (0)) hx hb dL_refuses_436 (by decide) ?_
  refine mcallX (rest := []) hw ⟨hx, hb, hml, hown, hts⟩ hS (x_X3_addShift_1 hl0 hC hwf (nI nw) (-1) 0 0 (inn_self (by omega))) (vx_cwSW 6 hts gL_refuses_L_act rfl rfl rfl (by decide +kernel) ⟨Nat.le_of_ble_eq_true rfl, Nat.le_of_ble_eq_true rfl⟩) rfl hl.1 rfl (Nat.le_of_ble_eq_true rfl) dL_refuses_437 ⟨Nat.le_of_ble_eq_true rfl, Nat.le_of_ble_eq_true rfl⟩ (fun H locs hw hS => ?_)
  refine lv_bipush (v := (-71)) hx hb dL_refuses_440 (by decide) ?_
  refine lv_icmp_ne (tgt := 537) hx hb dL_refuses_442 (by decide) (fun z => absurd ((by decide)) z) (fun c32 => ?_)
  refine lv_aload_n hx hb dL_refuses_445 rfl (lv_at hl 6 rfl) ?_
  refine lv_iconst (v := (5)) hx hb dL_refuses_446 (by decide) ?_
  refine lv_iconst (v := (0)) hx hb dL_refuses_447 (by decide) ?_
  refine lv_iload hx hb dL_refuses_448 (lv_at hl 13 rfl) ?_
  refine lv_iconst (v := (1)) hx hb dL_refuses_450 (by decide) ?_
  refine lv_icmp_ne (tgt := 460) hx hb dL_refuses_451 (by decide) (fun z => absurd ((by decide)) z) (fun c33 => ?_)
  refine lv_sipush (v := (363)) hx hb dL_refuses_454 (by decide) ?_
  refine lv_goto (tgt := 462) hx hb dL_refuses_457 (by decide) ?_
  refine lv_iconst (v := (5)) hx hb dL_refuses_462 (by decide) ?_
  refine lv_iconst (v := (5)) hx hb dL_refuses_463 (by decide) ?_
  refine mcallX (rest := []) hw ⟨hx, hb, hml, hown, hts⟩ hS (x_X3_addShift_2 hl0 hC hwf 0 hnw 363 5 5 (by decide)) (vx_cwSW 6 hts gL_refuses_L_act rfl rfl rfl (by decide +kernel) ⟨Nat.le_of_ble_eq_true rfl, Nat.le_of_ble_eq_true rfl⟩) rfl hl.1 rfl (Nat.le_of_ble_eq_true rfl) dL_refuses_464 ⟨Nat.le_of_ble_eq_true rfl, Nat.le_of_ble_eq_true rfl⟩ (fun H locs hw hS => ?_)
  refine lv_bipush (v := (-72)) hx hb dL_refuses_467 (by decide) ?_
  refine lv_icmp_ne (tgt := 537) hx hb dL_refuses_469 (by decide) (fun z => absurd ((by decide)) z) (fun c34 => ?_)
  refine lv_aload_n hx hb dL_refuses_472 rfl (lv_at hl 6 rfl) ?_
  refine lv_iconst (v := (5)) hx hb dL_refuses_473 (by decide) ?_
  refine lv_iconst (v := (0)) hx hb dL_refuses_474 (by decide) ?_
  refine lv_iconst (v := (5)) hx hb dL_refuses_475 (by decide) ?_
  refine lv_iload hx hb dL_refuses_476 (lv_at hl 13 rfl) ?_
  refine lv_iconst (v := (1)) hx hb dL_refuses_478 (by decide) ?_
  refine lv_icmp_ne (tgt := 487) hx hb dL_refuses_479 (by decide) (fun z => absurd ((by decide)) z) (fun c35 => ?_)
  refine lv_bipush (v := (96)) hx hb dL_refuses_482 (by decide) ?_
  refine lv_goto (tgt := 489) hx hb dL_refuses_484 (by decide) ?_
  refine lv_iconst (v := (5)) hx hb dL_refuses_489 (by decide) ?_
  refine mcallX (rest := []) hw ⟨hx, hb, hml, hown, hts⟩ hS (x_X3_addShift_2 hl0 hC hwf 0 hnw 5 96 5 (by decide)) (vx_cwSW 6 hts gL_refuses_L_act rfl rfl rfl (by decide +kernel) ⟨Nat.le_of_ble_eq_true rfl, Nat.le_of_ble_eq_true rfl⟩) rfl hl.1 rfl (Nat.le_of_ble_eq_true rfl) dL_refuses_490 ⟨Nat.le_of_ble_eq_true rfl, Nat.le_of_ble_eq_true rfl⟩ (fun H locs hw hS => ?_)
  refine lv_bipush (v := (-72)) hx hb dL_refuses_493 (by decide) ?_
  refine lv_icmp_ne (tgt := 537) hx hb dL_refuses_495 (by decide) (fun z => absurd ((by decide)) z) (fun c36 => ?_)
  refine lv_aload_n hx hb dL_refuses_498 rfl (lv_at hl 6 rfl) ?_
  refine lv_iconst (v := (5)) hx hb dL_refuses_499 (by decide) ?_
  refine lv_iconst (v := (0)) hx hb dL_refuses_500 (by decide) ?_
  refine lv_iconst (v := (5)) hx hb dL_refuses_501 (by decide) ?_
  refine lv_iconst (v := (5)) hx hb dL_refuses_502 (by decide) ?_
  refine lv_iload hx hb dL_refuses_503 (lv_at hl 13 rfl) ?_
  refine lv_if_ne (tgt := 512) hx hb dL_refuses_505 (by decide) (fun c37 => ?_) (fun z => absurd z ((by decide)))
  refine lv_iload hx hb dL_refuses_512 (lv_at hl 13 rfl) ?_
  refine lv_iconst (v := (1)) hx hb dL_refuses_514 (by decide) ?_
  refine lv_icmp_ne (tgt := 523) hx hb dL_refuses_515 (by decide) (fun z => absurd ((by decide)) z) (fun c38 => ?_)
  refine lv_bipush (v := (65)) hx hb dL_refuses_518 (by decide) ?_
  refine lv_goto (tgt := 525) hx hb dL_refuses_520 (by decide) ?_
  refine mcallX (rest := []) hw ⟨hx, hb, hml, hown, hts⟩ hS (x_X3_addShift_2 hl0 hC hwf 0 hnw 5 5 65 (by decide)) (vx_cwSW 6 hts gL_refuses_L_act rfl rfl rfl (by decide +kernel) ⟨Nat.le_of_ble_eq_true rfl, Nat.le_of_ble_eq_true rfl⟩) rfl hl.1 rfl (Nat.le_of_ble_eq_true rfl) dL_refuses_525 ⟨Nat.le_of_ble_eq_true rfl, Nat.le_of_ble_eq_true rfl⟩ (fun H locs hw hS => ?_)
  refine lv_bipush (v := (-72)) hx hb dL_refuses_528 (by decide) ?_
  refine lv_icmp_ne (tgt := 537) hx hb dL_refuses_530 (by decide) (fun z => absurd ((by decide)) z) (fun c39 => ?_)
  refine lv_iconst (v := (1)) hx hb dL_refuses_533 (by decide) ?_
  refine lv_goto (tgt := 538) hx hb dL_refuses_534 (by decide) ?_
  refine lv_istore (lv' := [(14, .int (1)), (13, .int (364)), (12, .int (nI ns)), (11, .int (nI nw)), (10, .int (nI nr)), (9, .int (4)), (8, .int ((-2147483648))), (0, .ref (α (0))), (1, .int (nI nr)), (2, .int (nI nw)), (3, .int (nI ns)), (4, .int (P)), (5, .int (Wk)), (6, .int (2147483647)), (7, .int (1))]) hx hb dL_refuses_538 hl (by decide) rfl (fun ls hl => ?_)
  refine lv_bipush (v := (6)) hx hb dL_refuses_540 (by decide) ?_
  refine lv_istore (lv' := [(15, .int (6)), (14, .int (1)), (13, .int (364)), (12, .int (nI ns)), (11, .int (nI nw)), (10, .int (nI nr)), (9, .int (4)), (8, .int ((-2147483648))), (0, .ref (α (0))), (1, .int (nI nr)), (2, .int (nI nw)), (3, .int (nI ns)), (4, .int (P)), (5, .int (Wk)), (6, .int (2147483647)), (7, .int (1))]) hx hb dL_refuses_542 hl (by decide) rfl (fun ls hl => ?_)
  refine lv_iload hx hb dL_refuses_544 (lv_at hl 0 rfl) ?_
  refine lv_bipush (v := (13)) hx hb dL_refuses_546 (by decide) ?_
  refine lv_icmp_ge (tgt := 585) hx hb dL_refuses_548 (by decide) (fun z => absurd z ((by decide))) (fun c40 => ?_)
  refine lv_iload hx hb dL_refuses_551 (lv_at hl 1 rfl) ?_
  refine lv_if_eq (tgt := 576) hx hb dL_refuses_553 (by decide) (fun z => absurd z ((by decide))) (fun c41 => ?_)
  refine lv_aload_n hx hb dL_refuses_556 rfl (lv_at hl 8 rfl) ?_
  refine lv_iload hx hb dL_refuses_557 (lv_at hl 0 rfl) ?_
  refine lv_iload hx hb dL_refuses_559 (lv_at hl 3 rfl) ?_
  refine lv_iconst (v := (-1)) hx hb dL_refuses_561 (by decide) ?_
  refine lv_iconst (v := (0)) hx hb dL_refuses_562 (by decide) ?_
  refine lv_iconst (v := (0)) hx hb dL_refuses_563 (by decide) ?_
  refine mcallX (rest := []) hw ⟨hx, hb, hml, hown, hts⟩ hS (x_X3_cancel_1 hl0 hC hwf (nI ns) (inn_self (by omega)) (-1) 0 0) (vx_cwSW 6 hts gL_refuses_L_act rfl rfl rfl (by decide +kernel) ⟨Nat.le_of_ble_eq_true rfl, Nat.le_of_ble_eq_true rfl⟩) rfl hl.1 rfl (Nat.le_of_ble_eq_true rfl) dL_refuses_564 ⟨Nat.le_of_ble_eq_true rfl, Nat.le_of_ble_eq_true rfl⟩ (fun H locs hw hS => ?_)
  refine lv_bipush (v := (-71)) hx hb dL_refuses_567 (by decide) ?_
  refine lv_icmp_ne (tgt := 576) hx hb dL_refuses_569 (by decide) (fun z => absurd ((by decide)) z) (fun c42 => ?_)
  refine lv_iconst (v := (1)) hx hb dL_refuses_572 (by decide) ?_
  refine lv_goto (tgt := 577) hx hb dL_refuses_573 (by decide) ?_
  refine lv_istore (lv' := [(14, .int (1)), (15, .int (6)), (13, .int (364)), (12, .int (nI ns)), (11, .int (nI nw)), (10, .int (nI nr)), (9, .int (4)), (8, .int ((-2147483648))), (0, .ref (α (0))), (1, .int (nI nr)), (2, .int (nI nw)), (3, .int (nI ns)), (4, .int (P)), (5, .int (Wk)), (6, .int (2147483647)), (7, .int (1))]) hx hb dL_refuses_577 hl (by decide) rfl (fun ls hl => ?_)
  refine lv_iinc (v := 7) (lv' := [(15, .int (7)), (14, .int (1)), (13, .int (364)), (12, .int (nI ns)), (11, .int (nI nw)), (10, .int (nI nr)), (9, .int (4)), (8, .int ((-2147483648))), (0, .ref (α (0))), (1, .int (nI nr)), (2, .int (nI nw)), (3, .int (nI ns)), (4, .int (P)), (5, .int (Wk)), (6, .int (2147483647)), (7, .int (1))]) hx hb dL_refuses_579 hl (k := 1) rfl (by decide) (by decide) rfl (fun ls hl => ?_)
  refine lv_goto (tgt := 544) hx hb dL_refuses_582 (by decide) ?_
  refine lv_iload hx hb dL_refuses_544 (lv_at hl 0 rfl) ?_
  refine lv_bipush (v := (13)) hx hb dL_refuses_546 (by decide) ?_
  refine lv_icmp_ge (tgt := 585) hx hb dL_refuses_548 (by decide) (fun z => absurd z ((by decide))) (fun c43 => ?_)
  refine lv_iload hx hb dL_refuses_551 (lv_at hl 1 rfl) ?_
  refine lv_if_eq (tgt := 576) hx hb dL_refuses_553 (by decide) (fun z => absurd z ((by decide))) (fun c44 => ?_)
  refine lv_aload_n hx hb dL_refuses_556 rfl (lv_at hl 8 rfl) ?_
  refine lv_iload hx hb dL_refuses_557 (lv_at hl 0 rfl) ?_
  refine lv_iload hx hb dL_refuses_559 (lv_at hl 3 rfl) ?_
  refine lv_iconst (v := (-1)) hx hb dL_refuses_561 (by decide) ?_
  refine lv_iconst (v := (0)) hx hb dL_refuses_562 (by decide) ?_
  refine lv_iconst (v := (0)) hx hb dL_refuses_563 (by decide) ?_
  refine mcallX (rest := []) hw ⟨hx, hb, hml, hown, hts⟩ hS (x_X3_takeBreaks_1 hl0 hC hwf (nI ns) (inn_self (by omega)) (-1) 0 0) (vx_cwSW 6 hts gL_refuses_L_act rfl rfl rfl (by decide +kernel) ⟨Nat.le_of_ble_eq_true rfl, Nat.le_of_ble_eq_true rfl⟩) rfl hl.1 rfl (Nat.le_of_ble_eq_true rfl) dL_refuses_564 ⟨Nat.le_of_ble_eq_true rfl, Nat.le_of_ble_eq_true rfl⟩ (fun H locs hw hS => ?_)
  refine lv_bipush (v := (-71)) hx hb dL_refuses_567 (by decide) ?_
  refine lv_icmp_ne (tgt := 576) hx hb dL_refuses_569 (by decide) (fun z => absurd ((by decide)) z) (fun c45 => ?_)
  refine lv_iconst (v := (1)) hx hb dL_refuses_572 (by decide) ?_
  refine lv_goto (tgt := 577) hx hb dL_refuses_573 (by decide) ?_
  refine lv_istore (lv' := [(14, .int (1)), (15, .int (7)), (13, .int (364)), (12, .int (nI ns)), (11, .int (nI nw)), (10, .int (nI nr)), (9, .int (4)), (8, .int ((-2147483648))), (0, .ref (α (0))), (1, .int (nI nr)), (2, .int (nI nw)), (3, .int (nI ns)), (4, .int (P)), (5, .int (Wk)), (6, .int (2147483647)), (7, .int (1))]) hx hb dL_refuses_577 hl (by decide) rfl (fun ls hl => ?_)
  refine lv_iinc (v := 8) (lv' := [(15, .int (8)), (14, .int (1)), (13, .int (364)), (12, .int (nI ns)), (11, .int (nI nw)), (10, .int (nI nr)), (9, .int (4)), (8, .int ((-2147483648))), (0, .ref (α (0))), (1, .int (nI nr)), (2, .int (nI nw)), (3, .int (nI ns)), (4, .int (P)), (5, .int (Wk)), (6, .int (2147483647)), (7, .int (1))]) hx hb dL_refuses_579 hl (k := 1) rfl (by decide) (by decide) rfl (fun ls hl => ?_)
  refine lv_goto (tgt := 544) hx hb dL_refuses_582 (by decide) ?_
  refine lv_iload hx hb dL_refuses_544 (lv_at hl 0 rfl) ?_
  refine lv_bipush (v := (13)) hx hb dL_refuses_546 (by decide) ?_
  refine lv_icmp_ge (tgt := 585) hx hb dL_refuses_548 (by decide) (fun z => absurd z ((by decide))) (fun c46 => ?_)
  refine lv_iload hx hb dL_refuses_551 (lv_at hl 1 rfl) ?_
  refine lv_if_eq (tgt := 576) hx hb dL_refuses_553 (by decide) (fun z => absurd z ((by decide))) (fun c47 => ?_)
  refine lv_aload_n hx hb dL_refuses_556 rfl (lv_at hl 8 rfl) ?_
  refine lv_iload hx hb dL_refuses_557 (lv_at hl 0 rfl) ?_
  refine lv_iload hx hb dL_refuses_559 (lv_at hl 3 rfl) ?_
  refine lv_iconst (v := (-1)) hx hb dL_refuses_561 (by decide) ?_
  refine lv_iconst (v := (0)) hx hb dL_refuses_562 (by decide) ?_
  refine lv_iconst (v := (0)) hx hb dL_refuses_563 (by decide) ?_
  refine mcallX (rest := []) hw ⟨hx, hb, hml, hown, hts⟩ hS (x_X3_paidQuarters_1 hl0 hC hwf (nI ns) (inn_self (by omega)) (-1) 0 0) (vx_cwSW 6 hts gL_refuses_L_act rfl rfl rfl (by decide +kernel) ⟨Nat.le_of_ble_eq_true rfl, Nat.le_of_ble_eq_true rfl⟩) rfl hl.1 rfl (Nat.le_of_ble_eq_true rfl) dL_refuses_564 ⟨Nat.le_of_ble_eq_true rfl, Nat.le_of_ble_eq_true rfl⟩ (fun H locs hw hS => ?_)
  refine lv_bipush (v := (-71)) hx hb dL_refuses_567 (by decide) ?_
  refine lv_icmp_ne (tgt := 576) hx hb dL_refuses_569 (by decide) (fun z => absurd ((by decide)) z) (fun c48 => ?_)
  refine lv_iconst (v := (1)) hx hb dL_refuses_572 (by decide) ?_
  refine lv_goto (tgt := 577) hx hb dL_refuses_573 (by decide) ?_
  refine lv_istore (lv' := [(14, .int (1)), (15, .int (8)), (13, .int (364)), (12, .int (nI ns)), (11, .int (nI nw)), (10, .int (nI nr)), (9, .int (4)), (8, .int ((-2147483648))), (0, .ref (α (0))), (1, .int (nI nr)), (2, .int (nI nw)), (3, .int (nI ns)), (4, .int (P)), (5, .int (Wk)), (6, .int (2147483647)), (7, .int (1))]) hx hb dL_refuses_577 hl (by decide) rfl (fun ls hl => ?_)
  refine lv_iinc (v := 9) (lv' := [(15, .int (9)), (14, .int (1)), (13, .int (364)), (12, .int (nI ns)), (11, .int (nI nw)), (10, .int (nI nr)), (9, .int (4)), (8, .int ((-2147483648))), (0, .ref (α (0))), (1, .int (nI nr)), (2, .int (nI nw)), (3, .int (nI ns)), (4, .int (P)), (5, .int (Wk)), (6, .int (2147483647)), (7, .int (1))]) hx hb dL_refuses_579 hl (k := 1) rfl (by decide) (by decide) rfl (fun ls hl => ?_)
  refine lv_goto (tgt := 544) hx hb dL_refuses_582 (by decide) ?_
  refine lv_iload hx hb dL_refuses_544 (lv_at hl 0 rfl) ?_
  refine lv_bipush (v := (13)) hx hb dL_refuses_546 (by decide) ?_
  refine lv_icmp_ge (tgt := 585) hx hb dL_refuses_548 (by decide) (fun z => absurd z ((by decide))) (fun c49 => ?_)
  refine lv_iload hx hb dL_refuses_551 (lv_at hl 1 rfl) ?_
  refine lv_if_eq (tgt := 576) hx hb dL_refuses_553 (by decide) (fun z => absurd z ((by decide))) (fun c50 => ?_)
  refine lv_aload_n hx hb dL_refuses_556 rfl (lv_at hl 8 rfl) ?_
  refine lv_iload hx hb dL_refuses_557 (lv_at hl 0 rfl) ?_
  refine lv_iload hx hb dL_refuses_559 (lv_at hl 3 rfl) ?_
  refine lv_iconst (v := (-1)) hx hb dL_refuses_561 (by decide) ?_
  refine lv_iconst (v := (0)) hx hb dL_refuses_562 (by decide) ?_
  refine lv_iconst (v := (0)) hx hb dL_refuses_563 (by decide) ?_
  refine mcallX (rest := []) hw ⟨hx, hb, hml, hown, hts⟩ hS (x_X3_percentAt_1 hl0 hC hwf (nI ns) (inn_self (by omega)) (-1) 0 0) (vx_cwSW 6 hts gL_refuses_L_act rfl rfl rfl (by decide +kernel) ⟨Nat.le_of_ble_eq_true rfl, Nat.le_of_ble_eq_true rfl⟩) rfl hl.1 rfl (Nat.le_of_ble_eq_true rfl) dL_refuses_564 ⟨Nat.le_of_ble_eq_true rfl, Nat.le_of_ble_eq_true rfl⟩ (fun H locs hw hS => ?_)
  refine lv_bipush (v := (-71)) hx hb dL_refuses_567 (by decide) ?_
  refine lv_icmp_ne (tgt := 576) hx hb dL_refuses_569 (by decide) (fun z => absurd ((by decide)) z) (fun c51 => ?_)
  refine lv_iconst (v := (1)) hx hb dL_refuses_572 (by decide) ?_
  refine lv_goto (tgt := 577) hx hb dL_refuses_573 (by decide) ?_
  refine lv_istore (lv' := [(14, .int (1)), (15, .int (9)), (13, .int (364)), (12, .int (nI ns)), (11, .int (nI nw)), (10, .int (nI nr)), (9, .int (4)), (8, .int ((-2147483648))), (0, .ref (α (0))), (1, .int (nI nr)), (2, .int (nI nw)), (3, .int (nI ns)), (4, .int (P)), (5, .int (Wk)), (6, .int (2147483647)), (7, .int (1))]) hx hb dL_refuses_577 hl (by decide) rfl (fun ls hl => ?_)
  refine lv_iinc (v := 10) (lv' := [(15, .int (10)), (14, .int (1)), (13, .int (364)), (12, .int (nI ns)), (11, .int (nI nw)), (10, .int (nI nr)), (9, .int (4)), (8, .int ((-2147483648))), (0, .ref (α (0))), (1, .int (nI nr)), (2, .int (nI nw)), (3, .int (nI ns)), (4, .int (P)), (5, .int (Wk)), (6, .int (2147483647)), (7, .int (1))]) hx hb dL_refuses_579 hl (k := 1) rfl (by decide) (by decide) rfl (fun ls hl => ?_)
  refine lv_goto (tgt := 544) hx hb dL_refuses_582 (by decide) ?_
  refine lv_iload hx hb dL_refuses_544 (lv_at hl 0 rfl) ?_
  refine lv_bipush (v := (13)) hx hb dL_refuses_546 (by decide) ?_
  refine lv_icmp_ge (tgt := 585) hx hb dL_refuses_548 (by decide) (fun z => absurd z ((by decide))) (fun c52 => ?_)
  refine lv_iload hx hb dL_refuses_551 (lv_at hl 1 rfl) ?_
  refine lv_if_eq (tgt := 576) hx hb dL_refuses_553 (by decide) (fun z => absurd z ((by decide))) (fun c53 => ?_)
  refine lv_aload_n hx hb dL_refuses_556 rfl (lv_at hl 8 rfl) ?_
  refine lv_iload hx hb dL_refuses_557 (lv_at hl 0 rfl) ?_
  refine lv_iload hx hb dL_refuses_559 (lv_at hl 3 rfl) ?_
  refine lv_iconst (v := (-1)) hx hb dL_refuses_561 (by decide) ?_
  refine lv_iconst (v := (0)) hx hb dL_refuses_562 (by decide) ?_
  refine lv_iconst (v := (0)) hx hb dL_refuses_563 (by decide) ?_
  refine mcallX (rest := []) hw ⟨hx, hb, hml, hown, hts⟩ hS (x_X3_reasonAt_1 hl0 hC hwf (nI ns) (inn_self (by omega)) (-1) 0 0) (vx_cwSW 6 hts gL_refuses_L_act rfl rfl rfl (by decide +kernel) ⟨Nat.le_of_ble_eq_true rfl, Nat.le_of_ble_eq_true rfl⟩) rfl hl.1 rfl (Nat.le_of_ble_eq_true rfl) dL_refuses_564 ⟨Nat.le_of_ble_eq_true rfl, Nat.le_of_ble_eq_true rfl⟩ (fun H locs hw hS => ?_)
  refine lv_bipush (v := (-71)) hx hb dL_refuses_567 (by decide) ?_
  refine lv_icmp_ne (tgt := 576) hx hb dL_refuses_569 (by decide) (fun z => absurd ((by decide)) z) (fun c54 => ?_)
  refine lv_iconst (v := (1)) hx hb dL_refuses_572 (by decide) ?_
  refine lv_goto (tgt := 577) hx hb dL_refuses_573 (by decide) ?_
  refine lv_istore (lv' := [(14, .int (1)), (15, .int (10)), (13, .int (364)), (12, .int (nI ns)), (11, .int (nI nw)), (10, .int (nI nr)), (9, .int (4)), (8, .int ((-2147483648))), (0, .ref (α (0))), (1, .int (nI nr)), (2, .int (nI nw)), (3, .int (nI ns)), (4, .int (P)), (5, .int (Wk)), (6, .int (2147483647)), (7, .int (1))]) hx hb dL_refuses_577 hl (by decide) rfl (fun ls hl => ?_)
  refine lv_iinc (v := 11) (lv' := [(15, .int (11)), (14, .int (1)), (13, .int (364)), (12, .int (nI ns)), (11, .int (nI nw)), (10, .int (nI nr)), (9, .int (4)), (8, .int ((-2147483648))), (0, .ref (α (0))), (1, .int (nI nr)), (2, .int (nI nw)), (3, .int (nI ns)), (4, .int (P)), (5, .int (Wk)), (6, .int (2147483647)), (7, .int (1))]) hx hb dL_refuses_579 hl (k := 1) rfl (by decide) (by decide) rfl (fun ls hl => ?_)
  refine lv_goto (tgt := 544) hx hb dL_refuses_582 (by decide) ?_
  refine lv_iload hx hb dL_refuses_544 (lv_at hl 0 rfl) ?_
  refine lv_bipush (v := (13)) hx hb dL_refuses_546 (by decide) ?_
  refine lv_icmp_ge (tgt := 585) hx hb dL_refuses_548 (by decide) (fun z => absurd z ((by decide))) (fun c55 => ?_)
  refine lv_iload hx hb dL_refuses_551 (lv_at hl 1 rfl) ?_
  refine lv_if_eq (tgt := 576) hx hb dL_refuses_553 (by decide) (fun z => absurd z ((by decide))) (fun c56 => ?_)
  refine lv_aload_n hx hb dL_refuses_556 rfl (lv_at hl 8 rfl) ?_
  refine lv_iload hx hb dL_refuses_557 (lv_at hl 0 rfl) ?_
  refine lv_iload hx hb dL_refuses_559 (lv_at hl 3 rfl) ?_
  refine lv_iconst (v := (-1)) hx hb dL_refuses_561 (by decide) ?_
  refine lv_iconst (v := (0)) hx hb dL_refuses_562 (by decide) ?_
  refine lv_iconst (v := (0)) hx hb dL_refuses_563 (by decide) ?_
  refine mcallX (rest := []) hw ⟨hx, hb, hml, hown, hts⟩ hS (x_X3_missed_1 hl0 hC hwf (nI ns) (inn_self (by omega)) (-1) 0 0) (vx_cwSW 6 hts gL_refuses_L_act rfl rfl rfl (by decide +kernel) ⟨Nat.le_of_ble_eq_true rfl, Nat.le_of_ble_eq_true rfl⟩) rfl hl.1 rfl (Nat.le_of_ble_eq_true rfl) dL_refuses_564 ⟨Nat.le_of_ble_eq_true rfl, Nat.le_of_ble_eq_true rfl⟩ (fun H locs hw hS => ?_)
  refine lv_bipush (v := (-71)) hx hb dL_refuses_567 (by decide) ?_
  refine lv_icmp_ne (tgt := 576) hx hb dL_refuses_569 (by decide) (fun z => absurd ((by decide)) z) (fun c57 => ?_)
  refine lv_iconst (v := (1)) hx hb dL_refuses_572 (by decide) ?_
  refine lv_goto (tgt := 577) hx hb dL_refuses_573 (by decide) ?_
  refine lv_istore (lv' := [(14, .int (1)), (15, .int (11)), (13, .int (364)), (12, .int (nI ns)), (11, .int (nI nw)), (10, .int (nI nr)), (9, .int (4)), (8, .int ((-2147483648))), (0, .ref (α (0))), (1, .int (nI nr)), (2, .int (nI nw)), (3, .int (nI ns)), (4, .int (P)), (5, .int (Wk)), (6, .int (2147483647)), (7, .int (1))]) hx hb dL_refuses_577 hl (by decide) rfl (fun ls hl => ?_)
  refine lv_iinc (v := 12) (lv' := [(15, .int (12)), (14, .int (1)), (13, .int (364)), (12, .int (nI ns)), (11, .int (nI nw)), (10, .int (nI nr)), (9, .int (4)), (8, .int ((-2147483648))), (0, .ref (α (0))), (1, .int (nI nr)), (2, .int (nI nw)), (3, .int (nI ns)), (4, .int (P)), (5, .int (Wk)), (6, .int (2147483647)), (7, .int (1))]) hx hb dL_refuses_579 hl (k := 1) rfl (by decide) (by decide) rfl (fun ls hl => ?_)
  refine lv_goto (tgt := 544) hx hb dL_refuses_582 (by decide) ?_
  refine lv_iload hx hb dL_refuses_544 (lv_at hl 0 rfl) ?_
  refine lv_bipush (v := (13)) hx hb dL_refuses_546 (by decide) ?_
  refine lv_icmp_ge (tgt := 585) hx hb dL_refuses_548 (by decide) (fun z => absurd z ((by decide))) (fun c58 => ?_)
  refine lv_iload hx hb dL_refuses_551 (lv_at hl 1 rfl) ?_
  refine lv_if_eq (tgt := 576) hx hb dL_refuses_553 (by decide) (fun z => absurd z ((by decide))) (fun c59 => ?_)
  refine lv_aload_n hx hb dL_refuses_556 rfl (lv_at hl 8 rfl) ?_
  refine lv_iload hx hb dL_refuses_557 (lv_at hl 0 rfl) ?_
  refine lv_iload hx hb dL_refuses_559 (lv_at hl 3 rfl) ?_
  refine lv_iconst (v := (-1)) hx hb dL_refuses_561 (by decide) ?_
  refine lv_iconst (v := (0)) hx hb dL_refuses_562 (by decide) ?_
  refine lv_iconst (v := (0)) hx hb dL_refuses_563 (by decide) ?_
  refine mcallX (rest := []) hw ⟨hx, hb, hml, hown, hts⟩ hS (x_X3_pay_1 hl0 hC hwf (nI ns) (inn_self (by omega)) (-1) 0 0) (vx_cwSW 6 hts gL_refuses_L_act rfl rfl rfl (by decide +kernel) ⟨Nat.le_of_ble_eq_true rfl, Nat.le_of_ble_eq_true rfl⟩) rfl hl.1 rfl (Nat.le_of_ble_eq_true rfl) dL_refuses_564 ⟨Nat.le_of_ble_eq_true rfl, Nat.le_of_ble_eq_true rfl⟩ (fun H locs hw hS => ?_)
  refine lv_bipush (v := (-71)) hx hb dL_refuses_567 (by decide) ?_
  refine lv_icmp_ne (tgt := 576) hx hb dL_refuses_569 (by decide) (fun z => absurd ((by decide)) z) (fun c60 => ?_)
  refine lv_iconst (v := (1)) hx hb dL_refuses_572 (by decide) ?_
  refine lv_goto (tgt := 577) hx hb dL_refuses_573 (by decide) ?_
  refine lv_istore (lv' := [(14, .int (1)), (15, .int (12)), (13, .int (364)), (12, .int (nI ns)), (11, .int (nI nw)), (10, .int (nI nr)), (9, .int (4)), (8, .int ((-2147483648))), (0, .ref (α (0))), (1, .int (nI nr)), (2, .int (nI nw)), (3, .int (nI ns)), (4, .int (P)), (5, .int (Wk)), (6, .int (2147483647)), (7, .int (1))]) hx hb dL_refuses_577 hl (by decide) rfl (fun ls hl => ?_)
  refine lv_iinc (v := 13) (lv' := [(15, .int (13)), (14, .int (1)), (13, .int (364)), (12, .int (nI ns)), (11, .int (nI nw)), (10, .int (nI nr)), (9, .int (4)), (8, .int ((-2147483648))), (0, .ref (α (0))), (1, .int (nI nr)), (2, .int (nI nw)), (3, .int (nI ns)), (4, .int (P)), (5, .int (Wk)), (6, .int (2147483647)), (7, .int (1))]) hx hb dL_refuses_579 hl (k := 1) rfl (by decide) (by decide) rfl (fun ls hl => ?_)
  refine lv_goto (tgt := 544) hx hb dL_refuses_582 (by decide) ?_
  refine lv_iload hx hb dL_refuses_544 (lv_at hl 0 rfl) ?_
  refine lv_bipush (v := (13)) hx hb dL_refuses_546 (by decide) ?_
  refine lv_icmp_ge (tgt := 585) hx hb dL_refuses_548 (by decide) (fun c61 => ?_) (fun z => absurd ((by decide)) z)
  refine lv_iload hx hb dL_refuses_585 (lv_at hl 1 rfl) ?_
  refine lv_if_eq (tgt := 840) hx hb dL_refuses_587 (by decide) (fun z => absurd z ((by decide))) (fun c62 => ?_)
  refine lv_iload_n hx hb dL_refuses_590 rfl (lv_at hl 11 rfl) ?_
  refine lv_if_eq (tgt := 675) hx hb dL_refuses_591 (by decide) (fun c63 => ?_) (fun z => absurd ((by rw [hns]; rfl)) z)
  refine lv_aload_n hx hb dL_refuses_675 rfl (lv_at hl 8 rfl) ?_
  refine lv_bipush (v := (13)) hx hb dL_refuses_676 (by decide) ?_
  refine lv_iload hx hb dL_refuses_678 (lv_at hl 4 rfl) ?_
  refine lv_iconst (v := (-1)) hx hb dL_refuses_680 (by decide) ?_
  refine lv_iconst (v := (0)) hx hb dL_refuses_681 (by decide) ?_
  refine lv_iconst (v := (0)) hx hb dL_refuses_682 (by decide) ?_
  refine mcallX (rest := []) hw ⟨hx, hb, hml, hown, hts⟩ hS (x_X3_payOf_1 hl0 hC hwf (nI nw) (-1) 0 (inn_self (by omega)) 0) (vx_cwSW 6 hts gL_refuses_L_act rfl rfl rfl (by decide +kernel) ⟨Nat.le_of_ble_eq_true rfl, Nat.le_of_ble_eq_true rfl⟩) rfl hl.1 rfl (Nat.le_of_ble_eq_true rfl) dL_refuses_683 ⟨Nat.le_of_ble_eq_true rfl, Nat.le_of_ble_eq_true rfl⟩ (fun H locs hw hS => ?_)
  refine lv_bipush (v := (-71)) hx hb dL_refuses_686 (by decide) ?_
  refine lv_icmp_ne (tgt := 840) hx hb dL_refuses_688 (by decide) (fun z => absurd ((by decide)) z) (fun c64 => ?_)
  refine lv_aload_n hx hb dL_refuses_691 rfl (lv_at hl 8 rfl) ?_
  refine lv_bipush (v := (13)) hx hb dL_refuses_692 (by decide) ?_
  refine lv_iconst (v := (0)) hx hb dL_refuses_694 (by decide) ?_
  refine lv_iload hx hb dL_refuses_695 (lv_at hl 2 rfl) ?_
  refine lv_sipush (v := (363)) hx hb dL_refuses_697 (by decide) ?_
  refine lv_iconst (v := (0)) hx hb dL_refuses_700 (by decide) ?_
  refine mcallX (rest := []) hw ⟨hx, hb, hml, hown, hts⟩ hS (x_X3_payOf_2 hl0 hC hwf 0 hnw 364 363 (by decide) 0) (vx_cwSW 6 hts gL_refuses_L_act rfl rfl rfl (by decide +kernel) ⟨Nat.le_of_ble_eq_true rfl, Nat.le_of_ble_eq_true rfl⟩) rfl hl.1 rfl (Nat.le_of_ble_eq_true rfl) dL_refuses_701 ⟨Nat.le_of_ble_eq_true rfl, Nat.le_of_ble_eq_true rfl⟩ (fun H locs hw hS => ?_)
  refine lv_bipush (v := (-72)) hx hb dL_refuses_704 (by decide) ?_
  refine lv_icmp_ne (tgt := 840) hx hb dL_refuses_706 (by decide) (fun z => absurd ((by decide)) z) (fun c65 => ?_)
  refine lv_aload_n hx hb dL_refuses_709 rfl (lv_at hl 8 rfl) ?_
  refine lv_bipush (v := (13)) hx hb dL_refuses_710 (by decide) ?_
  refine lv_iconst (v := (0)) hx hb dL_refuses_712 (by decide) ?_
  refine lv_iconst (v := (5)) hx hb dL_refuses_713 (by decide) ?_
  refine lv_iload hx hb dL_refuses_714 (lv_at hl 15 rfl) ?_
  refine lv_if_ne (tgt := 723) hx hb dL_refuses_716 (by decide) (fun c66 => ?_) (fun z => absurd z ((by decide)))
  refine lv_iload hx hb dL_refuses_723 (lv_at hl 2 rfl) ?_
  refine lv_iconst (v := (0)) hx hb dL_refuses_725 (by decide) ?_
  refine mcallX (rest := []) hw ⟨hx, hb, hml, hown, hts⟩ hS (x_X3_payOf_2 hl0 hC hwf 0 hnw 5 364 (by decide) 0) (vx_cwSW 6 hts gL_refuses_L_act rfl rfl rfl (by decide +kernel) ⟨Nat.le_of_ble_eq_true rfl, Nat.le_of_ble_eq_true rfl⟩) rfl hl.1 rfl (Nat.le_of_ble_eq_true rfl) dL_refuses_726 ⟨Nat.le_of_ble_eq_true rfl, Nat.le_of_ble_eq_true rfl⟩ (fun H locs hw hS => ?_)
  refine lv_bipush (v := (-72)) hx hb dL_refuses_729 (by decide) ?_
  refine lv_icmp_ne (tgt := 840) hx hb dL_refuses_731 (by decide) (fun z => absurd ((by decide)) z) (fun c67 => ?_)
  refine lv_aload_n hx hb dL_refuses_734 rfl (lv_at hl 8 rfl) ?_
  refine lv_bipush (v := (14)) hx hb dL_refuses_735 (by decide) ?_
  refine lv_iload hx hb dL_refuses_737 (lv_at hl 5 rfl) ?_
  refine lv_iconst (v := (0)) hx hb dL_refuses_739 (by decide) ?_
  refine lv_iconst (v := (0)) hx hb dL_refuses_740 (by decide) ?_
  refine lv_iconst (v := (0)) hx hb dL_refuses_741 (by decide) ?_
  refine mcallX (rest := []) hw ⟨hx, hb, hml, hown, hts⟩ hS (x_X3_paidBy_1 hl0 hC hwf (nI nr) (inn_self (by omega)) 0 0 0) (vx_cwSW 6 hts gL_refuses_L_act rfl rfl rfl (by decide +kernel) ⟨Nat.le_of_ble_eq_true rfl, Nat.le_of_ble_eq_true rfl⟩) rfl hl.1 rfl (Nat.le_of_ble_eq_true rfl) dL_refuses_742 ⟨Nat.le_of_ble_eq_true rfl, Nat.le_of_ble_eq_true rfl⟩ (fun H locs hw hS => ?_)
  refine lv_bipush (v := (-71)) hx hb dL_refuses_745 (by decide) ?_
  refine lv_icmp_ne (tgt := 840) hx hb dL_refuses_747 (by decide) (fun z => absurd ((by decide)) z) (fun c68 => ?_)
  refine lv_aload_n hx hb dL_refuses_750 rfl (lv_at hl 8 rfl) ?_
  refine lv_bipush (v := (15)) hx hb dL_refuses_751 (by decide) ?_
  refine lv_iload hx hb dL_refuses_753 (lv_at hl 4 rfl) ?_
  refine lv_iconst (v := (-1)) hx hb dL_refuses_755 (by decide) ?_
  refine lv_iconst (v := (0)) hx hb dL_refuses_756 (by decide) ?_
  refine lv_iconst (v := (0)) hx hb dL_refuses_757 (by decide) ?_
  refine mcallX (rest := []) hw ⟨hx, hb, hml, hown, hts⟩ hS (x_X3_worked_1 hl0 hC hwf (nI nw) (-1) (inn_self (by omega)) 0 0) (vx_cwSW 6 hts gL_refuses_L_act rfl rfl rfl (by decide +kernel) ⟨Nat.le_of_ble_eq_true rfl, Nat.le_of_ble_eq_true rfl⟩) rfl hl.1 rfl (Nat.le_of_ble_eq_true rfl) dL_refuses_758 ⟨Nat.le_of_ble_eq_true rfl, Nat.le_of_ble_eq_true rfl⟩ (fun H locs hw hS => ?_)
  refine lv_bipush (v := (-71)) hx hb dL_refuses_761 (by decide) ?_
  refine lv_icmp_ne (tgt := 840) hx hb dL_refuses_763 (by decide) (fun z => absurd ((by decide)) z) (fun c69 => ?_)
  refine lv_aload_n hx hb dL_refuses_766 rfl (lv_at hl 8 rfl) ?_
  refine lv_bipush (v := (15)) hx hb dL_refuses_767 (by decide) ?_
  refine lv_iconst (v := (0)) hx hb dL_refuses_769 (by decide) ?_
  refine lv_iload hx hb dL_refuses_770 (lv_at hl 15 rfl) ?_
  refine lv_iconst (v := (1)) hx hb dL_refuses_772 (by decide) ?_
  refine lv_icmp_ne (tgt := 781) hx hb dL_refuses_773 (by decide) (fun z => absurd ((by decide)) z) (fun c70 => ?_)
  refine lv_bipush (v := (52)) hx hb dL_refuses_776 (by decide) ?_
  refine lv_goto (tgt := 783) hx hb dL_refuses_778 (by decide) ?_
  refine lv_iconst (v := (0)) hx hb dL_refuses_783 (by decide) ?_
  refine lv_iconst (v := (0)) hx hb dL_refuses_784 (by decide) ?_
  refine mcallX (rest := []) hw ⟨hx, hb, hml, hown, hts⟩ hS (x_X3_worked_2 hl0 hC hwf 0 hnw 52 (by decide) 0 0) (vx_cwSW 6 hts gL_refuses_L_act rfl rfl rfl (by decide +kernel) ⟨Nat.le_of_ble_eq_true rfl, Nat.le_of_ble_eq_true rfl⟩) rfl hl.1 rfl (Nat.le_of_ble_eq_true rfl) dL_refuses_785 ⟨Nat.le_of_ble_eq_true rfl, Nat.le_of_ble_eq_true rfl⟩ (fun H locs hw hS => ?_)
  refine lv_bipush (v := (-72)) hx hb dL_refuses_788 (by decide) ?_
  refine lv_icmp_ne (tgt := 840) hx hb dL_refuses_790 (by decide) (fun z => absurd ((by decide)) z) (fun c71 => ?_)
  refine lv_aload_n hx hb dL_refuses_793 rfl (lv_at hl 8 rfl) ?_
  refine lv_bipush (v := (16)) hx hb dL_refuses_794 (by decide) ?_
  refine lv_iload hx hb dL_refuses_796 (lv_at hl 4 rfl) ?_
  refine lv_iconst (v := (-1)) hx hb dL_refuses_798 (by decide) ?_
  refine lv_iconst (v := (0)) hx hb dL_refuses_799 (by decide) ?_
  refine lv_iconst (v := (0)) hx hb dL_refuses_800 (by decide) ?_
  refine mcallX (rest := []) hw ⟨hx, hb, hml, hown, hts⟩ hS (x_X3_excess_1 hl0 hC hwf (nI nw) (-1) (inn_self (by omega)) 0 0) (vx_cwSW 6 hts gL_refuses_L_act rfl rfl rfl (by decide +kernel) ⟨Nat.le_of_ble_eq_true rfl, Nat.le_of_ble_eq_true rfl⟩) rfl hl.1 rfl (Nat.le_of_ble_eq_true rfl) dL_refuses_801 ⟨Nat.le_of_ble_eq_true rfl, Nat.le_of_ble_eq_true rfl⟩ (fun H locs hw hS => ?_)
  refine lv_bipush (v := (-71)) hx hb dL_refuses_804 (by decide) ?_
  refine lv_icmp_ne (tgt := 840) hx hb dL_refuses_806 (by decide) (fun z => absurd ((by decide)) z) (fun c72 => ?_)
  refine lv_aload_n hx hb dL_refuses_809 rfl (lv_at hl 8 rfl) ?_
  refine lv_bipush (v := (16)) hx hb dL_refuses_810 (by decide) ?_
  refine lv_iconst (v := (0)) hx hb dL_refuses_812 (by decide) ?_
  refine lv_iload hx hb dL_refuses_813 (lv_at hl 15 rfl) ?_
  refine lv_iconst (v := (1)) hx hb dL_refuses_815 (by decide) ?_
  refine lv_icmp_ne (tgt := 824) hx hb dL_refuses_816 (by decide) (fun z => absurd ((by decide)) z) (fun c73 => ?_)
  refine lv_bipush (v := (13)) hx hb dL_refuses_819 (by decide) ?_
  refine lv_goto (tgt := 826) hx hb dL_refuses_821 (by decide) ?_
  refine lv_iconst (v := (0)) hx hb dL_refuses_826 (by decide) ?_
  refine lv_iconst (v := (0)) hx hb dL_refuses_827 (by decide) ?_
  refine mcallX (rest := []) hw ⟨hx, hb, hml, hown, hts⟩ hS (x_X3_excess_2 hl0 hC hwf 0 hnw 13 (by decide) 0 0) (vx_cwSW 6 hts gL_refuses_L_act rfl rfl rfl (by decide +kernel) ⟨Nat.le_of_ble_eq_true rfl, Nat.le_of_ble_eq_true rfl⟩) rfl hl.1 rfl (Nat.le_of_ble_eq_true rfl) dL_refuses_828 ⟨Nat.le_of_ble_eq_true rfl, Nat.le_of_ble_eq_true rfl⟩ (fun H locs hw hS => ?_)
  refine lv_bipush (v := (-72)) hx hb dL_refuses_831 (by decide) ?_
  refine lv_icmp_ne (tgt := 840) hx hb dL_refuses_833 (by decide) (fun z => absurd ((by decide)) z) (fun c74 => ?_)
  refine lv_iconst (v := (1)) hx hb dL_refuses_836 (by decide) ?_
  refine lv_goto (tgt := 841) hx hb dL_refuses_837 (by decide) ?_
  refine lv_istore (lv' := [(14, .int (1)), (15, .int (13)), (13, .int (364)), (12, .int (nI ns)), (11, .int (nI nw)), (10, .int (nI nr)), (9, .int (4)), (8, .int ((-2147483648))), (0, .ref (α (0))), (1, .int (nI nr)), (2, .int (nI nw)), (3, .int (nI ns)), (4, .int (P)), (5, .int (Wk)), (6, .int (2147483647)), (7, .int (1))]) hx hb dL_refuses_841 hl (by decide) rfl (fun ls hl => ?_)
  refine lv_iload hx hb dL_refuses_843 (lv_at hl 0 rfl) ?_
  refine lv_if_ne (tgt := 850) hx hb dL_refuses_845 (by decide) (fun c75 => ?_) (fun z => absurd z ((by decide)))
  refine lv_iinc (v := 2) (lv' := [(7, .int (2)), (14, .int (1)), (15, .int (13)), (13, .int (364)), (12, .int (nI ns)), (11, .int (nI nw)), (10, .int (nI nr)), (9, .int (4)), (8, .int ((-2147483648))), (0, .ref (α (0))), (1, .int (nI nr)), (2, .int (nI nw)), (3, .int (nI ns)), (4, .int (P)), (5, .int (Wk)), (6, .int (2147483647))]) hx hb dL_refuses_850 hl (k := 15) rfl (by decide) (by decide) rfl (fun ls hl => ?_)
  refine lv_goto (tgt := 31) hx hb dL_refuses_853 (by decide) ?_
  exact kk H locs (lv_sub hl [9, 10, 11, 12, 13, 14, 15, 0] rfl) hw hS

set_option maxHeartbeats 40000000 in
set_option maxRecDepth 100000 in
theorem rfA_2 {p : Program} {l : Launch} {e : Env} {s : State} {m : MethodId} {args : Array Value} {below : List Frame} {meth : Method} {c : Code} {Q : State → Prop} {G : mG} {V : mV} {α : Nat → Nat} (hl0 : l.stackTraces = false) (hx : p.tables.exec = Jvm.exec) (hb : c.code = cL_refuses) (hml : c.maxLocals = 16) (hown : s.vm.findClass RL = some m.cls) (hts : ∀ w ∈ wsL_refuses, w.before args s = true) {f : sT} {nr nw ns : Nat} (hC : mC G V α f nr nw ns) (hwf : mwf f nr nw ns) (hnw : 0 < nw) (hns : ns = 0) {P Wk : Int32}
    (kk : ∀ (H : Heap) (locs : List Loc) {ls : Array Slot} (hl : lv_has ls 16 [(0, .ref (α (0))), (1, .int (nI nr)), (2, .int (nI nw)), (3, .int (nI ns)), (4, .int (P)), (5, .int (Wk)), (6, .int (2147483647)), (7, .int (3))]) (hw : mW G V α s H) (hS : va_S (mfree G) s.heap H locs), W p l e ({ frames := 9, cells := 124, slots := 744, locals := 172 } : Room) s m args below meth c H locs 93 558 Q (F0 m 31 ls []))
    (H : Heap) (locs : List Loc) {ls : Array Slot} (hl : lv_has ls 16 [(0, .ref (α (0))), (1, .int (nI nr)), (2, .int (nI nw)), (3, .int (nI ns)), (4, .int (P)), (5, .int (Wk)), (6, .int (2147483647)), (7, .int (2))]) (hw : mW G V α s H) (hS : va_S (mfree G) s.heap H locs) : W p l e ({ frames := 9, cells := 124, slots := 744, locals := 172 } : Room) s m args below meth c H locs 62 372 Q (F0 m 31 ls []) := by
  have hl16 := hwf.1.1
  have hl12 := hwf.1.2.1
  have hl80 := hwf.1.2.2
  refine lv_iload hx hb dL_refuses_31 (lv_at hl 7 rfl) ?_
  refine lv_iconst (v := (4)) hx hb dL_refuses_33 (by decide) ?_
  refine lv_icmp_ge (tgt := 856) hx hb dL_refuses_34 (by decide) (fun z => absurd z ((by decide))) (fun c1 => ?_)
  refine lv_iload hx hb dL_refuses_37 (lv_at hl 7 rfl) ?_
  refine lv_if_ne (tgt := 46) hx hb dL_refuses_39 (by decide) (fun c2 => ?_) (fun z => absurd z ((by decide)))
  refine lv_iload hx hb dL_refuses_46 (lv_at hl 7 rfl) ?_
  refine lv_iconst (v := (2)) hx hb dL_refuses_48 (by decide) ?_
  refine lv_icmp_ne (tgt := 57) hx hb dL_refuses_49 (by decide) (fun z => absurd ((by decide)) z) (fun c3 => ?_)
  refine lv_iload hx hb dL_refuses_52 (lv_at hl 6 rfl) ?_
  refine lv_goto (tgt := 62) hx hb dL_refuses_54 (by decide) ?_
  refine lv_istore (lv' := [(8, .int (2147483647)), (0, .ref (α (0))), (1, .int (nI nr)), (2, .int (nI nw)), (3, .int (nI ns)), (4, .int (P)), (5, .int (Wk)), (6, .int (2147483647)), (7, .int (2))]) hx hb dL_refuses_62 hl (by decide) rfl (fun ls hl => ?_)
  refine lv_iload hx hb dL_refuses_64 (lv_at hl 8 rfl) ?_
  refine lv_iconst (v := (1)) hx hb dL_refuses_66 (by decide) ?_
  refine lv_icmp_ne (tgt := 74) hx hb dL_refuses_67 (by decide) (fun c4 => ?_) (fun z => absurd z ((by decide)))
  refine lv_iload hx hb dL_refuses_74 (lv_at hl 0 rfl) ?_
  refine lv_istore (lv' := [(9, .int (2147483647)), (8, .int (2147483647)), (0, .ref (α (0))), (1, .int (nI nr)), (2, .int (nI nw)), (3, .int (nI ns)), (4, .int (P)), (5, .int (Wk)), (6, .int (2147483647)), (7, .int (2))]) hx hb dL_refuses_76 hl (by decide) rfl (fun ls hl => ?_)
  refine lv_iload hx hb dL_refuses_78 (lv_at hl 9 rfl) ?_
  refine lv_iconst (v := (1)) hx hb dL_refuses_80 (by decide) ?_
  refine lv_icmp_ne (tgt := 88) hx hb dL_refuses_81 (by decide) (fun c5 => ?_) (fun z => absurd z ((by decide)))
  refine lv_iload hx hb dL_refuses_88 (lv_at hl 1 rfl) ?_
  refine lv_istore (lv' := [(10, .int (2147483647)), (9, .int (2147483647)), (8, .int (2147483647)), (0, .ref (α (0))), (1, .int (nI nr)), (2, .int (nI nw)), (3, .int (nI ns)), (4, .int (P)), (5, .int (Wk)), (6, .int (2147483647)), (7, .int (2))]) hx hb dL_refuses_90 hl (by decide) rfl (fun ls hl => ?_)
  refine lv_iload hx hb dL_refuses_92 (lv_at hl 10 rfl) ?_
  refine lv_iconst (v := (1)) hx hb dL_refuses_94 (by decide) ?_
  refine lv_icmp_ne (tgt := 102) hx hb dL_refuses_95 (by decide) (fun c6 => ?_) (fun z => absurd z ((by decide)))
  refine lv_iload hx hb dL_refuses_102 (lv_at hl 2 rfl) ?_
  refine lv_istore (lv' := [(11, .int (2147483647)), (10, .int (2147483647)), (9, .int (2147483647)), (8, .int (2147483647)), (0, .ref (α (0))), (1, .int (nI nr)), (2, .int (nI nw)), (3, .int (nI ns)), (4, .int (P)), (5, .int (Wk)), (6, .int (2147483647)), (7, .int (2))]) hx hb dL_refuses_104 hl (by decide) rfl (fun ls hl => ?_)
  refine lv_iload hx hb dL_refuses_106 (lv_at hl 11 rfl) ?_
  refine lv_iconst (v := (1)) hx hb dL_refuses_108 (by decide) ?_
  refine lv_icmp_ne (tgt := 116) hx hb dL_refuses_109 (by decide) (fun c7 => ?_) (fun z => absurd z ((by decide)))
  refine lv_iload hx hb dL_refuses_116 (lv_at hl 3 rfl) ?_
  refine lv_istore (lv' := [(12, .int (2147483647)), (11, .int (2147483647)), (10, .int (2147483647)), (9, .int (2147483647)), (8, .int (2147483647)), (0, .ref (α (0))), (1, .int (nI nr)), (2, .int (nI nw)), (3, .int (nI ns)), (4, .int (P)), (5, .int (Wk)), (6, .int (2147483647)), (7, .int (2))]) hx hb dL_refuses_118 hl (by decide) rfl (fun ls hl => ?_)
  refine lv_iload hx hb dL_refuses_120 (lv_at hl 12 rfl) ?_
  refine lv_iconst (v := (1)) hx hb dL_refuses_122 (by decide) ?_
  refine lv_icmp_ne (tgt := 132) hx hb dL_refuses_123 (by decide) (fun c8 => ?_) (fun z => absurd z ((by decide)))
  refine lv_iload hx hb dL_refuses_132 (lv_at hl 4 rfl) ?_
  refine lv_istore (lv' := [(13, .int (2147483647)), (12, .int (2147483647)), (11, .int (2147483647)), (10, .int (2147483647)), (9, .int (2147483647)), (8, .int (2147483647)), (0, .ref (α (0))), (1, .int (nI nr)), (2, .int (nI nw)), (3, .int (nI ns)), (4, .int (P)), (5, .int (Wk)), (6, .int (2147483647)), (7, .int (2))]) hx hb dL_refuses_134 hl (by decide) rfl (fun ls hl => ?_)
  refine lv_aload_n hx hb dL_refuses_136 rfl (lv_at hl 6 rfl) ?_
  refine lv_iconst (v := (0)) hx hb dL_refuses_137 (by decide) ?_
  refine lv_iload hx hb dL_refuses_138 (lv_at hl 4 rfl) ?_
  refine lv_iconst (v := (5)) hx hb dL_refuses_140 (by decide) ?_
  refine lv_iconst (v := (0)) hx hb dL_refuses_141 (by decide) ?_
  refine lv_iconst (v := (0)) hx hb dL_refuses_142 (by decide) ?_
  refine mcallX (rest := []) hw ⟨hx, hb, hml, hown, hts⟩ hS (x_X3_setBase hl0 hC hwf 2147483647 5 (by decide) 0 0) (vx_cwSW 6 hts gL_refuses_L_act rfl rfl rfl (by decide +kernel) ⟨Nat.le_of_ble_eq_true rfl, Nat.le_of_ble_eq_true rfl⟩) rfl hl.1 rfl (Nat.le_of_ble_eq_true rfl) dL_refuses_143 ⟨Nat.le_of_ble_eq_true rfl, Nat.le_of_ble_eq_true rfl⟩ (fun H locs hw hS => ?_)
  refine lv_bipush (v := (-72)) hx hb dL_refuses_146 (by decide) ?_
  refine lv_icmp_ne (tgt := 537) hx hb dL_refuses_148 (by decide) (fun z => absurd ((by decide)) z) (fun c9 => ?_)
  refine lv_aload_n hx hb dL_refuses_151 rfl (lv_at hl 6 rfl) ?_
  refine lv_iconst (v := (0)) hx hb dL_refuses_152 (by decide) ?_
  refine lv_iconst (v := (0)) hx hb dL_refuses_153 (by decide) ?_
  refine lv_iload hx hb dL_refuses_154 (lv_at hl 13 rfl) ?_
  refine lv_if_ne (tgt := 163) hx hb dL_refuses_156 (by decide) (fun c10 => ?_) (fun z => absurd z ((by decide)))
  refine lv_iload hx hb dL_refuses_163 (lv_at hl 13 rfl) ?_
  refine lv_iconst (v := (1)) hx hb dL_refuses_165 (by decide) ?_
  refine lv_icmp_ne (tgt := 175) hx hb dL_refuses_166 (by decide) (fun c11 => ?_) (fun z => absurd z ((by decide)))
  refine lv_iload hx hb dL_refuses_175 (lv_at hl 5 rfl) ?_
  refine lv_iconst (v := (0)) hx hb dL_refuses_177 (by decide) ?_
  refine lv_iconst (v := (0)) hx hb dL_refuses_178 (by decide) ?_
  refine mcallX (rest := []) hw ⟨hx, hb, hml, hown, hts⟩ hS (x_X3_setBase hl0 hC hwf 0 2147483647 (by decide) 0 0) (vx_cwSW 6 hts gL_refuses_L_act rfl rfl rfl (by decide +kernel) ⟨Nat.le_of_ble_eq_true rfl, Nat.le_of_ble_eq_true rfl⟩) rfl hl.1 rfl (Nat.le_of_ble_eq_true rfl) dL_refuses_179 ⟨Nat.le_of_ble_eq_true rfl, Nat.le_of_ble_eq_true rfl⟩ (fun H locs hw hS => ?_)
  refine lv_bipush (v := (-72)) hx hb dL_refuses_182 (by decide) ?_
  refine lv_icmp_ne (tgt := 537) hx hb dL_refuses_184 (by decide) (fun z => absurd ((by decide)) z) (fun c12 => ?_)
  refine lv_aload_n hx hb dL_refuses_187 rfl (lv_at hl 6 rfl) ?_
  refine lv_iload hx hb dL_refuses_188 (lv_at hl 13 rfl) ?_
  refine lv_iconst (v := (1)) hx hb dL_refuses_190 (by decide) ?_
  refine lv_icmp_ne (tgt := 200) hx hb dL_refuses_191 (by decide) (fun c13 => ?_) (fun z => absurd z ((by decide)))
  refine lv_iload hx hb dL_refuses_200 (lv_at hl 5 rfl) ?_
  refine lv_iconst (v := (5)) hx hb dL_refuses_202 (by decide) ?_
  refine lv_bipush (v := (6)) hx hb dL_refuses_203 (by decide) ?_
  refine lv_iconst (v := (1)) hx hb dL_refuses_205 (by decide) ?_
  refine lv_bipush (v := (100)) hx hb dL_refuses_206 (by decide) ?_
  refine mcallX (rest := []) hw ⟨hx, hb, hml, hown, hts⟩ hS (x_X3_addRule_1 hl0 hC hwf 2147483647 5 6 1 100 (by decide)) (vx_cwSW 6 hts gL_refuses_L_rule rfl rfl rfl (by decide +kernel) ⟨Nat.le_of_ble_eq_true rfl, Nat.le_of_ble_eq_true rfl⟩) rfl hl.1 rfl (Nat.le_of_ble_eq_true rfl) dL_refuses_208 ⟨Nat.le_of_ble_eq_true rfl, Nat.le_of_ble_eq_true rfl⟩ (fun H locs hw hS => ?_)
  refine lv_bipush (v := (-72)) hx hb dL_refuses_211 (by decide) ?_
  refine lv_icmp_ne (tgt := 537) hx hb dL_refuses_213 (by decide) (fun z => absurd ((by decide)) z) (fun c14 => ?_)
  refine lv_aload_n hx hb dL_refuses_216 rfl (lv_at hl 6 rfl) ?_
  refine lv_iconst (v := (1)) hx hb dL_refuses_217 (by decide) ?_
  refine lv_iload hx hb dL_refuses_218 (lv_at hl 13 rfl) ?_
  refine lv_iconst (v := (1)) hx hb dL_refuses_220 (by decide) ?_
  refine lv_icmp_ne (tgt := 229) hx hb dL_refuses_221 (by decide) (fun c15 => ?_) (fun z => absurd z ((by decide)))
  refine lv_iload hx hb dL_refuses_229 (lv_at hl 5 rfl) ?_
  refine lv_bipush (v := (96)) hx hb dL_refuses_231 (by decide) ?_
  refine lv_iconst (v := (1)) hx hb dL_refuses_233 (by decide) ?_
  refine lv_bipush (v := (100)) hx hb dL_refuses_234 (by decide) ?_
  refine mcallX (rest := []) hw ⟨hx, hb, hml, hown, hts⟩ hS (x_X3_addRule_1 hl0 hC hwf 1 2147483647 96 1 100 (by decide)) (vx_cwSW 6 hts gL_refuses_L_rule rfl rfl rfl (by decide +kernel) ⟨Nat.le_of_ble_eq_true rfl, Nat.le_of_ble_eq_true rfl⟩) rfl hl.1 rfl (Nat.le_of_ble_eq_true rfl) dL_refuses_236 ⟨Nat.le_of_ble_eq_true rfl, Nat.le_of_ble_eq_true rfl⟩ (fun H locs hw hS => ?_)
  refine lv_bipush (v := (-72)) hx hb dL_refuses_239 (by decide) ?_
  refine lv_icmp_ne (tgt := 537) hx hb dL_refuses_241 (by decide) (fun z => absurd ((by decide)) z) (fun c16 => ?_)
  refine lv_aload_n hx hb dL_refuses_244 rfl (lv_at hl 6 rfl) ?_
  refine lv_iconst (v := (1)) hx hb dL_refuses_245 (by decide) ?_
  refine lv_iconst (v := (5)) hx hb dL_refuses_246 (by decide) ?_
  refine lv_iload hx hb dL_refuses_247 (lv_at hl 13 rfl) ?_
  refine lv_if_ne (tgt := 256) hx hb dL_refuses_249 (by decide) (fun c17 => ?_) (fun z => absurd z ((by decide)))
  refine lv_iload hx hb dL_refuses_256 (lv_at hl 13 rfl) ?_
  refine lv_iconst (v := (1)) hx hb dL_refuses_258 (by decide) ?_
  refine lv_icmp_ne (tgt := 267) hx hb dL_refuses_259 (by decide) (fun c18 => ?_) (fun z => absurd z ((by decide)))
  refine lv_iload hx hb dL_refuses_267 (lv_at hl 5 rfl) ?_
  refine lv_iconst (v := (1)) hx hb dL_refuses_269 (by decide) ?_
  refine lv_bipush (v := (100)) hx hb dL_refuses_270 (by decide) ?_
  refine mcallX (rest := []) hw ⟨hx, hb, hml, hown, hts⟩ hS (x_X3_addRule_1 hl0 hC hwf 1 5 2147483647 1 100 (by decide)) (vx_cwSW 6 hts gL_refuses_L_rule rfl rfl rfl (by decide +kernel) ⟨Nat.le_of_ble_eq_true rfl, Nat.le_of_ble_eq_true rfl⟩) rfl hl.1 rfl (Nat.le_of_ble_eq_true rfl) dL_refuses_272 ⟨Nat.le_of_ble_eq_true rfl, Nat.le_of_ble_eq_true rfl⟩ (fun H locs hw hS => ?_)
  refine lv_bipush (v := (-72)) hx hb dL_refuses_275 (by decide) ?_
  refine lv_icmp_ne (tgt := 537) hx hb dL_refuses_277 (by decide) (fun z => absurd ((by decide)) z) (fun c19 => ?_)
  refine lv_aload_n hx hb dL_refuses_280 rfl (lv_at hl 6 rfl) ?_
  refine lv_iconst (v := (1)) hx hb dL_refuses_281 (by decide) ?_
  refine lv_iconst (v := (5)) hx hb dL_refuses_282 (by decide) ?_
  refine lv_bipush (v := (6)) hx hb dL_refuses_283 (by decide) ?_
  refine lv_iload hx hb dL_refuses_285 (lv_at hl 13 rfl) ?_
  refine lv_if_ne (tgt := 294) hx hb dL_refuses_287 (by decide) (fun c20 => ?_) (fun z => absurd z ((by decide)))
  refine lv_iload hx hb dL_refuses_294 (lv_at hl 13 rfl) ?_
  refine lv_iconst (v := (1)) hx hb dL_refuses_296 (by decide) ?_
  refine lv_icmp_ne (tgt := 305) hx hb dL_refuses_297 (by decide) (fun c21 => ?_) (fun z => absurd z ((by decide)))
  refine lv_iload hx hb dL_refuses_305 (lv_at hl 5 rfl) ?_
  refine lv_bipush (v := (100)) hx hb dL_refuses_307 (by decide) ?_
  refine mcallX (rest := []) hw ⟨hx, hb, hml, hown, hts⟩ hS (x_X3_addRule_1 hl0 hC hwf 1 5 6 2147483647 100 (by decide)) (vx_cwSW 6 hts gL_refuses_L_rule rfl rfl rfl (by decide +kernel) ⟨Nat.le_of_ble_eq_true rfl, Nat.le_of_ble_eq_true rfl⟩) rfl hl.1 rfl (Nat.le_of_ble_eq_true rfl) dL_refuses_309 ⟨Nat.le_of_ble_eq_true rfl, Nat.le_of_ble_eq_true rfl⟩ (fun H locs hw hS => ?_)
  refine lv_bipush (v := (-72)) hx hb dL_refuses_312 (by decide) ?_
  refine lv_icmp_ne (tgt := 537) hx hb dL_refuses_314 (by decide) (fun z => absurd ((by decide)) z) (fun c22 => ?_)
  refine lv_aload_n hx hb dL_refuses_317 rfl (lv_at hl 6 rfl) ?_
  refine lv_iconst (v := (1)) hx hb dL_refuses_318 (by decide) ?_
  refine lv_iconst (v := (5)) hx hb dL_refuses_319 (by decide) ?_
  refine lv_bipush (v := (6)) hx hb dL_refuses_320 (by decide) ?_
  refine lv_iconst (v := (1)) hx hb dL_refuses_322 (by decide) ?_
  refine lv_iload hx hb dL_refuses_323 (lv_at hl 13 rfl) ?_
  refine lv_if_ne (tgt := 333) hx hb dL_refuses_325 (by decide) (fun c23 => ?_) (fun z => absurd z ((by decide)))
  refine lv_iload hx hb dL_refuses_333 (lv_at hl 13 rfl) ?_
  refine lv_iconst (v := (1)) hx hb dL_refuses_335 (by decide) ?_
  refine lv_icmp_ne (tgt := 345) hx hb dL_refuses_336 (by decide) (fun c24 => ?_) (fun z => absurd z ((by decide)))
  refine lv_iload hx hb dL_refuses_345 (lv_at hl 5 rfl) ?_
  refine mcallX (rest := []) hw ⟨hx, hb, hml, hown, hts⟩ hS (x_X3_addRule_1 hl0 hC hwf 1 5 6 1 2147483647 (by decide)) (vx_cwSW 6 hts gL_refuses_L_rule rfl rfl rfl (by decide +kernel) ⟨Nat.le_of_ble_eq_true rfl, Nat.le_of_ble_eq_true rfl⟩) rfl hl.1 rfl (Nat.le_of_ble_eq_true rfl) dL_refuses_347 ⟨Nat.le_of_ble_eq_true rfl, Nat.le_of_ble_eq_true rfl⟩ (fun H locs hw hS => ?_)
  refine lv_bipush (v := (-72)) hx hb dL_refuses_350 (by decide) ?_
  refine lv_icmp_ne (tgt := 537) hx hb dL_refuses_352 (by decide) (fun z => absurd ((by decide)) z) (fun c25 => ?_)
  refine lv_aload_n hx hb dL_refuses_355 rfl (lv_at hl 6 rfl) ?_
  refine lv_iconst (v := (1)) hx hb dL_refuses_356 (by decide) ?_
  refine lv_iload hx hb dL_refuses_357 (lv_at hl 3 rfl) ?_
  refine lv_iconst (v := (1)) hx hb dL_refuses_359 (by decide) ?_
  refine lv_iconst (v := (0)) hx hb dL_refuses_360 (by decide) ?_
  refine lv_iconst (v := (0)) hx hb dL_refuses_361 (by decide) ?_
  refine mcallX (rest := []) hw ⟨hx, hb, hml, hown, hts⟩ hS (x_X3_setRule hl0 hC hwf 2147483647 (inn_most (by omega)) 0 0) (vx_cwSW 6 hts gL_refuses_L_act rfl rfl rfl (by decide +kernel) ⟨Nat.le_of_ble_eq_true rfl, Nat.le_of_ble_eq_true rfl⟩) rfl hl.1 rfl (Nat.le_of_ble_eq_true rfl) dL_refuses_362 ⟨Nat.le_of_ble_eq_true rfl, Nat.le_of_ble_eq_true rfl⟩ (fun H locs hw hS => ?_)
  refine lv_bipush (v := (-71)) hx hb dL_refuses_365 (by decide) ?_
  refine lv_icmp_ne (tgt := 537) hx hb dL_refuses_367 (by decide) (fun z => absurd ((by decide)) z) (fun c26 => ?_)
  refine lv_aload_n hx hb dL_refuses_370 rfl (lv_at hl 6 rfl) ?_
  refine lv_iconst (v := (2)) hx hb dL_refuses_371 (by decide) ?_
  refine lv_iload hx hb dL_refuses_372 (lv_at hl 0 rfl) ?_
  refine lv_iconst (v := (1)) hx hb dL_refuses_374 (by decide) ?_
  refine lv_iconst (v := (0)) hx hb dL_refuses_375 (by decide) ?_
  refine lv_iconst (v := (0)) hx hb dL_refuses_376 (by decide) ?_
  refine mcallX (rest := []) hw ⟨hx, hb, hml, hown, hts⟩ hS (x_X3_setHoliday hl0 hC hwf 2147483647 (by decide) 0 0) (vx_cwSW 6 hts gL_refuses_L_act rfl rfl rfl (by decide +kernel) ⟨Nat.le_of_ble_eq_true rfl, Nat.le_of_ble_eq_true rfl⟩) rfl hl.1 rfl (Nat.le_of_ble_eq_true rfl) dL_refuses_377 ⟨Nat.le_of_ble_eq_true rfl, Nat.le_of_ble_eq_true rfl⟩ (fun H locs hw hS => ?_)
  refine lv_bipush (v := (-72)) hx hb dL_refuses_380 (by decide) ?_
  refine lv_icmp_ne (tgt := 537) hx hb dL_refuses_382 (by decide) (fun z => absurd ((by decide)) z) (fun c27 => ?_)
  refine lv_aload_n hx hb dL_refuses_385 rfl (lv_at hl 6 rfl) ?_
  refine lv_iconst (v := (3)) hx hb dL_refuses_386 (by decide) ?_
  refine lv_iload hx hb dL_refuses_387 (lv_at hl 4 rfl) ?_
  refine lv_iconst (v := (0)) hx hb dL_refuses_389 (by decide) ?_
  refine lv_iconst (v := (0)) hx hb dL_refuses_390 (by decide) ?_
  refine lv_iconst (v := (0)) hx hb dL_refuses_391 (by decide) ?_
  refine mcallX (rest := []) hw ⟨hx, hb, hml, hown, hts⟩ hS (x_X3_addWorker_1 hl0 hC hwf 2147483647 (by decide) 0 0 0) (vx_cwSW 6 hts gL_refuses_L_act rfl rfl rfl (by decide +kernel) ⟨Nat.le_of_ble_eq_true rfl, Nat.le_of_ble_eq_true rfl⟩) rfl hl.1 rfl (Nat.le_of_ble_eq_true rfl) dL_refuses_392 ⟨Nat.le_of_ble_eq_true rfl, Nat.le_of_ble_eq_true rfl⟩ (fun H locs hw hS => ?_)
  refine lv_bipush (v := (-72)) hx hb dL_refuses_395 (by decide) ?_
  refine lv_icmp_ne (tgt := 537) hx hb dL_refuses_397 (by decide) (fun z => absurd ((by decide)) z) (fun c28 => ?_)
  refine lv_aload_n hx hb dL_refuses_400 rfl (lv_at hl 6 rfl) ?_
  refine lv_iconst (v := (4)) hx hb dL_refuses_401 (by decide) ?_
  refine lv_iload hx hb dL_refuses_402 (lv_at hl 2 rfl) ?_
  refine lv_iconst (v := (-1)) hx hb dL_refuses_404 (by decide) ?_
  refine lv_iconst (v := (0)) hx hb dL_refuses_405 (by decide) ?_
  refine lv_iconst (v := (0)) hx hb dL_refuses_406 (by decide) ?_
  refine mcallX (rest := []) hw ⟨hx, hb, hml, hown, hts⟩ hS (x_X3_setRank_1 hl0 hC hwf 2147483647 (-1) (inn_most (by omega)) 0 0) (vx_cwSW 6 hts gL_refuses_L_act rfl rfl rfl (by decide +kernel) ⟨Nat.le_of_ble_eq_true rfl, Nat.le_of_ble_eq_true rfl⟩) rfl hl.1 rfl (Nat.le_of_ble_eq_true rfl) dL_refuses_407 ⟨Nat.le_of_ble_eq_true rfl, Nat.le_of_ble_eq_true rfl⟩ (fun H locs hw hS => ?_)
  refine lv_bipush (v := (-71)) hx hb dL_refuses_410 (by decide) ?_
  refine lv_icmp_ne (tgt := 537) hx hb dL_refuses_412 (by decide) (fun z => absurd ((by decide)) z) (fun c29 => ?_)
  refine lv_aload_n hx hb dL_refuses_415 rfl (lv_at hl 6 rfl) ?_
  refine lv_iconst (v := (4)) hx hb dL_refuses_416 (by decide) ?_
  refine lv_iconst (v := (0)) hx hb dL_refuses_417 (by decide) ?_
  refine lv_iload hx hb dL_refuses_418 (lv_at hl 4 rfl) ?_
  refine lv_iconst (v := (0)) hx hb dL_refuses_420 (by decide) ?_
  refine lv_iconst (v := (0)) hx hb dL_refuses_421 (by decide) ?_
  refine mcallX (rest := []) hw ⟨hx, hb, hml, hown, hts⟩ hS (x_X3_setRank_2 hl0 hC hwf 0 hnw 2147483647 (by decide) 0 0) (vx_cwSW 6 hts gL_refuses_L_act rfl rfl rfl (by decide +kernel) ⟨Nat.le_of_ble_eq_true rfl, Nat.le_of_ble_eq_true rfl⟩) rfl hl.1 rfl (Nat.le_of_ble_eq_true rfl) dL_refuses_422 ⟨Nat.le_of_ble_eq_true rfl, Nat.le_of_ble_eq_true rfl⟩ (fun H locs hw hS => ?_)
  refine lv_bipush (v := (-72)) hx hb dL_refuses_425 (by decide) ?_
  refine lv_icmp_ne (tgt := 537) hx hb dL_refuses_427 (by decide) (fun z => absurd ((by decide)) z) (fun c30 => ?_)
  refine lv_aload_n hx hb dL_refuses_430 rfl (lv_at hl 6 rfl) ?_
  refine lv_iconst (v := (5)) hx hb dL_refuses_431 (by decide) ?_
  refine lv_iload hx hb dL_refuses_432 (lv_at hl 2 rfl) ?_
  refine lv_iconst (v := (-1)) hx hb dL_refuses_434 (by decide) ?_
  refine lv_iconst (v := (0)) hx hb dL_refuses_435 (by decide) ?_
  refine lv_iconst (v := (0)) hx hb dL_refuses_436 (by decide) ?_
  refine mcallX (rest := []) hw ⟨hx, hb, hml, hown, hts⟩ hS (x_X3_addShift_1 hl0 hC hwf 2147483647 (-1) 0 0 (inn_most (by omega))) (vx_cwSW 6 hts gL_refuses_L_act rfl rfl rfl (by decide +kernel) ⟨Nat.le_of_ble_eq_true rfl, Nat.le_of_ble_eq_true rfl⟩) rfl hl.1 rfl (Nat.le_of_ble_eq_true rfl) dL_refuses_437 ⟨Nat.le_of_ble_eq_true rfl, Nat.le_of_ble_eq_true rfl⟩ (fun H locs hw hS => ?_)
  refine lv_bipush (v := (-71)) hx hb dL_refuses_440 (by decide) ?_
  refine lv_icmp_ne (tgt := 537) hx hb dL_refuses_442 (by decide) (fun z => absurd ((by decide)) z) (fun c31 => ?_)
  refine lv_aload_n hx hb dL_refuses_445 rfl (lv_at hl 6 rfl) ?_
  refine lv_iconst (v := (5)) hx hb dL_refuses_446 (by decide) ?_
  refine lv_iconst (v := (0)) hx hb dL_refuses_447 (by decide) ?_
  refine lv_iload hx hb dL_refuses_448 (lv_at hl 13 rfl) ?_
  refine lv_iconst (v := (1)) hx hb dL_refuses_450 (by decide) ?_
  refine lv_icmp_ne (tgt := 460) hx hb dL_refuses_451 (by decide) (fun c32 => ?_) (fun z => absurd z ((by decide)))
  refine lv_iload hx hb dL_refuses_460 (lv_at hl 5 rfl) ?_
  refine lv_iconst (v := (5)) hx hb dL_refuses_462 (by decide) ?_
  refine lv_iconst (v := (5)) hx hb dL_refuses_463 (by decide) ?_
  refine mcallX (rest := []) hw ⟨hx, hb, hml, hown, hts⟩ hS (x_X3_addShift_2 hl0 hC hwf 0 hnw 2147483647 5 5 (by decide)) (vx_cwSW 6 hts gL_refuses_L_act rfl rfl rfl (by decide +kernel) ⟨Nat.le_of_ble_eq_true rfl, Nat.le_of_ble_eq_true rfl⟩) rfl hl.1 rfl (Nat.le_of_ble_eq_true rfl) dL_refuses_464 ⟨Nat.le_of_ble_eq_true rfl, Nat.le_of_ble_eq_true rfl⟩ (fun H locs hw hS => ?_)
  refine lv_bipush (v := (-72)) hx hb dL_refuses_467 (by decide) ?_
  refine lv_icmp_ne (tgt := 537) hx hb dL_refuses_469 (by decide) (fun z => absurd ((by decide)) z) (fun c33 => ?_)
  refine lv_aload_n hx hb dL_refuses_472 rfl (lv_at hl 6 rfl) ?_
  refine lv_iconst (v := (5)) hx hb dL_refuses_473 (by decide) ?_
  refine lv_iconst (v := (0)) hx hb dL_refuses_474 (by decide) ?_
  refine lv_iconst (v := (5)) hx hb dL_refuses_475 (by decide) ?_
  refine lv_iload hx hb dL_refuses_476 (lv_at hl 13 rfl) ?_
  refine lv_iconst (v := (1)) hx hb dL_refuses_478 (by decide) ?_
  refine lv_icmp_ne (tgt := 487) hx hb dL_refuses_479 (by decide) (fun c34 => ?_) (fun z => absurd z ((by decide)))
  refine lv_iload hx hb dL_refuses_487 (lv_at hl 5 rfl) ?_
  refine lv_iconst (v := (5)) hx hb dL_refuses_489 (by decide) ?_
  refine mcallX (rest := []) hw ⟨hx, hb, hml, hown, hts⟩ hS (x_X3_addShift_2 hl0 hC hwf 0 hnw 5 2147483647 5 (by decide)) (vx_cwSW 6 hts gL_refuses_L_act rfl rfl rfl (by decide +kernel) ⟨Nat.le_of_ble_eq_true rfl, Nat.le_of_ble_eq_true rfl⟩) rfl hl.1 rfl (Nat.le_of_ble_eq_true rfl) dL_refuses_490 ⟨Nat.le_of_ble_eq_true rfl, Nat.le_of_ble_eq_true rfl⟩ (fun H locs hw hS => ?_)
  refine lv_bipush (v := (-72)) hx hb dL_refuses_493 (by decide) ?_
  refine lv_icmp_ne (tgt := 537) hx hb dL_refuses_495 (by decide) (fun z => absurd ((by decide)) z) (fun c35 => ?_)
  refine lv_aload_n hx hb dL_refuses_498 rfl (lv_at hl 6 rfl) ?_
  refine lv_iconst (v := (5)) hx hb dL_refuses_499 (by decide) ?_
  refine lv_iconst (v := (0)) hx hb dL_refuses_500 (by decide) ?_
  refine lv_iconst (v := (5)) hx hb dL_refuses_501 (by decide) ?_
  refine lv_iconst (v := (5)) hx hb dL_refuses_502 (by decide) ?_
  refine lv_iload hx hb dL_refuses_503 (lv_at hl 13 rfl) ?_
  refine lv_if_ne (tgt := 512) hx hb dL_refuses_505 (by decide) (fun c36 => ?_) (fun z => absurd z ((by decide)))
  refine lv_iload hx hb dL_refuses_512 (lv_at hl 13 rfl) ?_
  refine lv_iconst (v := (1)) hx hb dL_refuses_514 (by decide) ?_
  refine lv_icmp_ne (tgt := 523) hx hb dL_refuses_515 (by decide) (fun c37 => ?_) (fun z => absurd z ((by decide)))
  refine lv_iload hx hb dL_refuses_523 (lv_at hl 5 rfl) ?_
  refine mcallX (rest := []) hw ⟨hx, hb, hml, hown, hts⟩ hS (x_X3_addShift_2 hl0 hC hwf 0 hnw 5 5 2147483647 (by decide)) (vx_cwSW 6 hts gL_refuses_L_act rfl rfl rfl (by decide +kernel) ⟨Nat.le_of_ble_eq_true rfl, Nat.le_of_ble_eq_true rfl⟩) rfl hl.1 rfl (Nat.le_of_ble_eq_true rfl) dL_refuses_525 ⟨Nat.le_of_ble_eq_true rfl, Nat.le_of_ble_eq_true rfl⟩ (fun H locs hw hS => ?_)
  refine lv_bipush (v := (-72)) hx hb dL_refuses_528 (by decide) ?_
  refine lv_icmp_ne (tgt := 537) hx hb dL_refuses_530 (by decide) (fun z => absurd ((by decide)) z) (fun c38 => ?_)
  refine lv_iconst (v := (1)) hx hb dL_refuses_533 (by decide) ?_
  refine lv_goto (tgt := 538) hx hb dL_refuses_534 (by decide) ?_
  refine lv_istore (lv' := [(14, .int (1)), (13, .int (2147483647)), (12, .int (2147483647)), (11, .int (2147483647)), (10, .int (2147483647)), (9, .int (2147483647)), (8, .int (2147483647)), (0, .ref (α (0))), (1, .int (nI nr)), (2, .int (nI nw)), (3, .int (nI ns)), (4, .int (P)), (5, .int (Wk)), (6, .int (2147483647)), (7, .int (2))]) hx hb dL_refuses_538 hl (by decide) rfl (fun ls hl => ?_)
  refine lv_bipush (v := (6)) hx hb dL_refuses_540 (by decide) ?_
  refine lv_istore (lv' := [(15, .int (6)), (14, .int (1)), (13, .int (2147483647)), (12, .int (2147483647)), (11, .int (2147483647)), (10, .int (2147483647)), (9, .int (2147483647)), (8, .int (2147483647)), (0, .ref (α (0))), (1, .int (nI nr)), (2, .int (nI nw)), (3, .int (nI ns)), (4, .int (P)), (5, .int (Wk)), (6, .int (2147483647)), (7, .int (2))]) hx hb dL_refuses_542 hl (by decide) rfl (fun ls hl => ?_)
  refine lv_iload hx hb dL_refuses_544 (lv_at hl 0 rfl) ?_
  refine lv_bipush (v := (13)) hx hb dL_refuses_546 (by decide) ?_
  refine lv_icmp_ge (tgt := 585) hx hb dL_refuses_548 (by decide) (fun z => absurd z ((by decide))) (fun c39 => ?_)
  refine lv_iload hx hb dL_refuses_551 (lv_at hl 1 rfl) ?_
  refine lv_if_eq (tgt := 576) hx hb dL_refuses_553 (by decide) (fun z => absurd z ((by decide))) (fun c40 => ?_)
  refine lv_aload_n hx hb dL_refuses_556 rfl (lv_at hl 8 rfl) ?_
  refine lv_iload hx hb dL_refuses_557 (lv_at hl 0 rfl) ?_
  refine lv_iload hx hb dL_refuses_559 (lv_at hl 3 rfl) ?_
  refine lv_iconst (v := (-1)) hx hb dL_refuses_561 (by decide) ?_
  refine lv_iconst (v := (0)) hx hb dL_refuses_562 (by decide) ?_
  refine lv_iconst (v := (0)) hx hb dL_refuses_563 (by decide) ?_
  refine mcallX (rest := []) hw ⟨hx, hb, hml, hown, hts⟩ hS (x_X3_cancel_1 hl0 hC hwf 2147483647 (inn_most (by omega)) (-1) 0 0) (vx_cwSW 6 hts gL_refuses_L_act rfl rfl rfl (by decide +kernel) ⟨Nat.le_of_ble_eq_true rfl, Nat.le_of_ble_eq_true rfl⟩) rfl hl.1 rfl (Nat.le_of_ble_eq_true rfl) dL_refuses_564 ⟨Nat.le_of_ble_eq_true rfl, Nat.le_of_ble_eq_true rfl⟩ (fun H locs hw hS => ?_)
  refine lv_bipush (v := (-71)) hx hb dL_refuses_567 (by decide) ?_
  refine lv_icmp_ne (tgt := 576) hx hb dL_refuses_569 (by decide) (fun z => absurd ((by decide)) z) (fun c41 => ?_)
  refine lv_iconst (v := (1)) hx hb dL_refuses_572 (by decide) ?_
  refine lv_goto (tgt := 577) hx hb dL_refuses_573 (by decide) ?_
  refine lv_istore (lv' := [(14, .int (1)), (15, .int (6)), (13, .int (2147483647)), (12, .int (2147483647)), (11, .int (2147483647)), (10, .int (2147483647)), (9, .int (2147483647)), (8, .int (2147483647)), (0, .ref (α (0))), (1, .int (nI nr)), (2, .int (nI nw)), (3, .int (nI ns)), (4, .int (P)), (5, .int (Wk)), (6, .int (2147483647)), (7, .int (2))]) hx hb dL_refuses_577 hl (by decide) rfl (fun ls hl => ?_)
  refine lv_iinc (v := 7) (lv' := [(15, .int (7)), (14, .int (1)), (13, .int (2147483647)), (12, .int (2147483647)), (11, .int (2147483647)), (10, .int (2147483647)), (9, .int (2147483647)), (8, .int (2147483647)), (0, .ref (α (0))), (1, .int (nI nr)), (2, .int (nI nw)), (3, .int (nI ns)), (4, .int (P)), (5, .int (Wk)), (6, .int (2147483647)), (7, .int (2))]) hx hb dL_refuses_579 hl (k := 1) rfl (by decide) (by decide) rfl (fun ls hl => ?_)
  refine lv_goto (tgt := 544) hx hb dL_refuses_582 (by decide) ?_
  refine lv_iload hx hb dL_refuses_544 (lv_at hl 0 rfl) ?_
  refine lv_bipush (v := (13)) hx hb dL_refuses_546 (by decide) ?_
  refine lv_icmp_ge (tgt := 585) hx hb dL_refuses_548 (by decide) (fun z => absurd z ((by decide))) (fun c42 => ?_)
  refine lv_iload hx hb dL_refuses_551 (lv_at hl 1 rfl) ?_
  refine lv_if_eq (tgt := 576) hx hb dL_refuses_553 (by decide) (fun z => absurd z ((by decide))) (fun c43 => ?_)
  refine lv_aload_n hx hb dL_refuses_556 rfl (lv_at hl 8 rfl) ?_
  refine lv_iload hx hb dL_refuses_557 (lv_at hl 0 rfl) ?_
  refine lv_iload hx hb dL_refuses_559 (lv_at hl 3 rfl) ?_
  refine lv_iconst (v := (-1)) hx hb dL_refuses_561 (by decide) ?_
  refine lv_iconst (v := (0)) hx hb dL_refuses_562 (by decide) ?_
  refine lv_iconst (v := (0)) hx hb dL_refuses_563 (by decide) ?_
  refine mcallX (rest := []) hw ⟨hx, hb, hml, hown, hts⟩ hS (x_X3_takeBreaks_1 hl0 hC hwf 2147483647 (inn_most (by omega)) (-1) 0 0) (vx_cwSW 6 hts gL_refuses_L_act rfl rfl rfl (by decide +kernel) ⟨Nat.le_of_ble_eq_true rfl, Nat.le_of_ble_eq_true rfl⟩) rfl hl.1 rfl (Nat.le_of_ble_eq_true rfl) dL_refuses_564 ⟨Nat.le_of_ble_eq_true rfl, Nat.le_of_ble_eq_true rfl⟩ (fun H locs hw hS => ?_)
  refine lv_bipush (v := (-71)) hx hb dL_refuses_567 (by decide) ?_
  refine lv_icmp_ne (tgt := 576) hx hb dL_refuses_569 (by decide) (fun z => absurd ((by decide)) z) (fun c44 => ?_)
  refine lv_iconst (v := (1)) hx hb dL_refuses_572 (by decide) ?_
  refine lv_goto (tgt := 577) hx hb dL_refuses_573 (by decide) ?_
  refine lv_istore (lv' := [(14, .int (1)), (15, .int (7)), (13, .int (2147483647)), (12, .int (2147483647)), (11, .int (2147483647)), (10, .int (2147483647)), (9, .int (2147483647)), (8, .int (2147483647)), (0, .ref (α (0))), (1, .int (nI nr)), (2, .int (nI nw)), (3, .int (nI ns)), (4, .int (P)), (5, .int (Wk)), (6, .int (2147483647)), (7, .int (2))]) hx hb dL_refuses_577 hl (by decide) rfl (fun ls hl => ?_)
  refine lv_iinc (v := 8) (lv' := [(15, .int (8)), (14, .int (1)), (13, .int (2147483647)), (12, .int (2147483647)), (11, .int (2147483647)), (10, .int (2147483647)), (9, .int (2147483647)), (8, .int (2147483647)), (0, .ref (α (0))), (1, .int (nI nr)), (2, .int (nI nw)), (3, .int (nI ns)), (4, .int (P)), (5, .int (Wk)), (6, .int (2147483647)), (7, .int (2))]) hx hb dL_refuses_579 hl (k := 1) rfl (by decide) (by decide) rfl (fun ls hl => ?_)
  refine lv_goto (tgt := 544) hx hb dL_refuses_582 (by decide) ?_
  refine lv_iload hx hb dL_refuses_544 (lv_at hl 0 rfl) ?_
  refine lv_bipush (v := (13)) hx hb dL_refuses_546 (by decide) ?_
  refine lv_icmp_ge (tgt := 585) hx hb dL_refuses_548 (by decide) (fun z => absurd z ((by decide))) (fun c45 => ?_)
  refine lv_iload hx hb dL_refuses_551 (lv_at hl 1 rfl) ?_
  refine lv_if_eq (tgt := 576) hx hb dL_refuses_553 (by decide) (fun z => absurd z ((by decide))) (fun c46 => ?_)
  refine lv_aload_n hx hb dL_refuses_556 rfl (lv_at hl 8 rfl) ?_
  refine lv_iload hx hb dL_refuses_557 (lv_at hl 0 rfl) ?_
  refine lv_iload hx hb dL_refuses_559 (lv_at hl 3 rfl) ?_
  refine lv_iconst (v := (-1)) hx hb dL_refuses_561 (by decide) ?_
  refine lv_iconst (v := (0)) hx hb dL_refuses_562 (by decide) ?_
  refine lv_iconst (v := (0)) hx hb dL_refuses_563 (by decide) ?_
  refine mcallX (rest := []) hw ⟨hx, hb, hml, hown, hts⟩ hS (x_X3_paidQuarters_1 hl0 hC hwf 2147483647 (inn_most (by omega)) (-1) 0 0) (vx_cwSW 6 hts gL_refuses_L_act rfl rfl rfl (by decide +kernel) ⟨Nat.le_of_ble_eq_true rfl, Nat.le_of_ble_eq_true rfl⟩) rfl hl.1 rfl (Nat.le_of_ble_eq_true rfl) dL_refuses_564 ⟨Nat.le_of_ble_eq_true rfl, Nat.le_of_ble_eq_true rfl⟩ (fun H locs hw hS => ?_)
  refine lv_bipush (v := (-71)) hx hb dL_refuses_567 (by decide) ?_
  refine lv_icmp_ne (tgt := 576) hx hb dL_refuses_569 (by decide) (fun z => absurd ((by decide)) z) (fun c47 => ?_)
  refine lv_iconst (v := (1)) hx hb dL_refuses_572 (by decide) ?_
  refine lv_goto (tgt := 577) hx hb dL_refuses_573 (by decide) ?_
  refine lv_istore (lv' := [(14, .int (1)), (15, .int (8)), (13, .int (2147483647)), (12, .int (2147483647)), (11, .int (2147483647)), (10, .int (2147483647)), (9, .int (2147483647)), (8, .int (2147483647)), (0, .ref (α (0))), (1, .int (nI nr)), (2, .int (nI nw)), (3, .int (nI ns)), (4, .int (P)), (5, .int (Wk)), (6, .int (2147483647)), (7, .int (2))]) hx hb dL_refuses_577 hl (by decide) rfl (fun ls hl => ?_)
  refine lv_iinc (v := 9) (lv' := [(15, .int (9)), (14, .int (1)), (13, .int (2147483647)), (12, .int (2147483647)), (11, .int (2147483647)), (10, .int (2147483647)), (9, .int (2147483647)), (8, .int (2147483647)), (0, .ref (α (0))), (1, .int (nI nr)), (2, .int (nI nw)), (3, .int (nI ns)), (4, .int (P)), (5, .int (Wk)), (6, .int (2147483647)), (7, .int (2))]) hx hb dL_refuses_579 hl (k := 1) rfl (by decide) (by decide) rfl (fun ls hl => ?_)
  refine lv_goto (tgt := 544) hx hb dL_refuses_582 (by decide) ?_
  refine lv_iload hx hb dL_refuses_544 (lv_at hl 0 rfl) ?_
  refine lv_bipush (v := (13)) hx hb dL_refuses_546 (by decide) ?_
  refine lv_icmp_ge (tgt := 585) hx hb dL_refuses_548 (by decide) (fun z => absurd z ((by decide))) (fun c48 => ?_)
  refine lv_iload hx hb dL_refuses_551 (lv_at hl 1 rfl) ?_
  refine lv_if_eq (tgt := 576) hx hb dL_refuses_553 (by decide) (fun z => absurd z ((by decide))) (fun c49 => ?_)
  refine lv_aload_n hx hb dL_refuses_556 rfl (lv_at hl 8 rfl) ?_
  refine lv_iload hx hb dL_refuses_557 (lv_at hl 0 rfl) ?_
  refine lv_iload hx hb dL_refuses_559 (lv_at hl 3 rfl) ?_
  refine lv_iconst (v := (-1)) hx hb dL_refuses_561 (by decide) ?_
  refine lv_iconst (v := (0)) hx hb dL_refuses_562 (by decide) ?_
  refine lv_iconst (v := (0)) hx hb dL_refuses_563 (by decide) ?_
  refine mcallX (rest := []) hw ⟨hx, hb, hml, hown, hts⟩ hS (x_X3_percentAt_1 hl0 hC hwf 2147483647 (inn_most (by omega)) (-1) 0 0) (vx_cwSW 6 hts gL_refuses_L_act rfl rfl rfl (by decide +kernel) ⟨Nat.le_of_ble_eq_true rfl, Nat.le_of_ble_eq_true rfl⟩) rfl hl.1 rfl (Nat.le_of_ble_eq_true rfl) dL_refuses_564 ⟨Nat.le_of_ble_eq_true rfl, Nat.le_of_ble_eq_true rfl⟩ (fun H locs hw hS => ?_)
  refine lv_bipush (v := (-71)) hx hb dL_refuses_567 (by decide) ?_
  refine lv_icmp_ne (tgt := 576) hx hb dL_refuses_569 (by decide) (fun z => absurd ((by decide)) z) (fun c50 => ?_)
  refine lv_iconst (v := (1)) hx hb dL_refuses_572 (by decide) ?_
  refine lv_goto (tgt := 577) hx hb dL_refuses_573 (by decide) ?_
  refine lv_istore (lv' := [(14, .int (1)), (15, .int (9)), (13, .int (2147483647)), (12, .int (2147483647)), (11, .int (2147483647)), (10, .int (2147483647)), (9, .int (2147483647)), (8, .int (2147483647)), (0, .ref (α (0))), (1, .int (nI nr)), (2, .int (nI nw)), (3, .int (nI ns)), (4, .int (P)), (5, .int (Wk)), (6, .int (2147483647)), (7, .int (2))]) hx hb dL_refuses_577 hl (by decide) rfl (fun ls hl => ?_)
  refine lv_iinc (v := 10) (lv' := [(15, .int (10)), (14, .int (1)), (13, .int (2147483647)), (12, .int (2147483647)), (11, .int (2147483647)), (10, .int (2147483647)), (9, .int (2147483647)), (8, .int (2147483647)), (0, .ref (α (0))), (1, .int (nI nr)), (2, .int (nI nw)), (3, .int (nI ns)), (4, .int (P)), (5, .int (Wk)), (6, .int (2147483647)), (7, .int (2))]) hx hb dL_refuses_579 hl (k := 1) rfl (by decide) (by decide) rfl (fun ls hl => ?_)
  refine lv_goto (tgt := 544) hx hb dL_refuses_582 (by decide) ?_
  refine lv_iload hx hb dL_refuses_544 (lv_at hl 0 rfl) ?_
  refine lv_bipush (v := (13)) hx hb dL_refuses_546 (by decide) ?_
  refine lv_icmp_ge (tgt := 585) hx hb dL_refuses_548 (by decide) (fun z => absurd z ((by decide))) (fun c51 => ?_)
  refine lv_iload hx hb dL_refuses_551 (lv_at hl 1 rfl) ?_
  refine lv_if_eq (tgt := 576) hx hb dL_refuses_553 (by decide) (fun z => absurd z ((by decide))) (fun c52 => ?_)
  refine lv_aload_n hx hb dL_refuses_556 rfl (lv_at hl 8 rfl) ?_
  refine lv_iload hx hb dL_refuses_557 (lv_at hl 0 rfl) ?_
  refine lv_iload hx hb dL_refuses_559 (lv_at hl 3 rfl) ?_
  refine lv_iconst (v := (-1)) hx hb dL_refuses_561 (by decide) ?_
  refine lv_iconst (v := (0)) hx hb dL_refuses_562 (by decide) ?_
  refine lv_iconst (v := (0)) hx hb dL_refuses_563 (by decide) ?_
  refine mcallX (rest := []) hw ⟨hx, hb, hml, hown, hts⟩ hS (x_X3_reasonAt_1 hl0 hC hwf 2147483647 (inn_most (by omega)) (-1) 0 0) (vx_cwSW 6 hts gL_refuses_L_act rfl rfl rfl (by decide +kernel) ⟨Nat.le_of_ble_eq_true rfl, Nat.le_of_ble_eq_true rfl⟩) rfl hl.1 rfl (Nat.le_of_ble_eq_true rfl) dL_refuses_564 ⟨Nat.le_of_ble_eq_true rfl, Nat.le_of_ble_eq_true rfl⟩ (fun H locs hw hS => ?_)
  refine lv_bipush (v := (-71)) hx hb dL_refuses_567 (by decide) ?_
  refine lv_icmp_ne (tgt := 576) hx hb dL_refuses_569 (by decide) (fun z => absurd ((by decide)) z) (fun c53 => ?_)
  refine lv_iconst (v := (1)) hx hb dL_refuses_572 (by decide) ?_
  refine lv_goto (tgt := 577) hx hb dL_refuses_573 (by decide) ?_
  refine lv_istore (lv' := [(14, .int (1)), (15, .int (10)), (13, .int (2147483647)), (12, .int (2147483647)), (11, .int (2147483647)), (10, .int (2147483647)), (9, .int (2147483647)), (8, .int (2147483647)), (0, .ref (α (0))), (1, .int (nI nr)), (2, .int (nI nw)), (3, .int (nI ns)), (4, .int (P)), (5, .int (Wk)), (6, .int (2147483647)), (7, .int (2))]) hx hb dL_refuses_577 hl (by decide) rfl (fun ls hl => ?_)
  refine lv_iinc (v := 11) (lv' := [(15, .int (11)), (14, .int (1)), (13, .int (2147483647)), (12, .int (2147483647)), (11, .int (2147483647)), (10, .int (2147483647)), (9, .int (2147483647)), (8, .int (2147483647)), (0, .ref (α (0))), (1, .int (nI nr)), (2, .int (nI nw)), (3, .int (nI ns)), (4, .int (P)), (5, .int (Wk)), (6, .int (2147483647)), (7, .int (2))]) hx hb dL_refuses_579 hl (k := 1) rfl (by decide) (by decide) rfl (fun ls hl => ?_)
  refine lv_goto (tgt := 544) hx hb dL_refuses_582 (by decide) ?_
  refine lv_iload hx hb dL_refuses_544 (lv_at hl 0 rfl) ?_
  refine lv_bipush (v := (13)) hx hb dL_refuses_546 (by decide) ?_
  refine lv_icmp_ge (tgt := 585) hx hb dL_refuses_548 (by decide) (fun z => absurd z ((by decide))) (fun c54 => ?_)
  refine lv_iload hx hb dL_refuses_551 (lv_at hl 1 rfl) ?_
  refine lv_if_eq (tgt := 576) hx hb dL_refuses_553 (by decide) (fun z => absurd z ((by decide))) (fun c55 => ?_)
  refine lv_aload_n hx hb dL_refuses_556 rfl (lv_at hl 8 rfl) ?_
  refine lv_iload hx hb dL_refuses_557 (lv_at hl 0 rfl) ?_
  refine lv_iload hx hb dL_refuses_559 (lv_at hl 3 rfl) ?_
  refine lv_iconst (v := (-1)) hx hb dL_refuses_561 (by decide) ?_
  refine lv_iconst (v := (0)) hx hb dL_refuses_562 (by decide) ?_
  refine lv_iconst (v := (0)) hx hb dL_refuses_563 (by decide) ?_
  refine mcallX (rest := []) hw ⟨hx, hb, hml, hown, hts⟩ hS (x_X3_missed_1 hl0 hC hwf 2147483647 (inn_most (by omega)) (-1) 0 0) (vx_cwSW 6 hts gL_refuses_L_act rfl rfl rfl (by decide +kernel) ⟨Nat.le_of_ble_eq_true rfl, Nat.le_of_ble_eq_true rfl⟩) rfl hl.1 rfl (Nat.le_of_ble_eq_true rfl) dL_refuses_564 ⟨Nat.le_of_ble_eq_true rfl, Nat.le_of_ble_eq_true rfl⟩ (fun H locs hw hS => ?_)
  refine lv_bipush (v := (-71)) hx hb dL_refuses_567 (by decide) ?_
  refine lv_icmp_ne (tgt := 576) hx hb dL_refuses_569 (by decide) (fun z => absurd ((by decide)) z) (fun c56 => ?_)
  refine lv_iconst (v := (1)) hx hb dL_refuses_572 (by decide) ?_
  refine lv_goto (tgt := 577) hx hb dL_refuses_573 (by decide) ?_
  refine lv_istore (lv' := [(14, .int (1)), (15, .int (11)), (13, .int (2147483647)), (12, .int (2147483647)), (11, .int (2147483647)), (10, .int (2147483647)), (9, .int (2147483647)), (8, .int (2147483647)), (0, .ref (α (0))), (1, .int (nI nr)), (2, .int (nI nw)), (3, .int (nI ns)), (4, .int (P)), (5, .int (Wk)), (6, .int (2147483647)), (7, .int (2))]) hx hb dL_refuses_577 hl (by decide) rfl (fun ls hl => ?_)
  refine lv_iinc (v := 12) (lv' := [(15, .int (12)), (14, .int (1)), (13, .int (2147483647)), (12, .int (2147483647)), (11, .int (2147483647)), (10, .int (2147483647)), (9, .int (2147483647)), (8, .int (2147483647)), (0, .ref (α (0))), (1, .int (nI nr)), (2, .int (nI nw)), (3, .int (nI ns)), (4, .int (P)), (5, .int (Wk)), (6, .int (2147483647)), (7, .int (2))]) hx hb dL_refuses_579 hl (k := 1) rfl (by decide) (by decide) rfl (fun ls hl => ?_)
  refine lv_goto (tgt := 544) hx hb dL_refuses_582 (by decide) ?_
  refine lv_iload hx hb dL_refuses_544 (lv_at hl 0 rfl) ?_
  refine lv_bipush (v := (13)) hx hb dL_refuses_546 (by decide) ?_
  refine lv_icmp_ge (tgt := 585) hx hb dL_refuses_548 (by decide) (fun z => absurd z ((by decide))) (fun c57 => ?_)
  refine lv_iload hx hb dL_refuses_551 (lv_at hl 1 rfl) ?_
  refine lv_if_eq (tgt := 576) hx hb dL_refuses_553 (by decide) (fun z => absurd z ((by decide))) (fun c58 => ?_)
  refine lv_aload_n hx hb dL_refuses_556 rfl (lv_at hl 8 rfl) ?_
  refine lv_iload hx hb dL_refuses_557 (lv_at hl 0 rfl) ?_
  refine lv_iload hx hb dL_refuses_559 (lv_at hl 3 rfl) ?_
  refine lv_iconst (v := (-1)) hx hb dL_refuses_561 (by decide) ?_
  refine lv_iconst (v := (0)) hx hb dL_refuses_562 (by decide) ?_
  refine lv_iconst (v := (0)) hx hb dL_refuses_563 (by decide) ?_
  refine mcallX (rest := []) hw ⟨hx, hb, hml, hown, hts⟩ hS (x_X3_pay_1 hl0 hC hwf 2147483647 (inn_most (by omega)) (-1) 0 0) (vx_cwSW 6 hts gL_refuses_L_act rfl rfl rfl (by decide +kernel) ⟨Nat.le_of_ble_eq_true rfl, Nat.le_of_ble_eq_true rfl⟩) rfl hl.1 rfl (Nat.le_of_ble_eq_true rfl) dL_refuses_564 ⟨Nat.le_of_ble_eq_true rfl, Nat.le_of_ble_eq_true rfl⟩ (fun H locs hw hS => ?_)
  refine lv_bipush (v := (-71)) hx hb dL_refuses_567 (by decide) ?_
  refine lv_icmp_ne (tgt := 576) hx hb dL_refuses_569 (by decide) (fun z => absurd ((by decide)) z) (fun c59 => ?_)
  refine lv_iconst (v := (1)) hx hb dL_refuses_572 (by decide) ?_
  refine lv_goto (tgt := 577) hx hb dL_refuses_573 (by decide) ?_
  refine lv_istore (lv' := [(14, .int (1)), (15, .int (12)), (13, .int (2147483647)), (12, .int (2147483647)), (11, .int (2147483647)), (10, .int (2147483647)), (9, .int (2147483647)), (8, .int (2147483647)), (0, .ref (α (0))), (1, .int (nI nr)), (2, .int (nI nw)), (3, .int (nI ns)), (4, .int (P)), (5, .int (Wk)), (6, .int (2147483647)), (7, .int (2))]) hx hb dL_refuses_577 hl (by decide) rfl (fun ls hl => ?_)
  refine lv_iinc (v := 13) (lv' := [(15, .int (13)), (14, .int (1)), (13, .int (2147483647)), (12, .int (2147483647)), (11, .int (2147483647)), (10, .int (2147483647)), (9, .int (2147483647)), (8, .int (2147483647)), (0, .ref (α (0))), (1, .int (nI nr)), (2, .int (nI nw)), (3, .int (nI ns)), (4, .int (P)), (5, .int (Wk)), (6, .int (2147483647)), (7, .int (2))]) hx hb dL_refuses_579 hl (k := 1) rfl (by decide) (by decide) rfl (fun ls hl => ?_)
  refine lv_goto (tgt := 544) hx hb dL_refuses_582 (by decide) ?_
  refine lv_iload hx hb dL_refuses_544 (lv_at hl 0 rfl) ?_
  refine lv_bipush (v := (13)) hx hb dL_refuses_546 (by decide) ?_
  refine lv_icmp_ge (tgt := 585) hx hb dL_refuses_548 (by decide) (fun c60 => ?_) (fun z => absurd ((by decide)) z)
  refine lv_iload hx hb dL_refuses_585 (lv_at hl 1 rfl) ?_
  refine lv_if_eq (tgt := 840) hx hb dL_refuses_587 (by decide) (fun z => absurd z ((by decide))) (fun c61 => ?_)
  refine lv_iload_n hx hb dL_refuses_590 rfl (lv_at hl 11 rfl) ?_
  refine lv_if_eq (tgt := 675) hx hb dL_refuses_591 (by decide) (fun c62 => ?_) (fun z => absurd ((by rw [hns]; rfl)) z)
  refine lv_aload_n hx hb dL_refuses_675 rfl (lv_at hl 8 rfl) ?_
  refine lv_bipush (v := (13)) hx hb dL_refuses_676 (by decide) ?_
  refine lv_iload hx hb dL_refuses_678 (lv_at hl 4 rfl) ?_
  refine lv_iconst (v := (-1)) hx hb dL_refuses_680 (by decide) ?_
  refine lv_iconst (v := (0)) hx hb dL_refuses_681 (by decide) ?_
  refine lv_iconst (v := (0)) hx hb dL_refuses_682 (by decide) ?_
  refine mcallX (rest := []) hw ⟨hx, hb, hml, hown, hts⟩ hS (x_X3_payOf_1 hl0 hC hwf 2147483647 (-1) 0 (inn_most (by omega)) 0) (vx_cwSW 6 hts gL_refuses_L_act rfl rfl rfl (by decide +kernel) ⟨Nat.le_of_ble_eq_true rfl, Nat.le_of_ble_eq_true rfl⟩) rfl hl.1 rfl (Nat.le_of_ble_eq_true rfl) dL_refuses_683 ⟨Nat.le_of_ble_eq_true rfl, Nat.le_of_ble_eq_true rfl⟩ (fun H locs hw hS => ?_)
  refine lv_bipush (v := (-71)) hx hb dL_refuses_686 (by decide) ?_
  refine lv_icmp_ne (tgt := 840) hx hb dL_refuses_688 (by decide) (fun z => absurd ((by decide)) z) (fun c63 => ?_)
  refine lv_aload_n hx hb dL_refuses_691 rfl (lv_at hl 8 rfl) ?_
  refine lv_bipush (v := (13)) hx hb dL_refuses_692 (by decide) ?_
  refine lv_iconst (v := (0)) hx hb dL_refuses_694 (by decide) ?_
  refine lv_iload hx hb dL_refuses_695 (lv_at hl 2 rfl) ?_
  refine lv_sipush (v := (363)) hx hb dL_refuses_697 (by decide) ?_
  refine lv_iconst (v := (0)) hx hb dL_refuses_700 (by decide) ?_
  refine mcallX (rest := []) hw ⟨hx, hb, hml, hown, hts⟩ hS (x_X3_payOf_2 hl0 hC hwf 0 hnw 2147483647 363 (by decide) 0) (vx_cwSW 6 hts gL_refuses_L_act rfl rfl rfl (by decide +kernel) ⟨Nat.le_of_ble_eq_true rfl, Nat.le_of_ble_eq_true rfl⟩) rfl hl.1 rfl (Nat.le_of_ble_eq_true rfl) dL_refuses_701 ⟨Nat.le_of_ble_eq_true rfl, Nat.le_of_ble_eq_true rfl⟩ (fun H locs hw hS => ?_)
  refine lv_bipush (v := (-72)) hx hb dL_refuses_704 (by decide) ?_
  refine lv_icmp_ne (tgt := 840) hx hb dL_refuses_706 (by decide) (fun z => absurd ((by decide)) z) (fun c64 => ?_)
  refine lv_aload_n hx hb dL_refuses_709 rfl (lv_at hl 8 rfl) ?_
  refine lv_bipush (v := (13)) hx hb dL_refuses_710 (by decide) ?_
  refine lv_iconst (v := (0)) hx hb dL_refuses_712 (by decide) ?_
  refine lv_iconst (v := (5)) hx hb dL_refuses_713 (by decide) ?_
  refine lv_iload hx hb dL_refuses_714 (lv_at hl 15 rfl) ?_
  refine lv_if_ne (tgt := 723) hx hb dL_refuses_716 (by decide) (fun c65 => ?_) (fun z => absurd z ((by decide)))
  refine lv_iload hx hb dL_refuses_723 (lv_at hl 2 rfl) ?_
  refine lv_iconst (v := (0)) hx hb dL_refuses_725 (by decide) ?_
  refine mcallX (rest := []) hw ⟨hx, hb, hml, hown, hts⟩ hS (x_X3_payOf_2 hl0 hC hwf 0 hnw 5 2147483647 (by decide) 0) (vx_cwSW 6 hts gL_refuses_L_act rfl rfl rfl (by decide +kernel) ⟨Nat.le_of_ble_eq_true rfl, Nat.le_of_ble_eq_true rfl⟩) rfl hl.1 rfl (Nat.le_of_ble_eq_true rfl) dL_refuses_726 ⟨Nat.le_of_ble_eq_true rfl, Nat.le_of_ble_eq_true rfl⟩ (fun H locs hw hS => ?_)
  refine lv_bipush (v := (-72)) hx hb dL_refuses_729 (by decide) ?_
  refine lv_icmp_ne (tgt := 840) hx hb dL_refuses_731 (by decide) (fun z => absurd ((by decide)) z) (fun c66 => ?_)
  refine lv_aload_n hx hb dL_refuses_734 rfl (lv_at hl 8 rfl) ?_
  refine lv_bipush (v := (14)) hx hb dL_refuses_735 (by decide) ?_
  refine lv_iload hx hb dL_refuses_737 (lv_at hl 5 rfl) ?_
  refine lv_iconst (v := (0)) hx hb dL_refuses_739 (by decide) ?_
  refine lv_iconst (v := (0)) hx hb dL_refuses_740 (by decide) ?_
  refine lv_iconst (v := (0)) hx hb dL_refuses_741 (by decide) ?_
  refine mcallX (rest := []) hw ⟨hx, hb, hml, hown, hts⟩ hS (x_X3_paidBy_1 hl0 hC hwf 2147483647 (inn_most (by omega)) 0 0 0) (vx_cwSW 6 hts gL_refuses_L_act rfl rfl rfl (by decide +kernel) ⟨Nat.le_of_ble_eq_true rfl, Nat.le_of_ble_eq_true rfl⟩) rfl hl.1 rfl (Nat.le_of_ble_eq_true rfl) dL_refuses_742 ⟨Nat.le_of_ble_eq_true rfl, Nat.le_of_ble_eq_true rfl⟩ (fun H locs hw hS => ?_)
  refine lv_bipush (v := (-71)) hx hb dL_refuses_745 (by decide) ?_
  refine lv_icmp_ne (tgt := 840) hx hb dL_refuses_747 (by decide) (fun z => absurd ((by decide)) z) (fun c67 => ?_)
  refine lv_aload_n hx hb dL_refuses_750 rfl (lv_at hl 8 rfl) ?_
  refine lv_bipush (v := (15)) hx hb dL_refuses_751 (by decide) ?_
  refine lv_iload hx hb dL_refuses_753 (lv_at hl 4 rfl) ?_
  refine lv_iconst (v := (-1)) hx hb dL_refuses_755 (by decide) ?_
  refine lv_iconst (v := (0)) hx hb dL_refuses_756 (by decide) ?_
  refine lv_iconst (v := (0)) hx hb dL_refuses_757 (by decide) ?_
  refine mcallX (rest := []) hw ⟨hx, hb, hml, hown, hts⟩ hS (x_X3_worked_1 hl0 hC hwf 2147483647 (-1) (inn_most (by omega)) 0 0) (vx_cwSW 6 hts gL_refuses_L_act rfl rfl rfl (by decide +kernel) ⟨Nat.le_of_ble_eq_true rfl, Nat.le_of_ble_eq_true rfl⟩) rfl hl.1 rfl (Nat.le_of_ble_eq_true rfl) dL_refuses_758 ⟨Nat.le_of_ble_eq_true rfl, Nat.le_of_ble_eq_true rfl⟩ (fun H locs hw hS => ?_)
  refine lv_bipush (v := (-71)) hx hb dL_refuses_761 (by decide) ?_
  refine lv_icmp_ne (tgt := 840) hx hb dL_refuses_763 (by decide) (fun z => absurd ((by decide)) z) (fun c68 => ?_)
  refine lv_aload_n hx hb dL_refuses_766 rfl (lv_at hl 8 rfl) ?_
  refine lv_bipush (v := (15)) hx hb dL_refuses_767 (by decide) ?_
  refine lv_iconst (v := (0)) hx hb dL_refuses_769 (by decide) ?_
  refine lv_iload hx hb dL_refuses_770 (lv_at hl 15 rfl) ?_
  refine lv_iconst (v := (1)) hx hb dL_refuses_772 (by decide) ?_
  refine lv_icmp_ne (tgt := 781) hx hb dL_refuses_773 (by decide) (fun c69 => ?_) (fun z => absurd z ((by decide)))
  refine lv_iload hx hb dL_refuses_781 (lv_at hl 7 rfl) ?_
  refine lv_iconst (v := (0)) hx hb dL_refuses_783 (by decide) ?_
  refine lv_iconst (v := (0)) hx hb dL_refuses_784 (by decide) ?_
  refine mcallX (rest := []) hw ⟨hx, hb, hml, hown, hts⟩ hS (x_X3_worked_2 hl0 hC hwf 0 hnw 2147483647 (by decide) 0 0) (vx_cwSW 6 hts gL_refuses_L_act rfl rfl rfl (by decide +kernel) ⟨Nat.le_of_ble_eq_true rfl, Nat.le_of_ble_eq_true rfl⟩) rfl hl.1 rfl (Nat.le_of_ble_eq_true rfl) dL_refuses_785 ⟨Nat.le_of_ble_eq_true rfl, Nat.le_of_ble_eq_true rfl⟩ (fun H locs hw hS => ?_)
  refine lv_bipush (v := (-72)) hx hb dL_refuses_788 (by decide) ?_
  refine lv_icmp_ne (tgt := 840) hx hb dL_refuses_790 (by decide) (fun z => absurd ((by decide)) z) (fun c70 => ?_)
  refine lv_aload_n hx hb dL_refuses_793 rfl (lv_at hl 8 rfl) ?_
  refine lv_bipush (v := (16)) hx hb dL_refuses_794 (by decide) ?_
  refine lv_iload hx hb dL_refuses_796 (lv_at hl 4 rfl) ?_
  refine lv_iconst (v := (-1)) hx hb dL_refuses_798 (by decide) ?_
  refine lv_iconst (v := (0)) hx hb dL_refuses_799 (by decide) ?_
  refine lv_iconst (v := (0)) hx hb dL_refuses_800 (by decide) ?_
  refine mcallX (rest := []) hw ⟨hx, hb, hml, hown, hts⟩ hS (x_X3_excess_1 hl0 hC hwf 2147483647 (-1) (inn_most (by omega)) 0 0) (vx_cwSW 6 hts gL_refuses_L_act rfl rfl rfl (by decide +kernel) ⟨Nat.le_of_ble_eq_true rfl, Nat.le_of_ble_eq_true rfl⟩) rfl hl.1 rfl (Nat.le_of_ble_eq_true rfl) dL_refuses_801 ⟨Nat.le_of_ble_eq_true rfl, Nat.le_of_ble_eq_true rfl⟩ (fun H locs hw hS => ?_)
  refine lv_bipush (v := (-71)) hx hb dL_refuses_804 (by decide) ?_
  refine lv_icmp_ne (tgt := 840) hx hb dL_refuses_806 (by decide) (fun z => absurd ((by decide)) z) (fun c71 => ?_)
  refine lv_aload_n hx hb dL_refuses_809 rfl (lv_at hl 8 rfl) ?_
  refine lv_bipush (v := (16)) hx hb dL_refuses_810 (by decide) ?_
  refine lv_iconst (v := (0)) hx hb dL_refuses_812 (by decide) ?_
  refine lv_iload hx hb dL_refuses_813 (lv_at hl 15 rfl) ?_
  refine lv_iconst (v := (1)) hx hb dL_refuses_815 (by decide) ?_
  refine lv_icmp_ne (tgt := 824) hx hb dL_refuses_816 (by decide) (fun c72 => ?_) (fun z => absurd z ((by decide)))
  refine lv_iload hx hb dL_refuses_824 (lv_at hl 7 rfl) ?_
  refine lv_iconst (v := (0)) hx hb dL_refuses_826 (by decide) ?_
  refine lv_iconst (v := (0)) hx hb dL_refuses_827 (by decide) ?_
  refine mcallX (rest := []) hw ⟨hx, hb, hml, hown, hts⟩ hS (x_X3_excess_2 hl0 hC hwf 0 hnw 2147483647 (by decide) 0 0) (vx_cwSW 6 hts gL_refuses_L_act rfl rfl rfl (by decide +kernel) ⟨Nat.le_of_ble_eq_true rfl, Nat.le_of_ble_eq_true rfl⟩) rfl hl.1 rfl (Nat.le_of_ble_eq_true rfl) dL_refuses_828 ⟨Nat.le_of_ble_eq_true rfl, Nat.le_of_ble_eq_true rfl⟩ (fun H locs hw hS => ?_)
  refine lv_bipush (v := (-72)) hx hb dL_refuses_831 (by decide) ?_
  refine lv_icmp_ne (tgt := 840) hx hb dL_refuses_833 (by decide) (fun z => absurd ((by decide)) z) (fun c73 => ?_)
  refine lv_iconst (v := (1)) hx hb dL_refuses_836 (by decide) ?_
  refine lv_goto (tgt := 841) hx hb dL_refuses_837 (by decide) ?_
  refine lv_istore (lv' := [(14, .int (1)), (15, .int (13)), (13, .int (2147483647)), (12, .int (2147483647)), (11, .int (2147483647)), (10, .int (2147483647)), (9, .int (2147483647)), (8, .int (2147483647)), (0, .ref (α (0))), (1, .int (nI nr)), (2, .int (nI nw)), (3, .int (nI ns)), (4, .int (P)), (5, .int (Wk)), (6, .int (2147483647)), (7, .int (2))]) hx hb dL_refuses_841 hl (by decide) rfl (fun ls hl => ?_)
  refine lv_iload hx hb dL_refuses_843 (lv_at hl 0 rfl) ?_
  refine lv_if_ne (tgt := 850) hx hb dL_refuses_845 (by decide) (fun c74 => ?_) (fun z => absurd z ((by decide)))
  refine lv_iinc (v := 3) (lv' := [(7, .int (3)), (14, .int (1)), (15, .int (13)), (13, .int (2147483647)), (12, .int (2147483647)), (11, .int (2147483647)), (10, .int (2147483647)), (9, .int (2147483647)), (8, .int (2147483647)), (0, .ref (α (0))), (1, .int (nI nr)), (2, .int (nI nw)), (3, .int (nI ns)), (4, .int (P)), (5, .int (Wk)), (6, .int (2147483647))]) hx hb dL_refuses_850 hl (k := 15) rfl (by decide) (by decide) rfl (fun ls hl => ?_)
  refine lv_goto (tgt := 31) hx hb dL_refuses_853 (by decide) ?_
  exact kk H locs (lv_sub hl [9, 10, 11, 12, 13, 14, 15, 0] rfl) hw hS

set_option maxHeartbeats 40000000 in
set_option maxRecDepth 100000 in
theorem rfA_3 {p : Program} {l : Launch} {e : Env} {s : State} {m : MethodId} {args : Array Value} {below : List Frame} {meth : Method} {c : Code} {Q : State → Prop} {G : mG} {V : mV} {α : Nat → Nat} (hl0 : l.stackTraces = false) (hx : p.tables.exec = Jvm.exec) (hb : c.code = cL_refuses) (hml : c.maxLocals = 16) (hown : s.vm.findClass RL = some m.cls) (hts : ∀ w ∈ wsL_refuses, w.before args s = true) {f : sT} {nr nw ns : Nat} (hC : mC G V α f nr nw ns) (hwf : mwf f nr nw ns) (hnw : 0 < nw) (hns : ns = 0) {P Wk : Int32}
    (kk : ∀ (H : Heap) (locs : List Loc) {ls : Array Slot} (hl : lv_has ls 16 [(0, .ref (α (0))), (1, .int (nI nr)), (2, .int (nI nw)), (3, .int (nI ns)), (4, .int (P)), (5, .int (Wk)), (6, .int (2147483647)), (7, .int (4))]) (hw : mW G V α s H) (hS : va_S (mfree G) s.heap H locs), W p l e ({ frames := 9, cells := 124, slots := 744, locals := 172 } : Room) s m args below meth c H locs 124 744 Q (F0 m 31 ls []))
    (H : Heap) (locs : List Loc) {ls : Array Slot} (hl : lv_has ls 16 [(0, .ref (α (0))), (1, .int (nI nr)), (2, .int (nI nw)), (3, .int (nI ns)), (4, .int (P)), (5, .int (Wk)), (6, .int (2147483647)), (7, .int (3))]) (hw : mW G V α s H) (hS : va_S (mfree G) s.heap H locs) : W p l e ({ frames := 9, cells := 124, slots := 744, locals := 172 } : Room) s m args below meth c H locs 93 558 Q (F0 m 31 ls []) := by
  have hl16 := hwf.1.1
  have hl12 := hwf.1.2.1
  have hl80 := hwf.1.2.2
  refine lv_iload hx hb dL_refuses_31 (lv_at hl 7 rfl) ?_
  refine lv_iconst (v := (4)) hx hb dL_refuses_33 (by decide) ?_
  refine lv_icmp_ge (tgt := 856) hx hb dL_refuses_34 (by decide) (fun z => absurd z ((by decide))) (fun c1 => ?_)
  refine lv_iload hx hb dL_refuses_37 (lv_at hl 7 rfl) ?_
  refine lv_if_ne (tgt := 46) hx hb dL_refuses_39 (by decide) (fun c2 => ?_) (fun z => absurd z ((by decide)))
  refine lv_iload hx hb dL_refuses_46 (lv_at hl 7 rfl) ?_
  refine lv_iconst (v := (2)) hx hb dL_refuses_48 (by decide) ?_
  refine lv_icmp_ne (tgt := 57) hx hb dL_refuses_49 (by decide) (fun c3 => ?_) (fun z => absurd z ((by decide)))
  refine lv_iload hx hb dL_refuses_57 (lv_at hl 6 rfl) ?_
  refine lv_ineg hx hb dL_refuses_59 ?_
  refine lv_iconst (v := (1)) hx hb dL_refuses_60 (by decide) ?_
  refine lv_isub hx hb dL_refuses_61 ?_
  refine lv_topi (fun y4 ey4 => ?_)
  obtain rfl : y4 = (-2147483648) := ey4.trans (by decide)
  refine lv_istore (lv' := [(8, .int ((-2147483648))), (0, .ref (α (0))), (1, .int (nI nr)), (2, .int (nI nw)), (3, .int (nI ns)), (4, .int (P)), (5, .int (Wk)), (6, .int (2147483647)), (7, .int (3))]) hx hb dL_refuses_62 hl (by decide) rfl (fun ls hl => ?_)
  refine lv_iload hx hb dL_refuses_64 (lv_at hl 8 rfl) ?_
  refine lv_iconst (v := (1)) hx hb dL_refuses_66 (by decide) ?_
  refine lv_icmp_ne (tgt := 74) hx hb dL_refuses_67 (by decide) (fun c5 => ?_) (fun z => absurd z ((by decide)))
  refine lv_iload hx hb dL_refuses_74 (lv_at hl 0 rfl) ?_
  refine lv_istore (lv' := [(9, .int ((-2147483648))), (8, .int ((-2147483648))), (0, .ref (α (0))), (1, .int (nI nr)), (2, .int (nI nw)), (3, .int (nI ns)), (4, .int (P)), (5, .int (Wk)), (6, .int (2147483647)), (7, .int (3))]) hx hb dL_refuses_76 hl (by decide) rfl (fun ls hl => ?_)
  refine lv_iload hx hb dL_refuses_78 (lv_at hl 9 rfl) ?_
  refine lv_iconst (v := (1)) hx hb dL_refuses_80 (by decide) ?_
  refine lv_icmp_ne (tgt := 88) hx hb dL_refuses_81 (by decide) (fun c6 => ?_) (fun z => absurd z ((by decide)))
  refine lv_iload hx hb dL_refuses_88 (lv_at hl 1 rfl) ?_
  refine lv_istore (lv' := [(10, .int ((-2147483648))), (9, .int ((-2147483648))), (8, .int ((-2147483648))), (0, .ref (α (0))), (1, .int (nI nr)), (2, .int (nI nw)), (3, .int (nI ns)), (4, .int (P)), (5, .int (Wk)), (6, .int (2147483647)), (7, .int (3))]) hx hb dL_refuses_90 hl (by decide) rfl (fun ls hl => ?_)
  refine lv_iload hx hb dL_refuses_92 (lv_at hl 10 rfl) ?_
  refine lv_iconst (v := (1)) hx hb dL_refuses_94 (by decide) ?_
  refine lv_icmp_ne (tgt := 102) hx hb dL_refuses_95 (by decide) (fun c7 => ?_) (fun z => absurd z ((by decide)))
  refine lv_iload hx hb dL_refuses_102 (lv_at hl 2 rfl) ?_
  refine lv_istore (lv' := [(11, .int ((-2147483648))), (10, .int ((-2147483648))), (9, .int ((-2147483648))), (8, .int ((-2147483648))), (0, .ref (α (0))), (1, .int (nI nr)), (2, .int (nI nw)), (3, .int (nI ns)), (4, .int (P)), (5, .int (Wk)), (6, .int (2147483647)), (7, .int (3))]) hx hb dL_refuses_104 hl (by decide) rfl (fun ls hl => ?_)
  refine lv_iload hx hb dL_refuses_106 (lv_at hl 11 rfl) ?_
  refine lv_iconst (v := (1)) hx hb dL_refuses_108 (by decide) ?_
  refine lv_icmp_ne (tgt := 116) hx hb dL_refuses_109 (by decide) (fun c8 => ?_) (fun z => absurd z ((by decide)))
  refine lv_iload hx hb dL_refuses_116 (lv_at hl 3 rfl) ?_
  refine lv_istore (lv' := [(12, .int ((-2147483648))), (11, .int ((-2147483648))), (10, .int ((-2147483648))), (9, .int ((-2147483648))), (8, .int ((-2147483648))), (0, .ref (α (0))), (1, .int (nI nr)), (2, .int (nI nw)), (3, .int (nI ns)), (4, .int (P)), (5, .int (Wk)), (6, .int (2147483647)), (7, .int (3))]) hx hb dL_refuses_118 hl (by decide) rfl (fun ls hl => ?_)
  refine lv_iload hx hb dL_refuses_120 (lv_at hl 12 rfl) ?_
  refine lv_iconst (v := (1)) hx hb dL_refuses_122 (by decide) ?_
  refine lv_icmp_ne (tgt := 132) hx hb dL_refuses_123 (by decide) (fun c9 => ?_) (fun z => absurd z ((by decide)))
  refine lv_iload hx hb dL_refuses_132 (lv_at hl 4 rfl) ?_
  refine lv_istore (lv' := [(13, .int ((-2147483648))), (12, .int ((-2147483648))), (11, .int ((-2147483648))), (10, .int ((-2147483648))), (9, .int ((-2147483648))), (8, .int ((-2147483648))), (0, .ref (α (0))), (1, .int (nI nr)), (2, .int (nI nw)), (3, .int (nI ns)), (4, .int (P)), (5, .int (Wk)), (6, .int (2147483647)), (7, .int (3))]) hx hb dL_refuses_134 hl (by decide) rfl (fun ls hl => ?_)
  refine lv_aload_n hx hb dL_refuses_136 rfl (lv_at hl 6 rfl) ?_
  refine lv_iconst (v := (0)) hx hb dL_refuses_137 (by decide) ?_
  refine lv_iload hx hb dL_refuses_138 (lv_at hl 4 rfl) ?_
  refine lv_iconst (v := (5)) hx hb dL_refuses_140 (by decide) ?_
  refine lv_iconst (v := (0)) hx hb dL_refuses_141 (by decide) ?_
  refine lv_iconst (v := (0)) hx hb dL_refuses_142 (by decide) ?_
  refine mcallX (rest := []) hw ⟨hx, hb, hml, hown, hts⟩ hS (x_X3_setBase hl0 hC hwf (-2147483648) 5 (by decide) 0 0) (vx_cwSW 6 hts gL_refuses_L_act rfl rfl rfl (by decide +kernel) ⟨Nat.le_of_ble_eq_true rfl, Nat.le_of_ble_eq_true rfl⟩) rfl hl.1 rfl (Nat.le_of_ble_eq_true rfl) dL_refuses_143 ⟨Nat.le_of_ble_eq_true rfl, Nat.le_of_ble_eq_true rfl⟩ (fun H locs hw hS => ?_)
  refine lv_bipush (v := (-72)) hx hb dL_refuses_146 (by decide) ?_
  refine lv_icmp_ne (tgt := 537) hx hb dL_refuses_148 (by decide) (fun z => absurd ((by decide)) z) (fun c10 => ?_)
  refine lv_aload_n hx hb dL_refuses_151 rfl (lv_at hl 6 rfl) ?_
  refine lv_iconst (v := (0)) hx hb dL_refuses_152 (by decide) ?_
  refine lv_iconst (v := (0)) hx hb dL_refuses_153 (by decide) ?_
  refine lv_iload hx hb dL_refuses_154 (lv_at hl 13 rfl) ?_
  refine lv_if_ne (tgt := 163) hx hb dL_refuses_156 (by decide) (fun c11 => ?_) (fun z => absurd z ((by decide)))
  refine lv_iload hx hb dL_refuses_163 (lv_at hl 13 rfl) ?_
  refine lv_iconst (v := (1)) hx hb dL_refuses_165 (by decide) ?_
  refine lv_icmp_ne (tgt := 175) hx hb dL_refuses_166 (by decide) (fun c12 => ?_) (fun z => absurd z ((by decide)))
  refine lv_iload hx hb dL_refuses_175 (lv_at hl 5 rfl) ?_
  refine lv_iconst (v := (0)) hx hb dL_refuses_177 (by decide) ?_
  refine lv_iconst (v := (0)) hx hb dL_refuses_178 (by decide) ?_
  refine mcallX (rest := []) hw ⟨hx, hb, hml, hown, hts⟩ hS (x_X3_setBase hl0 hC hwf 0 (-2147483648) (by decide) 0 0) (vx_cwSW 6 hts gL_refuses_L_act rfl rfl rfl (by decide +kernel) ⟨Nat.le_of_ble_eq_true rfl, Nat.le_of_ble_eq_true rfl⟩) rfl hl.1 rfl (Nat.le_of_ble_eq_true rfl) dL_refuses_179 ⟨Nat.le_of_ble_eq_true rfl, Nat.le_of_ble_eq_true rfl⟩ (fun H locs hw hS => ?_)
  refine lv_bipush (v := (-72)) hx hb dL_refuses_182 (by decide) ?_
  refine lv_icmp_ne (tgt := 537) hx hb dL_refuses_184 (by decide) (fun z => absurd ((by decide)) z) (fun c13 => ?_)
  refine lv_aload_n hx hb dL_refuses_187 rfl (lv_at hl 6 rfl) ?_
  refine lv_iload hx hb dL_refuses_188 (lv_at hl 13 rfl) ?_
  refine lv_iconst (v := (1)) hx hb dL_refuses_190 (by decide) ?_
  refine lv_icmp_ne (tgt := 200) hx hb dL_refuses_191 (by decide) (fun c14 => ?_) (fun z => absurd z ((by decide)))
  refine lv_iload hx hb dL_refuses_200 (lv_at hl 5 rfl) ?_
  refine lv_iconst (v := (5)) hx hb dL_refuses_202 (by decide) ?_
  refine lv_bipush (v := (6)) hx hb dL_refuses_203 (by decide) ?_
  refine lv_iconst (v := (1)) hx hb dL_refuses_205 (by decide) ?_
  refine lv_bipush (v := (100)) hx hb dL_refuses_206 (by decide) ?_
  refine mcallX (rest := []) hw ⟨hx, hb, hml, hown, hts⟩ hS (x_X3_addRule_1 hl0 hC hwf (-2147483648) 5 6 1 100 (by decide)) (vx_cwSW 6 hts gL_refuses_L_rule rfl rfl rfl (by decide +kernel) ⟨Nat.le_of_ble_eq_true rfl, Nat.le_of_ble_eq_true rfl⟩) rfl hl.1 rfl (Nat.le_of_ble_eq_true rfl) dL_refuses_208 ⟨Nat.le_of_ble_eq_true rfl, Nat.le_of_ble_eq_true rfl⟩ (fun H locs hw hS => ?_)
  refine lv_bipush (v := (-72)) hx hb dL_refuses_211 (by decide) ?_
  refine lv_icmp_ne (tgt := 537) hx hb dL_refuses_213 (by decide) (fun z => absurd ((by decide)) z) (fun c15 => ?_)
  refine lv_aload_n hx hb dL_refuses_216 rfl (lv_at hl 6 rfl) ?_
  refine lv_iconst (v := (1)) hx hb dL_refuses_217 (by decide) ?_
  refine lv_iload hx hb dL_refuses_218 (lv_at hl 13 rfl) ?_
  refine lv_iconst (v := (1)) hx hb dL_refuses_220 (by decide) ?_
  refine lv_icmp_ne (tgt := 229) hx hb dL_refuses_221 (by decide) (fun c16 => ?_) (fun z => absurd z ((by decide)))
  refine lv_iload hx hb dL_refuses_229 (lv_at hl 5 rfl) ?_
  refine lv_bipush (v := (96)) hx hb dL_refuses_231 (by decide) ?_
  refine lv_iconst (v := (1)) hx hb dL_refuses_233 (by decide) ?_
  refine lv_bipush (v := (100)) hx hb dL_refuses_234 (by decide) ?_
  refine mcallX (rest := []) hw ⟨hx, hb, hml, hown, hts⟩ hS (x_X3_addRule_1 hl0 hC hwf 1 (-2147483648) 96 1 100 (by decide)) (vx_cwSW 6 hts gL_refuses_L_rule rfl rfl rfl (by decide +kernel) ⟨Nat.le_of_ble_eq_true rfl, Nat.le_of_ble_eq_true rfl⟩) rfl hl.1 rfl (Nat.le_of_ble_eq_true rfl) dL_refuses_236 ⟨Nat.le_of_ble_eq_true rfl, Nat.le_of_ble_eq_true rfl⟩ (fun H locs hw hS => ?_)
  refine lv_bipush (v := (-72)) hx hb dL_refuses_239 (by decide) ?_
  refine lv_icmp_ne (tgt := 537) hx hb dL_refuses_241 (by decide) (fun z => absurd ((by decide)) z) (fun c17 => ?_)
  refine lv_aload_n hx hb dL_refuses_244 rfl (lv_at hl 6 rfl) ?_
  refine lv_iconst (v := (1)) hx hb dL_refuses_245 (by decide) ?_
  refine lv_iconst (v := (5)) hx hb dL_refuses_246 (by decide) ?_
  refine lv_iload hx hb dL_refuses_247 (lv_at hl 13 rfl) ?_
  refine lv_if_ne (tgt := 256) hx hb dL_refuses_249 (by decide) (fun c18 => ?_) (fun z => absurd z ((by decide)))
  refine lv_iload hx hb dL_refuses_256 (lv_at hl 13 rfl) ?_
  refine lv_iconst (v := (1)) hx hb dL_refuses_258 (by decide) ?_
  refine lv_icmp_ne (tgt := 267) hx hb dL_refuses_259 (by decide) (fun c19 => ?_) (fun z => absurd z ((by decide)))
  refine lv_iload hx hb dL_refuses_267 (lv_at hl 5 rfl) ?_
  refine lv_iconst (v := (1)) hx hb dL_refuses_269 (by decide) ?_
  refine lv_bipush (v := (100)) hx hb dL_refuses_270 (by decide) ?_
  refine mcallX (rest := []) hw ⟨hx, hb, hml, hown, hts⟩ hS (x_X3_addRule_1 hl0 hC hwf 1 5 (-2147483648) 1 100 (by decide)) (vx_cwSW 6 hts gL_refuses_L_rule rfl rfl rfl (by decide +kernel) ⟨Nat.le_of_ble_eq_true rfl, Nat.le_of_ble_eq_true rfl⟩) rfl hl.1 rfl (Nat.le_of_ble_eq_true rfl) dL_refuses_272 ⟨Nat.le_of_ble_eq_true rfl, Nat.le_of_ble_eq_true rfl⟩ (fun H locs hw hS => ?_)
  refine lv_bipush (v := (-72)) hx hb dL_refuses_275 (by decide) ?_
  refine lv_icmp_ne (tgt := 537) hx hb dL_refuses_277 (by decide) (fun z => absurd ((by decide)) z) (fun c20 => ?_)
  refine lv_aload_n hx hb dL_refuses_280 rfl (lv_at hl 6 rfl) ?_
  refine lv_iconst (v := (1)) hx hb dL_refuses_281 (by decide) ?_
  refine lv_iconst (v := (5)) hx hb dL_refuses_282 (by decide) ?_
  refine lv_bipush (v := (6)) hx hb dL_refuses_283 (by decide) ?_
  refine lv_iload hx hb dL_refuses_285 (lv_at hl 13 rfl) ?_
  refine lv_if_ne (tgt := 294) hx hb dL_refuses_287 (by decide) (fun c21 => ?_) (fun z => absurd z ((by decide)))
  refine lv_iload hx hb dL_refuses_294 (lv_at hl 13 rfl) ?_
  refine lv_iconst (v := (1)) hx hb dL_refuses_296 (by decide) ?_
  refine lv_icmp_ne (tgt := 305) hx hb dL_refuses_297 (by decide) (fun c22 => ?_) (fun z => absurd z ((by decide)))
  refine lv_iload hx hb dL_refuses_305 (lv_at hl 5 rfl) ?_
  refine lv_bipush (v := (100)) hx hb dL_refuses_307 (by decide) ?_
  refine mcallX (rest := []) hw ⟨hx, hb, hml, hown, hts⟩ hS (x_X3_addRule_1 hl0 hC hwf 1 5 6 (-2147483648) 100 (by decide)) (vx_cwSW 6 hts gL_refuses_L_rule rfl rfl rfl (by decide +kernel) ⟨Nat.le_of_ble_eq_true rfl, Nat.le_of_ble_eq_true rfl⟩) rfl hl.1 rfl (Nat.le_of_ble_eq_true rfl) dL_refuses_309 ⟨Nat.le_of_ble_eq_true rfl, Nat.le_of_ble_eq_true rfl⟩ (fun H locs hw hS => ?_)
  refine lv_bipush (v := (-72)) hx hb dL_refuses_312 (by decide) ?_
  refine lv_icmp_ne (tgt := 537) hx hb dL_refuses_314 (by decide) (fun z => absurd ((by decide)) z) (fun c23 => ?_)
  refine lv_aload_n hx hb dL_refuses_317 rfl (lv_at hl 6 rfl) ?_
  refine lv_iconst (v := (1)) hx hb dL_refuses_318 (by decide) ?_
  refine lv_iconst (v := (5)) hx hb dL_refuses_319 (by decide) ?_
  refine lv_bipush (v := (6)) hx hb dL_refuses_320 (by decide) ?_
  refine lv_iconst (v := (1)) hx hb dL_refuses_322 (by decide) ?_
  refine lv_iload hx hb dL_refuses_323 (lv_at hl 13 rfl) ?_
  refine lv_if_ne (tgt := 333) hx hb dL_refuses_325 (by decide) (fun c24 => ?_) (fun z => absurd z ((by decide)))
  refine lv_iload hx hb dL_refuses_333 (lv_at hl 13 rfl) ?_
  refine lv_iconst (v := (1)) hx hb dL_refuses_335 (by decide) ?_
  refine lv_icmp_ne (tgt := 345) hx hb dL_refuses_336 (by decide) (fun c25 => ?_) (fun z => absurd z ((by decide)))
  refine lv_iload hx hb dL_refuses_345 (lv_at hl 5 rfl) ?_
  refine mcallX (rest := []) hw ⟨hx, hb, hml, hown, hts⟩ hS (x_X3_addRule_1 hl0 hC hwf 1 5 6 1 (-2147483648) (by decide)) (vx_cwSW 6 hts gL_refuses_L_rule rfl rfl rfl (by decide +kernel) ⟨Nat.le_of_ble_eq_true rfl, Nat.le_of_ble_eq_true rfl⟩) rfl hl.1 rfl (Nat.le_of_ble_eq_true rfl) dL_refuses_347 ⟨Nat.le_of_ble_eq_true rfl, Nat.le_of_ble_eq_true rfl⟩ (fun H locs hw hS => ?_)
  refine lv_bipush (v := (-72)) hx hb dL_refuses_350 (by decide) ?_
  refine lv_icmp_ne (tgt := 537) hx hb dL_refuses_352 (by decide) (fun z => absurd ((by decide)) z) (fun c26 => ?_)
  refine lv_aload_n hx hb dL_refuses_355 rfl (lv_at hl 6 rfl) ?_
  refine lv_iconst (v := (1)) hx hb dL_refuses_356 (by decide) ?_
  refine lv_iload hx hb dL_refuses_357 (lv_at hl 3 rfl) ?_
  refine lv_iconst (v := (1)) hx hb dL_refuses_359 (by decide) ?_
  refine lv_iconst (v := (0)) hx hb dL_refuses_360 (by decide) ?_
  refine lv_iconst (v := (0)) hx hb dL_refuses_361 (by decide) ?_
  refine mcallX (rest := []) hw ⟨hx, hb, hml, hown, hts⟩ hS (x_X3_setRule hl0 hC hwf (-2147483648) (inn_neg (by decide)) 0 0) (vx_cwSW 6 hts gL_refuses_L_act rfl rfl rfl (by decide +kernel) ⟨Nat.le_of_ble_eq_true rfl, Nat.le_of_ble_eq_true rfl⟩) rfl hl.1 rfl (Nat.le_of_ble_eq_true rfl) dL_refuses_362 ⟨Nat.le_of_ble_eq_true rfl, Nat.le_of_ble_eq_true rfl⟩ (fun H locs hw hS => ?_)
  refine lv_bipush (v := (-71)) hx hb dL_refuses_365 (by decide) ?_
  refine lv_icmp_ne (tgt := 537) hx hb dL_refuses_367 (by decide) (fun z => absurd ((by decide)) z) (fun c27 => ?_)
  refine lv_aload_n hx hb dL_refuses_370 rfl (lv_at hl 6 rfl) ?_
  refine lv_iconst (v := (2)) hx hb dL_refuses_371 (by decide) ?_
  refine lv_iload hx hb dL_refuses_372 (lv_at hl 0 rfl) ?_
  refine lv_iconst (v := (1)) hx hb dL_refuses_374 (by decide) ?_
  refine lv_iconst (v := (0)) hx hb dL_refuses_375 (by decide) ?_
  refine lv_iconst (v := (0)) hx hb dL_refuses_376 (by decide) ?_
  refine mcallX (rest := []) hw ⟨hx, hb, hml, hown, hts⟩ hS (x_X3_setHoliday hl0 hC hwf (-2147483648) (by decide) 0 0) (vx_cwSW 6 hts gL_refuses_L_act rfl rfl rfl (by decide +kernel) ⟨Nat.le_of_ble_eq_true rfl, Nat.le_of_ble_eq_true rfl⟩) rfl hl.1 rfl (Nat.le_of_ble_eq_true rfl) dL_refuses_377 ⟨Nat.le_of_ble_eq_true rfl, Nat.le_of_ble_eq_true rfl⟩ (fun H locs hw hS => ?_)
  refine lv_bipush (v := (-72)) hx hb dL_refuses_380 (by decide) ?_
  refine lv_icmp_ne (tgt := 537) hx hb dL_refuses_382 (by decide) (fun z => absurd ((by decide)) z) (fun c28 => ?_)
  refine lv_aload_n hx hb dL_refuses_385 rfl (lv_at hl 6 rfl) ?_
  refine lv_iconst (v := (3)) hx hb dL_refuses_386 (by decide) ?_
  refine lv_iload hx hb dL_refuses_387 (lv_at hl 4 rfl) ?_
  refine lv_iconst (v := (0)) hx hb dL_refuses_389 (by decide) ?_
  refine lv_iconst (v := (0)) hx hb dL_refuses_390 (by decide) ?_
  refine lv_iconst (v := (0)) hx hb dL_refuses_391 (by decide) ?_
  refine mcallX (rest := []) hw ⟨hx, hb, hml, hown, hts⟩ hS (x_X3_addWorker_1 hl0 hC hwf (-2147483648) (by decide) 0 0 0) (vx_cwSW 6 hts gL_refuses_L_act rfl rfl rfl (by decide +kernel) ⟨Nat.le_of_ble_eq_true rfl, Nat.le_of_ble_eq_true rfl⟩) rfl hl.1 rfl (Nat.le_of_ble_eq_true rfl) dL_refuses_392 ⟨Nat.le_of_ble_eq_true rfl, Nat.le_of_ble_eq_true rfl⟩ (fun H locs hw hS => ?_)
  refine lv_bipush (v := (-72)) hx hb dL_refuses_395 (by decide) ?_
  refine lv_icmp_ne (tgt := 537) hx hb dL_refuses_397 (by decide) (fun z => absurd ((by decide)) z) (fun c29 => ?_)
  refine lv_aload_n hx hb dL_refuses_400 rfl (lv_at hl 6 rfl) ?_
  refine lv_iconst (v := (4)) hx hb dL_refuses_401 (by decide) ?_
  refine lv_iload hx hb dL_refuses_402 (lv_at hl 2 rfl) ?_
  refine lv_iconst (v := (-1)) hx hb dL_refuses_404 (by decide) ?_
  refine lv_iconst (v := (0)) hx hb dL_refuses_405 (by decide) ?_
  refine lv_iconst (v := (0)) hx hb dL_refuses_406 (by decide) ?_
  refine mcallX (rest := []) hw ⟨hx, hb, hml, hown, hts⟩ hS (x_X3_setRank_1 hl0 hC hwf (-2147483648) (-1) (inn_neg (by decide)) 0 0) (vx_cwSW 6 hts gL_refuses_L_act rfl rfl rfl (by decide +kernel) ⟨Nat.le_of_ble_eq_true rfl, Nat.le_of_ble_eq_true rfl⟩) rfl hl.1 rfl (Nat.le_of_ble_eq_true rfl) dL_refuses_407 ⟨Nat.le_of_ble_eq_true rfl, Nat.le_of_ble_eq_true rfl⟩ (fun H locs hw hS => ?_)
  refine lv_bipush (v := (-71)) hx hb dL_refuses_410 (by decide) ?_
  refine lv_icmp_ne (tgt := 537) hx hb dL_refuses_412 (by decide) (fun z => absurd ((by decide)) z) (fun c30 => ?_)
  refine lv_aload_n hx hb dL_refuses_415 rfl (lv_at hl 6 rfl) ?_
  refine lv_iconst (v := (4)) hx hb dL_refuses_416 (by decide) ?_
  refine lv_iconst (v := (0)) hx hb dL_refuses_417 (by decide) ?_
  refine lv_iload hx hb dL_refuses_418 (lv_at hl 4 rfl) ?_
  refine lv_iconst (v := (0)) hx hb dL_refuses_420 (by decide) ?_
  refine lv_iconst (v := (0)) hx hb dL_refuses_421 (by decide) ?_
  refine mcallX (rest := []) hw ⟨hx, hb, hml, hown, hts⟩ hS (x_X3_setRank_2 hl0 hC hwf 0 hnw (-2147483648) (by decide) 0 0) (vx_cwSW 6 hts gL_refuses_L_act rfl rfl rfl (by decide +kernel) ⟨Nat.le_of_ble_eq_true rfl, Nat.le_of_ble_eq_true rfl⟩) rfl hl.1 rfl (Nat.le_of_ble_eq_true rfl) dL_refuses_422 ⟨Nat.le_of_ble_eq_true rfl, Nat.le_of_ble_eq_true rfl⟩ (fun H locs hw hS => ?_)
  refine lv_bipush (v := (-72)) hx hb dL_refuses_425 (by decide) ?_
  refine lv_icmp_ne (tgt := 537) hx hb dL_refuses_427 (by decide) (fun z => absurd ((by decide)) z) (fun c31 => ?_)
  refine lv_aload_n hx hb dL_refuses_430 rfl (lv_at hl 6 rfl) ?_
  refine lv_iconst (v := (5)) hx hb dL_refuses_431 (by decide) ?_
  refine lv_iload hx hb dL_refuses_432 (lv_at hl 2 rfl) ?_
  refine lv_iconst (v := (-1)) hx hb dL_refuses_434 (by decide) ?_
  refine lv_iconst (v := (0)) hx hb dL_refuses_435 (by decide) ?_
  refine lv_iconst (v := (0)) hx hb dL_refuses_436 (by decide) ?_
  refine mcallX (rest := []) hw ⟨hx, hb, hml, hown, hts⟩ hS (x_X3_addShift_1 hl0 hC hwf (-2147483648) (-1) 0 0 (inn_neg (by decide))) (vx_cwSW 6 hts gL_refuses_L_act rfl rfl rfl (by decide +kernel) ⟨Nat.le_of_ble_eq_true rfl, Nat.le_of_ble_eq_true rfl⟩) rfl hl.1 rfl (Nat.le_of_ble_eq_true rfl) dL_refuses_437 ⟨Nat.le_of_ble_eq_true rfl, Nat.le_of_ble_eq_true rfl⟩ (fun H locs hw hS => ?_)
  refine lv_bipush (v := (-71)) hx hb dL_refuses_440 (by decide) ?_
  refine lv_icmp_ne (tgt := 537) hx hb dL_refuses_442 (by decide) (fun z => absurd ((by decide)) z) (fun c32 => ?_)
  refine lv_aload_n hx hb dL_refuses_445 rfl (lv_at hl 6 rfl) ?_
  refine lv_iconst (v := (5)) hx hb dL_refuses_446 (by decide) ?_
  refine lv_iconst (v := (0)) hx hb dL_refuses_447 (by decide) ?_
  refine lv_iload hx hb dL_refuses_448 (lv_at hl 13 rfl) ?_
  refine lv_iconst (v := (1)) hx hb dL_refuses_450 (by decide) ?_
  refine lv_icmp_ne (tgt := 460) hx hb dL_refuses_451 (by decide) (fun c33 => ?_) (fun z => absurd z ((by decide)))
  refine lv_iload hx hb dL_refuses_460 (lv_at hl 5 rfl) ?_
  refine lv_iconst (v := (5)) hx hb dL_refuses_462 (by decide) ?_
  refine lv_iconst (v := (5)) hx hb dL_refuses_463 (by decide) ?_
  refine mcallX (rest := []) hw ⟨hx, hb, hml, hown, hts⟩ hS (x_X3_addShift_2 hl0 hC hwf 0 hnw (-2147483648) 5 5 (by decide)) (vx_cwSW 6 hts gL_refuses_L_act rfl rfl rfl (by decide +kernel) ⟨Nat.le_of_ble_eq_true rfl, Nat.le_of_ble_eq_true rfl⟩) rfl hl.1 rfl (Nat.le_of_ble_eq_true rfl) dL_refuses_464 ⟨Nat.le_of_ble_eq_true rfl, Nat.le_of_ble_eq_true rfl⟩ (fun H locs hw hS => ?_)
  refine lv_bipush (v := (-72)) hx hb dL_refuses_467 (by decide) ?_
  refine lv_icmp_ne (tgt := 537) hx hb dL_refuses_469 (by decide) (fun z => absurd ((by decide)) z) (fun c34 => ?_)
  refine lv_aload_n hx hb dL_refuses_472 rfl (lv_at hl 6 rfl) ?_
  refine lv_iconst (v := (5)) hx hb dL_refuses_473 (by decide) ?_
  refine lv_iconst (v := (0)) hx hb dL_refuses_474 (by decide) ?_
  refine lv_iconst (v := (5)) hx hb dL_refuses_475 (by decide) ?_
  refine lv_iload hx hb dL_refuses_476 (lv_at hl 13 rfl) ?_
  refine lv_iconst (v := (1)) hx hb dL_refuses_478 (by decide) ?_
  refine lv_icmp_ne (tgt := 487) hx hb dL_refuses_479 (by decide) (fun c35 => ?_) (fun z => absurd z ((by decide)))
  refine lv_iload hx hb dL_refuses_487 (lv_at hl 5 rfl) ?_
  refine lv_iconst (v := (5)) hx hb dL_refuses_489 (by decide) ?_
  refine mcallX (rest := []) hw ⟨hx, hb, hml, hown, hts⟩ hS (x_X3_addShift_2 hl0 hC hwf 0 hnw 5 (-2147483648) 5 (by decide)) (vx_cwSW 6 hts gL_refuses_L_act rfl rfl rfl (by decide +kernel) ⟨Nat.le_of_ble_eq_true rfl, Nat.le_of_ble_eq_true rfl⟩) rfl hl.1 rfl (Nat.le_of_ble_eq_true rfl) dL_refuses_490 ⟨Nat.le_of_ble_eq_true rfl, Nat.le_of_ble_eq_true rfl⟩ (fun H locs hw hS => ?_)
  refine lv_bipush (v := (-72)) hx hb dL_refuses_493 (by decide) ?_
  refine lv_icmp_ne (tgt := 537) hx hb dL_refuses_495 (by decide) (fun z => absurd ((by decide)) z) (fun c36 => ?_)
  refine lv_aload_n hx hb dL_refuses_498 rfl (lv_at hl 6 rfl) ?_
  refine lv_iconst (v := (5)) hx hb dL_refuses_499 (by decide) ?_
  refine lv_iconst (v := (0)) hx hb dL_refuses_500 (by decide) ?_
  refine lv_iconst (v := (5)) hx hb dL_refuses_501 (by decide) ?_
  refine lv_iconst (v := (5)) hx hb dL_refuses_502 (by decide) ?_
  refine lv_iload hx hb dL_refuses_503 (lv_at hl 13 rfl) ?_
  refine lv_if_ne (tgt := 512) hx hb dL_refuses_505 (by decide) (fun c37 => ?_) (fun z => absurd z ((by decide)))
  refine lv_iload hx hb dL_refuses_512 (lv_at hl 13 rfl) ?_
  refine lv_iconst (v := (1)) hx hb dL_refuses_514 (by decide) ?_
  refine lv_icmp_ne (tgt := 523) hx hb dL_refuses_515 (by decide) (fun c38 => ?_) (fun z => absurd z ((by decide)))
  refine lv_iload hx hb dL_refuses_523 (lv_at hl 5 rfl) ?_
  refine mcallX (rest := []) hw ⟨hx, hb, hml, hown, hts⟩ hS (x_X3_addShift_2 hl0 hC hwf 0 hnw 5 5 (-2147483648) (by decide)) (vx_cwSW 6 hts gL_refuses_L_act rfl rfl rfl (by decide +kernel) ⟨Nat.le_of_ble_eq_true rfl, Nat.le_of_ble_eq_true rfl⟩) rfl hl.1 rfl (Nat.le_of_ble_eq_true rfl) dL_refuses_525 ⟨Nat.le_of_ble_eq_true rfl, Nat.le_of_ble_eq_true rfl⟩ (fun H locs hw hS => ?_)
  refine lv_bipush (v := (-72)) hx hb dL_refuses_528 (by decide) ?_
  refine lv_icmp_ne (tgt := 537) hx hb dL_refuses_530 (by decide) (fun z => absurd ((by decide)) z) (fun c39 => ?_)
  refine lv_iconst (v := (1)) hx hb dL_refuses_533 (by decide) ?_
  refine lv_goto (tgt := 538) hx hb dL_refuses_534 (by decide) ?_
  refine lv_istore (lv' := [(14, .int (1)), (13, .int ((-2147483648))), (12, .int ((-2147483648))), (11, .int ((-2147483648))), (10, .int ((-2147483648))), (9, .int ((-2147483648))), (8, .int ((-2147483648))), (0, .ref (α (0))), (1, .int (nI nr)), (2, .int (nI nw)), (3, .int (nI ns)), (4, .int (P)), (5, .int (Wk)), (6, .int (2147483647)), (7, .int (3))]) hx hb dL_refuses_538 hl (by decide) rfl (fun ls hl => ?_)
  refine lv_bipush (v := (6)) hx hb dL_refuses_540 (by decide) ?_
  refine lv_istore (lv' := [(15, .int (6)), (14, .int (1)), (13, .int ((-2147483648))), (12, .int ((-2147483648))), (11, .int ((-2147483648))), (10, .int ((-2147483648))), (9, .int ((-2147483648))), (8, .int ((-2147483648))), (0, .ref (α (0))), (1, .int (nI nr)), (2, .int (nI nw)), (3, .int (nI ns)), (4, .int (P)), (5, .int (Wk)), (6, .int (2147483647)), (7, .int (3))]) hx hb dL_refuses_542 hl (by decide) rfl (fun ls hl => ?_)
  refine lv_iload hx hb dL_refuses_544 (lv_at hl 0 rfl) ?_
  refine lv_bipush (v := (13)) hx hb dL_refuses_546 (by decide) ?_
  refine lv_icmp_ge (tgt := 585) hx hb dL_refuses_548 (by decide) (fun z => absurd z ((by decide))) (fun c40 => ?_)
  refine lv_iload hx hb dL_refuses_551 (lv_at hl 1 rfl) ?_
  refine lv_if_eq (tgt := 576) hx hb dL_refuses_553 (by decide) (fun z => absurd z ((by decide))) (fun c41 => ?_)
  refine lv_aload_n hx hb dL_refuses_556 rfl (lv_at hl 8 rfl) ?_
  refine lv_iload hx hb dL_refuses_557 (lv_at hl 0 rfl) ?_
  refine lv_iload hx hb dL_refuses_559 (lv_at hl 3 rfl) ?_
  refine lv_iconst (v := (-1)) hx hb dL_refuses_561 (by decide) ?_
  refine lv_iconst (v := (0)) hx hb dL_refuses_562 (by decide) ?_
  refine lv_iconst (v := (0)) hx hb dL_refuses_563 (by decide) ?_
  refine mcallX (rest := []) hw ⟨hx, hb, hml, hown, hts⟩ hS (x_X3_cancel_1 hl0 hC hwf (-2147483648) (inn_neg (by decide)) (-1) 0 0) (vx_cwSW 6 hts gL_refuses_L_act rfl rfl rfl (by decide +kernel) ⟨Nat.le_of_ble_eq_true rfl, Nat.le_of_ble_eq_true rfl⟩) rfl hl.1 rfl (Nat.le_of_ble_eq_true rfl) dL_refuses_564 ⟨Nat.le_of_ble_eq_true rfl, Nat.le_of_ble_eq_true rfl⟩ (fun H locs hw hS => ?_)
  refine lv_bipush (v := (-71)) hx hb dL_refuses_567 (by decide) ?_
  refine lv_icmp_ne (tgt := 576) hx hb dL_refuses_569 (by decide) (fun z => absurd ((by decide)) z) (fun c42 => ?_)
  refine lv_iconst (v := (1)) hx hb dL_refuses_572 (by decide) ?_
  refine lv_goto (tgt := 577) hx hb dL_refuses_573 (by decide) ?_
  refine lv_istore (lv' := [(14, .int (1)), (15, .int (6)), (13, .int ((-2147483648))), (12, .int ((-2147483648))), (11, .int ((-2147483648))), (10, .int ((-2147483648))), (9, .int ((-2147483648))), (8, .int ((-2147483648))), (0, .ref (α (0))), (1, .int (nI nr)), (2, .int (nI nw)), (3, .int (nI ns)), (4, .int (P)), (5, .int (Wk)), (6, .int (2147483647)), (7, .int (3))]) hx hb dL_refuses_577 hl (by decide) rfl (fun ls hl => ?_)
  refine lv_iinc (v := 7) (lv' := [(15, .int (7)), (14, .int (1)), (13, .int ((-2147483648))), (12, .int ((-2147483648))), (11, .int ((-2147483648))), (10, .int ((-2147483648))), (9, .int ((-2147483648))), (8, .int ((-2147483648))), (0, .ref (α (0))), (1, .int (nI nr)), (2, .int (nI nw)), (3, .int (nI ns)), (4, .int (P)), (5, .int (Wk)), (6, .int (2147483647)), (7, .int (3))]) hx hb dL_refuses_579 hl (k := 1) rfl (by decide) (by decide) rfl (fun ls hl => ?_)
  refine lv_goto (tgt := 544) hx hb dL_refuses_582 (by decide) ?_
  refine lv_iload hx hb dL_refuses_544 (lv_at hl 0 rfl) ?_
  refine lv_bipush (v := (13)) hx hb dL_refuses_546 (by decide) ?_
  refine lv_icmp_ge (tgt := 585) hx hb dL_refuses_548 (by decide) (fun z => absurd z ((by decide))) (fun c43 => ?_)
  refine lv_iload hx hb dL_refuses_551 (lv_at hl 1 rfl) ?_
  refine lv_if_eq (tgt := 576) hx hb dL_refuses_553 (by decide) (fun z => absurd z ((by decide))) (fun c44 => ?_)
  refine lv_aload_n hx hb dL_refuses_556 rfl (lv_at hl 8 rfl) ?_
  refine lv_iload hx hb dL_refuses_557 (lv_at hl 0 rfl) ?_
  refine lv_iload hx hb dL_refuses_559 (lv_at hl 3 rfl) ?_
  refine lv_iconst (v := (-1)) hx hb dL_refuses_561 (by decide) ?_
  refine lv_iconst (v := (0)) hx hb dL_refuses_562 (by decide) ?_
  refine lv_iconst (v := (0)) hx hb dL_refuses_563 (by decide) ?_
  refine mcallX (rest := []) hw ⟨hx, hb, hml, hown, hts⟩ hS (x_X3_takeBreaks_1 hl0 hC hwf (-2147483648) (inn_neg (by decide)) (-1) 0 0) (vx_cwSW 6 hts gL_refuses_L_act rfl rfl rfl (by decide +kernel) ⟨Nat.le_of_ble_eq_true rfl, Nat.le_of_ble_eq_true rfl⟩) rfl hl.1 rfl (Nat.le_of_ble_eq_true rfl) dL_refuses_564 ⟨Nat.le_of_ble_eq_true rfl, Nat.le_of_ble_eq_true rfl⟩ (fun H locs hw hS => ?_)
  refine lv_bipush (v := (-71)) hx hb dL_refuses_567 (by decide) ?_
  refine lv_icmp_ne (tgt := 576) hx hb dL_refuses_569 (by decide) (fun z => absurd ((by decide)) z) (fun c45 => ?_)
  refine lv_iconst (v := (1)) hx hb dL_refuses_572 (by decide) ?_
  refine lv_goto (tgt := 577) hx hb dL_refuses_573 (by decide) ?_
  refine lv_istore (lv' := [(14, .int (1)), (15, .int (7)), (13, .int ((-2147483648))), (12, .int ((-2147483648))), (11, .int ((-2147483648))), (10, .int ((-2147483648))), (9, .int ((-2147483648))), (8, .int ((-2147483648))), (0, .ref (α (0))), (1, .int (nI nr)), (2, .int (nI nw)), (3, .int (nI ns)), (4, .int (P)), (5, .int (Wk)), (6, .int (2147483647)), (7, .int (3))]) hx hb dL_refuses_577 hl (by decide) rfl (fun ls hl => ?_)
  refine lv_iinc (v := 8) (lv' := [(15, .int (8)), (14, .int (1)), (13, .int ((-2147483648))), (12, .int ((-2147483648))), (11, .int ((-2147483648))), (10, .int ((-2147483648))), (9, .int ((-2147483648))), (8, .int ((-2147483648))), (0, .ref (α (0))), (1, .int (nI nr)), (2, .int (nI nw)), (3, .int (nI ns)), (4, .int (P)), (5, .int (Wk)), (6, .int (2147483647)), (7, .int (3))]) hx hb dL_refuses_579 hl (k := 1) rfl (by decide) (by decide) rfl (fun ls hl => ?_)
  refine lv_goto (tgt := 544) hx hb dL_refuses_582 (by decide) ?_
  refine lv_iload hx hb dL_refuses_544 (lv_at hl 0 rfl) ?_
  refine lv_bipush (v := (13)) hx hb dL_refuses_546 (by decide) ?_
  refine lv_icmp_ge (tgt := 585) hx hb dL_refuses_548 (by decide) (fun z => absurd z ((by decide))) (fun c46 => ?_)
  refine lv_iload hx hb dL_refuses_551 (lv_at hl 1 rfl) ?_
  refine lv_if_eq (tgt := 576) hx hb dL_refuses_553 (by decide) (fun z => absurd z ((by decide))) (fun c47 => ?_)
  refine lv_aload_n hx hb dL_refuses_556 rfl (lv_at hl 8 rfl) ?_
  refine lv_iload hx hb dL_refuses_557 (lv_at hl 0 rfl) ?_
  refine lv_iload hx hb dL_refuses_559 (lv_at hl 3 rfl) ?_
  refine lv_iconst (v := (-1)) hx hb dL_refuses_561 (by decide) ?_
  refine lv_iconst (v := (0)) hx hb dL_refuses_562 (by decide) ?_
  refine lv_iconst (v := (0)) hx hb dL_refuses_563 (by decide) ?_
  refine mcallX (rest := []) hw ⟨hx, hb, hml, hown, hts⟩ hS (x_X3_paidQuarters_1 hl0 hC hwf (-2147483648) (inn_neg (by decide)) (-1) 0 0) (vx_cwSW 6 hts gL_refuses_L_act rfl rfl rfl (by decide +kernel) ⟨Nat.le_of_ble_eq_true rfl, Nat.le_of_ble_eq_true rfl⟩) rfl hl.1 rfl (Nat.le_of_ble_eq_true rfl) dL_refuses_564 ⟨Nat.le_of_ble_eq_true rfl, Nat.le_of_ble_eq_true rfl⟩ (fun H locs hw hS => ?_)
  refine lv_bipush (v := (-71)) hx hb dL_refuses_567 (by decide) ?_
  refine lv_icmp_ne (tgt := 576) hx hb dL_refuses_569 (by decide) (fun z => absurd ((by decide)) z) (fun c48 => ?_)
  refine lv_iconst (v := (1)) hx hb dL_refuses_572 (by decide) ?_
  refine lv_goto (tgt := 577) hx hb dL_refuses_573 (by decide) ?_
  refine lv_istore (lv' := [(14, .int (1)), (15, .int (8)), (13, .int ((-2147483648))), (12, .int ((-2147483648))), (11, .int ((-2147483648))), (10, .int ((-2147483648))), (9, .int ((-2147483648))), (8, .int ((-2147483648))), (0, .ref (α (0))), (1, .int (nI nr)), (2, .int (nI nw)), (3, .int (nI ns)), (4, .int (P)), (5, .int (Wk)), (6, .int (2147483647)), (7, .int (3))]) hx hb dL_refuses_577 hl (by decide) rfl (fun ls hl => ?_)
  refine lv_iinc (v := 9) (lv' := [(15, .int (9)), (14, .int (1)), (13, .int ((-2147483648))), (12, .int ((-2147483648))), (11, .int ((-2147483648))), (10, .int ((-2147483648))), (9, .int ((-2147483648))), (8, .int ((-2147483648))), (0, .ref (α (0))), (1, .int (nI nr)), (2, .int (nI nw)), (3, .int (nI ns)), (4, .int (P)), (5, .int (Wk)), (6, .int (2147483647)), (7, .int (3))]) hx hb dL_refuses_579 hl (k := 1) rfl (by decide) (by decide) rfl (fun ls hl => ?_)
  refine lv_goto (tgt := 544) hx hb dL_refuses_582 (by decide) ?_
  refine lv_iload hx hb dL_refuses_544 (lv_at hl 0 rfl) ?_
  refine lv_bipush (v := (13)) hx hb dL_refuses_546 (by decide) ?_
  refine lv_icmp_ge (tgt := 585) hx hb dL_refuses_548 (by decide) (fun z => absurd z ((by decide))) (fun c49 => ?_)
  refine lv_iload hx hb dL_refuses_551 (lv_at hl 1 rfl) ?_
  refine lv_if_eq (tgt := 576) hx hb dL_refuses_553 (by decide) (fun z => absurd z ((by decide))) (fun c50 => ?_)
  refine lv_aload_n hx hb dL_refuses_556 rfl (lv_at hl 8 rfl) ?_
  refine lv_iload hx hb dL_refuses_557 (lv_at hl 0 rfl) ?_
  refine lv_iload hx hb dL_refuses_559 (lv_at hl 3 rfl) ?_
  refine lv_iconst (v := (-1)) hx hb dL_refuses_561 (by decide) ?_
  refine lv_iconst (v := (0)) hx hb dL_refuses_562 (by decide) ?_
  refine lv_iconst (v := (0)) hx hb dL_refuses_563 (by decide) ?_
  refine mcallX (rest := []) hw ⟨hx, hb, hml, hown, hts⟩ hS (x_X3_percentAt_1 hl0 hC hwf (-2147483648) (inn_neg (by decide)) (-1) 0 0) (vx_cwSW 6 hts gL_refuses_L_act rfl rfl rfl (by decide +kernel) ⟨Nat.le_of_ble_eq_true rfl, Nat.le_of_ble_eq_true rfl⟩) rfl hl.1 rfl (Nat.le_of_ble_eq_true rfl) dL_refuses_564 ⟨Nat.le_of_ble_eq_true rfl, Nat.le_of_ble_eq_true rfl⟩ (fun H locs hw hS => ?_)
  refine lv_bipush (v := (-71)) hx hb dL_refuses_567 (by decide) ?_
  refine lv_icmp_ne (tgt := 576) hx hb dL_refuses_569 (by decide) (fun z => absurd ((by decide)) z) (fun c51 => ?_)
  refine lv_iconst (v := (1)) hx hb dL_refuses_572 (by decide) ?_
  refine lv_goto (tgt := 577) hx hb dL_refuses_573 (by decide) ?_
  refine lv_istore (lv' := [(14, .int (1)), (15, .int (9)), (13, .int ((-2147483648))), (12, .int ((-2147483648))), (11, .int ((-2147483648))), (10, .int ((-2147483648))), (9, .int ((-2147483648))), (8, .int ((-2147483648))), (0, .ref (α (0))), (1, .int (nI nr)), (2, .int (nI nw)), (3, .int (nI ns)), (4, .int (P)), (5, .int (Wk)), (6, .int (2147483647)), (7, .int (3))]) hx hb dL_refuses_577 hl (by decide) rfl (fun ls hl => ?_)
  refine lv_iinc (v := 10) (lv' := [(15, .int (10)), (14, .int (1)), (13, .int ((-2147483648))), (12, .int ((-2147483648))), (11, .int ((-2147483648))), (10, .int ((-2147483648))), (9, .int ((-2147483648))), (8, .int ((-2147483648))), (0, .ref (α (0))), (1, .int (nI nr)), (2, .int (nI nw)), (3, .int (nI ns)), (4, .int (P)), (5, .int (Wk)), (6, .int (2147483647)), (7, .int (3))]) hx hb dL_refuses_579 hl (k := 1) rfl (by decide) (by decide) rfl (fun ls hl => ?_)
  refine lv_goto (tgt := 544) hx hb dL_refuses_582 (by decide) ?_
  refine lv_iload hx hb dL_refuses_544 (lv_at hl 0 rfl) ?_
  refine lv_bipush (v := (13)) hx hb dL_refuses_546 (by decide) ?_
  refine lv_icmp_ge (tgt := 585) hx hb dL_refuses_548 (by decide) (fun z => absurd z ((by decide))) (fun c52 => ?_)
  refine lv_iload hx hb dL_refuses_551 (lv_at hl 1 rfl) ?_
  refine lv_if_eq (tgt := 576) hx hb dL_refuses_553 (by decide) (fun z => absurd z ((by decide))) (fun c53 => ?_)
  refine lv_aload_n hx hb dL_refuses_556 rfl (lv_at hl 8 rfl) ?_
  refine lv_iload hx hb dL_refuses_557 (lv_at hl 0 rfl) ?_
  refine lv_iload hx hb dL_refuses_559 (lv_at hl 3 rfl) ?_
  refine lv_iconst (v := (-1)) hx hb dL_refuses_561 (by decide) ?_
  refine lv_iconst (v := (0)) hx hb dL_refuses_562 (by decide) ?_
  refine lv_iconst (v := (0)) hx hb dL_refuses_563 (by decide) ?_
  refine mcallX (rest := []) hw ⟨hx, hb, hml, hown, hts⟩ hS (x_X3_reasonAt_1 hl0 hC hwf (-2147483648) (inn_neg (by decide)) (-1) 0 0) (vx_cwSW 6 hts gL_refuses_L_act rfl rfl rfl (by decide +kernel) ⟨Nat.le_of_ble_eq_true rfl, Nat.le_of_ble_eq_true rfl⟩) rfl hl.1 rfl (Nat.le_of_ble_eq_true rfl) dL_refuses_564 ⟨Nat.le_of_ble_eq_true rfl, Nat.le_of_ble_eq_true rfl⟩ (fun H locs hw hS => ?_)
  refine lv_bipush (v := (-71)) hx hb dL_refuses_567 (by decide) ?_
  refine lv_icmp_ne (tgt := 576) hx hb dL_refuses_569 (by decide) (fun z => absurd ((by decide)) z) (fun c54 => ?_)
  refine lv_iconst (v := (1)) hx hb dL_refuses_572 (by decide) ?_
  refine lv_goto (tgt := 577) hx hb dL_refuses_573 (by decide) ?_
  refine lv_istore (lv' := [(14, .int (1)), (15, .int (10)), (13, .int ((-2147483648))), (12, .int ((-2147483648))), (11, .int ((-2147483648))), (10, .int ((-2147483648))), (9, .int ((-2147483648))), (8, .int ((-2147483648))), (0, .ref (α (0))), (1, .int (nI nr)), (2, .int (nI nw)), (3, .int (nI ns)), (4, .int (P)), (5, .int (Wk)), (6, .int (2147483647)), (7, .int (3))]) hx hb dL_refuses_577 hl (by decide) rfl (fun ls hl => ?_)
  refine lv_iinc (v := 11) (lv' := [(15, .int (11)), (14, .int (1)), (13, .int ((-2147483648))), (12, .int ((-2147483648))), (11, .int ((-2147483648))), (10, .int ((-2147483648))), (9, .int ((-2147483648))), (8, .int ((-2147483648))), (0, .ref (α (0))), (1, .int (nI nr)), (2, .int (nI nw)), (3, .int (nI ns)), (4, .int (P)), (5, .int (Wk)), (6, .int (2147483647)), (7, .int (3))]) hx hb dL_refuses_579 hl (k := 1) rfl (by decide) (by decide) rfl (fun ls hl => ?_)
  refine lv_goto (tgt := 544) hx hb dL_refuses_582 (by decide) ?_
  refine lv_iload hx hb dL_refuses_544 (lv_at hl 0 rfl) ?_
  refine lv_bipush (v := (13)) hx hb dL_refuses_546 (by decide) ?_
  refine lv_icmp_ge (tgt := 585) hx hb dL_refuses_548 (by decide) (fun z => absurd z ((by decide))) (fun c55 => ?_)
  refine lv_iload hx hb dL_refuses_551 (lv_at hl 1 rfl) ?_
  refine lv_if_eq (tgt := 576) hx hb dL_refuses_553 (by decide) (fun z => absurd z ((by decide))) (fun c56 => ?_)
  refine lv_aload_n hx hb dL_refuses_556 rfl (lv_at hl 8 rfl) ?_
  refine lv_iload hx hb dL_refuses_557 (lv_at hl 0 rfl) ?_
  refine lv_iload hx hb dL_refuses_559 (lv_at hl 3 rfl) ?_
  refine lv_iconst (v := (-1)) hx hb dL_refuses_561 (by decide) ?_
  refine lv_iconst (v := (0)) hx hb dL_refuses_562 (by decide) ?_
  refine lv_iconst (v := (0)) hx hb dL_refuses_563 (by decide) ?_
  refine mcallX (rest := []) hw ⟨hx, hb, hml, hown, hts⟩ hS (x_X3_missed_1 hl0 hC hwf (-2147483648) (inn_neg (by decide)) (-1) 0 0) (vx_cwSW 6 hts gL_refuses_L_act rfl rfl rfl (by decide +kernel) ⟨Nat.le_of_ble_eq_true rfl, Nat.le_of_ble_eq_true rfl⟩) rfl hl.1 rfl (Nat.le_of_ble_eq_true rfl) dL_refuses_564 ⟨Nat.le_of_ble_eq_true rfl, Nat.le_of_ble_eq_true rfl⟩ (fun H locs hw hS => ?_)
  refine lv_bipush (v := (-71)) hx hb dL_refuses_567 (by decide) ?_
  refine lv_icmp_ne (tgt := 576) hx hb dL_refuses_569 (by decide) (fun z => absurd ((by decide)) z) (fun c57 => ?_)
  refine lv_iconst (v := (1)) hx hb dL_refuses_572 (by decide) ?_
  refine lv_goto (tgt := 577) hx hb dL_refuses_573 (by decide) ?_
  refine lv_istore (lv' := [(14, .int (1)), (15, .int (11)), (13, .int ((-2147483648))), (12, .int ((-2147483648))), (11, .int ((-2147483648))), (10, .int ((-2147483648))), (9, .int ((-2147483648))), (8, .int ((-2147483648))), (0, .ref (α (0))), (1, .int (nI nr)), (2, .int (nI nw)), (3, .int (nI ns)), (4, .int (P)), (5, .int (Wk)), (6, .int (2147483647)), (7, .int (3))]) hx hb dL_refuses_577 hl (by decide) rfl (fun ls hl => ?_)
  refine lv_iinc (v := 12) (lv' := [(15, .int (12)), (14, .int (1)), (13, .int ((-2147483648))), (12, .int ((-2147483648))), (11, .int ((-2147483648))), (10, .int ((-2147483648))), (9, .int ((-2147483648))), (8, .int ((-2147483648))), (0, .ref (α (0))), (1, .int (nI nr)), (2, .int (nI nw)), (3, .int (nI ns)), (4, .int (P)), (5, .int (Wk)), (6, .int (2147483647)), (7, .int (3))]) hx hb dL_refuses_579 hl (k := 1) rfl (by decide) (by decide) rfl (fun ls hl => ?_)
  refine lv_goto (tgt := 544) hx hb dL_refuses_582 (by decide) ?_
  refine lv_iload hx hb dL_refuses_544 (lv_at hl 0 rfl) ?_
  refine lv_bipush (v := (13)) hx hb dL_refuses_546 (by decide) ?_
  refine lv_icmp_ge (tgt := 585) hx hb dL_refuses_548 (by decide) (fun z => absurd z ((by decide))) (fun c58 => ?_)
  refine lv_iload hx hb dL_refuses_551 (lv_at hl 1 rfl) ?_
  refine lv_if_eq (tgt := 576) hx hb dL_refuses_553 (by decide) (fun z => absurd z ((by decide))) (fun c59 => ?_)
  refine lv_aload_n hx hb dL_refuses_556 rfl (lv_at hl 8 rfl) ?_
  refine lv_iload hx hb dL_refuses_557 (lv_at hl 0 rfl) ?_
  refine lv_iload hx hb dL_refuses_559 (lv_at hl 3 rfl) ?_
  refine lv_iconst (v := (-1)) hx hb dL_refuses_561 (by decide) ?_
  refine lv_iconst (v := (0)) hx hb dL_refuses_562 (by decide) ?_
  refine lv_iconst (v := (0)) hx hb dL_refuses_563 (by decide) ?_
  refine mcallX (rest := []) hw ⟨hx, hb, hml, hown, hts⟩ hS (x_X3_pay_1 hl0 hC hwf (-2147483648) (inn_neg (by decide)) (-1) 0 0) (vx_cwSW 6 hts gL_refuses_L_act rfl rfl rfl (by decide +kernel) ⟨Nat.le_of_ble_eq_true rfl, Nat.le_of_ble_eq_true rfl⟩) rfl hl.1 rfl (Nat.le_of_ble_eq_true rfl) dL_refuses_564 ⟨Nat.le_of_ble_eq_true rfl, Nat.le_of_ble_eq_true rfl⟩ (fun H locs hw hS => ?_)
  refine lv_bipush (v := (-71)) hx hb dL_refuses_567 (by decide) ?_
  refine lv_icmp_ne (tgt := 576) hx hb dL_refuses_569 (by decide) (fun z => absurd ((by decide)) z) (fun c60 => ?_)
  refine lv_iconst (v := (1)) hx hb dL_refuses_572 (by decide) ?_
  refine lv_goto (tgt := 577) hx hb dL_refuses_573 (by decide) ?_
  refine lv_istore (lv' := [(14, .int (1)), (15, .int (12)), (13, .int ((-2147483648))), (12, .int ((-2147483648))), (11, .int ((-2147483648))), (10, .int ((-2147483648))), (9, .int ((-2147483648))), (8, .int ((-2147483648))), (0, .ref (α (0))), (1, .int (nI nr)), (2, .int (nI nw)), (3, .int (nI ns)), (4, .int (P)), (5, .int (Wk)), (6, .int (2147483647)), (7, .int (3))]) hx hb dL_refuses_577 hl (by decide) rfl (fun ls hl => ?_)
  refine lv_iinc (v := 13) (lv' := [(15, .int (13)), (14, .int (1)), (13, .int ((-2147483648))), (12, .int ((-2147483648))), (11, .int ((-2147483648))), (10, .int ((-2147483648))), (9, .int ((-2147483648))), (8, .int ((-2147483648))), (0, .ref (α (0))), (1, .int (nI nr)), (2, .int (nI nw)), (3, .int (nI ns)), (4, .int (P)), (5, .int (Wk)), (6, .int (2147483647)), (7, .int (3))]) hx hb dL_refuses_579 hl (k := 1) rfl (by decide) (by decide) rfl (fun ls hl => ?_)
  refine lv_goto (tgt := 544) hx hb dL_refuses_582 (by decide) ?_
  refine lv_iload hx hb dL_refuses_544 (lv_at hl 0 rfl) ?_
  refine lv_bipush (v := (13)) hx hb dL_refuses_546 (by decide) ?_
  refine lv_icmp_ge (tgt := 585) hx hb dL_refuses_548 (by decide) (fun c61 => ?_) (fun z => absurd ((by decide)) z)
  refine lv_iload hx hb dL_refuses_585 (lv_at hl 1 rfl) ?_
  refine lv_if_eq (tgt := 840) hx hb dL_refuses_587 (by decide) (fun z => absurd z ((by decide))) (fun c62 => ?_)
  refine lv_iload_n hx hb dL_refuses_590 rfl (lv_at hl 11 rfl) ?_
  refine lv_if_eq (tgt := 675) hx hb dL_refuses_591 (by decide) (fun c63 => ?_) (fun z => absurd ((by rw [hns]; rfl)) z)
  refine lv_aload_n hx hb dL_refuses_675 rfl (lv_at hl 8 rfl) ?_
  refine lv_bipush (v := (13)) hx hb dL_refuses_676 (by decide) ?_
  refine lv_iload hx hb dL_refuses_678 (lv_at hl 4 rfl) ?_
  refine lv_iconst (v := (-1)) hx hb dL_refuses_680 (by decide) ?_
  refine lv_iconst (v := (0)) hx hb dL_refuses_681 (by decide) ?_
  refine lv_iconst (v := (0)) hx hb dL_refuses_682 (by decide) ?_
  refine mcallX (rest := []) hw ⟨hx, hb, hml, hown, hts⟩ hS (x_X3_payOf_1 hl0 hC hwf (-2147483648) (-1) 0 (inn_neg (by decide)) 0) (vx_cwSW 6 hts gL_refuses_L_act rfl rfl rfl (by decide +kernel) ⟨Nat.le_of_ble_eq_true rfl, Nat.le_of_ble_eq_true rfl⟩) rfl hl.1 rfl (Nat.le_of_ble_eq_true rfl) dL_refuses_683 ⟨Nat.le_of_ble_eq_true rfl, Nat.le_of_ble_eq_true rfl⟩ (fun H locs hw hS => ?_)
  refine lv_bipush (v := (-71)) hx hb dL_refuses_686 (by decide) ?_
  refine lv_icmp_ne (tgt := 840) hx hb dL_refuses_688 (by decide) (fun z => absurd ((by decide)) z) (fun c64 => ?_)
  refine lv_aload_n hx hb dL_refuses_691 rfl (lv_at hl 8 rfl) ?_
  refine lv_bipush (v := (13)) hx hb dL_refuses_692 (by decide) ?_
  refine lv_iconst (v := (0)) hx hb dL_refuses_694 (by decide) ?_
  refine lv_iload hx hb dL_refuses_695 (lv_at hl 2 rfl) ?_
  refine lv_sipush (v := (363)) hx hb dL_refuses_697 (by decide) ?_
  refine lv_iconst (v := (0)) hx hb dL_refuses_700 (by decide) ?_
  refine mcallX (rest := []) hw ⟨hx, hb, hml, hown, hts⟩ hS (x_X3_payOf_2 hl0 hC hwf 0 hnw (-2147483648) 363 (by decide) 0) (vx_cwSW 6 hts gL_refuses_L_act rfl rfl rfl (by decide +kernel) ⟨Nat.le_of_ble_eq_true rfl, Nat.le_of_ble_eq_true rfl⟩) rfl hl.1 rfl (Nat.le_of_ble_eq_true rfl) dL_refuses_701 ⟨Nat.le_of_ble_eq_true rfl, Nat.le_of_ble_eq_true rfl⟩ (fun H locs hw hS => ?_)
  refine lv_bipush (v := (-72)) hx hb dL_refuses_704 (by decide) ?_
  refine lv_icmp_ne (tgt := 840) hx hb dL_refuses_706 (by decide) (fun z => absurd ((by decide)) z) (fun c65 => ?_)
  refine lv_aload_n hx hb dL_refuses_709 rfl (lv_at hl 8 rfl) ?_
  refine lv_bipush (v := (13)) hx hb dL_refuses_710 (by decide) ?_
  refine lv_iconst (v := (0)) hx hb dL_refuses_712 (by decide) ?_
  refine lv_iconst (v := (5)) hx hb dL_refuses_713 (by decide) ?_
  refine lv_iload hx hb dL_refuses_714 (lv_at hl 15 rfl) ?_
  refine lv_if_ne (tgt := 723) hx hb dL_refuses_716 (by decide) (fun c66 => ?_) (fun z => absurd z ((by decide)))
  refine lv_iload hx hb dL_refuses_723 (lv_at hl 2 rfl) ?_
  refine lv_iconst (v := (0)) hx hb dL_refuses_725 (by decide) ?_
  refine mcallX (rest := []) hw ⟨hx, hb, hml, hown, hts⟩ hS (x_X3_payOf_2 hl0 hC hwf 0 hnw 5 (-2147483648) (by decide) 0) (vx_cwSW 6 hts gL_refuses_L_act rfl rfl rfl (by decide +kernel) ⟨Nat.le_of_ble_eq_true rfl, Nat.le_of_ble_eq_true rfl⟩) rfl hl.1 rfl (Nat.le_of_ble_eq_true rfl) dL_refuses_726 ⟨Nat.le_of_ble_eq_true rfl, Nat.le_of_ble_eq_true rfl⟩ (fun H locs hw hS => ?_)
  refine lv_bipush (v := (-72)) hx hb dL_refuses_729 (by decide) ?_
  refine lv_icmp_ne (tgt := 840) hx hb dL_refuses_731 (by decide) (fun z => absurd ((by decide)) z) (fun c67 => ?_)
  refine lv_aload_n hx hb dL_refuses_734 rfl (lv_at hl 8 rfl) ?_
  refine lv_bipush (v := (14)) hx hb dL_refuses_735 (by decide) ?_
  refine lv_iload hx hb dL_refuses_737 (lv_at hl 5 rfl) ?_
  refine lv_iconst (v := (0)) hx hb dL_refuses_739 (by decide) ?_
  refine lv_iconst (v := (0)) hx hb dL_refuses_740 (by decide) ?_
  refine lv_iconst (v := (0)) hx hb dL_refuses_741 (by decide) ?_
  refine mcallX (rest := []) hw ⟨hx, hb, hml, hown, hts⟩ hS (x_X3_paidBy_1 hl0 hC hwf (-2147483648) (inn_neg (by decide)) 0 0 0) (vx_cwSW 6 hts gL_refuses_L_act rfl rfl rfl (by decide +kernel) ⟨Nat.le_of_ble_eq_true rfl, Nat.le_of_ble_eq_true rfl⟩) rfl hl.1 rfl (Nat.le_of_ble_eq_true rfl) dL_refuses_742 ⟨Nat.le_of_ble_eq_true rfl, Nat.le_of_ble_eq_true rfl⟩ (fun H locs hw hS => ?_)
  refine lv_bipush (v := (-71)) hx hb dL_refuses_745 (by decide) ?_
  refine lv_icmp_ne (tgt := 840) hx hb dL_refuses_747 (by decide) (fun z => absurd ((by decide)) z) (fun c68 => ?_)
  refine lv_aload_n hx hb dL_refuses_750 rfl (lv_at hl 8 rfl) ?_
  refine lv_bipush (v := (15)) hx hb dL_refuses_751 (by decide) ?_
  refine lv_iload hx hb dL_refuses_753 (lv_at hl 4 rfl) ?_
  refine lv_iconst (v := (-1)) hx hb dL_refuses_755 (by decide) ?_
  refine lv_iconst (v := (0)) hx hb dL_refuses_756 (by decide) ?_
  refine lv_iconst (v := (0)) hx hb dL_refuses_757 (by decide) ?_
  refine mcallX (rest := []) hw ⟨hx, hb, hml, hown, hts⟩ hS (x_X3_worked_1 hl0 hC hwf (-2147483648) (-1) (inn_neg (by decide)) 0 0) (vx_cwSW 6 hts gL_refuses_L_act rfl rfl rfl (by decide +kernel) ⟨Nat.le_of_ble_eq_true rfl, Nat.le_of_ble_eq_true rfl⟩) rfl hl.1 rfl (Nat.le_of_ble_eq_true rfl) dL_refuses_758 ⟨Nat.le_of_ble_eq_true rfl, Nat.le_of_ble_eq_true rfl⟩ (fun H locs hw hS => ?_)
  refine lv_bipush (v := (-71)) hx hb dL_refuses_761 (by decide) ?_
  refine lv_icmp_ne (tgt := 840) hx hb dL_refuses_763 (by decide) (fun z => absurd ((by decide)) z) (fun c69 => ?_)
  refine lv_aload_n hx hb dL_refuses_766 rfl (lv_at hl 8 rfl) ?_
  refine lv_bipush (v := (15)) hx hb dL_refuses_767 (by decide) ?_
  refine lv_iconst (v := (0)) hx hb dL_refuses_769 (by decide) ?_
  refine lv_iload hx hb dL_refuses_770 (lv_at hl 15 rfl) ?_
  refine lv_iconst (v := (1)) hx hb dL_refuses_772 (by decide) ?_
  refine lv_icmp_ne (tgt := 781) hx hb dL_refuses_773 (by decide) (fun c70 => ?_) (fun z => absurd z ((by decide)))
  refine lv_iload hx hb dL_refuses_781 (lv_at hl 7 rfl) ?_
  refine lv_iconst (v := (0)) hx hb dL_refuses_783 (by decide) ?_
  refine lv_iconst (v := (0)) hx hb dL_refuses_784 (by decide) ?_
  refine mcallX (rest := []) hw ⟨hx, hb, hml, hown, hts⟩ hS (x_X3_worked_2 hl0 hC hwf 0 hnw (-2147483648) (by decide) 0 0) (vx_cwSW 6 hts gL_refuses_L_act rfl rfl rfl (by decide +kernel) ⟨Nat.le_of_ble_eq_true rfl, Nat.le_of_ble_eq_true rfl⟩) rfl hl.1 rfl (Nat.le_of_ble_eq_true rfl) dL_refuses_785 ⟨Nat.le_of_ble_eq_true rfl, Nat.le_of_ble_eq_true rfl⟩ (fun H locs hw hS => ?_)
  refine lv_bipush (v := (-72)) hx hb dL_refuses_788 (by decide) ?_
  refine lv_icmp_ne (tgt := 840) hx hb dL_refuses_790 (by decide) (fun z => absurd ((by decide)) z) (fun c71 => ?_)
  refine lv_aload_n hx hb dL_refuses_793 rfl (lv_at hl 8 rfl) ?_
  refine lv_bipush (v := (16)) hx hb dL_refuses_794 (by decide) ?_
  refine lv_iload hx hb dL_refuses_796 (lv_at hl 4 rfl) ?_
  refine lv_iconst (v := (-1)) hx hb dL_refuses_798 (by decide) ?_
  refine lv_iconst (v := (0)) hx hb dL_refuses_799 (by decide) ?_
  refine lv_iconst (v := (0)) hx hb dL_refuses_800 (by decide) ?_
  refine mcallX (rest := []) hw ⟨hx, hb, hml, hown, hts⟩ hS (x_X3_excess_1 hl0 hC hwf (-2147483648) (-1) (inn_neg (by decide)) 0 0) (vx_cwSW 6 hts gL_refuses_L_act rfl rfl rfl (by decide +kernel) ⟨Nat.le_of_ble_eq_true rfl, Nat.le_of_ble_eq_true rfl⟩) rfl hl.1 rfl (Nat.le_of_ble_eq_true rfl) dL_refuses_801 ⟨Nat.le_of_ble_eq_true rfl, Nat.le_of_ble_eq_true rfl⟩ (fun H locs hw hS => ?_)
  refine lv_bipush (v := (-71)) hx hb dL_refuses_804 (by decide) ?_
  refine lv_icmp_ne (tgt := 840) hx hb dL_refuses_806 (by decide) (fun z => absurd ((by decide)) z) (fun c72 => ?_)
  refine lv_aload_n hx hb dL_refuses_809 rfl (lv_at hl 8 rfl) ?_
  refine lv_bipush (v := (16)) hx hb dL_refuses_810 (by decide) ?_
  refine lv_iconst (v := (0)) hx hb dL_refuses_812 (by decide) ?_
  refine lv_iload hx hb dL_refuses_813 (lv_at hl 15 rfl) ?_
  refine lv_iconst (v := (1)) hx hb dL_refuses_815 (by decide) ?_
  refine lv_icmp_ne (tgt := 824) hx hb dL_refuses_816 (by decide) (fun c73 => ?_) (fun z => absurd z ((by decide)))
  refine lv_iload hx hb dL_refuses_824 (lv_at hl 7 rfl) ?_
  refine lv_iconst (v := (0)) hx hb dL_refuses_826 (by decide) ?_
  refine lv_iconst (v := (0)) hx hb dL_refuses_827 (by decide) ?_
  refine mcallX (rest := []) hw ⟨hx, hb, hml, hown, hts⟩ hS (x_X3_excess_2 hl0 hC hwf 0 hnw (-2147483648) (by decide) 0 0) (vx_cwSW 6 hts gL_refuses_L_act rfl rfl rfl (by decide +kernel) ⟨Nat.le_of_ble_eq_true rfl, Nat.le_of_ble_eq_true rfl⟩) rfl hl.1 rfl (Nat.le_of_ble_eq_true rfl) dL_refuses_828 ⟨Nat.le_of_ble_eq_true rfl, Nat.le_of_ble_eq_true rfl⟩ (fun H locs hw hS => ?_)
  refine lv_bipush (v := (-72)) hx hb dL_refuses_831 (by decide) ?_
  refine lv_icmp_ne (tgt := 840) hx hb dL_refuses_833 (by decide) (fun z => absurd ((by decide)) z) (fun c74 => ?_)
  refine lv_iconst (v := (1)) hx hb dL_refuses_836 (by decide) ?_
  refine lv_goto (tgt := 841) hx hb dL_refuses_837 (by decide) ?_
  refine lv_istore (lv' := [(14, .int (1)), (15, .int (13)), (13, .int ((-2147483648))), (12, .int ((-2147483648))), (11, .int ((-2147483648))), (10, .int ((-2147483648))), (9, .int ((-2147483648))), (8, .int ((-2147483648))), (0, .ref (α (0))), (1, .int (nI nr)), (2, .int (nI nw)), (3, .int (nI ns)), (4, .int (P)), (5, .int (Wk)), (6, .int (2147483647)), (7, .int (3))]) hx hb dL_refuses_841 hl (by decide) rfl (fun ls hl => ?_)
  refine lv_iload hx hb dL_refuses_843 (lv_at hl 0 rfl) ?_
  refine lv_if_ne (tgt := 850) hx hb dL_refuses_845 (by decide) (fun c75 => ?_) (fun z => absurd z ((by decide)))
  refine lv_iinc (v := 4) (lv' := [(7, .int (4)), (14, .int (1)), (15, .int (13)), (13, .int ((-2147483648))), (12, .int ((-2147483648))), (11, .int ((-2147483648))), (10, .int ((-2147483648))), (9, .int ((-2147483648))), (8, .int ((-2147483648))), (0, .ref (α (0))), (1, .int (nI nr)), (2, .int (nI nw)), (3, .int (nI ns)), (4, .int (P)), (5, .int (Wk)), (6, .int (2147483647))]) hx hb dL_refuses_850 hl (k := 15) rfl (by decide) (by decide) rfl (fun ls hl => ?_)
  refine lv_goto (tgt := 31) hx hb dL_refuses_853 (by decide) ?_
  exact kk H locs (lv_sub hl [9, 10, 11, 12, 13, 14, 15, 0] rfl) hw hS

set_option maxHeartbeats 40000000 in
set_option maxRecDepth 100000 in
theorem w_refusesA {l : Launch} (hl0 : l.stackTraces = false) {G : mG} {V : mV} {α : Nat → Nat} {f : sT} {nr nw ns : Nat} (hC : mC G V α f nr nw ns) (hwf : mwf f nr nw ns) (hnw : 0 < nw) (hns : ns = 0) : Met l yL_refuses wsL_refuses ({ frames := 9, cells := 124, slots := 744, locals := 172 }) (va_Pc [.ref (α (0)), .int (nI nr), .int (nI nw)] (fun U => mW G V α U U.heap)) (va_Qi (fun (r9 : Int32) (u : mV × (Nat → Nat)) => 1 = r9 ∧ u = (V, α)) (fun u t => mH G u.1 u.2 t.heap) (mfree G)) 124 744 (mfree G) := by
  refine Met.ofW (cc := cL_refuses) (maxL := 16) (ret := (some .boolean)) (by decide) rfl ?_
  intro p e s m args below meth c s₁ B hml hv
  obtain ⟨rfl, hw⟩ := hv
  have hx := B.exec
  have hb := B.bytes
  have hr := B.returns
  have hts := atoms_spec (ws := wsL_refuses) B.pre
  have hown : s.vm.findClass RL = some m.cls := findClass_of_methodNamed B.named
  have hlocks := B.notSynchronized
  have hS : va_S (mfree G) s.heap s.heap [] := va_S.rf
  have kc_79 := hts (.constant RL 79 (2147483647)) (by decide +kernel)
  have hl := lv_entry ([.ref (α (0)), .int (nI nr), .int (nI nw)]) (n := 16) (Nat.le_of_ble_eq_true rfl)
  rw [lg_entry_eq]
  generalize (lg_sl ([.ref (α (0)), .int (nI nr), .int (nI nw)]) ++ List.replicate (16 - (lg_sl ([.ref (α (0)), .int (nI nr), .int (nI nw)])).length) Slot.unset).toArray = ls at hl ⊢
  have hl : lv_has ls 16 [(0, .ref (α (0))), (1, .int (nI nr)), (2, .int (nI nw))] := hl
  refine lv_aload_n hx hb dL_refuses_0 rfl (lv_at hl 0 rfl) ?_
  refine mcallVi hw (hC.1) rfl rfl ⟨hx, hb, hml, hown, hts⟩ (c_X3_shifts hC hwf) (cwV 0 hts gL_refuses_X3_shifts rfl rfl rfl (by decide +kernel) ⟨Nat.le_of_ble_eq_true rfl, Nat.le_of_ble_eq_true rfl⟩) rfl hl.1 rfl (Nat.le_of_ble_eq_true rfl) dL_refuses_1 ⟨Nat.le_of_ble_eq_true rfl, Nat.le_of_ble_eq_true rfl⟩ ?_
  refine lv_istore_n (lv' := [(3, .int (nI ns)), (0, .ref (α (0))), (1, .int (nI nr)), (2, .int (nI nw))]) hx hb dL_refuses_4 rfl hl (by decide) rfl (fun ls hl => ?_)
  refine lv_aload_n hx hb dL_refuses_5 rfl (lv_at hl 1 rfl) ?_
  refine lv_iconst (v := (0)) hx hb dL_refuses_6 (by decide) ?_
  refine lv_iconst (v := (0)) hx hb dL_refuses_7 (by decide) ?_
  refine lv_sipush (v := (363)) hx hb dL_refuses_8 (by decide) ?_
  refine mcallVi hw (hC.1) rfl rfl ⟨hx, hb, hml, hown, hts⟩ (c_X3_payOf hC hwf 0 hnw 0 363 (by decide) (by decide)) (cwV 3 hts gL_refuses_X3_payOf rfl rfl rfl (by decide +kernel) ⟨Nat.le_of_ble_eq_true rfl, Nat.le_of_ble_eq_true rfl⟩) rfl hl.1 rfl (Nat.le_of_ble_eq_true rfl) dL_refuses_11 ⟨Nat.le_of_ble_eq_true rfl, Nat.le_of_ble_eq_true rfl⟩ ?_
  refine lv_istore (lv' := [(4, .int (s_po f nr (nI 0) 0 363 ns)), (3, .int (nI ns)), (0, .ref (α (0))), (1, .int (nI nr)), (2, .int (nI nw))]) hx hb dL_refuses_14 hl (by decide) rfl (fun ls hl => ?_)
  refine lv_aload_n hx hb dL_refuses_16 rfl (lv_at hl 2 rfl) ?_
  refine lv_iconst (v := (0)) hx hb dL_refuses_17 (by decide) ?_
  refine lv_iconst (v := (0)) hx hb dL_refuses_18 (by decide) ?_
  refine mcallVi hw (hC.1) rfl rfl ⟨hx, hb, hml, hown, hts⟩ (c_X3_worked hC hwf 0 0 hnw (by decide)) (cwV 2 hts gL_refuses_X3_worked rfl rfl rfl (by decide +kernel) ⟨Nat.le_of_ble_eq_true rfl, Nat.le_of_ble_eq_true rfl⟩) rfl hl.1 rfl (Nat.le_of_ble_eq_true rfl) dL_refuses_19 ⟨Nat.le_of_ble_eq_true rfl, Nat.le_of_ble_eq_true rfl⟩ ?_
  refine lv_istore (lv' := [(5, .int (s_wb f 0 (nI 0 * 672) ((nI 0 + 1) * 672) ns)), (4, .int (s_po f nr (nI 0) 0 363 ns)), (3, .int (nI ns)), (0, .ref (α (0))), (1, .int (nI nr)), (2, .int (nI nw))]) hx hb dL_refuses_22 hl (by decide) rfl (fun ls hl => ?_)
  refine lv_ldc hx hb hown kc_79 dL_refuses_24 ?_
  refine lv_istore (lv' := [(6, .int (2147483647)), (5, .int (s_wb f 0 (nI 0 * 672) ((nI 0 + 1) * 672) ns)), (4, .int (s_po f nr (nI 0) 0 363 ns)), (3, .int (nI ns)), (0, .ref (α (0))), (1, .int (nI nr)), (2, .int (nI nw))]) hx hb dL_refuses_26 hl (by decide) rfl (fun ls hl => ?_)
  refine lv_iconst (v := (0)) hx hb dL_refuses_28 (by decide) ?_
  refine lv_istore (lv' := [(7, .int (0)), (6, .int (2147483647)), (5, .int (s_wb f 0 (nI 0 * 672) ((nI 0 + 1) * 672) ns)), (4, .int (s_po f nr (nI 0) 0 363 ns)), (3, .int (nI ns)), (0, .ref (α (0))), (1, .int (nI nr)), (2, .int (nI nw))]) hx hb dL_refuses_29 hl (by decide) rfl (fun ls hl => ?_)
  have hl : lv_has ls 16 [(0, .ref (α (0))), (1, .int (nI nr)), (2, .int (nI nw)), (3, .int (nI ns)), (4, .int (s_po f nr (nI 0) 0 363 ns)), (5, .int (s_wb f 0 (nI 0 * 672) ((nI 0 + 1) * 672) ns)), (6, .int (2147483647)), (7, .int (0))] := lv_sub hl [5, 6, 7, 4, 3, 2, 1, 0] rfl
  refine rfA_0 hl0 hx hb hml hown hts hC hwf hnw hns (fun H locs ls hl hw hS => ?_) _ _ hl hw hS
  refine rfA_1 hl0 hx hb hml hown hts hC hwf hnw hns (fun H locs ls hl hw hS => ?_) _ _ hl hw hS
  refine rfA_2 hl0 hx hb hml hown hts hC hwf hnw hns (fun H locs ls hl hw hS => ?_) _ _ hl hw hS
  refine rfA_3 hl0 hx hb hml hown hts hC hwf hnw hns (fun H locs ls hl hw hS => ?_) _ _ hl hw hS
  refine lv_iload hx hb dL_refuses_31 (lv_at hl 7 rfl) ?_
  refine lv_iconst (v := (4)) hx hb dL_refuses_33 (by decide) ?_
  refine lv_icmp_ge (tgt := 856) hx hb dL_refuses_34 (by decide) (fun c1 => ?_) (fun z => absurd ((by decide)) z)
  refine lv_aload_n hx hb dL_refuses_856 rfl (lv_at hl 0 rfl) ?_
  refine mcallVi hw (hC.1) rfl rfl ⟨hx, hb, hml, hown, hts⟩ (c_X3_shifts hC hwf) (cwV 0 hts gL_refuses_X3_shifts rfl rfl rfl (by decide +kernel) ⟨Nat.le_of_ble_eq_true rfl, Nat.le_of_ble_eq_true rfl⟩) rfl hl.1 rfl (Nat.le_of_ble_eq_true rfl) dL_refuses_857 ⟨Nat.le_of_ble_eq_true rfl, Nat.le_of_ble_eq_true rfl⟩ ?_
  refine lv_iload_n hx hb dL_refuses_860 rfl (lv_at hl 3 rfl) ?_
  refine lv_icmp_ne (tgt := 893) hx hb dL_refuses_861 (by decide) (fun z => absurd (rfl) z) (fun c2 => ?_)
  refine lv_aload_n hx hb dL_refuses_864 rfl (lv_at hl 0 rfl) ?_
  refine lv_iconst (v := (0)) hx hb dL_refuses_865 (by decide) ?_
  refine lv_iconst (v := (0)) hx hb dL_refuses_866 (by decide) ?_
  refine lv_sipush (v := (363)) hx hb dL_refuses_867 (by decide) ?_
  refine mcallVi hw (hC.1) rfl rfl ⟨hx, hb, hml, hown, hts⟩ (c_X3_payOf hC hwf 0 hnw 0 363 (by decide) (by decide)) (cwV 3 hts gL_refuses_X3_payOf rfl rfl rfl (by decide +kernel) ⟨Nat.le_of_ble_eq_true rfl, Nat.le_of_ble_eq_true rfl⟩) rfl hl.1 rfl (Nat.le_of_ble_eq_true rfl) dL_refuses_870 ⟨Nat.le_of_ble_eq_true rfl, Nat.le_of_ble_eq_true rfl⟩ ?_
  refine lv_iload hx hb dL_refuses_873 (lv_at hl 4 rfl) ?_
  refine lv_icmp_ne (tgt := 893) hx hb dL_refuses_875 (by decide) (fun z => absurd (rfl) z) (fun c3 => ?_)
  refine lv_aload_n hx hb dL_refuses_878 rfl (lv_at hl 0 rfl) ?_
  refine lv_iconst (v := (0)) hx hb dL_refuses_879 (by decide) ?_
  refine lv_iconst (v := (0)) hx hb dL_refuses_880 (by decide) ?_
  refine mcallVi hw (hC.1) rfl rfl ⟨hx, hb, hml, hown, hts⟩ (c_X3_worked hC hwf 0 0 hnw (by decide)) (cwV 2 hts gL_refuses_X3_worked rfl rfl rfl (by decide +kernel) ⟨Nat.le_of_ble_eq_true rfl, Nat.le_of_ble_eq_true rfl⟩) rfl hl.1 rfl (Nat.le_of_ble_eq_true rfl) dL_refuses_881 ⟨Nat.le_of_ble_eq_true rfl, Nat.le_of_ble_eq_true rfl⟩ ?_
  refine lv_iload hx hb dL_refuses_884 (lv_at hl 5 rfl) ?_
  refine lv_icmp_ne (tgt := 893) hx hb dL_refuses_886 (by decide) (fun z => absurd (rfl) z) (fun c4 => ?_)
  refine lv_iconst (v := (1)) hx hb dL_refuses_889 (by decide) ?_
  refine lv_goto (tgt := 894) hx hb dL_refuses_890 (by decide) ?_
  exact W.zret (v := 1) hx hb hr rfl (fun t ht hW => ⟨⟨_, (V, α), rfl, ⟨rfl, rfl⟩, by show mH G V α t.heap; rw [ht]; exact hw.2.2⟩, hS.F ht⟩) hS.2.2 dL_refuses_894
