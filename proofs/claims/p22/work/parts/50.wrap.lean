/-! the law's own static methods that call and catch -/
theorem mofWH {l : Launch} {y : MethodName} {ws ws' : List Cond} {rm : Room} {Pc : Array Value → State → Prop} {Qc : Array Value → State → Outcome → State → Prop} {mc ms : Nat} {free : Addr → Prop} {cc : ByteArray} {maxL : Nat} {ret : Option FieldType} {hh : List (Nat × Nat × Nat × Nat)}
  (hy : plainName y.cls = true) (hw : ws = Cond.codeWith y cc maxL ret hh :: ws')
  (body : ∀ p e s m args below meth c s₁, BodyLoose p l y (headSpec ws rm) cc maxL ret e s m args below meth c s₁ → c.maxLocals = maxL → Pc args s →
    W p l e (headSpec ws rm).room s m args below meth c s.heap [] 0 0 (MQ below Qc args s mc ms free) (entryFrame m args maxL)) : Met l y ws rm Pc Qc mc ms free := by
  refine MetFree.of_bodyS (code := cc) (maxLocals := maxL) (ret := ret) hy ?_ ?_
  · intro args s m h hn
    obtain ⟨m9, meth, c, hn9, h1, h2, h3, h4, -, h5, h6, -⟩ := Cond.codeWith_spec (atoms_spec (ws := ws) h _ (by rw [hw]; exact List.mem_cons_self))
    cases hn.symm.trans hn9
    exact ⟨meth, c, h1, h2, h3, h4, h5, h6⟩
  · intro p e s m args below meth c s₁ B hml hP _
    have hh0 : s₁.heap = s.heap := by rw [B.state]; rfl
    obtain ⟨t, a1, o, b1, b2, b3⟩ := body p e s m args below meth c s₁ B hml hP s₁ hh0 (Stand.of_body B)
    exact ⟨t, o, a1, b1, b2, b3⟩
theorem mcallSWi {p : Program} {l : Launch} {e : Env} {R : Room} {s : State} {m : MethodId} {args : Array Value} {below : List Frame} {meth : Method} {c : Code} {H : Heap} {locs : List Loc} {cells slots : Nat} {Q : State → Prop}
    {cc : ByteArray} {pc : Nat} {ls : Array Slot} {rest : List Value} {G : mG} {V : mV} {α : Nat → Nat} {y : MethodName} {bytes : ByteArray} {maxL nL n index mc ms : Nat} {ret : Option FieldType} {hh : List (Nat × Nat × Nat × Nat)} {ws Ts : List Cond} {rm : Room} {own : String} {As st0 : List Value} {post : Int32 → mV × (Nat → Nat) → Prop} (hw : mW G V α s H) (S : CallFix p m c cc nL s args Ts own) (hS : va_S (mfree G) s.heap H locs) (hM : Met l y ws rm (va_Pc As (fun U => mW G V α U U.heap)) (va_Qi post (fun u t => mH G u.1 u.2 t.heap) (mfree G)) mc ms (mfree G)) (cw : vx_CSW R s args own index y bytes maxL ret hh ws rm mc ms n)
    (hn : As.length = n) (hsize : ls.size = nL) (hstack : st0 = As.reverse ++ rest) (hW : (rest.map fun v => v.category).sum ≤ 8) (hdg : decode cc pc = .ok (.invokestatic index, 3)) (hf : cells + mc ≤ R.cells ∧ slots + ms ≤ R.slots)
    (kk : ∀ (r : Int32) (V1 : mV) (α1 : Nat → Nat) (H1 : Heap) (locs1 : List Loc), post r (V1, α1) → mW G V1 α1 s H1 → va_S (mfree G) s.heap H1 locs1 → W p l e R s m args below meth c H1 locs1 (cells + mc) (slots + ms) Q (F0 m (pc + 3) ls (.int r :: rest))) : W p l e R s m args below meth c H locs cells slots Q (F0 m pc ls st0) := by
  subst hstack
  exact va_calli (vx_runSW (g := F0 m pc ls (As.reverse ++ rest)) S hM cw ⟨mPcB, fun U hU hWm => ⟨rfl, by show mW G V α U U.heap; rw [hU]; exact hw.warm hWm⟩⟩ rfl hn hsize rfl (lv_room hW) hdg hf) hS (fun q _ h => h) (fun q h => h)
    (fun r u t H1 locs1 ht hvm hp hB hz hk hS1 => kk r u.1 u.2 H1 locs1 hp (hw.at hk (by rw [← ht]; exact hB)) hS1)
set_option maxHeartbeats 4000000 in
set_option maxRecDepth 100000 in
theorem x_X3_setBase {l : Launch} (hl0 : l.stackTraces = false) {G : mG} {V : mV} {α : Nat → Nat} {f : sT} {nr nw ns : Nat} (hC : mC G V α f nr nw ns) (hwf : mwf f nr nw ns) (y x : Int32) (hbad : ¬ (inn y 0 3 ∧ inn x 1 10000)) (z4 z5 : Int32) : Met l yL_act wsL_act ({ frames := 8, cells := 1, slots := 6, locals := 127 }) (va_Pc [.ref (α (0)), .int (0), .int (y), .int (x), .int (z4), .int (z5)] (fun U => mW G V α U U.heap)) (va_Qi (fun (r9 : Int32) (u : mV × (Nat → Nat)) => (-72) = r9 ∧ u = (V, α)) (fun u t => mH G u.1 u.2 t.heap) (mfree G)) 1 6 (mfree G) := by
  refine mofWH (cc := cL_act) (maxL := 7) (ret := (some .int)) (hh := [(0, 273, 274, 73), (0, 273, 279, 13), (0, 273, 284, 15)]) (by decide) rfl ?_
  intro p e s m args below meth c s₁ B hml hv
  obtain ⟨rfl, hw⟩ := hv
  have hx := B.exec
  have hb := B.bytes
  have hr := B.returns
  have hts := atoms_spec (ws := wsL_act) B.pre
  have hown : s.vm.findClass RL = some m.cls := findClass_of_methodNamed B.named
  have hlocks := B.notSynchronized
  have hS : va_S (mfree G) s.heap s.heap [] := va_S.rf
  obtain ⟨k0, -⟩ := id hC
  have htb : c.exceptionTable.toList = tableOf [(0, 273, 274, 73), (0, 273, 279, 13), (0, 273, 284, 15)] := vx_table (x := yL_act) B (hts _ List.mem_cons_self)
  have lk73 := hts (.classLink RL 73 "java/lang/IndexOutOfBoundsException") (by decide +kernel)
  have lk13 := hts (.classLink RL 13 "java/lang/IllegalArgumentException") (by decide +kernel)
  have hl := lv_entry ([.ref (α (0)), .int (0), .int (y), .int (x), .int (z4), .int (z5)]) (n := 7) (Nat.le_of_ble_eq_true rfl)
  rw [lg_entry_eq]
  generalize (lg_sl ([.ref (α (0)), .int (0), .int (y), .int (x), .int (z4), .int (z5)]) ++ List.replicate (7 - (lg_sl ([.ref (α (0)), .int (0), .int (y), .int (x), .int (z4), .int (z5)])).length) Slot.unset).toArray = ls at hl ⊢
  have hl : lv_has ls 7 [(0, .ref (α (0))), (1, .int (0)), (2, .int (y)), (3, .int (x)), (4, .int (z4)), (5, .int (z5))] := hl
  refine lv_iload_n hx hb dL_act_0 rfl (lv_at hl 1 rfl) ?_
  refine lv_if_ne (tgt := 13) hx hb dL_act_1 (by decide) (fun z => absurd ((by decide)) z) (fun c1 => ?_)
  refine lv_aload_n hx hb dL_act_4 rfl (lv_at hl 0 rfl) ?_
  refine lv_iload_n hx hb dL_act_5 rfl (lv_at hl 2 rfl) ?_
  refine lv_iload_n hx hb dL_act_6 rfl (lv_at hl 3 rfl) ?_
  refine mcallTV hw k0 rfl rfl ⟨hx, hb, hml, hown, hts⟩ hS (t_X3_setBase hl0 hC hwf y x hbad) (cwV 2 hts gL_act_X3_setBase rfl rfl rfl (by decide +kernel) ⟨Nat.le_of_ble_eq_true rfl, Nat.le_of_ble_eq_true rfl⟩) rfl hl.1 rfl (Nat.le_of_ble_eq_true rfl) dL_act_7 ⟨Nat.le_of_ble_eq_true rfl, Nat.le_of_ble_eq_true rfl⟩ (fun q9 ce H locs hw hS hce hcv hcl => ?_)
  refine vx_catch (name := "java/lang/IllegalArgumentException") (E := "java/lang/IllegalArgumentException") hown [⟨0, 273, 274, 73⟩] ⟨0, 273, 279, 13⟩ [⟨0, 273, 284, 15⟩] htb (fun z hz => by rw [List.mem_singleton.mp hz]; exact Or.inr ⟨by decide, "java/lang/IndexOutOfBoundsException", lk73, hw.1.2.2.2.2.1 ("java/lang/IllegalArgumentException", "java/lang/IndexOutOfBoundsException") (by decide)⟩) (by decide) (by decide) lk13 (va_Nw.use rfl (hw.1.2.2.1 ("java/lang/IllegalArgumentException", "java/lang/IllegalArgumentException") (by decide))) hce hcv hcl ?_
  refine W.eq (g2 := F0 m 279 ls [.ref (q9)]) rfl ?_
  refine lv_astore (lv' := [(6, .ref (q9)), (0, .ref (α (0))), (1, .int (0)), (2, .int (y)), (3, .int (x)), (4, .int (z4)), (5, .int (z5))]) hx hb dL_act_279 hl (by decide) rfl (fun ls hl => ?_)
  refine lv_bipush (v := (-72)) hx hb dL_act_281 (by decide) ?_
  exact W.iret (v := (-72)) hx hb hr (fun t ht hW => ⟨⟨_, (V, α), rfl, ⟨rfl, rfl⟩, by show mH G V α t.heap; rw [ht]; exact hw.2.2⟩, hS.F ht⟩) hS.2.2 dL_act_283

set_option maxHeartbeats 4000000 in
set_option maxRecDepth 100000 in
theorem x_X3_setRule {l : Launch} (hl0 : l.stackTraces = false) {G : mG} {V : mV} {α : Nat → Nat} {f : sT} {nr nw ns : Nat} (hC : mC G V α f nr nw ns) (hwf : mwf f nr nw ns) (y : Int32) (hbad : ¬ inn y 0 (nI nr - 1)) (z4 z5 : Int32) : Met l yL_act wsL_act ({ frames := 8, cells := 1, slots := 6, locals := 127 }) (va_Pc [.ref (α (0)), .int (1), .int (y), .int (1), .int (z4), .int (z5)] (fun U => mW G V α U U.heap)) (va_Qi (fun (r9 : Int32) (u : mV × (Nat → Nat)) => (-71) = r9 ∧ u = (V, α)) (fun u t => mH G u.1 u.2 t.heap) (mfree G)) 1 6 (mfree G) := by
  refine mofWH (cc := cL_act) (maxL := 7) (ret := (some .int)) (hh := [(0, 273, 274, 73), (0, 273, 279, 13), (0, 273, 284, 15)]) (by decide) rfl ?_
  intro p e s m args below meth c s₁ B hml hv
  obtain ⟨rfl, hw⟩ := hv
  have hx := B.exec
  have hb := B.bytes
  have hr := B.returns
  have hts := atoms_spec (ws := wsL_act) B.pre
  have hown : s.vm.findClass RL = some m.cls := findClass_of_methodNamed B.named
  have hlocks := B.notSynchronized
  have hS : va_S (mfree G) s.heap s.heap [] := va_S.rf
  obtain ⟨k0, -⟩ := id hC
  have htb : c.exceptionTable.toList = tableOf [(0, 273, 274, 73), (0, 273, 279, 13), (0, 273, 284, 15)] := vx_table (x := yL_act) B (hts _ List.mem_cons_self)
  have lk73 := hts (.classLink RL 73 "java/lang/IndexOutOfBoundsException") (by decide +kernel)
  have hl := lv_entry ([.ref (α (0)), .int (1), .int (y), .int (1), .int (z4), .int (z5)]) (n := 7) (Nat.le_of_ble_eq_true rfl)
  rw [lg_entry_eq]
  generalize (lg_sl ([.ref (α (0)), .int (1), .int (y), .int (1), .int (z4), .int (z5)]) ++ List.replicate (7 - (lg_sl ([.ref (α (0)), .int (1), .int (y), .int (1), .int (z4), .int (z5)])).length) Slot.unset).toArray = ls at hl ⊢
  have hl : lv_has ls 7 [(0, .ref (α (0))), (1, .int (1)), (2, .int (y)), (3, .int (1)), (4, .int (z4)), (5, .int (z5))] := hl
  refine lv_iload_n hx hb dL_act_0 rfl (lv_at hl 1 rfl) ?_
  refine lv_if_ne (tgt := 13) hx hb dL_act_1 (by decide) (fun c1 => ?_) (fun z => absurd z ((by decide)))
  refine lv_iload_n hx hb dL_act_13 rfl (lv_at hl 1 rfl) ?_
  refine lv_iconst (v := (1)) hx hb dL_act_14 (by decide) ?_
  refine lv_icmp_ne (tgt := 44) hx hb dL_act_15 (by decide) (fun z => absurd ((by decide)) z) (fun c2 => ?_)
  refine lv_aload_n hx hb dL_act_18 rfl (lv_at hl 0 rfl) ?_
  refine lv_iload_n hx hb dL_act_19 rfl (lv_at hl 2 rfl) ?_
  refine lv_iload_n hx hb dL_act_20 rfl (lv_at hl 3 rfl) ?_
  refine lv_iconst (v := (1)) hx hb dL_act_21 (by decide) ?_
  refine lv_icmp_ne (tgt := 29) hx hb dL_act_22 (by decide) (fun z => absurd ((by decide)) z) (fun c3 => ?_)
  refine lv_iconst (v := (1)) hx hb dL_act_25 (by decide) ?_
  refine lv_goto (tgt := 30) hx hb dL_act_26 (by decide) ?_
  refine mcallTV hw k0 rfl rfl ⟨hx, hb, hml, hown, hts⟩ hS (t_X3_setRule hl0 hC hwf y 1 hbad) (cwV 2 hts gL_act_X3_setRule rfl rfl rfl (by decide +kernel) ⟨Nat.le_of_ble_eq_true rfl, Nat.le_of_ble_eq_true rfl⟩) rfl hl.1 rfl (Nat.le_of_ble_eq_true rfl) dL_act_30 ⟨Nat.le_of_ble_eq_true rfl, Nat.le_of_ble_eq_true rfl⟩ (fun q9 ce H locs hw hS hce hcv hcl => ?_)
  refine vx_catch (name := "java/lang/IndexOutOfBoundsException") (E := "java/lang/IndexOutOfBoundsException") hown [] ⟨0, 273, 274, 73⟩ [⟨0, 273, 279, 13⟩, ⟨0, 273, 284, 15⟩] htb (fun z hz => absurd hz List.not_mem_nil) (by decide) (by decide) lk73 (va_Nw.use rfl (hw.1.2.2.1 ("java/lang/IndexOutOfBoundsException", "java/lang/IndexOutOfBoundsException") (by decide))) hce hcv hcl ?_
  refine W.eq (g2 := F0 m 274 ls [.ref (q9)]) rfl ?_
  refine lv_astore (lv' := [(6, .ref (q9)), (0, .ref (α (0))), (1, .int (1)), (2, .int (y)), (3, .int (1)), (4, .int (z4)), (5, .int (z5))]) hx hb dL_act_274 hl (by decide) rfl (fun ls hl => ?_)
  refine lv_bipush (v := (-71)) hx hb dL_act_276 (by decide) ?_
  exact W.iret (v := (-71)) hx hb hr (fun t ht hW => ⟨⟨_, (V, α), rfl, ⟨rfl, rfl⟩, by show mH G V α t.heap; rw [ht]; exact hw.2.2⟩, hS.F ht⟩) hS.2.2 dL_act_278

set_option maxHeartbeats 4000000 in
set_option maxRecDepth 100000 in
theorem x_X3_setHoliday {l : Launch} (hl0 : l.stackTraces = false) {G : mG} {V : mV} {α : Nat → Nat} {f : sT} {nr nw ns : Nat} (hC : mC G V α f nr nw ns) (hwf : mwf f nr nw ns) (y : Int32) (hbad : ¬ inn y 0 363) (z4 z5 : Int32) : Met l yL_act wsL_act ({ frames := 7, cells := 1, slots := 6, locals := 105 }) (va_Pc [.ref (α (0)), .int (2), .int (y), .int (1), .int (z4), .int (z5)] (fun U => mW G V α U U.heap)) (va_Qi (fun (r9 : Int32) (u : mV × (Nat → Nat)) => (-72) = r9 ∧ u = (V, α)) (fun u t => mH G u.1 u.2 t.heap) (mfree G)) 1 6 (mfree G) := by
  refine mofWH (cc := cL_act) (maxL := 7) (ret := (some .int)) (hh := [(0, 273, 274, 73), (0, 273, 279, 13), (0, 273, 284, 15)]) (by decide) rfl ?_
  intro p e s m args below meth c s₁ B hml hv
  obtain ⟨rfl, hw⟩ := hv
  have hx := B.exec
  have hb := B.bytes
  have hr := B.returns
  have hts := atoms_spec (ws := wsL_act) B.pre
  have hown : s.vm.findClass RL = some m.cls := findClass_of_methodNamed B.named
  have hlocks := B.notSynchronized
  have hS : va_S (mfree G) s.heap s.heap [] := va_S.rf
  obtain ⟨k0, -⟩ := id hC
  have htb : c.exceptionTable.toList = tableOf [(0, 273, 274, 73), (0, 273, 279, 13), (0, 273, 284, 15)] := vx_table (x := yL_act) B (hts _ List.mem_cons_self)
  have lk73 := hts (.classLink RL 73 "java/lang/IndexOutOfBoundsException") (by decide +kernel)
  have lk13 := hts (.classLink RL 13 "java/lang/IllegalArgumentException") (by decide +kernel)
  have hl := lv_entry ([.ref (α (0)), .int (2), .int (y), .int (1), .int (z4), .int (z5)]) (n := 7) (Nat.le_of_ble_eq_true rfl)
  rw [lg_entry_eq]
  generalize (lg_sl ([.ref (α (0)), .int (2), .int (y), .int (1), .int (z4), .int (z5)]) ++ List.replicate (7 - (lg_sl ([.ref (α (0)), .int (2), .int (y), .int (1), .int (z4), .int (z5)])).length) Slot.unset).toArray = ls at hl ⊢
  have hl : lv_has ls 7 [(0, .ref (α (0))), (1, .int (2)), (2, .int (y)), (3, .int (1)), (4, .int (z4)), (5, .int (z5))] := hl
  refine lv_iload_n hx hb dL_act_0 rfl (lv_at hl 1 rfl) ?_
  refine lv_if_ne (tgt := 13) hx hb dL_act_1 (by decide) (fun c1 => ?_) (fun z => absurd z ((by decide)))
  refine lv_iload_n hx hb dL_act_13 rfl (lv_at hl 1 rfl) ?_
  refine lv_iconst (v := (1)) hx hb dL_act_14 (by decide) ?_
  refine lv_icmp_ne (tgt := 44) hx hb dL_act_15 (by decide) (fun c2 => ?_) (fun z => absurd z ((by decide)))
  refine lv_iload_n hx hb dL_act_44 rfl (lv_at hl 1 rfl) ?_
  refine lv_iconst (v := (2)) hx hb dL_act_45 (by decide) ?_
  refine lv_icmp_ne (tgt := 75) hx hb dL_act_46 (by decide) (fun z => absurd ((by decide)) z) (fun c3 => ?_)
  refine lv_aload_n hx hb dL_act_49 rfl (lv_at hl 0 rfl) ?_
  refine lv_iload_n hx hb dL_act_50 rfl (lv_at hl 2 rfl) ?_
  refine lv_iload_n hx hb dL_act_51 rfl (lv_at hl 3 rfl) ?_
  refine lv_iconst (v := (1)) hx hb dL_act_52 (by decide) ?_
  refine lv_icmp_ne (tgt := 60) hx hb dL_act_53 (by decide) (fun z => absurd ((by decide)) z) (fun c4 => ?_)
  refine lv_iconst (v := (1)) hx hb dL_act_56 (by decide) ?_
  refine lv_goto (tgt := 61) hx hb dL_act_57 (by decide) ?_
  refine mcallTV hw k0 rfl rfl ⟨hx, hb, hml, hown, hts⟩ hS (t_X3_setHoliday hl0 hC hwf y 1 hbad) (cwV 2 hts gL_act_X3_setHoliday rfl rfl rfl (by decide +kernel) ⟨Nat.le_of_ble_eq_true rfl, Nat.le_of_ble_eq_true rfl⟩) rfl hl.1 rfl (Nat.le_of_ble_eq_true rfl) dL_act_61 ⟨Nat.le_of_ble_eq_true rfl, Nat.le_of_ble_eq_true rfl⟩ (fun q9 ce H locs hw hS hce hcv hcl => ?_)
  refine vx_catch (name := "java/lang/IllegalArgumentException") (E := "java/lang/IllegalArgumentException") hown [⟨0, 273, 274, 73⟩] ⟨0, 273, 279, 13⟩ [⟨0, 273, 284, 15⟩] htb (fun z hz => by rw [List.mem_singleton.mp hz]; exact Or.inr ⟨by decide, "java/lang/IndexOutOfBoundsException", lk73, hw.1.2.2.2.2.1 ("java/lang/IllegalArgumentException", "java/lang/IndexOutOfBoundsException") (by decide)⟩) (by decide) (by decide) lk13 (va_Nw.use rfl (hw.1.2.2.1 ("java/lang/IllegalArgumentException", "java/lang/IllegalArgumentException") (by decide))) hce hcv hcl ?_
  refine W.eq (g2 := F0 m 279 ls [.ref (q9)]) rfl ?_
  refine lv_astore (lv' := [(6, .ref (q9)), (0, .ref (α (0))), (1, .int (2)), (2, .int (y)), (3, .int (1)), (4, .int (z4)), (5, .int (z5))]) hx hb dL_act_279 hl (by decide) rfl (fun ls hl => ?_)
  refine lv_bipush (v := (-72)) hx hb dL_act_281 (by decide) ?_
  exact W.iret (v := (-72)) hx hb hr (fun t ht hW => ⟨⟨_, (V, α), rfl, ⟨rfl, rfl⟩, by show mH G V α t.heap; rw [ht]; exact hw.2.2⟩, hS.F ht⟩) hS.2.2 dL_act_283

set_option maxHeartbeats 4000000 in
set_option maxRecDepth 100000 in
theorem x_X3_addWorker_1 {l : Launch} (hl0 : l.stackTraces = false) {G : mG} {V : mV} {α : Nat → Nat} {f : sT} {nr nw ns : Nat} (hC : mC G V α f nr nw ns) (hwf : mwf f nr nw ns) (y : Int32) (hbad : ¬ inn y 0 3) (z3 z4 z5 : Int32) : Met l yL_act wsL_act ({ frames := 8, cells := 1, slots := 6, locals := 126 }) (va_Pc [.ref (α (0)), .int (3), .int (y), .int (z3), .int (z4), .int (z5)] (fun U => mW G V α U U.heap)) (va_Qi (fun (r9 : Int32) (u : mV × (Nat → Nat)) => (-72) = r9 ∧ u = (V, α)) (fun u t => mH G u.1 u.2 t.heap) (mfree G)) 1 6 (mfree G) := by
  refine mofWH (cc := cL_act) (maxL := 7) (ret := (some .int)) (hh := [(0, 273, 274, 73), (0, 273, 279, 13), (0, 273, 284, 15)]) (by decide) rfl ?_
  intro p e s m args below meth c s₁ B hml hv
  obtain ⟨rfl, hw⟩ := hv
  have hx := B.exec
  have hb := B.bytes
  have hr := B.returns
  have hts := atoms_spec (ws := wsL_act) B.pre
  have hown : s.vm.findClass RL = some m.cls := findClass_of_methodNamed B.named
  have hlocks := B.notSynchronized
  have hS : va_S (mfree G) s.heap s.heap [] := va_S.rf
  obtain ⟨k0, -⟩ := id hC
  have htb : c.exceptionTable.toList = tableOf [(0, 273, 274, 73), (0, 273, 279, 13), (0, 273, 284, 15)] := vx_table (x := yL_act) B (hts _ List.mem_cons_self)
  have lk73 := hts (.classLink RL 73 "java/lang/IndexOutOfBoundsException") (by decide +kernel)
  have lk13 := hts (.classLink RL 13 "java/lang/IllegalArgumentException") (by decide +kernel)
  have hl := lv_entry ([.ref (α (0)), .int (3), .int (y), .int (z3), .int (z4), .int (z5)]) (n := 7) (Nat.le_of_ble_eq_true rfl)
  rw [lg_entry_eq]
  generalize (lg_sl ([.ref (α (0)), .int (3), .int (y), .int (z3), .int (z4), .int (z5)]) ++ List.replicate (7 - (lg_sl ([.ref (α (0)), .int (3), .int (y), .int (z3), .int (z4), .int (z5)])).length) Slot.unset).toArray = ls at hl ⊢
  have hl : lv_has ls 7 [(0, .ref (α (0))), (1, .int (3)), (2, .int (y)), (3, .int (z3)), (4, .int (z4)), (5, .int (z5))] := hl
  refine lv_iload_n hx hb dL_act_0 rfl (lv_at hl 1 rfl) ?_
  refine lv_if_ne (tgt := 13) hx hb dL_act_1 (by decide) (fun c1 => ?_) (fun z => absurd z ((by decide)))
  refine lv_iload_n hx hb dL_act_13 rfl (lv_at hl 1 rfl) ?_
  refine lv_iconst (v := (1)) hx hb dL_act_14 (by decide) ?_
  refine lv_icmp_ne (tgt := 44) hx hb dL_act_15 (by decide) (fun c2 => ?_) (fun z => absurd z ((by decide)))
  refine lv_iload_n hx hb dL_act_44 rfl (lv_at hl 1 rfl) ?_
  refine lv_iconst (v := (2)) hx hb dL_act_45 (by decide) ?_
  refine lv_icmp_ne (tgt := 75) hx hb dL_act_46 (by decide) (fun c3 => ?_) (fun z => absurd z ((by decide)))
  refine lv_iload_n hx hb dL_act_75 rfl (lv_at hl 1 rfl) ?_
  refine lv_iconst (v := (3)) hx hb dL_act_76 (by decide) ?_
  refine lv_icmp_ne (tgt := 88) hx hb dL_act_77 (by decide) (fun z => absurd ((by decide)) z) (fun c4 => ?_)
  refine lv_aload_n hx hb dL_act_80 rfl (lv_at hl 0 rfl) ?_
  refine lv_iload_n hx hb dL_act_81 rfl (lv_at hl 2 rfl) ?_
  refine mcallTV hw k0 rfl rfl ⟨hx, hb, hml, hown, hts⟩ hS (t_X3_addWorker_1 hl0 hC hwf y hbad) (cwV 1 hts gL_act_X3_addWorker rfl rfl rfl (by decide +kernel) ⟨Nat.le_of_ble_eq_true rfl, Nat.le_of_ble_eq_true rfl⟩) rfl hl.1 rfl (Nat.le_of_ble_eq_true rfl) dL_act_82 ⟨Nat.le_of_ble_eq_true rfl, Nat.le_of_ble_eq_true rfl⟩ (fun q9 ce H locs hw hS hce hcv hcl => ?_)
  refine vx_catch (name := "java/lang/IllegalArgumentException") (E := "java/lang/IllegalArgumentException") hown [⟨0, 273, 274, 73⟩] ⟨0, 273, 279, 13⟩ [⟨0, 273, 284, 15⟩] htb (fun z hz => by rw [List.mem_singleton.mp hz]; exact Or.inr ⟨by decide, "java/lang/IndexOutOfBoundsException", lk73, hw.1.2.2.2.2.1 ("java/lang/IllegalArgumentException", "java/lang/IndexOutOfBoundsException") (by decide)⟩) (by decide) (by decide) lk13 (va_Nw.use rfl (hw.1.2.2.1 ("java/lang/IllegalArgumentException", "java/lang/IllegalArgumentException") (by decide))) hce hcv hcl ?_
  refine W.eq (g2 := F0 m 279 ls [.ref (q9)]) rfl ?_
  refine lv_astore (lv' := [(6, .ref (q9)), (0, .ref (α (0))), (1, .int (3)), (2, .int (y)), (3, .int (z3)), (4, .int (z4)), (5, .int (z5))]) hx hb dL_act_279 hl (by decide) rfl (fun ls hl => ?_)
  refine lv_bipush (v := (-72)) hx hb dL_act_281 (by decide) ?_
  exact W.iret (v := (-72)) hx hb hr (fun t ht hW => ⟨⟨_, (V, α), rfl, ⟨rfl, rfl⟩, by show mH G V α t.heap; rw [ht]; exact hw.2.2⟩, hS.F ht⟩) hS.2.2 dL_act_283

set_option maxHeartbeats 4000000 in
set_option maxRecDepth 100000 in
theorem x_X3_addWorker_2 {l : Launch} (hl0 : l.stackTraces = false) {G : mG} {V : mV} {α : Nat → Nat} {f : sT} {nr nw ns : Nat} (hC : mC G V α f nr nw ns) (hwf : mwf f nr nw ns) (y : Int32) (hy : inn y 0 3) (hfull : nw = 12) (z3 z4 z5 : Int32) : Met l yL_act wsL_act ({ frames := 7, cells := 1, slots := 6, locals := 104 }) (va_Pc [.ref (α (0)), .int (3), .int (y), .int (z3), .int (z4), .int (z5)] (fun U => mW G V α U U.heap)) (va_Qi (fun (r9 : Int32) (u : mV × (Nat → Nat)) => (-73) = r9 ∧ u = (V, α)) (fun u t => mH G u.1 u.2 t.heap) (mfree G)) 1 6 (mfree G) := by
  refine mofWH (cc := cL_act) (maxL := 7) (ret := (some .int)) (hh := [(0, 273, 274, 73), (0, 273, 279, 13), (0, 273, 284, 15)]) (by decide) rfl ?_
  intro p e s m args below meth c s₁ B hml hv
  obtain ⟨rfl, hw⟩ := hv
  have hx := B.exec
  have hb := B.bytes
  have hr := B.returns
  have hts := atoms_spec (ws := wsL_act) B.pre
  have hown : s.vm.findClass RL = some m.cls := findClass_of_methodNamed B.named
  have hlocks := B.notSynchronized
  have hS : va_S (mfree G) s.heap s.heap [] := va_S.rf
  obtain ⟨k0, -⟩ := id hC
  have htb : c.exceptionTable.toList = tableOf [(0, 273, 274, 73), (0, 273, 279, 13), (0, 273, 284, 15)] := vx_table (x := yL_act) B (hts _ List.mem_cons_self)
  have lk73 := hts (.classLink RL 73 "java/lang/IndexOutOfBoundsException") (by decide +kernel)
  have lk13 := hts (.classLink RL 13 "java/lang/IllegalArgumentException") (by decide +kernel)
  have lk15 := hts (.classLink RL 15 "java/lang/IllegalStateException") (by decide +kernel)
  have hl := lv_entry ([.ref (α (0)), .int (3), .int (y), .int (z3), .int (z4), .int (z5)]) (n := 7) (Nat.le_of_ble_eq_true rfl)
  rw [lg_entry_eq]
  generalize (lg_sl ([.ref (α (0)), .int (3), .int (y), .int (z3), .int (z4), .int (z5)]) ++ List.replicate (7 - (lg_sl ([.ref (α (0)), .int (3), .int (y), .int (z3), .int (z4), .int (z5)])).length) Slot.unset).toArray = ls at hl ⊢
  have hl : lv_has ls 7 [(0, .ref (α (0))), (1, .int (3)), (2, .int (y)), (3, .int (z3)), (4, .int (z4)), (5, .int (z5))] := hl
  refine lv_iload_n hx hb dL_act_0 rfl (lv_at hl 1 rfl) ?_
  refine lv_if_ne (tgt := 13) hx hb dL_act_1 (by decide) (fun c1 => ?_) (fun z => absurd z ((by decide)))
  refine lv_iload_n hx hb dL_act_13 rfl (lv_at hl 1 rfl) ?_
  refine lv_iconst (v := (1)) hx hb dL_act_14 (by decide) ?_
  refine lv_icmp_ne (tgt := 44) hx hb dL_act_15 (by decide) (fun c2 => ?_) (fun z => absurd z ((by decide)))
  refine lv_iload_n hx hb dL_act_44 rfl (lv_at hl 1 rfl) ?_
  refine lv_iconst (v := (2)) hx hb dL_act_45 (by decide) ?_
  refine lv_icmp_ne (tgt := 75) hx hb dL_act_46 (by decide) (fun c3 => ?_) (fun z => absurd z ((by decide)))
  refine lv_iload_n hx hb dL_act_75 rfl (lv_at hl 1 rfl) ?_
  refine lv_iconst (v := (3)) hx hb dL_act_76 (by decide) ?_
  refine lv_icmp_ne (tgt := 88) hx hb dL_act_77 (by decide) (fun z => absurd ((by decide)) z) (fun c4 => ?_)
  refine lv_aload_n hx hb dL_act_80 rfl (lv_at hl 0 rfl) ?_
  refine lv_iload_n hx hb dL_act_81 rfl (lv_at hl 2 rfl) ?_
  refine mcallTV hw k0 rfl rfl ⟨hx, hb, hml, hown, hts⟩ hS (t_X3_addWorker_2 hl0 hC hwf y hy hfull) (cwV 1 hts gL_act_X3_addWorker rfl rfl rfl (by decide +kernel) ⟨Nat.le_of_ble_eq_true rfl, Nat.le_of_ble_eq_true rfl⟩) rfl hl.1 rfl (Nat.le_of_ble_eq_true rfl) dL_act_82 ⟨Nat.le_of_ble_eq_true rfl, Nat.le_of_ble_eq_true rfl⟩ (fun q9 ce H locs hw hS hce hcv hcl => ?_)
  refine vx_catch (name := "java/lang/IllegalStateException") (E := "java/lang/IllegalStateException") hown [⟨0, 273, 274, 73⟩, ⟨0, 273, 279, 13⟩] ⟨0, 273, 284, 15⟩ [] htb (fun z hz => by
      rcases List.mem_cons.mp hz with rfl | hz
      · exact Or.inr ⟨by decide, "java/lang/IndexOutOfBoundsException", lk73, hw.1.2.2.2.2.1 ("java/lang/IllegalStateException", "java/lang/IndexOutOfBoundsException") (by decide)⟩
      · rw [List.mem_singleton.mp hz]
        exact Or.inr ⟨by decide, "java/lang/IllegalArgumentException", lk13, hw.1.2.2.2.2.1 ("java/lang/IllegalStateException", "java/lang/IllegalArgumentException") (by decide)⟩) (by decide) (by decide) lk15 (va_Nw.use rfl (hw.1.2.2.1 ("java/lang/IllegalStateException", "java/lang/IllegalStateException") (by decide))) hce hcv hcl ?_
  refine W.eq (g2 := F0 m 284 ls [.ref (q9)]) rfl ?_
  refine lv_astore (lv' := [(6, .ref (q9)), (0, .ref (α (0))), (1, .int (3)), (2, .int (y)), (3, .int (z3)), (4, .int (z4)), (5, .int (z5))]) hx hb dL_act_284 hl (by decide) rfl (fun ls hl => ?_)
  refine lv_bipush (v := (-73)) hx hb dL_act_286 (by decide) ?_
  exact W.iret (v := (-73)) hx hb hr (fun t ht hW => ⟨⟨_, (V, α), rfl, ⟨rfl, rfl⟩, by show mH G V α t.heap; rw [ht]; exact hw.2.2⟩, hS.F ht⟩) hS.2.2 dL_act_288

set_option maxHeartbeats 4000000 in
set_option maxRecDepth 100000 in
theorem w_X3_addWorker {l : Launch} {G : mG} {V : mV} {α : Nat → Nat} {f : sT} {nr nw ns : Nat} (hC : mC G V α f nr nw ns) (hwf : mwf f nr nw ns) (r : Nat) (hr0 : r < 4) (hn9 : nw < 12) (z3 z4 z5 : Int32) : Met l yL_act wsL_act ({ frames := 8, cells := 2, slots := 210, locals := 312 }) (va_Pc [.ref (α (0)), .int (3), .int (nI (r)), .int (z3), .int (z4), .int (z5)] (fun U => mW G V α U U.heap)) (va_Qi (fun (r9 : Int32) (u : mV × (Nat → Nat)) => nI nw = r9 ∧ mCQ G V α u (u2 f 8 nw (nI r)) nr (nw + 1) ns) (fun u t => mH G u.1 u.2 t.heap) (mfree G)) 2 210 (mfree G) := by
  refine mofWH (cc := cL_act) (maxL := 7) (ret := (some .int)) (hh := [(0, 273, 274, 73), (0, 273, 279, 13), (0, 273, 284, 15)]) (by decide) rfl ?_
  intro p e s m args below meth c s₁ B hml hv
  obtain ⟨rfl, hw⟩ := hv
  have hx := B.exec
  have hb := B.bytes
  have hr := B.returns
  have hts := atoms_spec (ws := wsL_act) B.pre
  have hown : s.vm.findClass RL = some m.cls := findClass_of_methodNamed B.named
  have hlocks := B.notSynchronized
  have hS : va_S (mfree G) s.heap s.heap [] := va_S.rf
  obtain ⟨k0, -⟩ := id hC
  have htb : c.exceptionTable.toList = tableOf [(0, 273, 274, 73), (0, 273, 279, 13), (0, 273, 284, 15)] := vx_table (x := yL_act) B (hts _ List.mem_cons_self)
  have hl := lv_entry ([.ref (α (0)), .int (3), .int (nI (r)), .int (z3), .int (z4), .int (z5)]) (n := 7) (Nat.le_of_ble_eq_true rfl)
  rw [lg_entry_eq]
  generalize (lg_sl ([.ref (α (0)), .int (3), .int (nI (r)), .int (z3), .int (z4), .int (z5)]) ++ List.replicate (7 - (lg_sl ([.ref (α (0)), .int (3), .int (nI (r)), .int (z3), .int (z4), .int (z5)])).length) Slot.unset).toArray = ls at hl ⊢
  have hl : lv_has ls 7 [(0, .ref (α (0))), (1, .int (3)), (2, .int (nI (r))), (3, .int (z3)), (4, .int (z4)), (5, .int (z5))] := hl
  refine lv_iload_n hx hb dL_act_0 rfl (lv_at hl 1 rfl) ?_
  refine lv_if_ne (tgt := 13) hx hb dL_act_1 (by decide) (fun c1 => ?_) (fun z => absurd z ((by decide)))
  refine lv_iload_n hx hb dL_act_13 rfl (lv_at hl 1 rfl) ?_
  refine lv_iconst (v := (1)) hx hb dL_act_14 (by decide) ?_
  refine lv_icmp_ne (tgt := 44) hx hb dL_act_15 (by decide) (fun c2 => ?_) (fun z => absurd z ((by decide)))
  refine lv_iload_n hx hb dL_act_44 rfl (lv_at hl 1 rfl) ?_
  refine lv_iconst (v := (2)) hx hb dL_act_45 (by decide) ?_
  refine lv_icmp_ne (tgt := 75) hx hb dL_act_46 (by decide) (fun c3 => ?_) (fun z => absurd z ((by decide)))
  refine lv_iload_n hx hb dL_act_75 rfl (lv_at hl 1 rfl) ?_
  refine lv_iconst (v := (3)) hx hb dL_act_76 (by decide) ?_
  refine lv_icmp_ne (tgt := 88) hx hb dL_act_77 (by decide) (fun z => absurd ((by decide)) z) (fun c4 => ?_)
  refine lv_aload_n hx hb dL_act_80 rfl (lv_at hl 0 rfl) ?_
  refine lv_iload_n hx hb dL_act_81 rfl (lv_at hl 2 rfl) ?_
  refine mcallVw hw k0 rfl rfl ⟨hx, hb, hml, hown, hts⟩ hS (c_X3_addWorker hC hwf r hr0 hn9) (cwV 1 hts gL_act_X3_addWorker rfl rfl rfl (by decide +kernel) ⟨Nat.le_of_ble_eq_true rfl, Nat.le_of_ble_eq_true rfl⟩) rfl hl.1 rfl (Nat.le_of_ble_eq_true rfl) dL_act_82 ⟨Nat.le_of_ble_eq_true rfl, Nat.le_of_ble_eq_true rfl⟩ (fun r9 V1 α1 H locs hq hw hS => ?_)
  obtain ⟨er, hC1⟩ := hq
  subst er
  refine lv_goto (tgt := 273) hx hb dL_act_85 (by decide) ?_
  exact W.iret (v := nI nw) hx hb hr (fun t ht hW => ⟨⟨_, (V1, α1), rfl, ⟨rfl, hC1⟩, by show mH G V1 α1 t.heap; rw [ht]; exact hw.2.2⟩, hS.F ht⟩) hS.2.2 dL_act_273

set_option maxHeartbeats 4000000 in
set_option maxRecDepth 100000 in
theorem x_X3_setRank_1 {l : Launch} (hl0 : l.stackTraces = false) {G : mG} {V : mV} {α : Nat → Nat} {f : sT} {nr nw ns : Nat} (hC : mC G V α f nr nw ns) (hwf : mwf f nr nw ns) (y x : Int32) (hbad : ¬ inn y 0 (nI nw - 1)) (z4 z5 : Int32) : Met l yL_act wsL_act ({ frames := 8, cells := 1, slots := 6, locals := 127 }) (va_Pc [.ref (α (0)), .int (4), .int (y), .int (x), .int (z4), .int (z5)] (fun U => mW G V α U U.heap)) (va_Qi (fun (r9 : Int32) (u : mV × (Nat → Nat)) => (-71) = r9 ∧ u = (V, α)) (fun u t => mH G u.1 u.2 t.heap) (mfree G)) 1 6 (mfree G) := by
  refine mofWH (cc := cL_act) (maxL := 7) (ret := (some .int)) (hh := [(0, 273, 274, 73), (0, 273, 279, 13), (0, 273, 284, 15)]) (by decide) rfl ?_
  intro p e s m args below meth c s₁ B hml hv
  obtain ⟨rfl, hw⟩ := hv
  have hx := B.exec
  have hb := B.bytes
  have hr := B.returns
  have hts := atoms_spec (ws := wsL_act) B.pre
  have hown : s.vm.findClass RL = some m.cls := findClass_of_methodNamed B.named
  have hlocks := B.notSynchronized
  have hS : va_S (mfree G) s.heap s.heap [] := va_S.rf
  obtain ⟨k0, -⟩ := id hC
  have htb : c.exceptionTable.toList = tableOf [(0, 273, 274, 73), (0, 273, 279, 13), (0, 273, 284, 15)] := vx_table (x := yL_act) B (hts _ List.mem_cons_self)
  have lk73 := hts (.classLink RL 73 "java/lang/IndexOutOfBoundsException") (by decide +kernel)
  have hl := lv_entry ([.ref (α (0)), .int (4), .int (y), .int (x), .int (z4), .int (z5)]) (n := 7) (Nat.le_of_ble_eq_true rfl)
  rw [lg_entry_eq]
  generalize (lg_sl ([.ref (α (0)), .int (4), .int (y), .int (x), .int (z4), .int (z5)]) ++ List.replicate (7 - (lg_sl ([.ref (α (0)), .int (4), .int (y), .int (x), .int (z4), .int (z5)])).length) Slot.unset).toArray = ls at hl ⊢
  have hl : lv_has ls 7 [(0, .ref (α (0))), (1, .int (4)), (2, .int (y)), (3, .int (x)), (4, .int (z4)), (5, .int (z5))] := hl
  refine lv_iload_n hx hb dL_act_0 rfl (lv_at hl 1 rfl) ?_
  refine lv_if_ne (tgt := 13) hx hb dL_act_1 (by decide) (fun c1 => ?_) (fun z => absurd z ((by decide)))
  refine lv_iload_n hx hb dL_act_13 rfl (lv_at hl 1 rfl) ?_
  refine lv_iconst (v := (1)) hx hb dL_act_14 (by decide) ?_
  refine lv_icmp_ne (tgt := 44) hx hb dL_act_15 (by decide) (fun c2 => ?_) (fun z => absurd z ((by decide)))
  refine lv_iload_n hx hb dL_act_44 rfl (lv_at hl 1 rfl) ?_
  refine lv_iconst (v := (2)) hx hb dL_act_45 (by decide) ?_
  refine lv_icmp_ne (tgt := 75) hx hb dL_act_46 (by decide) (fun c3 => ?_) (fun z => absurd z ((by decide)))
  refine lv_iload_n hx hb dL_act_75 rfl (lv_at hl 1 rfl) ?_
  refine lv_iconst (v := (3)) hx hb dL_act_76 (by decide) ?_
  refine lv_icmp_ne (tgt := 88) hx hb dL_act_77 (by decide) (fun c4 => ?_) (fun z => absurd z ((by decide)))
  refine lv_iload_n hx hb dL_act_88 rfl (lv_at hl 1 rfl) ?_
  refine lv_iconst (v := (4)) hx hb dL_act_89 (by decide) ?_
  refine lv_icmp_ne (tgt := 102) hx hb dL_act_90 (by decide) (fun z => absurd ((by decide)) z) (fun c5 => ?_)
  refine lv_aload_n hx hb dL_act_93 rfl (lv_at hl 0 rfl) ?_
  refine lv_iload_n hx hb dL_act_94 rfl (lv_at hl 2 rfl) ?_
  refine lv_iload_n hx hb dL_act_95 rfl (lv_at hl 3 rfl) ?_
  refine mcallTV hw k0 rfl rfl ⟨hx, hb, hml, hown, hts⟩ hS (t_X3_setRank_1 hl0 hC hwf y x hbad) (cwV 2 hts gL_act_X3_setRank rfl rfl rfl (by decide +kernel) ⟨Nat.le_of_ble_eq_true rfl, Nat.le_of_ble_eq_true rfl⟩) rfl hl.1 rfl (Nat.le_of_ble_eq_true rfl) dL_act_96 ⟨Nat.le_of_ble_eq_true rfl, Nat.le_of_ble_eq_true rfl⟩ (fun q9 ce H locs hw hS hce hcv hcl => ?_)
  refine vx_catch (name := "java/lang/IndexOutOfBoundsException") (E := "java/lang/IndexOutOfBoundsException") hown [] ⟨0, 273, 274, 73⟩ [⟨0, 273, 279, 13⟩, ⟨0, 273, 284, 15⟩] htb (fun z hz => absurd hz List.not_mem_nil) (by decide) (by decide) lk73 (va_Nw.use rfl (hw.1.2.2.1 ("java/lang/IndexOutOfBoundsException", "java/lang/IndexOutOfBoundsException") (by decide))) hce hcv hcl ?_
  refine W.eq (g2 := F0 m 274 ls [.ref (q9)]) rfl ?_
  refine lv_astore (lv' := [(6, .ref (q9)), (0, .ref (α (0))), (1, .int (4)), (2, .int (y)), (3, .int (x)), (4, .int (z4)), (5, .int (z5))]) hx hb dL_act_274 hl (by decide) rfl (fun ls hl => ?_)
  refine lv_bipush (v := (-71)) hx hb dL_act_276 (by decide) ?_
  exact W.iret (v := (-71)) hx hb hr (fun t ht hW => ⟨⟨_, (V, α), rfl, ⟨rfl, rfl⟩, by show mH G V α t.heap; rw [ht]; exact hw.2.2⟩, hS.F ht⟩) hS.2.2 dL_act_278

set_option maxHeartbeats 4000000 in
set_option maxRecDepth 100000 in
theorem x_X3_setRank_2 {l : Launch} (hl0 : l.stackTraces = false) {G : mG} {V : mV} {α : Nat → Nat} {f : sT} {nr nw ns : Nat} (hC : mC G V α f nr nw ns) (hwf : mwf f nr nw ns) (k : Nat) (hk : k < nw) (x : Int32) (hbad : ¬ inn x 0 3) (z4 z5 : Int32) : Met l yL_act wsL_act ({ frames := 8, cells := 1, slots := 6, locals := 128 }) (va_Pc [.ref (α (0)), .int (4), .int (nI (k)), .int (x), .int (z4), .int (z5)] (fun U => mW G V α U U.heap)) (va_Qi (fun (r9 : Int32) (u : mV × (Nat → Nat)) => (-72) = r9 ∧ u = (V, α)) (fun u t => mH G u.1 u.2 t.heap) (mfree G)) 1 6 (mfree G) := by
  refine mofWH (cc := cL_act) (maxL := 7) (ret := (some .int)) (hh := [(0, 273, 274, 73), (0, 273, 279, 13), (0, 273, 284, 15)]) (by decide) rfl ?_
  intro p e s m args below meth c s₁ B hml hv
  obtain ⟨rfl, hw⟩ := hv
  have hx := B.exec
  have hb := B.bytes
  have hr := B.returns
  have hts := atoms_spec (ws := wsL_act) B.pre
  have hown : s.vm.findClass RL = some m.cls := findClass_of_methodNamed B.named
  have hlocks := B.notSynchronized
  have hS : va_S (mfree G) s.heap s.heap [] := va_S.rf
  obtain ⟨k0, -⟩ := id hC
  have htb : c.exceptionTable.toList = tableOf [(0, 273, 274, 73), (0, 273, 279, 13), (0, 273, 284, 15)] := vx_table (x := yL_act) B (hts _ List.mem_cons_self)
  have lk73 := hts (.classLink RL 73 "java/lang/IndexOutOfBoundsException") (by decide +kernel)
  have lk13 := hts (.classLink RL 13 "java/lang/IllegalArgumentException") (by decide +kernel)
  have hl := lv_entry ([.ref (α (0)), .int (4), .int (nI (k)), .int (x), .int (z4), .int (z5)]) (n := 7) (Nat.le_of_ble_eq_true rfl)
  rw [lg_entry_eq]
  generalize (lg_sl ([.ref (α (0)), .int (4), .int (nI (k)), .int (x), .int (z4), .int (z5)]) ++ List.replicate (7 - (lg_sl ([.ref (α (0)), .int (4), .int (nI (k)), .int (x), .int (z4), .int (z5)])).length) Slot.unset).toArray = ls at hl ⊢
  have hl : lv_has ls 7 [(0, .ref (α (0))), (1, .int (4)), (2, .int (nI (k))), (3, .int (x)), (4, .int (z4)), (5, .int (z5))] := hl
  refine lv_iload_n hx hb dL_act_0 rfl (lv_at hl 1 rfl) ?_
  refine lv_if_ne (tgt := 13) hx hb dL_act_1 (by decide) (fun c1 => ?_) (fun z => absurd z ((by decide)))
  refine lv_iload_n hx hb dL_act_13 rfl (lv_at hl 1 rfl) ?_
  refine lv_iconst (v := (1)) hx hb dL_act_14 (by decide) ?_
  refine lv_icmp_ne (tgt := 44) hx hb dL_act_15 (by decide) (fun c2 => ?_) (fun z => absurd z ((by decide)))
  refine lv_iload_n hx hb dL_act_44 rfl (lv_at hl 1 rfl) ?_
  refine lv_iconst (v := (2)) hx hb dL_act_45 (by decide) ?_
  refine lv_icmp_ne (tgt := 75) hx hb dL_act_46 (by decide) (fun c3 => ?_) (fun z => absurd z ((by decide)))
  refine lv_iload_n hx hb dL_act_75 rfl (lv_at hl 1 rfl) ?_
  refine lv_iconst (v := (3)) hx hb dL_act_76 (by decide) ?_
  refine lv_icmp_ne (tgt := 88) hx hb dL_act_77 (by decide) (fun c4 => ?_) (fun z => absurd z ((by decide)))
  refine lv_iload_n hx hb dL_act_88 rfl (lv_at hl 1 rfl) ?_
  refine lv_iconst (v := (4)) hx hb dL_act_89 (by decide) ?_
  refine lv_icmp_ne (tgt := 102) hx hb dL_act_90 (by decide) (fun z => absurd ((by decide)) z) (fun c5 => ?_)
  refine lv_aload_n hx hb dL_act_93 rfl (lv_at hl 0 rfl) ?_
  refine lv_iload_n hx hb dL_act_94 rfl (lv_at hl 2 rfl) ?_
  refine lv_iload_n hx hb dL_act_95 rfl (lv_at hl 3 rfl) ?_
  refine mcallTV hw k0 rfl rfl ⟨hx, hb, hml, hown, hts⟩ hS (t_X3_setRank_2 hl0 hC hwf k hk x hbad) (cwV 2 hts gL_act_X3_setRank rfl rfl rfl (by decide +kernel) ⟨Nat.le_of_ble_eq_true rfl, Nat.le_of_ble_eq_true rfl⟩) rfl hl.1 rfl (Nat.le_of_ble_eq_true rfl) dL_act_96 ⟨Nat.le_of_ble_eq_true rfl, Nat.le_of_ble_eq_true rfl⟩ (fun q9 ce H locs hw hS hce hcv hcl => ?_)
  refine vx_catch (name := "java/lang/IllegalArgumentException") (E := "java/lang/IllegalArgumentException") hown [⟨0, 273, 274, 73⟩] ⟨0, 273, 279, 13⟩ [⟨0, 273, 284, 15⟩] htb (fun z hz => by rw [List.mem_singleton.mp hz]; exact Or.inr ⟨by decide, "java/lang/IndexOutOfBoundsException", lk73, hw.1.2.2.2.2.1 ("java/lang/IllegalArgumentException", "java/lang/IndexOutOfBoundsException") (by decide)⟩) (by decide) (by decide) lk13 (va_Nw.use rfl (hw.1.2.2.1 ("java/lang/IllegalArgumentException", "java/lang/IllegalArgumentException") (by decide))) hce hcv hcl ?_
  refine W.eq (g2 := F0 m 279 ls [.ref (q9)]) rfl ?_
  refine lv_astore (lv' := [(6, .ref (q9)), (0, .ref (α (0))), (1, .int (4)), (2, .int (nI (k))), (3, .int (x)), (4, .int (z4)), (5, .int (z5))]) hx hb dL_act_279 hl (by decide) rfl (fun ls hl => ?_)
  refine lv_bipush (v := (-72)) hx hb dL_act_281 (by decide) ?_
  exact W.iret (v := (-72)) hx hb hr (fun t ht hW => ⟨⟨_, (V, α), rfl, ⟨rfl, rfl⟩, by show mH G V α t.heap; rw [ht]; exact hw.2.2⟩, hS.F ht⟩) hS.2.2 dL_act_283

set_option maxHeartbeats 4000000 in
set_option maxRecDepth 100000 in
theorem x_X3_addShift_1 {l : Launch} (hl0 : l.stackTraces = false) {G : mG} {V : mV} {α : Nat → Nat} {f : sT} {nr nw ns : Nat} (hC : mC G V α f nr nw ns) (hwf : mwf f nr nw ns) (y x1 x2 x3 : Int32) (hbad : ¬ inn y 0 (nI nw - 1)) : Met l yL_act wsL_act ({ frames := 8, cells := 1, slots := 6, locals := 130 }) (va_Pc [.ref (α (0)), .int (5), .int (y), .int (x1), .int (x2), .int (x3)] (fun U => mW G V α U U.heap)) (va_Qi (fun (r9 : Int32) (u : mV × (Nat → Nat)) => (-71) = r9 ∧ u = (V, α)) (fun u t => mH G u.1 u.2 t.heap) (mfree G)) 1 6 (mfree G) := by
  refine mofWH (cc := cL_act) (maxL := 7) (ret := (some .int)) (hh := [(0, 273, 274, 73), (0, 273, 279, 13), (0, 273, 284, 15)]) (by decide) rfl ?_
  intro p e s m args below meth c s₁ B hml hv
  obtain ⟨rfl, hw⟩ := hv
  have hx := B.exec
  have hb := B.bytes
  have hr := B.returns
  have hts := atoms_spec (ws := wsL_act) B.pre
  have hown : s.vm.findClass RL = some m.cls := findClass_of_methodNamed B.named
  have hlocks := B.notSynchronized
  have hS : va_S (mfree G) s.heap s.heap [] := va_S.rf
  obtain ⟨k0, -⟩ := id hC
  have htb : c.exceptionTable.toList = tableOf [(0, 273, 274, 73), (0, 273, 279, 13), (0, 273, 284, 15)] := vx_table (x := yL_act) B (hts _ List.mem_cons_self)
  have lk73 := hts (.classLink RL 73 "java/lang/IndexOutOfBoundsException") (by decide +kernel)
  have hl := lv_entry ([.ref (α (0)), .int (5), .int (y), .int (x1), .int (x2), .int (x3)]) (n := 7) (Nat.le_of_ble_eq_true rfl)
  rw [lg_entry_eq]
  generalize (lg_sl ([.ref (α (0)), .int (5), .int (y), .int (x1), .int (x2), .int (x3)]) ++ List.replicate (7 - (lg_sl ([.ref (α (0)), .int (5), .int (y), .int (x1), .int (x2), .int (x3)])).length) Slot.unset).toArray = ls at hl ⊢
  have hl : lv_has ls 7 [(0, .ref (α (0))), (1, .int (5)), (2, .int (y)), (3, .int (x1)), (4, .int (x2)), (5, .int (x3))] := hl
  refine lv_iload_n hx hb dL_act_0 rfl (lv_at hl 1 rfl) ?_
  refine lv_if_ne (tgt := 13) hx hb dL_act_1 (by decide) (fun c1 => ?_) (fun z => absurd z ((by decide)))
  refine lv_iload_n hx hb dL_act_13 rfl (lv_at hl 1 rfl) ?_
  refine lv_iconst (v := (1)) hx hb dL_act_14 (by decide) ?_
  refine lv_icmp_ne (tgt := 44) hx hb dL_act_15 (by decide) (fun c2 => ?_) (fun z => absurd z ((by decide)))
  refine lv_iload_n hx hb dL_act_44 rfl (lv_at hl 1 rfl) ?_
  refine lv_iconst (v := (2)) hx hb dL_act_45 (by decide) ?_
  refine lv_icmp_ne (tgt := 75) hx hb dL_act_46 (by decide) (fun c3 => ?_) (fun z => absurd z ((by decide)))
  refine lv_iload_n hx hb dL_act_75 rfl (lv_at hl 1 rfl) ?_
  refine lv_iconst (v := (3)) hx hb dL_act_76 (by decide) ?_
  refine lv_icmp_ne (tgt := 88) hx hb dL_act_77 (by decide) (fun c4 => ?_) (fun z => absurd z ((by decide)))
  refine lv_iload_n hx hb dL_act_88 rfl (lv_at hl 1 rfl) ?_
  refine lv_iconst (v := (4)) hx hb dL_act_89 (by decide) ?_
  refine lv_icmp_ne (tgt := 102) hx hb dL_act_90 (by decide) (fun c5 => ?_) (fun z => absurd z ((by decide)))
  refine lv_iload_n hx hb dL_act_102 rfl (lv_at hl 1 rfl) ?_
  refine lv_iconst (v := (5)) hx hb dL_act_103 (by decide) ?_
  refine lv_icmp_ne (tgt := 120) hx hb dL_act_104 (by decide) (fun z => absurd ((by decide)) z) (fun c6 => ?_)
  refine lv_aload_n hx hb dL_act_107 rfl (lv_at hl 0 rfl) ?_
  refine lv_iload_n hx hb dL_act_108 rfl (lv_at hl 2 rfl) ?_
  refine lv_iload_n hx hb dL_act_109 rfl (lv_at hl 3 rfl) ?_
  refine lv_iload hx hb dL_act_110 (lv_at hl 4 rfl) ?_
  refine lv_iload hx hb dL_act_112 (lv_at hl 5 rfl) ?_
  refine mcallTV hw k0 rfl rfl ⟨hx, hb, hml, hown, hts⟩ hS (t_X3_addShift_1 hl0 hC hwf y x1 x2 x3 hbad) (cwV 4 hts gL_act_X3_addShift rfl rfl rfl (by decide +kernel) ⟨Nat.le_of_ble_eq_true rfl, Nat.le_of_ble_eq_true rfl⟩) rfl hl.1 rfl (Nat.le_of_ble_eq_true rfl) dL_act_114 ⟨Nat.le_of_ble_eq_true rfl, Nat.le_of_ble_eq_true rfl⟩ (fun q9 ce H locs hw hS hce hcv hcl => ?_)
  refine vx_catch (name := "java/lang/IndexOutOfBoundsException") (E := "java/lang/IndexOutOfBoundsException") hown [] ⟨0, 273, 274, 73⟩ [⟨0, 273, 279, 13⟩, ⟨0, 273, 284, 15⟩] htb (fun z hz => absurd hz List.not_mem_nil) (by decide) (by decide) lk73 (va_Nw.use rfl (hw.1.2.2.1 ("java/lang/IndexOutOfBoundsException", "java/lang/IndexOutOfBoundsException") (by decide))) hce hcv hcl ?_
  refine W.eq (g2 := F0 m 274 ls [.ref (q9)]) rfl ?_
  refine lv_astore (lv' := [(6, .ref (q9)), (0, .ref (α (0))), (1, .int (5)), (2, .int (y)), (3, .int (x1)), (4, .int (x2)), (5, .int (x3))]) hx hb dL_act_274 hl (by decide) rfl (fun ls hl => ?_)
  refine lv_bipush (v := (-71)) hx hb dL_act_276 (by decide) ?_
  exact W.iret (v := (-71)) hx hb hr (fun t ht hW => ⟨⟨_, (V, α), rfl, ⟨rfl, rfl⟩, by show mH G V α t.heap; rw [ht]; exact hw.2.2⟩, hS.F ht⟩) hS.2.2 dL_act_278

set_option maxHeartbeats 4000000 in
set_option maxRecDepth 100000 in
theorem x_X3_addShift_2 {l : Launch} (hl0 : l.stackTraces = false) {G : mG} {V : mV} {α : Nat → Nat} {f : sT} {nr nw ns : Nat} (hC : mC G V α f nr nw ns) (hwf : mwf f nr nw ns) (k : Nat) (hk : k < nw) (x1 x2 x3 : Int32) (hbad : ¬ (inn x1 0 362 ∧ inn x2 0 95 ∧ inn x3 1 64)) : Met l yL_act wsL_act ({ frames := 8, cells := 1, slots := 6, locals := 131 }) (va_Pc [.ref (α (0)), .int (5), .int (nI (k)), .int (x1), .int (x2), .int (x3)] (fun U => mW G V α U U.heap)) (va_Qi (fun (r9 : Int32) (u : mV × (Nat → Nat)) => (-72) = r9 ∧ u = (V, α)) (fun u t => mH G u.1 u.2 t.heap) (mfree G)) 1 6 (mfree G) := by
  refine mofWH (cc := cL_act) (maxL := 7) (ret := (some .int)) (hh := [(0, 273, 274, 73), (0, 273, 279, 13), (0, 273, 284, 15)]) (by decide) rfl ?_
  intro p e s m args below meth c s₁ B hml hv
  obtain ⟨rfl, hw⟩ := hv
  have hx := B.exec
  have hb := B.bytes
  have hr := B.returns
  have hts := atoms_spec (ws := wsL_act) B.pre
  have hown : s.vm.findClass RL = some m.cls := findClass_of_methodNamed B.named
  have hlocks := B.notSynchronized
  have hS : va_S (mfree G) s.heap s.heap [] := va_S.rf
  obtain ⟨k0, -⟩ := id hC
  have htb : c.exceptionTable.toList = tableOf [(0, 273, 274, 73), (0, 273, 279, 13), (0, 273, 284, 15)] := vx_table (x := yL_act) B (hts _ List.mem_cons_self)
  have lk73 := hts (.classLink RL 73 "java/lang/IndexOutOfBoundsException") (by decide +kernel)
  have lk13 := hts (.classLink RL 13 "java/lang/IllegalArgumentException") (by decide +kernel)
  have hl := lv_entry ([.ref (α (0)), .int (5), .int (nI (k)), .int (x1), .int (x2), .int (x3)]) (n := 7) (Nat.le_of_ble_eq_true rfl)
  rw [lg_entry_eq]
  generalize (lg_sl ([.ref (α (0)), .int (5), .int (nI (k)), .int (x1), .int (x2), .int (x3)]) ++ List.replicate (7 - (lg_sl ([.ref (α (0)), .int (5), .int (nI (k)), .int (x1), .int (x2), .int (x3)])).length) Slot.unset).toArray = ls at hl ⊢
  have hl : lv_has ls 7 [(0, .ref (α (0))), (1, .int (5)), (2, .int (nI (k))), (3, .int (x1)), (4, .int (x2)), (5, .int (x3))] := hl
  refine lv_iload_n hx hb dL_act_0 rfl (lv_at hl 1 rfl) ?_
  refine lv_if_ne (tgt := 13) hx hb dL_act_1 (by decide) (fun c1 => ?_) (fun z => absurd z ((by decide)))
  refine lv_iload_n hx hb dL_act_13 rfl (lv_at hl 1 rfl) ?_
  refine lv_iconst (v := (1)) hx hb dL_act_14 (by decide) ?_
  refine lv_icmp_ne (tgt := 44) hx hb dL_act_15 (by decide) (fun c2 => ?_) (fun z => absurd z ((by decide)))
  refine lv_iload_n hx hb dL_act_44 rfl (lv_at hl 1 rfl) ?_
  refine lv_iconst (v := (2)) hx hb dL_act_45 (by decide) ?_
  refine lv_icmp_ne (tgt := 75) hx hb dL_act_46 (by decide) (fun c3 => ?_) (fun z => absurd z ((by decide)))
  refine lv_iload_n hx hb dL_act_75 rfl (lv_at hl 1 rfl) ?_
  refine lv_iconst (v := (3)) hx hb dL_act_76 (by decide) ?_
  refine lv_icmp_ne (tgt := 88) hx hb dL_act_77 (by decide) (fun c4 => ?_) (fun z => absurd z ((by decide)))
  refine lv_iload_n hx hb dL_act_88 rfl (lv_at hl 1 rfl) ?_
  refine lv_iconst (v := (4)) hx hb dL_act_89 (by decide) ?_
  refine lv_icmp_ne (tgt := 102) hx hb dL_act_90 (by decide) (fun c5 => ?_) (fun z => absurd z ((by decide)))
  refine lv_iload_n hx hb dL_act_102 rfl (lv_at hl 1 rfl) ?_
  refine lv_iconst (v := (5)) hx hb dL_act_103 (by decide) ?_
  refine lv_icmp_ne (tgt := 120) hx hb dL_act_104 (by decide) (fun z => absurd ((by decide)) z) (fun c6 => ?_)
  refine lv_aload_n hx hb dL_act_107 rfl (lv_at hl 0 rfl) ?_
  refine lv_iload_n hx hb dL_act_108 rfl (lv_at hl 2 rfl) ?_
  refine lv_iload_n hx hb dL_act_109 rfl (lv_at hl 3 rfl) ?_
  refine lv_iload hx hb dL_act_110 (lv_at hl 4 rfl) ?_
  refine lv_iload hx hb dL_act_112 (lv_at hl 5 rfl) ?_
  refine mcallTV hw k0 rfl rfl ⟨hx, hb, hml, hown, hts⟩ hS (t_X3_addShift_2 hl0 hC hwf k hk x1 x2 x3 hbad) (cwV 4 hts gL_act_X3_addShift rfl rfl rfl (by decide +kernel) ⟨Nat.le_of_ble_eq_true rfl, Nat.le_of_ble_eq_true rfl⟩) rfl hl.1 rfl (Nat.le_of_ble_eq_true rfl) dL_act_114 ⟨Nat.le_of_ble_eq_true rfl, Nat.le_of_ble_eq_true rfl⟩ (fun q9 ce H locs hw hS hce hcv hcl => ?_)
  refine vx_catch (name := "java/lang/IllegalArgumentException") (E := "java/lang/IllegalArgumentException") hown [⟨0, 273, 274, 73⟩] ⟨0, 273, 279, 13⟩ [⟨0, 273, 284, 15⟩] htb (fun z hz => by rw [List.mem_singleton.mp hz]; exact Or.inr ⟨by decide, "java/lang/IndexOutOfBoundsException", lk73, hw.1.2.2.2.2.1 ("java/lang/IllegalArgumentException", "java/lang/IndexOutOfBoundsException") (by decide)⟩) (by decide) (by decide) lk13 (va_Nw.use rfl (hw.1.2.2.1 ("java/lang/IllegalArgumentException", "java/lang/IllegalArgumentException") (by decide))) hce hcv hcl ?_
  refine W.eq (g2 := F0 m 279 ls [.ref (q9)]) rfl ?_
  refine lv_astore (lv' := [(6, .ref (q9)), (0, .ref (α (0))), (1, .int (5)), (2, .int (nI (k))), (3, .int (x1)), (4, .int (x2)), (5, .int (x3))]) hx hb dL_act_279 hl (by decide) rfl (fun ls hl => ?_)
  refine lv_bipush (v := (-72)) hx hb dL_act_281 (by decide) ?_
  exact W.iret (v := (-72)) hx hb hr (fun t ht hW => ⟨⟨_, (V, α), rfl, ⟨rfl, rfl⟩, by show mH G V α t.heap; rw [ht]; exact hw.2.2⟩, hS.F ht⟩) hS.2.2 dL_act_283

set_option maxHeartbeats 4000000 in
set_option maxRecDepth 100000 in
theorem x_X3_addShift_3 {l : Launch} (hl0 : l.stackTraces = false) {G : mG} {V : mV} {α : Nat → Nat} {f : sT} {nr nw ns : Nat} (hC : mC G V α f nr nw ns) (hwf : mwf f nr nw ns) (k d qq ln : Nat) (hk : k < nw) (hd : d < 363) (hqq : qq < 96) (hln : 1 ≤ ln) (hln2 : ln ≤ 64) (hov : ns = 80 ∨ 0 < s_wb f k (nI (d * 96 + qq)) (nI (d * 96 + qq + ln)) ns) : Met l yL_act wsL_act ({ frames := 7, cells := 1, slots := 6, locals := 140 }) (va_Pc [.ref (α (0)), .int (5), .int (nI (k)), .int (nI (d)), .int (nI (qq)), .int (nI (ln))] (fun U => mW G V α U U.heap)) (va_Qi (fun (r9 : Int32) (u : mV × (Nat → Nat)) => (-73) = r9 ∧ u = (V, α)) (fun u t => mH G u.1 u.2 t.heap) (mfree G)) 1 6 (mfree G) := by
  refine mofWH (cc := cL_act) (maxL := 7) (ret := (some .int)) (hh := [(0, 273, 274, 73), (0, 273, 279, 13), (0, 273, 284, 15)]) (by decide) rfl ?_
  intro p e s m args below meth c s₁ B hml hv
  obtain ⟨rfl, hw⟩ := hv
  have hx := B.exec
  have hb := B.bytes
  have hr := B.returns
  have hts := atoms_spec (ws := wsL_act) B.pre
  have hown : s.vm.findClass RL = some m.cls := findClass_of_methodNamed B.named
  have hlocks := B.notSynchronized
  have hS : va_S (mfree G) s.heap s.heap [] := va_S.rf
  obtain ⟨k0, -⟩ := id hC
  have htb : c.exceptionTable.toList = tableOf [(0, 273, 274, 73), (0, 273, 279, 13), (0, 273, 284, 15)] := vx_table (x := yL_act) B (hts _ List.mem_cons_self)
  have lk73 := hts (.classLink RL 73 "java/lang/IndexOutOfBoundsException") (by decide +kernel)
  have lk13 := hts (.classLink RL 13 "java/lang/IllegalArgumentException") (by decide +kernel)
  have lk15 := hts (.classLink RL 15 "java/lang/IllegalStateException") (by decide +kernel)
  have hl := lv_entry ([.ref (α (0)), .int (5), .int (nI (k)), .int (nI (d)), .int (nI (qq)), .int (nI (ln))]) (n := 7) (Nat.le_of_ble_eq_true rfl)
  rw [lg_entry_eq]
  generalize (lg_sl ([.ref (α (0)), .int (5), .int (nI (k)), .int (nI (d)), .int (nI (qq)), .int (nI (ln))]) ++ List.replicate (7 - (lg_sl ([.ref (α (0)), .int (5), .int (nI (k)), .int (nI (d)), .int (nI (qq)), .int (nI (ln))])).length) Slot.unset).toArray = ls at hl ⊢
  have hl : lv_has ls 7 [(0, .ref (α (0))), (1, .int (5)), (2, .int (nI (k))), (3, .int (nI (d))), (4, .int (nI (qq))), (5, .int (nI (ln)))] := hl
  refine lv_iload_n hx hb dL_act_0 rfl (lv_at hl 1 rfl) ?_
  refine lv_if_ne (tgt := 13) hx hb dL_act_1 (by decide) (fun c1 => ?_) (fun z => absurd z ((by decide)))
  refine lv_iload_n hx hb dL_act_13 rfl (lv_at hl 1 rfl) ?_
  refine lv_iconst (v := (1)) hx hb dL_act_14 (by decide) ?_
  refine lv_icmp_ne (tgt := 44) hx hb dL_act_15 (by decide) (fun c2 => ?_) (fun z => absurd z ((by decide)))
  refine lv_iload_n hx hb dL_act_44 rfl (lv_at hl 1 rfl) ?_
  refine lv_iconst (v := (2)) hx hb dL_act_45 (by decide) ?_
  refine lv_icmp_ne (tgt := 75) hx hb dL_act_46 (by decide) (fun c3 => ?_) (fun z => absurd z ((by decide)))
  refine lv_iload_n hx hb dL_act_75 rfl (lv_at hl 1 rfl) ?_
  refine lv_iconst (v := (3)) hx hb dL_act_76 (by decide) ?_
  refine lv_icmp_ne (tgt := 88) hx hb dL_act_77 (by decide) (fun c4 => ?_) (fun z => absurd z ((by decide)))
  refine lv_iload_n hx hb dL_act_88 rfl (lv_at hl 1 rfl) ?_
  refine lv_iconst (v := (4)) hx hb dL_act_89 (by decide) ?_
  refine lv_icmp_ne (tgt := 102) hx hb dL_act_90 (by decide) (fun c5 => ?_) (fun z => absurd z ((by decide)))
  refine lv_iload_n hx hb dL_act_102 rfl (lv_at hl 1 rfl) ?_
  refine lv_iconst (v := (5)) hx hb dL_act_103 (by decide) ?_
  refine lv_icmp_ne (tgt := 120) hx hb dL_act_104 (by decide) (fun z => absurd ((by decide)) z) (fun c6 => ?_)
  refine lv_aload_n hx hb dL_act_107 rfl (lv_at hl 0 rfl) ?_
  refine lv_iload_n hx hb dL_act_108 rfl (lv_at hl 2 rfl) ?_
  refine lv_iload_n hx hb dL_act_109 rfl (lv_at hl 3 rfl) ?_
  refine lv_iload hx hb dL_act_110 (lv_at hl 4 rfl) ?_
  refine lv_iload hx hb dL_act_112 (lv_at hl 5 rfl) ?_
  refine mcallTV hw k0 rfl rfl ⟨hx, hb, hml, hown, hts⟩ hS (t_X3_addShift_3 hl0 hC hwf k d qq ln hk hd hqq hln hln2 hov) (cwV 4 hts gL_act_X3_addShift rfl rfl rfl (by decide +kernel) ⟨Nat.le_of_ble_eq_true rfl, Nat.le_of_ble_eq_true rfl⟩) rfl hl.1 rfl (Nat.le_of_ble_eq_true rfl) dL_act_114 ⟨Nat.le_of_ble_eq_true rfl, Nat.le_of_ble_eq_true rfl⟩ (fun q9 ce H locs hw hS hce hcv hcl => ?_)
  refine vx_catch (name := "java/lang/IllegalStateException") (E := "java/lang/IllegalStateException") hown [⟨0, 273, 274, 73⟩, ⟨0, 273, 279, 13⟩] ⟨0, 273, 284, 15⟩ [] htb (fun z hz => by
      rcases List.mem_cons.mp hz with rfl | hz
      · exact Or.inr ⟨by decide, "java/lang/IndexOutOfBoundsException", lk73, hw.1.2.2.2.2.1 ("java/lang/IllegalStateException", "java/lang/IndexOutOfBoundsException") (by decide)⟩
      · rw [List.mem_singleton.mp hz]
        exact Or.inr ⟨by decide, "java/lang/IllegalArgumentException", lk13, hw.1.2.2.2.2.1 ("java/lang/IllegalStateException", "java/lang/IllegalArgumentException") (by decide)⟩) (by decide) (by decide) lk15 (va_Nw.use rfl (hw.1.2.2.1 ("java/lang/IllegalStateException", "java/lang/IllegalStateException") (by decide))) hce hcv hcl ?_
  refine W.eq (g2 := F0 m 284 ls [.ref (q9)]) rfl ?_
  refine lv_astore (lv' := [(6, .ref (q9)), (0, .ref (α (0))), (1, .int (5)), (2, .int (nI (k))), (3, .int (nI (d))), (4, .int (nI (qq))), (5, .int (nI (ln)))]) hx hb dL_act_284 hl (by decide) rfl (fun ls hl => ?_)
  refine lv_bipush (v := (-73)) hx hb dL_act_286 (by decide) ?_
  exact W.iret (v := (-73)) hx hb hr (fun t ht hW => ⟨⟨_, (V, α), rfl, ⟨rfl, rfl⟩, by show mH G V α t.heap; rw [ht]; exact hw.2.2⟩, hS.F ht⟩) hS.2.2 dL_act_288

set_option maxHeartbeats 4000000 in
set_option maxRecDepth 100000 in
theorem w_X3_addShift {l : Launch} {G : mG} {V : mV} {α : Nat → Nat} {f : sT} {nr nw ns : Nat} (hC : mC G V α f nr nw ns) (hwf : mwf f nr nw ns) (k d qq ln : Nat) (hk : k < nw) (hd : d < 363) (hqq : qq < 96) (hln : 1 ≤ ln) (hln2 : ln ≤ 64) (hn9 : ns < 80) (hov : ¬ 0 < s_wb f k (nI (d * 96 + qq)) (nI (d * 96 + qq + ln)) ns) : Met l yL_act wsL_act ({ frames := 8, cells := 2, slots := 210, locals := 317 }) (va_Pc [.ref (α (0)), .int (5), .int (nI (k)), .int (nI (d)), .int (nI (qq)), .int (nI (ln))] (fun U => mW G V α U U.heap)) (va_Qi (fun (r9 : Int32) (u : mV × (Nat → Nat)) => nI ns = r9 ∧ mCQ G V α u (u2 (u2 (u2 f 9 ns (nI k)) 10 ns (nI (d * 96 + qq))) 11 ns (nI ln)) nr nw (ns + 1)) (fun u t => mH G u.1 u.2 t.heap) (mfree G)) 2 210 (mfree G) := by
  refine mofWH (cc := cL_act) (maxL := 7) (ret := (some .int)) (hh := [(0, 273, 274, 73), (0, 273, 279, 13), (0, 273, 284, 15)]) (by decide) rfl ?_
  intro p e s m args below meth c s₁ B hml hv
  obtain ⟨rfl, hw⟩ := hv
  have hx := B.exec
  have hb := B.bytes
  have hr := B.returns
  have hts := atoms_spec (ws := wsL_act) B.pre
  have hown : s.vm.findClass RL = some m.cls := findClass_of_methodNamed B.named
  have hlocks := B.notSynchronized
  have hS : va_S (mfree G) s.heap s.heap [] := va_S.rf
  obtain ⟨k0, -⟩ := id hC
  have htb : c.exceptionTable.toList = tableOf [(0, 273, 274, 73), (0, 273, 279, 13), (0, 273, 284, 15)] := vx_table (x := yL_act) B (hts _ List.mem_cons_self)
  have hl := lv_entry ([.ref (α (0)), .int (5), .int (nI (k)), .int (nI (d)), .int (nI (qq)), .int (nI (ln))]) (n := 7) (Nat.le_of_ble_eq_true rfl)
  rw [lg_entry_eq]
  generalize (lg_sl ([.ref (α (0)), .int (5), .int (nI (k)), .int (nI (d)), .int (nI (qq)), .int (nI (ln))]) ++ List.replicate (7 - (lg_sl ([.ref (α (0)), .int (5), .int (nI (k)), .int (nI (d)), .int (nI (qq)), .int (nI (ln))])).length) Slot.unset).toArray = ls at hl ⊢
  have hl : lv_has ls 7 [(0, .ref (α (0))), (1, .int (5)), (2, .int (nI (k))), (3, .int (nI (d))), (4, .int (nI (qq))), (5, .int (nI (ln)))] := hl
  refine lv_iload_n hx hb dL_act_0 rfl (lv_at hl 1 rfl) ?_
  refine lv_if_ne (tgt := 13) hx hb dL_act_1 (by decide) (fun c1 => ?_) (fun z => absurd z ((by decide)))
  refine lv_iload_n hx hb dL_act_13 rfl (lv_at hl 1 rfl) ?_
  refine lv_iconst (v := (1)) hx hb dL_act_14 (by decide) ?_
  refine lv_icmp_ne (tgt := 44) hx hb dL_act_15 (by decide) (fun c2 => ?_) (fun z => absurd z ((by decide)))
  refine lv_iload_n hx hb dL_act_44 rfl (lv_at hl 1 rfl) ?_
  refine lv_iconst (v := (2)) hx hb dL_act_45 (by decide) ?_
  refine lv_icmp_ne (tgt := 75) hx hb dL_act_46 (by decide) (fun c3 => ?_) (fun z => absurd z ((by decide)))
  refine lv_iload_n hx hb dL_act_75 rfl (lv_at hl 1 rfl) ?_
  refine lv_iconst (v := (3)) hx hb dL_act_76 (by decide) ?_
  refine lv_icmp_ne (tgt := 88) hx hb dL_act_77 (by decide) (fun c4 => ?_) (fun z => absurd z ((by decide)))
  refine lv_iload_n hx hb dL_act_88 rfl (lv_at hl 1 rfl) ?_
  refine lv_iconst (v := (4)) hx hb dL_act_89 (by decide) ?_
  refine lv_icmp_ne (tgt := 102) hx hb dL_act_90 (by decide) (fun c5 => ?_) (fun z => absurd z ((by decide)))
  refine lv_iload_n hx hb dL_act_102 rfl (lv_at hl 1 rfl) ?_
  refine lv_iconst (v := (5)) hx hb dL_act_103 (by decide) ?_
  refine lv_icmp_ne (tgt := 120) hx hb dL_act_104 (by decide) (fun z => absurd ((by decide)) z) (fun c6 => ?_)
  refine lv_aload_n hx hb dL_act_107 rfl (lv_at hl 0 rfl) ?_
  refine lv_iload_n hx hb dL_act_108 rfl (lv_at hl 2 rfl) ?_
  refine lv_iload_n hx hb dL_act_109 rfl (lv_at hl 3 rfl) ?_
  refine lv_iload hx hb dL_act_110 (lv_at hl 4 rfl) ?_
  refine lv_iload hx hb dL_act_112 (lv_at hl 5 rfl) ?_
  refine mcallVw hw k0 rfl rfl ⟨hx, hb, hml, hown, hts⟩ hS (c_X3_addShift hC hwf k d qq ln hk hd hqq hln hln2 hn9 hov) (cwV 4 hts gL_act_X3_addShift rfl rfl rfl (by decide +kernel) ⟨Nat.le_of_ble_eq_true rfl, Nat.le_of_ble_eq_true rfl⟩) rfl hl.1 rfl (Nat.le_of_ble_eq_true rfl) dL_act_114 ⟨Nat.le_of_ble_eq_true rfl, Nat.le_of_ble_eq_true rfl⟩ (fun r9 V1 α1 H locs hq hw hS => ?_)
  obtain ⟨er, hC1⟩ := hq
  subst er
  refine lv_goto (tgt := 273) hx hb dL_act_117 (by decide) ?_
  exact W.iret (v := nI ns) hx hb hr (fun t ht hW => ⟨⟨_, (V1, α1), rfl, ⟨rfl, hC1⟩, by show mH G V1 α1 t.heap; rw [ht]; exact hw.2.2⟩, hS.F ht⟩) hS.2.2 dL_act_273

set_option maxHeartbeats 4000000 in
set_option maxRecDepth 100000 in
theorem x_X3_cancel_1 {l : Launch} (hl0 : l.stackTraces = false) {G : mG} {V : mV} {α : Nat → Nat} {f : sT} {nr nw ns : Nat} (hC : mC G V α f nr nw ns) (hwf : mwf f nr nw ns) (y : Int32) (hbad : ¬ inn y 0 (nI ns - 1)) (z3 z4 z5 : Int32) : Met l yL_act wsL_act ({ frames := 8, cells := 1, slots := 6, locals := 126 }) (va_Pc [.ref (α (0)), .int (6), .int (y), .int (z3), .int (z4), .int (z5)] (fun U => mW G V α U U.heap)) (va_Qi (fun (r9 : Int32) (u : mV × (Nat → Nat)) => (-71) = r9 ∧ u = (V, α)) (fun u t => mH G u.1 u.2 t.heap) (mfree G)) 1 6 (mfree G) := by
  refine mofWH (cc := cL_act) (maxL := 7) (ret := (some .int)) (hh := [(0, 273, 274, 73), (0, 273, 279, 13), (0, 273, 284, 15)]) (by decide) rfl ?_
  intro p e s m args below meth c s₁ B hml hv
  obtain ⟨rfl, hw⟩ := hv
  have hx := B.exec
  have hb := B.bytes
  have hr := B.returns
  have hts := atoms_spec (ws := wsL_act) B.pre
  have hown : s.vm.findClass RL = some m.cls := findClass_of_methodNamed B.named
  have hlocks := B.notSynchronized
  have hS : va_S (mfree G) s.heap s.heap [] := va_S.rf
  obtain ⟨k0, -⟩ := id hC
  have htb : c.exceptionTable.toList = tableOf [(0, 273, 274, 73), (0, 273, 279, 13), (0, 273, 284, 15)] := vx_table (x := yL_act) B (hts _ List.mem_cons_self)
  have lk73 := hts (.classLink RL 73 "java/lang/IndexOutOfBoundsException") (by decide +kernel)
  have hl := lv_entry ([.ref (α (0)), .int (6), .int (y), .int (z3), .int (z4), .int (z5)]) (n := 7) (Nat.le_of_ble_eq_true rfl)
  rw [lg_entry_eq]
  generalize (lg_sl ([.ref (α (0)), .int (6), .int (y), .int (z3), .int (z4), .int (z5)]) ++ List.replicate (7 - (lg_sl ([.ref (α (0)), .int (6), .int (y), .int (z3), .int (z4), .int (z5)])).length) Slot.unset).toArray = ls at hl ⊢
  have hl : lv_has ls 7 [(0, .ref (α (0))), (1, .int (6)), (2, .int (y)), (3, .int (z3)), (4, .int (z4)), (5, .int (z5))] := hl
  refine lv_iload_n hx hb dL_act_0 rfl (lv_at hl 1 rfl) ?_
  refine lv_if_ne (tgt := 13) hx hb dL_act_1 (by decide) (fun c1 => ?_) (fun z => absurd z ((by decide)))
  refine lv_iload_n hx hb dL_act_13 rfl (lv_at hl 1 rfl) ?_
  refine lv_iconst (v := (1)) hx hb dL_act_14 (by decide) ?_
  refine lv_icmp_ne (tgt := 44) hx hb dL_act_15 (by decide) (fun c2 => ?_) (fun z => absurd z ((by decide)))
  refine lv_iload_n hx hb dL_act_44 rfl (lv_at hl 1 rfl) ?_
  refine lv_iconst (v := (2)) hx hb dL_act_45 (by decide) ?_
  refine lv_icmp_ne (tgt := 75) hx hb dL_act_46 (by decide) (fun c3 => ?_) (fun z => absurd z ((by decide)))
  refine lv_iload_n hx hb dL_act_75 rfl (lv_at hl 1 rfl) ?_
  refine lv_iconst (v := (3)) hx hb dL_act_76 (by decide) ?_
  refine lv_icmp_ne (tgt := 88) hx hb dL_act_77 (by decide) (fun c4 => ?_) (fun z => absurd z ((by decide)))
  refine lv_iload_n hx hb dL_act_88 rfl (lv_at hl 1 rfl) ?_
  refine lv_iconst (v := (4)) hx hb dL_act_89 (by decide) ?_
  refine lv_icmp_ne (tgt := 102) hx hb dL_act_90 (by decide) (fun c5 => ?_) (fun z => absurd z ((by decide)))
  refine lv_iload_n hx hb dL_act_102 rfl (lv_at hl 1 rfl) ?_
  refine lv_iconst (v := (5)) hx hb dL_act_103 (by decide) ?_
  refine lv_icmp_ne (tgt := 120) hx hb dL_act_104 (by decide) (fun c6 => ?_) (fun z => absurd z ((by decide)))
  refine lv_iload_n hx hb dL_act_120 rfl (lv_at hl 1 rfl) ?_
  refine lv_bipush (v := (6)) hx hb dL_act_121 (by decide) ?_
  refine lv_icmp_ne (tgt := 134) hx hb dL_act_123 (by decide) (fun z => absurd ((by decide)) z) (fun c7 => ?_)
  refine lv_aload_n hx hb dL_act_126 rfl (lv_at hl 0 rfl) ?_
  refine lv_iload_n hx hb dL_act_127 rfl (lv_at hl 2 rfl) ?_
  refine mcallTV hw k0 rfl rfl ⟨hx, hb, hml, hown, hts⟩ hS (t_X3_cancel_1 hl0 hC hwf y hbad) (cwV 1 hts gL_act_X3_cancel rfl rfl rfl (by decide +kernel) ⟨Nat.le_of_ble_eq_true rfl, Nat.le_of_ble_eq_true rfl⟩) rfl hl.1 rfl (Nat.le_of_ble_eq_true rfl) dL_act_128 ⟨Nat.le_of_ble_eq_true rfl, Nat.le_of_ble_eq_true rfl⟩ (fun q9 ce H locs hw hS hce hcv hcl => ?_)
  refine vx_catch (name := "java/lang/IndexOutOfBoundsException") (E := "java/lang/IndexOutOfBoundsException") hown [] ⟨0, 273, 274, 73⟩ [⟨0, 273, 279, 13⟩, ⟨0, 273, 284, 15⟩] htb (fun z hz => absurd hz List.not_mem_nil) (by decide) (by decide) lk73 (va_Nw.use rfl (hw.1.2.2.1 ("java/lang/IndexOutOfBoundsException", "java/lang/IndexOutOfBoundsException") (by decide))) hce hcv hcl ?_
  refine W.eq (g2 := F0 m 274 ls [.ref (q9)]) rfl ?_
  refine lv_astore (lv' := [(6, .ref (q9)), (0, .ref (α (0))), (1, .int (6)), (2, .int (y)), (3, .int (z3)), (4, .int (z4)), (5, .int (z5))]) hx hb dL_act_274 hl (by decide) rfl (fun ls hl => ?_)
  refine lv_bipush (v := (-71)) hx hb dL_act_276 (by decide) ?_
  exact W.iret (v := (-71)) hx hb hr (fun t ht hW => ⟨⟨_, (V, α), rfl, ⟨rfl, rfl⟩, by show mH G V α t.heap; rw [ht]; exact hw.2.2⟩, hS.F ht⟩) hS.2.2 dL_act_278

set_option maxHeartbeats 4000000 in
set_option maxRecDepth 100000 in
theorem x_X3_cancel_2 {l : Launch} (hl0 : l.stackTraces = false) {G : mG} {V : mV} {α : Nat → Nat} {f : sT} {nr nw ns : Nat} (hC : mC G V α f nr nw ns) (hwf : mwf f nr nw ns) (si : Nat) (hs : si < ns) (hg : ¬ f 13 si = 0) (z3 z4 z5 : Int32) : Met l yL_act wsL_act ({ frames := 8, cells := 1, slots := 6, locals := 125 }) (va_Pc [.ref (α (0)), .int (6), .int (nI (si)), .int (z3), .int (z4), .int (z5)] (fun U => mW G V α U U.heap)) (va_Qi (fun (r9 : Int32) (u : mV × (Nat → Nat)) => (-73) = r9 ∧ u = (V, α)) (fun u t => mH G u.1 u.2 t.heap) (mfree G)) 1 6 (mfree G) := by
  refine mofWH (cc := cL_act) (maxL := 7) (ret := (some .int)) (hh := [(0, 273, 274, 73), (0, 273, 279, 13), (0, 273, 284, 15)]) (by decide) rfl ?_
  intro p e s m args below meth c s₁ B hml hv
  obtain ⟨rfl, hw⟩ := hv
  have hx := B.exec
  have hb := B.bytes
  have hr := B.returns
  have hts := atoms_spec (ws := wsL_act) B.pre
  have hown : s.vm.findClass RL = some m.cls := findClass_of_methodNamed B.named
  have hlocks := B.notSynchronized
  have hS : va_S (mfree G) s.heap s.heap [] := va_S.rf
  obtain ⟨k0, -⟩ := id hC
  have htb : c.exceptionTable.toList = tableOf [(0, 273, 274, 73), (0, 273, 279, 13), (0, 273, 284, 15)] := vx_table (x := yL_act) B (hts _ List.mem_cons_self)
  have lk73 := hts (.classLink RL 73 "java/lang/IndexOutOfBoundsException") (by decide +kernel)
  have lk13 := hts (.classLink RL 13 "java/lang/IllegalArgumentException") (by decide +kernel)
  have lk15 := hts (.classLink RL 15 "java/lang/IllegalStateException") (by decide +kernel)
  have hl := lv_entry ([.ref (α (0)), .int (6), .int (nI (si)), .int (z3), .int (z4), .int (z5)]) (n := 7) (Nat.le_of_ble_eq_true rfl)
  rw [lg_entry_eq]
  generalize (lg_sl ([.ref (α (0)), .int (6), .int (nI (si)), .int (z3), .int (z4), .int (z5)]) ++ List.replicate (7 - (lg_sl ([.ref (α (0)), .int (6), .int (nI (si)), .int (z3), .int (z4), .int (z5)])).length) Slot.unset).toArray = ls at hl ⊢
  have hl : lv_has ls 7 [(0, .ref (α (0))), (1, .int (6)), (2, .int (nI (si))), (3, .int (z3)), (4, .int (z4)), (5, .int (z5))] := hl
  refine lv_iload_n hx hb dL_act_0 rfl (lv_at hl 1 rfl) ?_
  refine lv_if_ne (tgt := 13) hx hb dL_act_1 (by decide) (fun c1 => ?_) (fun z => absurd z ((by decide)))
  refine lv_iload_n hx hb dL_act_13 rfl (lv_at hl 1 rfl) ?_
  refine lv_iconst (v := (1)) hx hb dL_act_14 (by decide) ?_
  refine lv_icmp_ne (tgt := 44) hx hb dL_act_15 (by decide) (fun c2 => ?_) (fun z => absurd z ((by decide)))
  refine lv_iload_n hx hb dL_act_44 rfl (lv_at hl 1 rfl) ?_
  refine lv_iconst (v := (2)) hx hb dL_act_45 (by decide) ?_
  refine lv_icmp_ne (tgt := 75) hx hb dL_act_46 (by decide) (fun c3 => ?_) (fun z => absurd z ((by decide)))
  refine lv_iload_n hx hb dL_act_75 rfl (lv_at hl 1 rfl) ?_
  refine lv_iconst (v := (3)) hx hb dL_act_76 (by decide) ?_
  refine lv_icmp_ne (tgt := 88) hx hb dL_act_77 (by decide) (fun c4 => ?_) (fun z => absurd z ((by decide)))
  refine lv_iload_n hx hb dL_act_88 rfl (lv_at hl 1 rfl) ?_
  refine lv_iconst (v := (4)) hx hb dL_act_89 (by decide) ?_
  refine lv_icmp_ne (tgt := 102) hx hb dL_act_90 (by decide) (fun c5 => ?_) (fun z => absurd z ((by decide)))
  refine lv_iload_n hx hb dL_act_102 rfl (lv_at hl 1 rfl) ?_
  refine lv_iconst (v := (5)) hx hb dL_act_103 (by decide) ?_
  refine lv_icmp_ne (tgt := 120) hx hb dL_act_104 (by decide) (fun c6 => ?_) (fun z => absurd z ((by decide)))
  refine lv_iload_n hx hb dL_act_120 rfl (lv_at hl 1 rfl) ?_
  refine lv_bipush (v := (6)) hx hb dL_act_121 (by decide) ?_
  refine lv_icmp_ne (tgt := 134) hx hb dL_act_123 (by decide) (fun z => absurd ((by decide)) z) (fun c7 => ?_)
  refine lv_aload_n hx hb dL_act_126 rfl (lv_at hl 0 rfl) ?_
  refine lv_iload_n hx hb dL_act_127 rfl (lv_at hl 2 rfl) ?_
  refine mcallTV hw k0 rfl rfl ⟨hx, hb, hml, hown, hts⟩ hS (t_X3_cancel_2 hl0 hC hwf si hs hg) (cwV 1 hts gL_act_X3_cancel rfl rfl rfl (by decide +kernel) ⟨Nat.le_of_ble_eq_true rfl, Nat.le_of_ble_eq_true rfl⟩) rfl hl.1 rfl (Nat.le_of_ble_eq_true rfl) dL_act_128 ⟨Nat.le_of_ble_eq_true rfl, Nat.le_of_ble_eq_true rfl⟩ (fun q9 ce H locs hw hS hce hcv hcl => ?_)
  refine vx_catch (name := "java/lang/IllegalStateException") (E := "java/lang/IllegalStateException") hown [⟨0, 273, 274, 73⟩, ⟨0, 273, 279, 13⟩] ⟨0, 273, 284, 15⟩ [] htb (fun z hz => by
      rcases List.mem_cons.mp hz with rfl | hz
      · exact Or.inr ⟨by decide, "java/lang/IndexOutOfBoundsException", lk73, hw.1.2.2.2.2.1 ("java/lang/IllegalStateException", "java/lang/IndexOutOfBoundsException") (by decide)⟩
      · rw [List.mem_singleton.mp hz]
        exact Or.inr ⟨by decide, "java/lang/IllegalArgumentException", lk13, hw.1.2.2.2.2.1 ("java/lang/IllegalStateException", "java/lang/IllegalArgumentException") (by decide)⟩) (by decide) (by decide) lk15 (va_Nw.use rfl (hw.1.2.2.1 ("java/lang/IllegalStateException", "java/lang/IllegalStateException") (by decide))) hce hcv hcl ?_
  refine W.eq (g2 := F0 m 284 ls [.ref (q9)]) rfl ?_
  refine lv_astore (lv' := [(6, .ref (q9)), (0, .ref (α (0))), (1, .int (6)), (2, .int (nI (si))), (3, .int (z3)), (4, .int (z4)), (5, .int (z5))]) hx hb dL_act_284 hl (by decide) rfl (fun ls hl => ?_)
  refine lv_bipush (v := (-73)) hx hb dL_act_286 (by decide) ?_
  exact W.iret (v := (-73)) hx hb hr (fun t ht hW => ⟨⟨_, (V, α), rfl, ⟨rfl, rfl⟩, by show mH G V α t.heap; rw [ht]; exact hw.2.2⟩, hS.F ht⟩) hS.2.2 dL_act_288

set_option maxHeartbeats 4000000 in
set_option maxRecDepth 100000 in
theorem x_X3_takeBreaks_1 {l : Launch} (hl0 : l.stackTraces = false) {G : mG} {V : mV} {α : Nat → Nat} {f : sT} {nr nw ns : Nat} (hC : mC G V α f nr nw ns) (hwf : mwf f nr nw ns) (y : Int32) (hbad : ¬ inn y 0 (nI ns - 1)) (x : Int32) (z4 z5 : Int32) : Met l yL_act wsL_act ({ frames := 8, cells := 1, slots := 6, locals := 127 }) (va_Pc [.ref (α (0)), .int (7), .int (y), .int (x), .int (z4), .int (z5)] (fun U => mW G V α U U.heap)) (va_Qi (fun (r9 : Int32) (u : mV × (Nat → Nat)) => (-71) = r9 ∧ u = (V, α)) (fun u t => mH G u.1 u.2 t.heap) (mfree G)) 1 6 (mfree G) := by
  refine mofWH (cc := cL_act) (maxL := 7) (ret := (some .int)) (hh := [(0, 273, 274, 73), (0, 273, 279, 13), (0, 273, 284, 15)]) (by decide) rfl ?_
  intro p e s m args below meth c s₁ B hml hv
  obtain ⟨rfl, hw⟩ := hv
  have hx := B.exec
  have hb := B.bytes
  have hr := B.returns
  have hts := atoms_spec (ws := wsL_act) B.pre
  have hown : s.vm.findClass RL = some m.cls := findClass_of_methodNamed B.named
  have hlocks := B.notSynchronized
  have hS : va_S (mfree G) s.heap s.heap [] := va_S.rf
  obtain ⟨k0, -⟩ := id hC
  have htb : c.exceptionTable.toList = tableOf [(0, 273, 274, 73), (0, 273, 279, 13), (0, 273, 284, 15)] := vx_table (x := yL_act) B (hts _ List.mem_cons_self)
  have lk73 := hts (.classLink RL 73 "java/lang/IndexOutOfBoundsException") (by decide +kernel)
  have hl := lv_entry ([.ref (α (0)), .int (7), .int (y), .int (x), .int (z4), .int (z5)]) (n := 7) (Nat.le_of_ble_eq_true rfl)
  rw [lg_entry_eq]
  generalize (lg_sl ([.ref (α (0)), .int (7), .int (y), .int (x), .int (z4), .int (z5)]) ++ List.replicate (7 - (lg_sl ([.ref (α (0)), .int (7), .int (y), .int (x), .int (z4), .int (z5)])).length) Slot.unset).toArray = ls at hl ⊢
  have hl : lv_has ls 7 [(0, .ref (α (0))), (1, .int (7)), (2, .int (y)), (3, .int (x)), (4, .int (z4)), (5, .int (z5))] := hl
  refine lv_iload_n hx hb dL_act_0 rfl (lv_at hl 1 rfl) ?_
  refine lv_if_ne (tgt := 13) hx hb dL_act_1 (by decide) (fun c1 => ?_) (fun z => absurd z ((by decide)))
  refine lv_iload_n hx hb dL_act_13 rfl (lv_at hl 1 rfl) ?_
  refine lv_iconst (v := (1)) hx hb dL_act_14 (by decide) ?_
  refine lv_icmp_ne (tgt := 44) hx hb dL_act_15 (by decide) (fun c2 => ?_) (fun z => absurd z ((by decide)))
  refine lv_iload_n hx hb dL_act_44 rfl (lv_at hl 1 rfl) ?_
  refine lv_iconst (v := (2)) hx hb dL_act_45 (by decide) ?_
  refine lv_icmp_ne (tgt := 75) hx hb dL_act_46 (by decide) (fun c3 => ?_) (fun z => absurd z ((by decide)))
  refine lv_iload_n hx hb dL_act_75 rfl (lv_at hl 1 rfl) ?_
  refine lv_iconst (v := (3)) hx hb dL_act_76 (by decide) ?_
  refine lv_icmp_ne (tgt := 88) hx hb dL_act_77 (by decide) (fun c4 => ?_) (fun z => absurd z ((by decide)))
  refine lv_iload_n hx hb dL_act_88 rfl (lv_at hl 1 rfl) ?_
  refine lv_iconst (v := (4)) hx hb dL_act_89 (by decide) ?_
  refine lv_icmp_ne (tgt := 102) hx hb dL_act_90 (by decide) (fun c5 => ?_) (fun z => absurd z ((by decide)))
  refine lv_iload_n hx hb dL_act_102 rfl (lv_at hl 1 rfl) ?_
  refine lv_iconst (v := (5)) hx hb dL_act_103 (by decide) ?_
  refine lv_icmp_ne (tgt := 120) hx hb dL_act_104 (by decide) (fun c6 => ?_) (fun z => absurd z ((by decide)))
  refine lv_iload_n hx hb dL_act_120 rfl (lv_at hl 1 rfl) ?_
  refine lv_bipush (v := (6)) hx hb dL_act_121 (by decide) ?_
  refine lv_icmp_ne (tgt := 134) hx hb dL_act_123 (by decide) (fun c7 => ?_) (fun z => absurd z ((by decide)))
  refine lv_iload_n hx hb dL_act_134 rfl (lv_at hl 1 rfl) ?_
  refine lv_bipush (v := (7)) hx hb dL_act_135 (by decide) ?_
  refine lv_icmp_ne (tgt := 149) hx hb dL_act_137 (by decide) (fun z => absurd ((by decide)) z) (fun c8 => ?_)
  refine lv_aload_n hx hb dL_act_140 rfl (lv_at hl 0 rfl) ?_
  refine lv_iload_n hx hb dL_act_141 rfl (lv_at hl 2 rfl) ?_
  refine lv_iload_n hx hb dL_act_142 rfl (lv_at hl 3 rfl) ?_
  refine mcallTV hw k0 rfl rfl ⟨hx, hb, hml, hown, hts⟩ hS (t_X3_takeBreaks_1 hl0 hC hwf y hbad x) (cwV 2 hts gL_act_X3_takeBreaks rfl rfl rfl (by decide +kernel) ⟨Nat.le_of_ble_eq_true rfl, Nat.le_of_ble_eq_true rfl⟩) rfl hl.1 rfl (Nat.le_of_ble_eq_true rfl) dL_act_143 ⟨Nat.le_of_ble_eq_true rfl, Nat.le_of_ble_eq_true rfl⟩ (fun q9 ce H locs hw hS hce hcv hcl => ?_)
  refine vx_catch (name := "java/lang/IndexOutOfBoundsException") (E := "java/lang/IndexOutOfBoundsException") hown [] ⟨0, 273, 274, 73⟩ [⟨0, 273, 279, 13⟩, ⟨0, 273, 284, 15⟩] htb (fun z hz => absurd hz List.not_mem_nil) (by decide) (by decide) lk73 (va_Nw.use rfl (hw.1.2.2.1 ("java/lang/IndexOutOfBoundsException", "java/lang/IndexOutOfBoundsException") (by decide))) hce hcv hcl ?_
  refine W.eq (g2 := F0 m 274 ls [.ref (q9)]) rfl ?_
  refine lv_astore (lv' := [(6, .ref (q9)), (0, .ref (α (0))), (1, .int (7)), (2, .int (y)), (3, .int (x)), (4, .int (z4)), (5, .int (z5))]) hx hb dL_act_274 hl (by decide) rfl (fun ls hl => ?_)
  refine lv_bipush (v := (-71)) hx hb dL_act_276 (by decide) ?_
  exact W.iret (v := (-71)) hx hb hr (fun t ht hW => ⟨⟨_, (V, α), rfl, ⟨rfl, rfl⟩, by show mH G V α t.heap; rw [ht]; exact hw.2.2⟩, hS.F ht⟩) hS.2.2 dL_act_278

set_option maxHeartbeats 4000000 in
set_option maxRecDepth 100000 in
theorem x_X3_takeBreaks_2 {l : Launch} (hl0 : l.stackTraces = false) {G : mG} {V : mV} {α : Nat → Nat} {f : sT} {nr nw ns : Nat} (hC : mC G V α f nr nw ns) (hwf : mwf f nr nw ns) (si : Nat) (hs : si < ns) (x : Int32) (hbad : ¬ inn x 0 5) (z4 z5 : Int32) : Met l yL_act wsL_act ({ frames := 8, cells := 1, slots := 6, locals := 128 }) (va_Pc [.ref (α (0)), .int (7), .int (nI (si)), .int (x), .int (z4), .int (z5)] (fun U => mW G V α U U.heap)) (va_Qi (fun (r9 : Int32) (u : mV × (Nat → Nat)) => (-72) = r9 ∧ u = (V, α)) (fun u t => mH G u.1 u.2 t.heap) (mfree G)) 1 6 (mfree G) := by
  refine mofWH (cc := cL_act) (maxL := 7) (ret := (some .int)) (hh := [(0, 273, 274, 73), (0, 273, 279, 13), (0, 273, 284, 15)]) (by decide) rfl ?_
  intro p e s m args below meth c s₁ B hml hv
  obtain ⟨rfl, hw⟩ := hv
  have hx := B.exec
  have hb := B.bytes
  have hr := B.returns
  have hts := atoms_spec (ws := wsL_act) B.pre
  have hown : s.vm.findClass RL = some m.cls := findClass_of_methodNamed B.named
  have hlocks := B.notSynchronized
  have hS : va_S (mfree G) s.heap s.heap [] := va_S.rf
  obtain ⟨k0, -⟩ := id hC
  have htb : c.exceptionTable.toList = tableOf [(0, 273, 274, 73), (0, 273, 279, 13), (0, 273, 284, 15)] := vx_table (x := yL_act) B (hts _ List.mem_cons_self)
  have lk73 := hts (.classLink RL 73 "java/lang/IndexOutOfBoundsException") (by decide +kernel)
  have lk13 := hts (.classLink RL 13 "java/lang/IllegalArgumentException") (by decide +kernel)
  have hl := lv_entry ([.ref (α (0)), .int (7), .int (nI (si)), .int (x), .int (z4), .int (z5)]) (n := 7) (Nat.le_of_ble_eq_true rfl)
  rw [lg_entry_eq]
  generalize (lg_sl ([.ref (α (0)), .int (7), .int (nI (si)), .int (x), .int (z4), .int (z5)]) ++ List.replicate (7 - (lg_sl ([.ref (α (0)), .int (7), .int (nI (si)), .int (x), .int (z4), .int (z5)])).length) Slot.unset).toArray = ls at hl ⊢
  have hl : lv_has ls 7 [(0, .ref (α (0))), (1, .int (7)), (2, .int (nI (si))), (3, .int (x)), (4, .int (z4)), (5, .int (z5))] := hl
  refine lv_iload_n hx hb dL_act_0 rfl (lv_at hl 1 rfl) ?_
  refine lv_if_ne (tgt := 13) hx hb dL_act_1 (by decide) (fun c1 => ?_) (fun z => absurd z ((by decide)))
  refine lv_iload_n hx hb dL_act_13 rfl (lv_at hl 1 rfl) ?_
  refine lv_iconst (v := (1)) hx hb dL_act_14 (by decide) ?_
  refine lv_icmp_ne (tgt := 44) hx hb dL_act_15 (by decide) (fun c2 => ?_) (fun z => absurd z ((by decide)))
  refine lv_iload_n hx hb dL_act_44 rfl (lv_at hl 1 rfl) ?_
  refine lv_iconst (v := (2)) hx hb dL_act_45 (by decide) ?_
  refine lv_icmp_ne (tgt := 75) hx hb dL_act_46 (by decide) (fun c3 => ?_) (fun z => absurd z ((by decide)))
  refine lv_iload_n hx hb dL_act_75 rfl (lv_at hl 1 rfl) ?_
  refine lv_iconst (v := (3)) hx hb dL_act_76 (by decide) ?_
  refine lv_icmp_ne (tgt := 88) hx hb dL_act_77 (by decide) (fun c4 => ?_) (fun z => absurd z ((by decide)))
  refine lv_iload_n hx hb dL_act_88 rfl (lv_at hl 1 rfl) ?_
  refine lv_iconst (v := (4)) hx hb dL_act_89 (by decide) ?_
  refine lv_icmp_ne (tgt := 102) hx hb dL_act_90 (by decide) (fun c5 => ?_) (fun z => absurd z ((by decide)))
  refine lv_iload_n hx hb dL_act_102 rfl (lv_at hl 1 rfl) ?_
  refine lv_iconst (v := (5)) hx hb dL_act_103 (by decide) ?_
  refine lv_icmp_ne (tgt := 120) hx hb dL_act_104 (by decide) (fun c6 => ?_) (fun z => absurd z ((by decide)))
  refine lv_iload_n hx hb dL_act_120 rfl (lv_at hl 1 rfl) ?_
  refine lv_bipush (v := (6)) hx hb dL_act_121 (by decide) ?_
  refine lv_icmp_ne (tgt := 134) hx hb dL_act_123 (by decide) (fun c7 => ?_) (fun z => absurd z ((by decide)))
  refine lv_iload_n hx hb dL_act_134 rfl (lv_at hl 1 rfl) ?_
  refine lv_bipush (v := (7)) hx hb dL_act_135 (by decide) ?_
  refine lv_icmp_ne (tgt := 149) hx hb dL_act_137 (by decide) (fun z => absurd ((by decide)) z) (fun c8 => ?_)
  refine lv_aload_n hx hb dL_act_140 rfl (lv_at hl 0 rfl) ?_
  refine lv_iload_n hx hb dL_act_141 rfl (lv_at hl 2 rfl) ?_
  refine lv_iload_n hx hb dL_act_142 rfl (lv_at hl 3 rfl) ?_
  refine mcallTV hw k0 rfl rfl ⟨hx, hb, hml, hown, hts⟩ hS (t_X3_takeBreaks_2 hl0 hC hwf si hs x hbad) (cwV 2 hts gL_act_X3_takeBreaks rfl rfl rfl (by decide +kernel) ⟨Nat.le_of_ble_eq_true rfl, Nat.le_of_ble_eq_true rfl⟩) rfl hl.1 rfl (Nat.le_of_ble_eq_true rfl) dL_act_143 ⟨Nat.le_of_ble_eq_true rfl, Nat.le_of_ble_eq_true rfl⟩ (fun q9 ce H locs hw hS hce hcv hcl => ?_)
  refine vx_catch (name := "java/lang/IllegalArgumentException") (E := "java/lang/IllegalArgumentException") hown [⟨0, 273, 274, 73⟩] ⟨0, 273, 279, 13⟩ [⟨0, 273, 284, 15⟩] htb (fun z hz => by rw [List.mem_singleton.mp hz]; exact Or.inr ⟨by decide, "java/lang/IndexOutOfBoundsException", lk73, hw.1.2.2.2.2.1 ("java/lang/IllegalArgumentException", "java/lang/IndexOutOfBoundsException") (by decide)⟩) (by decide) (by decide) lk13 (va_Nw.use rfl (hw.1.2.2.1 ("java/lang/IllegalArgumentException", "java/lang/IllegalArgumentException") (by decide))) hce hcv hcl ?_
  refine W.eq (g2 := F0 m 279 ls [.ref (q9)]) rfl ?_
  refine lv_astore (lv' := [(6, .ref (q9)), (0, .ref (α (0))), (1, .int (7)), (2, .int (nI (si))), (3, .int (x)), (4, .int (z4)), (5, .int (z5))]) hx hb dL_act_279 hl (by decide) rfl (fun ls hl => ?_)
  refine lv_bipush (v := (-72)) hx hb dL_act_281 (by decide) ?_
  exact W.iret (v := (-72)) hx hb hr (fun t ht hW => ⟨⟨_, (V, α), rfl, ⟨rfl, rfl⟩, by show mH G V α t.heap; rw [ht]; exact hw.2.2⟩, hS.F ht⟩) hS.2.2 dL_act_283

set_option maxHeartbeats 4000000 in
set_option maxRecDepth 100000 in
theorem x_X3_takeBreaks_3 {l : Launch} (hl0 : l.stackTraces = false) {G : mG} {V : mV} {α : Nat → Nat} {f : sT} {nr nw ns : Nat} (hC : mC G V α f nr nw ns) (hwf : mwf f nr nw ns) (si : Nat) (hs : si < ns) (x : Int32) (hx1 : inn x 0 5) (hg : ¬ f 13 si = 0) (z4 z5 : Int32) : Met l yL_act wsL_act ({ frames := 8, cells := 1, slots := 6, locals := 126 }) (va_Pc [.ref (α (0)), .int (7), .int (nI (si)), .int (x), .int (z4), .int (z5)] (fun U => mW G V α U U.heap)) (va_Qi (fun (r9 : Int32) (u : mV × (Nat → Nat)) => (-73) = r9 ∧ u = (V, α)) (fun u t => mH G u.1 u.2 t.heap) (mfree G)) 1 6 (mfree G) := by
  refine mofWH (cc := cL_act) (maxL := 7) (ret := (some .int)) (hh := [(0, 273, 274, 73), (0, 273, 279, 13), (0, 273, 284, 15)]) (by decide) rfl ?_
  intro p e s m args below meth c s₁ B hml hv
  obtain ⟨rfl, hw⟩ := hv
  have hx := B.exec
  have hb := B.bytes
  have hr := B.returns
  have hts := atoms_spec (ws := wsL_act) B.pre
  have hown : s.vm.findClass RL = some m.cls := findClass_of_methodNamed B.named
  have hlocks := B.notSynchronized
  have hS : va_S (mfree G) s.heap s.heap [] := va_S.rf
  obtain ⟨k0, -⟩ := id hC
  have htb : c.exceptionTable.toList = tableOf [(0, 273, 274, 73), (0, 273, 279, 13), (0, 273, 284, 15)] := vx_table (x := yL_act) B (hts _ List.mem_cons_self)
  have lk73 := hts (.classLink RL 73 "java/lang/IndexOutOfBoundsException") (by decide +kernel)
  have lk13 := hts (.classLink RL 13 "java/lang/IllegalArgumentException") (by decide +kernel)
  have lk15 := hts (.classLink RL 15 "java/lang/IllegalStateException") (by decide +kernel)
  have hl := lv_entry ([.ref (α (0)), .int (7), .int (nI (si)), .int (x), .int (z4), .int (z5)]) (n := 7) (Nat.le_of_ble_eq_true rfl)
  rw [lg_entry_eq]
  generalize (lg_sl ([.ref (α (0)), .int (7), .int (nI (si)), .int (x), .int (z4), .int (z5)]) ++ List.replicate (7 - (lg_sl ([.ref (α (0)), .int (7), .int (nI (si)), .int (x), .int (z4), .int (z5)])).length) Slot.unset).toArray = ls at hl ⊢
  have hl : lv_has ls 7 [(0, .ref (α (0))), (1, .int (7)), (2, .int (nI (si))), (3, .int (x)), (4, .int (z4)), (5, .int (z5))] := hl
  refine lv_iload_n hx hb dL_act_0 rfl (lv_at hl 1 rfl) ?_
  refine lv_if_ne (tgt := 13) hx hb dL_act_1 (by decide) (fun c1 => ?_) (fun z => absurd z ((by decide)))
  refine lv_iload_n hx hb dL_act_13 rfl (lv_at hl 1 rfl) ?_
  refine lv_iconst (v := (1)) hx hb dL_act_14 (by decide) ?_
  refine lv_icmp_ne (tgt := 44) hx hb dL_act_15 (by decide) (fun c2 => ?_) (fun z => absurd z ((by decide)))
  refine lv_iload_n hx hb dL_act_44 rfl (lv_at hl 1 rfl) ?_
  refine lv_iconst (v := (2)) hx hb dL_act_45 (by decide) ?_
  refine lv_icmp_ne (tgt := 75) hx hb dL_act_46 (by decide) (fun c3 => ?_) (fun z => absurd z ((by decide)))
  refine lv_iload_n hx hb dL_act_75 rfl (lv_at hl 1 rfl) ?_
  refine lv_iconst (v := (3)) hx hb dL_act_76 (by decide) ?_
  refine lv_icmp_ne (tgt := 88) hx hb dL_act_77 (by decide) (fun c4 => ?_) (fun z => absurd z ((by decide)))
  refine lv_iload_n hx hb dL_act_88 rfl (lv_at hl 1 rfl) ?_
  refine lv_iconst (v := (4)) hx hb dL_act_89 (by decide) ?_
  refine lv_icmp_ne (tgt := 102) hx hb dL_act_90 (by decide) (fun c5 => ?_) (fun z => absurd z ((by decide)))
  refine lv_iload_n hx hb dL_act_102 rfl (lv_at hl 1 rfl) ?_
  refine lv_iconst (v := (5)) hx hb dL_act_103 (by decide) ?_
  refine lv_icmp_ne (tgt := 120) hx hb dL_act_104 (by decide) (fun c6 => ?_) (fun z => absurd z ((by decide)))
  refine lv_iload_n hx hb dL_act_120 rfl (lv_at hl 1 rfl) ?_
  refine lv_bipush (v := (6)) hx hb dL_act_121 (by decide) ?_
  refine lv_icmp_ne (tgt := 134) hx hb dL_act_123 (by decide) (fun c7 => ?_) (fun z => absurd z ((by decide)))
  refine lv_iload_n hx hb dL_act_134 rfl (lv_at hl 1 rfl) ?_
  refine lv_bipush (v := (7)) hx hb dL_act_135 (by decide) ?_
  refine lv_icmp_ne (tgt := 149) hx hb dL_act_137 (by decide) (fun z => absurd ((by decide)) z) (fun c8 => ?_)
  refine lv_aload_n hx hb dL_act_140 rfl (lv_at hl 0 rfl) ?_
  refine lv_iload_n hx hb dL_act_141 rfl (lv_at hl 2 rfl) ?_
  refine lv_iload_n hx hb dL_act_142 rfl (lv_at hl 3 rfl) ?_
  refine mcallTV hw k0 rfl rfl ⟨hx, hb, hml, hown, hts⟩ hS (t_X3_takeBreaks_3 hl0 hC hwf si hs x hx1 hg) (cwV 2 hts gL_act_X3_takeBreaks rfl rfl rfl (by decide +kernel) ⟨Nat.le_of_ble_eq_true rfl, Nat.le_of_ble_eq_true rfl⟩) rfl hl.1 rfl (Nat.le_of_ble_eq_true rfl) dL_act_143 ⟨Nat.le_of_ble_eq_true rfl, Nat.le_of_ble_eq_true rfl⟩ (fun q9 ce H locs hw hS hce hcv hcl => ?_)
  refine vx_catch (name := "java/lang/IllegalStateException") (E := "java/lang/IllegalStateException") hown [⟨0, 273, 274, 73⟩, ⟨0, 273, 279, 13⟩] ⟨0, 273, 284, 15⟩ [] htb (fun z hz => by
      rcases List.mem_cons.mp hz with rfl | hz
      · exact Or.inr ⟨by decide, "java/lang/IndexOutOfBoundsException", lk73, hw.1.2.2.2.2.1 ("java/lang/IllegalStateException", "java/lang/IndexOutOfBoundsException") (by decide)⟩
      · rw [List.mem_singleton.mp hz]
        exact Or.inr ⟨by decide, "java/lang/IllegalArgumentException", lk13, hw.1.2.2.2.2.1 ("java/lang/IllegalStateException", "java/lang/IllegalArgumentException") (by decide)⟩) (by decide) (by decide) lk15 (va_Nw.use rfl (hw.1.2.2.1 ("java/lang/IllegalStateException", "java/lang/IllegalStateException") (by decide))) hce hcv hcl ?_
  refine W.eq (g2 := F0 m 284 ls [.ref (q9)]) rfl ?_
  refine lv_astore (lv' := [(6, .ref (q9)), (0, .ref (α (0))), (1, .int (7)), (2, .int (nI (si))), (3, .int (x)), (4, .int (z4)), (5, .int (z5))]) hx hb dL_act_284 hl (by decide) rfl (fun ls hl => ?_)
  refine lv_bipush (v := (-73)) hx hb dL_act_286 (by decide) ?_
  exact W.iret (v := (-73)) hx hb hr (fun t ht hW => ⟨⟨_, (V, α), rfl, ⟨rfl, rfl⟩, by show mH G V α t.heap; rw [ht]; exact hw.2.2⟩, hS.F ht⟩) hS.2.2 dL_act_288

set_option maxHeartbeats 4000000 in
set_option maxRecDepth 100000 in
theorem x_X3_paidQuarters_1 {l : Launch} (hl0 : l.stackTraces = false) {G : mG} {V : mV} {α : Nat → Nat} {f : sT} {nr nw ns : Nat} (hC : mC G V α f nr nw ns) (hwf : mwf f nr nw ns) (y : Int32) (hbad : ¬ inn y 0 (nI ns - 1)) (z3 z4 z5 : Int32) : Met l yL_act wsL_act ({ frames := 8, cells := 1, slots := 6, locals := 124 }) (va_Pc [.ref (α (0)), .int (8), .int (y), .int (z3), .int (z4), .int (z5)] (fun U => mW G V α U U.heap)) (va_Qi (fun (r9 : Int32) (u : mV × (Nat → Nat)) => (-71) = r9 ∧ u = (V, α)) (fun u t => mH G u.1 u.2 t.heap) (mfree G)) 1 6 (mfree G) := by
  refine mofWH (cc := cL_act) (maxL := 7) (ret := (some .int)) (hh := [(0, 273, 274, 73), (0, 273, 279, 13), (0, 273, 284, 15)]) (by decide) rfl ?_
  intro p e s m args below meth c s₁ B hml hv
  obtain ⟨rfl, hw⟩ := hv
  have hx := B.exec
  have hb := B.bytes
  have hr := B.returns
  have hts := atoms_spec (ws := wsL_act) B.pre
  have hown : s.vm.findClass RL = some m.cls := findClass_of_methodNamed B.named
  have hlocks := B.notSynchronized
  have hS : va_S (mfree G) s.heap s.heap [] := va_S.rf
  obtain ⟨k0, -⟩ := id hC
  have htb : c.exceptionTable.toList = tableOf [(0, 273, 274, 73), (0, 273, 279, 13), (0, 273, 284, 15)] := vx_table (x := yL_act) B (hts _ List.mem_cons_self)
  have lk73 := hts (.classLink RL 73 "java/lang/IndexOutOfBoundsException") (by decide +kernel)
  have hl := lv_entry ([.ref (α (0)), .int (8), .int (y), .int (z3), .int (z4), .int (z5)]) (n := 7) (Nat.le_of_ble_eq_true rfl)
  rw [lg_entry_eq]
  generalize (lg_sl ([.ref (α (0)), .int (8), .int (y), .int (z3), .int (z4), .int (z5)]) ++ List.replicate (7 - (lg_sl ([.ref (α (0)), .int (8), .int (y), .int (z3), .int (z4), .int (z5)])).length) Slot.unset).toArray = ls at hl ⊢
  have hl : lv_has ls 7 [(0, .ref (α (0))), (1, .int (8)), (2, .int (y)), (3, .int (z3)), (4, .int (z4)), (5, .int (z5))] := hl
  refine lv_iload_n hx hb dL_act_0 rfl (lv_at hl 1 rfl) ?_
  refine lv_if_ne (tgt := 13) hx hb dL_act_1 (by decide) (fun c1 => ?_) (fun z => absurd z ((by decide)))
  refine lv_iload_n hx hb dL_act_13 rfl (lv_at hl 1 rfl) ?_
  refine lv_iconst (v := (1)) hx hb dL_act_14 (by decide) ?_
  refine lv_icmp_ne (tgt := 44) hx hb dL_act_15 (by decide) (fun c2 => ?_) (fun z => absurd z ((by decide)))
  refine lv_iload_n hx hb dL_act_44 rfl (lv_at hl 1 rfl) ?_
  refine lv_iconst (v := (2)) hx hb dL_act_45 (by decide) ?_
  refine lv_icmp_ne (tgt := 75) hx hb dL_act_46 (by decide) (fun c3 => ?_) (fun z => absurd z ((by decide)))
  refine lv_iload_n hx hb dL_act_75 rfl (lv_at hl 1 rfl) ?_
  refine lv_iconst (v := (3)) hx hb dL_act_76 (by decide) ?_
  refine lv_icmp_ne (tgt := 88) hx hb dL_act_77 (by decide) (fun c4 => ?_) (fun z => absurd z ((by decide)))
  refine lv_iload_n hx hb dL_act_88 rfl (lv_at hl 1 rfl) ?_
  refine lv_iconst (v := (4)) hx hb dL_act_89 (by decide) ?_
  refine lv_icmp_ne (tgt := 102) hx hb dL_act_90 (by decide) (fun c5 => ?_) (fun z => absurd z ((by decide)))
  refine lv_iload_n hx hb dL_act_102 rfl (lv_at hl 1 rfl) ?_
  refine lv_iconst (v := (5)) hx hb dL_act_103 (by decide) ?_
  refine lv_icmp_ne (tgt := 120) hx hb dL_act_104 (by decide) (fun c6 => ?_) (fun z => absurd z ((by decide)))
  refine lv_iload_n hx hb dL_act_120 rfl (lv_at hl 1 rfl) ?_
  refine lv_bipush (v := (6)) hx hb dL_act_121 (by decide) ?_
  refine lv_icmp_ne (tgt := 134) hx hb dL_act_123 (by decide) (fun c7 => ?_) (fun z => absurd z ((by decide)))
  refine lv_iload_n hx hb dL_act_134 rfl (lv_at hl 1 rfl) ?_
  refine lv_bipush (v := (7)) hx hb dL_act_135 (by decide) ?_
  refine lv_icmp_ne (tgt := 149) hx hb dL_act_137 (by decide) (fun c8 => ?_) (fun z => absurd z ((by decide)))
  refine lv_iload_n hx hb dL_act_149 rfl (lv_at hl 1 rfl) ?_
  refine lv_bipush (v := (8)) hx hb dL_act_150 (by decide) ?_
  refine lv_icmp_ne (tgt := 163) hx hb dL_act_152 (by decide) (fun z => absurd ((by decide)) z) (fun c9 => ?_)
  refine lv_aload_n hx hb dL_act_155 rfl (lv_at hl 0 rfl) ?_
  refine lv_iload_n hx hb dL_act_156 rfl (lv_at hl 2 rfl) ?_
  refine mcallTV hw k0 rfl rfl ⟨hx, hb, hml, hown, hts⟩ hS (t_X3_paidQuarters_1 hl0 hC hwf y hbad) (cwV 1 hts gL_act_X3_paidQuarters rfl rfl rfl (by decide +kernel) ⟨Nat.le_of_ble_eq_true rfl, Nat.le_of_ble_eq_true rfl⟩) rfl hl.1 rfl (Nat.le_of_ble_eq_true rfl) dL_act_157 ⟨Nat.le_of_ble_eq_true rfl, Nat.le_of_ble_eq_true rfl⟩ (fun q9 ce H locs hw hS hce hcv hcl => ?_)
  refine vx_catch (name := "java/lang/IndexOutOfBoundsException") (E := "java/lang/IndexOutOfBoundsException") hown [] ⟨0, 273, 274, 73⟩ [⟨0, 273, 279, 13⟩, ⟨0, 273, 284, 15⟩] htb (fun z hz => absurd hz List.not_mem_nil) (by decide) (by decide) lk73 (va_Nw.use rfl (hw.1.2.2.1 ("java/lang/IndexOutOfBoundsException", "java/lang/IndexOutOfBoundsException") (by decide))) hce hcv hcl ?_
  refine W.eq (g2 := F0 m 274 ls [.ref (q9)]) rfl ?_
  refine lv_astore (lv' := [(6, .ref (q9)), (0, .ref (α (0))), (1, .int (8)), (2, .int (y)), (3, .int (z3)), (4, .int (z4)), (5, .int (z5))]) hx hb dL_act_274 hl (by decide) rfl (fun ls hl => ?_)
  refine lv_bipush (v := (-71)) hx hb dL_act_276 (by decide) ?_
  exact W.iret (v := (-71)) hx hb hr (fun t ht hW => ⟨⟨_, (V, α), rfl, ⟨rfl, rfl⟩, by show mH G V α t.heap; rw [ht]; exact hw.2.2⟩, hS.F ht⟩) hS.2.2 dL_act_278

set_option maxHeartbeats 4000000 in
set_option maxRecDepth 100000 in
theorem x_X3_percentAt_1 {l : Launch} (hl0 : l.stackTraces = false) {G : mG} {V : mV} {α : Nat → Nat} {f : sT} {nr nw ns : Nat} (hC : mC G V α f nr nw ns) (hwf : mwf f nr nw ns) (y : Int32) (hbad : ¬ inn y 0 (nI ns - 1)) (x : Int32) (z4 z5 : Int32) : Met l yL_act wsL_act ({ frames := 8, cells := 1, slots := 6, locals := 126 }) (va_Pc [.ref (α (0)), .int (9), .int (y), .int (x), .int (z4), .int (z5)] (fun U => mW G V α U U.heap)) (va_Qi (fun (r9 : Int32) (u : mV × (Nat → Nat)) => (-71) = r9 ∧ u = (V, α)) (fun u t => mH G u.1 u.2 t.heap) (mfree G)) 1 6 (mfree G) := by
  refine mofWH (cc := cL_act) (maxL := 7) (ret := (some .int)) (hh := [(0, 273, 274, 73), (0, 273, 279, 13), (0, 273, 284, 15)]) (by decide) rfl ?_
  intro p e s m args below meth c s₁ B hml hv
  obtain ⟨rfl, hw⟩ := hv
  have hx := B.exec
  have hb := B.bytes
  have hr := B.returns
  have hts := atoms_spec (ws := wsL_act) B.pre
  have hown : s.vm.findClass RL = some m.cls := findClass_of_methodNamed B.named
  have hlocks := B.notSynchronized
  have hS : va_S (mfree G) s.heap s.heap [] := va_S.rf
  obtain ⟨k0, -⟩ := id hC
  have htb : c.exceptionTable.toList = tableOf [(0, 273, 274, 73), (0, 273, 279, 13), (0, 273, 284, 15)] := vx_table (x := yL_act) B (hts _ List.mem_cons_self)
  have lk73 := hts (.classLink RL 73 "java/lang/IndexOutOfBoundsException") (by decide +kernel)
  have hl := lv_entry ([.ref (α (0)), .int (9), .int (y), .int (x), .int (z4), .int (z5)]) (n := 7) (Nat.le_of_ble_eq_true rfl)
  rw [lg_entry_eq]
  generalize (lg_sl ([.ref (α (0)), .int (9), .int (y), .int (x), .int (z4), .int (z5)]) ++ List.replicate (7 - (lg_sl ([.ref (α (0)), .int (9), .int (y), .int (x), .int (z4), .int (z5)])).length) Slot.unset).toArray = ls at hl ⊢
  have hl : lv_has ls 7 [(0, .ref (α (0))), (1, .int (9)), (2, .int (y)), (3, .int (x)), (4, .int (z4)), (5, .int (z5))] := hl
  refine lv_iload_n hx hb dL_act_0 rfl (lv_at hl 1 rfl) ?_
  refine lv_if_ne (tgt := 13) hx hb dL_act_1 (by decide) (fun c1 => ?_) (fun z => absurd z ((by decide)))
  refine lv_iload_n hx hb dL_act_13 rfl (lv_at hl 1 rfl) ?_
  refine lv_iconst (v := (1)) hx hb dL_act_14 (by decide) ?_
  refine lv_icmp_ne (tgt := 44) hx hb dL_act_15 (by decide) (fun c2 => ?_) (fun z => absurd z ((by decide)))
  refine lv_iload_n hx hb dL_act_44 rfl (lv_at hl 1 rfl) ?_
  refine lv_iconst (v := (2)) hx hb dL_act_45 (by decide) ?_
  refine lv_icmp_ne (tgt := 75) hx hb dL_act_46 (by decide) (fun c3 => ?_) (fun z => absurd z ((by decide)))
  refine lv_iload_n hx hb dL_act_75 rfl (lv_at hl 1 rfl) ?_
  refine lv_iconst (v := (3)) hx hb dL_act_76 (by decide) ?_
  refine lv_icmp_ne (tgt := 88) hx hb dL_act_77 (by decide) (fun c4 => ?_) (fun z => absurd z ((by decide)))
  refine lv_iload_n hx hb dL_act_88 rfl (lv_at hl 1 rfl) ?_
  refine lv_iconst (v := (4)) hx hb dL_act_89 (by decide) ?_
  refine lv_icmp_ne (tgt := 102) hx hb dL_act_90 (by decide) (fun c5 => ?_) (fun z => absurd z ((by decide)))
  refine lv_iload_n hx hb dL_act_102 rfl (lv_at hl 1 rfl) ?_
  refine lv_iconst (v := (5)) hx hb dL_act_103 (by decide) ?_
  refine lv_icmp_ne (tgt := 120) hx hb dL_act_104 (by decide) (fun c6 => ?_) (fun z => absurd z ((by decide)))
  refine lv_iload_n hx hb dL_act_120 rfl (lv_at hl 1 rfl) ?_
  refine lv_bipush (v := (6)) hx hb dL_act_121 (by decide) ?_
  refine lv_icmp_ne (tgt := 134) hx hb dL_act_123 (by decide) (fun c7 => ?_) (fun z => absurd z ((by decide)))
  refine lv_iload_n hx hb dL_act_134 rfl (lv_at hl 1 rfl) ?_
  refine lv_bipush (v := (7)) hx hb dL_act_135 (by decide) ?_
  refine lv_icmp_ne (tgt := 149) hx hb dL_act_137 (by decide) (fun c8 => ?_) (fun z => absurd z ((by decide)))
  refine lv_iload_n hx hb dL_act_149 rfl (lv_at hl 1 rfl) ?_
  refine lv_bipush (v := (8)) hx hb dL_act_150 (by decide) ?_
  refine lv_icmp_ne (tgt := 163) hx hb dL_act_152 (by decide) (fun c9 => ?_) (fun z => absurd z ((by decide)))
  refine lv_iload_n hx hb dL_act_163 rfl (lv_at hl 1 rfl) ?_
  refine lv_bipush (v := (9)) hx hb dL_act_164 (by decide) ?_
  refine lv_icmp_ne (tgt := 178) hx hb dL_act_166 (by decide) (fun z => absurd ((by decide)) z) (fun c10 => ?_)
  refine lv_aload_n hx hb dL_act_169 rfl (lv_at hl 0 rfl) ?_
  refine lv_iload_n hx hb dL_act_170 rfl (lv_at hl 2 rfl) ?_
  refine lv_iload_n hx hb dL_act_171 rfl (lv_at hl 3 rfl) ?_
  refine mcallTV hw k0 rfl rfl ⟨hx, hb, hml, hown, hts⟩ hS (t_X3_percentAt_1 hl0 hC hwf y hbad x) (cwV 2 hts gL_act_X3_percentAt rfl rfl rfl (by decide +kernel) ⟨Nat.le_of_ble_eq_true rfl, Nat.le_of_ble_eq_true rfl⟩) rfl hl.1 rfl (Nat.le_of_ble_eq_true rfl) dL_act_172 ⟨Nat.le_of_ble_eq_true rfl, Nat.le_of_ble_eq_true rfl⟩ (fun q9 ce H locs hw hS hce hcv hcl => ?_)
  refine vx_catch (name := "java/lang/IndexOutOfBoundsException") (E := "java/lang/IndexOutOfBoundsException") hown [] ⟨0, 273, 274, 73⟩ [⟨0, 273, 279, 13⟩, ⟨0, 273, 284, 15⟩] htb (fun z hz => absurd hz List.not_mem_nil) (by decide) (by decide) lk73 (va_Nw.use rfl (hw.1.2.2.1 ("java/lang/IndexOutOfBoundsException", "java/lang/IndexOutOfBoundsException") (by decide))) hce hcv hcl ?_
  refine W.eq (g2 := F0 m 274 ls [.ref (q9)]) rfl ?_
  refine lv_astore (lv' := [(6, .ref (q9)), (0, .ref (α (0))), (1, .int (9)), (2, .int (y)), (3, .int (x)), (4, .int (z4)), (5, .int (z5))]) hx hb dL_act_274 hl (by decide) rfl (fun ls hl => ?_)
  refine lv_bipush (v := (-71)) hx hb dL_act_276 (by decide) ?_
  exact W.iret (v := (-71)) hx hb hr (fun t ht hW => ⟨⟨_, (V, α), rfl, ⟨rfl, rfl⟩, by show mH G V α t.heap; rw [ht]; exact hw.2.2⟩, hS.F ht⟩) hS.2.2 dL_act_278

set_option maxHeartbeats 4000000 in
set_option maxRecDepth 100000 in
theorem x_X3_percentAt_2 {l : Launch} (hl0 : l.stackTraces = false) {G : mG} {V : mV} {α : Nat → Nat} {f : sT} {nr nw ns : Nat} (hC : mC G V α f nr nw ns) (hwf : mwf f nr nw ns) (si : Nat) (hs : si < ns) (x : Int32) (hbad : ¬ inn x 0 (s_paid f si - 1)) (z4 z5 : Int32) : Met l yL_act wsL_act ({ frames := 8, cells := 1, slots := 6, locals := 126 }) (va_Pc [.ref (α (0)), .int (9), .int (nI (si)), .int (x), .int (z4), .int (z5)] (fun U => mW G V α U U.heap)) (va_Qi (fun (r9 : Int32) (u : mV × (Nat → Nat)) => (-71) = r9 ∧ u = (V, α)) (fun u t => mH G u.1 u.2 t.heap) (mfree G)) 1 6 (mfree G) := by
  refine mofWH (cc := cL_act) (maxL := 7) (ret := (some .int)) (hh := [(0, 273, 274, 73), (0, 273, 279, 13), (0, 273, 284, 15)]) (by decide) rfl ?_
  intro p e s m args below meth c s₁ B hml hv
  obtain ⟨rfl, hw⟩ := hv
  have hx := B.exec
  have hb := B.bytes
  have hr := B.returns
  have hts := atoms_spec (ws := wsL_act) B.pre
  have hown : s.vm.findClass RL = some m.cls := findClass_of_methodNamed B.named
  have hlocks := B.notSynchronized
  have hS : va_S (mfree G) s.heap s.heap [] := va_S.rf
  obtain ⟨k0, -⟩ := id hC
  have htb : c.exceptionTable.toList = tableOf [(0, 273, 274, 73), (0, 273, 279, 13), (0, 273, 284, 15)] := vx_table (x := yL_act) B (hts _ List.mem_cons_self)
  have lk73 := hts (.classLink RL 73 "java/lang/IndexOutOfBoundsException") (by decide +kernel)
  have hl := lv_entry ([.ref (α (0)), .int (9), .int (nI (si)), .int (x), .int (z4), .int (z5)]) (n := 7) (Nat.le_of_ble_eq_true rfl)
  rw [lg_entry_eq]
  generalize (lg_sl ([.ref (α (0)), .int (9), .int (nI (si)), .int (x), .int (z4), .int (z5)]) ++ List.replicate (7 - (lg_sl ([.ref (α (0)), .int (9), .int (nI (si)), .int (x), .int (z4), .int (z5)])).length) Slot.unset).toArray = ls at hl ⊢
  have hl : lv_has ls 7 [(0, .ref (α (0))), (1, .int (9)), (2, .int (nI (si))), (3, .int (x)), (4, .int (z4)), (5, .int (z5))] := hl
  refine lv_iload_n hx hb dL_act_0 rfl (lv_at hl 1 rfl) ?_
  refine lv_if_ne (tgt := 13) hx hb dL_act_1 (by decide) (fun c1 => ?_) (fun z => absurd z ((by decide)))
  refine lv_iload_n hx hb dL_act_13 rfl (lv_at hl 1 rfl) ?_
  refine lv_iconst (v := (1)) hx hb dL_act_14 (by decide) ?_
  refine lv_icmp_ne (tgt := 44) hx hb dL_act_15 (by decide) (fun c2 => ?_) (fun z => absurd z ((by decide)))
  refine lv_iload_n hx hb dL_act_44 rfl (lv_at hl 1 rfl) ?_
  refine lv_iconst (v := (2)) hx hb dL_act_45 (by decide) ?_
  refine lv_icmp_ne (tgt := 75) hx hb dL_act_46 (by decide) (fun c3 => ?_) (fun z => absurd z ((by decide)))
  refine lv_iload_n hx hb dL_act_75 rfl (lv_at hl 1 rfl) ?_
  refine lv_iconst (v := (3)) hx hb dL_act_76 (by decide) ?_
  refine lv_icmp_ne (tgt := 88) hx hb dL_act_77 (by decide) (fun c4 => ?_) (fun z => absurd z ((by decide)))
  refine lv_iload_n hx hb dL_act_88 rfl (lv_at hl 1 rfl) ?_
  refine lv_iconst (v := (4)) hx hb dL_act_89 (by decide) ?_
  refine lv_icmp_ne (tgt := 102) hx hb dL_act_90 (by decide) (fun c5 => ?_) (fun z => absurd z ((by decide)))
  refine lv_iload_n hx hb dL_act_102 rfl (lv_at hl 1 rfl) ?_
  refine lv_iconst (v := (5)) hx hb dL_act_103 (by decide) ?_
  refine lv_icmp_ne (tgt := 120) hx hb dL_act_104 (by decide) (fun c6 => ?_) (fun z => absurd z ((by decide)))
  refine lv_iload_n hx hb dL_act_120 rfl (lv_at hl 1 rfl) ?_
  refine lv_bipush (v := (6)) hx hb dL_act_121 (by decide) ?_
  refine lv_icmp_ne (tgt := 134) hx hb dL_act_123 (by decide) (fun c7 => ?_) (fun z => absurd z ((by decide)))
  refine lv_iload_n hx hb dL_act_134 rfl (lv_at hl 1 rfl) ?_
  refine lv_bipush (v := (7)) hx hb dL_act_135 (by decide) ?_
  refine lv_icmp_ne (tgt := 149) hx hb dL_act_137 (by decide) (fun c8 => ?_) (fun z => absurd z ((by decide)))
  refine lv_iload_n hx hb dL_act_149 rfl (lv_at hl 1 rfl) ?_
  refine lv_bipush (v := (8)) hx hb dL_act_150 (by decide) ?_
  refine lv_icmp_ne (tgt := 163) hx hb dL_act_152 (by decide) (fun c9 => ?_) (fun z => absurd z ((by decide)))
  refine lv_iload_n hx hb dL_act_163 rfl (lv_at hl 1 rfl) ?_
  refine lv_bipush (v := (9)) hx hb dL_act_164 (by decide) ?_
  refine lv_icmp_ne (tgt := 178) hx hb dL_act_166 (by decide) (fun z => absurd ((by decide)) z) (fun c10 => ?_)
  refine lv_aload_n hx hb dL_act_169 rfl (lv_at hl 0 rfl) ?_
  refine lv_iload_n hx hb dL_act_170 rfl (lv_at hl 2 rfl) ?_
  refine lv_iload_n hx hb dL_act_171 rfl (lv_at hl 3 rfl) ?_
  refine mcallTV hw k0 rfl rfl ⟨hx, hb, hml, hown, hts⟩ hS (t_X3_percentAt_2 hl0 hC hwf si hs x hbad) (cwV 2 hts gL_act_X3_percentAt rfl rfl rfl (by decide +kernel) ⟨Nat.le_of_ble_eq_true rfl, Nat.le_of_ble_eq_true rfl⟩) rfl hl.1 rfl (Nat.le_of_ble_eq_true rfl) dL_act_172 ⟨Nat.le_of_ble_eq_true rfl, Nat.le_of_ble_eq_true rfl⟩ (fun q9 ce H locs hw hS hce hcv hcl => ?_)
  refine vx_catch (name := "java/lang/IndexOutOfBoundsException") (E := "java/lang/IndexOutOfBoundsException") hown [] ⟨0, 273, 274, 73⟩ [⟨0, 273, 279, 13⟩, ⟨0, 273, 284, 15⟩] htb (fun z hz => absurd hz List.not_mem_nil) (by decide) (by decide) lk73 (va_Nw.use rfl (hw.1.2.2.1 ("java/lang/IndexOutOfBoundsException", "java/lang/IndexOutOfBoundsException") (by decide))) hce hcv hcl ?_
  refine W.eq (g2 := F0 m 274 ls [.ref (q9)]) rfl ?_
  refine lv_astore (lv' := [(6, .ref (q9)), (0, .ref (α (0))), (1, .int (9)), (2, .int (nI (si))), (3, .int (x)), (4, .int (z4)), (5, .int (z5))]) hx hb dL_act_274 hl (by decide) rfl (fun ls hl => ?_)
  refine lv_bipush (v := (-71)) hx hb dL_act_276 (by decide) ?_
  exact W.iret (v := (-71)) hx hb hr (fun t ht hW => ⟨⟨_, (V, α), rfl, ⟨rfl, rfl⟩, by show mH G V α t.heap; rw [ht]; exact hw.2.2⟩, hS.F ht⟩) hS.2.2 dL_act_278

set_option maxHeartbeats 4000000 in
set_option maxRecDepth 100000 in
theorem x_X3_reasonAt_1 {l : Launch} (hl0 : l.stackTraces = false) {G : mG} {V : mV} {α : Nat → Nat} {f : sT} {nr nw ns : Nat} (hC : mC G V α f nr nw ns) (hwf : mwf f nr nw ns) (y : Int32) (hbad : ¬ inn y 0 (nI ns - 1)) (x : Int32) (z4 z5 : Int32) : Met l yL_act wsL_act ({ frames := 8, cells := 1, slots := 6, locals := 127 }) (va_Pc [.ref (α (0)), .int (10), .int (y), .int (x), .int (z4), .int (z5)] (fun U => mW G V α U U.heap)) (va_Qi (fun (r9 : Int32) (u : mV × (Nat → Nat)) => (-71) = r9 ∧ u = (V, α)) (fun u t => mH G u.1 u.2 t.heap) (mfree G)) 1 6 (mfree G) := by
  refine mofWH (cc := cL_act) (maxL := 7) (ret := (some .int)) (hh := [(0, 273, 274, 73), (0, 273, 279, 13), (0, 273, 284, 15)]) (by decide) rfl ?_
  intro p e s m args below meth c s₁ B hml hv
  obtain ⟨rfl, hw⟩ := hv
  have hx := B.exec
  have hb := B.bytes
  have hr := B.returns
  have hts := atoms_spec (ws := wsL_act) B.pre
  have hown : s.vm.findClass RL = some m.cls := findClass_of_methodNamed B.named
  have hlocks := B.notSynchronized
  have hS : va_S (mfree G) s.heap s.heap [] := va_S.rf
  obtain ⟨k0, -⟩ := id hC
  have htb : c.exceptionTable.toList = tableOf [(0, 273, 274, 73), (0, 273, 279, 13), (0, 273, 284, 15)] := vx_table (x := yL_act) B (hts _ List.mem_cons_self)
  have lk73 := hts (.classLink RL 73 "java/lang/IndexOutOfBoundsException") (by decide +kernel)
  have hl := lv_entry ([.ref (α (0)), .int (10), .int (y), .int (x), .int (z4), .int (z5)]) (n := 7) (Nat.le_of_ble_eq_true rfl)
  rw [lg_entry_eq]
  generalize (lg_sl ([.ref (α (0)), .int (10), .int (y), .int (x), .int (z4), .int (z5)]) ++ List.replicate (7 - (lg_sl ([.ref (α (0)), .int (10), .int (y), .int (x), .int (z4), .int (z5)])).length) Slot.unset).toArray = ls at hl ⊢
  have hl : lv_has ls 7 [(0, .ref (α (0))), (1, .int (10)), (2, .int (y)), (3, .int (x)), (4, .int (z4)), (5, .int (z5))] := hl
  refine lv_iload_n hx hb dL_act_0 rfl (lv_at hl 1 rfl) ?_
  refine lv_if_ne (tgt := 13) hx hb dL_act_1 (by decide) (fun c1 => ?_) (fun z => absurd z ((by decide)))
  refine lv_iload_n hx hb dL_act_13 rfl (lv_at hl 1 rfl) ?_
  refine lv_iconst (v := (1)) hx hb dL_act_14 (by decide) ?_
  refine lv_icmp_ne (tgt := 44) hx hb dL_act_15 (by decide) (fun c2 => ?_) (fun z => absurd z ((by decide)))
  refine lv_iload_n hx hb dL_act_44 rfl (lv_at hl 1 rfl) ?_
  refine lv_iconst (v := (2)) hx hb dL_act_45 (by decide) ?_
  refine lv_icmp_ne (tgt := 75) hx hb dL_act_46 (by decide) (fun c3 => ?_) (fun z => absurd z ((by decide)))
  refine lv_iload_n hx hb dL_act_75 rfl (lv_at hl 1 rfl) ?_
  refine lv_iconst (v := (3)) hx hb dL_act_76 (by decide) ?_
  refine lv_icmp_ne (tgt := 88) hx hb dL_act_77 (by decide) (fun c4 => ?_) (fun z => absurd z ((by decide)))
  refine lv_iload_n hx hb dL_act_88 rfl (lv_at hl 1 rfl) ?_
  refine lv_iconst (v := (4)) hx hb dL_act_89 (by decide) ?_
  refine lv_icmp_ne (tgt := 102) hx hb dL_act_90 (by decide) (fun c5 => ?_) (fun z => absurd z ((by decide)))
  refine lv_iload_n hx hb dL_act_102 rfl (lv_at hl 1 rfl) ?_
  refine lv_iconst (v := (5)) hx hb dL_act_103 (by decide) ?_
  refine lv_icmp_ne (tgt := 120) hx hb dL_act_104 (by decide) (fun c6 => ?_) (fun z => absurd z ((by decide)))
  refine lv_iload_n hx hb dL_act_120 rfl (lv_at hl 1 rfl) ?_
  refine lv_bipush (v := (6)) hx hb dL_act_121 (by decide) ?_
  refine lv_icmp_ne (tgt := 134) hx hb dL_act_123 (by decide) (fun c7 => ?_) (fun z => absurd z ((by decide)))
  refine lv_iload_n hx hb dL_act_134 rfl (lv_at hl 1 rfl) ?_
  refine lv_bipush (v := (7)) hx hb dL_act_135 (by decide) ?_
  refine lv_icmp_ne (tgt := 149) hx hb dL_act_137 (by decide) (fun c8 => ?_) (fun z => absurd z ((by decide)))
  refine lv_iload_n hx hb dL_act_149 rfl (lv_at hl 1 rfl) ?_
  refine lv_bipush (v := (8)) hx hb dL_act_150 (by decide) ?_
  refine lv_icmp_ne (tgt := 163) hx hb dL_act_152 (by decide) (fun c9 => ?_) (fun z => absurd z ((by decide)))
  refine lv_iload_n hx hb dL_act_163 rfl (lv_at hl 1 rfl) ?_
  refine lv_bipush (v := (9)) hx hb dL_act_164 (by decide) ?_
  refine lv_icmp_ne (tgt := 178) hx hb dL_act_166 (by decide) (fun c10 => ?_) (fun z => absurd z ((by decide)))
  refine lv_iload_n hx hb dL_act_178 rfl (lv_at hl 1 rfl) ?_
  refine lv_bipush (v := (10)) hx hb dL_act_179 (by decide) ?_
  refine lv_icmp_ne (tgt := 193) hx hb dL_act_181 (by decide) (fun z => absurd ((by decide)) z) (fun c11 => ?_)
  refine lv_aload_n hx hb dL_act_184 rfl (lv_at hl 0 rfl) ?_
  refine lv_iload_n hx hb dL_act_185 rfl (lv_at hl 2 rfl) ?_
  refine lv_iload_n hx hb dL_act_186 rfl (lv_at hl 3 rfl) ?_
  refine mcallTV hw k0 rfl rfl ⟨hx, hb, hml, hown, hts⟩ hS (t_X3_reasonAt_1 hl0 hC hwf y hbad x) (cwV 2 hts gL_act_X3_reasonAt rfl rfl rfl (by decide +kernel) ⟨Nat.le_of_ble_eq_true rfl, Nat.le_of_ble_eq_true rfl⟩) rfl hl.1 rfl (Nat.le_of_ble_eq_true rfl) dL_act_187 ⟨Nat.le_of_ble_eq_true rfl, Nat.le_of_ble_eq_true rfl⟩ (fun q9 ce H locs hw hS hce hcv hcl => ?_)
  refine vx_catch (name := "java/lang/IndexOutOfBoundsException") (E := "java/lang/IndexOutOfBoundsException") hown [] ⟨0, 273, 274, 73⟩ [⟨0, 273, 279, 13⟩, ⟨0, 273, 284, 15⟩] htb (fun z hz => absurd hz List.not_mem_nil) (by decide) (by decide) lk73 (va_Nw.use rfl (hw.1.2.2.1 ("java/lang/IndexOutOfBoundsException", "java/lang/IndexOutOfBoundsException") (by decide))) hce hcv hcl ?_
  refine W.eq (g2 := F0 m 274 ls [.ref (q9)]) rfl ?_
  refine lv_astore (lv' := [(6, .ref (q9)), (0, .ref (α (0))), (1, .int (10)), (2, .int (y)), (3, .int (x)), (4, .int (z4)), (5, .int (z5))]) hx hb dL_act_274 hl (by decide) rfl (fun ls hl => ?_)
  refine lv_bipush (v := (-71)) hx hb dL_act_276 (by decide) ?_
  exact W.iret (v := (-71)) hx hb hr (fun t ht hW => ⟨⟨_, (V, α), rfl, ⟨rfl, rfl⟩, by show mH G V α t.heap; rw [ht]; exact hw.2.2⟩, hS.F ht⟩) hS.2.2 dL_act_278

set_option maxHeartbeats 4000000 in
set_option maxRecDepth 100000 in
theorem x_X3_reasonAt_2 {l : Launch} (hl0 : l.stackTraces = false) {G : mG} {V : mV} {α : Nat → Nat} {f : sT} {nr nw ns : Nat} (hC : mC G V α f nr nw ns) (hwf : mwf f nr nw ns) (si : Nat) (hs : si < ns) (x : Int32) (hbad : ¬ inn x 0 (s_paid f si - 1)) (z4 z5 : Int32) : Met l yL_act wsL_act ({ frames := 8, cells := 1, slots := 6, locals := 127 }) (va_Pc [.ref (α (0)), .int (10), .int (nI (si)), .int (x), .int (z4), .int (z5)] (fun U => mW G V α U U.heap)) (va_Qi (fun (r9 : Int32) (u : mV × (Nat → Nat)) => (-71) = r9 ∧ u = (V, α)) (fun u t => mH G u.1 u.2 t.heap) (mfree G)) 1 6 (mfree G) := by
  refine mofWH (cc := cL_act) (maxL := 7) (ret := (some .int)) (hh := [(0, 273, 274, 73), (0, 273, 279, 13), (0, 273, 284, 15)]) (by decide) rfl ?_
  intro p e s m args below meth c s₁ B hml hv
  obtain ⟨rfl, hw⟩ := hv
  have hx := B.exec
  have hb := B.bytes
  have hr := B.returns
  have hts := atoms_spec (ws := wsL_act) B.pre
  have hown : s.vm.findClass RL = some m.cls := findClass_of_methodNamed B.named
  have hlocks := B.notSynchronized
  have hS : va_S (mfree G) s.heap s.heap [] := va_S.rf
  obtain ⟨k0, -⟩ := id hC
  have htb : c.exceptionTable.toList = tableOf [(0, 273, 274, 73), (0, 273, 279, 13), (0, 273, 284, 15)] := vx_table (x := yL_act) B (hts _ List.mem_cons_self)
  have lk73 := hts (.classLink RL 73 "java/lang/IndexOutOfBoundsException") (by decide +kernel)
  have hl := lv_entry ([.ref (α (0)), .int (10), .int (nI (si)), .int (x), .int (z4), .int (z5)]) (n := 7) (Nat.le_of_ble_eq_true rfl)
  rw [lg_entry_eq]
  generalize (lg_sl ([.ref (α (0)), .int (10), .int (nI (si)), .int (x), .int (z4), .int (z5)]) ++ List.replicate (7 - (lg_sl ([.ref (α (0)), .int (10), .int (nI (si)), .int (x), .int (z4), .int (z5)])).length) Slot.unset).toArray = ls at hl ⊢
  have hl : lv_has ls 7 [(0, .ref (α (0))), (1, .int (10)), (2, .int (nI (si))), (3, .int (x)), (4, .int (z4)), (5, .int (z5))] := hl
  refine lv_iload_n hx hb dL_act_0 rfl (lv_at hl 1 rfl) ?_
  refine lv_if_ne (tgt := 13) hx hb dL_act_1 (by decide) (fun c1 => ?_) (fun z => absurd z ((by decide)))
  refine lv_iload_n hx hb dL_act_13 rfl (lv_at hl 1 rfl) ?_
  refine lv_iconst (v := (1)) hx hb dL_act_14 (by decide) ?_
  refine lv_icmp_ne (tgt := 44) hx hb dL_act_15 (by decide) (fun c2 => ?_) (fun z => absurd z ((by decide)))
  refine lv_iload_n hx hb dL_act_44 rfl (lv_at hl 1 rfl) ?_
  refine lv_iconst (v := (2)) hx hb dL_act_45 (by decide) ?_
  refine lv_icmp_ne (tgt := 75) hx hb dL_act_46 (by decide) (fun c3 => ?_) (fun z => absurd z ((by decide)))
  refine lv_iload_n hx hb dL_act_75 rfl (lv_at hl 1 rfl) ?_
  refine lv_iconst (v := (3)) hx hb dL_act_76 (by decide) ?_
  refine lv_icmp_ne (tgt := 88) hx hb dL_act_77 (by decide) (fun c4 => ?_) (fun z => absurd z ((by decide)))
  refine lv_iload_n hx hb dL_act_88 rfl (lv_at hl 1 rfl) ?_
  refine lv_iconst (v := (4)) hx hb dL_act_89 (by decide) ?_
  refine lv_icmp_ne (tgt := 102) hx hb dL_act_90 (by decide) (fun c5 => ?_) (fun z => absurd z ((by decide)))
  refine lv_iload_n hx hb dL_act_102 rfl (lv_at hl 1 rfl) ?_
  refine lv_iconst (v := (5)) hx hb dL_act_103 (by decide) ?_
  refine lv_icmp_ne (tgt := 120) hx hb dL_act_104 (by decide) (fun c6 => ?_) (fun z => absurd z ((by decide)))
  refine lv_iload_n hx hb dL_act_120 rfl (lv_at hl 1 rfl) ?_
  refine lv_bipush (v := (6)) hx hb dL_act_121 (by decide) ?_
  refine lv_icmp_ne (tgt := 134) hx hb dL_act_123 (by decide) (fun c7 => ?_) (fun z => absurd z ((by decide)))
  refine lv_iload_n hx hb dL_act_134 rfl (lv_at hl 1 rfl) ?_
  refine lv_bipush (v := (7)) hx hb dL_act_135 (by decide) ?_
  refine lv_icmp_ne (tgt := 149) hx hb dL_act_137 (by decide) (fun c8 => ?_) (fun z => absurd z ((by decide)))
  refine lv_iload_n hx hb dL_act_149 rfl (lv_at hl 1 rfl) ?_
  refine lv_bipush (v := (8)) hx hb dL_act_150 (by decide) ?_
  refine lv_icmp_ne (tgt := 163) hx hb dL_act_152 (by decide) (fun c9 => ?_) (fun z => absurd z ((by decide)))
  refine lv_iload_n hx hb dL_act_163 rfl (lv_at hl 1 rfl) ?_
  refine lv_bipush (v := (9)) hx hb dL_act_164 (by decide) ?_
  refine lv_icmp_ne (tgt := 178) hx hb dL_act_166 (by decide) (fun c10 => ?_) (fun z => absurd z ((by decide)))
  refine lv_iload_n hx hb dL_act_178 rfl (lv_at hl 1 rfl) ?_
  refine lv_bipush (v := (10)) hx hb dL_act_179 (by decide) ?_
  refine lv_icmp_ne (tgt := 193) hx hb dL_act_181 (by decide) (fun z => absurd ((by decide)) z) (fun c11 => ?_)
  refine lv_aload_n hx hb dL_act_184 rfl (lv_at hl 0 rfl) ?_
  refine lv_iload_n hx hb dL_act_185 rfl (lv_at hl 2 rfl) ?_
  refine lv_iload_n hx hb dL_act_186 rfl (lv_at hl 3 rfl) ?_
  refine mcallTV hw k0 rfl rfl ⟨hx, hb, hml, hown, hts⟩ hS (t_X3_reasonAt_2 hl0 hC hwf si hs x hbad) (cwV 2 hts gL_act_X3_reasonAt rfl rfl rfl (by decide +kernel) ⟨Nat.le_of_ble_eq_true rfl, Nat.le_of_ble_eq_true rfl⟩) rfl hl.1 rfl (Nat.le_of_ble_eq_true rfl) dL_act_187 ⟨Nat.le_of_ble_eq_true rfl, Nat.le_of_ble_eq_true rfl⟩ (fun q9 ce H locs hw hS hce hcv hcl => ?_)
  refine vx_catch (name := "java/lang/IndexOutOfBoundsException") (E := "java/lang/IndexOutOfBoundsException") hown [] ⟨0, 273, 274, 73⟩ [⟨0, 273, 279, 13⟩, ⟨0, 273, 284, 15⟩] htb (fun z hz => absurd hz List.not_mem_nil) (by decide) (by decide) lk73 (va_Nw.use rfl (hw.1.2.2.1 ("java/lang/IndexOutOfBoundsException", "java/lang/IndexOutOfBoundsException") (by decide))) hce hcv hcl ?_
  refine W.eq (g2 := F0 m 274 ls [.ref (q9)]) rfl ?_
  refine lv_astore (lv' := [(6, .ref (q9)), (0, .ref (α (0))), (1, .int (10)), (2, .int (nI (si))), (3, .int (x)), (4, .int (z4)), (5, .int (z5))]) hx hb dL_act_274 hl (by decide) rfl (fun ls hl => ?_)
  refine lv_bipush (v := (-71)) hx hb dL_act_276 (by decide) ?_
  exact W.iret (v := (-71)) hx hb hr (fun t ht hW => ⟨⟨_, (V, α), rfl, ⟨rfl, rfl⟩, by show mH G V α t.heap; rw [ht]; exact hw.2.2⟩, hS.F ht⟩) hS.2.2 dL_act_278

set_option maxHeartbeats 4000000 in
set_option maxRecDepth 100000 in
theorem x_X3_missed_1 {l : Launch} (hl0 : l.stackTraces = false) {G : mG} {V : mV} {α : Nat → Nat} {f : sT} {nr nw ns : Nat} (hC : mC G V α f nr nw ns) (hwf : mwf f nr nw ns) (y : Int32) (hbad : ¬ inn y 0 (nI ns - 1)) (z3 z4 z5 : Int32) : Met l yL_act wsL_act ({ frames := 8, cells := 1, slots := 6, locals := 124 }) (va_Pc [.ref (α (0)), .int (11), .int (y), .int (z3), .int (z4), .int (z5)] (fun U => mW G V α U U.heap)) (va_Qi (fun (r9 : Int32) (u : mV × (Nat → Nat)) => (-71) = r9 ∧ u = (V, α)) (fun u t => mH G u.1 u.2 t.heap) (mfree G)) 1 6 (mfree G) := by
  refine mofWH (cc := cL_act) (maxL := 7) (ret := (some .int)) (hh := [(0, 273, 274, 73), (0, 273, 279, 13), (0, 273, 284, 15)]) (by decide) rfl ?_
  intro p e s m args below meth c s₁ B hml hv
  obtain ⟨rfl, hw⟩ := hv
  have hx := B.exec
  have hb := B.bytes
  have hr := B.returns
  have hts := atoms_spec (ws := wsL_act) B.pre
  have hown : s.vm.findClass RL = some m.cls := findClass_of_methodNamed B.named
  have hlocks := B.notSynchronized
  have hS : va_S (mfree G) s.heap s.heap [] := va_S.rf
  obtain ⟨k0, -⟩ := id hC
  have htb : c.exceptionTable.toList = tableOf [(0, 273, 274, 73), (0, 273, 279, 13), (0, 273, 284, 15)] := vx_table (x := yL_act) B (hts _ List.mem_cons_self)
  have lk73 := hts (.classLink RL 73 "java/lang/IndexOutOfBoundsException") (by decide +kernel)
  have hl := lv_entry ([.ref (α (0)), .int (11), .int (y), .int (z3), .int (z4), .int (z5)]) (n := 7) (Nat.le_of_ble_eq_true rfl)
  rw [lg_entry_eq]
  generalize (lg_sl ([.ref (α (0)), .int (11), .int (y), .int (z3), .int (z4), .int (z5)]) ++ List.replicate (7 - (lg_sl ([.ref (α (0)), .int (11), .int (y), .int (z3), .int (z4), .int (z5)])).length) Slot.unset).toArray = ls at hl ⊢
  have hl : lv_has ls 7 [(0, .ref (α (0))), (1, .int (11)), (2, .int (y)), (3, .int (z3)), (4, .int (z4)), (5, .int (z5))] := hl
  refine lv_iload_n hx hb dL_act_0 rfl (lv_at hl 1 rfl) ?_
  refine lv_if_ne (tgt := 13) hx hb dL_act_1 (by decide) (fun c1 => ?_) (fun z => absurd z ((by decide)))
  refine lv_iload_n hx hb dL_act_13 rfl (lv_at hl 1 rfl) ?_
  refine lv_iconst (v := (1)) hx hb dL_act_14 (by decide) ?_
  refine lv_icmp_ne (tgt := 44) hx hb dL_act_15 (by decide) (fun c2 => ?_) (fun z => absurd z ((by decide)))
  refine lv_iload_n hx hb dL_act_44 rfl (lv_at hl 1 rfl) ?_
  refine lv_iconst (v := (2)) hx hb dL_act_45 (by decide) ?_
  refine lv_icmp_ne (tgt := 75) hx hb dL_act_46 (by decide) (fun c3 => ?_) (fun z => absurd z ((by decide)))
  refine lv_iload_n hx hb dL_act_75 rfl (lv_at hl 1 rfl) ?_
  refine lv_iconst (v := (3)) hx hb dL_act_76 (by decide) ?_
  refine lv_icmp_ne (tgt := 88) hx hb dL_act_77 (by decide) (fun c4 => ?_) (fun z => absurd z ((by decide)))
  refine lv_iload_n hx hb dL_act_88 rfl (lv_at hl 1 rfl) ?_
  refine lv_iconst (v := (4)) hx hb dL_act_89 (by decide) ?_
  refine lv_icmp_ne (tgt := 102) hx hb dL_act_90 (by decide) (fun c5 => ?_) (fun z => absurd z ((by decide)))
  refine lv_iload_n hx hb dL_act_102 rfl (lv_at hl 1 rfl) ?_
  refine lv_iconst (v := (5)) hx hb dL_act_103 (by decide) ?_
  refine lv_icmp_ne (tgt := 120) hx hb dL_act_104 (by decide) (fun c6 => ?_) (fun z => absurd z ((by decide)))
  refine lv_iload_n hx hb dL_act_120 rfl (lv_at hl 1 rfl) ?_
  refine lv_bipush (v := (6)) hx hb dL_act_121 (by decide) ?_
  refine lv_icmp_ne (tgt := 134) hx hb dL_act_123 (by decide) (fun c7 => ?_) (fun z => absurd z ((by decide)))
  refine lv_iload_n hx hb dL_act_134 rfl (lv_at hl 1 rfl) ?_
  refine lv_bipush (v := (7)) hx hb dL_act_135 (by decide) ?_
  refine lv_icmp_ne (tgt := 149) hx hb dL_act_137 (by decide) (fun c8 => ?_) (fun z => absurd z ((by decide)))
  refine lv_iload_n hx hb dL_act_149 rfl (lv_at hl 1 rfl) ?_
  refine lv_bipush (v := (8)) hx hb dL_act_150 (by decide) ?_
  refine lv_icmp_ne (tgt := 163) hx hb dL_act_152 (by decide) (fun c9 => ?_) (fun z => absurd z ((by decide)))
  refine lv_iload_n hx hb dL_act_163 rfl (lv_at hl 1 rfl) ?_
  refine lv_bipush (v := (9)) hx hb dL_act_164 (by decide) ?_
  refine lv_icmp_ne (tgt := 178) hx hb dL_act_166 (by decide) (fun c10 => ?_) (fun z => absurd z ((by decide)))
  refine lv_iload_n hx hb dL_act_178 rfl (lv_at hl 1 rfl) ?_
  refine lv_bipush (v := (10)) hx hb dL_act_179 (by decide) ?_
  refine lv_icmp_ne (tgt := 193) hx hb dL_act_181 (by decide) (fun c11 => ?_) (fun z => absurd z ((by decide)))
  refine lv_iload_n hx hb dL_act_193 rfl (lv_at hl 1 rfl) ?_
  refine lv_bipush (v := (11)) hx hb dL_act_194 (by decide) ?_
  refine lv_icmp_ne (tgt := 207) hx hb dL_act_196 (by decide) (fun z => absurd ((by decide)) z) (fun c12 => ?_)
  refine lv_aload_n hx hb dL_act_199 rfl (lv_at hl 0 rfl) ?_
  refine lv_iload_n hx hb dL_act_200 rfl (lv_at hl 2 rfl) ?_
  refine mcallTV hw k0 rfl rfl ⟨hx, hb, hml, hown, hts⟩ hS (t_X3_missed_1 hl0 hC hwf y hbad) (cwV 1 hts gL_act_X3_missed rfl rfl rfl (by decide +kernel) ⟨Nat.le_of_ble_eq_true rfl, Nat.le_of_ble_eq_true rfl⟩) rfl hl.1 rfl (Nat.le_of_ble_eq_true rfl) dL_act_201 ⟨Nat.le_of_ble_eq_true rfl, Nat.le_of_ble_eq_true rfl⟩ (fun q9 ce H locs hw hS hce hcv hcl => ?_)
  refine vx_catch (name := "java/lang/IndexOutOfBoundsException") (E := "java/lang/IndexOutOfBoundsException") hown [] ⟨0, 273, 274, 73⟩ [⟨0, 273, 279, 13⟩, ⟨0, 273, 284, 15⟩] htb (fun z hz => absurd hz List.not_mem_nil) (by decide) (by decide) lk73 (va_Nw.use rfl (hw.1.2.2.1 ("java/lang/IndexOutOfBoundsException", "java/lang/IndexOutOfBoundsException") (by decide))) hce hcv hcl ?_
  refine W.eq (g2 := F0 m 274 ls [.ref (q9)]) rfl ?_
  refine lv_astore (lv' := [(6, .ref (q9)), (0, .ref (α (0))), (1, .int (11)), (2, .int (y)), (3, .int (z3)), (4, .int (z4)), (5, .int (z5))]) hx hb dL_act_274 hl (by decide) rfl (fun ls hl => ?_)
  refine lv_bipush (v := (-71)) hx hb dL_act_276 (by decide) ?_
  exact W.iret (v := (-71)) hx hb hr (fun t ht hW => ⟨⟨_, (V, α), rfl, ⟨rfl, rfl⟩, by show mH G V α t.heap; rw [ht]; exact hw.2.2⟩, hS.F ht⟩) hS.2.2 dL_act_278

set_option maxHeartbeats 4000000 in
set_option maxRecDepth 100000 in
theorem x_X3_pay_1 {l : Launch} (hl0 : l.stackTraces = false) {G : mG} {V : mV} {α : Nat → Nat} {f : sT} {nr nw ns : Nat} (hC : mC G V α f nr nw ns) (hwf : mwf f nr nw ns) (y : Int32) (hbad : ¬ inn y 0 (nI ns - 1)) (z3 z4 z5 : Int32) : Met l yL_act wsL_act ({ frames := 8, cells := 1, slots := 6, locals := 124 }) (va_Pc [.ref (α (0)), .int (12), .int (y), .int (z3), .int (z4), .int (z5)] (fun U => mW G V α U U.heap)) (va_Qi (fun (r9 : Int32) (u : mV × (Nat → Nat)) => (-71) = r9 ∧ u = (V, α)) (fun u t => mH G u.1 u.2 t.heap) (mfree G)) 1 6 (mfree G) := by
  refine mofWH (cc := cL_act) (maxL := 7) (ret := (some .int)) (hh := [(0, 273, 274, 73), (0, 273, 279, 13), (0, 273, 284, 15)]) (by decide) rfl ?_
  intro p e s m args below meth c s₁ B hml hv
  obtain ⟨rfl, hw⟩ := hv
  have hx := B.exec
  have hb := B.bytes
  have hr := B.returns
  have hts := atoms_spec (ws := wsL_act) B.pre
  have hown : s.vm.findClass RL = some m.cls := findClass_of_methodNamed B.named
  have hlocks := B.notSynchronized
  have hS : va_S (mfree G) s.heap s.heap [] := va_S.rf
  obtain ⟨k0, -⟩ := id hC
  have htb : c.exceptionTable.toList = tableOf [(0, 273, 274, 73), (0, 273, 279, 13), (0, 273, 284, 15)] := vx_table (x := yL_act) B (hts _ List.mem_cons_self)
  have lk73 := hts (.classLink RL 73 "java/lang/IndexOutOfBoundsException") (by decide +kernel)
  have hl := lv_entry ([.ref (α (0)), .int (12), .int (y), .int (z3), .int (z4), .int (z5)]) (n := 7) (Nat.le_of_ble_eq_true rfl)
  rw [lg_entry_eq]
  generalize (lg_sl ([.ref (α (0)), .int (12), .int (y), .int (z3), .int (z4), .int (z5)]) ++ List.replicate (7 - (lg_sl ([.ref (α (0)), .int (12), .int (y), .int (z3), .int (z4), .int (z5)])).length) Slot.unset).toArray = ls at hl ⊢
  have hl : lv_has ls 7 [(0, .ref (α (0))), (1, .int (12)), (2, .int (y)), (3, .int (z3)), (4, .int (z4)), (5, .int (z5))] := hl
  refine lv_iload_n hx hb dL_act_0 rfl (lv_at hl 1 rfl) ?_
  refine lv_if_ne (tgt := 13) hx hb dL_act_1 (by decide) (fun c1 => ?_) (fun z => absurd z ((by decide)))
  refine lv_iload_n hx hb dL_act_13 rfl (lv_at hl 1 rfl) ?_
  refine lv_iconst (v := (1)) hx hb dL_act_14 (by decide) ?_
  refine lv_icmp_ne (tgt := 44) hx hb dL_act_15 (by decide) (fun c2 => ?_) (fun z => absurd z ((by decide)))
  refine lv_iload_n hx hb dL_act_44 rfl (lv_at hl 1 rfl) ?_
  refine lv_iconst (v := (2)) hx hb dL_act_45 (by decide) ?_
  refine lv_icmp_ne (tgt := 75) hx hb dL_act_46 (by decide) (fun c3 => ?_) (fun z => absurd z ((by decide)))
  refine lv_iload_n hx hb dL_act_75 rfl (lv_at hl 1 rfl) ?_
  refine lv_iconst (v := (3)) hx hb dL_act_76 (by decide) ?_
  refine lv_icmp_ne (tgt := 88) hx hb dL_act_77 (by decide) (fun c4 => ?_) (fun z => absurd z ((by decide)))
  refine lv_iload_n hx hb dL_act_88 rfl (lv_at hl 1 rfl) ?_
  refine lv_iconst (v := (4)) hx hb dL_act_89 (by decide) ?_
  refine lv_icmp_ne (tgt := 102) hx hb dL_act_90 (by decide) (fun c5 => ?_) (fun z => absurd z ((by decide)))
  refine lv_iload_n hx hb dL_act_102 rfl (lv_at hl 1 rfl) ?_
  refine lv_iconst (v := (5)) hx hb dL_act_103 (by decide) ?_
  refine lv_icmp_ne (tgt := 120) hx hb dL_act_104 (by decide) (fun c6 => ?_) (fun z => absurd z ((by decide)))
  refine lv_iload_n hx hb dL_act_120 rfl (lv_at hl 1 rfl) ?_
  refine lv_bipush (v := (6)) hx hb dL_act_121 (by decide) ?_
  refine lv_icmp_ne (tgt := 134) hx hb dL_act_123 (by decide) (fun c7 => ?_) (fun z => absurd z ((by decide)))
  refine lv_iload_n hx hb dL_act_134 rfl (lv_at hl 1 rfl) ?_
  refine lv_bipush (v := (7)) hx hb dL_act_135 (by decide) ?_
  refine lv_icmp_ne (tgt := 149) hx hb dL_act_137 (by decide) (fun c8 => ?_) (fun z => absurd z ((by decide)))
  refine lv_iload_n hx hb dL_act_149 rfl (lv_at hl 1 rfl) ?_
  refine lv_bipush (v := (8)) hx hb dL_act_150 (by decide) ?_
  refine lv_icmp_ne (tgt := 163) hx hb dL_act_152 (by decide) (fun c9 => ?_) (fun z => absurd z ((by decide)))
  refine lv_iload_n hx hb dL_act_163 rfl (lv_at hl 1 rfl) ?_
  refine lv_bipush (v := (9)) hx hb dL_act_164 (by decide) ?_
  refine lv_icmp_ne (tgt := 178) hx hb dL_act_166 (by decide) (fun c10 => ?_) (fun z => absurd z ((by decide)))
  refine lv_iload_n hx hb dL_act_178 rfl (lv_at hl 1 rfl) ?_
  refine lv_bipush (v := (10)) hx hb dL_act_179 (by decide) ?_
  refine lv_icmp_ne (tgt := 193) hx hb dL_act_181 (by decide) (fun c11 => ?_) (fun z => absurd z ((by decide)))
  refine lv_iload_n hx hb dL_act_193 rfl (lv_at hl 1 rfl) ?_
  refine lv_bipush (v := (11)) hx hb dL_act_194 (by decide) ?_
  refine lv_icmp_ne (tgt := 207) hx hb dL_act_196 (by decide) (fun c12 => ?_) (fun z => absurd z ((by decide)))
  refine lv_iload_n hx hb dL_act_207 rfl (lv_at hl 1 rfl) ?_
  refine lv_bipush (v := (12)) hx hb dL_act_208 (by decide) ?_
  refine lv_icmp_ne (tgt := 221) hx hb dL_act_210 (by decide) (fun z => absurd ((by decide)) z) (fun c13 => ?_)
  refine lv_aload_n hx hb dL_act_213 rfl (lv_at hl 0 rfl) ?_
  refine lv_iload_n hx hb dL_act_214 rfl (lv_at hl 2 rfl) ?_
  refine mcallTV hw k0 rfl rfl ⟨hx, hb, hml, hown, hts⟩ hS (t_X3_pay_1 hl0 hC hwf y hbad) (cwV 1 hts gL_act_X3_pay rfl rfl rfl (by decide +kernel) ⟨Nat.le_of_ble_eq_true rfl, Nat.le_of_ble_eq_true rfl⟩) rfl hl.1 rfl (Nat.le_of_ble_eq_true rfl) dL_act_215 ⟨Nat.le_of_ble_eq_true rfl, Nat.le_of_ble_eq_true rfl⟩ (fun q9 ce H locs hw hS hce hcv hcl => ?_)
  refine vx_catch (name := "java/lang/IndexOutOfBoundsException") (E := "java/lang/IndexOutOfBoundsException") hown [] ⟨0, 273, 274, 73⟩ [⟨0, 273, 279, 13⟩, ⟨0, 273, 284, 15⟩] htb (fun z hz => absurd hz List.not_mem_nil) (by decide) (by decide) lk73 (va_Nw.use rfl (hw.1.2.2.1 ("java/lang/IndexOutOfBoundsException", "java/lang/IndexOutOfBoundsException") (by decide))) hce hcv hcl ?_
  refine W.eq (g2 := F0 m 274 ls [.ref (q9)]) rfl ?_
  refine lv_astore (lv' := [(6, .ref (q9)), (0, .ref (α (0))), (1, .int (12)), (2, .int (y)), (3, .int (z3)), (4, .int (z4)), (5, .int (z5))]) hx hb dL_act_274 hl (by decide) rfl (fun ls hl => ?_)
  refine lv_bipush (v := (-71)) hx hb dL_act_276 (by decide) ?_
  exact W.iret (v := (-71)) hx hb hr (fun t ht hW => ⟨⟨_, (V, α), rfl, ⟨rfl, rfl⟩, by show mH G V α t.heap; rw [ht]; exact hw.2.2⟩, hS.F ht⟩) hS.2.2 dL_act_278

set_option maxHeartbeats 4000000 in
set_option maxRecDepth 100000 in
theorem x_X3_payOf_1 {l : Launch} (hl0 : l.stackTraces = false) {G : mG} {V : mV} {α : Nat → Nat} {f : sT} {nr nw ns : Nat} (hC : mC G V α f nr nw ns) (hwf : mwf f nr nw ns) (y lo hi : Int32) (hbad : ¬ inn y 0 (nI nw - 1)) (z5 : Int32) : Met l yL_act wsL_act ({ frames := 8, cells := 1, slots := 6, locals := 131 }) (va_Pc [.ref (α (0)), .int (13), .int (y), .int (lo), .int (hi), .int (z5)] (fun U => mW G V α U U.heap)) (va_Qi (fun (r9 : Int32) (u : mV × (Nat → Nat)) => (-71) = r9 ∧ u = (V, α)) (fun u t => mH G u.1 u.2 t.heap) (mfree G)) 1 6 (mfree G) := by
  refine mofWH (cc := cL_act) (maxL := 7) (ret := (some .int)) (hh := [(0, 273, 274, 73), (0, 273, 279, 13), (0, 273, 284, 15)]) (by decide) rfl ?_
  intro p e s m args below meth c s₁ B hml hv
  obtain ⟨rfl, hw⟩ := hv
  have hx := B.exec
  have hb := B.bytes
  have hr := B.returns
  have hts := atoms_spec (ws := wsL_act) B.pre
  have hown : s.vm.findClass RL = some m.cls := findClass_of_methodNamed B.named
  have hlocks := B.notSynchronized
  have hS : va_S (mfree G) s.heap s.heap [] := va_S.rf
  obtain ⟨k0, -⟩ := id hC
  have htb : c.exceptionTable.toList = tableOf [(0, 273, 274, 73), (0, 273, 279, 13), (0, 273, 284, 15)] := vx_table (x := yL_act) B (hts _ List.mem_cons_self)
  have lk73 := hts (.classLink RL 73 "java/lang/IndexOutOfBoundsException") (by decide +kernel)
  have hl := lv_entry ([.ref (α (0)), .int (13), .int (y), .int (lo), .int (hi), .int (z5)]) (n := 7) (Nat.le_of_ble_eq_true rfl)
  rw [lg_entry_eq]
  generalize (lg_sl ([.ref (α (0)), .int (13), .int (y), .int (lo), .int (hi), .int (z5)]) ++ List.replicate (7 - (lg_sl ([.ref (α (0)), .int (13), .int (y), .int (lo), .int (hi), .int (z5)])).length) Slot.unset).toArray = ls at hl ⊢
  have hl : lv_has ls 7 [(0, .ref (α (0))), (1, .int (13)), (2, .int (y)), (3, .int (lo)), (4, .int (hi)), (5, .int (z5))] := hl
  refine lv_iload_n hx hb dL_act_0 rfl (lv_at hl 1 rfl) ?_
  refine lv_if_ne (tgt := 13) hx hb dL_act_1 (by decide) (fun c1 => ?_) (fun z => absurd z ((by decide)))
  refine lv_iload_n hx hb dL_act_13 rfl (lv_at hl 1 rfl) ?_
  refine lv_iconst (v := (1)) hx hb dL_act_14 (by decide) ?_
  refine lv_icmp_ne (tgt := 44) hx hb dL_act_15 (by decide) (fun c2 => ?_) (fun z => absurd z ((by decide)))
  refine lv_iload_n hx hb dL_act_44 rfl (lv_at hl 1 rfl) ?_
  refine lv_iconst (v := (2)) hx hb dL_act_45 (by decide) ?_
  refine lv_icmp_ne (tgt := 75) hx hb dL_act_46 (by decide) (fun c3 => ?_) (fun z => absurd z ((by decide)))
  refine lv_iload_n hx hb dL_act_75 rfl (lv_at hl 1 rfl) ?_
  refine lv_iconst (v := (3)) hx hb dL_act_76 (by decide) ?_
  refine lv_icmp_ne (tgt := 88) hx hb dL_act_77 (by decide) (fun c4 => ?_) (fun z => absurd z ((by decide)))
  refine lv_iload_n hx hb dL_act_88 rfl (lv_at hl 1 rfl) ?_
  refine lv_iconst (v := (4)) hx hb dL_act_89 (by decide) ?_
  refine lv_icmp_ne (tgt := 102) hx hb dL_act_90 (by decide) (fun c5 => ?_) (fun z => absurd z ((by decide)))
  refine lv_iload_n hx hb dL_act_102 rfl (lv_at hl 1 rfl) ?_
  refine lv_iconst (v := (5)) hx hb dL_act_103 (by decide) ?_
  refine lv_icmp_ne (tgt := 120) hx hb dL_act_104 (by decide) (fun c6 => ?_) (fun z => absurd z ((by decide)))
  refine lv_iload_n hx hb dL_act_120 rfl (lv_at hl 1 rfl) ?_
  refine lv_bipush (v := (6)) hx hb dL_act_121 (by decide) ?_
  refine lv_icmp_ne (tgt := 134) hx hb dL_act_123 (by decide) (fun c7 => ?_) (fun z => absurd z ((by decide)))
  refine lv_iload_n hx hb dL_act_134 rfl (lv_at hl 1 rfl) ?_
  refine lv_bipush (v := (7)) hx hb dL_act_135 (by decide) ?_
  refine lv_icmp_ne (tgt := 149) hx hb dL_act_137 (by decide) (fun c8 => ?_) (fun z => absurd z ((by decide)))
  refine lv_iload_n hx hb dL_act_149 rfl (lv_at hl 1 rfl) ?_
  refine lv_bipush (v := (8)) hx hb dL_act_150 (by decide) ?_
  refine lv_icmp_ne (tgt := 163) hx hb dL_act_152 (by decide) (fun c9 => ?_) (fun z => absurd z ((by decide)))
  refine lv_iload_n hx hb dL_act_163 rfl (lv_at hl 1 rfl) ?_
  refine lv_bipush (v := (9)) hx hb dL_act_164 (by decide) ?_
  refine lv_icmp_ne (tgt := 178) hx hb dL_act_166 (by decide) (fun c10 => ?_) (fun z => absurd z ((by decide)))
  refine lv_iload_n hx hb dL_act_178 rfl (lv_at hl 1 rfl) ?_
  refine lv_bipush (v := (10)) hx hb dL_act_179 (by decide) ?_
  refine lv_icmp_ne (tgt := 193) hx hb dL_act_181 (by decide) (fun c11 => ?_) (fun z => absurd z ((by decide)))
  refine lv_iload_n hx hb dL_act_193 rfl (lv_at hl 1 rfl) ?_
  refine lv_bipush (v := (11)) hx hb dL_act_194 (by decide) ?_
  refine lv_icmp_ne (tgt := 207) hx hb dL_act_196 (by decide) (fun c12 => ?_) (fun z => absurd z ((by decide)))
  refine lv_iload_n hx hb dL_act_207 rfl (lv_at hl 1 rfl) ?_
  refine lv_bipush (v := (12)) hx hb dL_act_208 (by decide) ?_
  refine lv_icmp_ne (tgt := 221) hx hb dL_act_210 (by decide) (fun c13 => ?_) (fun z => absurd z ((by decide)))
  refine lv_iload_n hx hb dL_act_221 rfl (lv_at hl 1 rfl) ?_
  refine lv_bipush (v := (13)) hx hb dL_act_222 (by decide) ?_
  refine lv_icmp_ne (tgt := 238) hx hb dL_act_224 (by decide) (fun z => absurd ((by decide)) z) (fun c14 => ?_)
  refine lv_aload_n hx hb dL_act_227 rfl (lv_at hl 0 rfl) ?_
  refine lv_iload_n hx hb dL_act_228 rfl (lv_at hl 2 rfl) ?_
  refine lv_iload_n hx hb dL_act_229 rfl (lv_at hl 3 rfl) ?_
  refine lv_iload hx hb dL_act_230 (lv_at hl 4 rfl) ?_
  refine mcallTV hw k0 rfl rfl ⟨hx, hb, hml, hown, hts⟩ hS (t_X3_payOf_1 hl0 hC hwf y lo hi hbad) (cwV 3 hts gL_act_X3_payOf rfl rfl rfl (by decide +kernel) ⟨Nat.le_of_ble_eq_true rfl, Nat.le_of_ble_eq_true rfl⟩) rfl hl.1 rfl (Nat.le_of_ble_eq_true rfl) dL_act_232 ⟨Nat.le_of_ble_eq_true rfl, Nat.le_of_ble_eq_true rfl⟩ (fun q9 ce H locs hw hS hce hcv hcl => ?_)
  refine vx_catch (name := "java/lang/IndexOutOfBoundsException") (E := "java/lang/IndexOutOfBoundsException") hown [] ⟨0, 273, 274, 73⟩ [⟨0, 273, 279, 13⟩, ⟨0, 273, 284, 15⟩] htb (fun z hz => absurd hz List.not_mem_nil) (by decide) (by decide) lk73 (va_Nw.use rfl (hw.1.2.2.1 ("java/lang/IndexOutOfBoundsException", "java/lang/IndexOutOfBoundsException") (by decide))) hce hcv hcl ?_
  refine W.eq (g2 := F0 m 274 ls [.ref (q9)]) rfl ?_
  refine lv_astore (lv' := [(6, .ref (q9)), (0, .ref (α (0))), (1, .int (13)), (2, .int (y)), (3, .int (lo)), (4, .int (hi)), (5, .int (z5))]) hx hb dL_act_274 hl (by decide) rfl (fun ls hl => ?_)
  refine lv_bipush (v := (-71)) hx hb dL_act_276 (by decide) ?_
  exact W.iret (v := (-71)) hx hb hr (fun t ht hW => ⟨⟨_, (V, α), rfl, ⟨rfl, rfl⟩, by show mH G V α t.heap; rw [ht]; exact hw.2.2⟩, hS.F ht⟩) hS.2.2 dL_act_278

set_option maxHeartbeats 4000000 in
set_option maxRecDepth 100000 in
theorem x_X3_payOf_2 {l : Launch} (hl0 : l.stackTraces = false) {G : mG} {V : mV} {α : Nat → Nat} {f : sT} {nr nw ns : Nat} (hC : mC G V α f nr nw ns) (hwf : mwf f nr nw ns) (k : Nat) (hk : k < nw) (lo hi : Int32) (hbad : ¬ (inn lo 0 363 ∧ inn hi lo 363)) (z5 : Int32) : Met l yL_act wsL_act ({ frames := 8, cells := 1, slots := 6, locals := 132 }) (va_Pc [.ref (α (0)), .int (13), .int (nI (k)), .int (lo), .int (hi), .int (z5)] (fun U => mW G V α U U.heap)) (va_Qi (fun (r9 : Int32) (u : mV × (Nat → Nat)) => (-72) = r9 ∧ u = (V, α)) (fun u t => mH G u.1 u.2 t.heap) (mfree G)) 1 6 (mfree G) := by
  refine mofWH (cc := cL_act) (maxL := 7) (ret := (some .int)) (hh := [(0, 273, 274, 73), (0, 273, 279, 13), (0, 273, 284, 15)]) (by decide) rfl ?_
  intro p e s m args below meth c s₁ B hml hv
  obtain ⟨rfl, hw⟩ := hv
  have hx := B.exec
  have hb := B.bytes
  have hr := B.returns
  have hts := atoms_spec (ws := wsL_act) B.pre
  have hown : s.vm.findClass RL = some m.cls := findClass_of_methodNamed B.named
  have hlocks := B.notSynchronized
  have hS : va_S (mfree G) s.heap s.heap [] := va_S.rf
  obtain ⟨k0, -⟩ := id hC
  have htb : c.exceptionTable.toList = tableOf [(0, 273, 274, 73), (0, 273, 279, 13), (0, 273, 284, 15)] := vx_table (x := yL_act) B (hts _ List.mem_cons_self)
  have lk73 := hts (.classLink RL 73 "java/lang/IndexOutOfBoundsException") (by decide +kernel)
  have lk13 := hts (.classLink RL 13 "java/lang/IllegalArgumentException") (by decide +kernel)
  have hl := lv_entry ([.ref (α (0)), .int (13), .int (nI (k)), .int (lo), .int (hi), .int (z5)]) (n := 7) (Nat.le_of_ble_eq_true rfl)
  rw [lg_entry_eq]
  generalize (lg_sl ([.ref (α (0)), .int (13), .int (nI (k)), .int (lo), .int (hi), .int (z5)]) ++ List.replicate (7 - (lg_sl ([.ref (α (0)), .int (13), .int (nI (k)), .int (lo), .int (hi), .int (z5)])).length) Slot.unset).toArray = ls at hl ⊢
  have hl : lv_has ls 7 [(0, .ref (α (0))), (1, .int (13)), (2, .int (nI (k))), (3, .int (lo)), (4, .int (hi)), (5, .int (z5))] := hl
  refine lv_iload_n hx hb dL_act_0 rfl (lv_at hl 1 rfl) ?_
  refine lv_if_ne (tgt := 13) hx hb dL_act_1 (by decide) (fun c1 => ?_) (fun z => absurd z ((by decide)))
  refine lv_iload_n hx hb dL_act_13 rfl (lv_at hl 1 rfl) ?_
  refine lv_iconst (v := (1)) hx hb dL_act_14 (by decide) ?_
  refine lv_icmp_ne (tgt := 44) hx hb dL_act_15 (by decide) (fun c2 => ?_) (fun z => absurd z ((by decide)))
  refine lv_iload_n hx hb dL_act_44 rfl (lv_at hl 1 rfl) ?_
  refine lv_iconst (v := (2)) hx hb dL_act_45 (by decide) ?_
  refine lv_icmp_ne (tgt := 75) hx hb dL_act_46 (by decide) (fun c3 => ?_) (fun z => absurd z ((by decide)))
  refine lv_iload_n hx hb dL_act_75 rfl (lv_at hl 1 rfl) ?_
  refine lv_iconst (v := (3)) hx hb dL_act_76 (by decide) ?_
  refine lv_icmp_ne (tgt := 88) hx hb dL_act_77 (by decide) (fun c4 => ?_) (fun z => absurd z ((by decide)))
  refine lv_iload_n hx hb dL_act_88 rfl (lv_at hl 1 rfl) ?_
  refine lv_iconst (v := (4)) hx hb dL_act_89 (by decide) ?_
  refine lv_icmp_ne (tgt := 102) hx hb dL_act_90 (by decide) (fun c5 => ?_) (fun z => absurd z ((by decide)))
  refine lv_iload_n hx hb dL_act_102 rfl (lv_at hl 1 rfl) ?_
  refine lv_iconst (v := (5)) hx hb dL_act_103 (by decide) ?_
  refine lv_icmp_ne (tgt := 120) hx hb dL_act_104 (by decide) (fun c6 => ?_) (fun z => absurd z ((by decide)))
  refine lv_iload_n hx hb dL_act_120 rfl (lv_at hl 1 rfl) ?_
  refine lv_bipush (v := (6)) hx hb dL_act_121 (by decide) ?_
  refine lv_icmp_ne (tgt := 134) hx hb dL_act_123 (by decide) (fun c7 => ?_) (fun z => absurd z ((by decide)))
  refine lv_iload_n hx hb dL_act_134 rfl (lv_at hl 1 rfl) ?_
  refine lv_bipush (v := (7)) hx hb dL_act_135 (by decide) ?_
  refine lv_icmp_ne (tgt := 149) hx hb dL_act_137 (by decide) (fun c8 => ?_) (fun z => absurd z ((by decide)))
  refine lv_iload_n hx hb dL_act_149 rfl (lv_at hl 1 rfl) ?_
  refine lv_bipush (v := (8)) hx hb dL_act_150 (by decide) ?_
  refine lv_icmp_ne (tgt := 163) hx hb dL_act_152 (by decide) (fun c9 => ?_) (fun z => absurd z ((by decide)))
  refine lv_iload_n hx hb dL_act_163 rfl (lv_at hl 1 rfl) ?_
  refine lv_bipush (v := (9)) hx hb dL_act_164 (by decide) ?_
  refine lv_icmp_ne (tgt := 178) hx hb dL_act_166 (by decide) (fun c10 => ?_) (fun z => absurd z ((by decide)))
  refine lv_iload_n hx hb dL_act_178 rfl (lv_at hl 1 rfl) ?_
  refine lv_bipush (v := (10)) hx hb dL_act_179 (by decide) ?_
  refine lv_icmp_ne (tgt := 193) hx hb dL_act_181 (by decide) (fun c11 => ?_) (fun z => absurd z ((by decide)))
  refine lv_iload_n hx hb dL_act_193 rfl (lv_at hl 1 rfl) ?_
  refine lv_bipush (v := (11)) hx hb dL_act_194 (by decide) ?_
  refine lv_icmp_ne (tgt := 207) hx hb dL_act_196 (by decide) (fun c12 => ?_) (fun z => absurd z ((by decide)))
  refine lv_iload_n hx hb dL_act_207 rfl (lv_at hl 1 rfl) ?_
  refine lv_bipush (v := (12)) hx hb dL_act_208 (by decide) ?_
  refine lv_icmp_ne (tgt := 221) hx hb dL_act_210 (by decide) (fun c13 => ?_) (fun z => absurd z ((by decide)))
  refine lv_iload_n hx hb dL_act_221 rfl (lv_at hl 1 rfl) ?_
  refine lv_bipush (v := (13)) hx hb dL_act_222 (by decide) ?_
  refine lv_icmp_ne (tgt := 238) hx hb dL_act_224 (by decide) (fun z => absurd ((by decide)) z) (fun c14 => ?_)
  refine lv_aload_n hx hb dL_act_227 rfl (lv_at hl 0 rfl) ?_
  refine lv_iload_n hx hb dL_act_228 rfl (lv_at hl 2 rfl) ?_
  refine lv_iload_n hx hb dL_act_229 rfl (lv_at hl 3 rfl) ?_
  refine lv_iload hx hb dL_act_230 (lv_at hl 4 rfl) ?_
  refine mcallTV hw k0 rfl rfl ⟨hx, hb, hml, hown, hts⟩ hS (t_X3_payOf_2 hl0 hC hwf k hk lo hi hbad) (cwV 3 hts gL_act_X3_payOf rfl rfl rfl (by decide +kernel) ⟨Nat.le_of_ble_eq_true rfl, Nat.le_of_ble_eq_true rfl⟩) rfl hl.1 rfl (Nat.le_of_ble_eq_true rfl) dL_act_232 ⟨Nat.le_of_ble_eq_true rfl, Nat.le_of_ble_eq_true rfl⟩ (fun q9 ce H locs hw hS hce hcv hcl => ?_)
  refine vx_catch (name := "java/lang/IllegalArgumentException") (E := "java/lang/IllegalArgumentException") hown [⟨0, 273, 274, 73⟩] ⟨0, 273, 279, 13⟩ [⟨0, 273, 284, 15⟩] htb (fun z hz => by rw [List.mem_singleton.mp hz]; exact Or.inr ⟨by decide, "java/lang/IndexOutOfBoundsException", lk73, hw.1.2.2.2.2.1 ("java/lang/IllegalArgumentException", "java/lang/IndexOutOfBoundsException") (by decide)⟩) (by decide) (by decide) lk13 (va_Nw.use rfl (hw.1.2.2.1 ("java/lang/IllegalArgumentException", "java/lang/IllegalArgumentException") (by decide))) hce hcv hcl ?_
  refine W.eq (g2 := F0 m 279 ls [.ref (q9)]) rfl ?_
  refine lv_astore (lv' := [(6, .ref (q9)), (0, .ref (α (0))), (1, .int (13)), (2, .int (nI (k))), (3, .int (lo)), (4, .int (hi)), (5, .int (z5))]) hx hb dL_act_279 hl (by decide) rfl (fun ls hl => ?_)
  refine lv_bipush (v := (-72)) hx hb dL_act_281 (by decide) ?_
  exact W.iret (v := (-72)) hx hb hr (fun t ht hW => ⟨⟨_, (V, α), rfl, ⟨rfl, rfl⟩, by show mH G V α t.heap; rw [ht]; exact hw.2.2⟩, hS.F ht⟩) hS.2.2 dL_act_283

set_option maxHeartbeats 4000000 in
set_option maxRecDepth 100000 in
theorem x_X3_paidBy_1 {l : Launch} (hl0 : l.stackTraces = false) {G : mG} {V : mV} {α : Nat → Nat} {f : sT} {nr nw ns : Nat} (hC : mC G V α f nr nw ns) (hwf : mwf f nr nw ns) (y : Int32) (hbad : ¬ inn y 0 (nI nr - 1)) (z3 z4 z5 : Int32) : Met l yL_act wsL_act ({ frames := 8, cells := 1, slots := 6, locals := 127 }) (va_Pc [.ref (α (0)), .int (14), .int (y), .int (z3), .int (z4), .int (z5)] (fun U => mW G V α U U.heap)) (va_Qi (fun (r9 : Int32) (u : mV × (Nat → Nat)) => (-71) = r9 ∧ u = (V, α)) (fun u t => mH G u.1 u.2 t.heap) (mfree G)) 1 6 (mfree G) := by
  refine mofWH (cc := cL_act) (maxL := 7) (ret := (some .int)) (hh := [(0, 273, 274, 73), (0, 273, 279, 13), (0, 273, 284, 15)]) (by decide) rfl ?_
  intro p e s m args below meth c s₁ B hml hv
  obtain ⟨rfl, hw⟩ := hv
  have hx := B.exec
  have hb := B.bytes
  have hr := B.returns
  have hts := atoms_spec (ws := wsL_act) B.pre
  have hown : s.vm.findClass RL = some m.cls := findClass_of_methodNamed B.named
  have hlocks := B.notSynchronized
  have hS : va_S (mfree G) s.heap s.heap [] := va_S.rf
  obtain ⟨k0, -⟩ := id hC
  have htb : c.exceptionTable.toList = tableOf [(0, 273, 274, 73), (0, 273, 279, 13), (0, 273, 284, 15)] := vx_table (x := yL_act) B (hts _ List.mem_cons_self)
  have lk73 := hts (.classLink RL 73 "java/lang/IndexOutOfBoundsException") (by decide +kernel)
  have hl := lv_entry ([.ref (α (0)), .int (14), .int (y), .int (z3), .int (z4), .int (z5)]) (n := 7) (Nat.le_of_ble_eq_true rfl)
  rw [lg_entry_eq]
  generalize (lg_sl ([.ref (α (0)), .int (14), .int (y), .int (z3), .int (z4), .int (z5)]) ++ List.replicate (7 - (lg_sl ([.ref (α (0)), .int (14), .int (y), .int (z3), .int (z4), .int (z5)])).length) Slot.unset).toArray = ls at hl ⊢
  have hl : lv_has ls 7 [(0, .ref (α (0))), (1, .int (14)), (2, .int (y)), (3, .int (z3)), (4, .int (z4)), (5, .int (z5))] := hl
  refine lv_iload_n hx hb dL_act_0 rfl (lv_at hl 1 rfl) ?_
  refine lv_if_ne (tgt := 13) hx hb dL_act_1 (by decide) (fun c1 => ?_) (fun z => absurd z ((by decide)))
  refine lv_iload_n hx hb dL_act_13 rfl (lv_at hl 1 rfl) ?_
  refine lv_iconst (v := (1)) hx hb dL_act_14 (by decide) ?_
  refine lv_icmp_ne (tgt := 44) hx hb dL_act_15 (by decide) (fun c2 => ?_) (fun z => absurd z ((by decide)))
  refine lv_iload_n hx hb dL_act_44 rfl (lv_at hl 1 rfl) ?_
  refine lv_iconst (v := (2)) hx hb dL_act_45 (by decide) ?_
  refine lv_icmp_ne (tgt := 75) hx hb dL_act_46 (by decide) (fun c3 => ?_) (fun z => absurd z ((by decide)))
  refine lv_iload_n hx hb dL_act_75 rfl (lv_at hl 1 rfl) ?_
  refine lv_iconst (v := (3)) hx hb dL_act_76 (by decide) ?_
  refine lv_icmp_ne (tgt := 88) hx hb dL_act_77 (by decide) (fun c4 => ?_) (fun z => absurd z ((by decide)))
  refine lv_iload_n hx hb dL_act_88 rfl (lv_at hl 1 rfl) ?_
  refine lv_iconst (v := (4)) hx hb dL_act_89 (by decide) ?_
  refine lv_icmp_ne (tgt := 102) hx hb dL_act_90 (by decide) (fun c5 => ?_) (fun z => absurd z ((by decide)))
  refine lv_iload_n hx hb dL_act_102 rfl (lv_at hl 1 rfl) ?_
  refine lv_iconst (v := (5)) hx hb dL_act_103 (by decide) ?_
  refine lv_icmp_ne (tgt := 120) hx hb dL_act_104 (by decide) (fun c6 => ?_) (fun z => absurd z ((by decide)))
  refine lv_iload_n hx hb dL_act_120 rfl (lv_at hl 1 rfl) ?_
  refine lv_bipush (v := (6)) hx hb dL_act_121 (by decide) ?_
  refine lv_icmp_ne (tgt := 134) hx hb dL_act_123 (by decide) (fun c7 => ?_) (fun z => absurd z ((by decide)))
  refine lv_iload_n hx hb dL_act_134 rfl (lv_at hl 1 rfl) ?_
  refine lv_bipush (v := (7)) hx hb dL_act_135 (by decide) ?_
  refine lv_icmp_ne (tgt := 149) hx hb dL_act_137 (by decide) (fun c8 => ?_) (fun z => absurd z ((by decide)))
  refine lv_iload_n hx hb dL_act_149 rfl (lv_at hl 1 rfl) ?_
  refine lv_bipush (v := (8)) hx hb dL_act_150 (by decide) ?_
  refine lv_icmp_ne (tgt := 163) hx hb dL_act_152 (by decide) (fun c9 => ?_) (fun z => absurd z ((by decide)))
  refine lv_iload_n hx hb dL_act_163 rfl (lv_at hl 1 rfl) ?_
  refine lv_bipush (v := (9)) hx hb dL_act_164 (by decide) ?_
  refine lv_icmp_ne (tgt := 178) hx hb dL_act_166 (by decide) (fun c10 => ?_) (fun z => absurd z ((by decide)))
  refine lv_iload_n hx hb dL_act_178 rfl (lv_at hl 1 rfl) ?_
  refine lv_bipush (v := (10)) hx hb dL_act_179 (by decide) ?_
  refine lv_icmp_ne (tgt := 193) hx hb dL_act_181 (by decide) (fun c11 => ?_) (fun z => absurd z ((by decide)))
  refine lv_iload_n hx hb dL_act_193 rfl (lv_at hl 1 rfl) ?_
  refine lv_bipush (v := (11)) hx hb dL_act_194 (by decide) ?_
  refine lv_icmp_ne (tgt := 207) hx hb dL_act_196 (by decide) (fun c12 => ?_) (fun z => absurd z ((by decide)))
  refine lv_iload_n hx hb dL_act_207 rfl (lv_at hl 1 rfl) ?_
  refine lv_bipush (v := (12)) hx hb dL_act_208 (by decide) ?_
  refine lv_icmp_ne (tgt := 221) hx hb dL_act_210 (by decide) (fun c13 => ?_) (fun z => absurd z ((by decide)))
  refine lv_iload_n hx hb dL_act_221 rfl (lv_at hl 1 rfl) ?_
  refine lv_bipush (v := (13)) hx hb dL_act_222 (by decide) ?_
  refine lv_icmp_ne (tgt := 238) hx hb dL_act_224 (by decide) (fun c14 => ?_) (fun z => absurd z ((by decide)))
  refine lv_iload_n hx hb dL_act_238 rfl (lv_at hl 1 rfl) ?_
  refine lv_bipush (v := (14)) hx hb dL_act_239 (by decide) ?_
  refine lv_icmp_ne (tgt := 252) hx hb dL_act_241 (by decide) (fun z => absurd ((by decide)) z) (fun c15 => ?_)
  refine lv_aload_n hx hb dL_act_244 rfl (lv_at hl 0 rfl) ?_
  refine lv_iload_n hx hb dL_act_245 rfl (lv_at hl 2 rfl) ?_
  refine mcallTV hw k0 rfl rfl ⟨hx, hb, hml, hown, hts⟩ hS (t_X3_paidBy_1 hl0 hC hwf y hbad) (cwV 1 hts gL_act_X3_paidBy rfl rfl rfl (by decide +kernel) ⟨Nat.le_of_ble_eq_true rfl, Nat.le_of_ble_eq_true rfl⟩) rfl hl.1 rfl (Nat.le_of_ble_eq_true rfl) dL_act_246 ⟨Nat.le_of_ble_eq_true rfl, Nat.le_of_ble_eq_true rfl⟩ (fun q9 ce H locs hw hS hce hcv hcl => ?_)
  refine vx_catch (name := "java/lang/IndexOutOfBoundsException") (E := "java/lang/IndexOutOfBoundsException") hown [] ⟨0, 273, 274, 73⟩ [⟨0, 273, 279, 13⟩, ⟨0, 273, 284, 15⟩] htb (fun z hz => absurd hz List.not_mem_nil) (by decide) (by decide) lk73 (va_Nw.use rfl (hw.1.2.2.1 ("java/lang/IndexOutOfBoundsException", "java/lang/IndexOutOfBoundsException") (by decide))) hce hcv hcl ?_
  refine W.eq (g2 := F0 m 274 ls [.ref (q9)]) rfl ?_
  refine lv_astore (lv' := [(6, .ref (q9)), (0, .ref (α (0))), (1, .int (14)), (2, .int (y)), (3, .int (z3)), (4, .int (z4)), (5, .int (z5))]) hx hb dL_act_274 hl (by decide) rfl (fun ls hl => ?_)
  refine lv_bipush (v := (-71)) hx hb dL_act_276 (by decide) ?_
  exact W.iret (v := (-71)) hx hb hr (fun t ht hW => ⟨⟨_, (V, α), rfl, ⟨rfl, rfl⟩, by show mH G V α t.heap; rw [ht]; exact hw.2.2⟩, hS.F ht⟩) hS.2.2 dL_act_278

set_option maxHeartbeats 4000000 in
set_option maxRecDepth 100000 in
theorem x_X3_worked_1 {l : Launch} (hl0 : l.stackTraces = false) {G : mG} {V : mV} {α : Nat → Nat} {f : sT} {nr nw ns : Nat} (hC : mC G V α f nr nw ns) (hwf : mwf f nr nw ns) (y x : Int32) (hbad : ¬ inn y 0 (nI nw - 1)) (z4 z5 : Int32) : Met l yL_act wsL_act ({ frames := 8, cells := 1, slots := 6, locals := 126 }) (va_Pc [.ref (α (0)), .int (15), .int (y), .int (x), .int (z4), .int (z5)] (fun U => mW G V α U U.heap)) (va_Qi (fun (r9 : Int32) (u : mV × (Nat → Nat)) => (-71) = r9 ∧ u = (V, α)) (fun u t => mH G u.1 u.2 t.heap) (mfree G)) 1 6 (mfree G) := by
  refine mofWH (cc := cL_act) (maxL := 7) (ret := (some .int)) (hh := [(0, 273, 274, 73), (0, 273, 279, 13), (0, 273, 284, 15)]) (by decide) rfl ?_
  intro p e s m args below meth c s₁ B hml hv
  obtain ⟨rfl, hw⟩ := hv
  have hx := B.exec
  have hb := B.bytes
  have hr := B.returns
  have hts := atoms_spec (ws := wsL_act) B.pre
  have hown : s.vm.findClass RL = some m.cls := findClass_of_methodNamed B.named
  have hlocks := B.notSynchronized
  have hS : va_S (mfree G) s.heap s.heap [] := va_S.rf
  obtain ⟨k0, -⟩ := id hC
  have htb : c.exceptionTable.toList = tableOf [(0, 273, 274, 73), (0, 273, 279, 13), (0, 273, 284, 15)] := vx_table (x := yL_act) B (hts _ List.mem_cons_self)
  have lk73 := hts (.classLink RL 73 "java/lang/IndexOutOfBoundsException") (by decide +kernel)
  have hl := lv_entry ([.ref (α (0)), .int (15), .int (y), .int (x), .int (z4), .int (z5)]) (n := 7) (Nat.le_of_ble_eq_true rfl)
  rw [lg_entry_eq]
  generalize (lg_sl ([.ref (α (0)), .int (15), .int (y), .int (x), .int (z4), .int (z5)]) ++ List.replicate (7 - (lg_sl ([.ref (α (0)), .int (15), .int (y), .int (x), .int (z4), .int (z5)])).length) Slot.unset).toArray = ls at hl ⊢
  have hl : lv_has ls 7 [(0, .ref (α (0))), (1, .int (15)), (2, .int (y)), (3, .int (x)), (4, .int (z4)), (5, .int (z5))] := hl
  refine lv_iload_n hx hb dL_act_0 rfl (lv_at hl 1 rfl) ?_
  refine lv_if_ne (tgt := 13) hx hb dL_act_1 (by decide) (fun c1 => ?_) (fun z => absurd z ((by decide)))
  refine lv_iload_n hx hb dL_act_13 rfl (lv_at hl 1 rfl) ?_
  refine lv_iconst (v := (1)) hx hb dL_act_14 (by decide) ?_
  refine lv_icmp_ne (tgt := 44) hx hb dL_act_15 (by decide) (fun c2 => ?_) (fun z => absurd z ((by decide)))
  refine lv_iload_n hx hb dL_act_44 rfl (lv_at hl 1 rfl) ?_
  refine lv_iconst (v := (2)) hx hb dL_act_45 (by decide) ?_
  refine lv_icmp_ne (tgt := 75) hx hb dL_act_46 (by decide) (fun c3 => ?_) (fun z => absurd z ((by decide)))
  refine lv_iload_n hx hb dL_act_75 rfl (lv_at hl 1 rfl) ?_
  refine lv_iconst (v := (3)) hx hb dL_act_76 (by decide) ?_
  refine lv_icmp_ne (tgt := 88) hx hb dL_act_77 (by decide) (fun c4 => ?_) (fun z => absurd z ((by decide)))
  refine lv_iload_n hx hb dL_act_88 rfl (lv_at hl 1 rfl) ?_
  refine lv_iconst (v := (4)) hx hb dL_act_89 (by decide) ?_
  refine lv_icmp_ne (tgt := 102) hx hb dL_act_90 (by decide) (fun c5 => ?_) (fun z => absurd z ((by decide)))
  refine lv_iload_n hx hb dL_act_102 rfl (lv_at hl 1 rfl) ?_
  refine lv_iconst (v := (5)) hx hb dL_act_103 (by decide) ?_
  refine lv_icmp_ne (tgt := 120) hx hb dL_act_104 (by decide) (fun c6 => ?_) (fun z => absurd z ((by decide)))
  refine lv_iload_n hx hb dL_act_120 rfl (lv_at hl 1 rfl) ?_
  refine lv_bipush (v := (6)) hx hb dL_act_121 (by decide) ?_
  refine lv_icmp_ne (tgt := 134) hx hb dL_act_123 (by decide) (fun c7 => ?_) (fun z => absurd z ((by decide)))
  refine lv_iload_n hx hb dL_act_134 rfl (lv_at hl 1 rfl) ?_
  refine lv_bipush (v := (7)) hx hb dL_act_135 (by decide) ?_
  refine lv_icmp_ne (tgt := 149) hx hb dL_act_137 (by decide) (fun c8 => ?_) (fun z => absurd z ((by decide)))
  refine lv_iload_n hx hb dL_act_149 rfl (lv_at hl 1 rfl) ?_
  refine lv_bipush (v := (8)) hx hb dL_act_150 (by decide) ?_
  refine lv_icmp_ne (tgt := 163) hx hb dL_act_152 (by decide) (fun c9 => ?_) (fun z => absurd z ((by decide)))
  refine lv_iload_n hx hb dL_act_163 rfl (lv_at hl 1 rfl) ?_
  refine lv_bipush (v := (9)) hx hb dL_act_164 (by decide) ?_
  refine lv_icmp_ne (tgt := 178) hx hb dL_act_166 (by decide) (fun c10 => ?_) (fun z => absurd z ((by decide)))
  refine lv_iload_n hx hb dL_act_178 rfl (lv_at hl 1 rfl) ?_
  refine lv_bipush (v := (10)) hx hb dL_act_179 (by decide) ?_
  refine lv_icmp_ne (tgt := 193) hx hb dL_act_181 (by decide) (fun c11 => ?_) (fun z => absurd z ((by decide)))
  refine lv_iload_n hx hb dL_act_193 rfl (lv_at hl 1 rfl) ?_
  refine lv_bipush (v := (11)) hx hb dL_act_194 (by decide) ?_
  refine lv_icmp_ne (tgt := 207) hx hb dL_act_196 (by decide) (fun c12 => ?_) (fun z => absurd z ((by decide)))
  refine lv_iload_n hx hb dL_act_207 rfl (lv_at hl 1 rfl) ?_
  refine lv_bipush (v := (12)) hx hb dL_act_208 (by decide) ?_
  refine lv_icmp_ne (tgt := 221) hx hb dL_act_210 (by decide) (fun c13 => ?_) (fun z => absurd z ((by decide)))
  refine lv_iload_n hx hb dL_act_221 rfl (lv_at hl 1 rfl) ?_
  refine lv_bipush (v := (13)) hx hb dL_act_222 (by decide) ?_
  refine lv_icmp_ne (tgt := 238) hx hb dL_act_224 (by decide) (fun c14 => ?_) (fun z => absurd z ((by decide)))
  refine lv_iload_n hx hb dL_act_238 rfl (lv_at hl 1 rfl) ?_
  refine lv_bipush (v := (14)) hx hb dL_act_239 (by decide) ?_
  refine lv_icmp_ne (tgt := 252) hx hb dL_act_241 (by decide) (fun c15 => ?_) (fun z => absurd z ((by decide)))
  refine lv_iload_n hx hb dL_act_252 rfl (lv_at hl 1 rfl) ?_
  refine lv_bipush (v := (15)) hx hb dL_act_253 (by decide) ?_
  refine lv_icmp_ne (tgt := 267) hx hb dL_act_255 (by decide) (fun z => absurd ((by decide)) z) (fun c16 => ?_)
  refine lv_aload_n hx hb dL_act_258 rfl (lv_at hl 0 rfl) ?_
  refine lv_iload_n hx hb dL_act_259 rfl (lv_at hl 2 rfl) ?_
  refine lv_iload_n hx hb dL_act_260 rfl (lv_at hl 3 rfl) ?_
  refine mcallTV hw k0 rfl rfl ⟨hx, hb, hml, hown, hts⟩ hS (t_X3_worked_1 hl0 hC hwf y x hbad) (cwV 2 hts gL_act_X3_worked rfl rfl rfl (by decide +kernel) ⟨Nat.le_of_ble_eq_true rfl, Nat.le_of_ble_eq_true rfl⟩) rfl hl.1 rfl (Nat.le_of_ble_eq_true rfl) dL_act_261 ⟨Nat.le_of_ble_eq_true rfl, Nat.le_of_ble_eq_true rfl⟩ (fun q9 ce H locs hw hS hce hcv hcl => ?_)
  refine vx_catch (name := "java/lang/IndexOutOfBoundsException") (E := "java/lang/IndexOutOfBoundsException") hown [] ⟨0, 273, 274, 73⟩ [⟨0, 273, 279, 13⟩, ⟨0, 273, 284, 15⟩] htb (fun z hz => absurd hz List.not_mem_nil) (by decide) (by decide) lk73 (va_Nw.use rfl (hw.1.2.2.1 ("java/lang/IndexOutOfBoundsException", "java/lang/IndexOutOfBoundsException") (by decide))) hce hcv hcl ?_
  refine W.eq (g2 := F0 m 274 ls [.ref (q9)]) rfl ?_
  refine lv_astore (lv' := [(6, .ref (q9)), (0, .ref (α (0))), (1, .int (15)), (2, .int (y)), (3, .int (x)), (4, .int (z4)), (5, .int (z5))]) hx hb dL_act_274 hl (by decide) rfl (fun ls hl => ?_)
  refine lv_bipush (v := (-71)) hx hb dL_act_276 (by decide) ?_
  exact W.iret (v := (-71)) hx hb hr (fun t ht hW => ⟨⟨_, (V, α), rfl, ⟨rfl, rfl⟩, by show mH G V α t.heap; rw [ht]; exact hw.2.2⟩, hS.F ht⟩) hS.2.2 dL_act_278

set_option maxHeartbeats 4000000 in
set_option maxRecDepth 100000 in
theorem x_X3_worked_2 {l : Launch} (hl0 : l.stackTraces = false) {G : mG} {V : mV} {α : Nat → Nat} {f : sT} {nr nw ns : Nat} (hC : mC G V α f nr nw ns) (hwf : mwf f nr nw ns) (k : Nat) (hk : k < nw) (x : Int32) (hbad : ¬ inn x 0 51) (z4 z5 : Int32) : Met l yL_act wsL_act ({ frames := 8, cells := 1, slots := 6, locals := 127 }) (va_Pc [.ref (α (0)), .int (15), .int (nI (k)), .int (x), .int (z4), .int (z5)] (fun U => mW G V α U U.heap)) (va_Qi (fun (r9 : Int32) (u : mV × (Nat → Nat)) => (-72) = r9 ∧ u = (V, α)) (fun u t => mH G u.1 u.2 t.heap) (mfree G)) 1 6 (mfree G) := by
  refine mofWH (cc := cL_act) (maxL := 7) (ret := (some .int)) (hh := [(0, 273, 274, 73), (0, 273, 279, 13), (0, 273, 284, 15)]) (by decide) rfl ?_
  intro p e s m args below meth c s₁ B hml hv
  obtain ⟨rfl, hw⟩ := hv
  have hx := B.exec
  have hb := B.bytes
  have hr := B.returns
  have hts := atoms_spec (ws := wsL_act) B.pre
  have hown : s.vm.findClass RL = some m.cls := findClass_of_methodNamed B.named
  have hlocks := B.notSynchronized
  have hS : va_S (mfree G) s.heap s.heap [] := va_S.rf
  obtain ⟨k0, -⟩ := id hC
  have htb : c.exceptionTable.toList = tableOf [(0, 273, 274, 73), (0, 273, 279, 13), (0, 273, 284, 15)] := vx_table (x := yL_act) B (hts _ List.mem_cons_self)
  have lk73 := hts (.classLink RL 73 "java/lang/IndexOutOfBoundsException") (by decide +kernel)
  have lk13 := hts (.classLink RL 13 "java/lang/IllegalArgumentException") (by decide +kernel)
  have hl := lv_entry ([.ref (α (0)), .int (15), .int (nI (k)), .int (x), .int (z4), .int (z5)]) (n := 7) (Nat.le_of_ble_eq_true rfl)
  rw [lg_entry_eq]
  generalize (lg_sl ([.ref (α (0)), .int (15), .int (nI (k)), .int (x), .int (z4), .int (z5)]) ++ List.replicate (7 - (lg_sl ([.ref (α (0)), .int (15), .int (nI (k)), .int (x), .int (z4), .int (z5)])).length) Slot.unset).toArray = ls at hl ⊢
  have hl : lv_has ls 7 [(0, .ref (α (0))), (1, .int (15)), (2, .int (nI (k))), (3, .int (x)), (4, .int (z4)), (5, .int (z5))] := hl
  refine lv_iload_n hx hb dL_act_0 rfl (lv_at hl 1 rfl) ?_
  refine lv_if_ne (tgt := 13) hx hb dL_act_1 (by decide) (fun c1 => ?_) (fun z => absurd z ((by decide)))
  refine lv_iload_n hx hb dL_act_13 rfl (lv_at hl 1 rfl) ?_
  refine lv_iconst (v := (1)) hx hb dL_act_14 (by decide) ?_
  refine lv_icmp_ne (tgt := 44) hx hb dL_act_15 (by decide) (fun c2 => ?_) (fun z => absurd z ((by decide)))
  refine lv_iload_n hx hb dL_act_44 rfl (lv_at hl 1 rfl) ?_
  refine lv_iconst (v := (2)) hx hb dL_act_45 (by decide) ?_
  refine lv_icmp_ne (tgt := 75) hx hb dL_act_46 (by decide) (fun c3 => ?_) (fun z => absurd z ((by decide)))
  refine lv_iload_n hx hb dL_act_75 rfl (lv_at hl 1 rfl) ?_
  refine lv_iconst (v := (3)) hx hb dL_act_76 (by decide) ?_
  refine lv_icmp_ne (tgt := 88) hx hb dL_act_77 (by decide) (fun c4 => ?_) (fun z => absurd z ((by decide)))
  refine lv_iload_n hx hb dL_act_88 rfl (lv_at hl 1 rfl) ?_
  refine lv_iconst (v := (4)) hx hb dL_act_89 (by decide) ?_
  refine lv_icmp_ne (tgt := 102) hx hb dL_act_90 (by decide) (fun c5 => ?_) (fun z => absurd z ((by decide)))
  refine lv_iload_n hx hb dL_act_102 rfl (lv_at hl 1 rfl) ?_
  refine lv_iconst (v := (5)) hx hb dL_act_103 (by decide) ?_
  refine lv_icmp_ne (tgt := 120) hx hb dL_act_104 (by decide) (fun c6 => ?_) (fun z => absurd z ((by decide)))
  refine lv_iload_n hx hb dL_act_120 rfl (lv_at hl 1 rfl) ?_
  refine lv_bipush (v := (6)) hx hb dL_act_121 (by decide) ?_
  refine lv_icmp_ne (tgt := 134) hx hb dL_act_123 (by decide) (fun c7 => ?_) (fun z => absurd z ((by decide)))
  refine lv_iload_n hx hb dL_act_134 rfl (lv_at hl 1 rfl) ?_
  refine lv_bipush (v := (7)) hx hb dL_act_135 (by decide) ?_
  refine lv_icmp_ne (tgt := 149) hx hb dL_act_137 (by decide) (fun c8 => ?_) (fun z => absurd z ((by decide)))
  refine lv_iload_n hx hb dL_act_149 rfl (lv_at hl 1 rfl) ?_
  refine lv_bipush (v := (8)) hx hb dL_act_150 (by decide) ?_
  refine lv_icmp_ne (tgt := 163) hx hb dL_act_152 (by decide) (fun c9 => ?_) (fun z => absurd z ((by decide)))
  refine lv_iload_n hx hb dL_act_163 rfl (lv_at hl 1 rfl) ?_
  refine lv_bipush (v := (9)) hx hb dL_act_164 (by decide) ?_
  refine lv_icmp_ne (tgt := 178) hx hb dL_act_166 (by decide) (fun c10 => ?_) (fun z => absurd z ((by decide)))
  refine lv_iload_n hx hb dL_act_178 rfl (lv_at hl 1 rfl) ?_
  refine lv_bipush (v := (10)) hx hb dL_act_179 (by decide) ?_
  refine lv_icmp_ne (tgt := 193) hx hb dL_act_181 (by decide) (fun c11 => ?_) (fun z => absurd z ((by decide)))
  refine lv_iload_n hx hb dL_act_193 rfl (lv_at hl 1 rfl) ?_
  refine lv_bipush (v := (11)) hx hb dL_act_194 (by decide) ?_
  refine lv_icmp_ne (tgt := 207) hx hb dL_act_196 (by decide) (fun c12 => ?_) (fun z => absurd z ((by decide)))
  refine lv_iload_n hx hb dL_act_207 rfl (lv_at hl 1 rfl) ?_
  refine lv_bipush (v := (12)) hx hb dL_act_208 (by decide) ?_
  refine lv_icmp_ne (tgt := 221) hx hb dL_act_210 (by decide) (fun c13 => ?_) (fun z => absurd z ((by decide)))
  refine lv_iload_n hx hb dL_act_221 rfl (lv_at hl 1 rfl) ?_
  refine lv_bipush (v := (13)) hx hb dL_act_222 (by decide) ?_
  refine lv_icmp_ne (tgt := 238) hx hb dL_act_224 (by decide) (fun c14 => ?_) (fun z => absurd z ((by decide)))
  refine lv_iload_n hx hb dL_act_238 rfl (lv_at hl 1 rfl) ?_
  refine lv_bipush (v := (14)) hx hb dL_act_239 (by decide) ?_
  refine lv_icmp_ne (tgt := 252) hx hb dL_act_241 (by decide) (fun c15 => ?_) (fun z => absurd z ((by decide)))
  refine lv_iload_n hx hb dL_act_252 rfl (lv_at hl 1 rfl) ?_
  refine lv_bipush (v := (15)) hx hb dL_act_253 (by decide) ?_
  refine lv_icmp_ne (tgt := 267) hx hb dL_act_255 (by decide) (fun z => absurd ((by decide)) z) (fun c16 => ?_)
  refine lv_aload_n hx hb dL_act_258 rfl (lv_at hl 0 rfl) ?_
  refine lv_iload_n hx hb dL_act_259 rfl (lv_at hl 2 rfl) ?_
  refine lv_iload_n hx hb dL_act_260 rfl (lv_at hl 3 rfl) ?_
  refine mcallTV hw k0 rfl rfl ⟨hx, hb, hml, hown, hts⟩ hS (t_X3_worked_2 hl0 hC hwf k hk x hbad) (cwV 2 hts gL_act_X3_worked rfl rfl rfl (by decide +kernel) ⟨Nat.le_of_ble_eq_true rfl, Nat.le_of_ble_eq_true rfl⟩) rfl hl.1 rfl (Nat.le_of_ble_eq_true rfl) dL_act_261 ⟨Nat.le_of_ble_eq_true rfl, Nat.le_of_ble_eq_true rfl⟩ (fun q9 ce H locs hw hS hce hcv hcl => ?_)
  refine vx_catch (name := "java/lang/IllegalArgumentException") (E := "java/lang/IllegalArgumentException") hown [⟨0, 273, 274, 73⟩] ⟨0, 273, 279, 13⟩ [⟨0, 273, 284, 15⟩] htb (fun z hz => by rw [List.mem_singleton.mp hz]; exact Or.inr ⟨by decide, "java/lang/IndexOutOfBoundsException", lk73, hw.1.2.2.2.2.1 ("java/lang/IllegalArgumentException", "java/lang/IndexOutOfBoundsException") (by decide)⟩) (by decide) (by decide) lk13 (va_Nw.use rfl (hw.1.2.2.1 ("java/lang/IllegalArgumentException", "java/lang/IllegalArgumentException") (by decide))) hce hcv hcl ?_
  refine W.eq (g2 := F0 m 279 ls [.ref (q9)]) rfl ?_
  refine lv_astore (lv' := [(6, .ref (q9)), (0, .ref (α (0))), (1, .int (15)), (2, .int (nI (k))), (3, .int (x)), (4, .int (z4)), (5, .int (z5))]) hx hb dL_act_279 hl (by decide) rfl (fun ls hl => ?_)
  refine lv_bipush (v := (-72)) hx hb dL_act_281 (by decide) ?_
  exact W.iret (v := (-72)) hx hb hr (fun t ht hW => ⟨⟨_, (V, α), rfl, ⟨rfl, rfl⟩, by show mH G V α t.heap; rw [ht]; exact hw.2.2⟩, hS.F ht⟩) hS.2.2 dL_act_283

set_option maxHeartbeats 4000000 in
set_option maxRecDepth 100000 in
theorem x_X3_excess_1 {l : Launch} (hl0 : l.stackTraces = false) {G : mG} {V : mV} {α : Nat → Nat} {f : sT} {nr nw ns : Nat} (hC : mC G V α f nr nw ns) (hwf : mwf f nr nw ns) (y x : Int32) (hbad : ¬ inn y 0 (nI nw - 1)) (z4 z5 : Int32) : Met l yL_act wsL_act ({ frames := 8, cells := 1, slots := 6, locals := 127 }) (va_Pc [.ref (α (0)), .int (16), .int (y), .int (x), .int (z4), .int (z5)] (fun U => mW G V α U U.heap)) (va_Qi (fun (r9 : Int32) (u : mV × (Nat → Nat)) => (-71) = r9 ∧ u = (V, α)) (fun u t => mH G u.1 u.2 t.heap) (mfree G)) 1 6 (mfree G) := by
  refine mofWH (cc := cL_act) (maxL := 7) (ret := (some .int)) (hh := [(0, 273, 274, 73), (0, 273, 279, 13), (0, 273, 284, 15)]) (by decide) rfl ?_
  intro p e s m args below meth c s₁ B hml hv
  obtain ⟨rfl, hw⟩ := hv
  have hx := B.exec
  have hb := B.bytes
  have hr := B.returns
  have hts := atoms_spec (ws := wsL_act) B.pre
  have hown : s.vm.findClass RL = some m.cls := findClass_of_methodNamed B.named
  have hlocks := B.notSynchronized
  have hS : va_S (mfree G) s.heap s.heap [] := va_S.rf
  obtain ⟨k0, -⟩ := id hC
  have htb : c.exceptionTable.toList = tableOf [(0, 273, 274, 73), (0, 273, 279, 13), (0, 273, 284, 15)] := vx_table (x := yL_act) B (hts _ List.mem_cons_self)
  have lk73 := hts (.classLink RL 73 "java/lang/IndexOutOfBoundsException") (by decide +kernel)
  have hl := lv_entry ([.ref (α (0)), .int (16), .int (y), .int (x), .int (z4), .int (z5)]) (n := 7) (Nat.le_of_ble_eq_true rfl)
  rw [lg_entry_eq]
  generalize (lg_sl ([.ref (α (0)), .int (16), .int (y), .int (x), .int (z4), .int (z5)]) ++ List.replicate (7 - (lg_sl ([.ref (α (0)), .int (16), .int (y), .int (x), .int (z4), .int (z5)])).length) Slot.unset).toArray = ls at hl ⊢
  have hl : lv_has ls 7 [(0, .ref (α (0))), (1, .int (16)), (2, .int (y)), (3, .int (x)), (4, .int (z4)), (5, .int (z5))] := hl
  refine lv_iload_n hx hb dL_act_0 rfl (lv_at hl 1 rfl) ?_
  refine lv_if_ne (tgt := 13) hx hb dL_act_1 (by decide) (fun c1 => ?_) (fun z => absurd z ((by decide)))
  refine lv_iload_n hx hb dL_act_13 rfl (lv_at hl 1 rfl) ?_
  refine lv_iconst (v := (1)) hx hb dL_act_14 (by decide) ?_
  refine lv_icmp_ne (tgt := 44) hx hb dL_act_15 (by decide) (fun c2 => ?_) (fun z => absurd z ((by decide)))
  refine lv_iload_n hx hb dL_act_44 rfl (lv_at hl 1 rfl) ?_
  refine lv_iconst (v := (2)) hx hb dL_act_45 (by decide) ?_
  refine lv_icmp_ne (tgt := 75) hx hb dL_act_46 (by decide) (fun c3 => ?_) (fun z => absurd z ((by decide)))
  refine lv_iload_n hx hb dL_act_75 rfl (lv_at hl 1 rfl) ?_
  refine lv_iconst (v := (3)) hx hb dL_act_76 (by decide) ?_
  refine lv_icmp_ne (tgt := 88) hx hb dL_act_77 (by decide) (fun c4 => ?_) (fun z => absurd z ((by decide)))
  refine lv_iload_n hx hb dL_act_88 rfl (lv_at hl 1 rfl) ?_
  refine lv_iconst (v := (4)) hx hb dL_act_89 (by decide) ?_
  refine lv_icmp_ne (tgt := 102) hx hb dL_act_90 (by decide) (fun c5 => ?_) (fun z => absurd z ((by decide)))
  refine lv_iload_n hx hb dL_act_102 rfl (lv_at hl 1 rfl) ?_
  refine lv_iconst (v := (5)) hx hb dL_act_103 (by decide) ?_
  refine lv_icmp_ne (tgt := 120) hx hb dL_act_104 (by decide) (fun c6 => ?_) (fun z => absurd z ((by decide)))
  refine lv_iload_n hx hb dL_act_120 rfl (lv_at hl 1 rfl) ?_
  refine lv_bipush (v := (6)) hx hb dL_act_121 (by decide) ?_
  refine lv_icmp_ne (tgt := 134) hx hb dL_act_123 (by decide) (fun c7 => ?_) (fun z => absurd z ((by decide)))
  refine lv_iload_n hx hb dL_act_134 rfl (lv_at hl 1 rfl) ?_
  refine lv_bipush (v := (7)) hx hb dL_act_135 (by decide) ?_
  refine lv_icmp_ne (tgt := 149) hx hb dL_act_137 (by decide) (fun c8 => ?_) (fun z => absurd z ((by decide)))
  refine lv_iload_n hx hb dL_act_149 rfl (lv_at hl 1 rfl) ?_
  refine lv_bipush (v := (8)) hx hb dL_act_150 (by decide) ?_
  refine lv_icmp_ne (tgt := 163) hx hb dL_act_152 (by decide) (fun c9 => ?_) (fun z => absurd z ((by decide)))
  refine lv_iload_n hx hb dL_act_163 rfl (lv_at hl 1 rfl) ?_
  refine lv_bipush (v := (9)) hx hb dL_act_164 (by decide) ?_
  refine lv_icmp_ne (tgt := 178) hx hb dL_act_166 (by decide) (fun c10 => ?_) (fun z => absurd z ((by decide)))
  refine lv_iload_n hx hb dL_act_178 rfl (lv_at hl 1 rfl) ?_
  refine lv_bipush (v := (10)) hx hb dL_act_179 (by decide) ?_
  refine lv_icmp_ne (tgt := 193) hx hb dL_act_181 (by decide) (fun c11 => ?_) (fun z => absurd z ((by decide)))
  refine lv_iload_n hx hb dL_act_193 rfl (lv_at hl 1 rfl) ?_
  refine lv_bipush (v := (11)) hx hb dL_act_194 (by decide) ?_
  refine lv_icmp_ne (tgt := 207) hx hb dL_act_196 (by decide) (fun c12 => ?_) (fun z => absurd z ((by decide)))
  refine lv_iload_n hx hb dL_act_207 rfl (lv_at hl 1 rfl) ?_
  refine lv_bipush (v := (12)) hx hb dL_act_208 (by decide) ?_
  refine lv_icmp_ne (tgt := 221) hx hb dL_act_210 (by decide) (fun c13 => ?_) (fun z => absurd z ((by decide)))
  refine lv_iload_n hx hb dL_act_221 rfl (lv_at hl 1 rfl) ?_
  refine lv_bipush (v := (13)) hx hb dL_act_222 (by decide) ?_
  refine lv_icmp_ne (tgt := 238) hx hb dL_act_224 (by decide) (fun c14 => ?_) (fun z => absurd z ((by decide)))
  refine lv_iload_n hx hb dL_act_238 rfl (lv_at hl 1 rfl) ?_
  refine lv_bipush (v := (14)) hx hb dL_act_239 (by decide) ?_
  refine lv_icmp_ne (tgt := 252) hx hb dL_act_241 (by decide) (fun c15 => ?_) (fun z => absurd z ((by decide)))
  refine lv_iload_n hx hb dL_act_252 rfl (lv_at hl 1 rfl) ?_
  refine lv_bipush (v := (15)) hx hb dL_act_253 (by decide) ?_
  refine lv_icmp_ne (tgt := 267) hx hb dL_act_255 (by decide) (fun c16 => ?_) (fun z => absurd z ((by decide)))
  refine lv_aload_n hx hb dL_act_267 rfl (lv_at hl 0 rfl) ?_
  refine lv_iload_n hx hb dL_act_268 rfl (lv_at hl 2 rfl) ?_
  refine lv_iload_n hx hb dL_act_269 rfl (lv_at hl 3 rfl) ?_
  refine mcallTV hw k0 rfl rfl ⟨hx, hb, hml, hown, hts⟩ hS (t_X3_excess_1 hl0 hC hwf y x hbad) (cwV 2 hts gL_act_X3_excess rfl rfl rfl (by decide +kernel) ⟨Nat.le_of_ble_eq_true rfl, Nat.le_of_ble_eq_true rfl⟩) rfl hl.1 rfl (Nat.le_of_ble_eq_true rfl) dL_act_270 ⟨Nat.le_of_ble_eq_true rfl, Nat.le_of_ble_eq_true rfl⟩ (fun q9 ce H locs hw hS hce hcv hcl => ?_)
  refine vx_catch (name := "java/lang/IndexOutOfBoundsException") (E := "java/lang/IndexOutOfBoundsException") hown [] ⟨0, 273, 274, 73⟩ [⟨0, 273, 279, 13⟩, ⟨0, 273, 284, 15⟩] htb (fun z hz => absurd hz List.not_mem_nil) (by decide) (by decide) lk73 (va_Nw.use rfl (hw.1.2.2.1 ("java/lang/IndexOutOfBoundsException", "java/lang/IndexOutOfBoundsException") (by decide))) hce hcv hcl ?_
  refine W.eq (g2 := F0 m 274 ls [.ref (q9)]) rfl ?_
  refine lv_astore (lv' := [(6, .ref (q9)), (0, .ref (α (0))), (1, .int (16)), (2, .int (y)), (3, .int (x)), (4, .int (z4)), (5, .int (z5))]) hx hb dL_act_274 hl (by decide) rfl (fun ls hl => ?_)
  refine lv_bipush (v := (-71)) hx hb dL_act_276 (by decide) ?_
  exact W.iret (v := (-71)) hx hb hr (fun t ht hW => ⟨⟨_, (V, α), rfl, ⟨rfl, rfl⟩, by show mH G V α t.heap; rw [ht]; exact hw.2.2⟩, hS.F ht⟩) hS.2.2 dL_act_278

set_option maxHeartbeats 4000000 in
set_option maxRecDepth 100000 in
theorem x_X3_excess_2 {l : Launch} (hl0 : l.stackTraces = false) {G : mG} {V : mV} {α : Nat → Nat} {f : sT} {nr nw ns : Nat} (hC : mC G V α f nr nw ns) (hwf : mwf f nr nw ns) (k : Nat) (hk : k < nw) (x : Int32) (hbad : ¬ inn x 0 12) (z4 z5 : Int32) : Met l yL_act wsL_act ({ frames := 8, cells := 1, slots := 6, locals := 128 }) (va_Pc [.ref (α (0)), .int (16), .int (nI (k)), .int (x), .int (z4), .int (z5)] (fun U => mW G V α U U.heap)) (va_Qi (fun (r9 : Int32) (u : mV × (Nat → Nat)) => (-72) = r9 ∧ u = (V, α)) (fun u t => mH G u.1 u.2 t.heap) (mfree G)) 1 6 (mfree G) := by
  refine mofWH (cc := cL_act) (maxL := 7) (ret := (some .int)) (hh := [(0, 273, 274, 73), (0, 273, 279, 13), (0, 273, 284, 15)]) (by decide) rfl ?_
  intro p e s m args below meth c s₁ B hml hv
  obtain ⟨rfl, hw⟩ := hv
  have hx := B.exec
  have hb := B.bytes
  have hr := B.returns
  have hts := atoms_spec (ws := wsL_act) B.pre
  have hown : s.vm.findClass RL = some m.cls := findClass_of_methodNamed B.named
  have hlocks := B.notSynchronized
  have hS : va_S (mfree G) s.heap s.heap [] := va_S.rf
  obtain ⟨k0, -⟩ := id hC
  have htb : c.exceptionTable.toList = tableOf [(0, 273, 274, 73), (0, 273, 279, 13), (0, 273, 284, 15)] := vx_table (x := yL_act) B (hts _ List.mem_cons_self)
  have lk73 := hts (.classLink RL 73 "java/lang/IndexOutOfBoundsException") (by decide +kernel)
  have lk13 := hts (.classLink RL 13 "java/lang/IllegalArgumentException") (by decide +kernel)
  have hl := lv_entry ([.ref (α (0)), .int (16), .int (nI (k)), .int (x), .int (z4), .int (z5)]) (n := 7) (Nat.le_of_ble_eq_true rfl)
  rw [lg_entry_eq]
  generalize (lg_sl ([.ref (α (0)), .int (16), .int (nI (k)), .int (x), .int (z4), .int (z5)]) ++ List.replicate (7 - (lg_sl ([.ref (α (0)), .int (16), .int (nI (k)), .int (x), .int (z4), .int (z5)])).length) Slot.unset).toArray = ls at hl ⊢
  have hl : lv_has ls 7 [(0, .ref (α (0))), (1, .int (16)), (2, .int (nI (k))), (3, .int (x)), (4, .int (z4)), (5, .int (z5))] := hl
  refine lv_iload_n hx hb dL_act_0 rfl (lv_at hl 1 rfl) ?_
  refine lv_if_ne (tgt := 13) hx hb dL_act_1 (by decide) (fun c1 => ?_) (fun z => absurd z ((by decide)))
  refine lv_iload_n hx hb dL_act_13 rfl (lv_at hl 1 rfl) ?_
  refine lv_iconst (v := (1)) hx hb dL_act_14 (by decide) ?_
  refine lv_icmp_ne (tgt := 44) hx hb dL_act_15 (by decide) (fun c2 => ?_) (fun z => absurd z ((by decide)))
  refine lv_iload_n hx hb dL_act_44 rfl (lv_at hl 1 rfl) ?_
  refine lv_iconst (v := (2)) hx hb dL_act_45 (by decide) ?_
  refine lv_icmp_ne (tgt := 75) hx hb dL_act_46 (by decide) (fun c3 => ?_) (fun z => absurd z ((by decide)))
  refine lv_iload_n hx hb dL_act_75 rfl (lv_at hl 1 rfl) ?_
  refine lv_iconst (v := (3)) hx hb dL_act_76 (by decide) ?_
  refine lv_icmp_ne (tgt := 88) hx hb dL_act_77 (by decide) (fun c4 => ?_) (fun z => absurd z ((by decide)))
  refine lv_iload_n hx hb dL_act_88 rfl (lv_at hl 1 rfl) ?_
  refine lv_iconst (v := (4)) hx hb dL_act_89 (by decide) ?_
  refine lv_icmp_ne (tgt := 102) hx hb dL_act_90 (by decide) (fun c5 => ?_) (fun z => absurd z ((by decide)))
  refine lv_iload_n hx hb dL_act_102 rfl (lv_at hl 1 rfl) ?_
  refine lv_iconst (v := (5)) hx hb dL_act_103 (by decide) ?_
  refine lv_icmp_ne (tgt := 120) hx hb dL_act_104 (by decide) (fun c6 => ?_) (fun z => absurd z ((by decide)))
  refine lv_iload_n hx hb dL_act_120 rfl (lv_at hl 1 rfl) ?_
  refine lv_bipush (v := (6)) hx hb dL_act_121 (by decide) ?_
  refine lv_icmp_ne (tgt := 134) hx hb dL_act_123 (by decide) (fun c7 => ?_) (fun z => absurd z ((by decide)))
  refine lv_iload_n hx hb dL_act_134 rfl (lv_at hl 1 rfl) ?_
  refine lv_bipush (v := (7)) hx hb dL_act_135 (by decide) ?_
  refine lv_icmp_ne (tgt := 149) hx hb dL_act_137 (by decide) (fun c8 => ?_) (fun z => absurd z ((by decide)))
  refine lv_iload_n hx hb dL_act_149 rfl (lv_at hl 1 rfl) ?_
  refine lv_bipush (v := (8)) hx hb dL_act_150 (by decide) ?_
  refine lv_icmp_ne (tgt := 163) hx hb dL_act_152 (by decide) (fun c9 => ?_) (fun z => absurd z ((by decide)))
  refine lv_iload_n hx hb dL_act_163 rfl (lv_at hl 1 rfl) ?_
  refine lv_bipush (v := (9)) hx hb dL_act_164 (by decide) ?_
  refine lv_icmp_ne (tgt := 178) hx hb dL_act_166 (by decide) (fun c10 => ?_) (fun z => absurd z ((by decide)))
  refine lv_iload_n hx hb dL_act_178 rfl (lv_at hl 1 rfl) ?_
  refine lv_bipush (v := (10)) hx hb dL_act_179 (by decide) ?_
  refine lv_icmp_ne (tgt := 193) hx hb dL_act_181 (by decide) (fun c11 => ?_) (fun z => absurd z ((by decide)))
  refine lv_iload_n hx hb dL_act_193 rfl (lv_at hl 1 rfl) ?_
  refine lv_bipush (v := (11)) hx hb dL_act_194 (by decide) ?_
  refine lv_icmp_ne (tgt := 207) hx hb dL_act_196 (by decide) (fun c12 => ?_) (fun z => absurd z ((by decide)))
  refine lv_iload_n hx hb dL_act_207 rfl (lv_at hl 1 rfl) ?_
  refine lv_bipush (v := (12)) hx hb dL_act_208 (by decide) ?_
  refine lv_icmp_ne (tgt := 221) hx hb dL_act_210 (by decide) (fun c13 => ?_) (fun z => absurd z ((by decide)))
  refine lv_iload_n hx hb dL_act_221 rfl (lv_at hl 1 rfl) ?_
  refine lv_bipush (v := (13)) hx hb dL_act_222 (by decide) ?_
  refine lv_icmp_ne (tgt := 238) hx hb dL_act_224 (by decide) (fun c14 => ?_) (fun z => absurd z ((by decide)))
  refine lv_iload_n hx hb dL_act_238 rfl (lv_at hl 1 rfl) ?_
  refine lv_bipush (v := (14)) hx hb dL_act_239 (by decide) ?_
  refine lv_icmp_ne (tgt := 252) hx hb dL_act_241 (by decide) (fun c15 => ?_) (fun z => absurd z ((by decide)))
  refine lv_iload_n hx hb dL_act_252 rfl (lv_at hl 1 rfl) ?_
  refine lv_bipush (v := (15)) hx hb dL_act_253 (by decide) ?_
  refine lv_icmp_ne (tgt := 267) hx hb dL_act_255 (by decide) (fun c16 => ?_) (fun z => absurd z ((by decide)))
  refine lv_aload_n hx hb dL_act_267 rfl (lv_at hl 0 rfl) ?_
  refine lv_iload_n hx hb dL_act_268 rfl (lv_at hl 2 rfl) ?_
  refine lv_iload_n hx hb dL_act_269 rfl (lv_at hl 3 rfl) ?_
  refine mcallTV hw k0 rfl rfl ⟨hx, hb, hml, hown, hts⟩ hS (t_X3_excess_2 hl0 hC hwf k hk x hbad) (cwV 2 hts gL_act_X3_excess rfl rfl rfl (by decide +kernel) ⟨Nat.le_of_ble_eq_true rfl, Nat.le_of_ble_eq_true rfl⟩) rfl hl.1 rfl (Nat.le_of_ble_eq_true rfl) dL_act_270 ⟨Nat.le_of_ble_eq_true rfl, Nat.le_of_ble_eq_true rfl⟩ (fun q9 ce H locs hw hS hce hcv hcl => ?_)
  refine vx_catch (name := "java/lang/IllegalArgumentException") (E := "java/lang/IllegalArgumentException") hown [⟨0, 273, 274, 73⟩] ⟨0, 273, 279, 13⟩ [⟨0, 273, 284, 15⟩] htb (fun z hz => by rw [List.mem_singleton.mp hz]; exact Or.inr ⟨by decide, "java/lang/IndexOutOfBoundsException", lk73, hw.1.2.2.2.2.1 ("java/lang/IllegalArgumentException", "java/lang/IndexOutOfBoundsException") (by decide)⟩) (by decide) (by decide) lk13 (va_Nw.use rfl (hw.1.2.2.1 ("java/lang/IllegalArgumentException", "java/lang/IllegalArgumentException") (by decide))) hce hcv hcl ?_
  refine W.eq (g2 := F0 m 279 ls [.ref (q9)]) rfl ?_
  refine lv_astore (lv' := [(6, .ref (q9)), (0, .ref (α (0))), (1, .int (16)), (2, .int (nI (k))), (3, .int (x)), (4, .int (z4)), (5, .int (z5))]) hx hb dL_act_279 hl (by decide) rfl (fun ls hl => ?_)
  refine lv_bipush (v := (-72)) hx hb dL_act_281 (by decide) ?_
  exact W.iret (v := (-72)) hx hb hr (fun t ht hW => ⟨⟨_, (V, α), rfl, ⟨rfl, rfl⟩, by show mH G V α t.heap; rw [ht]; exact hw.2.2⟩, hS.F ht⟩) hS.2.2 dL_act_283

set_option maxHeartbeats 4000000 in
set_option maxRecDepth 100000 in
theorem x_X3_addRule_1 {l : Launch} (hl0 : l.stackTraces = false) {G : mG} {V : mV} {α : Nat → Nat} {f : sT} {nr nw ns : Nat} (hC : mC G V α f nr nw ns) (hwf : mwf f nr nw ns) (x1 x2 x3 x4 x5 : Int32) (hbad : ¬ (inn x1 0 127 ∧ inn x2 0 95 ∧ inn x3 (x2 + 1) 96 ∧ inn x4 1 15 ∧ inn x5 100 400)) : Met l yL_rule wsL_rule ({ frames := 8, cells := 1, slots := 6, locals := 130 }) (va_Pc [.ref (α (0)), .int (x1), .int (x2), .int (x3), .int (x4), .int (x5)] (fun U => mW G V α U U.heap)) (va_Qi (fun (r9 : Int32) (u : mV × (Nat → Nat)) => (-72) = r9 ∧ u = (V, α)) (fun u t => mH G u.1 u.2 t.heap) (mfree G)) 1 6 (mfree G) := by
  refine mofWH (cc := cL_rule) (maxL := 7) (ret := (some .int)) (hh := [(0, 11, 12, 13), (0, 11, 17, 15)]) (by decide) rfl ?_
  intro p e s m args below meth c s₁ B hml hv
  obtain ⟨rfl, hw⟩ := hv
  have hx := B.exec
  have hb := B.bytes
  have hr := B.returns
  have hts := atoms_spec (ws := wsL_rule) B.pre
  have hown : s.vm.findClass RL = some m.cls := findClass_of_methodNamed B.named
  have hlocks := B.notSynchronized
  have hS : va_S (mfree G) s.heap s.heap [] := va_S.rf
  obtain ⟨k0, -⟩ := id hC
  have htb : c.exceptionTable.toList = tableOf [(0, 11, 12, 13), (0, 11, 17, 15)] := vx_table (x := yL_rule) B (hts _ List.mem_cons_self)
  have lk13 := hts (.classLink RL 13 "java/lang/IllegalArgumentException") (by decide +kernel)
  have hl := lv_entry ([.ref (α (0)), .int (x1), .int (x2), .int (x3), .int (x4), .int (x5)]) (n := 7) (Nat.le_of_ble_eq_true rfl)
  rw [lg_entry_eq]
  generalize (lg_sl ([.ref (α (0)), .int (x1), .int (x2), .int (x3), .int (x4), .int (x5)]) ++ List.replicate (7 - (lg_sl ([.ref (α (0)), .int (x1), .int (x2), .int (x3), .int (x4), .int (x5)])).length) Slot.unset).toArray = ls at hl ⊢
  have hl : lv_has ls 7 [(0, .ref (α (0))), (1, .int (x1)), (2, .int (x2)), (3, .int (x3)), (4, .int (x4)), (5, .int (x5))] := hl
  refine lv_aload_n hx hb dL_rule_0 rfl (lv_at hl 0 rfl) ?_
  refine lv_iload_n hx hb dL_rule_1 rfl (lv_at hl 1 rfl) ?_
  refine lv_iload_n hx hb dL_rule_2 rfl (lv_at hl 2 rfl) ?_
  refine lv_iload_n hx hb dL_rule_3 rfl (lv_at hl 3 rfl) ?_
  refine lv_iload hx hb dL_rule_4 (lv_at hl 4 rfl) ?_
  refine lv_iload hx hb dL_rule_6 (lv_at hl 5 rfl) ?_
  refine mcallTV hw k0 rfl rfl ⟨hx, hb, hml, hown, hts⟩ hS (t_X3_addRule_1 hl0 hC hwf x1 x2 x3 x4 x5 hbad) (cwV 5 hts gL_rule_X3_addRule rfl rfl rfl (by decide +kernel) ⟨Nat.le_of_ble_eq_true rfl, Nat.le_of_ble_eq_true rfl⟩) rfl hl.1 rfl (Nat.le_of_ble_eq_true rfl) dL_rule_8 ⟨Nat.le_of_ble_eq_true rfl, Nat.le_of_ble_eq_true rfl⟩ (fun q9 ce H locs hw hS hce hcv hcl => ?_)
  refine vx_catch (name := "java/lang/IllegalArgumentException") (E := "java/lang/IllegalArgumentException") hown [] ⟨0, 11, 12, 13⟩ [⟨0, 11, 17, 15⟩] htb (fun z hz => absurd hz List.not_mem_nil) (by decide) (by decide) lk13 (va_Nw.use rfl (hw.1.2.2.1 ("java/lang/IllegalArgumentException", "java/lang/IllegalArgumentException") (by decide))) hce hcv hcl ?_
  refine W.eq (g2 := F0 m 12 ls [.ref (q9)]) rfl ?_
  refine lv_astore (lv' := [(6, .ref (q9)), (0, .ref (α (0))), (1, .int (x1)), (2, .int (x2)), (3, .int (x3)), (4, .int (x4)), (5, .int (x5))]) hx hb dL_rule_12 hl (by decide) rfl (fun ls hl => ?_)
  refine lv_bipush (v := (-72)) hx hb dL_rule_14 (by decide) ?_
  exact W.iret (v := (-72)) hx hb hr (fun t ht hW => ⟨⟨_, (V, α), rfl, ⟨rfl, rfl⟩, by show mH G V α t.heap; rw [ht]; exact hw.2.2⟩, hS.F ht⟩) hS.2.2 dL_rule_16

set_option maxHeartbeats 4000000 in
set_option maxRecDepth 100000 in
theorem x_X3_addRule_2 {l : Launch} (hl0 : l.stackTraces = false) {G : mG} {V : mV} {α : Nat → Nat} {f : sT} {nr nw ns : Nat} (hC : mC G V α f nr nw ns) (hwf : mwf f nr nw ns) (x1 x2 x3 x4 x5 : Int32) (q1 : inn x1 0 127) (q2 : inn x2 0 95) (q3 : inn x3 (x2 + 1) 96) (q4 : inn x4 1 15) (q5 : inn x5 100 400) (hfull : nr = 16) : Met l yL_rule wsL_rule ({ frames := 7, cells := 1, slots := 6, locals := 108 }) (va_Pc [.ref (α (0)), .int (x1), .int (x2), .int (x3), .int (x4), .int (x5)] (fun U => mW G V α U U.heap)) (va_Qi (fun (r9 : Int32) (u : mV × (Nat → Nat)) => (-73) = r9 ∧ u = (V, α)) (fun u t => mH G u.1 u.2 t.heap) (mfree G)) 1 6 (mfree G) := by
  refine mofWH (cc := cL_rule) (maxL := 7) (ret := (some .int)) (hh := [(0, 11, 12, 13), (0, 11, 17, 15)]) (by decide) rfl ?_
  intro p e s m args below meth c s₁ B hml hv
  obtain ⟨rfl, hw⟩ := hv
  have hx := B.exec
  have hb := B.bytes
  have hr := B.returns
  have hts := atoms_spec (ws := wsL_rule) B.pre
  have hown : s.vm.findClass RL = some m.cls := findClass_of_methodNamed B.named
  have hlocks := B.notSynchronized
  have hS : va_S (mfree G) s.heap s.heap [] := va_S.rf
  obtain ⟨k0, -⟩ := id hC
  have htb : c.exceptionTable.toList = tableOf [(0, 11, 12, 13), (0, 11, 17, 15)] := vx_table (x := yL_rule) B (hts _ List.mem_cons_self)
  have lk13 := hts (.classLink RL 13 "java/lang/IllegalArgumentException") (by decide +kernel)
  have lk15 := hts (.classLink RL 15 "java/lang/IllegalStateException") (by decide +kernel)
  have hl := lv_entry ([.ref (α (0)), .int (x1), .int (x2), .int (x3), .int (x4), .int (x5)]) (n := 7) (Nat.le_of_ble_eq_true rfl)
  rw [lg_entry_eq]
  generalize (lg_sl ([.ref (α (0)), .int (x1), .int (x2), .int (x3), .int (x4), .int (x5)]) ++ List.replicate (7 - (lg_sl ([.ref (α (0)), .int (x1), .int (x2), .int (x3), .int (x4), .int (x5)])).length) Slot.unset).toArray = ls at hl ⊢
  have hl : lv_has ls 7 [(0, .ref (α (0))), (1, .int (x1)), (2, .int (x2)), (3, .int (x3)), (4, .int (x4)), (5, .int (x5))] := hl
  refine lv_aload_n hx hb dL_rule_0 rfl (lv_at hl 0 rfl) ?_
  refine lv_iload_n hx hb dL_rule_1 rfl (lv_at hl 1 rfl) ?_
  refine lv_iload_n hx hb dL_rule_2 rfl (lv_at hl 2 rfl) ?_
  refine lv_iload_n hx hb dL_rule_3 rfl (lv_at hl 3 rfl) ?_
  refine lv_iload hx hb dL_rule_4 (lv_at hl 4 rfl) ?_
  refine lv_iload hx hb dL_rule_6 (lv_at hl 5 rfl) ?_
  refine mcallTV hw k0 rfl rfl ⟨hx, hb, hml, hown, hts⟩ hS (t_X3_addRule_2 hl0 hC hwf x1 x2 x3 x4 x5 q1 q2 q3 q4 q5 hfull) (cwV 5 hts gL_rule_X3_addRule rfl rfl rfl (by decide +kernel) ⟨Nat.le_of_ble_eq_true rfl, Nat.le_of_ble_eq_true rfl⟩) rfl hl.1 rfl (Nat.le_of_ble_eq_true rfl) dL_rule_8 ⟨Nat.le_of_ble_eq_true rfl, Nat.le_of_ble_eq_true rfl⟩ (fun q9 ce H locs hw hS hce hcv hcl => ?_)
  refine vx_catch (name := "java/lang/IllegalStateException") (E := "java/lang/IllegalStateException") hown [⟨0, 11, 12, 13⟩] ⟨0, 11, 17, 15⟩ [] htb (fun z hz => by rw [List.mem_singleton.mp hz]; exact Or.inr ⟨by decide, "java/lang/IllegalArgumentException", lk13, hw.1.2.2.2.2.1 ("java/lang/IllegalStateException", "java/lang/IllegalArgumentException") (by decide)⟩) (by decide) (by decide) lk15 (va_Nw.use rfl (hw.1.2.2.1 ("java/lang/IllegalStateException", "java/lang/IllegalStateException") (by decide))) hce hcv hcl ?_
  refine W.eq (g2 := F0 m 17 ls [.ref (q9)]) rfl ?_
  refine lv_astore (lv' := [(6, .ref (q9)), (0, .ref (α (0))), (1, .int (x1)), (2, .int (x2)), (3, .int (x3)), (4, .int (x4)), (5, .int (x5))]) hx hb dL_rule_17 hl (by decide) rfl (fun ls hl => ?_)
  refine lv_bipush (v := (-73)) hx hb dL_rule_19 (by decide) ?_
  exact W.iret (v := (-73)) hx hb hr (fun t ht hW => ⟨⟨_, (V, α), rfl, ⟨rfl, rfl⟩, by show mH G V α t.heap; rw [ht]; exact hw.2.2⟩, hS.F ht⟩) hS.2.2 dL_rule_21

set_option maxHeartbeats 4000000 in
set_option maxRecDepth 100000 in
theorem w_X3_addRule {l : Launch} {G : mG} {V : mV} {α : Nat → Nat} {f : sT} {nr nw ns : Nat} (hC : mC G V α f nr nw ns) (hwf : mwf f nr nw ns) (x1 x2 x3 x4 x5 : Int32) (q1 : inn x1 0 127) (q2 : inn x2 0 95) (q3 : inn x3 (x2 + 1) 96) (q4 : inn x4 1 15) (q5 : inn x5 100 400) (hn9 : nr < 16) : Met l yL_rule wsL_rule ({ frames := 8, cells := 2, slots := 210, locals := 316 }) (va_Pc [.ref (α (0)), .int (x1), .int (x2), .int (x3), .int (x4), .int (x5)] (fun U => mW G V α U U.heap)) (va_Qi (fun (r9 : Int32) (u : mV × (Nat → Nat)) => nI nr = r9 ∧ mCQ G V α u (u2 (u2 (u2 (u2 (u2 f 1 nr x1) 2 nr x2) 3 nr x3) 4 nr x4) 5 nr x5) (nr + 1) nw ns) (fun u t => mH G u.1 u.2 t.heap) (mfree G)) 2 210 (mfree G) := by
  refine mofWH (cc := cL_rule) (maxL := 7) (ret := (some .int)) (hh := [(0, 11, 12, 13), (0, 11, 17, 15)]) (by decide) rfl ?_
  intro p e s m args below meth c s₁ B hml hv
  obtain ⟨rfl, hw⟩ := hv
  have hx := B.exec
  have hb := B.bytes
  have hr := B.returns
  have hts := atoms_spec (ws := wsL_rule) B.pre
  have hown : s.vm.findClass RL = some m.cls := findClass_of_methodNamed B.named
  have hlocks := B.notSynchronized
  have hS : va_S (mfree G) s.heap s.heap [] := va_S.rf
  obtain ⟨k0, -⟩ := id hC
  have htb : c.exceptionTable.toList = tableOf [(0, 11, 12, 13), (0, 11, 17, 15)] := vx_table (x := yL_rule) B (hts _ List.mem_cons_self)
  have hl := lv_entry ([.ref (α (0)), .int (x1), .int (x2), .int (x3), .int (x4), .int (x5)]) (n := 7) (Nat.le_of_ble_eq_true rfl)
  rw [lg_entry_eq]
  generalize (lg_sl ([.ref (α (0)), .int (x1), .int (x2), .int (x3), .int (x4), .int (x5)]) ++ List.replicate (7 - (lg_sl ([.ref (α (0)), .int (x1), .int (x2), .int (x3), .int (x4), .int (x5)])).length) Slot.unset).toArray = ls at hl ⊢
  have hl : lv_has ls 7 [(0, .ref (α (0))), (1, .int (x1)), (2, .int (x2)), (3, .int (x3)), (4, .int (x4)), (5, .int (x5))] := hl
  refine lv_aload_n hx hb dL_rule_0 rfl (lv_at hl 0 rfl) ?_
  refine lv_iload_n hx hb dL_rule_1 rfl (lv_at hl 1 rfl) ?_
  refine lv_iload_n hx hb dL_rule_2 rfl (lv_at hl 2 rfl) ?_
  refine lv_iload_n hx hb dL_rule_3 rfl (lv_at hl 3 rfl) ?_
  refine lv_iload hx hb dL_rule_4 (lv_at hl 4 rfl) ?_
  refine lv_iload hx hb dL_rule_6 (lv_at hl 5 rfl) ?_
  refine mcallVw hw k0 rfl rfl ⟨hx, hb, hml, hown, hts⟩ hS (c_X3_addRule hC hwf x1 x2 x3 x4 x5 q1 q2 q3 q4 q5 hn9) (cwV 5 hts gL_rule_X3_addRule rfl rfl rfl (by decide +kernel) ⟨Nat.le_of_ble_eq_true rfl, Nat.le_of_ble_eq_true rfl⟩) rfl hl.1 rfl (Nat.le_of_ble_eq_true rfl) dL_rule_8 ⟨Nat.le_of_ble_eq_true rfl, Nat.le_of_ble_eq_true rfl⟩ (fun r9 V1 α1 H locs hq hw hS => ?_)
  obtain ⟨er, hC1⟩ := hq
  subst er
  exact W.iret (v := nI nr) hx hb hr (fun t ht hW => ⟨⟨_, (V1, α1), rfl, ⟨rfl, hC1⟩, by show mH G V1 α1 t.heap; rw [ht]; exact hw.2.2⟩, hS.F ht⟩) hS.2.2 dL_rule_11
