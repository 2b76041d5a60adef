/-! the law's own static methods: they call and catch -/
theorem vin01 : vp_in 0 1 := vp_in_nI (n := 0) (N := 1) (by omega) (by decide)
theorem mC.out {G : mG} {V V1 : mV} {α : Nat → Nat} {f : sT} {nr nw ns : Nat} (h : mC G V α f nr nw ns) (hV : ∀ j, j ≠ 9 → V1 j = V j) : mC G V1 α f nr nw ns := by
  obtain ⟨k0, k1, k2, l3, l4, l5, cR, cW, cS, fR, fW, fS⟩ := h
  exact ⟨(hV _ (by omega)).trans k0, (hV _ (by omega)).trans k1, (hV _ (by omega)).trans k2, l3.keep (fun j hj => hV _ (by omega)), l4.keep (fun j hj => hV _ (by omega)), l5.keep (fun j hj => hV _ (by omega)),
    fun z hz => (hV _ (by omega)).trans (cR z hz), fun z hz => (hV _ (by omega)).trans (cW z hz), fun z hz => (hV _ (by omega)).trans (cS z hz), fun z h1 h2 => (hV _ (by omega)).trans (fR z h1 h2), fun z h1 h2 => (hV _ (by omega)).trans (fW z h1 h2), fun z h1 h2 => (hV _ (by omega)).trans (fS z h1 h2)⟩
/-- what a call leaves: the class's cells with the new state, the rest as it was, the answer in the row -/
def mPQ (G : mG) (V : mV) (α : Nat → Nat) (u : mV × (Nat → Nat)) (f : sT) (nr nw ns : Nat) (x : Int64) : Prop := mC G u.1 u.2 f nr nw ns ∧ (∀ j, j < 100 → (10 ≤ j → u.1 j = V j) ∧ u.2 j = α j) ∧ ∃ g : Nat → Int64, u.1 9 = some (.inl (G.2.2.2.2.1, 1, .inr (.inl g))) ∧ g 0 = x
theorem mofWH {l : Launch} {y : MethodName} {ws ws' : List Cond} {rm : Room} {Pc : Array Value → State → Prop} {Qc : Array Value → State → Outcome → State → Prop} {mc ms : Nat} {free : Addr → Prop} {cc : ByteArray} {maxL : Nat} {ret : Option FieldType} {hh : List (Nat × Nat × Nat × Nat)}
  (hy : plainName y.cls = true) (hw : ws = Cond.codeWith y cc maxL ret hh :: ws')
  (body : ∀ p e s m args below meth c s₁, BodyLoose p l y (headSpec ws rm) cc maxL ret e s m args below meth c s₁ → c.maxLocals = maxL → Pc args s →
    W p l e (headSpec ws rm).room s m args below meth c s.heap [] 0 0 (MQ below Qc args s mc ms free) (entryFrame m args maxL)) : Met l y ws rm Pc Qc mc ms free := by
  refine MetFree.of_bodyS (code := cc) (maxLocals := maxL) (ret := ret) hy ?_ ?_
  · intro args s m h hn
    obtain ⟨m9, meth, c, hn9, h1, h2, h3, h4, -, h5, h6, -⟩ := Cond.codeWith_spec (atoms_spec (ws := ws) h _ (by rw [hw]; exact List.mem_cons_self))
    cases hn.symm.trans hn9
    exact ⟨meth, c, h1, h2, h3, h4, h5, h6⟩
  · intro p e s m args below meth c s₁ B hml hP _
    have hh0 : s₁.heap = s.heap := by rw [B.state]; rfl
    obtain ⟨t, a1, o, b1, b2, b3⟩ := body p e s m args below meth c s₁ B hml hP s₁ hh0 (Stand.of_body B)
    exact ⟨t, o, a1, b1, b2, b3⟩
theorem mcallSWi {p : Program} {l : Launch} {e : Env} {R : Room} {s : State} {m : MethodId} {args : Array Value} {below : List Frame} {meth : Method} {c : Code} {H : Heap} {locs : List Loc} {cells slots : Nat} {Q : State → Prop}
    {cc : ByteArray} {pc : Nat} {ls : Array Slot} {rest : List Value} {G : mG} {V : mV} {α : Nat → Nat} {y : MethodName} {bytes : ByteArray} {maxL nL n index mc ms : Nat} {ret : Option FieldType} {hh : List (Nat × Nat × Nat × Nat)} {ws Ts : List Cond} {rm : Room} {own : String} {As st0 : List Value} {post : Int32 → mV × (Nat → Nat) → Prop} (hw : mW G V α s H) (S : CallFix p m c cc nL s args Ts own) (hS : va_S (mfree G) s.heap H locs) (hM : Met l y ws rm (va_Pc As (fun U => mW G V α U U.heap)) (va_Qi post (fun u t => mH G u.1 u.2 t.heap) (mfree G)) mc ms (mfree G)) (cw : vx_CSW R s args own index y bytes maxL ret hh ws rm mc ms n)
    (hn : As.length = n) (hsize : ls.size = nL) (hstack : st0 = As.reverse ++ rest) (hW : (rest.map fun v => v.category).sum ≤ 8) (hdg : decode cc pc = .ok (.invokestatic index, 3)) (hf : cells + mc ≤ R.cells ∧ slots + ms ≤ R.slots)
    (kk : ∀ (r : Int32) (V1 : mV) (α1 : Nat → Nat) (H1 : Heap) (locs1 : List Loc), post r (V1, α1) → mW G V1 α1 s H1 → va_S (mfree G) s.heap H1 locs1 → W p l e R s m args below meth c H1 locs1 (cells + mc) (slots + ms) Q (F0 m (pc + 3) ls (.int r :: rest))) : W p l e R s m args below meth c H locs cells slots Q (F0 m pc ls st0) := by
  subst hstack
  exact va_calli (vx_runSW (g := F0 m pc ls (As.reverse ++ rest)) S hM cw ⟨mPcB, fun U hU hWm => ⟨rfl, by show mW G V α U U.heap; rw [hU]; exact hw.warm hWm⟩⟩ rfl hn hsize rfl (lv_room hW) hdg hf) hS (fun q _ h => h) (fun q h => h)
    (fun r u t H1 locs1 ht hvm hp hB hz hk hS1 => kk r u.1 u.2 H1 locs1 hp (hw.at hk (by rw [← ht]; exact hB)) hS1)
set_option maxHeartbeats 4000000 in
set_option maxRecDepth 100000 in
theorem w_X3_setBase {l : Launch} {G : mG} {V : mV} {α : Nat → Nat} {f : sT} {nr nw ns : Nat} (hC : mC G V α f nr nw ns) (hwf : mwf f nr nw ns) (k : Nat) (hk : k < 4) (x : Int32) (hx1 : inn x 1 10000) {g0 : Nat → Int64} (h9 : V 9 = some (.inl (G.2.2.2.2.1, 1, .inr (.inl g0)))) : Met l yL_setBase wsL_setBase ({ frames := 2, cells := 0, slots := 0, locals := 45 }) (va_Pc [.ref (α (0)), .int (nI (k)), .int (x), .ref (α (9))] (fun U => mW G V α U U.heap)) (va_Qi (fun (r9 : Int32) (u : mV × (Nat → Nat)) => 0 = r9 ∧ mPQ G V α u (u2 f 0 k x) nr nw ns (f 0 k).toInt64) (fun u t => mH G u.1 u.2 t.heap) (mfree G)) 0 0 (mfree G) := by
  refine mofWH (cc := cL_setBase) (maxL := 5) (ret := (some .int)) (hh := [(0, 10, 13, 13)]) (by decide) rfl ?_
  intro p e s m args below meth c s₁ B hml hv
  obtain ⟨rfl, hw⟩ := hv
  have hx := B.exec
  have hb := B.bytes
  have hr := B.returns
  have hts := atoms_spec (ws := wsL_setBase) B.pre
  have hown : s.vm.findClass RL = some m.cls := findClass_of_methodNamed B.named
  have hlocks := B.notSynchronized
  have hS : va_S (mfree G) s.heap s.heap [] := va_S.rf
  obtain ⟨k0, -⟩ := id hC
  have htb : c.exceptionTable.toList = tableOf [(0, 10, 13, 13)] := vx_table (x := yL_setBase) B (hts _ List.mem_cons_self)
  have hl := lv_entry ([.ref (α (0)), .int (nI (k)), .int (x), .ref (α (9))]) (n := 5) (Nat.le_of_ble_eq_true rfl)
  rw [lg_entry_eq]
  generalize (lg_sl ([.ref (α (0)), .int (nI (k)), .int (x), .ref (α (9))]) ++ List.replicate (5 - (lg_sl ([.ref (α (0)), .int (nI (k)), .int (x), .ref (α (9))])).length) Slot.unset).toArray = ls at hl ⊢
  have hl : lv_has ls 5 [(0, .ref (α (0))), (1, .int (nI (k))), (2, .int (x)), (3, .ref (α (9)))] := hl
  refine lv_aload_n hx hb dL_setBase_0 rfl (lv_at hl 3 rfl) ?_
  refine lv_iconst (v := (0)) hx hb dL_setBase_1 (by decide) ?_
  refine lv_aload_n hx hb dL_setBase_2 rfl (lv_at hl 0 rfl) ?_
  refine lv_iload_n hx hb dL_setBase_3 rfl (lv_at hl 1 rfl) ?_
  refine lv_iload_n hx hb dL_setBase_4 rfl (lv_at hl 2 rfl) ?_
  refine mcallVw hw k0 rfl rfl ⟨hx, hb, hml, hown, hts⟩ hS (c_X3_setBase hC hwf k hk x hx1) (cwV 2 hts gL_setBase_X3_setBase rfl rfl rfl (by decide +kernel) ⟨Nat.le_of_ble_eq_true rfl, Nat.le_of_ble_eq_true rfl⟩) rfl hl.1 rfl (Nat.le_of_ble_eq_true rfl) dL_setBase_5 ⟨Nat.le_of_ble_eq_true rfl, Nat.le_of_ble_eq_true rfl⟩ (fun r9 V1 α1 H locs hq hw hS => ?_)
  obtain ⟨er, hC1, hO⟩ := hq
  dsimp only at hC1 hO
  subst er
  have h91 := ((hO 9 (by omega)).1 (by omega)).trans h9
  have e9 : α 9 = α1 9 := (hO 9 (by omega)).2.symm
  refine W.eq (g2 := F0 m 8 ls [.int (f 0 k), .int (0), .ref (α1 9)]) (by rw [e9]) ?_
  refine lv_i2l (v := (f 0 k).toInt64) hx hb dL_setBase_8 rfl ?_
  refine mlast hx hb hw hS h91 vin01 dL_setBase_9 (fun H locs hw hS => ?_)
  obtain ⟨V2, hV2⟩ : ∃ z9 : mV, z9 = vup V1 9 (.inl (G.2.2.2.2.1, 1, .inr (.inl (vp_updL g0 (0 : Int32).toNatClampNeg ((f 0 k).toInt64))))) := ⟨_, rfl⟩
  have hw : mW G V2 α1 s H := by rw [hV2]; exact hw
  have p1 : ∀ j, j ≠ 9 → V2 j = V1 j := fun j hj => by rw [hV2]; exact vup_n _ _ hj
  have p2 : ∃ g : Nat → Int64, V2 9 = some (.inl (G.2.2.2.2.1, 1, .inr (.inl g))) ∧ g 0 = ((f 0 k).toInt64) := ⟨_, by rw [hV2]; exact vup_s _ _ _, (show vp_updL g0 (0 : Int32).toNatClampNeg ((f 0 k).toInt64) 0 = ((f 0 k).toInt64) from if_pos (by decide))⟩
  obtain ⟨g1, g2, g3⟩ := p2
  refine lv_goto (tgt := 17) hx hb dL_setBase_10 (by decide) ?_
  refine lv_iconst (v := (0)) hx hb dL_setBase_17 (by decide) ?_
  exact W.iret (v := 0) hx hb hr (fun t ht hW => ⟨⟨_, (V2, α1), rfl, ⟨rfl, hC1.out p1, fun j hj => ⟨fun h => (p1 j (by omega)).trans ((hO j hj).1 (by omega)), (hO j hj).2⟩, ⟨g1, g2, g3.trans rfl⟩⟩, by show mH G V2 α1 t.heap; rw [ht]; exact hw.2.2⟩, hS.F ht⟩) hS.2.2 dL_setBase_18

set_option maxHeartbeats 4000000 in
set_option maxRecDepth 100000 in
theorem x_X3_setBase {l : Launch} {G : mG} {V : mV} {α : Nat → Nat} {f : sT} {nr nw ns : Nat} (hl0 : l.stackTraces = false) (hC : mC G V α f nr nw ns) (hwf : mwf f nr nw ns) (y x : Int32) (hbad : ¬ (inn y 0 3 ∧ inn x 1 10000)) : Met l yL_setBase wsL_setBase ({ frames := 8, cells := 1, slots := 6, locals := 127 }) (va_Pc [.ref (α (0)), .int (y), .int (x), .ref (α (9))] (fun U => mW G V α U U.heap)) (va_Qi (fun (r9 : Int32) (u : mV × (Nat → Nat)) => 1 = r9 ∧ u = (V, α)) (fun u t => mH G u.1 u.2 t.heap) (mfree G)) 1 6 (mfree G) := by
  refine mofWH (cc := cL_setBase) (maxL := 5) (ret := (some .int)) (hh := [(0, 10, 13, 13)]) (by decide) rfl ?_
  intro p e s m args below meth c s₁ B hml hv
  obtain ⟨rfl, hw⟩ := hv
  have hx := B.exec
  have hb := B.bytes
  have hr := B.returns
  have hts := atoms_spec (ws := wsL_setBase) B.pre
  have hown : s.vm.findClass RL = some m.cls := findClass_of_methodNamed B.named
  have hlocks := B.notSynchronized
  have hS : va_S (mfree G) s.heap s.heap [] := va_S.rf
  obtain ⟨k0, -⟩ := id hC
  have htb : c.exceptionTable.toList = tableOf [(0, 10, 13, 13)] := vx_table (x := yL_setBase) B (hts _ List.mem_cons_self)
  have lk13 := hts (.classLink RL 13 "java/lang/IllegalArgumentException") (by decide +kernel)
  have hl := lv_entry ([.ref (α (0)), .int (y), .int (x), .ref (α (9))]) (n := 5) (Nat.le_of_ble_eq_true rfl)
  rw [lg_entry_eq]
  generalize (lg_sl ([.ref (α (0)), .int (y), .int (x), .ref (α (9))]) ++ List.replicate (5 - (lg_sl ([.ref (α (0)), .int (y), .int (x), .ref (α (9))])).length) Slot.unset).toArray = ls at hl ⊢
  have hl : lv_has ls 5 [(0, .ref (α (0))), (1, .int (y)), (2, .int (x)), (3, .ref (α (9)))] := hl
  refine lv_aload_n hx hb dL_setBase_0 rfl (lv_at hl 3 rfl) ?_
  refine lv_iconst (v := (0)) hx hb dL_setBase_1 (by decide) ?_
  refine lv_aload_n hx hb dL_setBase_2 rfl (lv_at hl 0 rfl) ?_
  refine lv_iload_n hx hb dL_setBase_3 rfl (lv_at hl 1 rfl) ?_
  refine lv_iload_n hx hb dL_setBase_4 rfl (lv_at hl 2 rfl) ?_
  refine mcallTV hw k0 rfl rfl ⟨hx, hb, hml, hown, hts⟩ hS (t_X3_setBase hl0 hC hwf y x hbad) (cwV 2 hts gL_setBase_X3_setBase rfl rfl rfl (by decide +kernel) ⟨Nat.le_of_ble_eq_true rfl, Nat.le_of_ble_eq_true rfl⟩) rfl hl.1 rfl (Nat.le_of_ble_eq_true rfl) dL_setBase_5 ⟨Nat.le_of_ble_eq_true rfl, Nat.le_of_ble_eq_true rfl⟩ (fun q9 ce H locs hw hS hce hcv hcl => ?_)
  refine vx_catch (name := "java/lang/IllegalArgumentException") (E := "java/lang/IllegalArgumentException") hown [] ⟨0, 10, 13, 13⟩ [] htb (fun z hz => absurd hz List.not_mem_nil) (by decide) (by decide) lk13 (va_Nw.use rfl (hw.1.2.2.1 ("java/lang/IllegalArgumentException", "java/lang/IllegalArgumentException") (by decide))) hce hcv hcl ?_
  refine W.eq (g2 := F0 m 13 ls [.ref (q9)]) rfl ?_
  refine lv_astore (lv' := [(4, .ref (q9)), (0, .ref (α (0))), (1, .int (y)), (2, .int (x)), (3, .ref (α (9)))]) hx hb dL_setBase_13 hl (by decide) rfl (fun ls hl => ?_)
  refine lv_iconst (v := (1)) hx hb dL_setBase_15 (by decide) ?_
  exact W.iret (v := 1) hx hb hr (fun t ht hW => ⟨⟨_, (V, α), rfl, ⟨rfl, rfl⟩, by show mH G V α t.heap; rw [ht]; exact hw.2.2⟩, hS.F ht⟩) hS.2.2 dL_setBase_16

set_option maxHeartbeats 4000000 in
set_option maxRecDepth 100000 in
theorem w_X3_addRule {l : Launch} {G : mG} {V : mV} {α : Nat → Nat} {f : sT} {nr nw ns : Nat} (hC : mC G V α f nr nw ns) (hwf : mwf f nr nw ns) (x1 x2 x3 x4 x5 : Int32) (q1 : inn x1 0 127) (q2 : inn x2 0 95) (q3 : inn x3 (x2 + 1) 96) (q4 : inn x4 1 15) (q5 : inn x5 100 400) (hn9 : nr < 16) {g0 : Nat → Int64} (h9 : V 9 = some (.inl (G.2.2.2.2.1, 1, .inr (.inl g0)))) : Met l yL_addRule wsL_addRule ({ frames := 8, cells := 2, slots := 210, locals := 316 }) (va_Pc [.ref (α (0)), .int (x1), .int (x2), .int (x3), .int (x4), .int (x5), .ref (α (9))] (fun U => mW G V α U U.heap)) (va_Qi (fun (r9 : Int32) (u : mV × (Nat → Nat)) => 0 = r9 ∧ mPQ G V α u (u2 (u2 (u2 (u2 (u2 f 1 nr x1) 2 nr x2) 3 nr x3) 4 nr x4) 5 nr x5) (nr + 1) nw ns (nI nr).toInt64) (fun u t => mH G u.1 u.2 t.heap) (mfree G)) 2 210 (mfree G) := by
  refine mofWH (cc := cL_addRule) (maxL := 8) (ret := (some .int)) (hh := [(0, 16, 19, 13), (0, 16, 23, 19)]) (by decide) rfl ?_
  intro p e s m args below meth c s₁ B hml hv
  obtain ⟨rfl, hw⟩ := hv
  have hx := B.exec
  have hb := B.bytes
  have hr := B.returns
  have hts := atoms_spec (ws := wsL_addRule) B.pre
  have hown : s.vm.findClass RL = some m.cls := findClass_of_methodNamed B.named
  have hlocks := B.notSynchronized
  have hS : va_S (mfree G) s.heap s.heap [] := va_S.rf
  obtain ⟨k0, -⟩ := id hC
  have htb : c.exceptionTable.toList = tableOf [(0, 16, 19, 13), (0, 16, 23, 19)] := vx_table (x := yL_addRule) B (hts _ List.mem_cons_self)
  have hl := lv_entry ([.ref (α (0)), .int (x1), .int (x2), .int (x3), .int (x4), .int (x5), .ref (α (9))]) (n := 8) (Nat.le_of_ble_eq_true rfl)
  rw [lg_entry_eq]
  generalize (lg_sl ([.ref (α (0)), .int (x1), .int (x2), .int (x3), .int (x4), .int (x5), .ref (α (9))]) ++ List.replicate (8 - (lg_sl ([.ref (α (0)), .int (x1), .int (x2), .int (x3), .int (x4), .int (x5), .ref (α (9))])).length) Slot.unset).toArray = ls at hl ⊢
  have hl : lv_has ls 8 [(0, .ref (α (0))), (1, .int (x1)), (2, .int (x2)), (3, .int (x3)), (4, .int (x4)), (5, .int (x5)), (6, .ref (α (9)))] := hl
  refine lv_aload hx hb dL_addRule_0 (lv_at hl 6 rfl) ?_
  refine lv_iconst (v := (0)) hx hb dL_addRule_2 (by decide) ?_
  refine lv_aload_n hx hb dL_addRule_3 rfl (lv_at hl 0 rfl) ?_
  refine lv_iload_n hx hb dL_addRule_4 rfl (lv_at hl 1 rfl) ?_
  refine lv_iload_n hx hb dL_addRule_5 rfl (lv_at hl 2 rfl) ?_
  refine lv_iload_n hx hb dL_addRule_6 rfl (lv_at hl 3 rfl) ?_
  refine lv_iload hx hb dL_addRule_7 (lv_at hl 4 rfl) ?_
  refine lv_iload hx hb dL_addRule_9 (lv_at hl 5 rfl) ?_
  refine mcallVw hw k0 rfl rfl ⟨hx, hb, hml, hown, hts⟩ hS (c_X3_addRule hC hwf x1 x2 x3 x4 x5 q1 q2 q3 q4 q5 hn9) (cwV 5 hts gL_addRule_X3_addRule rfl rfl rfl (by decide +kernel) ⟨Nat.le_of_ble_eq_true rfl, Nat.le_of_ble_eq_true rfl⟩) rfl hl.1 rfl (Nat.le_of_ble_eq_true rfl) dL_addRule_11 ⟨Nat.le_of_ble_eq_true rfl, Nat.le_of_ble_eq_true rfl⟩ (fun r9 V1 α1 H locs hq hw hS => ?_)
  obtain ⟨er, hC1, hO⟩ := hq
  dsimp only at hC1 hO
  subst er
  have h91 := ((hO 9 (by omega)).1 (by omega)).trans h9
  have e9 : α 9 = α1 9 := (hO 9 (by omega)).2.symm
  refine W.eq (g2 := F0 m 14 ls [.int (nI nr), .int (0), .ref (α1 9)]) (by rw [e9]) ?_
  refine lv_i2l (v := (nI nr).toInt64) hx hb dL_addRule_14 rfl ?_
  refine mlast hx hb hw hS h91 vin01 dL_addRule_15 (fun H locs hw hS => ?_)
  obtain ⟨V2, hV2⟩ : ∃ z9 : mV, z9 = vup V1 9 (.inl (G.2.2.2.2.1, 1, .inr (.inl (vp_updL g0 (0 : Int32).toNatClampNeg ((nI nr).toInt64))))) := ⟨_, rfl⟩
  have hw : mW G V2 α1 s H := by rw [hV2]; exact hw
  have p1 : ∀ j, j ≠ 9 → V2 j = V1 j := fun j hj => by rw [hV2]; exact vup_n _ _ hj
  have p2 : ∃ g : Nat → Int64, V2 9 = some (.inl (G.2.2.2.2.1, 1, .inr (.inl g))) ∧ g 0 = ((nI nr).toInt64) := ⟨_, by rw [hV2]; exact vup_s _ _ _, (show vp_updL g0 (0 : Int32).toNatClampNeg ((nI nr).toInt64) 0 = ((nI nr).toInt64) from if_pos (by decide))⟩
  obtain ⟨g1, g2, g3⟩ := p2
  refine lv_goto (tgt := 27) hx hb dL_addRule_16 (by decide) ?_
  refine lv_iconst (v := (0)) hx hb dL_addRule_27 (by decide) ?_
  exact W.iret (v := 0) hx hb hr (fun t ht hW => ⟨⟨_, (V2, α1), rfl, ⟨rfl, hC1.out p1, fun j hj => ⟨fun h => (p1 j (by omega)).trans ((hO j hj).1 (by omega)), (hO j hj).2⟩, ⟨g1, g2, g3.trans rfl⟩⟩, by show mH G V2 α1 t.heap; rw [ht]; exact hw.2.2⟩, hS.F ht⟩) hS.2.2 dL_addRule_28

set_option maxHeartbeats 4000000 in
set_option maxRecDepth 100000 in
theorem x_X3_addRule_1 {l : Launch} {G : mG} {V : mV} {α : Nat → Nat} {f : sT} {nr nw ns : Nat} (hl0 : l.stackTraces = false) (hC : mC G V α f nr nw ns) (hwf : mwf f nr nw ns) (x1 x2 x3 x4 x5 : Int32) (hbad : ¬ (inn x1 0 127 ∧ inn x2 0 95 ∧ inn x3 (x2 + 1) 96 ∧ inn x4 1 15 ∧ inn x5 100 400)) : Met l yL_addRule wsL_addRule ({ frames := 8, cells := 1, slots := 6, locals := 130 }) (va_Pc [.ref (α (0)), .int (x1), .int (x2), .int (x3), .int (x4), .int (x5), .ref (α (9))] (fun U => mW G V α U U.heap)) (va_Qi (fun (r9 : Int32) (u : mV × (Nat → Nat)) => 1 = r9 ∧ u = (V, α)) (fun u t => mH G u.1 u.2 t.heap) (mfree G)) 1 6 (mfree G) := by
  refine mofWH (cc := cL_addRule) (maxL := 8) (ret := (some .int)) (hh := [(0, 16, 19, 13), (0, 16, 23, 19)]) (by decide) rfl ?_
  intro p e s m args below meth c s₁ B hml hv
  obtain ⟨rfl, hw⟩ := hv
  have hx := B.exec
  have hb := B.bytes
  have hr := B.returns
  have hts := atoms_spec (ws := wsL_addRule) B.pre
  have hown : s.vm.findClass RL = some m.cls := findClass_of_methodNamed B.named
  have hlocks := B.notSynchronized
  have hS : va_S (mfree G) s.heap s.heap [] := va_S.rf
  obtain ⟨k0, -⟩ := id hC
  have htb : c.exceptionTable.toList = tableOf [(0, 16, 19, 13), (0, 16, 23, 19)] := vx_table (x := yL_addRule) B (hts _ List.mem_cons_self)
  have lk13 := hts (.classLink RL 13 "java/lang/IllegalArgumentException") (by decide +kernel)
  have hl := lv_entry ([.ref (α (0)), .int (x1), .int (x2), .int (x3), .int (x4), .int (x5), .ref (α (9))]) (n := 8) (Nat.le_of_ble_eq_true rfl)
  rw [lg_entry_eq]
  generalize (lg_sl ([.ref (α (0)), .int (x1), .int (x2), .int (x3), .int (x4), .int (x5), .ref (α (9))]) ++ List.replicate (8 - (lg_sl ([.ref (α (0)), .int (x1), .int (x2), .int (x3), .int (x4), .int (x5), .ref (α (9))])).length) Slot.unset).toArray = ls at hl ⊢
  have hl : lv_has ls 8 [(0, .ref (α (0))), (1, .int (x1)), (2, .int (x2)), (3, .int (x3)), (4, .int (x4)), (5, .int (x5)), (6, .ref (α (9)))] := hl
  refine lv_aload hx hb dL_addRule_0 (lv_at hl 6 rfl) ?_
  refine lv_iconst (v := (0)) hx hb dL_addRule_2 (by decide) ?_
  refine lv_aload_n hx hb dL_addRule_3 rfl (lv_at hl 0 rfl) ?_
  refine lv_iload_n hx hb dL_addRule_4 rfl (lv_at hl 1 rfl) ?_
  refine lv_iload_n hx hb dL_addRule_5 rfl (lv_at hl 2 rfl) ?_
  refine lv_iload_n hx hb dL_addRule_6 rfl (lv_at hl 3 rfl) ?_
  refine lv_iload hx hb dL_addRule_7 (lv_at hl 4 rfl) ?_
  refine lv_iload hx hb dL_addRule_9 (lv_at hl 5 rfl) ?_
  refine mcallTV hw k0 rfl rfl ⟨hx, hb, hml, hown, hts⟩ hS (t_X3_addRule_1 hl0 hC hwf x1 x2 x3 x4 x5 hbad) (cwV 5 hts gL_addRule_X3_addRule rfl rfl rfl (by decide +kernel) ⟨Nat.le_of_ble_eq_true rfl, Nat.le_of_ble_eq_true rfl⟩) rfl hl.1 rfl (Nat.le_of_ble_eq_true rfl) dL_addRule_11 ⟨Nat.le_of_ble_eq_true rfl, Nat.le_of_ble_eq_true rfl⟩ (fun q9 ce H locs hw hS hce hcv hcl => ?_)
  refine vx_catch (name := "java/lang/IllegalArgumentException") (E := "java/lang/IllegalArgumentException") hown [] ⟨0, 16, 19, 13⟩ [⟨0, 16, 23, 19⟩] htb (fun z hz => absurd hz List.not_mem_nil) (by decide) (by decide) lk13 (va_Nw.use rfl (hw.1.2.2.1 ("java/lang/IllegalArgumentException", "java/lang/IllegalArgumentException") (by decide))) hce hcv hcl ?_
  refine W.eq (g2 := F0 m 19 ls [.ref (q9)]) rfl ?_
  refine lv_astore (lv' := [(7, .ref (q9)), (0, .ref (α (0))), (1, .int (x1)), (2, .int (x2)), (3, .int (x3)), (4, .int (x4)), (5, .int (x5)), (6, .ref (α (9)))]) hx hb dL_addRule_19 hl (by decide) rfl (fun ls hl => ?_)
  refine lv_iconst (v := (1)) hx hb dL_addRule_21 (by decide) ?_
  exact W.iret (v := 1) hx hb hr (fun t ht hW => ⟨⟨_, (V, α), rfl, ⟨rfl, rfl⟩, by show mH G V α t.heap; rw [ht]; exact hw.2.2⟩, hS.F ht⟩) hS.2.2 dL_addRule_22

set_option maxHeartbeats 4000000 in
set_option maxRecDepth 100000 in
theorem x_X3_addRule_2 {l : Launch} {G : mG} {V : mV} {α : Nat → Nat} {f : sT} {nr nw ns : Nat} (hl0 : l.stackTraces = false) (hC : mC G V α f nr nw ns) (hwf : mwf f nr nw ns) (x1 x2 x3 x4 x5 : Int32) (q1 : inn x1 0 127) (q2 : inn x2 0 95) (q3 : inn x3 (x2 + 1) 96) (q4 : inn x4 1 15) (q5 : inn x5 100 400) (hfull : nr = 16) : Met l yL_addRule wsL_addRule ({ frames := 7, cells := 1, slots := 6, locals := 108 }) (va_Pc [.ref (α (0)), .int (x1), .int (x2), .int (x3), .int (x4), .int (x5), .ref (α (9))] (fun U => mW G V α U U.heap)) (va_Qi (fun (r9 : Int32) (u : mV × (Nat → Nat)) => 2 = r9 ∧ u = (V, α)) (fun u t => mH G u.1 u.2 t.heap) (mfree G)) 1 6 (mfree G) := by
  refine mofWH (cc := cL_addRule) (maxL := 8) (ret := (some .int)) (hh := [(0, 16, 19, 13), (0, 16, 23, 19)]) (by decide) rfl ?_
  intro p e s m args below meth c s₁ B hml hv
  obtain ⟨rfl, hw⟩ := hv
  have hx := B.exec
  have hb := B.bytes
  have hr := B.returns
  have hts := atoms_spec (ws := wsL_addRule) B.pre
  have hown : s.vm.findClass RL = some m.cls := findClass_of_methodNamed B.named
  have hlocks := B.notSynchronized
  have hS : va_S (mfree G) s.heap s.heap [] := va_S.rf
  obtain ⟨k0, -⟩ := id hC
  have htb : c.exceptionTable.toList = tableOf [(0, 16, 19, 13), (0, 16, 23, 19)] := vx_table (x := yL_addRule) B (hts _ List.mem_cons_self)
  have lk13 := hts (.classLink RL 13 "java/lang/IllegalArgumentException") (by decide +kernel)
  have lk19 := hts (.classLink RL 19 "java/lang/IllegalStateException") (by decide +kernel)
  have hl := lv_entry ([.ref (α (0)), .int (x1), .int (x2), .int (x3), .int (x4), .int (x5), .ref (α (9))]) (n := 8) (Nat.le_of_ble_eq_true rfl)
  rw [lg_entry_eq]
  generalize (lg_sl ([.ref (α (0)), .int (x1), .int (x2), .int (x3), .int (x4), .int (x5), .ref (α (9))]) ++ List.replicate (8 - (lg_sl ([.ref (α (0)), .int (x1), .int (x2), .int (x3), .int (x4), .int (x5), .ref (α (9))])).length) Slot.unset).toArray = ls at hl ⊢
  have hl : lv_has ls 8 [(0, .ref (α (0))), (1, .int (x1)), (2, .int (x2)), (3, .int (x3)), (4, .int (x4)), (5, .int (x5)), (6, .ref (α (9)))] := hl
  refine lv_aload hx hb dL_addRule_0 (lv_at hl 6 rfl) ?_
  refine lv_iconst (v := (0)) hx hb dL_addRule_2 (by decide) ?_
  refine lv_aload_n hx hb dL_addRule_3 rfl (lv_at hl 0 rfl) ?_
  refine lv_iload_n hx hb dL_addRule_4 rfl (lv_at hl 1 rfl) ?_
  refine lv_iload_n hx hb dL_addRule_5 rfl (lv_at hl 2 rfl) ?_
  refine lv_iload_n hx hb dL_addRule_6 rfl (lv_at hl 3 rfl) ?_
  refine lv_iload hx hb dL_addRule_7 (lv_at hl 4 rfl) ?_
  refine lv_iload hx hb dL_addRule_9 (lv_at hl 5 rfl) ?_
  refine mcallTV hw k0 rfl rfl ⟨hx, hb, hml, hown, hts⟩ hS (t_X3_addRule_2 hl0 hC hwf x1 x2 x3 x4 x5 q1 q2 q3 q4 q5 hfull) (cwV 5 hts gL_addRule_X3_addRule rfl rfl rfl (by decide +kernel) ⟨Nat.le_of_ble_eq_true rfl, Nat.le_of_ble_eq_true rfl⟩) rfl hl.1 rfl (Nat.le_of_ble_eq_true rfl) dL_addRule_11 ⟨Nat.le_of_ble_eq_true rfl, Nat.le_of_ble_eq_true rfl⟩ (fun q9 ce H locs hw hS hce hcv hcl => ?_)
  refine vx_catch (name := "java/lang/IllegalStateException") (E := "java/lang/IllegalStateException") hown [⟨0, 16, 19, 13⟩] ⟨0, 16, 23, 19⟩ [] htb (fun z hz => by rw [List.mem_singleton.mp hz]; exact Or.inr ⟨by decide, "java/lang/IllegalArgumentException", lk13, hw.1.2.2.2.2.1 ("java/lang/IllegalStateException", "java/lang/IllegalArgumentException") (by decide)⟩) (by decide) (by decide) lk19 (va_Nw.use rfl (hw.1.2.2.1 ("java/lang/IllegalStateException", "java/lang/IllegalStateException") (by decide))) hce hcv hcl ?_
  refine W.eq (g2 := F0 m 23 ls [.ref (q9)]) rfl ?_
  refine lv_astore (lv' := [(7, .ref (q9)), (0, .ref (α (0))), (1, .int (x1)), (2, .int (x2)), (3, .int (x3)), (4, .int (x4)), (5, .int (x5)), (6, .ref (α (9)))]) hx hb dL_addRule_23 hl (by decide) rfl (fun ls hl => ?_)
  refine lv_iconst (v := (2)) hx hb dL_addRule_25 (by decide) ?_
  exact W.iret (v := 2) hx hb hr (fun t ht hW => ⟨⟨_, (V, α), rfl, ⟨rfl, rfl⟩, by show mH G V α t.heap; rw [ht]; exact hw.2.2⟩, hS.F ht⟩) hS.2.2 dL_addRule_26

set_option maxHeartbeats 4000000 in
set_option maxRecDepth 100000 in
theorem w_X3_setRule {l : Launch} {G : mG} {V : mV} {α : Nat → Nat} {f : sT} {nr nw ns : Nat} (hC : mC G V α f nr nw ns) (hwf : mwf f nr nw ns) (k : Nat) (hk : k < nr) (b : Int32) (hb1 : b = 0 ∨ b = 1) {g0 : Nat → Int64} (h9 : V 9 = some (.inl (G.2.2.2.2.1, 1, .inr (.inl g0)))) : Met l yL_setRule wsL_setRule ({ frames := 5, cells := 0, slots := 0, locals := 109 }) (va_Pc [.ref (α (0)), .int (nI (k)), .int (b), .ref (α (9))] (fun U => mW G V α U U.heap)) (va_Qi (fun (r9 : Int32) (u : mV × (Nat → Nat)) => 0 = r9 ∧ mPQ G V α u (u2 f 6 k (1 - b)) nr nw ns (if 1 - f 6 k = 0 then (0 : Int64) else 1)) (fun u t => mH G u.1 u.2 t.heap) (mfree G)) 0 0 (mfree G) := by
  refine mofWH (cc := cL_setRule) (maxL := 5) (ret := (some .int)) (hh := [(0, 17, 20, 25)]) (by decide) rfl ?_
  intro p e s m args below meth c s₁ B hml hv
  obtain ⟨rfl, hw⟩ := hv
  have hx := B.exec
  have hb := B.bytes
  have hr := B.returns
  have hts := atoms_spec (ws := wsL_setRule) B.pre
  have hown : s.vm.findClass RL = some m.cls := findClass_of_methodNamed B.named
  have hlocks := B.notSynchronized
  have hS : va_S (mfree G) s.heap s.heap [] := va_S.rf
  obtain ⟨k0, -⟩ := id hC
  have htb : c.exceptionTable.toList = tableOf [(0, 17, 20, 25)] := vx_table (x := yL_setRule) B (hts _ List.mem_cons_self)
  have hl := lv_entry ([.ref (α (0)), .int (nI (k)), .int (b), .ref (α (9))]) (n := 5) (Nat.le_of_ble_eq_true rfl)
  rw [lg_entry_eq]
  generalize (lg_sl ([.ref (α (0)), .int (nI (k)), .int (b), .ref (α (9))]) ++ List.replicate (5 - (lg_sl ([.ref (α (0)), .int (nI (k)), .int (b), .ref (α (9))])).length) Slot.unset).toArray = ls at hl ⊢
  have hl : lv_has ls 5 [(0, .ref (α (0))), (1, .int (nI (k))), (2, .int (b)), (3, .ref (α (9)))] := hl
  refine lv_aload_n hx hb dL_setRule_0 rfl (lv_at hl 3 rfl) ?_
  refine lv_iconst (v := (0)) hx hb dL_setRule_1 (by decide) ?_
  refine lv_aload_n hx hb dL_setRule_2 rfl (lv_at hl 0 rfl) ?_
  refine lv_iload_n hx hb dL_setRule_3 rfl (lv_at hl 1 rfl) ?_
  refine lv_iload_n hx hb dL_setRule_4 rfl (lv_at hl 2 rfl) ?_
  refine mcallVw hw k0 rfl rfl ⟨hx, hb, hml, hown, hts⟩ hS (c_X3_setRule hC hwf k hk b hb1) (cwV 2 hts gL_setRule_X3_setRule rfl rfl rfl (by decide +kernel) ⟨Nat.le_of_ble_eq_true rfl, Nat.le_of_ble_eq_true rfl⟩) rfl hl.1 rfl (Nat.le_of_ble_eq_true rfl) dL_setRule_5 ⟨Nat.le_of_ble_eq_true rfl, Nat.le_of_ble_eq_true rfl⟩ (fun r9 V1 α1 H locs hq hw hS => ?_)
  obtain ⟨er, hC1, hO⟩ := hq
  dsimp only at hC1 hO
  subst er
  have h91 := ((hO 9 (by omega)).1 (by omega)).trans h9
  have e9 : α 9 = α1 9 := (hO 9 (by omega)).2.symm
  refine W.eq (g2 := F0 m 8 ls [.int (1 - f 6 k), .int (0), .ref (α1 9)]) (by rw [e9]) ?_
  refine lv_if_eq (tgt := 15) hx hb dL_setRule_8 (by decide) (fun c1 => ?_) (fun c1 => ?_)
  ·
    refine lv_lconst (v := (0)) hx hb dL_setRule_15 (by decide) ?_
    refine mlast hx hb hw hS h91 vin01 dL_setRule_16 (fun H locs hw hS => ?_)
    obtain ⟨V2, hV2⟩ : ∃ z9 : mV, z9 = vup V1 9 (.inl (G.2.2.2.2.1, 1, .inr (.inl (vp_updL g0 (0 : Int32).toNatClampNeg (0))))) := ⟨_, rfl⟩
    have hw : mW G V2 α1 s H := by rw [hV2]; exact hw
    have p1 : ∀ j, j ≠ 9 → V2 j = V1 j := fun j hj => by rw [hV2]; exact vup_n _ _ hj
    have p2 : ∃ g : Nat → Int64, V2 9 = some (.inl (G.2.2.2.2.1, 1, .inr (.inl g))) ∧ g 0 = (0) := ⟨_, by rw [hV2]; exact vup_s _ _ _, (show vp_updL g0 (0 : Int32).toNatClampNeg (0) 0 = (0) from if_pos (by decide))⟩
    obtain ⟨g1, g2, g3⟩ := p2
    refine lv_goto (tgt := 24) hx hb dL_setRule_17 (by decide) ?_
    refine lv_iconst (v := (0)) hx hb dL_setRule_24 (by decide) ?_
    exact W.iret (v := 0) hx hb hr (fun t ht hW => ⟨⟨_, (V2, α1), rfl, ⟨rfl, hC1.out p1, fun j hj => ⟨fun h => (p1 j (by omega)).trans ((hO j hj).1 (by omega)), (hO j hj).2⟩, ⟨g1, g2, g3.trans (if_pos c1).symm⟩⟩, by show mH G V2 α1 t.heap; rw [ht]; exact hw.2.2⟩, hS.F ht⟩) hS.2.2 dL_setRule_25
  ·
    refine lv_lconst (v := (1)) hx hb dL_setRule_11 (by decide) ?_
    refine lv_goto (tgt := 16) hx hb dL_setRule_12 (by decide) ?_
    refine mlast hx hb hw hS h91 vin01 dL_setRule_16 (fun H locs hw hS => ?_)
    obtain ⟨V2, hV2⟩ : ∃ z9 : mV, z9 = vup V1 9 (.inl (G.2.2.2.2.1, 1, .inr (.inl (vp_updL g0 (0 : Int32).toNatClampNeg (1))))) := ⟨_, rfl⟩
    have hw : mW G V2 α1 s H := by rw [hV2]; exact hw
    have p1 : ∀ j, j ≠ 9 → V2 j = V1 j := fun j hj => by rw [hV2]; exact vup_n _ _ hj
    have p2 : ∃ g : Nat → Int64, V2 9 = some (.inl (G.2.2.2.2.1, 1, .inr (.inl g))) ∧ g 0 = (1) := ⟨_, by rw [hV2]; exact vup_s _ _ _, (show vp_updL g0 (0 : Int32).toNatClampNeg (1) 0 = (1) from if_pos (by decide))⟩
    obtain ⟨g1, g2, g3⟩ := p2
    refine lv_goto (tgt := 24) hx hb dL_setRule_17 (by decide) ?_
    refine lv_iconst (v := (0)) hx hb dL_setRule_24 (by decide) ?_
    exact W.iret (v := 0) hx hb hr (fun t ht hW => ⟨⟨_, (V2, α1), rfl, ⟨rfl, hC1.out p1, fun j hj => ⟨fun h => (p1 j (by omega)).trans ((hO j hj).1 (by omega)), (hO j hj).2⟩, ⟨g1, g2, g3.trans (if_neg c1).symm⟩⟩, by show mH G V2 α1 t.heap; rw [ht]; exact hw.2.2⟩, hS.F ht⟩) hS.2.2 dL_setRule_25

set_option maxHeartbeats 4000000 in
set_option maxRecDepth 100000 in
theorem x_X3_setRule {l : Launch} {G : mG} {V : mV} {α : Nat → Nat} {f : sT} {nr nw ns : Nat} (hl0 : l.stackTraces = false) (hC : mC G V α f nr nw ns) (hwf : mwf f nr nw ns) (y b : Int32) (hbad : ¬ inn y 0 (nI nr - 1)) : Met l yL_setRule wsL_setRule ({ frames := 8, cells := 1, slots := 6, locals := 127 }) (va_Pc [.ref (α (0)), .int (y), .int (b), .ref (α (9))] (fun U => mW G V α U U.heap)) (va_Qi (fun (r9 : Int32) (u : mV × (Nat → Nat)) => 1 = r9 ∧ u = (V, α)) (fun u t => mH G u.1 u.2 t.heap) (mfree G)) 1 6 (mfree G) := by
  refine mofWH (cc := cL_setRule) (maxL := 5) (ret := (some .int)) (hh := [(0, 17, 20, 25)]) (by decide) rfl ?_
  intro p e s m args below meth c s₁ B hml hv
  obtain ⟨rfl, hw⟩ := hv
  have hx := B.exec
  have hb := B.bytes
  have hr := B.returns
  have hts := atoms_spec (ws := wsL_setRule) B.pre
  have hown : s.vm.findClass RL = some m.cls := findClass_of_methodNamed B.named
  have hlocks := B.notSynchronized
  have hS : va_S (mfree G) s.heap s.heap [] := va_S.rf
  obtain ⟨k0, -⟩ := id hC
  have htb : c.exceptionTable.toList = tableOf [(0, 17, 20, 25)] := vx_table (x := yL_setRule) B (hts _ List.mem_cons_self)
  have lk25 := hts (.classLink RL 25 "java/lang/IndexOutOfBoundsException") (by decide +kernel)
  have hl := lv_entry ([.ref (α (0)), .int (y), .int (b), .ref (α (9))]) (n := 5) (Nat.le_of_ble_eq_true rfl)
  rw [lg_entry_eq]
  generalize (lg_sl ([.ref (α (0)), .int (y), .int (b), .ref (α (9))]) ++ List.replicate (5 - (lg_sl ([.ref (α (0)), .int (y), .int (b), .ref (α (9))])).length) Slot.unset).toArray = ls at hl ⊢
  have hl : lv_has ls 5 [(0, .ref (α (0))), (1, .int (y)), (2, .int (b)), (3, .ref (α (9)))] := hl
  refine lv_aload_n hx hb dL_setRule_0 rfl (lv_at hl 3 rfl) ?_
  refine lv_iconst (v := (0)) hx hb dL_setRule_1 (by decide) ?_
  refine lv_aload_n hx hb dL_setRule_2 rfl (lv_at hl 0 rfl) ?_
  refine lv_iload_n hx hb dL_setRule_3 rfl (lv_at hl 1 rfl) ?_
  refine lv_iload_n hx hb dL_setRule_4 rfl (lv_at hl 2 rfl) ?_
  refine mcallTV hw k0 rfl rfl ⟨hx, hb, hml, hown, hts⟩ hS (t_X3_setRule hl0 hC hwf y b hbad) (cwV 2 hts gL_setRule_X3_setRule rfl rfl rfl (by decide +kernel) ⟨Nat.le_of_ble_eq_true rfl, Nat.le_of_ble_eq_true rfl⟩) rfl hl.1 rfl (Nat.le_of_ble_eq_true rfl) dL_setRule_5 ⟨Nat.le_of_ble_eq_true rfl, Nat.le_of_ble_eq_true rfl⟩ (fun q9 ce H locs hw hS hce hcv hcl => ?_)
  refine vx_catch (name := "java/lang/IndexOutOfBoundsException") (E := "java/lang/IndexOutOfBoundsException") hown [] ⟨0, 17, 20, 25⟩ [] htb (fun z hz => absurd hz List.not_mem_nil) (by decide) (by decide) lk25 (va_Nw.use rfl (hw.1.2.2.1 ("java/lang/IndexOutOfBoundsException", "java/lang/IndexOutOfBoundsException") (by decide))) hce hcv hcl ?_
  refine W.eq (g2 := F0 m 20 ls [.ref (q9)]) rfl ?_
  refine lv_astore (lv' := [(4, .ref (q9)), (0, .ref (α (0))), (1, .int (y)), (2, .int (b)), (3, .ref (α (9)))]) hx hb dL_setRule_20 hl (by decide) rfl (fun ls hl => ?_)
  refine lv_iconst (v := (1)) hx hb dL_setRule_22 (by decide) ?_
  exact W.iret (v := 1) hx hb hr (fun t ht hW => ⟨⟨_, (V, α), rfl, ⟨rfl, rfl⟩, by show mH G V α t.heap; rw [ht]; exact hw.2.2⟩, hS.F ht⟩) hS.2.2 dL_setRule_23

set_option maxHeartbeats 4000000 in
set_option maxRecDepth 100000 in
theorem w_X3_setHoliday {l : Launch} {G : mG} {V : mV} {α : Nat → Nat} {f : sT} {nr nw ns : Nat} (hC : mC G V α f nr nw ns) (hwf : mwf f nr nw ns) (k : Nat) (hk : k < 364) (b : Int32) (hb1 : b = 0 ∨ b = 1) {g0 : Nat → Int64} (h9 : V 9 = some (.inl (G.2.2.2.2.1, 1, .inr (.inl g0)))) : Met l yL_setHoliday wsL_setHoliday ({ frames := 1, cells := 0, slots := 0, locals := 23 }) (va_Pc [.ref (α (0)), .int (nI (k)), .int (b), .ref (α (9))] (fun U => mW G V α U U.heap)) (va_Qi (fun (r9 : Int32) (u : mV × (Nat → Nat)) => 0 = r9 ∧ mPQ G V α u (u2 f 7 k b) nr nw ns (if f 7 k = 0 then (0 : Int64) else 1)) (fun u t => mH G u.1 u.2 t.heap) (mfree G)) 0 0 (mfree G) := by
  refine mofWH (cc := cL_setHoliday) (maxL := 5) (ret := (some .int)) (hh := [(0, 17, 20, 13)]) (by decide) rfl ?_
  intro p e s m args below meth c s₁ B hml hv
  obtain ⟨rfl, hw⟩ := hv
  have hx := B.exec
  have hb := B.bytes
  have hr := B.returns
  have hts := atoms_spec (ws := wsL_setHoliday) B.pre
  have hown : s.vm.findClass RL = some m.cls := findClass_of_methodNamed B.named
  have hlocks := B.notSynchronized
  have hS : va_S (mfree G) s.heap s.heap [] := va_S.rf
  obtain ⟨k0, -⟩ := id hC
  have htb : c.exceptionTable.toList = tableOf [(0, 17, 20, 13)] := vx_table (x := yL_setHoliday) B (hts _ List.mem_cons_self)
  have hl := lv_entry ([.ref (α (0)), .int (nI (k)), .int (b), .ref (α (9))]) (n := 5) (Nat.le_of_ble_eq_true rfl)
  rw [lg_entry_eq]
  generalize (lg_sl ([.ref (α (0)), .int (nI (k)), .int (b), .ref (α (9))]) ++ List.replicate (5 - (lg_sl ([.ref (α (0)), .int (nI (k)), .int (b), .ref (α (9))])).length) Slot.unset).toArray = ls at hl ⊢
  have hl : lv_has ls 5 [(0, .ref (α (0))), (1, .int (nI (k))), (2, .int (b)), (3, .ref (α (9)))] := hl
  refine lv_aload_n hx hb dL_setHoliday_0 rfl (lv_at hl 3 rfl) ?_
  refine lv_iconst (v := (0)) hx hb dL_setHoliday_1 (by decide) ?_
  refine lv_aload_n hx hb dL_setHoliday_2 rfl (lv_at hl 0 rfl) ?_
  refine lv_iload_n hx hb dL_setHoliday_3 rfl (lv_at hl 1 rfl) ?_
  refine lv_iload_n hx hb dL_setHoliday_4 rfl (lv_at hl 2 rfl) ?_
  refine mcallVw hw k0 rfl rfl ⟨hx, hb, hml, hown, hts⟩ hS (c_X3_setHoliday hC hwf k hk b hb1) (cwV 2 hts gL_setHoliday_X3_setHoliday rfl rfl rfl (by decide +kernel) ⟨Nat.le_of_ble_eq_true rfl, Nat.le_of_ble_eq_true rfl⟩) rfl hl.1 rfl (Nat.le_of_ble_eq_true rfl) dL_setHoliday_5 ⟨Nat.le_of_ble_eq_true rfl, Nat.le_of_ble_eq_true rfl⟩ (fun r9 V1 α1 H locs hq hw hS => ?_)
  obtain ⟨er, hC1, hO⟩ := hq
  dsimp only at hC1 hO
  subst er
  have h91 := ((hO 9 (by omega)).1 (by omega)).trans h9
  have e9 : α 9 = α1 9 := (hO 9 (by omega)).2.symm
  refine W.eq (g2 := F0 m 8 ls [.int (f 7 k), .int (0), .ref (α1 9)]) (by rw [e9]) ?_
  refine lv_if_eq (tgt := 15) hx hb dL_setHoliday_8 (by decide) (fun c1 => ?_) (fun c1 => ?_)
  ·
    refine lv_lconst (v := (0)) hx hb dL_setHoliday_15 (by decide) ?_
    refine mlast hx hb hw hS h91 vin01 dL_setHoliday_16 (fun H locs hw hS => ?_)
    obtain ⟨V2, hV2⟩ : ∃ z9 : mV, z9 = vup V1 9 (.inl (G.2.2.2.2.1, 1, .inr (.inl (vp_updL g0 (0 : Int32).toNatClampNeg (0))))) := ⟨_, rfl⟩
    have hw : mW G V2 α1 s H := by rw [hV2]; exact hw
    have p1 : ∀ j, j ≠ 9 → V2 j = V1 j := fun j hj => by rw [hV2]; exact vup_n _ _ hj
    have p2 : ∃ g : Nat → Int64, V2 9 = some (.inl (G.2.2.2.2.1, 1, .inr (.inl g))) ∧ g 0 = (0) := ⟨_, by rw [hV2]; exact vup_s _ _ _, (show vp_updL g0 (0 : Int32).toNatClampNeg (0) 0 = (0) from if_pos (by decide))⟩
    obtain ⟨g1, g2, g3⟩ := p2
    refine lv_goto (tgt := 24) hx hb dL_setHoliday_17 (by decide) ?_
    refine lv_iconst (v := (0)) hx hb dL_setHoliday_24 (by decide) ?_
    exact W.iret (v := 0) hx hb hr (fun t ht hW => ⟨⟨_, (V2, α1), rfl, ⟨rfl, hC1.out p1, fun j hj => ⟨fun h => (p1 j (by omega)).trans ((hO j hj).1 (by omega)), (hO j hj).2⟩, ⟨g1, g2, g3.trans (if_pos c1).symm⟩⟩, by show mH G V2 α1 t.heap; rw [ht]; exact hw.2.2⟩, hS.F ht⟩) hS.2.2 dL_setHoliday_25
  ·
    refine lv_lconst (v := (1)) hx hb dL_setHoliday_11 (by decide) ?_
    refine lv_goto (tgt := 16) hx hb dL_setHoliday_12 (by decide) ?_
    refine mlast hx hb hw hS h91 vin01 dL_setHoliday_16 (fun H locs hw hS => ?_)
    obtain ⟨V2, hV2⟩ : ∃ z9 : mV, z9 = vup V1 9 (.inl (G.2.2.2.2.1, 1, .inr (.inl (vp_updL g0 (0 : Int32).toNatClampNeg (1))))) := ⟨_, rfl⟩
    have hw : mW G V2 α1 s H := by rw [hV2]; exact hw
    have p1 : ∀ j, j ≠ 9 → V2 j = V1 j := fun j hj => by rw [hV2]; exact vup_n _ _ hj
    have p2 : ∃ g : Nat → Int64, V2 9 = some (.inl (G.2.2.2.2.1, 1, .inr (.inl g))) ∧ g 0 = (1) := ⟨_, by rw [hV2]; exact vup_s _ _ _, (show vp_updL g0 (0 : Int32).toNatClampNeg (1) 0 = (1) from if_pos (by decide))⟩
    obtain ⟨g1, g2, g3⟩ := p2
    refine lv_goto (tgt := 24) hx hb dL_setHoliday_17 (by decide) ?_
    refine lv_iconst (v := (0)) hx hb dL_setHoliday_24 (by decide) ?_
    exact W.iret (v := 0) hx hb hr (fun t ht hW => ⟨⟨_, (V2, α1), rfl, ⟨rfl, hC1.out p1, fun j hj => ⟨fun h => (p1 j (by omega)).trans ((hO j hj).1 (by omega)), (hO j hj).2⟩, ⟨g1, g2, g3.trans (if_neg c1).symm⟩⟩, by show mH G V2 α1 t.heap; rw [ht]; exact hw.2.2⟩, hS.F ht⟩) hS.2.2 dL_setHoliday_25

set_option maxHeartbeats 4000000 in
set_option maxRecDepth 100000 in
theorem x_X3_setHoliday {l : Launch} {G : mG} {V : mV} {α : Nat → Nat} {f : sT} {nr nw ns : Nat} (hl0 : l.stackTraces = false) (hC : mC G V α f nr nw ns) (hwf : mwf f nr nw ns) (y b : Int32) (hbad : ¬ inn y 0 363) : Met l yL_setHoliday wsL_setHoliday ({ frames := 7, cells := 1, slots := 6, locals := 105 }) (va_Pc [.ref (α (0)), .int (y), .int (b), .ref (α (9))] (fun U => mW G V α U U.heap)) (va_Qi (fun (r9 : Int32) (u : mV × (Nat → Nat)) => 1 = r9 ∧ u = (V, α)) (fun u t => mH G u.1 u.2 t.heap) (mfree G)) 1 6 (mfree G) := by
  refine mofWH (cc := cL_setHoliday) (maxL := 5) (ret := (some .int)) (hh := [(0, 17, 20, 13)]) (by decide) rfl ?_
  intro p e s m args below meth c s₁ B hml hv
  obtain ⟨rfl, hw⟩ := hv
  have hx := B.exec
  have hb := B.bytes
  have hr := B.returns
  have hts := atoms_spec (ws := wsL_setHoliday) B.pre
  have hown : s.vm.findClass RL = some m.cls := findClass_of_methodNamed B.named
  have hlocks := B.notSynchronized
  have hS : va_S (mfree G) s.heap s.heap [] := va_S.rf
  obtain ⟨k0, -⟩ := id hC
  have htb : c.exceptionTable.toList = tableOf [(0, 17, 20, 13)] := vx_table (x := yL_setHoliday) B (hts _ List.mem_cons_self)
  have lk13 := hts (.classLink RL 13 "java/lang/IllegalArgumentException") (by decide +kernel)
  have hl := lv_entry ([.ref (α (0)), .int (y), .int (b), .ref (α (9))]) (n := 5) (Nat.le_of_ble_eq_true rfl)
  rw [lg_entry_eq]
  generalize (lg_sl ([.ref (α (0)), .int (y), .int (b), .ref (α (9))]) ++ List.replicate (5 - (lg_sl ([.ref (α (0)), .int (y), .int (b), .ref (α (9))])).length) Slot.unset).toArray = ls at hl ⊢
  have hl : lv_has ls 5 [(0, .ref (α (0))), (1, .int (y)), (2, .int (b)), (3, .ref (α (9)))] := hl
  refine lv_aload_n hx hb dL_setHoliday_0 rfl (lv_at hl 3 rfl) ?_
  refine lv_iconst (v := (0)) hx hb dL_setHoliday_1 (by decide) ?_
  refine lv_aload_n hx hb dL_setHoliday_2 rfl (lv_at hl 0 rfl) ?_
  refine lv_iload_n hx hb dL_setHoliday_3 rfl (lv_at hl 1 rfl) ?_
  refine lv_iload_n hx hb dL_setHoliday_4 rfl (lv_at hl 2 rfl) ?_
  refine mcallTV hw k0 rfl rfl ⟨hx, hb, hml, hown, hts⟩ hS (t_X3_setHoliday hl0 hC hwf y b hbad) (cwV 2 hts gL_setHoliday_X3_setHoliday rfl rfl rfl (by decide +kernel) ⟨Nat.le_of_ble_eq_true rfl, Nat.le_of_ble_eq_true rfl⟩) rfl hl.1 rfl (Nat.le_of_ble_eq_true rfl) dL_setHoliday_5 ⟨Nat.le_of_ble_eq_true rfl, Nat.le_of_ble_eq_true rfl⟩ (fun q9 ce H locs hw hS hce hcv hcl => ?_)
  refine vx_catch (name := "java/lang/IllegalArgumentException") (E := "java/lang/IllegalArgumentException") hown [] ⟨0, 17, 20, 13⟩ [] htb (fun z hz => absurd hz List.not_mem_nil) (by decide) (by decide) lk13 (va_Nw.use rfl (hw.1.2.2.1 ("java/lang/IllegalArgumentException", "java/lang/IllegalArgumentException") (by decide))) hce hcv hcl ?_
  refine W.eq (g2 := F0 m 20 ls [.ref (q9)]) rfl ?_
  refine lv_astore (lv' := [(4, .ref (q9)), (0, .ref (α (0))), (1, .int (y)), (2, .int (b)), (3, .ref (α (9)))]) hx hb dL_setHoliday_20 hl (by decide) rfl (fun ls hl => ?_)
  refine lv_iconst (v := (1)) hx hb dL_setHoliday_22 (by decide) ?_
  exact W.iret (v := 1) hx hb hr (fun t ht hW => ⟨⟨_, (V, α), rfl, ⟨rfl, rfl⟩, by show mH G V α t.heap; rw [ht]; exact hw.2.2⟩, hS.F ht⟩) hS.2.2 dL_setHoliday_23

set_option maxHeartbeats 4000000 in
set_option maxRecDepth 100000 in
theorem w_X3_addWorker {l : Launch} {G : mG} {V : mV} {α : Nat → Nat} {f : sT} {nr nw ns : Nat} (hC : mC G V α f nr nw ns) (hwf : mwf f nr nw ns) (r : Nat) (hr0 : r < 4) (hn9 : nw < 12) {g0 : Nat → Int64} (h9 : V 9 = some (.inl (G.2.2.2.2.1, 1, .inr (.inl g0)))) : Met l yL_addWorker wsL_addWorker ({ frames := 8, cells := 2, slots := 210, locals := 312 }) (va_Pc [.ref (α (0)), .int (nI (r)), .ref (α (9))] (fun U => mW G V α U U.heap)) (va_Qi (fun (r9 : Int32) (u : mV × (Nat → Nat)) => 0 = r9 ∧ mPQ G V α u (u2 f 8 nw (nI r)) nr (nw + 1) ns (nI nw).toInt64) (fun u t => mH G u.1 u.2 t.heap) (mfree G)) 2 210 (mfree G) := by
  refine mofWH (cc := cL_addWorker) (maxL := 4) (ret := (some .int)) (hh := [(0, 9, 12, 13), (0, 9, 15, 19)]) (by decide) rfl ?_
  intro p e s m args below meth c s₁ B hml hv
  obtain ⟨rfl, hw⟩ := hv
  have hx := B.exec
  have hb := B.bytes
  have hr := B.returns
  have hts := atoms_spec (ws := wsL_addWorker) B.pre
  have hown : s.vm.findClass RL = some m.cls := findClass_of_methodNamed B.named
  have hlocks := B.notSynchronized
  have hS : va_S (mfree G) s.heap s.heap [] := va_S.rf
  obtain ⟨k0, -⟩ := id hC
  have htb : c.exceptionTable.toList = tableOf [(0, 9, 12, 13), (0, 9, 15, 19)] := vx_table (x := yL_addWorker) B (hts _ List.mem_cons_self)
  have hl := lv_entry ([.ref (α (0)), .int (nI (r)), .ref (α (9))]) (n := 4) (Nat.le_of_ble_eq_true rfl)
  rw [lg_entry_eq]
  generalize (lg_sl ([.ref (α (0)), .int (nI (r)), .ref (α (9))]) ++ List.replicate (4 - (lg_sl ([.ref (α (0)), .int (nI (r)), .ref (α (9))])).length) Slot.unset).toArray = ls at hl ⊢
  have hl : lv_has ls 4 [(0, .ref (α (0))), (1, .int (nI (r))), (2, .ref (α (9)))] := hl
  refine lv_aload_n hx hb dL_addWorker_0 rfl (lv_at hl 2 rfl) ?_
  refine lv_iconst (v := (0)) hx hb dL_addWorker_1 (by decide) ?_
  refine lv_aload_n hx hb dL_addWorker_2 rfl (lv_at hl 0 rfl) ?_
  refine lv_iload_n hx hb dL_addWorker_3 rfl (lv_at hl 1 rfl) ?_
  refine mcallVw hw k0 rfl rfl ⟨hx, hb, hml, hown, hts⟩ hS (c_X3_addWorker hC hwf r hr0 hn9) (cwV 1 hts gL_addWorker_X3_addWorker rfl rfl rfl (by decide +kernel) ⟨Nat.le_of_ble_eq_true rfl, Nat.le_of_ble_eq_true rfl⟩) rfl hl.1 rfl (Nat.le_of_ble_eq_true rfl) dL_addWorker_4 ⟨Nat.le_of_ble_eq_true rfl, Nat.le_of_ble_eq_true rfl⟩ (fun r9 V1 α1 H locs hq hw hS => ?_)
  obtain ⟨er, hC1, hO⟩ := hq
  dsimp only at hC1 hO
  subst er
  have h91 := ((hO 9 (by omega)).1 (by omega)).trans h9
  have e9 : α 9 = α1 9 := (hO 9 (by omega)).2.symm
  refine W.eq (g2 := F0 m 7 ls [.int (nI nw), .int (0), .ref (α1 9)]) (by rw [e9]) ?_
  refine lv_i2l (v := (nI nw).toInt64) hx hb dL_addWorker_7 rfl ?_
  refine mlast hx hb hw hS h91 vin01 dL_addWorker_8 (fun H locs hw hS => ?_)
  obtain ⟨V2, hV2⟩ : ∃ z9 : mV, z9 = vup V1 9 (.inl (G.2.2.2.2.1, 1, .inr (.inl (vp_updL g0 (0 : Int32).toNatClampNeg ((nI nw).toInt64))))) := ⟨_, rfl⟩
  have hw : mW G V2 α1 s H := by rw [hV2]; exact hw
  have p1 : ∀ j, j ≠ 9 → V2 j = V1 j := fun j hj => by rw [hV2]; exact vup_n _ _ hj
  have p2 : ∃ g : Nat → Int64, V2 9 = some (.inl (G.2.2.2.2.1, 1, .inr (.inl g))) ∧ g 0 = ((nI nw).toInt64) := ⟨_, by rw [hV2]; exact vup_s _ _ _, (show vp_updL g0 (0 : Int32).toNatClampNeg ((nI nw).toInt64) 0 = ((nI nw).toInt64) from if_pos (by decide))⟩
  obtain ⟨g1, g2, g3⟩ := p2
  refine lv_goto (tgt := 18) hx hb dL_addWorker_9 (by decide) ?_
  refine lv_iconst (v := (0)) hx hb dL_addWorker_18 (by decide) ?_
  exact W.iret (v := 0) hx hb hr (fun t ht hW => ⟨⟨_, (V2, α1), rfl, ⟨rfl, hC1.out p1, fun j hj => ⟨fun h => (p1 j (by omega)).trans ((hO j hj).1 (by omega)), (hO j hj).2⟩, ⟨g1, g2, g3.trans rfl⟩⟩, by show mH G V2 α1 t.heap; rw [ht]; exact hw.2.2⟩, hS.F ht⟩) hS.2.2 dL_addWorker_19

set_option maxHeartbeats 4000000 in
set_option maxRecDepth 100000 in
theorem x_X3_addWorker_1 {l : Launch} {G : mG} {V : mV} {α : Nat → Nat} {f : sT} {nr nw ns : Nat} (hl0 : l.stackTraces = false) (hC : mC G V α f nr nw ns) (hwf : mwf f nr nw ns) (y : Int32) (hbad : ¬ inn y 0 3) : Met l yL_addWorker wsL_addWorker ({ frames := 8, cells := 1, slots := 6, locals := 126 }) (va_Pc [.ref (α (0)), .int (y), .ref (α (9))] (fun U => mW G V α U U.heap)) (va_Qi (fun (r9 : Int32) (u : mV × (Nat → Nat)) => 1 = r9 ∧ u = (V, α)) (fun u t => mH G u.1 u.2 t.heap) (mfree G)) 1 6 (mfree G) := by
  refine mofWH (cc := cL_addWorker) (maxL := 4) (ret := (some .int)) (hh := [(0, 9, 12, 13), (0, 9, 15, 19)]) (by decide) rfl ?_
  intro p e s m args below meth c s₁ B hml hv
  obtain ⟨rfl, hw⟩ := hv
  have hx := B.exec
  have hb := B.bytes
  have hr := B.returns
  have hts := atoms_spec (ws := wsL_addWorker) B.pre
  have hown : s.vm.findClass RL = some m.cls := findClass_of_methodNamed B.named
  have hlocks := B.notSynchronized
  have hS : va_S (mfree G) s.heap s.heap [] := va_S.rf
  obtain ⟨k0, -⟩ := id hC
  have htb : c.exceptionTable.toList = tableOf [(0, 9, 12, 13), (0, 9, 15, 19)] := vx_table (x := yL_addWorker) B (hts _ List.mem_cons_self)
  have lk13 := hts (.classLink RL 13 "java/lang/IllegalArgumentException") (by decide +kernel)
  have hl := lv_entry ([.ref (α (0)), .int (y), .ref (α (9))]) (n := 4) (Nat.le_of_ble_eq_true rfl)
  rw [lg_entry_eq]
  generalize (lg_sl ([.ref (α (0)), .int (y), .ref (α (9))]) ++ List.replicate (4 - (lg_sl ([.ref (α (0)), .int (y), .ref (α (9))])).length) Slot.unset).toArray = ls at hl ⊢
  have hl : lv_has ls 4 [(0, .ref (α (0))), (1, .int (y)), (2, .ref (α (9)))] := hl
  refine lv_aload_n hx hb dL_addWorker_0 rfl (lv_at hl 2 rfl) ?_
  refine lv_iconst (v := (0)) hx hb dL_addWorker_1 (by decide) ?_
  refine lv_aload_n hx hb dL_addWorker_2 rfl (lv_at hl 0 rfl) ?_
  refine lv_iload_n hx hb dL_addWorker_3 rfl (lv_at hl 1 rfl) ?_
  refine mcallTV hw k0 rfl rfl ⟨hx, hb, hml, hown, hts⟩ hS (t_X3_addWorker_1 hl0 hC hwf y hbad) (cwV 1 hts gL_addWorker_X3_addWorker rfl rfl rfl (by decide +kernel) ⟨Nat.le_of_ble_eq_true rfl, Nat.le_of_ble_eq_true rfl⟩) rfl hl.1 rfl (Nat.le_of_ble_eq_true rfl) dL_addWorker_4 ⟨Nat.le_of_ble_eq_true rfl, Nat.le_of_ble_eq_true rfl⟩ (fun q9 ce H locs hw hS hce hcv hcl => ?_)
  refine vx_catch (name := "java/lang/IllegalArgumentException") (E := "java/lang/IllegalArgumentException") hown [] ⟨0, 9, 12, 13⟩ [⟨0, 9, 15, 19⟩] htb (fun z hz => absurd hz List.not_mem_nil) (by decide) (by decide) lk13 (va_Nw.use rfl (hw.1.2.2.1 ("java/lang/IllegalArgumentException", "java/lang/IllegalArgumentException") (by decide))) hce hcv hcl ?_
  refine W.eq (g2 := F0 m 12 ls [.ref (q9)]) rfl ?_
  refine lv_astore_n (lv' := [(3, .ref (q9)), (0, .ref (α (0))), (1, .int (y)), (2, .ref (α (9)))]) hx hb dL_addWorker_12 rfl hl (by decide) rfl (fun ls hl => ?_)
  refine lv_iconst (v := (1)) hx hb dL_addWorker_13 (by decide) ?_
  exact W.iret (v := 1) hx hb hr (fun t ht hW => ⟨⟨_, (V, α), rfl, ⟨rfl, rfl⟩, by show mH G V α t.heap; rw [ht]; exact hw.2.2⟩, hS.F ht⟩) hS.2.2 dL_addWorker_14

set_option maxHeartbeats 4000000 in
set_option maxRecDepth 100000 in
theorem x_X3_addWorker_2 {l : Launch} {G : mG} {V : mV} {α : Nat → Nat} {f : sT} {nr nw ns : Nat} (hl0 : l.stackTraces = false) (hC : mC G V α f nr nw ns) (hwf : mwf f nr nw ns) (y : Int32) (hy : inn y 0 3) (hfull : nw = 12) : Met l yL_addWorker wsL_addWorker ({ frames := 7, cells := 1, slots := 6, locals := 104 }) (va_Pc [.ref (α (0)), .int (y), .ref (α (9))] (fun U => mW G V α U U.heap)) (va_Qi (fun (r9 : Int32) (u : mV × (Nat → Nat)) => 2 = r9 ∧ u = (V, α)) (fun u t => mH G u.1 u.2 t.heap) (mfree G)) 1 6 (mfree G) := by
  refine mofWH (cc := cL_addWorker) (maxL := 4) (ret := (some .int)) (hh := [(0, 9, 12, 13), (0, 9, 15, 19)]) (by decide) rfl ?_
  intro p e s m args below meth c s₁ B hml hv
  obtain ⟨rfl, hw⟩ := hv
  have hx := B.exec
  have hb := B.bytes
  have hr := B.returns
  have hts := atoms_spec (ws := wsL_addWorker) B.pre
  have hown : s.vm.findClass RL = some m.cls := findClass_of_methodNamed B.named
  have hlocks := B.notSynchronized
  have hS : va_S (mfree G) s.heap s.heap [] := va_S.rf
  obtain ⟨k0, -⟩ := id hC
  have htb : c.exceptionTable.toList = tableOf [(0, 9, 12, 13), (0, 9, 15, 19)] := vx_table (x := yL_addWorker) B (hts _ List.mem_cons_self)
  have lk13 := hts (.classLink RL 13 "java/lang/IllegalArgumentException") (by decide +kernel)
  have lk19 := hts (.classLink RL 19 "java/lang/IllegalStateException") (by decide +kernel)
  have hl := lv_entry ([.ref (α (0)), .int (y), .ref (α (9))]) (n := 4) (Nat.le_of_ble_eq_true rfl)
  rw [lg_entry_eq]
  generalize (lg_sl ([.ref (α (0)), .int (y), .ref (α (9))]) ++ List.replicate (4 - (lg_sl ([.ref (α (0)), .int (y), .ref (α (9))])).length) Slot.unset).toArray = ls at hl ⊢
  have hl : lv_has ls 4 [(0, .ref (α (0))), (1, .int (y)), (2, .ref (α (9)))] := hl
  refine lv_aload_n hx hb dL_addWorker_0 rfl (lv_at hl 2 rfl) ?_
  refine lv_iconst (v := (0)) hx hb dL_addWorker_1 (by decide) ?_
  refine lv_aload_n hx hb dL_addWorker_2 rfl (lv_at hl 0 rfl) ?_
  refine lv_iload_n hx hb dL_addWorker_3 rfl (lv_at hl 1 rfl) ?_
  refine mcallTV hw k0 rfl rfl ⟨hx, hb, hml, hown, hts⟩ hS (t_X3_addWorker_2 hl0 hC hwf y hy hfull) (cwV 1 hts gL_addWorker_X3_addWorker rfl rfl rfl (by decide +kernel) ⟨Nat.le_of_ble_eq_true rfl, Nat.le_of_ble_eq_true rfl⟩) rfl hl.1 rfl (Nat.le_of_ble_eq_true rfl) dL_addWorker_4 ⟨Nat.le_of_ble_eq_true rfl, Nat.le_of_ble_eq_true rfl⟩ (fun q9 ce H locs hw hS hce hcv hcl => ?_)
  refine vx_catch (name := "java/lang/IllegalStateException") (E := "java/lang/IllegalStateException") hown [⟨0, 9, 12, 13⟩] ⟨0, 9, 15, 19⟩ [] htb (fun z hz => by rw [List.mem_singleton.mp hz]; exact Or.inr ⟨by decide, "java/lang/IllegalArgumentException", lk13, hw.1.2.2.2.2.1 ("java/lang/IllegalStateException", "java/lang/IllegalArgumentException") (by decide)⟩) (by decide) (by decide) lk19 (va_Nw.use rfl (hw.1.2.2.1 ("java/lang/IllegalStateException", "java/lang/IllegalStateException") (by decide))) hce hcv hcl ?_
  refine W.eq (g2 := F0 m 15 ls [.ref (q9)]) rfl ?_
  refine lv_astore_n (lv' := [(3, .ref (q9)), (0, .ref (α (0))), (1, .int (y)), (2, .ref (α (9)))]) hx hb dL_addWorker_15 rfl hl (by decide) rfl (fun ls hl => ?_)
  refine lv_iconst (v := (2)) hx hb dL_addWorker_16 (by decide) ?_
  exact W.iret (v := 2) hx hb hr (fun t ht hW => ⟨⟨_, (V, α), rfl, ⟨rfl, rfl⟩, by show mH G V α t.heap; rw [ht]; exact hw.2.2⟩, hS.F ht⟩) hS.2.2 dL_addWorker_17

set_option maxHeartbeats 4000000 in
set_option maxRecDepth 100000 in
theorem w_X3_setRank {l : Launch} {G : mG} {V : mV} {α : Nat → Nat} {f : sT} {nr nw ns : Nat} (hC : mC G V α f nr nw ns) (hwf : mwf f nr nw ns) (k r : Nat) (hk : k < nw) (hr0 : r < 4) {g0 : Nat → Int64} (h9 : V 9 = some (.inl (G.2.2.2.2.1, 1, .inr (.inl g0)))) : Met l yL_setRank wsL_setRank ({ frames := 5, cells := 0, slots := 0, locals := 109 }) (va_Pc [.ref (α (0)), .int (nI (k)), .int (nI (r)), .ref (α (9))] (fun U => mW G V α U U.heap)) (va_Qi (fun (r9 : Int32) (u : mV × (Nat → Nat)) => 0 = r9 ∧ mPQ G V α u (u2 f 8 k (nI r)) nr nw ns (f 8 k).toInt64) (fun u t => mH G u.1 u.2 t.heap) (mfree G)) 0 0 (mfree G) := by
  refine mofWH (cc := cL_setRank) (maxL := 5) (ret := (some .int)) (hh := [(0, 10, 13, 25), (0, 10, 17, 13)]) (by decide) rfl ?_
  intro p e s m args below meth c s₁ B hml hv
  obtain ⟨rfl, hw⟩ := hv
  have hx := B.exec
  have hb := B.bytes
  have hr := B.returns
  have hts := atoms_spec (ws := wsL_setRank) B.pre
  have hown : s.vm.findClass RL = some m.cls := findClass_of_methodNamed B.named
  have hlocks := B.notSynchronized
  have hS : va_S (mfree G) s.heap s.heap [] := va_S.rf
  obtain ⟨k0, -⟩ := id hC
  have htb : c.exceptionTable.toList = tableOf [(0, 10, 13, 25), (0, 10, 17, 13)] := vx_table (x := yL_setRank) B (hts _ List.mem_cons_self)
  have hl := lv_entry ([.ref (α (0)), .int (nI (k)), .int (nI (r)), .ref (α (9))]) (n := 5) (Nat.le_of_ble_eq_true rfl)
  rw [lg_entry_eq]
  generalize (lg_sl ([.ref (α (0)), .int (nI (k)), .int (nI (r)), .ref (α (9))]) ++ List.replicate (5 - (lg_sl ([.ref (α (0)), .int (nI (k)), .int (nI (r)), .ref (α (9))])).length) Slot.unset).toArray = ls at hl ⊢
  have hl : lv_has ls 5 [(0, .ref (α (0))), (1, .int (nI (k))), (2, .int (nI (r))), (3, .ref (α (9)))] := hl
  refine lv_aload_n hx hb dL_setRank_0 rfl (lv_at hl 3 rfl) ?_
  refine lv_iconst (v := (0)) hx hb dL_setRank_1 (by decide) ?_
  refine lv_aload_n hx hb dL_setRank_2 rfl (lv_at hl 0 rfl) ?_
  refine lv_iload_n hx hb dL_setRank_3 rfl (lv_at hl 1 rfl) ?_
  refine lv_iload_n hx hb dL_setRank_4 rfl (lv_at hl 2 rfl) ?_
  refine mcallVw hw k0 rfl rfl ⟨hx, hb, hml, hown, hts⟩ hS (c_X3_setRank hC hwf k r hk hr0) (cwV 2 hts gL_setRank_X3_setRank rfl rfl rfl (by decide +kernel) ⟨Nat.le_of_ble_eq_true rfl, Nat.le_of_ble_eq_true rfl⟩) rfl hl.1 rfl (Nat.le_of_ble_eq_true rfl) dL_setRank_5 ⟨Nat.le_of_ble_eq_true rfl, Nat.le_of_ble_eq_true rfl⟩ (fun r9 V1 α1 H locs hq hw hS => ?_)
  obtain ⟨er, hC1, hO⟩ := hq
  dsimp only at hC1 hO
  subst er
  have h91 := ((hO 9 (by omega)).1 (by omega)).trans h9
  have e9 : α 9 = α1 9 := (hO 9 (by omega)).2.symm
  refine W.eq (g2 := F0 m 8 ls [.int (f 8 k), .int (0), .ref (α1 9)]) (by rw [e9]) ?_
  refine lv_i2l (v := (f 8 k).toInt64) hx hb dL_setRank_8 rfl ?_
  refine mlast hx hb hw hS h91 vin01 dL_setRank_9 (fun H locs hw hS => ?_)
  obtain ⟨V2, hV2⟩ : ∃ z9 : mV, z9 = vup V1 9 (.inl (G.2.2.2.2.1, 1, .inr (.inl (vp_updL g0 (0 : Int32).toNatClampNeg ((f 8 k).toInt64))))) := ⟨_, rfl⟩
  have hw : mW G V2 α1 s H := by rw [hV2]; exact hw
  have p1 : ∀ j, j ≠ 9 → V2 j = V1 j := fun j hj => by rw [hV2]; exact vup_n _ _ hj
  have p2 : ∃ g : Nat → Int64, V2 9 = some (.inl (G.2.2.2.2.1, 1, .inr (.inl g))) ∧ g 0 = ((f 8 k).toInt64) := ⟨_, by rw [hV2]; exact vup_s _ _ _, (show vp_updL g0 (0 : Int32).toNatClampNeg ((f 8 k).toInt64) 0 = ((f 8 k).toInt64) from if_pos (by decide))⟩
  obtain ⟨g1, g2, g3⟩ := p2
  refine lv_goto (tgt := 21) hx hb dL_setRank_10 (by decide) ?_
  refine lv_iconst (v := (0)) hx hb dL_setRank_21 (by decide) ?_
  exact W.iret (v := 0) hx hb hr (fun t ht hW => ⟨⟨_, (V2, α1), rfl, ⟨rfl, hC1.out p1, fun j hj => ⟨fun h => (p1 j (by omega)).trans ((hO j hj).1 (by omega)), (hO j hj).2⟩, ⟨g1, g2, g3.trans rfl⟩⟩, by show mH G V2 α1 t.heap; rw [ht]; exact hw.2.2⟩, hS.F ht⟩) hS.2.2 dL_setRank_22

set_option maxHeartbeats 4000000 in
set_option maxRecDepth 100000 in
theorem x_X3_setRank_1 {l : Launch} {G : mG} {V : mV} {α : Nat → Nat} {f : sT} {nr nw ns : Nat} (hl0 : l.stackTraces = false) (hC : mC G V α f nr nw ns) (hwf : mwf f nr nw ns) (y x : Int32) (hbad : ¬ inn y 0 (nI nw - 1)) : Met l yL_setRank wsL_setRank ({ frames := 8, cells := 1, slots := 6, locals := 127 }) (va_Pc [.ref (α (0)), .int (y), .int (x), .ref (α (9))] (fun U => mW G V α U U.heap)) (va_Qi (fun (r9 : Int32) (u : mV × (Nat → Nat)) => 1 = r9 ∧ u = (V, α)) (fun u t => mH G u.1 u.2 t.heap) (mfree G)) 1 6 (mfree G) := by
  refine mofWH (cc := cL_setRank) (maxL := 5) (ret := (some .int)) (hh := [(0, 10, 13, 25), (0, 10, 17, 13)]) (by decide) rfl ?_
  intro p e s m args below meth c s₁ B hml hv
  obtain ⟨rfl, hw⟩ := hv
  have hx := B.exec
  have hb := B.bytes
  have hr := B.returns
  have hts := atoms_spec (ws := wsL_setRank) B.pre
  have hown : s.vm.findClass RL = some m.cls := findClass_of_methodNamed B.named
  have hlocks := B.notSynchronized
  have hS : va_S (mfree G) s.heap s.heap [] := va_S.rf
  obtain ⟨k0, -⟩ := id hC
  have htb : c.exceptionTable.toList = tableOf [(0, 10, 13, 25), (0, 10, 17, 13)] := vx_table (x := yL_setRank) B (hts _ List.mem_cons_self)
  have lk25 := hts (.classLink RL 25 "java/lang/IndexOutOfBoundsException") (by decide +kernel)
  have hl := lv_entry ([.ref (α (0)), .int (y), .int (x), .ref (α (9))]) (n := 5) (Nat.le_of_ble_eq_true rfl)
  rw [lg_entry_eq]
  generalize (lg_sl ([.ref (α (0)), .int (y), .int (x), .ref (α (9))]) ++ List.replicate (5 - (lg_sl ([.ref (α (0)), .int (y), .int (x), .ref (α (9))])).length) Slot.unset).toArray = ls at hl ⊢
  have hl : lv_has ls 5 [(0, .ref (α (0))), (1, .int (y)), (2, .int (x)), (3, .ref (α (9)))] := hl
  refine lv_aload_n hx hb dL_setRank_0 rfl (lv_at hl 3 rfl) ?_
  refine lv_iconst (v := (0)) hx hb dL_setRank_1 (by decide) ?_
  refine lv_aload_n hx hb dL_setRank_2 rfl (lv_at hl 0 rfl) ?_
  refine lv_iload_n hx hb dL_setRank_3 rfl (lv_at hl 1 rfl) ?_
  refine lv_iload_n hx hb dL_setRank_4 rfl (lv_at hl 2 rfl) ?_
  refine mcallTV hw k0 rfl rfl ⟨hx, hb, hml, hown, hts⟩ hS (t_X3_setRank_1 hl0 hC hwf y x hbad) (cwV 2 hts gL_setRank_X3_setRank rfl rfl rfl (by decide +kernel) ⟨Nat.le_of_ble_eq_true rfl, Nat.le_of_ble_eq_true rfl⟩) rfl hl.1 rfl (Nat.le_of_ble_eq_true rfl) dL_setRank_5 ⟨Nat.le_of_ble_eq_true rfl, Nat.le_of_ble_eq_true rfl⟩ (fun q9 ce H locs hw hS hce hcv hcl => ?_)
  refine vx_catch (name := "java/lang/IndexOutOfBoundsException") (E := "java/lang/IndexOutOfBoundsException") hown [] ⟨0, 10, 13, 25⟩ [⟨0, 10, 17, 13⟩] htb (fun z hz => absurd hz List.not_mem_nil) (by decide) (by decide) lk25 (va_Nw.use rfl (hw.1.2.2.1 ("java/lang/IndexOutOfBoundsException", "java/lang/IndexOutOfBoundsException") (by decide))) hce hcv hcl ?_
  refine W.eq (g2 := F0 m 13 ls [.ref (q9)]) rfl ?_
  refine lv_astore (lv' := [(4, .ref (q9)), (0, .ref (α (0))), (1, .int (y)), (2, .int (x)), (3, .ref (α (9)))]) hx hb dL_setRank_13 hl (by decide) rfl (fun ls hl => ?_)
  refine lv_iconst (v := (1)) hx hb dL_setRank_15 (by decide) ?_
  exact W.iret (v := 1) hx hb hr (fun t ht hW => ⟨⟨_, (V, α), rfl, ⟨rfl, rfl⟩, by show mH G V α t.heap; rw [ht]; exact hw.2.2⟩, hS.F ht⟩) hS.2.2 dL_setRank_16

set_option maxHeartbeats 4000000 in
set_option maxRecDepth 100000 in
theorem x_X3_setRank_2 {l : Launch} {G : mG} {V : mV} {α : Nat → Nat} {f : sT} {nr nw ns : Nat} (hl0 : l.stackTraces = false) (hC : mC G V α f nr nw ns) (hwf : mwf f nr nw ns) (k : Nat) (hk : k < nw) (x : Int32) (hbad : ¬ inn x 0 3) : Met l yL_setRank wsL_setRank ({ frames := 8, cells := 1, slots := 6, locals := 128 }) (va_Pc [.ref (α (0)), .int (nI (k)), .int (x), .ref (α (9))] (fun U => mW G V α U U.heap)) (va_Qi (fun (r9 : Int32) (u : mV × (Nat → Nat)) => 2 = r9 ∧ u = (V, α)) (fun u t => mH G u.1 u.2 t.heap) (mfree G)) 1 6 (mfree G) := by
  refine mofWH (cc := cL_setRank) (maxL := 5) (ret := (some .int)) (hh := [(0, 10, 13, 25), (0, 10, 17, 13)]) (by decide) rfl ?_
  intro p e s m args below meth c s₁ B hml hv
  obtain ⟨rfl, hw⟩ := hv
  have hx := B.exec
  have hb := B.bytes
  have hr := B.returns
  have hts := atoms_spec (ws := wsL_setRank) B.pre
  have hown : s.vm.findClass RL = some m.cls := findClass_of_methodNamed B.named
  have hlocks := B.notSynchronized
  have hS : va_S (mfree G) s.heap s.heap [] := va_S.rf
  obtain ⟨k0, -⟩ := id hC
  have htb : c.exceptionTable.toList = tableOf [(0, 10, 13, 25), (0, 10, 17, 13)] := vx_table (x := yL_setRank) B (hts _ List.mem_cons_self)
  have lk25 := hts (.classLink RL 25 "java/lang/IndexOutOfBoundsException") (by decide +kernel)
  have lk13 := hts (.classLink RL 13 "java/lang/IllegalArgumentException") (by decide +kernel)
  have hl := lv_entry ([.ref (α (0)), .int (nI (k)), .int (x), .ref (α (9))]) (n := 5) (Nat.le_of_ble_eq_true rfl)
  rw [lg_entry_eq]
  generalize (lg_sl ([.ref (α (0)), .int (nI (k)), .int (x), .ref (α (9))]) ++ List.replicate (5 - (lg_sl ([.ref (α (0)), .int (nI (k)), .int (x), .ref (α (9))])).length) Slot.unset).toArray = ls at hl ⊢
  have hl : lv_has ls 5 [(0, .ref (α (0))), (1, .int (nI (k))), (2, .int (x)), (3, .ref (α (9)))] := hl
  refine lv_aload_n hx hb dL_setRank_0 rfl (lv_at hl 3 rfl) ?_
  refine lv_iconst (v := (0)) hx hb dL_setRank_1 (by decide) ?_
  refine lv_aload_n hx hb dL_setRank_2 rfl (lv_at hl 0 rfl) ?_
  refine lv_iload_n hx hb dL_setRank_3 rfl (lv_at hl 1 rfl) ?_
  refine lv_iload_n hx hb dL_setRank_4 rfl (lv_at hl 2 rfl) ?_
  refine mcallTV hw k0 rfl rfl ⟨hx, hb, hml, hown, hts⟩ hS (t_X3_setRank_2 hl0 hC hwf k hk x hbad) (cwV 2 hts gL_setRank_X3_setRank rfl rfl rfl (by decide +kernel) ⟨Nat.le_of_ble_eq_true rfl, Nat.le_of_ble_eq_true rfl⟩) rfl hl.1 rfl (Nat.le_of_ble_eq_true rfl) dL_setRank_5 ⟨Nat.le_of_ble_eq_true rfl, Nat.le_of_ble_eq_true rfl⟩ (fun q9 ce H locs hw hS hce hcv hcl => ?_)
  refine vx_catch (name := "java/lang/IllegalArgumentException") (E := "java/lang/IllegalArgumentException") hown [⟨0, 10, 13, 25⟩] ⟨0, 10, 17, 13⟩ [] htb (fun z hz => by rw [List.mem_singleton.mp hz]; exact Or.inr ⟨by decide, "java/lang/IndexOutOfBoundsException", lk25, hw.1.2.2.2.2.1 ("java/lang/IllegalArgumentException", "java/lang/IndexOutOfBoundsException") (by decide)⟩) (by decide) (by decide) lk13 (va_Nw.use rfl (hw.1.2.2.1 ("java/lang/IllegalArgumentException", "java/lang/IllegalArgumentException") (by decide))) hce hcv hcl ?_
  refine W.eq (g2 := F0 m 17 ls [.ref (q9)]) rfl ?_
  refine lv_astore (lv' := [(4, .ref (q9)), (0, .ref (α (0))), (1, .int (nI (k))), (2, .int (x)), (3, .ref (α (9)))]) hx hb dL_setRank_17 hl (by decide) rfl (fun ls hl => ?_)
  refine lv_iconst (v := (2)) hx hb dL_setRank_19 (by decide) ?_
  exact W.iret (v := 2) hx hb hr (fun t ht hW => ⟨⟨_, (V, α), rfl, ⟨rfl, rfl⟩, by show mH G V α t.heap; rw [ht]; exact hw.2.2⟩, hS.F ht⟩) hS.2.2 dL_setRank_20

set_option maxHeartbeats 4000000 in
set_option maxRecDepth 100000 in
theorem w_X3_addShift {l : Launch} {G : mG} {V : mV} {α : Nat → Nat} {f : sT} {nr nw ns : Nat} (hC : mC G V α f nr nw ns) (hwf : mwf f nr nw ns) (k d qq ln : Nat) (hk : k < nw) (hd : d < 363) (hqq : qq < 96) (hln : 1 ≤ ln) (hln2 : ln ≤ 64) (hn9 : ns < 80) (hov : ¬ 0 < s_wb f k (nI (d * 96 + qq)) (nI (d * 96 + qq + ln)) ns) {g0 : Nat → Int64} (h9 : V 9 = some (.inl (G.2.2.2.2.1, 1, .inr (.inl g0)))) : Met l yL_addShift wsL_addShift ({ frames := 8, cells := 2, slots := 210, locals := 317 }) (va_Pc [.ref (α (0)), .int (nI (k)), .int (nI (d)), .int (nI (qq)), .int (nI (ln)), .ref (α (9))] (fun U => mW G V α U U.heap)) (va_Qi (fun (r9 : Int32) (u : mV × (Nat → Nat)) => 0 = r9 ∧ mPQ G V α u (u2 (u2 (u2 f 9 ns (nI k)) 10 ns (nI (d * 96 + qq))) 11 ns (nI ln)) nr nw (ns + 1) (nI ns).toInt64) (fun u t => mH G u.1 u.2 t.heap) (mfree G)) 2 210 (mfree G) := by
  refine mofWH (cc := cL_addShift) (maxL := 7) (ret := (some .int)) (hh := [(0, 14, 17, 25), (0, 14, 21, 13), (0, 14, 25, 19)]) (by decide) rfl ?_
  intro p e s m args below meth c s₁ B hml hv
  obtain ⟨rfl, hw⟩ := hv
  have hx := B.exec
  have hb := B.bytes
  have hr := B.returns
  have hts := atoms_spec (ws := wsL_addShift) B.pre
  have hown : s.vm.findClass RL = some m.cls := findClass_of_methodNamed B.named
  have hlocks := B.notSynchronized
  have hS : va_S (mfree G) s.heap s.heap [] := va_S.rf
  obtain ⟨k0, -⟩ := id hC
  have htb : c.exceptionTable.toList = tableOf [(0, 14, 17, 25), (0, 14, 21, 13), (0, 14, 25, 19)] := vx_table (x := yL_addShift) B (hts _ List.mem_cons_self)
  have hl := lv_entry ([.ref (α (0)), .int (nI (k)), .int (nI (d)), .int (nI (qq)), .int (nI (ln)), .ref (α (9))]) (n := 7) (Nat.le_of_ble_eq_true rfl)
  rw [lg_entry_eq]
  generalize (lg_sl ([.ref (α (0)), .int (nI (k)), .int (nI (d)), .int (nI (qq)), .int (nI (ln)), .ref (α (9))]) ++ List.replicate (7 - (lg_sl ([.ref (α (0)), .int (nI (k)), .int (nI (d)), .int (nI (qq)), .int (nI (ln)), .ref (α (9))])).length) Slot.unset).toArray = ls at hl ⊢
  have hl : lv_has ls 7 [(0, .ref (α (0))), (1, .int (nI (k))), (2, .int (nI (d))), (3, .int (nI (qq))), (4, .int (nI (ln))), (5, .ref (α (9)))] := hl
  refine lv_aload hx hb dL_addShift_0 (lv_at hl 5 rfl) ?_
  refine lv_iconst (v := (0)) hx hb dL_addShift_2 (by decide) ?_
  refine lv_aload_n hx hb dL_addShift_3 rfl (lv_at hl 0 rfl) ?_
  refine lv_iload_n hx hb dL_addShift_4 rfl (lv_at hl 1 rfl) ?_
  refine lv_iload_n hx hb dL_addShift_5 rfl (lv_at hl 2 rfl) ?_
  refine lv_iload_n hx hb dL_addShift_6 rfl (lv_at hl 3 rfl) ?_
  refine lv_iload hx hb dL_addShift_7 (lv_at hl 4 rfl) ?_
  refine mcallVw hw k0 rfl rfl ⟨hx, hb, hml, hown, hts⟩ hS (c_X3_addShift hC hwf k d qq ln hk hd hqq hln hln2 hn9 hov) (cwV 4 hts gL_addShift_X3_addShift rfl rfl rfl (by decide +kernel) ⟨Nat.le_of_ble_eq_true rfl, Nat.le_of_ble_eq_true rfl⟩) rfl hl.1 rfl (Nat.le_of_ble_eq_true rfl) dL_addShift_9 ⟨Nat.le_of_ble_eq_true rfl, Nat.le_of_ble_eq_true rfl⟩ (fun r9 V1 α1 H locs hq hw hS => ?_)
  obtain ⟨er, hC1, hO⟩ := hq
  dsimp only at hC1 hO
  subst er
  have h91 := ((hO 9 (by omega)).1 (by omega)).trans h9
  have e9 : α 9 = α1 9 := (hO 9 (by omega)).2.symm
  refine W.eq (g2 := F0 m 12 ls [.int (nI ns), .int (0), .ref (α1 9)]) (by rw [e9]) ?_
  refine lv_i2l (v := (nI ns).toInt64) hx hb dL_addShift_12 rfl ?_
  refine mlast hx hb hw hS h91 vin01 dL_addShift_13 (fun H locs hw hS => ?_)
  obtain ⟨V2, hV2⟩ : ∃ z9 : mV, z9 = vup V1 9 (.inl (G.2.2.2.2.1, 1, .inr (.inl (vp_updL g0 (0 : Int32).toNatClampNeg ((nI ns).toInt64))))) := ⟨_, rfl⟩
  have hw : mW G V2 α1 s H := by rw [hV2]; exact hw
  have p1 : ∀ j, j ≠ 9 → V2 j = V1 j := fun j hj => by rw [hV2]; exact vup_n _ _ hj
  have p2 : ∃ g : Nat → Int64, V2 9 = some (.inl (G.2.2.2.2.1, 1, .inr (.inl g))) ∧ g 0 = ((nI ns).toInt64) := ⟨_, by rw [hV2]; exact vup_s _ _ _, (show vp_updL g0 (0 : Int32).toNatClampNeg ((nI ns).toInt64) 0 = ((nI ns).toInt64) from if_pos (by decide))⟩
  obtain ⟨g1, g2, g3⟩ := p2
  refine lv_goto (tgt := 29) hx hb dL_addShift_14 (by decide) ?_
  refine lv_iconst (v := (0)) hx hb dL_addShift_29 (by decide) ?_
  exact W.iret (v := 0) hx hb hr (fun t ht hW => ⟨⟨_, (V2, α1), rfl, ⟨rfl, hC1.out p1, fun j hj => ⟨fun h => (p1 j (by omega)).trans ((hO j hj).1 (by omega)), (hO j hj).2⟩, ⟨g1, g2, g3.trans rfl⟩⟩, by show mH G V2 α1 t.heap; rw [ht]; exact hw.2.2⟩, hS.F ht⟩) hS.2.2 dL_addShift_30

set_option maxHeartbeats 4000000 in
set_option maxRecDepth 100000 in
theorem x_X3_addShift_1 {l : Launch} {G : mG} {V : mV} {α : Nat → Nat} {f : sT} {nr nw ns : Nat} (hl0 : l.stackTraces = false) (hC : mC G V α f nr nw ns) (hwf : mwf f nr nw ns) (y x1 x2 x3 : Int32) (hbad : ¬ inn y 0 (nI nw - 1)) : Met l yL_addShift wsL_addShift ({ frames := 8, cells := 1, slots := 6, locals := 130 }) (va_Pc [.ref (α (0)), .int (y), .int (x1), .int (x2), .int (x3), .ref (α (9))] (fun U => mW G V α U U.heap)) (va_Qi (fun (r9 : Int32) (u : mV × (Nat → Nat)) => 1 = r9 ∧ u = (V, α)) (fun u t => mH G u.1 u.2 t.heap) (mfree G)) 1 6 (mfree G) := by
  refine mofWH (cc := cL_addShift) (maxL := 7) (ret := (some .int)) (hh := [(0, 14, 17, 25), (0, 14, 21, 13), (0, 14, 25, 19)]) (by decide) rfl ?_
  intro p e s m args below meth c s₁ B hml hv
  obtain ⟨rfl, hw⟩ := hv
  have hx := B.exec
  have hb := B.bytes
  have hr := B.returns
  have hts := atoms_spec (ws := wsL_addShift) B.pre
  have hown : s.vm.findClass RL = some m.cls := findClass_of_methodNamed B.named
  have hlocks := B.notSynchronized
  have hS : va_S (mfree G) s.heap s.heap [] := va_S.rf
  obtain ⟨k0, -⟩ := id hC
  have htb : c.exceptionTable.toList = tableOf [(0, 14, 17, 25), (0, 14, 21, 13), (0, 14, 25, 19)] := vx_table (x := yL_addShift) B (hts _ List.mem_cons_self)
  have lk25 := hts (.classLink RL 25 "java/lang/IndexOutOfBoundsException") (by decide +kernel)
  have hl := lv_entry ([.ref (α (0)), .int (y), .int (x1), .int (x2), .int (x3), .ref (α (9))]) (n := 7) (Nat.le_of_ble_eq_true rfl)
  rw [lg_entry_eq]
  generalize (lg_sl ([.ref (α (0)), .int (y), .int (x1), .int (x2), .int (x3), .ref (α (9))]) ++ List.replicate (7 - (lg_sl ([.ref (α (0)), .int (y), .int (x1), .int (x2), .int (x3), .ref (α (9))])).length) Slot.unset).toArray = ls at hl ⊢
  have hl : lv_has ls 7 [(0, .ref (α (0))), (1, .int (y)), (2, .int (x1)), (3, .int (x2)), (4, .int (x3)), (5, .ref (α (9)))] := hl
  refine lv_aload hx hb dL_addShift_0 (lv_at hl 5 rfl) ?_
  refine lv_iconst (v := (0)) hx hb dL_addShift_2 (by decide) ?_
  refine lv_aload_n hx hb dL_addShift_3 rfl (lv_at hl 0 rfl) ?_
  refine lv_iload_n hx hb dL_addShift_4 rfl (lv_at hl 1 rfl) ?_
  refine lv_iload_n hx hb dL_addShift_5 rfl (lv_at hl 2 rfl) ?_
  refine lv_iload_n hx hb dL_addShift_6 rfl (lv_at hl 3 rfl) ?_
  refine lv_iload hx hb dL_addShift_7 (lv_at hl 4 rfl) ?_
  refine mcallTV hw k0 rfl rfl ⟨hx, hb, hml, hown, hts⟩ hS (t_X3_addShift_1 hl0 hC hwf y x1 x2 x3 hbad) (cwV 4 hts gL_addShift_X3_addShift rfl rfl rfl (by decide +kernel) ⟨Nat.le_of_ble_eq_true rfl, Nat.le_of_ble_eq_true rfl⟩) rfl hl.1 rfl (Nat.le_of_ble_eq_true rfl) dL_addShift_9 ⟨Nat.le_of_ble_eq_true rfl, Nat.le_of_ble_eq_true rfl⟩ (fun q9 ce H locs hw hS hce hcv hcl => ?_)
  refine vx_catch (name := "java/lang/IndexOutOfBoundsException") (E := "java/lang/IndexOutOfBoundsException") hown [] ⟨0, 14, 17, 25⟩ [⟨0, 14, 21, 13⟩, ⟨0, 14, 25, 19⟩] htb (fun z hz => absurd hz List.not_mem_nil) (by decide) (by decide) lk25 (va_Nw.use rfl (hw.1.2.2.1 ("java/lang/IndexOutOfBoundsException", "java/lang/IndexOutOfBoundsException") (by decide))) hce hcv hcl ?_
  refine W.eq (g2 := F0 m 17 ls [.ref (q9)]) rfl ?_
  refine lv_astore (lv' := [(6, .ref (q9)), (0, .ref (α (0))), (1, .int (y)), (2, .int (x1)), (3, .int (x2)), (4, .int (x3)), (5, .ref (α (9)))]) hx hb dL_addShift_17 hl (by decide) rfl (fun ls hl => ?_)
  refine lv_iconst (v := (1)) hx hb dL_addShift_19 (by decide) ?_
  exact W.iret (v := 1) hx hb hr (fun t ht hW => ⟨⟨_, (V, α), rfl, ⟨rfl, rfl⟩, by show mH G V α t.heap; rw [ht]; exact hw.2.2⟩, hS.F ht⟩) hS.2.2 dL_addShift_20

set_option maxHeartbeats 4000000 in
set_option maxRecDepth 100000 in
theorem x_X3_addShift_2 {l : Launch} {G : mG} {V : mV} {α : Nat → Nat} {f : sT} {nr nw ns : Nat} (hl0 : l.stackTraces = false) (hC : mC G V α f nr nw ns) (hwf : mwf f nr nw ns) (k : Nat) (hk : k < nw) (x1 x2 x3 : Int32) (hbad : ¬ (inn x1 0 362 ∧ inn x2 0 95 ∧ inn x3 1 64)) : Met l yL_addShift wsL_addShift ({ frames := 8, cells := 1, slots := 6, locals := 131 }) (va_Pc [.ref (α (0)), .int (nI (k)), .int (x1), .int (x2), .int (x3), .ref (α (9))] (fun U => mW G V α U U.heap)) (va_Qi (fun (r9 : Int32) (u : mV × (Nat → Nat)) => 2 = r9 ∧ u = (V, α)) (fun u t => mH G u.1 u.2 t.heap) (mfree G)) 1 6 (mfree G) := by
  refine mofWH (cc := cL_addShift) (maxL := 7) (ret := (some .int)) (hh := [(0, 14, 17, 25), (0, 14, 21, 13), (0, 14, 25, 19)]) (by decide) rfl ?_
  intro p e s m args below meth c s₁ B hml hv
  obtain ⟨rfl, hw⟩ := hv
  have hx := B.exec
  have hb := B.bytes
  have hr := B.returns
  have hts := atoms_spec (ws := wsL_addShift) B.pre
  have hown : s.vm.findClass RL = some m.cls := findClass_of_methodNamed B.named
  have hlocks := B.notSynchronized
  have hS : va_S (mfree G) s.heap s.heap [] := va_S.rf
  obtain ⟨k0, -⟩ := id hC
  have htb : c.exceptionTable.toList = tableOf [(0, 14, 17, 25), (0, 14, 21, 13), (0, 14, 25, 19)] := vx_table (x := yL_addShift) B (hts _ List.mem_cons_self)
  have lk25 := hts (.classLink RL 25 "java/lang/IndexOutOfBoundsException") (by decide +kernel)
  have lk13 := hts (.classLink RL 13 "java/lang/IllegalArgumentException") (by decide +kernel)
  have hl := lv_entry ([.ref (α (0)), .int (nI (k)), .int (x1), .int (x2), .int (x3), .ref (α (9))]) (n := 7) (Nat.le_of_ble_eq_true rfl)
  rw [lg_entry_eq]
  generalize (lg_sl ([.ref (α (0)), .int (nI (k)), .int (x1), .int (x2), .int (x3), .ref (α (9))]) ++ List.replicate (7 - (lg_sl ([.ref (α (0)), .int (nI (k)), .int (x1), .int (x2), .int (x3), .ref (α (9))])).length) Slot.unset).toArray = ls at hl ⊢
  have hl : lv_has ls 7 [(0, .ref (α (0))), (1, .int (nI (k))), (2, .int (x1)), (3, .int (x2)), (4, .int (x3)), (5, .ref (α (9)))] := hl
  refine lv_aload hx hb dL_addShift_0 (lv_at hl 5 rfl) ?_
  refine lv_iconst (v := (0)) hx hb dL_addShift_2 (by decide) ?_
  refine lv_aload_n hx hb dL_addShift_3 rfl (lv_at hl 0 rfl) ?_
  refine lv_iload_n hx hb dL_addShift_4 rfl (lv_at hl 1 rfl) ?_
  refine lv_iload_n hx hb dL_addShift_5 rfl (lv_at hl 2 rfl) ?_
  refine lv_iload_n hx hb dL_addShift_6 rfl (lv_at hl 3 rfl) ?_
  refine lv_iload hx hb dL_addShift_7 (lv_at hl 4 rfl) ?_
  refine mcallTV hw k0 rfl rfl ⟨hx, hb, hml, hown, hts⟩ hS (t_X3_addShift_2 hl0 hC hwf k hk x1 x2 x3 hbad) (cwV 4 hts gL_addShift_X3_addShift rfl rfl rfl (by decide +kernel) ⟨Nat.le_of_ble_eq_true rfl, Nat.le_of_ble_eq_true rfl⟩) rfl hl.1 rfl (Nat.le_of_ble_eq_true rfl) dL_addShift_9 ⟨Nat.le_of_ble_eq_true rfl, Nat.le_of_ble_eq_true rfl⟩ (fun q9 ce H locs hw hS hce hcv hcl => ?_)
  refine vx_catch (name := "java/lang/IllegalArgumentException") (E := "java/lang/IllegalArgumentException") hown [⟨0, 14, 17, 25⟩] ⟨0, 14, 21, 13⟩ [⟨0, 14, 25, 19⟩] htb (fun z hz => by rw [List.mem_singleton.mp hz]; exact Or.inr ⟨by decide, "java/lang/IndexOutOfBoundsException", lk25, hw.1.2.2.2.2.1 ("java/lang/IllegalArgumentException", "java/lang/IndexOutOfBoundsException") (by decide)⟩) (by decide) (by decide) lk13 (va_Nw.use rfl (hw.1.2.2.1 ("java/lang/IllegalArgumentException", "java/lang/IllegalArgumentException") (by decide))) hce hcv hcl ?_
  refine W.eq (g2 := F0 m 21 ls [.ref (q9)]) rfl ?_
  refine lv_astore (lv' := [(6, .ref (q9)), (0, .ref (α (0))), (1, .int (nI (k))), (2, .int (x1)), (3, .int (x2)), (4, .int (x3)), (5, .ref (α (9)))]) hx hb dL_addShift_21 hl (by decide) rfl (fun ls hl => ?_)
  refine lv_iconst (v := (2)) hx hb dL_addShift_23 (by decide) ?_
  exact W.iret (v := 2) hx hb hr (fun t ht hW => ⟨⟨_, (V, α), rfl, ⟨rfl, rfl⟩, by show mH G V α t.heap; rw [ht]; exact hw.2.2⟩, hS.F ht⟩) hS.2.2 dL_addShift_24

set_option maxHeartbeats 4000000 in
set_option maxRecDepth 100000 in
theorem x_X3_addShift_3 {l : Launch} {G : mG} {V : mV} {α : Nat → Nat} {f : sT} {nr nw ns : Nat} (hl0 : l.stackTraces = false) (hC : mC G V α f nr nw ns) (hwf : mwf f nr nw ns) (k d qq ln : Nat) (hk : k < nw) (hd : d < 363) (hqq : qq < 96) (hln : 1 ≤ ln) (hln2 : ln ≤ 64) (hov : ns = 80 ∨ 0 < s_wb f k (nI (d * 96 + qq)) (nI (d * 96 + qq + ln)) ns) : Met l yL_addShift wsL_addShift ({ frames := 7, cells := 1, slots := 6, locals := 140 }) (va_Pc [.ref (α (0)), .int (nI (k)), .int (nI (d)), .int (nI (qq)), .int (nI (ln)), .ref (α (9))] (fun U => mW G V α U U.heap)) (va_Qi (fun (r9 : Int32) (u : mV × (Nat → Nat)) => 3 = r9 ∧ u = (V, α)) (fun u t => mH G u.1 u.2 t.heap) (mfree G)) 1 6 (mfree G) := by
  refine mofWH (cc := cL_addShift) (maxL := 7) (ret := (some .int)) (hh := [(0, 14, 17, 25), (0, 14, 21, 13), (0, 14, 25, 19)]) (by decide) rfl ?_
  intro p e s m args below meth c s₁ B hml hv
  obtain ⟨rfl, hw⟩ := hv
  have hx := B.exec
  have hb := B.bytes
  have hr := B.returns
  have hts := atoms_spec (ws := wsL_addShift) B.pre
  have hown : s.vm.findClass RL = some m.cls := findClass_of_methodNamed B.named
  have hlocks := B.notSynchronized
  have hS : va_S (mfree G) s.heap s.heap [] := va_S.rf
  obtain ⟨k0, -⟩ := id hC
  have htb : c.exceptionTable.toList = tableOf [(0, 14, 17, 25), (0, 14, 21, 13), (0, 14, 25, 19)] := vx_table (x := yL_addShift) B (hts _ List.mem_cons_self)
  have lk25 := hts (.classLink RL 25 "java/lang/IndexOutOfBoundsException") (by decide +kernel)
  have lk13 := hts (.classLink RL 13 "java/lang/IllegalArgumentException") (by decide +kernel)
  have lk19 := hts (.classLink RL 19 "java/lang/IllegalStateException") (by decide +kernel)
  have hl := lv_entry ([.ref (α (0)), .int (nI (k)), .int (nI (d)), .int (nI (qq)), .int (nI (ln)), .ref (α (9))]) (n := 7) (Nat.le_of_ble_eq_true rfl)
  rw [lg_entry_eq]
  generalize (lg_sl ([.ref (α (0)), .int (nI (k)), .int (nI (d)), .int (nI (qq)), .int (nI (ln)), .ref (α (9))]) ++ List.replicate (7 - (lg_sl ([.ref (α (0)), .int (nI (k)), .int (nI (d)), .int (nI (qq)), .int (nI (ln)), .ref (α (9))])).length) Slot.unset).toArray = ls at hl ⊢
  have hl : lv_has ls 7 [(0, .ref (α (0))), (1, .int (nI (k))), (2, .int (nI (d))), (3, .int (nI (qq))), (4, .int (nI (ln))), (5, .ref (α (9)))] := hl
  refine lv_aload hx hb dL_addShift_0 (lv_at hl 5 rfl) ?_
  refine lv_iconst (v := (0)) hx hb dL_addShift_2 (by decide) ?_
  refine lv_aload_n hx hb dL_addShift_3 rfl (lv_at hl 0 rfl) ?_
  refine lv_iload_n hx hb dL_addShift_4 rfl (lv_at hl 1 rfl) ?_
  refine lv_iload_n hx hb dL_addShift_5 rfl (lv_at hl 2 rfl) ?_
  refine lv_iload_n hx hb dL_addShift_6 rfl (lv_at hl 3 rfl) ?_
  refine lv_iload hx hb dL_addShift_7 (lv_at hl 4 rfl) ?_
  refine mcallTV hw k0 rfl rfl ⟨hx, hb, hml, hown, hts⟩ hS (t_X3_addShift_3 hl0 hC hwf k d qq ln hk hd hqq hln hln2 hov) (cwV 4 hts gL_addShift_X3_addShift rfl rfl rfl (by decide +kernel) ⟨Nat.le_of_ble_eq_true rfl, Nat.le_of_ble_eq_true rfl⟩) rfl hl.1 rfl (Nat.le_of_ble_eq_true rfl) dL_addShift_9 ⟨Nat.le_of_ble_eq_true rfl, Nat.le_of_ble_eq_true rfl⟩ (fun q9 ce H locs hw hS hce hcv hcl => ?_)
  refine vx_catch (name := "java/lang/IllegalStateException") (E := "java/lang/IllegalStateException") hown [⟨0, 14, 17, 25⟩, ⟨0, 14, 21, 13⟩] ⟨0, 14, 25, 19⟩ [] htb (fun z hz => by
      rcases List.mem_cons.mp hz with rfl | hz
      · exact Or.inr ⟨by decide, "java/lang/IndexOutOfBoundsException", lk25, hw.1.2.2.2.2.1 ("java/lang/IllegalStateException", "java/lang/IndexOutOfBoundsException") (by decide)⟩
      · rw [List.mem_singleton.mp hz]
        exact Or.inr ⟨by decide, "java/lang/IllegalArgumentException", lk13, hw.1.2.2.2.2.1 ("java/lang/IllegalStateException", "java/lang/IllegalArgumentException") (by decide)⟩) (by decide) (by decide) lk19 (va_Nw.use rfl (hw.1.2.2.1 ("java/lang/IllegalStateException", "java/lang/IllegalStateException") (by decide))) hce hcv hcl ?_
  refine W.eq (g2 := F0 m 25 ls [.ref (q9)]) rfl ?_
  refine lv_astore (lv' := [(6, .ref (q9)), (0, .ref (α (0))), (1, .int (nI (k))), (2, .int (nI (d))), (3, .int (nI (qq))), (4, .int (nI (ln))), (5, .ref (α (9)))]) hx hb dL_addShift_25 hl (by decide) rfl (fun ls hl => ?_)
  refine lv_iconst (v := (3)) hx hb dL_addShift_27 (by decide) ?_
  exact W.iret (v := 3) hx hb hr (fun t ht hW => ⟨⟨_, (V, α), rfl, ⟨rfl, rfl⟩, by show mH G V α t.heap; rw [ht]; exact hw.2.2⟩, hS.F ht⟩) hS.2.2 dL_addShift_28

set_option maxHeartbeats 4000000 in
set_option maxRecDepth 100000 in
theorem w_X3_cancel {l : Launch} {G : mG} {V : mV} {α : Nat → Nat} {f : sT} {nr nw ns : Nat} (hC : mC G V α f nr nw ns) (hwf : mwf f nr nw ns) (si : Nat) (hs : si < ns) (hg : f 13 si = 0) {g0 : Nat → Int64} (h9 : V 9 = some (.inl (G.2.2.2.2.1, 1, .inr (.inl g0)))) : Met l yL_cancel wsL_cancel ({ frames := 7, cells := 0, slots := 0, locals := 167 }) (va_Pc [.ref (α (0)), .int (nI (si)), .ref (α (9))] (fun U => mW G V α U U.heap)) (va_Qi (fun (r9 : Int32) (u : mV × (Nat → Nat)) => 0 = r9 ∧ mPQ G V α u (u2 f 13 si 1) nr nw ns (s_pay f nr si).toInt64) (fun u t => mH G u.1 u.2 t.heap) (mfree G)) 0 0 (mfree G) := by
  refine mofWH (cc := cL_cancel) (maxL := 4) (ret := (some .int)) (hh := [(0, 9, 12, 25), (0, 9, 15, 19)]) (by decide) rfl ?_
  intro p e s m args below meth c s₁ B hml hv
  obtain ⟨rfl, hw⟩ := hv
  have hx := B.exec
  have hb := B.bytes
  have hr := B.returns
  have hts := atoms_spec (ws := wsL_cancel) B.pre
  have hown : s.vm.findClass RL = some m.cls := findClass_of_methodNamed B.named
  have hlocks := B.notSynchronized
  have hS : va_S (mfree G) s.heap s.heap [] := va_S.rf
  obtain ⟨k0, -⟩ := id hC
  have htb : c.exceptionTable.toList = tableOf [(0, 9, 12, 25), (0, 9, 15, 19)] := vx_table (x := yL_cancel) B (hts _ List.mem_cons_self)
  have hl := lv_entry ([.ref (α (0)), .int (nI (si)), .ref (α (9))]) (n := 4) (Nat.le_of_ble_eq_true rfl)
  rw [lg_entry_eq]
  generalize (lg_sl ([.ref (α (0)), .int (nI (si)), .ref (α (9))]) ++ List.replicate (4 - (lg_sl ([.ref (α (0)), .int (nI (si)), .ref (α (9))])).length) Slot.unset).toArray = ls at hl ⊢
  have hl : lv_has ls 4 [(0, .ref (α (0))), (1, .int (nI (si))), (2, .ref (α (9)))] := hl
  refine lv_aload_n hx hb dL_cancel_0 rfl (lv_at hl 2 rfl) ?_
  refine lv_iconst (v := (0)) hx hb dL_cancel_1 (by decide) ?_
  refine lv_aload_n hx hb dL_cancel_2 rfl (lv_at hl 0 rfl) ?_
  refine lv_iload_n hx hb dL_cancel_3 rfl (lv_at hl 1 rfl) ?_
  refine mcallVw hw k0 rfl rfl ⟨hx, hb, hml, hown, hts⟩ hS (c_X3_cancel hC hwf si hs hg) (cwV 1 hts gL_cancel_X3_cancel rfl rfl rfl (by decide +kernel) ⟨Nat.le_of_ble_eq_true rfl, Nat.le_of_ble_eq_true rfl⟩) rfl hl.1 rfl (Nat.le_of_ble_eq_true rfl) dL_cancel_4 ⟨Nat.le_of_ble_eq_true rfl, Nat.le_of_ble_eq_true rfl⟩ (fun r9 V1 α1 H locs hq hw hS => ?_)
  obtain ⟨er, hC1, hO⟩ := hq
  dsimp only at hC1 hO
  subst er
  have h91 := ((hO 9 (by omega)).1 (by omega)).trans h9
  have e9 : α 9 = α1 9 := (hO 9 (by omega)).2.symm
  refine W.eq (g2 := F0 m 7 ls [.int (s_pay f nr si), .int (0), .ref (α1 9)]) (by rw [e9]) ?_
  refine lv_i2l (v := (s_pay f nr si).toInt64) hx hb dL_cancel_7 rfl ?_
  refine mlast hx hb hw hS h91 vin01 dL_cancel_8 (fun H locs hw hS => ?_)
  obtain ⟨V2, hV2⟩ : ∃ z9 : mV, z9 = vup V1 9 (.inl (G.2.2.2.2.1, 1, .inr (.inl (vp_updL g0 (0 : Int32).toNatClampNeg ((s_pay f nr si).toInt64))))) := ⟨_, rfl⟩
  have hw : mW G V2 α1 s H := by rw [hV2]; exact hw
  have p1 : ∀ j, j ≠ 9 → V2 j = V1 j := fun j hj => by rw [hV2]; exact vup_n _ _ hj
  have p2 : ∃ g : Nat → Int64, V2 9 = some (.inl (G.2.2.2.2.1, 1, .inr (.inl g))) ∧ g 0 = ((s_pay f nr si).toInt64) := ⟨_, by rw [hV2]; exact vup_s _ _ _, (show vp_updL g0 (0 : Int32).toNatClampNeg ((s_pay f nr si).toInt64) 0 = ((s_pay f nr si).toInt64) from if_pos (by decide))⟩
  obtain ⟨g1, g2, g3⟩ := p2
  refine lv_goto (tgt := 18) hx hb dL_cancel_9 (by decide) ?_
  refine lv_iconst (v := (0)) hx hb dL_cancel_18 (by decide) ?_
  exact W.iret (v := 0) hx hb hr (fun t ht hW => ⟨⟨_, (V2, α1), rfl, ⟨rfl, hC1.out p1, fun j hj => ⟨fun h => (p1 j (by omega)).trans ((hO j hj).1 (by omega)), (hO j hj).2⟩, ⟨g1, g2, g3.trans rfl⟩⟩, by show mH G V2 α1 t.heap; rw [ht]; exact hw.2.2⟩, hS.F ht⟩) hS.2.2 dL_cancel_19

set_option maxHeartbeats 4000000 in
set_option maxRecDepth 100000 in
theorem x_X3_cancel_1 {l : Launch} {G : mG} {V : mV} {α : Nat → Nat} {f : sT} {nr nw ns : Nat} (hl0 : l.stackTraces = false) (hC : mC G V α f nr nw ns) (hwf : mwf f nr nw ns) (y : Int32) (hbad : ¬ inn y 0 (nI ns - 1)) : Met l yL_cancel wsL_cancel ({ frames := 8, cells := 1, slots := 6, locals := 126 }) (va_Pc [.ref (α (0)), .int (y), .ref (α (9))] (fun U => mW G V α U U.heap)) (va_Qi (fun (r9 : Int32) (u : mV × (Nat → Nat)) => 1 = r9 ∧ u = (V, α)) (fun u t => mH G u.1 u.2 t.heap) (mfree G)) 1 6 (mfree G) := by
  refine mofWH (cc := cL_cancel) (maxL := 4) (ret := (some .int)) (hh := [(0, 9, 12, 25), (0, 9, 15, 19)]) (by decide) rfl ?_
  intro p e s m args below meth c s₁ B hml hv
  obtain ⟨rfl, hw⟩ := hv
  have hx := B.exec
  have hb := B.bytes
  have hr := B.returns
  have hts := atoms_spec (ws := wsL_cancel) B.pre
  have hown : s.vm.findClass RL = some m.cls := findClass_of_methodNamed B.named
  have hlocks := B.notSynchronized
  have hS : va_S (mfree G) s.heap s.heap [] := va_S.rf
  obtain ⟨k0, -⟩ := id hC
  have htb : c.exceptionTable.toList = tableOf [(0, 9, 12, 25), (0, 9, 15, 19)] := vx_table (x := yL_cancel) B (hts _ List.mem_cons_self)
  have lk25 := hts (.classLink RL 25 "java/lang/IndexOutOfBoundsException") (by decide +kernel)
  have hl := lv_entry ([.ref (α (0)), .int (y), .ref (α (9))]) (n := 4) (Nat.le_of_ble_eq_true rfl)
  rw [lg_entry_eq]
  generalize (lg_sl ([.ref (α (0)), .int (y), .ref (α (9))]) ++ List.replicate (4 - (lg_sl ([.ref (α (0)), .int (y), .ref (α (9))])).length) Slot.unset).toArray = ls at hl ⊢
  have hl : lv_has ls 4 [(0, .ref (α (0))), (1, .int (y)), (2, .ref (α (9)))] := hl
  refine lv_aload_n hx hb dL_cancel_0 rfl (lv_at hl 2 rfl) ?_
  refine lv_iconst (v := (0)) hx hb dL_cancel_1 (by decide) ?_
  refine lv_aload_n hx hb dL_cancel_2 rfl (lv_at hl 0 rfl) ?_
  refine lv_iload_n hx hb dL_cancel_3 rfl (lv_at hl 1 rfl) ?_
  refine mcallTV hw k0 rfl rfl ⟨hx, hb, hml, hown, hts⟩ hS (t_X3_cancel_1 hl0 hC hwf y hbad) (cwV 1 hts gL_cancel_X3_cancel rfl rfl rfl (by decide +kernel) ⟨Nat.le_of_ble_eq_true rfl, Nat.le_of_ble_eq_true rfl⟩) rfl hl.1 rfl (Nat.le_of_ble_eq_true rfl) dL_cancel_4 ⟨Nat.le_of_ble_eq_true rfl, Nat.le_of_ble_eq_true rfl⟩ (fun q9 ce H locs hw hS hce hcv hcl => ?_)
  refine vx_catch (name := "java/lang/IndexOutOfBoundsException") (E := "java/lang/IndexOutOfBoundsException") hown [] ⟨0, 9, 12, 25⟩ [⟨0, 9, 15, 19⟩] htb (fun z hz => absurd hz List.not_mem_nil) (by decide) (by decide) lk25 (va_Nw.use rfl (hw.1.2.2.1 ("java/lang/IndexOutOfBoundsException", "java/lang/IndexOutOfBoundsException") (by decide))) hce hcv hcl ?_
  refine W.eq (g2 := F0 m 12 ls [.ref (q9)]) rfl ?_
  refine lv_astore_n (lv' := [(3, .ref (q9)), (0, .ref (α (0))), (1, .int (y)), (2, .ref (α (9)))]) hx hb dL_cancel_12 rfl hl (by decide) rfl (fun ls hl => ?_)
  refine lv_iconst (v := (1)) hx hb dL_cancel_13 (by decide) ?_
  exact W.iret (v := 1) hx hb hr (fun t ht hW => ⟨⟨_, (V, α), rfl, ⟨rfl, rfl⟩, by show mH G V α t.heap; rw [ht]; exact hw.2.2⟩, hS.F ht⟩) hS.2.2 dL_cancel_14

set_option maxHeartbeats 4000000 in
set_option maxRecDepth 100000 in
theorem x_X3_cancel_2 {l : Launch} {G : mG} {V : mV} {α : Nat → Nat} {f : sT} {nr nw ns : Nat} (hl0 : l.stackTraces = false) (hC : mC G V α f nr nw ns) (hwf : mwf f nr nw ns) (si : Nat) (hs : si < ns) (hg : ¬ f 13 si = 0) : Met l yL_cancel wsL_cancel ({ frames := 8, cells := 1, slots := 6, locals := 125 }) (va_Pc [.ref (α (0)), .int (nI (si)), .ref (α (9))] (fun U => mW G V α U U.heap)) (va_Qi (fun (r9 : Int32) (u : mV × (Nat → Nat)) => 2 = r9 ∧ u = (V, α)) (fun u t => mH G u.1 u.2 t.heap) (mfree G)) 1 6 (mfree G) := by
  refine mofWH (cc := cL_cancel) (maxL := 4) (ret := (some .int)) (hh := [(0, 9, 12, 25), (0, 9, 15, 19)]) (by decide) rfl ?_
  intro p e s m args below meth c s₁ B hml hv
  obtain ⟨rfl, hw⟩ := hv
  have hx := B.exec
  have hb := B.bytes
  have hr := B.returns
  have hts := atoms_spec (ws := wsL_cancel) B.pre
  have hown : s.vm.findClass RL = some m.cls := findClass_of_methodNamed B.named
  have hlocks := B.notSynchronized
  have hS : va_S (mfree G) s.heap s.heap [] := va_S.rf
  obtain ⟨k0, -⟩ := id hC
  have htb : c.exceptionTable.toList = tableOf [(0, 9, 12, 25), (0, 9, 15, 19)] := vx_table (x := yL_cancel) B (hts _ List.mem_cons_self)
  have lk25 := hts (.classLink RL 25 "java/lang/IndexOutOfBoundsException") (by decide +kernel)
  have lk19 := hts (.classLink RL 19 "java/lang/IllegalStateException") (by decide +kernel)
  have hl := lv_entry ([.ref (α (0)), .int (nI (si)), .ref (α (9))]) (n := 4) (Nat.le_of_ble_eq_true rfl)
  rw [lg_entry_eq]
  generalize (lg_sl ([.ref (α (0)), .int (nI (si)), .ref (α (9))]) ++ List.replicate (4 - (lg_sl ([.ref (α (0)), .int (nI (si)), .ref (α (9))])).length) Slot.unset).toArray = ls at hl ⊢
  have hl : lv_has ls 4 [(0, .ref (α (0))), (1, .int (nI (si))), (2, .ref (α (9)))] := hl
  refine lv_aload_n hx hb dL_cancel_0 rfl (lv_at hl 2 rfl) ?_
  refine lv_iconst (v := (0)) hx hb dL_cancel_1 (by decide) ?_
  refine lv_aload_n hx hb dL_cancel_2 rfl (lv_at hl 0 rfl) ?_
  refine lv_iload_n hx hb dL_cancel_3 rfl (lv_at hl 1 rfl) ?_
  refine mcallTV hw k0 rfl rfl ⟨hx, hb, hml, hown, hts⟩ hS (t_X3_cancel_2 hl0 hC hwf si hs hg) (cwV 1 hts gL_cancel_X3_cancel rfl rfl rfl (by decide +kernel) ⟨Nat.le_of_ble_eq_true rfl, Nat.le_of_ble_eq_true rfl⟩) rfl hl.1 rfl (Nat.le_of_ble_eq_true rfl) dL_cancel_4 ⟨Nat.le_of_ble_eq_true rfl, Nat.le_of_ble_eq_true rfl⟩ (fun q9 ce H locs hw hS hce hcv hcl => ?_)
  refine vx_catch (name := "java/lang/IllegalStateException") (E := "java/lang/IllegalStateException") hown [⟨0, 9, 12, 25⟩] ⟨0, 9, 15, 19⟩ [] htb (fun z hz => by rw [List.mem_singleton.mp hz]; exact Or.inr ⟨by decide, "java/lang/IndexOutOfBoundsException", lk25, hw.1.2.2.2.2.1 ("java/lang/IllegalStateException", "java/lang/IndexOutOfBoundsException") (by decide)⟩) (by decide) (by decide) lk19 (va_Nw.use rfl (hw.1.2.2.1 ("java/lang/IllegalStateException", "java/lang/IllegalStateException") (by decide))) hce hcv hcl ?_
  refine W.eq (g2 := F0 m 15 ls [.ref (q9)]) rfl ?_
  refine lv_astore_n (lv' := [(3, .ref (q9)), (0, .ref (α (0))), (1, .int (nI (si))), (2, .ref (α (9)))]) hx hb dL_cancel_15 rfl hl (by decide) rfl (fun ls hl => ?_)
  refine lv_iconst (v := (2)) hx hb dL_cancel_16 (by decide) ?_
  exact W.iret (v := 2) hx hb hr (fun t ht hW => ⟨⟨_, (V, α), rfl, ⟨rfl, rfl⟩, by show mH G V α t.heap; rw [ht]; exact hw.2.2⟩, hS.F ht⟩) hS.2.2 dL_cancel_17

set_option maxHeartbeats 4000000 in
set_option maxRecDepth 100000 in
theorem w_X3_takeBreaks {l : Launch} {G : mG} {V : mV} {α : Nat → Nat} {f : sT} {nr nw ns : Nat} (hC : mC G V α f nr nw ns) (hwf : mwf f nr nw ns) (si : Nat) (hs : si < ns) (hg : f 13 si = 0) (t : Nat) (ht0 : t ≤ 5) {g0 : Nat → Int64} (h9 : V 9 = some (.inl (G.2.2.2.2.1, 1, .inr (.inl g0)))) : Met l yL_takeBreaks wsL_takeBreaks ({ frames := 5, cells := 0, slots := 0, locals := 109 }) (va_Pc [.ref (α (0)), .int (nI (si)), .int (nI (t)), .ref (α (9))] (fun U => mW G V α U U.heap)) (va_Qi (fun (r9 : Int32) (u : mV × (Nat → Nat)) => 0 = r9 ∧ mPQ G V α u (u2 f 12 si (nI t)) nr nw ns (f 12 si).toInt64) (fun u t => mH G u.1 u.2 t.heap) (mfree G)) 0 0 (mfree G) := by
  refine mofWH (cc := cL_takeBreaks) (maxL := 5) (ret := (some .int)) (hh := [(0, 10, 13, 25), (0, 10, 17, 13), (0, 10, 21, 19)]) (by decide) rfl ?_
  intro p e s m args below meth c s₁ B hml hv
  obtain ⟨rfl, hw⟩ := hv
  have hx := B.exec
  have hb := B.bytes
  have hr := B.returns
  have hts := atoms_spec (ws := wsL_takeBreaks) B.pre
  have hown : s.vm.findClass RL = some m.cls := findClass_of_methodNamed B.named
  have hlocks := B.notSynchronized
  have hS : va_S (mfree G) s.heap s.heap [] := va_S.rf
  obtain ⟨k0, -⟩ := id hC
  have htb : c.exceptionTable.toList = tableOf [(0, 10, 13, 25), (0, 10, 17, 13), (0, 10, 21, 19)] := vx_table (x := yL_takeBreaks) B (hts _ List.mem_cons_self)
  have hl := lv_entry ([.ref (α (0)), .int (nI (si)), .int (nI (t)), .ref (α (9))]) (n := 5) (Nat.le_of_ble_eq_true rfl)
  rw [lg_entry_eq]
  generalize (lg_sl ([.ref (α (0)), .int (nI (si)), .int (nI (t)), .ref (α (9))]) ++ List.replicate (5 - (lg_sl ([.ref (α (0)), .int (nI (si)), .int (nI (t)), .ref (α (9))])).length) Slot.unset).toArray = ls at hl ⊢
  have hl : lv_has ls 5 [(0, .ref (α (0))), (1, .int (nI (si))), (2, .int (nI (t))), (3, .ref (α (9)))] := hl
  refine lv_aload_n hx hb dL_takeBreaks_0 rfl (lv_at hl 3 rfl) ?_
  refine lv_iconst (v := (0)) hx hb dL_takeBreaks_1 (by decide) ?_
  refine lv_aload_n hx hb dL_takeBreaks_2 rfl (lv_at hl 0 rfl) ?_
  refine lv_iload_n hx hb dL_takeBreaks_3 rfl (lv_at hl 1 rfl) ?_
  refine lv_iload_n hx hb dL_takeBreaks_4 rfl (lv_at hl 2 rfl) ?_
  refine mcallVw hw k0 rfl rfl ⟨hx, hb, hml, hown, hts⟩ hS (c_X3_takeBreaks hC hwf si hs hg t ht0) (cwV 2 hts gL_takeBreaks_X3_takeBreaks rfl rfl rfl (by decide +kernel) ⟨Nat.le_of_ble_eq_true rfl, Nat.le_of_ble_eq_true rfl⟩) rfl hl.1 rfl (Nat.le_of_ble_eq_true rfl) dL_takeBreaks_5 ⟨Nat.le_of_ble_eq_true rfl, Nat.le_of_ble_eq_true rfl⟩ (fun r9 V1 α1 H locs hq hw hS => ?_)
  obtain ⟨er, hC1, hO⟩ := hq
  dsimp only at hC1 hO
  subst er
  have h91 := ((hO 9 (by omega)).1 (by omega)).trans h9
  have e9 : α 9 = α1 9 := (hO 9 (by omega)).2.symm
  refine W.eq (g2 := F0 m 8 ls [.int (f 12 si), .int (0), .ref (α1 9)]) (by rw [e9]) ?_
  refine lv_i2l (v := (f 12 si).toInt64) hx hb dL_takeBreaks_8 rfl ?_
  refine mlast hx hb hw hS h91 vin01 dL_takeBreaks_9 (fun H locs hw hS => ?_)
  obtain ⟨V2, hV2⟩ : ∃ z9 : mV, z9 = vup V1 9 (.inl (G.2.2.2.2.1, 1, .inr (.inl (vp_updL g0 (0 : Int32).toNatClampNeg ((f 12 si).toInt64))))) := ⟨_, rfl⟩
  have hw : mW G V2 α1 s H := by rw [hV2]; exact hw
  have p1 : ∀ j, j ≠ 9 → V2 j = V1 j := fun j hj => by rw [hV2]; exact vup_n _ _ hj
  have p2 : ∃ g : Nat → Int64, V2 9 = some (.inl (G.2.2.2.2.1, 1, .inr (.inl g))) ∧ g 0 = ((f 12 si).toInt64) := ⟨_, by rw [hV2]; exact vup_s _ _ _, (show vp_updL g0 (0 : Int32).toNatClampNeg ((f 12 si).toInt64) 0 = ((f 12 si).toInt64) from if_pos (by decide))⟩
  obtain ⟨g1, g2, g3⟩ := p2
  refine lv_goto (tgt := 25) hx hb dL_takeBreaks_10 (by decide) ?_
  refine lv_iconst (v := (0)) hx hb dL_takeBreaks_25 (by decide) ?_
  exact W.iret (v := 0) hx hb hr (fun t ht hW => ⟨⟨_, (V2, α1), rfl, ⟨rfl, hC1.out p1, fun j hj => ⟨fun h => (p1 j (by omega)).trans ((hO j hj).1 (by omega)), (hO j hj).2⟩, ⟨g1, g2, g3.trans rfl⟩⟩, by show mH G V2 α1 t.heap; rw [ht]; exact hw.2.2⟩, hS.F ht⟩) hS.2.2 dL_takeBreaks_26

set_option maxHeartbeats 4000000 in
set_option maxRecDepth 100000 in
theorem x_X3_takeBreaks_1 {l : Launch} {G : mG} {V : mV} {α : Nat → Nat} {f : sT} {nr nw ns : Nat} (hl0 : l.stackTraces = false) (hC : mC G V α f nr nw ns) (hwf : mwf f nr nw ns) (y : Int32) (hbad : ¬ inn y 0 (nI ns - 1)) (x : Int32) : Met l yL_takeBreaks wsL_takeBreaks ({ frames := 8, cells := 1, slots := 6, locals := 127 }) (va_Pc [.ref (α (0)), .int (y), .int (x), .ref (α (9))] (fun U => mW G V α U U.heap)) (va_Qi (fun (r9 : Int32) (u : mV × (Nat → Nat)) => 1 = r9 ∧ u = (V, α)) (fun u t => mH G u.1 u.2 t.heap) (mfree G)) 1 6 (mfree G) := by
  refine mofWH (cc := cL_takeBreaks) (maxL := 5) (ret := (some .int)) (hh := [(0, 10, 13, 25), (0, 10, 17, 13), (0, 10, 21, 19)]) (by decide) rfl ?_
  intro p e s m args below meth c s₁ B hml hv
  obtain ⟨rfl, hw⟩ := hv
  have hx := B.exec
  have hb := B.bytes
  have hr := B.returns
  have hts := atoms_spec (ws := wsL_takeBreaks) B.pre
  have hown : s.vm.findClass RL = some m.cls := findClass_of_methodNamed B.named
  have hlocks := B.notSynchronized
  have hS : va_S (mfree G) s.heap s.heap [] := va_S.rf
  obtain ⟨k0, -⟩ := id hC
  have htb : c.exceptionTable.toList = tableOf [(0, 10, 13, 25), (0, 10, 17, 13), (0, 10, 21, 19)] := vx_table (x := yL_takeBreaks) B (hts _ List.mem_cons_self)
  have lk25 := hts (.classLink RL 25 "java/lang/IndexOutOfBoundsException") (by decide +kernel)
  have hl := lv_entry ([.ref (α (0)), .int (y), .int (x), .ref (α (9))]) (n := 5) (Nat.le_of_ble_eq_true rfl)
  rw [lg_entry_eq]
  generalize (lg_sl ([.ref (α (0)), .int (y), .int (x), .ref (α (9))]) ++ List.replicate (5 - (lg_sl ([.ref (α (0)), .int (y), .int (x), .ref (α (9))])).length) Slot.unset).toArray = ls at hl ⊢
  have hl : lv_has ls 5 [(0, .ref (α (0))), (1, .int (y)), (2, .int (x)), (3, .ref (α (9)))] := hl
  refine lv_aload_n hx hb dL_takeBreaks_0 rfl (lv_at hl 3 rfl) ?_
  refine lv_iconst (v := (0)) hx hb dL_takeBreaks_1 (by decide) ?_
  refine lv_aload_n hx hb dL_takeBreaks_2 rfl (lv_at hl 0 rfl) ?_
  refine lv_iload_n hx hb dL_takeBreaks_3 rfl (lv_at hl 1 rfl) ?_
  refine lv_iload_n hx hb dL_takeBreaks_4 rfl (lv_at hl 2 rfl) ?_
  refine mcallTV hw k0 rfl rfl ⟨hx, hb, hml, hown, hts⟩ hS (t_X3_takeBreaks_1 hl0 hC hwf y hbad x) (cwV 2 hts gL_takeBreaks_X3_takeBreaks rfl rfl rfl (by decide +kernel) ⟨Nat.le_of_ble_eq_true rfl, Nat.le_of_ble_eq_true rfl⟩) rfl hl.1 rfl (Nat.le_of_ble_eq_true rfl) dL_takeBreaks_5 ⟨Nat.le_of_ble_eq_true rfl, Nat.le_of_ble_eq_true rfl⟩ (fun q9 ce H locs hw hS hce hcv hcl => ?_)
  refine vx_catch (name := "java/lang/IndexOutOfBoundsException") (E := "java/lang/IndexOutOfBoundsException") hown [] ⟨0, 10, 13, 25⟩ [⟨0, 10, 17, 13⟩, ⟨0, 10, 21, 19⟩] htb (fun z hz => absurd hz List.not_mem_nil) (by decide) (by decide) lk25 (va_Nw.use rfl (hw.1.2.2.1 ("java/lang/IndexOutOfBoundsException", "java/lang/IndexOutOfBoundsException") (by decide))) hce hcv hcl ?_
  refine W.eq (g2 := F0 m 13 ls [.ref (q9)]) rfl ?_
  refine lv_astore (lv' := [(4, .ref (q9)), (0, .ref (α (0))), (1, .int (y)), (2, .int (x)), (3, .ref (α (9)))]) hx hb dL_takeBreaks_13 hl (by decide) rfl (fun ls hl => ?_)
  refine lv_iconst (v := (1)) hx hb dL_takeBreaks_15 (by decide) ?_
  exact W.iret (v := 1) hx hb hr (fun t ht hW => ⟨⟨_, (V, α), rfl, ⟨rfl, rfl⟩, by show mH G V α t.heap; rw [ht]; exact hw.2.2⟩, hS.F ht⟩) hS.2.2 dL_takeBreaks_16

set_option maxHeartbeats 4000000 in
set_option maxRecDepth 100000 in
theorem x_X3_takeBreaks_2 {l : Launch} {G : mG} {V : mV} {α : Nat → Nat} {f : sT} {nr nw ns : Nat} (hl0 : l.stackTraces = false) (hC : mC G V α f nr nw ns) (hwf : mwf f nr nw ns) (si : Nat) (hs : si < ns) (x : Int32) (hbad : ¬ inn x 0 5) : Met l yL_takeBreaks wsL_takeBreaks ({ frames := 8, cells := 1, slots := 6, locals := 128 }) (va_Pc [.ref (α (0)), .int (nI (si)), .int (x), .ref (α (9))] (fun U => mW G V α U U.heap)) (va_Qi (fun (r9 : Int32) (u : mV × (Nat → Nat)) => 2 = r9 ∧ u = (V, α)) (fun u t => mH G u.1 u.2 t.heap) (mfree G)) 1 6 (mfree G) := by
  refine mofWH (cc := cL_takeBreaks) (maxL := 5) (ret := (some .int)) (hh := [(0, 10, 13, 25), (0, 10, 17, 13), (0, 10, 21, 19)]) (by decide) rfl ?_
  intro p e s m args below meth c s₁ B hml hv
  obtain ⟨rfl, hw⟩ := hv
  have hx := B.exec
  have hb := B.bytes
  have hr := B.returns
  have hts := atoms_spec (ws := wsL_takeBreaks) B.pre
  have hown : s.vm.findClass RL = some m.cls := findClass_of_methodNamed B.named
  have hlocks := B.notSynchronized
  have hS : va_S (mfree G) s.heap s.heap [] := va_S.rf
  obtain ⟨k0, -⟩ := id hC
  have htb : c.exceptionTable.toList = tableOf [(0, 10, 13, 25), (0, 10, 17, 13), (0, 10, 21, 19)] := vx_table (x := yL_takeBreaks) B (hts _ List.mem_cons_self)
  have lk25 := hts (.classLink RL 25 "java/lang/IndexOutOfBoundsException") (by decide +kernel)
  have lk13 := hts (.classLink RL 13 "java/lang/IllegalArgumentException") (by decide +kernel)
  have hl := lv_entry ([.ref (α (0)), .int (nI (si)), .int (x), .ref (α (9))]) (n := 5) (Nat.le_of_ble_eq_true rfl)
  rw [lg_entry_eq]
  generalize (lg_sl ([.ref (α (0)), .int (nI (si)), .int (x), .ref (α (9))]) ++ List.replicate (5 - (lg_sl ([.ref (α (0)), .int (nI (si)), .int (x), .ref (α (9))])).length) Slot.unset).toArray = ls at hl ⊢
  have hl : lv_has ls 5 [(0, .ref (α (0))), (1, .int (nI (si))), (2, .int (x)), (3, .ref (α (9)))] := hl
  refine lv_aload_n hx hb dL_takeBreaks_0 rfl (lv_at hl 3 rfl) ?_
  refine lv_iconst (v := (0)) hx hb dL_takeBreaks_1 (by decide) ?_
  refine lv_aload_n hx hb dL_takeBreaks_2 rfl (lv_at hl 0 rfl) ?_
  refine lv_iload_n hx hb dL_takeBreaks_3 rfl (lv_at hl 1 rfl) ?_
  refine lv_iload_n hx hb dL_takeBreaks_4 rfl (lv_at hl 2 rfl) ?_
  refine mcallTV hw k0 rfl rfl ⟨hx, hb, hml, hown, hts⟩ hS (t_X3_takeBreaks_2 hl0 hC hwf si hs x hbad) (cwV 2 hts gL_takeBreaks_X3_takeBreaks rfl rfl rfl (by decide +kernel) ⟨Nat.le_of_ble_eq_true rfl, Nat.le_of_ble_eq_true rfl⟩) rfl hl.1 rfl (Nat.le_of_ble_eq_true rfl) dL_takeBreaks_5 ⟨Nat.le_of_ble_eq_true rfl, Nat.le_of_ble_eq_true rfl⟩ (fun q9 ce H locs hw hS hce hcv hcl => ?_)
  refine vx_catch (name := "java/lang/IllegalArgumentException") (E := "java/lang/IllegalArgumentException") hown [⟨0, 10, 13, 25⟩] ⟨0, 10, 17, 13⟩ [⟨0, 10, 21, 19⟩] htb (fun z hz => by rw [List.mem_singleton.mp hz]; exact Or.inr ⟨by decide, "java/lang/IndexOutOfBoundsException", lk25, hw.1.2.2.2.2.1 ("java/lang/IllegalArgumentException", "java/lang/IndexOutOfBoundsException") (by decide)⟩) (by decide) (by decide) lk13 (va_Nw.use rfl (hw.1.2.2.1 ("java/lang/IllegalArgumentException", "java/lang/IllegalArgumentException") (by decide))) hce hcv hcl ?_
  refine W.eq (g2 := F0 m 17 ls [.ref (q9)]) rfl ?_
  refine lv_astore (lv' := [(4, .ref (q9)), (0, .ref (α (0))), (1, .int (nI (si))), (2, .int (x)), (3, .ref (α (9)))]) hx hb dL_takeBreaks_17 hl (by decide) rfl (fun ls hl => ?_)
  refine lv_iconst (v := (2)) hx hb dL_takeBreaks_19 (by decide) ?_
  exact W.iret (v := 2) hx hb hr (fun t ht hW => ⟨⟨_, (V, α), rfl, ⟨rfl, rfl⟩, by show mH G V α t.heap; rw [ht]; exact hw.2.2⟩, hS.F ht⟩) hS.2.2 dL_takeBreaks_20

set_option maxHeartbeats 4000000 in
set_option maxRecDepth 100000 in
theorem x_X3_takeBreaks_3 {l : Launch} {G : mG} {V : mV} {α : Nat → Nat} {f : sT} {nr nw ns : Nat} (hl0 : l.stackTraces = false) (hC : mC G V α f nr nw ns) (hwf : mwf f nr nw ns) (si : Nat) (hs : si < ns) (x : Int32) (hx1 : inn x 0 5) (hg : ¬ f 13 si = 0) : Met l yL_takeBreaks wsL_takeBreaks ({ frames := 8, cells := 1, slots := 6, locals := 126 }) (va_Pc [.ref (α (0)), .int (nI (si)), .int (x), .ref (α (9))] (fun U => mW G V α U U.heap)) (va_Qi (fun (r9 : Int32) (u : mV × (Nat → Nat)) => 3 = r9 ∧ u = (V, α)) (fun u t => mH G u.1 u.2 t.heap) (mfree G)) 1 6 (mfree G) := by
  refine mofWH (cc := cL_takeBreaks) (maxL := 5) (ret := (some .int)) (hh := [(0, 10, 13, 25), (0, 10, 17, 13), (0, 10, 21, 19)]) (by decide) rfl ?_
  intro p e s m args below meth c s₁ B hml hv
  obtain ⟨rfl, hw⟩ := hv
  have hx := B.exec
  have hb := B.bytes
  have hr := B.returns
  have hts := atoms_spec (ws := wsL_takeBreaks) B.pre
  have hown : s.vm.findClass RL = some m.cls := findClass_of_methodNamed B.named
  have hlocks := B.notSynchronized
  have hS : va_S (mfree G) s.heap s.heap [] := va_S.rf
  obtain ⟨k0, -⟩ := id hC
  have htb : c.exceptionTable.toList = tableOf [(0, 10, 13, 25), (0, 10, 17, 13), (0, 10, 21, 19)] := vx_table (x := yL_takeBreaks) B (hts _ List.mem_cons_self)
  have lk25 := hts (.classLink RL 25 "java/lang/IndexOutOfBoundsException") (by decide +kernel)
  have lk13 := hts (.classLink RL 13 "java/lang/IllegalArgumentException") (by decide +kernel)
  have lk19 := hts (.classLink RL 19 "java/lang/IllegalStateException") (by decide +kernel)
  have hl := lv_entry ([.ref (α (0)), .int (nI (si)), .int (x), .ref (α (9))]) (n := 5) (Nat.le_of_ble_eq_true rfl)
  rw [lg_entry_eq]
  generalize (lg_sl ([.ref (α (0)), .int (nI (si)), .int (x), .ref (α (9))]) ++ List.replicate (5 - (lg_sl ([.ref (α (0)), .int (nI (si)), .int (x), .ref (α (9))])).length) Slot.unset).toArray = ls at hl ⊢
  have hl : lv_has ls 5 [(0, .ref (α (0))), (1, .int (nI (si))), (2, .int (x)), (3, .ref (α (9)))] := hl
  refine lv_aload_n hx hb dL_takeBreaks_0 rfl (lv_at hl 3 rfl) ?_
  refine lv_iconst (v := (0)) hx hb dL_takeBreaks_1 (by decide) ?_
  refine lv_aload_n hx hb dL_takeBreaks_2 rfl (lv_at hl 0 rfl) ?_
  refine lv_iload_n hx hb dL_takeBreaks_3 rfl (lv_at hl 1 rfl) ?_
  refine lv_iload_n hx hb dL_takeBreaks_4 rfl (lv_at hl 2 rfl) ?_
  refine mcallTV hw k0 rfl rfl ⟨hx, hb, hml, hown, hts⟩ hS (t_X3_takeBreaks_3 hl0 hC hwf si hs x hx1 hg) (cwV 2 hts gL_takeBreaks_X3_takeBreaks rfl rfl rfl (by decide +kernel) ⟨Nat.le_of_ble_eq_true rfl, Nat.le_of_ble_eq_true rfl⟩) rfl hl.1 rfl (Nat.le_of_ble_eq_true rfl) dL_takeBreaks_5 ⟨Nat.le_of_ble_eq_true rfl, Nat.le_of_ble_eq_true rfl⟩ (fun q9 ce H locs hw hS hce hcv hcl => ?_)
  refine vx_catch (name := "java/lang/IllegalStateException") (E := "java/lang/IllegalStateException") hown [⟨0, 10, 13, 25⟩, ⟨0, 10, 17, 13⟩] ⟨0, 10, 21, 19⟩ [] htb (fun z hz => by
      rcases List.mem_cons.mp hz with rfl | hz
      · exact Or.inr ⟨by decide, "java/lang/IndexOutOfBoundsException", lk25, hw.1.2.2.2.2.1 ("java/lang/IllegalStateException", "java/lang/IndexOutOfBoundsException") (by decide)⟩
      · rw [List.mem_singleton.mp hz]
        exact Or.inr ⟨by decide, "java/lang/IllegalArgumentException", lk13, hw.1.2.2.2.2.1 ("java/lang/IllegalStateException", "java/lang/IllegalArgumentException") (by decide)⟩) (by decide) (by decide) lk19 (va_Nw.use rfl (hw.1.2.2.1 ("java/lang/IllegalStateException", "java/lang/IllegalStateException") (by decide))) hce hcv hcl ?_
  refine W.eq (g2 := F0 m 21 ls [.ref (q9)]) rfl ?_
  refine lv_astore (lv' := [(4, .ref (q9)), (0, .ref (α (0))), (1, .int (nI (si))), (2, .int (x)), (3, .ref (α (9)))]) hx hb dL_takeBreaks_21 hl (by decide) rfl (fun ls hl => ?_)
  refine lv_iconst (v := (3)) hx hb dL_takeBreaks_23 (by decide) ?_
  exact W.iret (v := 3) hx hb hr (fun t ht hW => ⟨⟨_, (V, α), rfl, ⟨rfl, rfl⟩, by show mH G V α t.heap; rw [ht]; exact hw.2.2⟩, hS.F ht⟩) hS.2.2 dL_takeBreaks_24

set_option maxHeartbeats 4000000 in
set_option maxRecDepth 100000 in
theorem w_X3_paidQuarters {l : Launch} {G : mG} {V : mV} {α : Nat → Nat} {f : sT} {nr nw ns : Nat} (hC : mC G V α f nr nw ns) (hwf : mwf f nr nw ns) (si : Nat) (hs : si < ns) {g0 : Nat → Int64} (h9 : V 9 = some (.inl (G.2.2.2.2.1, 1, .inr (.inl g0)))) : Met l yL_paidQuarters wsL_paidQuarters ({ frames := 5, cells := 0, slots := 0, locals := 106 }) (va_Pc [.ref (α (0)), .int (nI (si)), .ref (α (9))] (fun U => mW G V α U U.heap)) (va_Qi (fun (r9 : Int32) (u : mV × (Nat → Nat)) => 0 = r9 ∧ mPQ G V α u f nr nw ns (s_paid f si).toInt64) (fun u t => mH G u.1 u.2 t.heap) (mfree G)) 0 0 (mfree G) := by
  refine mofWH (cc := cL_paidQuarters) (maxL := 4) (ret := (some .int)) (hh := [(0, 9, 12, 25)]) (by decide) rfl ?_
  intro p e s m args below meth c s₁ B hml hv
  obtain ⟨rfl, hw⟩ := hv
  have hx := B.exec
  have hb := B.bytes
  have hr := B.returns
  have hts := atoms_spec (ws := wsL_paidQuarters) B.pre
  have hown : s.vm.findClass RL = some m.cls := findClass_of_methodNamed B.named
  have hlocks := B.notSynchronized
  have hS : va_S (mfree G) s.heap s.heap [] := va_S.rf
  obtain ⟨k0, -⟩ := id hC
  have htb : c.exceptionTable.toList = tableOf [(0, 9, 12, 25)] := vx_table (x := yL_paidQuarters) B (hts _ List.mem_cons_self)
  have hl := lv_entry ([.ref (α (0)), .int (nI (si)), .ref (α (9))]) (n := 4) (Nat.le_of_ble_eq_true rfl)
  rw [lg_entry_eq]
  generalize (lg_sl ([.ref (α (0)), .int (nI (si)), .ref (α (9))]) ++ List.replicate (4 - (lg_sl ([.ref (α (0)), .int (nI (si)), .ref (α (9))])).length) Slot.unset).toArray = ls at hl ⊢
  have hl : lv_has ls 4 [(0, .ref (α (0))), (1, .int (nI (si))), (2, .ref (α (9)))] := hl
  refine lv_aload_n hx hb dL_paidQuarters_0 rfl (lv_at hl 2 rfl) ?_
  refine lv_iconst (v := (0)) hx hb dL_paidQuarters_1 (by decide) ?_
  refine lv_aload_n hx hb dL_paidQuarters_2 rfl (lv_at hl 0 rfl) ?_
  refine lv_iload_n hx hb dL_paidQuarters_3 rfl (lv_at hl 1 rfl) ?_
  refine mcallVi hw k0 rfl rfl ⟨hx, hb, hml, hown, hts⟩ (c_X3_paidQuarters hC hwf si hs) (cwV 1 hts gL_paidQuarters_X3_paidQuarters rfl rfl rfl (by decide +kernel) ⟨Nat.le_of_ble_eq_true rfl, Nat.le_of_ble_eq_true rfl⟩) rfl hl.1 rfl (Nat.le_of_ble_eq_true rfl) dL_paidQuarters_4 ⟨Nat.le_of_ble_eq_true rfl, Nat.le_of_ble_eq_true rfl⟩ ?_
  obtain ⟨V1, eV⟩ : ∃ z9 : mV, z9 = V := ⟨_, rfl⟩
  obtain ⟨α1, eα⟩ : ∃ z9 : Nat → Nat, z9 = α := ⟨_, rfl⟩
  have hC1 : mC G V1 α1 f nr nw ns := by rw [eV, eα]; exact hC
  have hw : mW G V1 α1 s s.heap := by rw [eV, eα]; exact hw
  have hO : ∀ j, j < 100 → (9 ≤ j → V1 j = V j) ∧ α1 j = α j := fun j hj => by rw [eV, eα]; exact ⟨fun _ => rfl, rfl⟩
  have h91 := ((hO 9 (by omega)).1 (by omega)).trans h9
  have e9 : α 9 = α1 9 := (hO 9 (by omega)).2.symm
  refine W.eq (g2 := F0 m 7 ls [.int (s_paid f si), .int (0), .ref (α1 9)]) (by rw [e9]) ?_
  refine lv_i2l (v := (s_paid f si).toInt64) hx hb dL_paidQuarters_7 rfl ?_
  refine mlast hx hb hw hS h91 vin01 dL_paidQuarters_8 (fun H locs hw hS => ?_)
  obtain ⟨V2, hV2⟩ : ∃ z9 : mV, z9 = vup V1 9 (.inl (G.2.2.2.2.1, 1, .inr (.inl (vp_updL g0 (0 : Int32).toNatClampNeg ((s_paid f si).toInt64))))) := ⟨_, rfl⟩
  have hw : mW G V2 α1 s H := by rw [hV2]; exact hw
  have p1 : ∀ j, j ≠ 9 → V2 j = V1 j := fun j hj => by rw [hV2]; exact vup_n _ _ hj
  have p2 : ∃ g : Nat → Int64, V2 9 = some (.inl (G.2.2.2.2.1, 1, .inr (.inl g))) ∧ g 0 = ((s_paid f si).toInt64) := ⟨_, by rw [hV2]; exact vup_s _ _ _, (show vp_updL g0 (0 : Int32).toNatClampNeg ((s_paid f si).toInt64) 0 = ((s_paid f si).toInt64) from if_pos (by decide))⟩
  obtain ⟨g1, g2, g3⟩ := p2
  refine lv_goto (tgt := 15) hx hb dL_paidQuarters_9 (by decide) ?_
  refine lv_iconst (v := (0)) hx hb dL_paidQuarters_15 (by decide) ?_
  exact W.iret (v := 0) hx hb hr (fun t ht hW => ⟨⟨_, (V2, α1), rfl, ⟨rfl, hC1.out p1, fun j hj => ⟨fun h => (p1 j (by omega)).trans ((hO j hj).1 (by omega)), (hO j hj).2⟩, ⟨g1, g2, g3.trans rfl⟩⟩, by show mH G V2 α1 t.heap; rw [ht]; exact hw.2.2⟩, hS.F ht⟩) hS.2.2 dL_paidQuarters_16

set_option maxHeartbeats 4000000 in
set_option maxRecDepth 100000 in
theorem x_X3_paidQuarters_1 {l : Launch} {G : mG} {V : mV} {α : Nat → Nat} {f : sT} {nr nw ns : Nat} (hl0 : l.stackTraces = false) (hC : mC G V α f nr nw ns) (hwf : mwf f nr nw ns) (y : Int32) (hbad : ¬ inn y 0 (nI ns - 1)) : Met l yL_paidQuarters wsL_paidQuarters ({ frames := 8, cells := 1, slots := 6, locals := 124 }) (va_Pc [.ref (α (0)), .int (y), .ref (α (9))] (fun U => mW G V α U U.heap)) (va_Qi (fun (r9 : Int32) (u : mV × (Nat → Nat)) => 1 = r9 ∧ u = (V, α)) (fun u t => mH G u.1 u.2 t.heap) (mfree G)) 1 6 (mfree G) := by
  refine mofWH (cc := cL_paidQuarters) (maxL := 4) (ret := (some .int)) (hh := [(0, 9, 12, 25)]) (by decide) rfl ?_
  intro p e s m args below meth c s₁ B hml hv
  obtain ⟨rfl, hw⟩ := hv
  have hx := B.exec
  have hb := B.bytes
  have hr := B.returns
  have hts := atoms_spec (ws := wsL_paidQuarters) B.pre
  have hown : s.vm.findClass RL = some m.cls := findClass_of_methodNamed B.named
  have hlocks := B.notSynchronized
  have hS : va_S (mfree G) s.heap s.heap [] := va_S.rf
  obtain ⟨k0, -⟩ := id hC
  have htb : c.exceptionTable.toList = tableOf [(0, 9, 12, 25)] := vx_table (x := yL_paidQuarters) B (hts _ List.mem_cons_self)
  have lk25 := hts (.classLink RL 25 "java/lang/IndexOutOfBoundsException") (by decide +kernel)
  have hl := lv_entry ([.ref (α (0)), .int (y), .ref (α (9))]) (n := 4) (Nat.le_of_ble_eq_true rfl)
  rw [lg_entry_eq]
  generalize (lg_sl ([.ref (α (0)), .int (y), .ref (α (9))]) ++ List.replicate (4 - (lg_sl ([.ref (α (0)), .int (y), .ref (α (9))])).length) Slot.unset).toArray = ls at hl ⊢
  have hl : lv_has ls 4 [(0, .ref (α (0))), (1, .int (y)), (2, .ref (α (9)))] := hl
  refine lv_aload_n hx hb dL_paidQuarters_0 rfl (lv_at hl 2 rfl) ?_
  refine lv_iconst (v := (0)) hx hb dL_paidQuarters_1 (by decide) ?_
  refine lv_aload_n hx hb dL_paidQuarters_2 rfl (lv_at hl 0 rfl) ?_
  refine lv_iload_n hx hb dL_paidQuarters_3 rfl (lv_at hl 1 rfl) ?_
  refine mcallTV hw k0 rfl rfl ⟨hx, hb, hml, hown, hts⟩ hS (t_X3_paidQuarters_1 hl0 hC hwf y hbad) (cwV 1 hts gL_paidQuarters_X3_paidQuarters rfl rfl rfl (by decide +kernel) ⟨Nat.le_of_ble_eq_true rfl, Nat.le_of_ble_eq_true rfl⟩) rfl hl.1 rfl (Nat.le_of_ble_eq_true rfl) dL_paidQuarters_4 ⟨Nat.le_of_ble_eq_true rfl, Nat.le_of_ble_eq_true rfl⟩ (fun q9 ce H locs hw hS hce hcv hcl => ?_)
  refine vx_catch (name := "java/lang/IndexOutOfBoundsException") (E := "java/lang/IndexOutOfBoundsException") hown [] ⟨0, 9, 12, 25⟩ [] htb (fun z hz => absurd hz List.not_mem_nil) (by decide) (by decide) lk25 (va_Nw.use rfl (hw.1.2.2.1 ("java/lang/IndexOutOfBoundsException", "java/lang/IndexOutOfBoundsException") (by decide))) hce hcv hcl ?_
  refine W.eq (g2 := F0 m 12 ls [.ref (q9)]) rfl ?_
  refine lv_astore_n (lv' := [(3, .ref (q9)), (0, .ref (α (0))), (1, .int (y)), (2, .ref (α (9)))]) hx hb dL_paidQuarters_12 rfl hl (by decide) rfl (fun ls hl => ?_)
  refine lv_iconst (v := (1)) hx hb dL_paidQuarters_13 (by decide) ?_
  exact W.iret (v := 1) hx hb hr (fun t ht hW => ⟨⟨_, (V, α), rfl, ⟨rfl, rfl⟩, by show mH G V α t.heap; rw [ht]; exact hw.2.2⟩, hS.F ht⟩) hS.2.2 dL_paidQuarters_14

set_option maxHeartbeats 4000000 in
set_option maxRecDepth 100000 in
theorem w_X3_percentAt {l : Launch} {G : mG} {V : mV} {α : Nat → Nat} {f : sT} {nr nw ns : Nat} (hC : mC G V α f nr nw ns) (hwf : mwf f nr nw ns) (si : Nat) (hs : si < ns) (q : Nat) (hq : q < pN f si) {g0 : Nat → Int64} (h9 : V 9 = some (.inl (G.2.2.2.2.1, 1, .inr (.inl g0)))) : Met l yL_percentAt wsL_percentAt ({ frames := 6, cells := 0, slots := 0, locals := 143 }) (va_Pc [.ref (α (0)), .int (nI (si)), .int (nI (q)), .ref (α (9))] (fun U => mW G V α U U.heap)) (va_Qi (fun (r9 : Int32) (u : mV × (Nat → Nat)) => 0 = r9 ∧ mPQ G V α u f nr nw ns (s_P f (wN f si) (aN f si) q nr).toInt64) (fun u t => mH G u.1 u.2 t.heap) (mfree G)) 0 0 (mfree G) := by
  refine mofWH (cc := cL_percentAt) (maxL := 5) (ret := (some .int)) (hh := [(0, 10, 13, 25)]) (by decide) rfl ?_
  intro p e s m args below meth c s₁ B hml hv
  obtain ⟨rfl, hw⟩ := hv
  have hx := B.exec
  have hb := B.bytes
  have hr := B.returns
  have hts := atoms_spec (ws := wsL_percentAt) B.pre
  have hown : s.vm.findClass RL = some m.cls := findClass_of_methodNamed B.named
  have hlocks := B.notSynchronized
  have hS : va_S (mfree G) s.heap s.heap [] := va_S.rf
  obtain ⟨k0, -⟩ := id hC
  have htb : c.exceptionTable.toList = tableOf [(0, 10, 13, 25)] := vx_table (x := yL_percentAt) B (hts _ List.mem_cons_self)
  have hl := lv_entry ([.ref (α (0)), .int (nI (si)), .int (nI (q)), .ref (α (9))]) (n := 5) (Nat.le_of_ble_eq_true rfl)
  rw [lg_entry_eq]
  generalize (lg_sl ([.ref (α (0)), .int (nI (si)), .int (nI (q)), .ref (α (9))]) ++ List.replicate (5 - (lg_sl ([.ref (α (0)), .int (nI (si)), .int (nI (q)), .ref (α (9))])).length) Slot.unset).toArray = ls at hl ⊢
  have hl : lv_has ls 5 [(0, .ref (α (0))), (1, .int (nI (si))), (2, .int (nI (q))), (3, .ref (α (9)))] := hl
  refine lv_aload_n hx hb dL_percentAt_0 rfl (lv_at hl 3 rfl) ?_
  refine lv_iconst (v := (0)) hx hb dL_percentAt_1 (by decide) ?_
  refine lv_aload_n hx hb dL_percentAt_2 rfl (lv_at hl 0 rfl) ?_
  refine lv_iload_n hx hb dL_percentAt_3 rfl (lv_at hl 1 rfl) ?_
  refine lv_iload_n hx hb dL_percentAt_4 rfl (lv_at hl 2 rfl) ?_
  refine mcallVi hw k0 rfl rfl ⟨hx, hb, hml, hown, hts⟩ (c_X3_percentAt hC hwf si hs q hq) (cwV 2 hts gL_percentAt_X3_percentAt rfl rfl rfl (by decide +kernel) ⟨Nat.le_of_ble_eq_true rfl, Nat.le_of_ble_eq_true rfl⟩) rfl hl.1 rfl (Nat.le_of_ble_eq_true rfl) dL_percentAt_5 ⟨Nat.le_of_ble_eq_true rfl, Nat.le_of_ble_eq_true rfl⟩ ?_
  obtain ⟨V1, eV⟩ : ∃ z9 : mV, z9 = V := ⟨_, rfl⟩
  obtain ⟨α1, eα⟩ : ∃ z9 : Nat → Nat, z9 = α := ⟨_, rfl⟩
  have hC1 : mC G V1 α1 f nr nw ns := by rw [eV, eα]; exact hC
  have hw : mW G V1 α1 s s.heap := by rw [eV, eα]; exact hw
  have hO : ∀ j, j < 100 → (9 ≤ j → V1 j = V j) ∧ α1 j = α j := fun j hj => by rw [eV, eα]; exact ⟨fun _ => rfl, rfl⟩
  have h91 := ((hO 9 (by omega)).1 (by omega)).trans h9
  have e9 : α 9 = α1 9 := (hO 9 (by omega)).2.symm
  refine W.eq (g2 := F0 m 8 ls [.int (s_P f (wN f si) (aN f si) q nr), .int (0), .ref (α1 9)]) (by rw [e9]) ?_
  refine lv_i2l (v := (s_P f (wN f si) (aN f si) q nr).toInt64) hx hb dL_percentAt_8 rfl ?_
  refine mlast hx hb hw hS h91 vin01 dL_percentAt_9 (fun H locs hw hS => ?_)
  obtain ⟨V2, hV2⟩ : ∃ z9 : mV, z9 = vup V1 9 (.inl (G.2.2.2.2.1, 1, .inr (.inl (vp_updL g0 (0 : Int32).toNatClampNeg ((s_P f (wN f si) (aN f si) q nr).toInt64))))) := ⟨_, rfl⟩
  have hw : mW G V2 α1 s H := by rw [hV2]; exact hw
  have p1 : ∀ j, j ≠ 9 → V2 j = V1 j := fun j hj => by rw [hV2]; exact vup_n _ _ hj
  have p2 : ∃ g : Nat → Int64, V2 9 = some (.inl (G.2.2.2.2.1, 1, .inr (.inl g))) ∧ g 0 = ((s_P f (wN f si) (aN f si) q nr).toInt64) := ⟨_, by rw [hV2]; exact vup_s _ _ _, (show vp_updL g0 (0 : Int32).toNatClampNeg ((s_P f (wN f si) (aN f si) q nr).toInt64) 0 = ((s_P f (wN f si) (aN f si) q nr).toInt64) from if_pos (by decide))⟩
  obtain ⟨g1, g2, g3⟩ := p2
  refine lv_goto (tgt := 17) hx hb dL_percentAt_10 (by decide) ?_
  refine lv_iconst (v := (0)) hx hb dL_percentAt_17 (by decide) ?_
  exact W.iret (v := 0) hx hb hr (fun t ht hW => ⟨⟨_, (V2, α1), rfl, ⟨rfl, hC1.out p1, fun j hj => ⟨fun h => (p1 j (by omega)).trans ((hO j hj).1 (by omega)), (hO j hj).2⟩, ⟨g1, g2, g3.trans rfl⟩⟩, by show mH G V2 α1 t.heap; rw [ht]; exact hw.2.2⟩, hS.F ht⟩) hS.2.2 dL_percentAt_18

set_option maxHeartbeats 4000000 in
set_option maxRecDepth 100000 in
theorem x_X3_percentAt_1 {l : Launch} {G : mG} {V : mV} {α : Nat → Nat} {f : sT} {nr nw ns : Nat} (hl0 : l.stackTraces = false) (hC : mC G V α f nr nw ns) (hwf : mwf f nr nw ns) (y : Int32) (hbad : ¬ inn y 0 (nI ns - 1)) (x : Int32) : Met l yL_percentAt wsL_percentAt ({ frames := 8, cells := 1, slots := 6, locals := 126 }) (va_Pc [.ref (α (0)), .int (y), .int (x), .ref (α (9))] (fun U => mW G V α U U.heap)) (va_Qi (fun (r9 : Int32) (u : mV × (Nat → Nat)) => 1 = r9 ∧ u = (V, α)) (fun u t => mH G u.1 u.2 t.heap) (mfree G)) 1 6 (mfree G) := by
  refine mofWH (cc := cL_percentAt) (maxL := 5) (ret := (some .int)) (hh := [(0, 10, 13, 25)]) (by decide) rfl ?_
  intro p e s m args below meth c s₁ B hml hv
  obtain ⟨rfl, hw⟩ := hv
  have hx := B.exec
  have hb := B.bytes
  have hr := B.returns
  have hts := atoms_spec (ws := wsL_percentAt) B.pre
  have hown : s.vm.findClass RL = some m.cls := findClass_of_methodNamed B.named
  have hlocks := B.notSynchronized
  have hS : va_S (mfree G) s.heap s.heap [] := va_S.rf
  obtain ⟨k0, -⟩ := id hC
  have htb : c.exceptionTable.toList = tableOf [(0, 10, 13, 25)] := vx_table (x := yL_percentAt) B (hts _ List.mem_cons_self)
  have lk25 := hts (.classLink RL 25 "java/lang/IndexOutOfBoundsException") (by decide +kernel)
  have hl := lv_entry ([.ref (α (0)), .int (y), .int (x), .ref (α (9))]) (n := 5) (Nat.le_of_ble_eq_true rfl)
  rw [lg_entry_eq]
  generalize (lg_sl ([.ref (α (0)), .int (y), .int (x), .ref (α (9))]) ++ List.replicate (5 - (lg_sl ([.ref (α (0)), .int (y), .int (x), .ref (α (9))])).length) Slot.unset).toArray = ls at hl ⊢
  have hl : lv_has ls 5 [(0, .ref (α (0))), (1, .int (y)), (2, .int (x)), (3, .ref (α (9)))] := hl
  refine lv_aload_n hx hb dL_percentAt_0 rfl (lv_at hl 3 rfl) ?_
  refine lv_iconst (v := (0)) hx hb dL_percentAt_1 (by decide) ?_
  refine lv_aload_n hx hb dL_percentAt_2 rfl (lv_at hl 0 rfl) ?_
  refine lv_iload_n hx hb dL_percentAt_3 rfl (lv_at hl 1 rfl) ?_
  refine lv_iload_n hx hb dL_percentAt_4 rfl (lv_at hl 2 rfl) ?_
  refine mcallTV hw k0 rfl rfl ⟨hx, hb, hml, hown, hts⟩ hS (t_X3_percentAt_1 hl0 hC hwf y hbad x) (cwV 2 hts gL_percentAt_X3_percentAt rfl rfl rfl (by decide +kernel) ⟨Nat.le_of_ble_eq_true rfl, Nat.le_of_ble_eq_true rfl⟩) rfl hl.1 rfl (Nat.le_of_ble_eq_true rfl) dL_percentAt_5 ⟨Nat.le_of_ble_eq_true rfl, Nat.le_of_ble_eq_true rfl⟩ (fun q9 ce H locs hw hS hce hcv hcl => ?_)
  refine vx_catch (name := "java/lang/IndexOutOfBoundsException") (E := "java/lang/IndexOutOfBoundsException") hown [] ⟨0, 10, 13, 25⟩ [] htb (fun z hz => absurd hz List.not_mem_nil) (by decide) (by decide) lk25 (va_Nw.use rfl (hw.1.2.2.1 ("java/lang/IndexOutOfBoundsException", "java/lang/IndexOutOfBoundsException") (by decide))) hce hcv hcl ?_
  refine W.eq (g2 := F0 m 13 ls [.ref (q9)]) rfl ?_
  refine lv_astore (lv' := [(4, .ref (q9)), (0, .ref (α (0))), (1, .int (y)), (2, .int (x)), (3, .ref (α (9)))]) hx hb dL_percentAt_13 hl (by decide) rfl (fun ls hl => ?_)
  refine lv_iconst (v := (1)) hx hb dL_percentAt_15 (by decide) ?_
  exact W.iret (v := 1) hx hb hr (fun t ht hW => ⟨⟨_, (V, α), rfl, ⟨rfl, rfl⟩, by show mH G V α t.heap; rw [ht]; exact hw.2.2⟩, hS.F ht⟩) hS.2.2 dL_percentAt_16

set_option maxHeartbeats 4000000 in
set_option maxRecDepth 100000 in
theorem x_X3_percentAt_2 {l : Launch} {G : mG} {V : mV} {α : Nat → Nat} {f : sT} {nr nw ns : Nat} (hl0 : l.stackTraces = false) (hC : mC G V α f nr nw ns) (hwf : mwf f nr nw ns) (si : Nat) (hs : si < ns) (x : Int32) (hbad : ¬ inn x 0 (s_paid f si - 1)) : Met l yL_percentAt wsL_percentAt ({ frames := 8, cells := 1, slots := 6, locals := 126 }) (va_Pc [.ref (α (0)), .int (nI (si)), .int (x), .ref (α (9))] (fun U => mW G V α U U.heap)) (va_Qi (fun (r9 : Int32) (u : mV × (Nat → Nat)) => 1 = r9 ∧ u = (V, α)) (fun u t => mH G u.1 u.2 t.heap) (mfree G)) 1 6 (mfree G) := by
  refine mofWH (cc := cL_percentAt) (maxL := 5) (ret := (some .int)) (hh := [(0, 10, 13, 25)]) (by decide) rfl ?_
  intro p e s m args below meth c s₁ B hml hv
  obtain ⟨rfl, hw⟩ := hv
  have hx := B.exec
  have hb := B.bytes
  have hr := B.returns
  have hts := atoms_spec (ws := wsL_percentAt) B.pre
  have hown : s.vm.findClass RL = some m.cls := findClass_of_methodNamed B.named
  have hlocks := B.notSynchronized
  have hS : va_S (mfree G) s.heap s.heap [] := va_S.rf
  obtain ⟨k0, -⟩ := id hC
  have htb : c.exceptionTable.toList = tableOf [(0, 10, 13, 25)] := vx_table (x := yL_percentAt) B (hts _ List.mem_cons_self)
  have lk25 := hts (.classLink RL 25 "java/lang/IndexOutOfBoundsException") (by decide +kernel)
  have hl := lv_entry ([.ref (α (0)), .int (nI (si)), .int (x), .ref (α (9))]) (n := 5) (Nat.le_of_ble_eq_true rfl)
  rw [lg_entry_eq]
  generalize (lg_sl ([.ref (α (0)), .int (nI (si)), .int (x), .ref (α (9))]) ++ List.replicate (5 - (lg_sl ([.ref (α (0)), .int (nI (si)), .int (x), .ref (α (9))])).length) Slot.unset).toArray = ls at hl ⊢
  have hl : lv_has ls 5 [(0, .ref (α (0))), (1, .int (nI (si))), (2, .int (x)), (3, .ref (α (9)))] := hl
  refine lv_aload_n hx hb dL_percentAt_0 rfl (lv_at hl 3 rfl) ?_
  refine lv_iconst (v := (0)) hx hb dL_percentAt_1 (by decide) ?_
  refine lv_aload_n hx hb dL_percentAt_2 rfl (lv_at hl 0 rfl) ?_
  refine lv_iload_n hx hb dL_percentAt_3 rfl (lv_at hl 1 rfl) ?_
  refine lv_iload_n hx hb dL_percentAt_4 rfl (lv_at hl 2 rfl) ?_
  refine mcallTV hw k0 rfl rfl ⟨hx, hb, hml, hown, hts⟩ hS (t_X3_percentAt_2 hl0 hC hwf si hs x hbad) (cwV 2 hts gL_percentAt_X3_percentAt rfl rfl rfl (by decide +kernel) ⟨Nat.le_of_ble_eq_true rfl, Nat.le_of_ble_eq_true rfl⟩) rfl hl.1 rfl (Nat.le_of_ble_eq_true rfl) dL_percentAt_5 ⟨Nat.le_of_ble_eq_true rfl, Nat.le_of_ble_eq_true rfl⟩ (fun q9 ce H locs hw hS hce hcv hcl => ?_)
  refine vx_catch (name := "java/lang/IndexOutOfBoundsException") (E := "java/lang/IndexOutOfBoundsException") hown [] ⟨0, 10, 13, 25⟩ [] htb (fun z hz => absurd hz List.not_mem_nil) (by decide) (by decide) lk25 (va_Nw.use rfl (hw.1.2.2.1 ("java/lang/IndexOutOfBoundsException", "java/lang/IndexOutOfBoundsException") (by decide))) hce hcv hcl ?_
  refine W.eq (g2 := F0 m 13 ls [.ref (q9)]) rfl ?_
  refine lv_astore (lv' := [(4, .ref (q9)), (0, .ref (α (0))), (1, .int (nI (si))), (2, .int (x)), (3, .ref (α (9)))]) hx hb dL_percentAt_13 hl (by decide) rfl (fun ls hl => ?_)
  refine lv_iconst (v := (1)) hx hb dL_percentAt_15 (by decide) ?_
  exact W.iret (v := 1) hx hb hr (fun t ht hW => ⟨⟨_, (V, α), rfl, ⟨rfl, rfl⟩, by show mH G V α t.heap; rw [ht]; exact hw.2.2⟩, hS.F ht⟩) hS.2.2 dL_percentAt_16

set_option maxHeartbeats 4000000 in
set_option maxRecDepth 100000 in
theorem w_X3_reasonAt {l : Launch} {G : mG} {V : mV} {α : Nat → Nat} {f : sT} {nr nw ns : Nat} (hC : mC G V α f nr nw ns) (hwf : mwf f nr nw ns) (si : Nat) (hs : si < ns) (q : Nat) (hq : q < pN f si) {g0 : Nat → Int64} (h9 : V 9 = some (.inl (G.2.2.2.2.1, 1, .inr (.inl g0)))) : Met l yL_reasonAt wsL_reasonAt ({ frames := 5, cells := 0, slots := 0, locals := 121 }) (va_Pc [.ref (α (0)), .int (nI (si)), .int (nI (q)), .ref (α (9))] (fun U => mW G V α U U.heap)) (va_Qi (fun (r9 : Int32) (u : mV × (Nat → Nat)) => 0 = r9 ∧ mPQ G V α u f nr nw ns (s_R f nr (wN f si) (aN f si) q).toInt64) (fun u t => mH G u.1 u.2 t.heap) (mfree G)) 0 0 (mfree G) := by
  refine mofWH (cc := cL_reasonAt) (maxL := 5) (ret := (some .int)) (hh := [(0, 10, 13, 25)]) (by decide) rfl ?_
  intro p e s m args below meth c s₁ B hml hv
  obtain ⟨rfl, hw⟩ := hv
  have hx := B.exec
  have hb := B.bytes
  have hr := B.returns
  have hts := atoms_spec (ws := wsL_reasonAt) B.pre
  have hown : s.vm.findClass RL = some m.cls := findClass_of_methodNamed B.named
  have hlocks := B.notSynchronized
  have hS : va_S (mfree G) s.heap s.heap [] := va_S.rf
  obtain ⟨k0, -⟩ := id hC
  have htb : c.exceptionTable.toList = tableOf [(0, 10, 13, 25)] := vx_table (x := yL_reasonAt) B (hts _ List.mem_cons_self)
  have hl := lv_entry ([.ref (α (0)), .int (nI (si)), .int (nI (q)), .ref (α (9))]) (n := 5) (Nat.le_of_ble_eq_true rfl)
  rw [lg_entry_eq]
  generalize (lg_sl ([.ref (α (0)), .int (nI (si)), .int (nI (q)), .ref (α (9))]) ++ List.replicate (5 - (lg_sl ([.ref (α (0)), .int (nI (si)), .int (nI (q)), .ref (α (9))])).length) Slot.unset).toArray = ls at hl ⊢
  have hl : lv_has ls 5 [(0, .ref (α (0))), (1, .int (nI (si))), (2, .int (nI (q))), (3, .ref (α (9)))] := hl
  refine lv_aload_n hx hb dL_reasonAt_0 rfl (lv_at hl 3 rfl) ?_
  refine lv_iconst (v := (0)) hx hb dL_reasonAt_1 (by decide) ?_
  refine lv_aload_n hx hb dL_reasonAt_2 rfl (lv_at hl 0 rfl) ?_
  refine lv_iload_n hx hb dL_reasonAt_3 rfl (lv_at hl 1 rfl) ?_
  refine lv_iload_n hx hb dL_reasonAt_4 rfl (lv_at hl 2 rfl) ?_
  refine mcallVi hw k0 rfl rfl ⟨hx, hb, hml, hown, hts⟩ (c_X3_reasonAt hC hwf si hs q hq) (cwV 2 hts gL_reasonAt_X3_reasonAt rfl rfl rfl (by decide +kernel) ⟨Nat.le_of_ble_eq_true rfl, Nat.le_of_ble_eq_true rfl⟩) rfl hl.1 rfl (Nat.le_of_ble_eq_true rfl) dL_reasonAt_5 ⟨Nat.le_of_ble_eq_true rfl, Nat.le_of_ble_eq_true rfl⟩ ?_
  obtain ⟨V1, eV⟩ : ∃ z9 : mV, z9 = V := ⟨_, rfl⟩
  obtain ⟨α1, eα⟩ : ∃ z9 : Nat → Nat, z9 = α := ⟨_, rfl⟩
  have hC1 : mC G V1 α1 f nr nw ns := by rw [eV, eα]; exact hC
  have hw : mW G V1 α1 s s.heap := by rw [eV, eα]; exact hw
  have hO : ∀ j, j < 100 → (9 ≤ j → V1 j = V j) ∧ α1 j = α j := fun j hj => by rw [eV, eα]; exact ⟨fun _ => rfl, rfl⟩
  have h91 := ((hO 9 (by omega)).1 (by omega)).trans h9
  have e9 : α 9 = α1 9 := (hO 9 (by omega)).2.symm
  refine W.eq (g2 := F0 m 8 ls [.int (s_R f nr (wN f si) (aN f si) q), .int (0), .ref (α1 9)]) (by rw [e9]) ?_
  refine lv_i2l (v := (s_R f nr (wN f si) (aN f si) q).toInt64) hx hb dL_reasonAt_8 rfl ?_
  refine mlast hx hb hw hS h91 vin01 dL_reasonAt_9 (fun H locs hw hS => ?_)
  obtain ⟨V2, hV2⟩ : ∃ z9 : mV, z9 = vup V1 9 (.inl (G.2.2.2.2.1, 1, .inr (.inl (vp_updL g0 (0 : Int32).toNatClampNeg ((s_R f nr (wN f si) (aN f si) q).toInt64))))) := ⟨_, rfl⟩
  have hw : mW G V2 α1 s H := by rw [hV2]; exact hw
  have p1 : ∀ j, j ≠ 9 → V2 j = V1 j := fun j hj => by rw [hV2]; exact vup_n _ _ hj
  have p2 : ∃ g : Nat → Int64, V2 9 = some (.inl (G.2.2.2.2.1, 1, .inr (.inl g))) ∧ g 0 = ((s_R f nr (wN f si) (aN f si) q).toInt64) := ⟨_, by rw [hV2]; exact vup_s _ _ _, (show vp_updL g0 (0 : Int32).toNatClampNeg ((s_R f nr (wN f si) (aN f si) q).toInt64) 0 = ((s_R f nr (wN f si) (aN f si) q).toInt64) from if_pos (by decide))⟩
  obtain ⟨g1, g2, g3⟩ := p2
  refine lv_goto (tgt := 17) hx hb dL_reasonAt_10 (by decide) ?_
  refine lv_iconst (v := (0)) hx hb dL_reasonAt_17 (by decide) ?_
  exact W.iret (v := 0) hx hb hr (fun t ht hW => ⟨⟨_, (V2, α1), rfl, ⟨rfl, hC1.out p1, fun j hj => ⟨fun h => (p1 j (by omega)).trans ((hO j hj).1 (by omega)), (hO j hj).2⟩, ⟨g1, g2, g3.trans rfl⟩⟩, by show mH G V2 α1 t.heap; rw [ht]; exact hw.2.2⟩, hS.F ht⟩) hS.2.2 dL_reasonAt_18

set_option maxHeartbeats 4000000 in
set_option maxRecDepth 100000 in
theorem x_X3_reasonAt_1 {l : Launch} {G : mG} {V : mV} {α : Nat → Nat} {f : sT} {nr nw ns : Nat} (hl0 : l.stackTraces = false) (hC : mC G V α f nr nw ns) (hwf : mwf f nr nw ns) (y : Int32) (hbad : ¬ inn y 0 (nI ns - 1)) (x : Int32) : Met l yL_reasonAt wsL_reasonAt ({ frames := 8, cells := 1, slots := 6, locals := 127 }) (va_Pc [.ref (α (0)), .int (y), .int (x), .ref (α (9))] (fun U => mW G V α U U.heap)) (va_Qi (fun (r9 : Int32) (u : mV × (Nat → Nat)) => 1 = r9 ∧ u = (V, α)) (fun u t => mH G u.1 u.2 t.heap) (mfree G)) 1 6 (mfree G) := by
  refine mofWH (cc := cL_reasonAt) (maxL := 5) (ret := (some .int)) (hh := [(0, 10, 13, 25)]) (by decide) rfl ?_
  intro p e s m args below meth c s₁ B hml hv
  obtain ⟨rfl, hw⟩ := hv
  have hx := B.exec
  have hb := B.bytes
  have hr := B.returns
  have hts := atoms_spec (ws := wsL_reasonAt) B.pre
  have hown : s.vm.findClass RL = some m.cls := findClass_of_methodNamed B.named
  have hlocks := B.notSynchronized
  have hS : va_S (mfree G) s.heap s.heap [] := va_S.rf
  obtain ⟨k0, -⟩ := id hC
  have htb : c.exceptionTable.toList = tableOf [(0, 10, 13, 25)] := vx_table (x := yL_reasonAt) B (hts _ List.mem_cons_self)
  have lk25 := hts (.classLink RL 25 "java/lang/IndexOutOfBoundsException") (by decide +kernel)
  have hl := lv_entry ([.ref (α (0)), .int (y), .int (x), .ref (α (9))]) (n := 5) (Nat.le_of_ble_eq_true rfl)
  rw [lg_entry_eq]
  generalize (lg_sl ([.ref (α (0)), .int (y), .int (x), .ref (α (9))]) ++ List.replicate (5 - (lg_sl ([.ref (α (0)), .int (y), .int (x), .ref (α (9))])).length) Slot.unset).toArray = ls at hl ⊢
  have hl : lv_has ls 5 [(0, .ref (α (0))), (1, .int (y)), (2, .int (x)), (3, .ref (α (9)))] := hl
  refine lv_aload_n hx hb dL_reasonAt_0 rfl (lv_at hl 3 rfl) ?_
  refine lv_iconst (v := (0)) hx hb dL_reasonAt_1 (by decide) ?_
  refine lv_aload_n hx hb dL_reasonAt_2 rfl (lv_at hl 0 rfl) ?_
  refine lv_iload_n hx hb dL_reasonAt_3 rfl (lv_at hl 1 rfl) ?_
  refine lv_iload_n hx hb dL_reasonAt_4 rfl (lv_at hl 2 rfl) ?_
  refine mcallTV hw k0 rfl rfl ⟨hx, hb, hml, hown, hts⟩ hS (t_X3_reasonAt_1 hl0 hC hwf y hbad x) (cwV 2 hts gL_reasonAt_X3_reasonAt rfl rfl rfl (by decide +kernel) ⟨Nat.le_of_ble_eq_true rfl, Nat.le_of_ble_eq_true rfl⟩) rfl hl.1 rfl (Nat.le_of_ble_eq_true rfl) dL_reasonAt_5 ⟨Nat.le_of_ble_eq_true rfl, Nat.le_of_ble_eq_true rfl⟩ (fun q9 ce H locs hw hS hce hcv hcl => ?_)
  refine vx_catch (name := "java/lang/IndexOutOfBoundsException") (E := "java/lang/IndexOutOfBoundsException") hown [] ⟨0, 10, 13, 25⟩ [] htb (fun z hz => absurd hz List.not_mem_nil) (by decide) (by decide) lk25 (va_Nw.use rfl (hw.1.2.2.1 ("java/lang/IndexOutOfBoundsException", "java/lang/IndexOutOfBoundsException") (by decide))) hce hcv hcl ?_
  refine W.eq (g2 := F0 m 13 ls [.ref (q9)]) rfl ?_
  refine lv_astore (lv' := [(4, .ref (q9)), (0, .ref (α (0))), (1, .int (y)), (2, .int (x)), (3, .ref (α (9)))]) hx hb dL_reasonAt_13 hl (by decide) rfl (fun ls hl => ?_)
  refine lv_iconst (v := (1)) hx hb dL_reasonAt_15 (by decide) ?_
  exact W.iret (v := 1) hx hb hr (fun t ht hW => ⟨⟨_, (V, α), rfl, ⟨rfl, rfl⟩, by show mH G V α t.heap; rw [ht]; exact hw.2.2⟩, hS.F ht⟩) hS.2.2 dL_reasonAt_16

set_option maxHeartbeats 4000000 in
set_option maxRecDepth 100000 in
theorem x_X3_reasonAt_2 {l : Launch} {G : mG} {V : mV} {α : Nat → Nat} {f : sT} {nr nw ns : Nat} (hl0 : l.stackTraces = false) (hC : mC G V α f nr nw ns) (hwf : mwf f nr nw ns) (si : Nat) (hs : si < ns) (x : Int32) (hbad : ¬ inn x 0 (s_paid f si - 1)) : Met l yL_reasonAt wsL_reasonAt ({ frames := 8, cells := 1, slots := 6, locals := 127 }) (va_Pc [.ref (α (0)), .int (nI (si)), .int (x), .ref (α (9))] (fun U => mW G V α U U.heap)) (va_Qi (fun (r9 : Int32) (u : mV × (Nat → Nat)) => 1 = r9 ∧ u = (V, α)) (fun u t => mH G u.1 u.2 t.heap) (mfree G)) 1 6 (mfree G) := by
  refine mofWH (cc := cL_reasonAt) (maxL := 5) (ret := (some .int)) (hh := [(0, 10, 13, 25)]) (by decide) rfl ?_
  intro p e s m args below meth c s₁ B hml hv
  obtain ⟨rfl, hw⟩ := hv
  have hx := B.exec
  have hb := B.bytes
  have hr := B.returns
  have hts := atoms_spec (ws := wsL_reasonAt) B.pre
  have hown : s.vm.findClass RL = some m.cls := findClass_of_methodNamed B.named
  have hlocks := B.notSynchronized
  have hS : va_S (mfree G) s.heap s.heap [] := va_S.rf
  obtain ⟨k0, -⟩ := id hC
  have htb : c.exceptionTable.toList = tableOf [(0, 10, 13, 25)] := vx_table (x := yL_reasonAt) B (hts _ List.mem_cons_self)
  have lk25 := hts (.classLink RL 25 "java/lang/IndexOutOfBoundsException") (by decide +kernel)
  have hl := lv_entry ([.ref (α (0)), .int (nI (si)), .int (x), .ref (α (9))]) (n := 5) (Nat.le_of_ble_eq_true rfl)
  rw [lg_entry_eq]
  generalize (lg_sl ([.ref (α (0)), .int (nI (si)), .int (x), .ref (α (9))]) ++ List.replicate (5 - (lg_sl ([.ref (α (0)), .int (nI (si)), .int (x), .ref (α (9))])).length) Slot.unset).toArray = ls at hl ⊢
  have hl : lv_has ls 5 [(0, .ref (α (0))), (1, .int (nI (si))), (2, .int (x)), (3, .ref (α (9)))] := hl
  refine lv_aload_n hx hb dL_reasonAt_0 rfl (lv_at hl 3 rfl) ?_
  refine lv_iconst (v := (0)) hx hb dL_reasonAt_1 (by decide) ?_
  refine lv_aload_n hx hb dL_reasonAt_2 rfl (lv_at hl 0 rfl) ?_
  refine lv_iload_n hx hb dL_reasonAt_3 rfl (lv_at hl 1 rfl) ?_
  refine lv_iload_n hx hb dL_reasonAt_4 rfl (lv_at hl 2 rfl) ?_
  refine mcallTV hw k0 rfl rfl ⟨hx, hb, hml, hown, hts⟩ hS (t_X3_reasonAt_2 hl0 hC hwf si hs x hbad) (cwV 2 hts gL_reasonAt_X3_reasonAt rfl rfl rfl (by decide +kernel) ⟨Nat.le_of_ble_eq_true rfl, Nat.le_of_ble_eq_true rfl⟩) rfl hl.1 rfl (Nat.le_of_ble_eq_true rfl) dL_reasonAt_5 ⟨Nat.le_of_ble_eq_true rfl, Nat.le_of_ble_eq_true rfl⟩ (fun q9 ce H locs hw hS hce hcv hcl => ?_)
  refine vx_catch (name := "java/lang/IndexOutOfBoundsException") (E := "java/lang/IndexOutOfBoundsException") hown [] ⟨0, 10, 13, 25⟩ [] htb (fun z hz => absurd hz List.not_mem_nil) (by decide) (by decide) lk25 (va_Nw.use rfl (hw.1.2.2.1 ("java/lang/IndexOutOfBoundsException", "java/lang/IndexOutOfBoundsException") (by decide))) hce hcv hcl ?_
  refine W.eq (g2 := F0 m 13 ls [.ref (q9)]) rfl ?_
  refine lv_astore (lv' := [(4, .ref (q9)), (0, .ref (α (0))), (1, .int (nI (si))), (2, .int (x)), (3, .ref (α (9)))]) hx hb dL_reasonAt_13 hl (by decide) rfl (fun ls hl => ?_)
  refine lv_iconst (v := (1)) hx hb dL_reasonAt_15 (by decide) ?_
  exact W.iret (v := 1) hx hb hr (fun t ht hW => ⟨⟨_, (V, α), rfl, ⟨rfl, rfl⟩, by show mH G V α t.heap; rw [ht]; exact hw.2.2⟩, hS.F ht⟩) hS.2.2 dL_reasonAt_16

set_option maxHeartbeats 4000000 in
set_option maxRecDepth 100000 in
theorem w_X3_missed {l : Launch} {G : mG} {V : mV} {α : Nat → Nat} {f : sT} {nr nw ns : Nat} (hC : mC G V α f nr nw ns) (hwf : mwf f nr nw ns) (si : Nat) (hs : si < ns) {g0 : Nat → Int64} (h9 : V 9 = some (.inl (G.2.2.2.2.1, 1, .inr (.inl g0)))) : Met l yL_missed wsL_missed ({ frames := 5, cells := 0, slots := 0, locals := 106 }) (va_Pc [.ref (α (0)), .int (nI (si)), .ref (α (9))] (fun U => mW G V α U U.heap)) (va_Qi (fun (r9 : Int32) (u : mV × (Nat → Nat)) => 0 = r9 ∧ mPQ G V α u f nr nw ns (s_lacks f si).toInt64) (fun u t => mH G u.1 u.2 t.heap) (mfree G)) 0 0 (mfree G) := by
  refine mofWH (cc := cL_missed) (maxL := 4) (ret := (some .int)) (hh := [(0, 9, 12, 25)]) (by decide) rfl ?_
  intro p e s m args below meth c s₁ B hml hv
  obtain ⟨rfl, hw⟩ := hv
  have hx := B.exec
  have hb := B.bytes
  have hr := B.returns
  have hts := atoms_spec (ws := wsL_missed) B.pre
  have hown : s.vm.findClass RL = some m.cls := findClass_of_methodNamed B.named
  have hlocks := B.notSynchronized
  have hS : va_S (mfree G) s.heap s.heap [] := va_S.rf
  obtain ⟨k0, -⟩ := id hC
  have htb : c.exceptionTable.toList = tableOf [(0, 9, 12, 25)] := vx_table (x := yL_missed) B (hts _ List.mem_cons_self)
  have hl := lv_entry ([.ref (α (0)), .int (nI (si)), .ref (α (9))]) (n := 4) (Nat.le_of_ble_eq_true rfl)
  rw [lg_entry_eq]
  generalize (lg_sl ([.ref (α (0)), .int (nI (si)), .ref (α (9))]) ++ List.replicate (4 - (lg_sl ([.ref (α (0)), .int (nI (si)), .ref (α (9))])).length) Slot.unset).toArray = ls at hl ⊢
  have hl : lv_has ls 4 [(0, .ref (α (0))), (1, .int (nI (si))), (2, .ref (α (9)))] := hl
  refine lv_aload_n hx hb dL_missed_0 rfl (lv_at hl 2 rfl) ?_
  refine lv_iconst (v := (0)) hx hb dL_missed_1 (by decide) ?_
  refine lv_aload_n hx hb dL_missed_2 rfl (lv_at hl 0 rfl) ?_
  refine lv_iload_n hx hb dL_missed_3 rfl (lv_at hl 1 rfl) ?_
  refine mcallVi hw k0 rfl rfl ⟨hx, hb, hml, hown, hts⟩ (c_X3_missed hC hwf si hs) (cwV 1 hts gL_missed_X3_missed rfl rfl rfl (by decide +kernel) ⟨Nat.le_of_ble_eq_true rfl, Nat.le_of_ble_eq_true rfl⟩) rfl hl.1 rfl (Nat.le_of_ble_eq_true rfl) dL_missed_4 ⟨Nat.le_of_ble_eq_true rfl, Nat.le_of_ble_eq_true rfl⟩ ?_
  obtain ⟨V1, eV⟩ : ∃ z9 : mV, z9 = V := ⟨_, rfl⟩
  obtain ⟨α1, eα⟩ : ∃ z9 : Nat → Nat, z9 = α := ⟨_, rfl⟩
  have hC1 : mC G V1 α1 f nr nw ns := by rw [eV, eα]; exact hC
  have hw : mW G V1 α1 s s.heap := by rw [eV, eα]; exact hw
  have hO : ∀ j, j < 100 → (9 ≤ j → V1 j = V j) ∧ α1 j = α j := fun j hj => by rw [eV, eα]; exact ⟨fun _ => rfl, rfl⟩
  have h91 := ((hO 9 (by omega)).1 (by omega)).trans h9
  have e9 : α 9 = α1 9 := (hO 9 (by omega)).2.symm
  refine W.eq (g2 := F0 m 7 ls [.int (s_lacks f si), .int (0), .ref (α1 9)]) (by rw [e9]) ?_
  refine lv_i2l (v := (s_lacks f si).toInt64) hx hb dL_missed_7 rfl ?_
  refine mlast hx hb hw hS h91 vin01 dL_missed_8 (fun H locs hw hS => ?_)
  obtain ⟨V2, hV2⟩ : ∃ z9 : mV, z9 = vup V1 9 (.inl (G.2.2.2.2.1, 1, .inr (.inl (vp_updL g0 (0 : Int32).toNatClampNeg ((s_lacks f si).toInt64))))) := ⟨_, rfl⟩
  have hw : mW G V2 α1 s H := by rw [hV2]; exact hw
  have p1 : ∀ j, j ≠ 9 → V2 j = V1 j := fun j hj => by rw [hV2]; exact vup_n _ _ hj
  have p2 : ∃ g : Nat → Int64, V2 9 = some (.inl (G.2.2.2.2.1, 1, .inr (.inl g))) ∧ g 0 = ((s_lacks f si).toInt64) := ⟨_, by rw [hV2]; exact vup_s _ _ _, (show vp_updL g0 (0 : Int32).toNatClampNeg ((s_lacks f si).toInt64) 0 = ((s_lacks f si).toInt64) from if_pos (by decide))⟩
  obtain ⟨g1, g2, g3⟩ := p2
  refine lv_goto (tgt := 15) hx hb dL_missed_9 (by decide) ?_
  refine lv_iconst (v := (0)) hx hb dL_missed_15 (by decide) ?_
  exact W.iret (v := 0) hx hb hr (fun t ht hW => ⟨⟨_, (V2, α1), rfl, ⟨rfl, hC1.out p1, fun j hj => ⟨fun h => (p1 j (by omega)).trans ((hO j hj).1 (by omega)), (hO j hj).2⟩, ⟨g1, g2, g3.trans rfl⟩⟩, by show mH G V2 α1 t.heap; rw [ht]; exact hw.2.2⟩, hS.F ht⟩) hS.2.2 dL_missed_16

set_option maxHeartbeats 4000000 in
set_option maxRecDepth 100000 in
theorem x_X3_missed_1 {l : Launch} {G : mG} {V : mV} {α : Nat → Nat} {f : sT} {nr nw ns : Nat} (hl0 : l.stackTraces = false) (hC : mC G V α f nr nw ns) (hwf : mwf f nr nw ns) (y : Int32) (hbad : ¬ inn y 0 (nI ns - 1)) : Met l yL_missed wsL_missed ({ frames := 8, cells := 1, slots := 6, locals := 124 }) (va_Pc [.ref (α (0)), .int (y), .ref (α (9))] (fun U => mW G V α U U.heap)) (va_Qi (fun (r9 : Int32) (u : mV × (Nat → Nat)) => 1 = r9 ∧ u = (V, α)) (fun u t => mH G u.1 u.2 t.heap) (mfree G)) 1 6 (mfree G) := by
  refine mofWH (cc := cL_missed) (maxL := 4) (ret := (some .int)) (hh := [(0, 9, 12, 25)]) (by decide) rfl ?_
  intro p e s m args below meth c s₁ B hml hv
  obtain ⟨rfl, hw⟩ := hv
  have hx := B.exec
  have hb := B.bytes
  have hr := B.returns
  have hts := atoms_spec (ws := wsL_missed) B.pre
  have hown : s.vm.findClass RL = some m.cls := findClass_of_methodNamed B.named
  have hlocks := B.notSynchronized
  have hS : va_S (mfree G) s.heap s.heap [] := va_S.rf
  obtain ⟨k0, -⟩ := id hC
  have htb : c.exceptionTable.toList = tableOf [(0, 9, 12, 25)] := vx_table (x := yL_missed) B (hts _ List.mem_cons_self)
  have lk25 := hts (.classLink RL 25 "java/lang/IndexOutOfBoundsException") (by decide +kernel)
  have hl := lv_entry ([.ref (α (0)), .int (y), .ref (α (9))]) (n := 4) (Nat.le_of_ble_eq_true rfl)
  rw [lg_entry_eq]
  generalize (lg_sl ([.ref (α (0)), .int (y), .ref (α (9))]) ++ List.replicate (4 - (lg_sl ([.ref (α (0)), .int (y), .ref (α (9))])).length) Slot.unset).toArray = ls at hl ⊢
  have hl : lv_has ls 4 [(0, .ref (α (0))), (1, .int (y)), (2, .ref (α (9)))] := hl
  refine lv_aload_n hx hb dL_missed_0 rfl (lv_at hl 2 rfl) ?_
  refine lv_iconst (v := (0)) hx hb dL_missed_1 (by decide) ?_
  refine lv_aload_n hx hb dL_missed_2 rfl (lv_at hl 0 rfl) ?_
  refine lv_iload_n hx hb dL_missed_3 rfl (lv_at hl 1 rfl) ?_
  refine mcallTV hw k0 rfl rfl ⟨hx, hb, hml, hown, hts⟩ hS (t_X3_missed_1 hl0 hC hwf y hbad) (cwV 1 hts gL_missed_X3_missed rfl rfl rfl (by decide +kernel) ⟨Nat.le_of_ble_eq_true rfl, Nat.le_of_ble_eq_true rfl⟩) rfl hl.1 rfl (Nat.le_of_ble_eq_true rfl) dL_missed_4 ⟨Nat.le_of_ble_eq_true rfl, Nat.le_of_ble_eq_true rfl⟩ (fun q9 ce H locs hw hS hce hcv hcl => ?_)
  refine vx_catch (name := "java/lang/IndexOutOfBoundsException") (E := "java/lang/IndexOutOfBoundsException") hown [] ⟨0, 9, 12, 25⟩ [] htb (fun z hz => absurd hz List.not_mem_nil) (by decide) (by decide) lk25 (va_Nw.use rfl (hw.1.2.2.1 ("java/lang/IndexOutOfBoundsException", "java/lang/IndexOutOfBoundsException") (by decide))) hce hcv hcl ?_
  refine W.eq (g2 := F0 m 12 ls [.ref (q9)]) rfl ?_
  refine lv_astore_n (lv' := [(3, .ref (q9)), (0, .ref (α (0))), (1, .int (y)), (2, .ref (α (9)))]) hx hb dL_missed_12 rfl hl (by decide) rfl (fun ls hl => ?_)
  refine lv_iconst (v := (1)) hx hb dL_missed_13 (by decide) ?_
  exact W.iret (v := 1) hx hb hr (fun t ht hW => ⟨⟨_, (V, α), rfl, ⟨rfl, rfl⟩, by show mH G V α t.heap; rw [ht]; exact hw.2.2⟩, hS.F ht⟩) hS.2.2 dL_missed_14

set_option maxHeartbeats 4000000 in
set_option maxRecDepth 100000 in
theorem w_X3_pay {l : Launch} {G : mG} {V : mV} {α : Nat → Nat} {f : sT} {nr nw ns : Nat} (hC : mC G V α f nr nw ns) (hwf : mwf f nr nw ns) (si : Nat) (hs : si < ns) {g0 : Nat → Int64} (h9 : V 9 = some (.inl (G.2.2.2.2.1, 1, .inr (.inl g0)))) : Met l yL_pay wsL_pay ({ frames := 7, cells := 0, slots := 0, locals := 165 }) (va_Pc [.ref (α (0)), .int (nI (si)), .ref (α (9))] (fun U => mW G V α U U.heap)) (va_Qi (fun (r9 : Int32) (u : mV × (Nat → Nat)) => 0 = r9 ∧ mPQ G V α u f nr nw ns (s_pay f nr si).toInt64) (fun u t => mH G u.1 u.2 t.heap) (mfree G)) 0 0 (mfree G) := by
  refine mofWH (cc := cL_pay) (maxL := 4) (ret := (some .int)) (hh := [(0, 9, 12, 25)]) (by decide) rfl ?_
  intro p e s m args below meth c s₁ B hml hv
  obtain ⟨rfl, hw⟩ := hv
  have hx := B.exec
  have hb := B.bytes
  have hr := B.returns
  have hts := atoms_spec (ws := wsL_pay) B.pre
  have hown : s.vm.findClass RL = some m.cls := findClass_of_methodNamed B.named
  have hlocks := B.notSynchronized
  have hS : va_S (mfree G) s.heap s.heap [] := va_S.rf
  obtain ⟨k0, -⟩ := id hC
  have htb : c.exceptionTable.toList = tableOf [(0, 9, 12, 25)] := vx_table (x := yL_pay) B (hts _ List.mem_cons_self)
  have hl := lv_entry ([.ref (α (0)), .int (nI (si)), .ref (α (9))]) (n := 4) (Nat.le_of_ble_eq_true rfl)
  rw [lg_entry_eq]
  generalize (lg_sl ([.ref (α (0)), .int (nI (si)), .ref (α (9))]) ++ List.replicate (4 - (lg_sl ([.ref (α (0)), .int (nI (si)), .ref (α (9))])).length) Slot.unset).toArray = ls at hl ⊢
  have hl : lv_has ls 4 [(0, .ref (α (0))), (1, .int (nI (si))), (2, .ref (α (9)))] := hl
  refine lv_aload_n hx hb dL_pay_0 rfl (lv_at hl 2 rfl) ?_
  refine lv_iconst (v := (0)) hx hb dL_pay_1 (by decide) ?_
  refine lv_aload_n hx hb dL_pay_2 rfl (lv_at hl 0 rfl) ?_
  refine lv_iload_n hx hb dL_pay_3 rfl (lv_at hl 1 rfl) ?_
  refine mcallVi hw k0 rfl rfl ⟨hx, hb, hml, hown, hts⟩ (c_X3_pay hC hwf si hs) (cwV 1 hts gL_pay_X3_pay rfl rfl rfl (by decide +kernel) ⟨Nat.le_of_ble_eq_true rfl, Nat.le_of_ble_eq_true rfl⟩) rfl hl.1 rfl (Nat.le_of_ble_eq_true rfl) dL_pay_4 ⟨Nat.le_of_ble_eq_true rfl, Nat.le_of_ble_eq_true rfl⟩ ?_
  obtain ⟨V1, eV⟩ : ∃ z9 : mV, z9 = V := ⟨_, rfl⟩
  obtain ⟨α1, eα⟩ : ∃ z9 : Nat → Nat, z9 = α := ⟨_, rfl⟩
  have hC1 : mC G V1 α1 f nr nw ns := by rw [eV, eα]; exact hC
  have hw : mW G V1 α1 s s.heap := by rw [eV, eα]; exact hw
  have hO : ∀ j, j < 100 → (9 ≤ j → V1 j = V j) ∧ α1 j = α j := fun j hj => by rw [eV, eα]; exact ⟨fun _ => rfl, rfl⟩
  have h91 := ((hO 9 (by omega)).1 (by omega)).trans h9
  have e9 : α 9 = α1 9 := (hO 9 (by omega)).2.symm
  refine W.eq (g2 := F0 m 7 ls [.int (s_pay f nr si), .int (0), .ref (α1 9)]) (by rw [e9]) ?_
  refine lv_i2l (v := (s_pay f nr si).toInt64) hx hb dL_pay_7 rfl ?_
  refine mlast hx hb hw hS h91 vin01 dL_pay_8 (fun H locs hw hS => ?_)
  obtain ⟨V2, hV2⟩ : ∃ z9 : mV, z9 = vup V1 9 (.inl (G.2.2.2.2.1, 1, .inr (.inl (vp_updL g0 (0 : Int32).toNatClampNeg ((s_pay f nr si).toInt64))))) := ⟨_, rfl⟩
  have hw : mW G V2 α1 s H := by rw [hV2]; exact hw
  have p1 : ∀ j, j ≠ 9 → V2 j = V1 j := fun j hj => by rw [hV2]; exact vup_n _ _ hj
  have p2 : ∃ g : Nat → Int64, V2 9 = some (.inl (G.2.2.2.2.1, 1, .inr (.inl g))) ∧ g 0 = ((s_pay f nr si).toInt64) := ⟨_, by rw [hV2]; exact vup_s _ _ _, (show vp_updL g0 (0 : Int32).toNatClampNeg ((s_pay f nr si).toInt64) 0 = ((s_pay f nr si).toInt64) from if_pos (by decide))⟩
  obtain ⟨g1, g2, g3⟩ := p2
  refine lv_goto (tgt := 15) hx hb dL_pay_9 (by decide) ?_
  refine lv_iconst (v := (0)) hx hb dL_pay_15 (by decide) ?_
  exact W.iret (v := 0) hx hb hr (fun t ht hW => ⟨⟨_, (V2, α1), rfl, ⟨rfl, hC1.out p1, fun j hj => ⟨fun h => (p1 j (by omega)).trans ((hO j hj).1 (by omega)), (hO j hj).2⟩, ⟨g1, g2, g3.trans rfl⟩⟩, by show mH G V2 α1 t.heap; rw [ht]; exact hw.2.2⟩, hS.F ht⟩) hS.2.2 dL_pay_16

set_option maxHeartbeats 4000000 in
set_option maxRecDepth 100000 in
theorem x_X3_pay_1 {l : Launch} {G : mG} {V : mV} {α : Nat → Nat} {f : sT} {nr nw ns : Nat} (hl0 : l.stackTraces = false) (hC : mC G V α f nr nw ns) (hwf : mwf f nr nw ns) (y : Int32) (hbad : ¬ inn y 0 (nI ns - 1)) : Met l yL_pay wsL_pay ({ frames := 8, cells := 1, slots := 6, locals := 124 }) (va_Pc [.ref (α (0)), .int (y), .ref (α (9))] (fun U => mW G V α U U.heap)) (va_Qi (fun (r9 : Int32) (u : mV × (Nat → Nat)) => 1 = r9 ∧ u = (V, α)) (fun u t => mH G u.1 u.2 t.heap) (mfree G)) 1 6 (mfree G) := by
  refine mofWH (cc := cL_pay) (maxL := 4) (ret := (some .int)) (hh := [(0, 9, 12, 25)]) (by decide) rfl ?_
  intro p e s m args below meth c s₁ B hml hv
  obtain ⟨rfl, hw⟩ := hv
  have hx := B.exec
  have hb := B.bytes
  have hr := B.returns
  have hts := atoms_spec (ws := wsL_pay) B.pre
  have hown : s.vm.findClass RL = some m.cls := findClass_of_methodNamed B.named
  have hlocks := B.notSynchronized
  have hS : va_S (mfree G) s.heap s.heap [] := va_S.rf
  obtain ⟨k0, -⟩ := id hC
  have htb : c.exceptionTable.toList = tableOf [(0, 9, 12, 25)] := vx_table (x := yL_pay) B (hts _ List.mem_cons_self)
  have lk25 := hts (.classLink RL 25 "java/lang/IndexOutOfBoundsException") (by decide +kernel)
  have hl := lv_entry ([.ref (α (0)), .int (y), .ref (α (9))]) (n := 4) (Nat.le_of_ble_eq_true rfl)
  rw [lg_entry_eq]
  generalize (lg_sl ([.ref (α (0)), .int (y), .ref (α (9))]) ++ List.replicate (4 - (lg_sl ([.ref (α (0)), .int (y), .ref (α (9))])).length) Slot.unset).toArray = ls at hl ⊢
  have hl : lv_has ls 4 [(0, .ref (α (0))), (1, .int (y)), (2, .ref (α (9)))] := hl
  refine lv_aload_n hx hb dL_pay_0 rfl (lv_at hl 2 rfl) ?_
  refine lv_iconst (v := (0)) hx hb dL_pay_1 (by decide) ?_
  refine lv_aload_n hx hb dL_pay_2 rfl (lv_at hl 0 rfl) ?_
  refine lv_iload_n hx hb dL_pay_3 rfl (lv_at hl 1 rfl) ?_
  refine mcallTV hw k0 rfl rfl ⟨hx, hb, hml, hown, hts⟩ hS (t_X3_pay_1 hl0 hC hwf y hbad) (cwV 1 hts gL_pay_X3_pay rfl rfl rfl (by decide +kernel) ⟨Nat.le_of_ble_eq_true rfl, Nat.le_of_ble_eq_true rfl⟩) rfl hl.1 rfl (Nat.le_of_ble_eq_true rfl) dL_pay_4 ⟨Nat.le_of_ble_eq_true rfl, Nat.le_of_ble_eq_true rfl⟩ (fun q9 ce H locs hw hS hce hcv hcl => ?_)
  refine vx_catch (name := "java/lang/IndexOutOfBoundsException") (E := "java/lang/IndexOutOfBoundsException") hown [] ⟨0, 9, 12, 25⟩ [] htb (fun z hz => absurd hz List.not_mem_nil) (by decide) (by decide) lk25 (va_Nw.use rfl (hw.1.2.2.1 ("java/lang/IndexOutOfBoundsException", "java/lang/IndexOutOfBoundsException") (by decide))) hce hcv hcl ?_
  refine W.eq (g2 := F0 m 12 ls [.ref (q9)]) rfl ?_
  refine lv_astore_n (lv' := [(3, .ref (q9)), (0, .ref (α (0))), (1, .int (y)), (2, .ref (α (9)))]) hx hb dL_pay_12 rfl hl (by decide) rfl (fun ls hl => ?_)
  refine lv_iconst (v := (1)) hx hb dL_pay_13 (by decide) ?_
  exact W.iret (v := 1) hx hb hr (fun t ht hW => ⟨⟨_, (V, α), rfl, ⟨rfl, rfl⟩, by show mH G V α t.heap; rw [ht]; exact hw.2.2⟩, hS.F ht⟩) hS.2.2 dL_pay_14

set_option maxHeartbeats 4000000 in
set_option maxRecDepth 100000 in
theorem w_X3_payOf {l : Launch} {G : mG} {V : mV} {α : Nat → Nat} {f : sT} {nr nw ns : Nat} (hC : mC G V α f nr nw ns) (hwf : mwf f nr nw ns) (k : Nat) (hk : k < nw) (lo hi : Int32) (hlo : inn lo 0 363) (hhi : inn hi lo 363) {g0 : Nat → Int64} (h9 : V 9 = some (.inl (G.2.2.2.2.1, 1, .inr (.inl g0)))) : Met l yL_payOf wsL_payOf ({ frames := 7, cells := 0, slots := 0, locals := 172 }) (va_Pc [.ref (α (0)), .int (nI (k)), .int (lo), .int (hi), .ref (α (9))] (fun U => mW G V α U U.heap)) (va_Qi (fun (r9 : Int32) (u : mV × (Nat → Nat)) => 0 = r9 ∧ mPQ G V α u f nr nw ns (s_po f nr (nI (k)) lo hi ns).toInt64) (fun u t => mH G u.1 u.2 t.heap) (mfree G)) 0 0 (mfree G) := by
  refine mofWH (cc := cL_payOf) (maxL := 6) (ret := (some .int)) (hh := [(0, 12, 15, 25), (0, 12, 19, 13)]) (by decide) rfl ?_
  intro p e s m args below meth c s₁ B hml hv
  obtain ⟨rfl, hw⟩ := hv
  have hx := B.exec
  have hb := B.bytes
  have hr := B.returns
  have hts := atoms_spec (ws := wsL_payOf) B.pre
  have hown : s.vm.findClass RL = some m.cls := findClass_of_methodNamed B.named
  have hlocks := B.notSynchronized
  have hS : va_S (mfree G) s.heap s.heap [] := va_S.rf
  obtain ⟨k0, -⟩ := id hC
  have htb : c.exceptionTable.toList = tableOf [(0, 12, 15, 25), (0, 12, 19, 13)] := vx_table (x := yL_payOf) B (hts _ List.mem_cons_self)
  have hl := lv_entry ([.ref (α (0)), .int (nI (k)), .int (lo), .int (hi), .ref (α (9))]) (n := 6) (Nat.le_of_ble_eq_true rfl)
  rw [lg_entry_eq]
  generalize (lg_sl ([.ref (α (0)), .int (nI (k)), .int (lo), .int (hi), .ref (α (9))]) ++ List.replicate (6 - (lg_sl ([.ref (α (0)), .int (nI (k)), .int (lo), .int (hi), .ref (α (9))])).length) Slot.unset).toArray = ls at hl ⊢
  have hl : lv_has ls 6 [(0, .ref (α (0))), (1, .int (nI (k))), (2, .int (lo)), (3, .int (hi)), (4, .ref (α (9)))] := hl
  refine lv_aload hx hb dL_payOf_0 (lv_at hl 4 rfl) ?_
  refine lv_iconst (v := (0)) hx hb dL_payOf_2 (by decide) ?_
  refine lv_aload_n hx hb dL_payOf_3 rfl (lv_at hl 0 rfl) ?_
  refine lv_iload_n hx hb dL_payOf_4 rfl (lv_at hl 1 rfl) ?_
  refine lv_iload_n hx hb dL_payOf_5 rfl (lv_at hl 2 rfl) ?_
  refine lv_iload_n hx hb dL_payOf_6 rfl (lv_at hl 3 rfl) ?_
  refine mcallVi hw k0 rfl rfl ⟨hx, hb, hml, hown, hts⟩ (c_X3_payOf hC hwf k hk lo hi hlo hhi) (cwV 3 hts gL_payOf_X3_payOf rfl rfl rfl (by decide +kernel) ⟨Nat.le_of_ble_eq_true rfl, Nat.le_of_ble_eq_true rfl⟩) rfl hl.1 rfl (Nat.le_of_ble_eq_true rfl) dL_payOf_7 ⟨Nat.le_of_ble_eq_true rfl, Nat.le_of_ble_eq_true rfl⟩ ?_
  obtain ⟨V1, eV⟩ : ∃ z9 : mV, z9 = V := ⟨_, rfl⟩
  obtain ⟨α1, eα⟩ : ∃ z9 : Nat → Nat, z9 = α := ⟨_, rfl⟩
  have hC1 : mC G V1 α1 f nr nw ns := by rw [eV, eα]; exact hC
  have hw : mW G V1 α1 s s.heap := by rw [eV, eα]; exact hw
  have hO : ∀ j, j < 100 → (9 ≤ j → V1 j = V j) ∧ α1 j = α j := fun j hj => by rw [eV, eα]; exact ⟨fun _ => rfl, rfl⟩
  have h91 := ((hO 9 (by omega)).1 (by omega)).trans h9
  have e9 : α 9 = α1 9 := (hO 9 (by omega)).2.symm
  refine W.eq (g2 := F0 m 10 ls [.int (s_po f nr (nI (k)) lo hi ns), .int (0), .ref (α1 9)]) (by rw [e9]) ?_
  refine lv_i2l (v := (s_po f nr (nI (k)) lo hi ns).toInt64) hx hb dL_payOf_10 rfl ?_
  refine mlast hx hb hw hS h91 vin01 dL_payOf_11 (fun H locs hw hS => ?_)
  obtain ⟨V2, hV2⟩ : ∃ z9 : mV, z9 = vup V1 9 (.inl (G.2.2.2.2.1, 1, .inr (.inl (vp_updL g0 (0 : Int32).toNatClampNeg ((s_po f nr (nI (k)) lo hi ns).toInt64))))) := ⟨_, rfl⟩
  have hw : mW G V2 α1 s H := by rw [hV2]; exact hw
  have p1 : ∀ j, j ≠ 9 → V2 j = V1 j := fun j hj => by rw [hV2]; exact vup_n _ _ hj
  have p2 : ∃ g : Nat → Int64, V2 9 = some (.inl (G.2.2.2.2.1, 1, .inr (.inl g))) ∧ g 0 = ((s_po f nr (nI (k)) lo hi ns).toInt64) := ⟨_, by rw [hV2]; exact vup_s _ _ _, (show vp_updL g0 (0 : Int32).toNatClampNeg ((s_po f nr (nI (k)) lo hi ns).toInt64) 0 = ((s_po f nr (nI (k)) lo hi ns).toInt64) from if_pos (by decide))⟩
  obtain ⟨g1, g2, g3⟩ := p2
  refine lv_goto (tgt := 23) hx hb dL_payOf_12 (by decide) ?_
  refine lv_iconst (v := (0)) hx hb dL_payOf_23 (by decide) ?_
  exact W.iret (v := 0) hx hb hr (fun t ht hW => ⟨⟨_, (V2, α1), rfl, ⟨rfl, hC1.out p1, fun j hj => ⟨fun h => (p1 j (by omega)).trans ((hO j hj).1 (by omega)), (hO j hj).2⟩, ⟨g1, g2, g3.trans rfl⟩⟩, by show mH G V2 α1 t.heap; rw [ht]; exact hw.2.2⟩, hS.F ht⟩) hS.2.2 dL_payOf_24

set_option maxHeartbeats 4000000 in
set_option maxRecDepth 100000 in
theorem x_X3_payOf_1 {l : Launch} {G : mG} {V : mV} {α : Nat → Nat} {f : sT} {nr nw ns : Nat} (hl0 : l.stackTraces = false) (hC : mC G V α f nr nw ns) (hwf : mwf f nr nw ns) (y lo hi : Int32) (hbad : ¬ inn y 0 (nI nw - 1)) : Met l yL_payOf wsL_payOf ({ frames := 8, cells := 1, slots := 6, locals := 131 }) (va_Pc [.ref (α (0)), .int (y), .int (lo), .int (hi), .ref (α (9))] (fun U => mW G V α U U.heap)) (va_Qi (fun (r9 : Int32) (u : mV × (Nat → Nat)) => 1 = r9 ∧ u = (V, α)) (fun u t => mH G u.1 u.2 t.heap) (mfree G)) 1 6 (mfree G) := by
  refine mofWH (cc := cL_payOf) (maxL := 6) (ret := (some .int)) (hh := [(0, 12, 15, 25), (0, 12, 19, 13)]) (by decide) rfl ?_
  intro p e s m args below meth c s₁ B hml hv
  obtain ⟨rfl, hw⟩ := hv
  have hx := B.exec
  have hb := B.bytes
  have hr := B.returns
  have hts := atoms_spec (ws := wsL_payOf) B.pre
  have hown : s.vm.findClass RL = some m.cls := findClass_of_methodNamed B.named
  have hlocks := B.notSynchronized
  have hS : va_S (mfree G) s.heap s.heap [] := va_S.rf
  obtain ⟨k0, -⟩ := id hC
  have htb : c.exceptionTable.toList = tableOf [(0, 12, 15, 25), (0, 12, 19, 13)] := vx_table (x := yL_payOf) B (hts _ List.mem_cons_self)
  have lk25 := hts (.classLink RL 25 "java/lang/IndexOutOfBoundsException") (by decide +kernel)
  have hl := lv_entry ([.ref (α (0)), .int (y), .int (lo), .int (hi), .ref (α (9))]) (n := 6) (Nat.le_of_ble_eq_true rfl)
  rw [lg_entry_eq]
  generalize (lg_sl ([.ref (α (0)), .int (y), .int (lo), .int (hi), .ref (α (9))]) ++ List.replicate (6 - (lg_sl ([.ref (α (0)), .int (y), .int (lo), .int (hi), .ref (α (9))])).length) Slot.unset).toArray = ls at hl ⊢
  have hl : lv_has ls 6 [(0, .ref (α (0))), (1, .int (y)), (2, .int (lo)), (3, .int (hi)), (4, .ref (α (9)))] := hl
  refine lv_aload hx hb dL_payOf_0 (lv_at hl 4 rfl) ?_
  refine lv_iconst (v := (0)) hx hb dL_payOf_2 (by decide) ?_
  refine lv_aload_n hx hb dL_payOf_3 rfl (lv_at hl 0 rfl) ?_
  refine lv_iload_n hx hb dL_payOf_4 rfl (lv_at hl 1 rfl) ?_
  refine lv_iload_n hx hb dL_payOf_5 rfl (lv_at hl 2 rfl) ?_
  refine lv_iload_n hx hb dL_payOf_6 rfl (lv_at hl 3 rfl) ?_
  refine mcallTV hw k0 rfl rfl ⟨hx, hb, hml, hown, hts⟩ hS (t_X3_payOf_1 hl0 hC hwf y lo hi hbad) (cwV 3 hts gL_payOf_X3_payOf rfl rfl rfl (by decide +kernel) ⟨Nat.le_of_ble_eq_true rfl, Nat.le_of_ble_eq_true rfl⟩) rfl hl.1 rfl (Nat.le_of_ble_eq_true rfl) dL_payOf_7 ⟨Nat.le_of_ble_eq_true rfl, Nat.le_of_ble_eq_true rfl⟩ (fun q9 ce H locs hw hS hce hcv hcl => ?_)
  refine vx_catch (name := "java/lang/IndexOutOfBoundsException") (E := "java/lang/IndexOutOfBoundsException") hown [] ⟨0, 12, 15, 25⟩ [⟨0, 12, 19, 13⟩] htb (fun z hz => absurd hz List.not_mem_nil) (by decide) (by decide) lk25 (va_Nw.use rfl (hw.1.2.2.1 ("java/lang/IndexOutOfBoundsException", "java/lang/IndexOutOfBoundsException") (by decide))) hce hcv hcl ?_
  refine W.eq (g2 := F0 m 15 ls [.ref (q9)]) rfl ?_
  refine lv_astore (lv' := [(5, .ref (q9)), (0, .ref (α (0))), (1, .int (y)), (2, .int (lo)), (3, .int (hi)), (4, .ref (α (9)))]) hx hb dL_payOf_15 hl (by decide) rfl (fun ls hl => ?_)
  refine lv_iconst (v := (1)) hx hb dL_payOf_17 (by decide) ?_
  exact W.iret (v := 1) hx hb hr (fun t ht hW => ⟨⟨_, (V, α), rfl, ⟨rfl, rfl⟩, by show mH G V α t.heap; rw [ht]; exact hw.2.2⟩, hS.F ht⟩) hS.2.2 dL_payOf_18

set_option maxHeartbeats 4000000 in
set_option maxRecDepth 100000 in
theorem x_X3_payOf_2 {l : Launch} {G : mG} {V : mV} {α : Nat → Nat} {f : sT} {nr nw ns : Nat} (hl0 : l.stackTraces = false) (hC : mC G V α f nr nw ns) (hwf : mwf f nr nw ns) (k : Nat) (hk : k < nw) (lo hi : Int32) (hbad : ¬ (inn lo 0 363 ∧ inn hi lo 363)) : Met l yL_payOf wsL_payOf ({ frames := 8, cells := 1, slots := 6, locals := 132 }) (va_Pc [.ref (α (0)), .int (nI (k)), .int (lo), .int (hi), .ref (α (9))] (fun U => mW G V α U U.heap)) (va_Qi (fun (r9 : Int32) (u : mV × (Nat → Nat)) => 2 = r9 ∧ u = (V, α)) (fun u t => mH G u.1 u.2 t.heap) (mfree G)) 1 6 (mfree G) := by
  refine mofWH (cc := cL_payOf) (maxL := 6) (ret := (some .int)) (hh := [(0, 12, 15, 25), (0, 12, 19, 13)]) (by decide) rfl ?_
  intro p e s m args below meth c s₁ B hml hv
  obtain ⟨rfl, hw⟩ := hv
  have hx := B.exec
  have hb := B.bytes
  have hr := B.returns
  have hts := atoms_spec (ws := wsL_payOf) B.pre
  have hown : s.vm.findClass RL = some m.cls := findClass_of_methodNamed B.named
  have hlocks := B.notSynchronized
  have hS : va_S (mfree G) s.heap s.heap [] := va_S.rf
  obtain ⟨k0, -⟩ := id hC
  have htb : c.exceptionTable.toList = tableOf [(0, 12, 15, 25), (0, 12, 19, 13)] := vx_table (x := yL_payOf) B (hts _ List.mem_cons_self)
  have lk25 := hts (.classLink RL 25 "java/lang/IndexOutOfBoundsException") (by decide +kernel)
  have lk13 := hts (.classLink RL 13 "java/lang/IllegalArgumentException") (by decide +kernel)
  have hl := lv_entry ([.ref (α (0)), .int (nI (k)), .int (lo), .int (hi), .ref (α (9))]) (n := 6) (Nat.le_of_ble_eq_true rfl)
  rw [lg_entry_eq]
  generalize (lg_sl ([.ref (α (0)), .int (nI (k)), .int (lo), .int (hi), .ref (α (9))]) ++ List.replicate (6 - (lg_sl ([.ref (α (0)), .int (nI (k)), .int (lo), .int (hi), .ref (α (9))])).length) Slot.unset).toArray = ls at hl ⊢
  have hl : lv_has ls 6 [(0, .ref (α (0))), (1, .int (nI (k))), (2, .int (lo)), (3, .int (hi)), (4, .ref (α (9)))] := hl
  refine lv_aload hx hb dL_payOf_0 (lv_at hl 4 rfl) ?_
  refine lv_iconst (v := (0)) hx hb dL_payOf_2 (by decide) ?_
  refine lv_aload_n hx hb dL_payOf_3 rfl (lv_at hl 0 rfl) ?_
  refine lv_iload_n hx hb dL_payOf_4 rfl (lv_at hl 1 rfl) ?_
  refine lv_iload_n hx hb dL_payOf_5 rfl (lv_at hl 2 rfl) ?_
  refine lv_iload_n hx hb dL_payOf_6 rfl (lv_at hl 3 rfl) ?_
  refine mcallTV hw k0 rfl rfl ⟨hx, hb, hml, hown, hts⟩ hS (t_X3_payOf_2 hl0 hC hwf k hk lo hi hbad) (cwV 3 hts gL_payOf_X3_payOf rfl rfl rfl (by decide +kernel) ⟨Nat.le_of_ble_eq_true rfl, Nat.le_of_ble_eq_true rfl⟩) rfl hl.1 rfl (Nat.le_of_ble_eq_true rfl) dL_payOf_7 ⟨Nat.le_of_ble_eq_true rfl, Nat.le_of_ble_eq_true rfl⟩ (fun q9 ce H locs hw hS hce hcv hcl => ?_)
  refine vx_catch (name := "java/lang/IllegalArgumentException") (E := "java/lang/IllegalArgumentException") hown [⟨0, 12, 15, 25⟩] ⟨0, 12, 19, 13⟩ [] htb (fun z hz => by rw [List.mem_singleton.mp hz]; exact Or.inr ⟨by decide, "java/lang/IndexOutOfBoundsException", lk25, hw.1.2.2.2.2.1 ("java/lang/IllegalArgumentException", "java/lang/IndexOutOfBoundsException") (by decide)⟩) (by decide) (by decide) lk13 (va_Nw.use rfl (hw.1.2.2.1 ("java/lang/IllegalArgumentException", "java/lang/IllegalArgumentException") (by decide))) hce hcv hcl ?_
  refine W.eq (g2 := F0 m 19 ls [.ref (q9)]) rfl ?_
  refine lv_astore (lv' := [(5, .ref (q9)), (0, .ref (α (0))), (1, .int (nI (k))), (2, .int (lo)), (3, .int (hi)), (4, .ref (α (9)))]) hx hb dL_payOf_19 hl (by decide) rfl (fun ls hl => ?_)
  refine lv_iconst (v := (2)) hx hb dL_payOf_21 (by decide) ?_
  exact W.iret (v := 2) hx hb hr (fun t ht hW => ⟨⟨_, (V, α), rfl, ⟨rfl, rfl⟩, by show mH G V α t.heap; rw [ht]; exact hw.2.2⟩, hS.F ht⟩) hS.2.2 dL_payOf_22

set_option maxHeartbeats 4000000 in
set_option maxRecDepth 100000 in
theorem w_X3_paidBy {l : Launch} {G : mG} {V : mV} {α : Nat → Nat} {f : sT} {nr nw ns : Nat} (hC : mC G V α f nr nw ns) (hwf : mwf f nr nw ns) (k : Nat) (hk : k < nr) {g0 : Nat → Int64} (h9 : V 9 = some (.inl (G.2.2.2.2.1, 1, .inr (.inl g0)))) : Met l yL_paidBy wsL_paidBy ({ frames := 6, cells := 0, slots := 0, locals := 147 }) (va_Pc [.ref (α (0)), .int (nI (k)), .ref (α (9))] (fun U => mW G V α U U.heap)) (va_Qi (fun (r9 : Int32) (u : mV × (Nat → Nat)) => 0 = r9 ∧ mPQ G V α u f nr nw ns (s_pb f nr (nI (k)) ns).toInt64) (fun u t => mH G u.1 u.2 t.heap) (mfree G)) 0 0 (mfree G) := by
  refine mofWH (cc := cL_paidBy) (maxL := 4) (ret := (some .int)) (hh := [(0, 9, 12, 25)]) (by decide) rfl ?_
  intro p e s m args below meth c s₁ B hml hv
  obtain ⟨rfl, hw⟩ := hv
  have hx := B.exec
  have hb := B.bytes
  have hr := B.returns
  have hts := atoms_spec (ws := wsL_paidBy) B.pre
  have hown : s.vm.findClass RL = some m.cls := findClass_of_methodNamed B.named
  have hlocks := B.notSynchronized
  have hS : va_S (mfree G) s.heap s.heap [] := va_S.rf
  obtain ⟨k0, -⟩ := id hC
  have htb : c.exceptionTable.toList = tableOf [(0, 9, 12, 25)] := vx_table (x := yL_paidBy) B (hts _ List.mem_cons_self)
  have hl := lv_entry ([.ref (α (0)), .int (nI (k)), .ref (α (9))]) (n := 4) (Nat.le_of_ble_eq_true rfl)
  rw [lg_entry_eq]
  generalize (lg_sl ([.ref (α (0)), .int (nI (k)), .ref (α (9))]) ++ List.replicate (4 - (lg_sl ([.ref (α (0)), .int (nI (k)), .ref (α (9))])).length) Slot.unset).toArray = ls at hl ⊢
  have hl : lv_has ls 4 [(0, .ref (α (0))), (1, .int (nI (k))), (2, .ref (α (9)))] := hl
  refine lv_aload_n hx hb dL_paidBy_0 rfl (lv_at hl 2 rfl) ?_
  refine lv_iconst (v := (0)) hx hb dL_paidBy_1 (by decide) ?_
  refine lv_aload_n hx hb dL_paidBy_2 rfl (lv_at hl 0 rfl) ?_
  refine lv_iload_n hx hb dL_paidBy_3 rfl (lv_at hl 1 rfl) ?_
  refine mcallVi hw k0 rfl rfl ⟨hx, hb, hml, hown, hts⟩ (c_X3_paidBy hC hwf k hk) (cwV 1 hts gL_paidBy_X3_paidBy rfl rfl rfl (by decide +kernel) ⟨Nat.le_of_ble_eq_true rfl, Nat.le_of_ble_eq_true rfl⟩) rfl hl.1 rfl (Nat.le_of_ble_eq_true rfl) dL_paidBy_4 ⟨Nat.le_of_ble_eq_true rfl, Nat.le_of_ble_eq_true rfl⟩ ?_
  obtain ⟨V1, eV⟩ : ∃ z9 : mV, z9 = V := ⟨_, rfl⟩
  obtain ⟨α1, eα⟩ : ∃ z9 : Nat → Nat, z9 = α := ⟨_, rfl⟩
  have hC1 : mC G V1 α1 f nr nw ns := by rw [eV, eα]; exact hC
  have hw : mW G V1 α1 s s.heap := by rw [eV, eα]; exact hw
  have hO : ∀ j, j < 100 → (9 ≤ j → V1 j = V j) ∧ α1 j = α j := fun j hj => by rw [eV, eα]; exact ⟨fun _ => rfl, rfl⟩
  have h91 := ((hO 9 (by omega)).1 (by omega)).trans h9
  have e9 : α 9 = α1 9 := (hO 9 (by omega)).2.symm
  refine W.eq (g2 := F0 m 7 ls [.int (s_pb f nr (nI (k)) ns), .int (0), .ref (α1 9)]) (by rw [e9]) ?_
  refine lv_i2l (v := (s_pb f nr (nI (k)) ns).toInt64) hx hb dL_paidBy_7 rfl ?_
  refine mlast hx hb hw hS h91 vin01 dL_paidBy_8 (fun H locs hw hS => ?_)
  obtain ⟨V2, hV2⟩ : ∃ z9 : mV, z9 = vup V1 9 (.inl (G.2.2.2.2.1, 1, .inr (.inl (vp_updL g0 (0 : Int32).toNatClampNeg ((s_pb f nr (nI (k)) ns).toInt64))))) := ⟨_, rfl⟩
  have hw : mW G V2 α1 s H := by rw [hV2]; exact hw
  have p1 : ∀ j, j ≠ 9 → V2 j = V1 j := fun j hj => by rw [hV2]; exact vup_n _ _ hj
  have p2 : ∃ g : Nat → Int64, V2 9 = some (.inl (G.2.2.2.2.1, 1, .inr (.inl g))) ∧ g 0 = ((s_pb f nr (nI (k)) ns).toInt64) := ⟨_, by rw [hV2]; exact vup_s _ _ _, (show vp_updL g0 (0 : Int32).toNatClampNeg ((s_pb f nr (nI (k)) ns).toInt64) 0 = ((s_pb f nr (nI (k)) ns).toInt64) from if_pos (by decide))⟩
  obtain ⟨g1, g2, g3⟩ := p2
  refine lv_goto (tgt := 15) hx hb dL_paidBy_9 (by decide) ?_
  refine lv_iconst (v := (0)) hx hb dL_paidBy_15 (by decide) ?_
  exact W.iret (v := 0) hx hb hr (fun t ht hW => ⟨⟨_, (V2, α1), rfl, ⟨rfl, hC1.out p1, fun j hj => ⟨fun h => (p1 j (by omega)).trans ((hO j hj).1 (by omega)), (hO j hj).2⟩, ⟨g1, g2, g3.trans rfl⟩⟩, by show mH G V2 α1 t.heap; rw [ht]; exact hw.2.2⟩, hS.F ht⟩) hS.2.2 dL_paidBy_16

set_option maxHeartbeats 4000000 in
set_option maxRecDepth 100000 in
theorem x_X3_paidBy_1 {l : Launch} {G : mG} {V : mV} {α : Nat → Nat} {f : sT} {nr nw ns : Nat} (hl0 : l.stackTraces = false) (hC : mC G V α f nr nw ns) (hwf : mwf f nr nw ns) (y : Int32) (hbad : ¬ inn y 0 (nI nr - 1)) : Met l yL_paidBy wsL_paidBy ({ frames := 8, cells := 1, slots := 6, locals := 127 }) (va_Pc [.ref (α (0)), .int (y), .ref (α (9))] (fun U => mW G V α U U.heap)) (va_Qi (fun (r9 : Int32) (u : mV × (Nat → Nat)) => 1 = r9 ∧ u = (V, α)) (fun u t => mH G u.1 u.2 t.heap) (mfree G)) 1 6 (mfree G) := by
  refine mofWH (cc := cL_paidBy) (maxL := 4) (ret := (some .int)) (hh := [(0, 9, 12, 25)]) (by decide) rfl ?_
  intro p e s m args below meth c s₁ B hml hv
  obtain ⟨rfl, hw⟩ := hv
  have hx := B.exec
  have hb := B.bytes
  have hr := B.returns
  have hts := atoms_spec (ws := wsL_paidBy) B.pre
  have hown : s.vm.findClass RL = some m.cls := findClass_of_methodNamed B.named
  have hlocks := B.notSynchronized
  have hS : va_S (mfree G) s.heap s.heap [] := va_S.rf
  obtain ⟨k0, -⟩ := id hC
  have htb : c.exceptionTable.toList = tableOf [(0, 9, 12, 25)] := vx_table (x := yL_paidBy) B (hts _ List.mem_cons_self)
  have lk25 := hts (.classLink RL 25 "java/lang/IndexOutOfBoundsException") (by decide +kernel)
  have hl := lv_entry ([.ref (α (0)), .int (y), .ref (α (9))]) (n := 4) (Nat.le_of_ble_eq_true rfl)
  rw [lg_entry_eq]
  generalize (lg_sl ([.ref (α (0)), .int (y), .ref (α (9))]) ++ List.replicate (4 - (lg_sl ([.ref (α (0)), .int (y), .ref (α (9))])).length) Slot.unset).toArray = ls at hl ⊢
  have hl : lv_has ls 4 [(0, .ref (α (0))), (1, .int (y)), (2, .ref (α (9)))] := hl
  refine lv_aload_n hx hb dL_paidBy_0 rfl (lv_at hl 2 rfl) ?_
  refine lv_iconst (v := (0)) hx hb dL_paidBy_1 (by decide) ?_
  refine lv_aload_n hx hb dL_paidBy_2 rfl (lv_at hl 0 rfl) ?_
  refine lv_iload_n hx hb dL_paidBy_3 rfl (lv_at hl 1 rfl) ?_
  refine mcallTV hw k0 rfl rfl ⟨hx, hb, hml, hown, hts⟩ hS (t_X3_paidBy_1 hl0 hC hwf y hbad) (cwV 1 hts gL_paidBy_X3_paidBy rfl rfl rfl (by decide +kernel) ⟨Nat.le_of_ble_eq_true rfl, Nat.le_of_ble_eq_true rfl⟩) rfl hl.1 rfl (Nat.le_of_ble_eq_true rfl) dL_paidBy_4 ⟨Nat.le_of_ble_eq_true rfl, Nat.le_of_ble_eq_true rfl⟩ (fun q9 ce H locs hw hS hce hcv hcl => ?_)
  refine vx_catch (name := "java/lang/IndexOutOfBoundsException") (E := "java/lang/IndexOutOfBoundsException") hown [] ⟨0, 9, 12, 25⟩ [] htb (fun z hz => absurd hz List.not_mem_nil) (by decide) (by decide) lk25 (va_Nw.use rfl (hw.1.2.2.1 ("java/lang/IndexOutOfBoundsException", "java/lang/IndexOutOfBoundsException") (by decide))) hce hcv hcl ?_
  refine W.eq (g2 := F0 m 12 ls [.ref (q9)]) rfl ?_
  refine lv_astore_n (lv' := [(3, .ref (q9)), (0, .ref (α (0))), (1, .int (y)), (2, .ref (α (9)))]) hx hb dL_paidBy_12 rfl hl (by decide) rfl (fun ls hl => ?_)
  refine lv_iconst (v := (1)) hx hb dL_paidBy_13 (by decide) ?_
  exact W.iret (v := 1) hx hb hr (fun t ht hW => ⟨⟨_, (V, α), rfl, ⟨rfl, rfl⟩, by show mH G V α t.heap; rw [ht]; exact hw.2.2⟩, hS.F ht⟩) hS.2.2 dL_paidBy_14

set_option maxHeartbeats 4000000 in
set_option maxRecDepth 100000 in
theorem w_X3_worked {l : Launch} {G : mG} {V : mV} {α : Nat → Nat} {f : sT} {nr nw ns : Nat} (hC : mC G V α f nr nw ns) (hwf : mwf f nr nw ns) (k z : Nat) (hk : k < nw) (hz : z < 52) {g0 : Nat → Int64} (h9 : V 9 = some (.inl (G.2.2.2.2.1, 1, .inr (.inl g0)))) : Met l yL_worked wsL_worked ({ frames := 6, cells := 0, slots := 0, locals := 136 }) (va_Pc [.ref (α (0)), .int (nI (k)), .int (nI (z)), .ref (α (9))] (fun U => mW G V α U U.heap)) (va_Qi (fun (r9 : Int32) (u : mV × (Nat → Nat)) => 0 = r9 ∧ mPQ G V α u f nr nw ns (s_wb f k (nI (z) * 672) ((nI (z) + 1) * 672) ns).toInt64) (fun u t => mH G u.1 u.2 t.heap) (mfree G)) 0 0 (mfree G) := by
  refine mofWH (cc := cL_worked) (maxL := 5) (ret := (some .int)) (hh := [(0, 10, 13, 25), (0, 10, 17, 13)]) (by decide) rfl ?_
  intro p e s m args below meth c s₁ B hml hv
  obtain ⟨rfl, hw⟩ := hv
  have hx := B.exec
  have hb := B.bytes
  have hr := B.returns
  have hts := atoms_spec (ws := wsL_worked) B.pre
  have hown : s.vm.findClass RL = some m.cls := findClass_of_methodNamed B.named
  have hlocks := B.notSynchronized
  have hS : va_S (mfree G) s.heap s.heap [] := va_S.rf
  obtain ⟨k0, -⟩ := id hC
  have htb : c.exceptionTable.toList = tableOf [(0, 10, 13, 25), (0, 10, 17, 13)] := vx_table (x := yL_worked) B (hts _ List.mem_cons_self)
  have hl := lv_entry ([.ref (α (0)), .int (nI (k)), .int (nI (z)), .ref (α (9))]) (n := 5) (Nat.le_of_ble_eq_true rfl)
  rw [lg_entry_eq]
  generalize (lg_sl ([.ref (α (0)), .int (nI (k)), .int (nI (z)), .ref (α (9))]) ++ List.replicate (5 - (lg_sl ([.ref (α (0)), .int (nI (k)), .int (nI (z)), .ref (α (9))])).length) Slot.unset).toArray = ls at hl ⊢
  have hl : lv_has ls 5 [(0, .ref (α (0))), (1, .int (nI (k))), (2, .int (nI (z))), (3, .ref (α (9)))] := hl
  refine lv_aload_n hx hb dL_worked_0 rfl (lv_at hl 3 rfl) ?_
  refine lv_iconst (v := (0)) hx hb dL_worked_1 (by decide) ?_
  refine lv_aload_n hx hb dL_worked_2 rfl (lv_at hl 0 rfl) ?_
  refine lv_iload_n hx hb dL_worked_3 rfl (lv_at hl 1 rfl) ?_
  refine lv_iload_n hx hb dL_worked_4 rfl (lv_at hl 2 rfl) ?_
  refine mcallVi hw k0 rfl rfl ⟨hx, hb, hml, hown, hts⟩ (c_X3_worked hC hwf k z hk hz) (cwV 2 hts gL_worked_X3_worked rfl rfl rfl (by decide +kernel) ⟨Nat.le_of_ble_eq_true rfl, Nat.le_of_ble_eq_true rfl⟩) rfl hl.1 rfl (Nat.le_of_ble_eq_true rfl) dL_worked_5 ⟨Nat.le_of_ble_eq_true rfl, Nat.le_of_ble_eq_true rfl⟩ ?_
  obtain ⟨V1, eV⟩ : ∃ z9 : mV, z9 = V := ⟨_, rfl⟩
  obtain ⟨α1, eα⟩ : ∃ z9 : Nat → Nat, z9 = α := ⟨_, rfl⟩
  have hC1 : mC G V1 α1 f nr nw ns := by rw [eV, eα]; exact hC
  have hw : mW G V1 α1 s s.heap := by rw [eV, eα]; exact hw
  have hO : ∀ j, j < 100 → (9 ≤ j → V1 j = V j) ∧ α1 j = α j := fun j hj => by rw [eV, eα]; exact ⟨fun _ => rfl, rfl⟩
  have h91 := ((hO 9 (by omega)).1 (by omega)).trans h9
  have e9 : α 9 = α1 9 := (hO 9 (by omega)).2.symm
  refine W.eq (g2 := F0 m 8 ls [.int (s_wb f k (nI (z) * 672) ((nI (z) + 1) * 672) ns), .int (0), .ref (α1 9)]) (by rw [e9]) ?_
  refine lv_i2l (v := (s_wb f k (nI (z) * 672) ((nI (z) + 1) * 672) ns).toInt64) hx hb dL_worked_8 rfl ?_
  refine mlast hx hb hw hS h91 vin01 dL_worked_9 (fun H locs hw hS => ?_)
  obtain ⟨V2, hV2⟩ : ∃ z9 : mV, z9 = vup V1 9 (.inl (G.2.2.2.2.1, 1, .inr (.inl (vp_updL g0 (0 : Int32).toNatClampNeg ((s_wb f k (nI (z) * 672) ((nI (z) + 1) * 672) ns).toInt64))))) := ⟨_, rfl⟩
  have hw : mW G V2 α1 s H := by rw [hV2]; exact hw
  have p1 : ∀ j, j ≠ 9 → V2 j = V1 j := fun j hj => by rw [hV2]; exact vup_n _ _ hj
  have p2 : ∃ g : Nat → Int64, V2 9 = some (.inl (G.2.2.2.2.1, 1, .inr (.inl g))) ∧ g 0 = ((s_wb f k (nI (z) * 672) ((nI (z) + 1) * 672) ns).toInt64) := ⟨_, by rw [hV2]; exact vup_s _ _ _, (show vp_updL g0 (0 : Int32).toNatClampNeg ((s_wb f k (nI (z) * 672) ((nI (z) + 1) * 672) ns).toInt64) 0 = ((s_wb f k (nI (z) * 672) ((nI (z) + 1) * 672) ns).toInt64) from if_pos (by decide))⟩
  obtain ⟨g1, g2, g3⟩ := p2
  refine lv_goto (tgt := 21) hx hb dL_worked_10 (by decide) ?_
  refine lv_iconst (v := (0)) hx hb dL_worked_21 (by decide) ?_
  exact W.iret (v := 0) hx hb hr (fun t ht hW => ⟨⟨_, (V2, α1), rfl, ⟨rfl, hC1.out p1, fun j hj => ⟨fun h => (p1 j (by omega)).trans ((hO j hj).1 (by omega)), (hO j hj).2⟩, ⟨g1, g2, g3.trans rfl⟩⟩, by show mH G V2 α1 t.heap; rw [ht]; exact hw.2.2⟩, hS.F ht⟩) hS.2.2 dL_worked_22

set_option maxHeartbeats 4000000 in
set_option maxRecDepth 100000 in
theorem x_X3_worked_1 {l : Launch} {G : mG} {V : mV} {α : Nat → Nat} {f : sT} {nr nw ns : Nat} (hl0 : l.stackTraces = false) (hC : mC G V α f nr nw ns) (hwf : mwf f nr nw ns) (y x : Int32) (hbad : ¬ inn y 0 (nI nw - 1)) : Met l yL_worked wsL_worked ({ frames := 8, cells := 1, slots := 6, locals := 126 }) (va_Pc [.ref (α (0)), .int (y), .int (x), .ref (α (9))] (fun U => mW G V α U U.heap)) (va_Qi (fun (r9 : Int32) (u : mV × (Nat → Nat)) => 1 = r9 ∧ u = (V, α)) (fun u t => mH G u.1 u.2 t.heap) (mfree G)) 1 6 (mfree G) := by
  refine mofWH (cc := cL_worked) (maxL := 5) (ret := (some .int)) (hh := [(0, 10, 13, 25), (0, 10, 17, 13)]) (by decide) rfl ?_
  intro p e s m args below meth c s₁ B hml hv
  obtain ⟨rfl, hw⟩ := hv
  have hx := B.exec
  have hb := B.bytes
  have hr := B.returns
  have hts := atoms_spec (ws := wsL_worked) B.pre
  have hown : s.vm.findClass RL = some m.cls := findClass_of_methodNamed B.named
  have hlocks := B.notSynchronized
  have hS : va_S (mfree G) s.heap s.heap [] := va_S.rf
  obtain ⟨k0, -⟩ := id hC
  have htb : c.exceptionTable.toList = tableOf [(0, 10, 13, 25), (0, 10, 17, 13)] := vx_table (x := yL_worked) B (hts _ List.mem_cons_self)
  have lk25 := hts (.classLink RL 25 "java/lang/IndexOutOfBoundsException") (by decide +kernel)
  have hl := lv_entry ([.ref (α (0)), .int (y), .int (x), .ref (α (9))]) (n := 5) (Nat.le_of_ble_eq_true rfl)
  rw [lg_entry_eq]
  generalize (lg_sl ([.ref (α (0)), .int (y), .int (x), .ref (α (9))]) ++ List.replicate (5 - (lg_sl ([.ref (α (0)), .int (y), .int (x), .ref (α (9))])).length) Slot.unset).toArray = ls at hl ⊢
  have hl : lv_has ls 5 [(0, .ref (α (0))), (1, .int (y)), (2, .int (x)), (3, .ref (α (9)))] := hl
  refine lv_aload_n hx hb dL_worked_0 rfl (lv_at hl 3 rfl) ?_
  refine lv_iconst (v := (0)) hx hb dL_worked_1 (by decide) ?_
  refine lv_aload_n hx hb dL_worked_2 rfl (lv_at hl 0 rfl) ?_
  refine lv_iload_n hx hb dL_worked_3 rfl (lv_at hl 1 rfl) ?_
  refine lv_iload_n hx hb dL_worked_4 rfl (lv_at hl 2 rfl) ?_
  refine mcallTV hw k0 rfl rfl ⟨hx, hb, hml, hown, hts⟩ hS (t_X3_worked_1 hl0 hC hwf y x hbad) (cwV 2 hts gL_worked_X3_worked rfl rfl rfl (by decide +kernel) ⟨Nat.le_of_ble_eq_true rfl, Nat.le_of_ble_eq_true rfl⟩) rfl hl.1 rfl (Nat.le_of_ble_eq_true rfl) dL_worked_5 ⟨Nat.le_of_ble_eq_true rfl, Nat.le_of_ble_eq_true rfl⟩ (fun q9 ce H locs hw hS hce hcv hcl => ?_)
  refine vx_catch (name := "java/lang/IndexOutOfBoundsException") (E := "java/lang/IndexOutOfBoundsException") hown [] ⟨0, 10, 13, 25⟩ [⟨0, 10, 17, 13⟩] htb (fun z hz => absurd hz List.not_mem_nil) (by decide) (by decide) lk25 (va_Nw.use rfl (hw.1.2.2.1 ("java/lang/IndexOutOfBoundsException", "java/lang/IndexOutOfBoundsException") (by decide))) hce hcv hcl ?_
  refine W.eq (g2 := F0 m 13 ls [.ref (q9)]) rfl ?_
  refine lv_astore (lv' := [(4, .ref (q9)), (0, .ref (α (0))), (1, .int (y)), (2, .int (x)), (3, .ref (α (9)))]) hx hb dL_worked_13 hl (by decide) rfl (fun ls hl => ?_)
  refine lv_iconst (v := (1)) hx hb dL_worked_15 (by decide) ?_
  exact W.iret (v := 1) hx hb hr (fun t ht hW => ⟨⟨_, (V, α), rfl, ⟨rfl, rfl⟩, by show mH G V α t.heap; rw [ht]; exact hw.2.2⟩, hS.F ht⟩) hS.2.2 dL_worked_16

set_option maxHeartbeats 4000000 in
set_option maxRecDepth 100000 in
theorem x_X3_worked_2 {l : Launch} {G : mG} {V : mV} {α : Nat → Nat} {f : sT} {nr nw ns : Nat} (hl0 : l.stackTraces = false) (hC : mC G V α f nr nw ns) (hwf : mwf f nr nw ns) (k : Nat) (hk : k < nw) (x : Int32) (hbad : ¬ inn x 0 51) : Met l yL_worked wsL_worked ({ frames := 8, cells := 1, slots := 6, locals := 127 }) (va_Pc [.ref (α (0)), .int (nI (k)), .int (x), .ref (α (9))] (fun U => mW G V α U U.heap)) (va_Qi (fun (r9 : Int32) (u : mV × (Nat → Nat)) => 2 = r9 ∧ u = (V, α)) (fun u t => mH G u.1 u.2 t.heap) (mfree G)) 1 6 (mfree G) := by
  refine mofWH (cc := cL_worked) (maxL := 5) (ret := (some .int)) (hh := [(0, 10, 13, 25), (0, 10, 17, 13)]) (by decide) rfl ?_
  intro p e s m args below meth c s₁ B hml hv
  obtain ⟨rfl, hw⟩ := hv
  have hx := B.exec
  have hb := B.bytes
  have hr := B.returns
  have hts := atoms_spec (ws := wsL_worked) B.pre
  have hown : s.vm.findClass RL = some m.cls := findClass_of_methodNamed B.named
  have hlocks := B.notSynchronized
  have hS : va_S (mfree G) s.heap s.heap [] := va_S.rf
  obtain ⟨k0, -⟩ := id hC
  have htb : c.exceptionTable.toList = tableOf [(0, 10, 13, 25), (0, 10, 17, 13)] := vx_table (x := yL_worked) B (hts _ List.mem_cons_self)
  have lk25 := hts (.classLink RL 25 "java/lang/IndexOutOfBoundsException") (by decide +kernel)
  have lk13 := hts (.classLink RL 13 "java/lang/IllegalArgumentException") (by decide +kernel)
  have hl := lv_entry ([.ref (α (0)), .int (nI (k)), .int (x), .ref (α (9))]) (n := 5) (Nat.le_of_ble_eq_true rfl)
  rw [lg_entry_eq]
  generalize (lg_sl ([.ref (α (0)), .int (nI (k)), .int (x), .ref (α (9))]) ++ List.replicate (5 - (lg_sl ([.ref (α (0)), .int (nI (k)), .int (x), .ref (α (9))])).length) Slot.unset).toArray = ls at hl ⊢
  have hl : lv_has ls 5 [(0, .ref (α (0))), (1, .int (nI (k))), (2, .int (x)), (3, .ref (α (9)))] := hl
  refine lv_aload_n hx hb dL_worked_0 rfl (lv_at hl 3 rfl) ?_
  refine lv_iconst (v := (0)) hx hb dL_worked_1 (by decide) ?_
  refine lv_aload_n hx hb dL_worked_2 rfl (lv_at hl 0 rfl) ?_
  refine lv_iload_n hx hb dL_worked_3 rfl (lv_at hl 1 rfl) ?_
  refine lv_iload_n hx hb dL_worked_4 rfl (lv_at hl 2 rfl) ?_
  refine mcallTV hw k0 rfl rfl ⟨hx, hb, hml, hown, hts⟩ hS (t_X3_worked_2 hl0 hC hwf k hk x hbad) (cwV 2 hts gL_worked_X3_worked rfl rfl rfl (by decide +kernel) ⟨Nat.le_of_ble_eq_true rfl, Nat.le_of_ble_eq_true rfl⟩) rfl hl.1 rfl (Nat.le_of_ble_eq_true rfl) dL_worked_5 ⟨Nat.le_of_ble_eq_true rfl, Nat.le_of_ble_eq_true rfl⟩ (fun q9 ce H locs hw hS hce hcv hcl => ?_)
  refine vx_catch (name := "java/lang/IllegalArgumentException") (E := "java/lang/IllegalArgumentException") hown [⟨0, 10, 13, 25⟩] ⟨0, 10, 17, 13⟩ [] htb (fun z hz => by rw [List.mem_singleton.mp hz]; exact Or.inr ⟨by decide, "java/lang/IndexOutOfBoundsException", lk25, hw.1.2.2.2.2.1 ("java/lang/IllegalArgumentException", "java/lang/IndexOutOfBoundsException") (by decide)⟩) (by decide) (by decide) lk13 (va_Nw.use rfl (hw.1.2.2.1 ("java/lang/IllegalArgumentException", "java/lang/IllegalArgumentException") (by decide))) hce hcv hcl ?_
  refine W.eq (g2 := F0 m 17 ls [.ref (q9)]) rfl ?_
  refine lv_astore (lv' := [(4, .ref (q9)), (0, .ref (α (0))), (1, .int (nI (k))), (2, .int (x)), (3, .ref (α (9)))]) hx hb dL_worked_17 hl (by decide) rfl (fun ls hl => ?_)
  refine lv_iconst (v := (2)) hx hb dL_worked_19 (by decide) ?_
  exact W.iret (v := 2) hx hb hr (fun t ht hW => ⟨⟨_, (V, α), rfl, ⟨rfl, rfl⟩, by show mH G V α t.heap; rw [ht]; exact hw.2.2⟩, hS.F ht⟩) hS.2.2 dL_worked_20

set_option maxHeartbeats 4000000 in
set_option maxRecDepth 100000 in
theorem w_X3_excess {l : Launch} {G : mG} {V : mV} {α : Nat → Nat} {f : sT} {nr nw ns : Nat} (hC : mC G V α f nr nw ns) (hwf : mwf f nr nw ns) (k z : Nat) (hk : k < nw) (hz : z < 13) {g0 : Nat → Int64} (h9 : V 9 = some (.inl (G.2.2.2.2.1, 1, .inr (.inl g0)))) : Met l yL_excess wsL_excess ({ frames := 6, cells := 0, slots := 0, locals := 137 }) (va_Pc [.ref (α (0)), .int (nI (k)), .int (nI (z)), .ref (α (9))] (fun U => mW G V α U U.heap)) (va_Qi (fun (r9 : Int32) (u : mV × (Nat → Nat)) => 0 = r9 ∧ mPQ G V α u f nr nw ns (s_mx (s_wb f k (nI (z) * 4 * 672) ((nI (z) * 4 + 4) * 672) ns - 608) 0).toInt64) (fun u t => mH G u.1 u.2 t.heap) (mfree G)) 0 0 (mfree G) := by
  refine mofWH (cc := cL_excess) (maxL := 5) (ret := (some .int)) (hh := [(0, 10, 13, 25), (0, 10, 17, 13)]) (by decide) rfl ?_
  intro p e s m args below meth c s₁ B hml hv
  obtain ⟨rfl, hw⟩ := hv
  have hx := B.exec
  have hb := B.bytes
  have hr := B.returns
  have hts := atoms_spec (ws := wsL_excess) B.pre
  have hown : s.vm.findClass RL = some m.cls := findClass_of_methodNamed B.named
  have hlocks := B.notSynchronized
  have hS : va_S (mfree G) s.heap s.heap [] := va_S.rf
  obtain ⟨k0, -⟩ := id hC
  have htb : c.exceptionTable.toList = tableOf [(0, 10, 13, 25), (0, 10, 17, 13)] := vx_table (x := yL_excess) B (hts _ List.mem_cons_self)
  have hl := lv_entry ([.ref (α (0)), .int (nI (k)), .int (nI (z)), .ref (α (9))]) (n := 5) (Nat.le_of_ble_eq_true rfl)
  rw [lg_entry_eq]
  generalize (lg_sl ([.ref (α (0)), .int (nI (k)), .int (nI (z)), .ref (α (9))]) ++ List.replicate (5 - (lg_sl ([.ref (α (0)), .int (nI (k)), .int (nI (z)), .ref (α (9))])).length) Slot.unset).toArray = ls at hl ⊢
  have hl : lv_has ls 5 [(0, .ref (α (0))), (1, .int (nI (k))), (2, .int (nI (z))), (3, .ref (α (9)))] := hl
  refine lv_aload_n hx hb dL_excess_0 rfl (lv_at hl 3 rfl) ?_
  refine lv_iconst (v := (0)) hx hb dL_excess_1 (by decide) ?_
  refine lv_aload_n hx hb dL_excess_2 rfl (lv_at hl 0 rfl) ?_
  refine lv_iload_n hx hb dL_excess_3 rfl (lv_at hl 1 rfl) ?_
  refine lv_iload_n hx hb dL_excess_4 rfl (lv_at hl 2 rfl) ?_
  refine mcallVi hw k0 rfl rfl ⟨hx, hb, hml, hown, hts⟩ (c_X3_excess hC hwf k z hk hz) (cwV 2 hts gL_excess_X3_excess rfl rfl rfl (by decide +kernel) ⟨Nat.le_of_ble_eq_true rfl, Nat.le_of_ble_eq_true rfl⟩) rfl hl.1 rfl (Nat.le_of_ble_eq_true rfl) dL_excess_5 ⟨Nat.le_of_ble_eq_true rfl, Nat.le_of_ble_eq_true rfl⟩ ?_
  obtain ⟨V1, eV⟩ : ∃ z9 : mV, z9 = V := ⟨_, rfl⟩
  obtain ⟨α1, eα⟩ : ∃ z9 : Nat → Nat, z9 = α := ⟨_, rfl⟩
  have hC1 : mC G V1 α1 f nr nw ns := by rw [eV, eα]; exact hC
  have hw : mW G V1 α1 s s.heap := by rw [eV, eα]; exact hw
  have hO : ∀ j, j < 100 → (9 ≤ j → V1 j = V j) ∧ α1 j = α j := fun j hj => by rw [eV, eα]; exact ⟨fun _ => rfl, rfl⟩
  have h91 := ((hO 9 (by omega)).1 (by omega)).trans h9
  have e9 : α 9 = α1 9 := (hO 9 (by omega)).2.symm
  refine W.eq (g2 := F0 m 8 ls [.int (s_mx (s_wb f k (nI (z) * 4 * 672) ((nI (z) * 4 + 4) * 672) ns - 608) 0), .int (0), .ref (α1 9)]) (by rw [e9]) ?_
  refine lv_i2l (v := (s_mx (s_wb f k (nI (z) * 4 * 672) ((nI (z) * 4 + 4) * 672) ns - 608) 0).toInt64) hx hb dL_excess_8 rfl ?_
  refine mlast hx hb hw hS h91 vin01 dL_excess_9 (fun H locs hw hS => ?_)
  obtain ⟨V2, hV2⟩ : ∃ z9 : mV, z9 = vup V1 9 (.inl (G.2.2.2.2.1, 1, .inr (.inl (vp_updL g0 (0 : Int32).toNatClampNeg ((s_mx (s_wb f k (nI (z) * 4 * 672) ((nI (z) * 4 + 4) * 672) ns - 608) 0).toInt64))))) := ⟨_, rfl⟩
  have hw : mW G V2 α1 s H := by rw [hV2]; exact hw
  have p1 : ∀ j, j ≠ 9 → V2 j = V1 j := fun j hj => by rw [hV2]; exact vup_n _ _ hj
  have p2 : ∃ g : Nat → Int64, V2 9 = some (.inl (G.2.2.2.2.1, 1, .inr (.inl g))) ∧ g 0 = ((s_mx (s_wb f k (nI (z) * 4 * 672) ((nI (z) * 4 + 4) * 672) ns - 608) 0).toInt64) := ⟨_, by rw [hV2]; exact vup_s _ _ _, (show vp_updL g0 (0 : Int32).toNatClampNeg ((s_mx (s_wb f k (nI (z) * 4 * 672) ((nI (z) * 4 + 4) * 672) ns - 608) 0).toInt64) 0 = ((s_mx (s_wb f k (nI (z) * 4 * 672) ((nI (z) * 4 + 4) * 672) ns - 608) 0).toInt64) from if_pos (by decide))⟩
  obtain ⟨g1, g2, g3⟩ := p2
  refine lv_goto (tgt := 21) hx hb dL_excess_10 (by decide) ?_
  refine lv_iconst (v := (0)) hx hb dL_excess_21 (by decide) ?_
  exact W.iret (v := 0) hx hb hr (fun t ht hW => ⟨⟨_, (V2, α1), rfl, ⟨rfl, hC1.out p1, fun j hj => ⟨fun h => (p1 j (by omega)).trans ((hO j hj).1 (by omega)), (hO j hj).2⟩, ⟨g1, g2, g3.trans rfl⟩⟩, by show mH G V2 α1 t.heap; rw [ht]; exact hw.2.2⟩, hS.F ht⟩) hS.2.2 dL_excess_22

set_option maxHeartbeats 4000000 in
set_option maxRecDepth 100000 in
theorem x_X3_excess_1 {l : Launch} {G : mG} {V : mV} {α : Nat → Nat} {f : sT} {nr nw ns : Nat} (hl0 : l.stackTraces = false) (hC : mC G V α f nr nw ns) (hwf : mwf f nr nw ns) (y x : Int32) (hbad : ¬ inn y 0 (nI nw - 1)) : Met l yL_excess wsL_excess ({ frames := 8, cells := 1, slots := 6, locals := 127 }) (va_Pc [.ref (α (0)), .int (y), .int (x), .ref (α (9))] (fun U => mW G V α U U.heap)) (va_Qi (fun (r9 : Int32) (u : mV × (Nat → Nat)) => 1 = r9 ∧ u = (V, α)) (fun u t => mH G u.1 u.2 t.heap) (mfree G)) 1 6 (mfree G) := by
  refine mofWH (cc := cL_excess) (maxL := 5) (ret := (some .int)) (hh := [(0, 10, 13, 25), (0, 10, 17, 13)]) (by decide) rfl ?_
  intro p e s m args below meth c s₁ B hml hv
  obtain ⟨rfl, hw⟩ := hv
  have hx := B.exec
  have hb := B.bytes
  have hr := B.returns
  have hts := atoms_spec (ws := wsL_excess) B.pre
  have hown : s.vm.findClass RL = some m.cls := findClass_of_methodNamed B.named
  have hlocks := B.notSynchronized
  have hS : va_S (mfree G) s.heap s.heap [] := va_S.rf
  obtain ⟨k0, -⟩ := id hC
  have htb : c.exceptionTable.toList = tableOf [(0, 10, 13, 25), (0, 10, 17, 13)] := vx_table (x := yL_excess) B (hts _ List.mem_cons_self)
  have lk25 := hts (.classLink RL 25 "java/lang/IndexOutOfBoundsException") (by decide +kernel)
  have hl := lv_entry ([.ref (α (0)), .int (y), .int (x), .ref (α (9))]) (n := 5) (Nat.le_of_ble_eq_true rfl)
  rw [lg_entry_eq]
  generalize (lg_sl ([.ref (α (0)), .int (y), .int (x), .ref (α (9))]) ++ List.replicate (5 - (lg_sl ([.ref (α (0)), .int (y), .int (x), .ref (α (9))])).length) Slot.unset).toArray = ls at hl ⊢
  have hl : lv_has ls 5 [(0, .ref (α (0))), (1, .int (y)), (2, .int (x)), (3, .ref (α (9)))] := hl
  refine lv_aload_n hx hb dL_excess_0 rfl (lv_at hl 3 rfl) ?_
  refine lv_iconst (v := (0)) hx hb dL_excess_1 (by decide) ?_
  refine lv_aload_n hx hb dL_excess_2 rfl (lv_at hl 0 rfl) ?_
  refine lv_iload_n hx hb dL_excess_3 rfl (lv_at hl 1 rfl) ?_
  refine lv_iload_n hx hb dL_excess_4 rfl (lv_at hl 2 rfl) ?_
  refine mcallTV hw k0 rfl rfl ⟨hx, hb, hml, hown, hts⟩ hS (t_X3_excess_1 hl0 hC hwf y x hbad) (cwV 2 hts gL_excess_X3_excess rfl rfl rfl (by decide +kernel) ⟨Nat.le_of_ble_eq_true rfl, Nat.le_of_ble_eq_true rfl⟩) rfl hl.1 rfl (Nat.le_of_ble_eq_true rfl) dL_excess_5 ⟨Nat.le_of_ble_eq_true rfl, Nat.le_of_ble_eq_true rfl⟩ (fun q9 ce H locs hw hS hce hcv hcl => ?_)
  refine vx_catch (name := "java/lang/IndexOutOfBoundsException") (E := "java/lang/IndexOutOfBoundsException") hown [] ⟨0, 10, 13, 25⟩ [⟨0, 10, 17, 13⟩] htb (fun z hz => absurd hz List.not_mem_nil) (by decide) (by decide) lk25 (va_Nw.use rfl (hw.1.2.2.1 ("java/lang/IndexOutOfBoundsException", "java/lang/IndexOutOfBoundsException") (by decide))) hce hcv hcl ?_
  refine W.eq (g2 := F0 m 13 ls [.ref (q9)]) rfl ?_
  refine lv_astore (lv' := [(4, .ref (q9)), (0, .ref (α (0))), (1, .int (y)), (2, .int (x)), (3, .ref (α (9)))]) hx hb dL_excess_13 hl (by decide) rfl (fun ls hl => ?_)
  refine lv_iconst (v := (1)) hx hb dL_excess_15 (by decide) ?_
  exact W.iret (v := 1) hx hb hr (fun t ht hW => ⟨⟨_, (V, α), rfl, ⟨rfl, rfl⟩, by show mH G V α t.heap; rw [ht]; exact hw.2.2⟩, hS.F ht⟩) hS.2.2 dL_excess_16

set_option maxHeartbeats 4000000 in
set_option maxRecDepth 100000 in
theorem x_X3_excess_2 {l : Launch} {G : mG} {V : mV} {α : Nat → Nat} {f : sT} {nr nw ns : Nat} (hl0 : l.stackTraces = false) (hC : mC G V α f nr nw ns) (hwf : mwf f nr nw ns) (k : Nat) (hk : k < nw) (x : Int32) (hbad : ¬ inn x 0 12) : Met l yL_excess wsL_excess ({ frames := 8, cells := 1, slots := 6, locals := 128 }) (va_Pc [.ref (α (0)), .int (nI (k)), .int (x), .ref (α (9))] (fun U => mW G V α U U.heap)) (va_Qi (fun (r9 : Int32) (u : mV × (Nat → Nat)) => 2 = r9 ∧ u = (V, α)) (fun u t => mH G u.1 u.2 t.heap) (mfree G)) 1 6 (mfree G) := by
  refine mofWH (cc := cL_excess) (maxL := 5) (ret := (some .int)) (hh := [(0, 10, 13, 25), (0, 10, 17, 13)]) (by decide) rfl ?_
  intro p e s m args below meth c s₁ B hml hv
  obtain ⟨rfl, hw⟩ := hv
  have hx := B.exec
  have hb := B.bytes
  have hr := B.returns
  have hts := atoms_spec (ws := wsL_excess) B.pre
  have hown : s.vm.findClass RL = some m.cls := findClass_of_methodNamed B.named
  have hlocks := B.notSynchronized
  have hS : va_S (mfree G) s.heap s.heap [] := va_S.rf
  obtain ⟨k0, -⟩ := id hC
  have htb : c.exceptionTable.toList = tableOf [(0, 10, 13, 25), (0, 10, 17, 13)] := vx_table (x := yL_excess) B (hts _ List.mem_cons_self)
  have lk25 := hts (.classLink RL 25 "java/lang/IndexOutOfBoundsException") (by decide +kernel)
  have lk13 := hts (.classLink RL 13 "java/lang/IllegalArgumentException") (by decide +kernel)
  have hl := lv_entry ([.ref (α (0)), .int (nI (k)), .int (x), .ref (α (9))]) (n := 5) (Nat.le_of_ble_eq_true rfl)
  rw [lg_entry_eq]
  generalize (lg_sl ([.ref (α (0)), .int (nI (k)), .int (x), .ref (α (9))]) ++ List.replicate (5 - (lg_sl ([.ref (α (0)), .int (nI (k)), .int (x), .ref (α (9))])).length) Slot.unset).toArray = ls at hl ⊢
  have hl : lv_has ls 5 [(0, .ref (α (0))), (1, .int (nI (k))), (2, .int (x)), (3, .ref (α (9)))] := hl
  refine lv_aload_n hx hb dL_excess_0 rfl (lv_at hl 3 rfl) ?_
  refine lv_iconst (v := (0)) hx hb dL_excess_1 (by decide) ?_
  refine lv_aload_n hx hb dL_excess_2 rfl (lv_at hl 0 rfl) ?_
  refine lv_iload_n hx hb dL_excess_3 rfl (lv_at hl 1 rfl) ?_
  refine lv_iload_n hx hb dL_excess_4 rfl (lv_at hl 2 rfl) ?_
  refine mcallTV hw k0 rfl rfl ⟨hx, hb, hml, hown, hts⟩ hS (t_X3_excess_2 hl0 hC hwf k hk x hbad) (cwV 2 hts gL_excess_X3_excess rfl rfl rfl (by decide +kernel) ⟨Nat.le_of_ble_eq_true rfl, Nat.le_of_ble_eq_true rfl⟩) rfl hl.1 rfl (Nat.le_of_ble_eq_true rfl) dL_excess_5 ⟨Nat.le_of_ble_eq_true rfl, Nat.le_of_ble_eq_true rfl⟩ (fun q9 ce H locs hw hS hce hcv hcl => ?_)
  refine vx_catch (name := "java/lang/IllegalArgumentException") (E := "java/lang/IllegalArgumentException") hown [⟨0, 10, 13, 25⟩] ⟨0, 10, 17, 13⟩ [] htb (fun z hz => by rw [List.mem_singleton.mp hz]; exact Or.inr ⟨by decide, "java/lang/IndexOutOfBoundsException", lk25, hw.1.2.2.2.2.1 ("java/lang/IllegalArgumentException", "java/lang/IndexOutOfBoundsException") (by decide)⟩) (by decide) (by decide) lk13 (va_Nw.use rfl (hw.1.2.2.1 ("java/lang/IllegalArgumentException", "java/lang/IllegalArgumentException") (by decide))) hce hcv hcl ?_
  refine W.eq (g2 := F0 m 17 ls [.ref (q9)]) rfl ?_
  refine lv_astore (lv' := [(4, .ref (q9)), (0, .ref (α (0))), (1, .int (nI (k))), (2, .int (x)), (3, .ref (α (9)))]) hx hb dL_excess_17 hl (by decide) rfl (fun ls hl => ?_)
  refine lv_iconst (v := (2)) hx hb dL_excess_19 (by decide) ?_
  exact W.iret (v := 2) hx hb hr (fun t ht hW => ⟨⟨_, (V, α), rfl, ⟨rfl, rfl⟩, by show mH G V α t.heap; rw [ht]; exact hw.2.2⟩, hS.F ht⟩) hS.2.2 dL_excess_20
