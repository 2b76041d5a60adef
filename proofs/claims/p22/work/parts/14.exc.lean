/-! methods that throw: nothing of the world changes, one object comes -/
def mXC (G : mG) (V : mV) (α : Nat → Nat) (EX : String) : String → State → State → Prop := fun E st t => E = EX ∧ va_F (mfree G) st t ∧ mH G V α t.heap
def mNo : Array Value → State → Outcome → State → Prop := fun _ _ _ _ => False
section ME
variable {p : Program} {l : Launch} {e : Env} {R : Room} {s : State} {m : MethodId} {args : Array Value} {below : List Frame} {meth : Method} {c : Code} {H : Heap} {locs : List Loc} {cells slots : Nat} {Q : State → Prop}
variable {cc : ByteArray} {pc : Nat} {ls : Array Slot} {rest : List Value} {G : mG} {V : mV} {α : Nat → Nat} {Qc : Array Value → State → Outcome → State → Prop}
theorem mthrowS (hexec : p.tables.exec = Jvm.exec) (hb : c.code = cc) (hl : l.stackTraces = false) {own cls text : String} {ik is ic : Nat}
    (hown : s.vm.findClass own = some m.cls) (hcls : Bundle.fit cls = true) (hk : (Cond.classLink own ik cls).before args s = true) (hini : (Cond.initialized cls).before args s = true)
    (hat : ∀ w ∈ (vx_atS own ic cls ["java/lang/RuntimeException", "java/lang/Exception"]).filter goodWord, w.before args s = true)
    (hbadw : ∀ w ∈ (vx_atS own ic cls ["java/lang/RuntimeException", "java/lang/Exception"]).filter (fun w => !goodWord w), w ∈ (MCA.map (fun q => Cond.castable q.1 q.2) ++ MDE.map (fun x => Cond.declares x)))
    (hgood : ∀ w ∈ Cond.classLink own ik cls :: Cond.initialized cls :: vx_atS own ic cls ["java/lang/RuntimeException", "java/lang/Exception"], vx_ot w = true)
    (hstr : (own, is, text) ∈ MSTR) (hw : mW G V α s s.heap) (hS : va_S (mfree G) s.heap s.heap locs) (hsize : ls.size = c.maxLocals)
    (d0 : decode cc pc = .ok (.new ik, 3)) (d3 : decode cc (pc + 3) = .ok (.dup, 1)) (d4 : decode cc (pc + 4) = .ok (.ldc is, 2)) (d6 : decode cc (pc + 6) = .ok (.invokespecial ic, 3)) (d9 : decode cc (pc + 9) = .ok (.athrow, 1))
    (hout : ∀ x ∈ c.exceptionTable.toList, False)
    (hRframes : 5 < R.frames) (hRlocals : (rest.map fun v => v.category).sum + 82 ≤ R.locals) (hRcells : 1 ≤ R.cells) (hRslots : 6 ≤ R.slots) (hlocks : meth.locks = false) :
    W p l e R s m args below meth c s.heap locs 0 0 (vx_MQ below Qc (mXC G V α cls) args s 1 6 (mfree G)) (F0 m pc ls rest) := by
  obtain ⟨sa, hsa⟩ := hw.1.2.1 _ hstr
  have hB : ∀ w ∈ (MCA.map (fun q => Cond.castable q.1 q.2) ++ MDE.map (fun x => Cond.declares x)), w.before args s = true := by
    intro w hwm
    rcases List.mem_append.mp hwm with h | h
    · obtain ⟨q, hq, rfl⟩ := List.mem_map.mp h
      exact va_Nw.use rfl (hw.1.2.2.1 q hq)
    · obtain ⟨x, hx, rfl⟩ := List.mem_map.mp h
      exact va_Nw.use rfl (hw.1.2.2.2.1 x hx)
  exact vx_throwS (names := ["java/lang/RuntimeException", "java/lang/Exception"]) (free := mfree G) (A := mfree G) hexec hb hl hown hcls (by decide) hk hini hsa (vx_hat hat hbadw hB) hgood hw.2.1.1 hw.2.1.2.1 hS hsize d0 d3 d4 d6 d9 (fun x hx => (hout x hx).elim) hRframes hRlocals (by omega) (by omega) hlocks
    (fun t _ hz ho => ⟨rfl, ⟨hz, fun q hq _ => ho q hq⟩, hw.2.2.grow hz ho⟩) hS.2.2 (by omega) (by omega)
/-- a call of a method that throws: on with the thrown object -/
theorem mcallTV {y : MethodName} {bytes : ByteArray} {maxL nL n index ci i : Nat} {ret : Option FieldType} {ws Ts : List Cond} {rm : Room} {own C EX : String} {As st0 : List Value} {fs : List Value} {q : vw_C} (hw : mW G V α s H) (hv : V i = some (.inr (ci, fs))) (hc : vwCl[ci]? = some q) (hC : q.1 = C) (S : CallFix p m c cc nL s args Ts own) (hS : va_S (mfree G) s.heap H locs) (hM : vx_Met l y ws rm (va_Pc (.ref (α i) :: As) (fun U => mW G V α U U.heap)) mNo (mXC G V α EX) 1 6 (mfree G)) (cw : CallW R s args own C index y bytes maxL ret ws rm 1 6 n)
    (hn : As.length = n) (hsize : ls.size = nL) (hstack : st0 = As.reverse ++ .ref (α i) :: rest) (hW : (rest.map fun v => v.category).sum ≤ 8) (hdg : decode cc pc = .ok (.invokevirtual index, 3)) (hf : cells + 1 ≤ R.cells ∧ slots + 6 ≤ R.slots)
    (kx : ∀ (q9 : Nat) (ce : Cell) (H1 : Heap) (locs1 : List Loc), mW G V α s H1 → va_S (mfree G) s.heap H1 locs1 → H1[q9]? = some ce → ce.vm = .none → s.vm.findClass EX = some ce.cls → vx_W p l e R s m args below meth c H1 locs1 (cells + 1) (slots + 6) Q (F0 m pc ls rest) q9) : W p l e R s m args below meth c H locs cells slots Q (F0 m pc ls st0) := by
  subst hstack
  subst hC
  intro T hT X
  rcases vx_runV (g := F0 m pc ls (As.reverse ++ .ref (α i) :: rest)) S hM cw ⟨mPcB, mrecv hw hv hc, fun U hU hWm => ⟨rfl, by show mW G V α U U.heap; rw [hU]; exact hw.warm hWm⟩⟩ rfl hn hsize rfl (lv_room hW) hdg hf T hT X with ⟨_, _, _, _, _, _, _, _, _, _, h, _⟩ | ⟨q9, st₀, t, T', L, E, ce, h0, X', hL, e1, e2, ⟨hE, hF, hH⟩, hce, hcv, hcl, st⟩
  · exact h.elim
  · subst hE
    obtain ⟨k1, k2, k3⟩ := vx_keep h0 e1 hS (fun q _ h => h) (fun q h => h) hL hF
    obtain ⟨t2, a1, b1⟩ := kx q9 ce T'.heap (locs ++ L) (hw.at k2 (by rw [e1]; exact hH)) k3 (by rw [e1]; exact hce) hcv hcl T' rfl X'
    exact ⟨t2, st.trans a1, b1⟩
theorem mcallTS {y : MethodName} {bytes : ByteArray} {maxL nL n index : Nat} {ret : Option FieldType} {ws Ts : List Cond} {rm : Room} {own EX : String} {As st0 : List Value} (hw : mW G V α s H) (S : CallFix p m c cc nL s args Ts own) (hS : va_S (mfree G) s.heap H locs) (hM : vx_Met l y ws rm (va_Pc As (fun U => mW G V α U U.heap)) mNo (mXC G V α EX) 1 6 (mfree G)) (cw : CallB R s args own index y bytes maxL ret ws rm 1 6 n ∧ (Cond.static y).before args s = true)
    (hn : As.length = n) (hsize : ls.size = nL) (hstack : st0 = As.reverse ++ rest) (hW : (rest.map fun v => v.category).sum ≤ 8) (hdg : decode cc pc = .ok (.invokestatic index, 3)) (hf : cells + 1 ≤ R.cells ∧ slots + 6 ≤ R.slots)
    (kx : ∀ (q9 : Nat) (ce : Cell) (H1 : Heap) (locs1 : List Loc), mW G V α s H1 → va_S (mfree G) s.heap H1 locs1 → H1[q9]? = some ce → ce.vm = .none → s.vm.findClass EX = some ce.cls → vx_W p l e R s m args below meth c H1 locs1 (cells + 1) (slots + 6) Q (F0 m pc ls rest) q9) : W p l e R s m args below meth c H locs cells slots Q (F0 m pc ls st0) := by
  subst hstack
  intro T hT X
  rcases vx_runS (g := F0 m pc ls (As.reverse ++ rest)) S hM cw ⟨mPcB, fun U hU hWm => ⟨rfl, by show mW G V α U U.heap; rw [hU]; exact hw.warm hWm⟩⟩ rfl hn hsize rfl (lv_room hW) hdg hf T hT X with ⟨_, _, _, _, _, _, _, _, _, _, h, _⟩ | ⟨q9, st₀, t, T', L, E, ce, h0, X', hL, e1, e2, ⟨hE, hF, hH⟩, hce, hcv, hcl, st⟩
  · exact h.elim
  · subst hE
    obtain ⟨k1, k2, k3⟩ := vx_keep h0 e1 hS (fun q _ h => h) (fun q h => h) hL hF
    obtain ⟨t2, a1, b1⟩ := kx q9 ce T'.heap (locs ++ L) (hw.at k2 (by rw [e1]; exact hH)) k3 (by rw [e1]; exact hce) hcv hcl T' rfl X'
    exact ⟨t2, st.trans a1, b1⟩
/-- out of a method without handlers, with what its callee threw -/
theorem mout {EX : String} {q9 : Nat} {ce : Cell} {H1 : Heap} {locs1 : List Loc} (hout : ∀ x ∈ c.exceptionTable.toList, False) (hlocks : meth.locks = false) (hw : mW G V α s H1) (hS : va_S (mfree G) s.heap H1 locs1) (hce : H1[q9]? = some ce) (hcv : ce.vm = .none) (hcl : s.vm.findClass EX = some ce.cls) :
    vx_W p l e R s m args below meth c H1 locs1 (0 + 1) (0 + 6) (vx_MQ below Qc (mXC G V α EX) args s 1 6 (mfree G)) (F0 m pc ls rest) q9 :=
  vx_out (fun x hx => (hout x hx).elim) hlocks hce hcv hcl (fun t ht _ => ⟨rfl, by have := hS.F ht; exact this, by rw [ht]; exact hw.2.2⟩) hS.2.2 (by omega) (by omega)
end ME
