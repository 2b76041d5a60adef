/-! calls of the law's own methods -/
theorem mcallX {p : Program} {l : Launch} {e : Env} {R : Room} {s : State} {m : MethodId} {args : Array Value} {below : List Frame} {meth : Method} {c : Code} {H : Heap} {locs : List Loc} {cells slots : Nat} {Q : State → Prop}
    {cc : ByteArray} {pc : Nat} {ls : Array Slot} {rest : List Value} {G : mG} {V : mV} {α : Nat → Nat} {y : MethodName} {bytes : ByteArray} {maxL nL n index mc ms : Nat} {ret : Option FieldType} {hh : List (Nat × Nat × Nat × Nat)} {ws Ts : List Cond} {rm : Room} {own : String} {As st0 : List Value} {code : Int32} (hw : mW G V α s H) (S : CallFix p m c cc nL s args Ts own) (hS : va_S (mfree G) s.heap H locs) (hM : Met l y ws rm (va_Pc As (fun U => mW G V α U U.heap)) (va_Qi (fun (r9 : Int32) (u : mV × (Nat → Nat)) => code = r9 ∧ u = (V, α)) (fun u t => mH G u.1 u.2 t.heap) (mfree G)) mc ms (mfree G)) (cw : vx_CSW R s args own index y bytes maxL ret hh ws rm mc ms n)
    (hn : As.length = n) (hsize : ls.size = nL) (hstack : st0 = As.reverse ++ rest) (hW : (rest.map fun v => v.category).sum ≤ 8) (hdg : decode cc pc = .ok (.invokestatic index, 3)) (hf : cells + mc ≤ R.cells ∧ slots + ms ≤ R.slots)
    (kk : ∀ (H1 : Heap) (locs1 : List Loc), mW G V α s H1 → va_S (mfree G) s.heap H1 locs1 → W p l e R s m args below meth c H1 locs1 (cells + mc) (slots + ms) Q (F0 m (pc + 3) ls (.int code :: rest))) : W p l e R s m args below meth c H locs cells slots Q (F0 m pc ls st0) :=
  mcallSWi hw S hS hM cw hn hsize hstack hW hdg hf (fun r V1 α1 H1 locs1 hp h1 h2 => by
    obtain ⟨e1, e2⟩ := hp
    have e3 : V1 = V := congrArg Prod.fst e2
    have e4 : α1 = α := congrArg Prod.snd e2
    subst e3
    subst e4
    subst e1
    exact kk H1 locs1 h1 h2)
theorem mcallSi2 {p : Program} {l : Launch} {e : Env} {R : Room} {s : State} {m : MethodId} {args : Array Value} {below : List Frame} {meth : Method} {c : Code} {H : Heap} {locs : List Loc} {cells slots : Nat} {Q : State → Prop}
    {cc : ByteArray} {pc : Nat} {ls : Array Slot} {rest : List Value} {G : mG} {V : mV} {α : Nat → Nat} {y : MethodName} {bytes : ByteArray} {maxL nL n index mc ms : Nat} {ret : Option FieldType} {ws Ts : List Cond} {rm : Room} {own : String} {As st0 : List Value} {code : Int32} {V2 : mV} {α2 : Nat → Nat} (hw : mW G V α s H) (S : CallFix p m c cc nL s args Ts own) (hS : va_S (mfree G) s.heap H locs) (hM : Met l y ws rm (va_Pc As (fun U => mW G V α U U.heap)) (va_Qi (fun (r9 : Int32) (u : mV × (Nat → Nat)) => code = r9 ∧ u = (V2, α2)) (fun u t => mH G u.1 u.2 t.heap) (mfree G)) mc ms (mfree G)) (cw : CallB R s args own index y bytes maxL ret ws rm mc ms n ∧ (Cond.static y).before args s = true)
    (hn : As.length = n) (hsize : ls.size = nL) (hstack : st0 = As.reverse ++ rest) (hW : (rest.map fun v => v.category).sum ≤ 8) (hdg : decode cc pc = .ok (.invokestatic index, 3)) (hf : cells + mc ≤ R.cells ∧ slots + ms ≤ R.slots)
    (kk : ∀ (H1 : Heap) (locs1 : List Loc), mW G V2 α2 s H1 → va_S (mfree G) s.heap H1 locs1 → W p l e R s m args below meth c H1 locs1 (cells + mc) (slots + ms) Q (F0 m (pc + 3) ls (.int code :: rest))) : W p l e R s m args below meth c H locs cells slots Q (F0 m pc ls st0) := by
  subst hstack
  refine va_calli (va_runS (g := F0 m pc ls (As.reverse ++ rest)) S hM cw ⟨mPcB, fun U hU hWm => ⟨rfl, by show mW G V α U U.heap; rw [hU]; exact hw.warm hWm⟩⟩ rfl hn hsize rfl (lv_room hW) hdg hf) hS (fun q _ h => h) (fun q h => h)
    (fun r u t H1 locs1 ht hvm hp hB hz hk hS1 => ?_)
  obtain ⟨V1, α1⟩ := u
  obtain ⟨e1, e2⟩ := hp
  have e3 : V1 = V2 := congrArg Prod.fst e2
  have e4 : α1 = α2 := congrArg Prod.snd e2
  subst e3
  subst e4
  subst e1
  exact kk H1 locs1 (hw.at hk (by rw [← ht]; exact hB)) hS1
theorem inn_self {n : Nat} (hn : n < 2 ^ 31) : ¬ inn (nI n) 0 (nI n - 1) := fun h => by
  obtain ⟨k, h1, h2⟩ := ix_inn hn h
  have := (nI_eq hn (by omega)).mp h2
  omega
theorem inn_most {n : Nat} (hn : n < 1000) : ¬ inn 2147483647 0 (nI n - 1) := fun h => by
  obtain ⟨k, h1, h2⟩ := ix_inn (by omega) h
  have := (nI_eq (a := 2147483647) (b := k) (by omega) (by omega)).mp h2
  omega
theorem inn_neg {x y : Int32} (h : x < 0) : ¬ inn x 0 y := fun z => z.1 h
theorem inn_paid {f : sT} {nr nw ns si : Nat} (h : mwf f nr nw ns) (hs : si < ns) {x : Int32} (hx : (64 : Int32) ≤ x) : ¬ inn x 0 (s_paid f si - 1) := fun z => by
  obtain ⟨n, h1, h2⟩ : ∃ n, n ≤ 64 ∧ s_paid f si = nI n := ⟨pN f si, (h.sh si hs).2.2.2.2.2.2.1, (h.sh si hs).2.2.2.2.2.2.2⟩
  rw [h2] at z
  obtain ⟨k, h3, h4⟩ := ix_inn (by omega) z
  subst h4
  exact Int32.lt_irrefl (Int32.lt_of_lt_of_le ((nI_ltI (a := k) (b := 64) (by omega) (by omega)).mpr (by omega)) hx)
