/-! rows that make, copy and hand on: objects, rows of references, lists -/
theorem mH.set2 {G : mG} {V : mV} {α : Nat → Nat} {H H1 : Heap} {i : Nat} {e0 e : va_E} (h : mH G V α H) (hv : V i = some e0) (z : H.size ≤ H1.size) (oq : ∀ q : Nat, q < H.size → q ≠ α i → H1[q]? = H[q]?) (he : va_at G.2.1 vwCl (α i, e) H1) : mH G (vup V i e) α H1 := by
  have key : ∀ (j : Nat) (f : va_E), vup V i e j = some f → ∃ g, V j = some g := by
    intro j f hj
    by_cases hji : j = i
    · subst hji
      exact ⟨e0, hv⟩
    · rw [vup_n V e hji] at hj
      exact ⟨f, hj⟩
  refine ⟨fun j f hj => ?_, fun j k f g hj hk hjk => ?_, Nat.le_trans h.2.2 z⟩
  · by_cases hji : j = i
    · subst hji
      rw [vup_s] at hj
      cases hj
      exact ⟨he, (h.1 j e0 hv).2⟩
    · rw [vup_n V e hji] at hj
      refine ⟨((h.1 j f hj).1).kept (oq _ ((h.1 j f hj).1).lt (fun hq => hji (h.2.1 j i f e0 hj hv hq))), (h.1 j f hj).2⟩
  · obtain ⟨f', hf'⟩ := key j f hj
    obtain ⟨g', hg'⟩ := key k g hk
    exact h.2.1 j k f' g' hf' hg' hjk
section MJ
variable {p : Program} {l : Launch} {e : Env} {R : Room} {s : State} {m : MethodId} {args : Array Value} {below : List Frame} {meth : Method} {c : Code} {H : Heap} {locs : List Loc} {cells slots : Nat} {Q : State → Prop}
variable {cc : ByteArray} {pc : Nat} {ls : Array Slot} {rest : List Value} {G : mG} {V : mV} {α : Nat → Nat}
theorem mgetR (hexec : p.tables.exec = Jvm.exec) (hb : c.code = cc) {own ref C : String} {T : u_T} {N ci index : Nat} {Ts : List Cond} (hts : ∀ w ∈ Ts, w.before args s = true) (hin : ∀ w ∈ u_ws C T N, w ∈ Ts) (hown : s.vm.findClass own = some m.cls) (hw : mW G V α s H) {i : Nat} {fs : List Value} (hv : V i = some (.inr (ci, fs))) (hc : vwCl[ci]? = some (C, T, N)) (k : Nat) (hk : k < N) (hlink : (Cond.fieldLink own index ref (T k).2.1 (T k).2.2.1).before args s = true) (hsame : ∀ x, s.fieldFound? (T k).1 (T k).2.1 (T k).2.2.1 = some x → s.fieldFound? ref (T k).2.1 (T k).2.2.1 = some x) {v : Value} (hf : fs[k]? = some v) (hdg : decode cc pc = .ok (.getfield index, 3))
    (kk : W p l e R s m args below meth c H locs cells slots Q (F0 m (pc + 3) ls (v :: rest))) : W p l e R s m args below meth c H locs cells slots Q (F0 m pc ls (.ref (α i) :: rest)) :=
  va_get (ws := [(α i, .inr (ci, fs))]) hexec hb hts hin hown hw.1.1 (hw.2.2.P hv) 0 rfl hc k hk hlink hsame hf hdg kk
theorem mputR (hexec : p.tables.exec = Jvm.exec) (hb : c.code = cc) {own ref C : String} {T : u_T} {N ci index : Nat} {Ts : List Cond} (hts : ∀ w ∈ Ts, w.before args s = true) (hin : ∀ w ∈ u_ws C T N, w ∈ Ts) (ty0 : Nat → FieldType) (hty : ∀ k, k < N → parseFieldDescriptor (T k).2.2.1 = some (ty0 k)) (hnm : ∀ a, a < N → ∀ b, b < N → a ≠ b → (T a).2.1 ≠ (T b).2.1) (hown : s.vm.findClass own = some m.cls) (hw : mW G V α s H) (hS0 : va_S (mfree G) s.heap H locs) {i : Nat} {fs : List Value} (hv : V i = some (.inr (ci, fs))) (hc : vwCl[ci]? = some (C, T, N)) (k : Nat) (hk : k < N) (hlink : (Cond.fieldLink own index ref (T k).2.1 (T k).2.2.1).before args s = true) (hsame : ∀ x, s.fieldFound? (T k).1 (T k).2.1 (T k).2.2.1 = some x → s.fieldFound? ref (T k).2.1 (T k).2.2.1 = some x) (hfin : (T k).2.2.2 = false) {v : Value} (hn : narrow (ty0 k) v = v) (hfit : fits (ty0 k) v = true) (hl : k < fs.length)
    (hdg : decode cc pc = .ok (.putfield index, 3)) (kk : ∀ (H1 : Heap) (locs1 : List Loc), mW G (vup V i (.inr (ci, fs.set k v))) α s H1 → va_S (mfree G) s.heap H1 locs1 → W p l e R s m args below meth c H1 locs1 cells slots Q (F0 m (pc + 3) ls rest)) : W p l e R s m args below meth c H locs cells slots Q (F0 m pc ls (v :: .ref (α i) :: rest)) := by
  have hK := hw.1.1
  have hap := va_apart (own := own) hts hin ty0 hty hnm hK hc
  obtain ⟨r, h1, cell, q1, q2, q3, q4⟩ := (hw.2.2.1 i _ hv).1
  have hr : r = (C, T, N) := Option.some.inj (h1.symm.trans hc)
  subst hr
  obtain ⟨hS, hfc, kC, hkC, hkind⟩ := hK.1 ci _ hc
  obtain ⟨cf, kf, fi, f, hi, hsl⟩ := hS k hk
  have hlay := hts _ (hin _ (u_in_lay hk))
  unfold u_lay at hlay
  rw [if_neg (by rw [hfin]; decide)] at hlay
  have hst := (u_facts hfc hkC (u_lays hts hin hk) hi).1
  have h6 := u_store hfc hkC hkind hlay hi (hty k hk) hn hfit
  refine W.putK hexec hb (f := f) ⟨hown, hlink, ⟨_, _, _, hsame _ hi⟩, hst⟩ (by rw [q2]; exact h6) q1 q3 (by rw [hsl]; exact k2_hasslot (q4 k hk)) rfl rfl hdg fun H' e1 e2 e3 => ?_
  rw [hsl] at e1 ⊢
  exact kk H' _ (hw.at (fun a _ ha => e3 a (hw.2.2.out hv ha)) (hw.2.2.set hv e2 e3 ⟨_, hc, t_OB.to (V := updV (vp_V fs) k v) ⟨_, e1, q2, q3, t_set q4 hap hk v⟩ (fun j _ => vp_updV_set hl v j)⟩)) (hS0.put e2 e3 (hw.2.2.1 i _ hv).2)
theorem manewa (hexec : p.tables.exec = Jvm.exec) (hb : c.code = cc) {own : String} {index : Nat} (hown : s.vm.findClass own = some m.cls) (hclink : (Cond.classLink own index "java/lang/Object").before args s = true) (hw : mW G V α s H) (hS : va_S (mfree G) s.heap H locs)
    {n : Int32} {N : Nat} (hn : n = nI N) (hN : N ≤ 1000) (i : Nat) (hi : V i = none) (hcells : cells + 1 ≤ R.cells) (hslots : slots + N ≤ R.slots) (hdg : decode cc pc = .ok (.anewarray index, 3))
    (kk : ∀ (α1 : Nat → Nat) (H1 : Heap), (∀ j, j ≠ i → α1 j = α j) → mW G (vup V i (.inl (G.2.2.2.1, N, .inr (.inr (.inr (.inr (fun _ => none))))))) α1 s H1 → va_S (mfree G) s.heap H1 locs →
      W p l e R s m args below meth c H1 locs (cells + 1) (slots + N) Q (F0 m (pc + 3) ls (.ref (α1 i) :: rest))) : W p l e R s m args below meth c H locs cells slots Q (F0 m pc ls (.int n :: rest)) := by
  subst hn
  have hNc : (nI N).toNatClampNeg = N := nI_clamp (by omega)
  refine W.anew hexec hb hown hclink (va_AO.use hw.1.2.2.2.2.2.2) rfl hdg rfl (nI_pos (by omega)) (by rw [hNc]; omega) hcells (by rw [hNc]; exact hslots) fun cA kA comp f1 f2 f3 f4 => ?_
  rw [hNc]
  generalize hH1 : H.push ({ cls := cA, slots := Array.replicate N .null, vm := .none } : Cell) = H1
  have z1 : H1.size = H.size + 1 := by rw [← hH1, Array.size_push]
  have e1 : H1[H.size]? = some (arrV cA N (fun _ => .null)) := by rw [← hH1, Array.getElem?_push_size, ← arrV_new]
  have o1 : ∀ q : Nat, q < H.size → H1[q]? = H[q]? := fun q hq => by rw [← hH1, Array.getElem?_push, if_neg (Nat.ne_of_lt hq)]
  have hcc : cA = G.2.2.2.1 := by
    obtain ⟨_, _, _, _, _, h2⟩ := (hw.1.1.2 2 _ rfl).2
    exact Option.some.inj (f1.symm.trans h2)
  subst hcc
  have hk := kk (va_up α i H.size) H1 (fun j hj => va_up_ne _ _ hj) (hw.at (fun a h _ => o1 a h) (hw.2.2.new hi (by omega) o1 (show H1[H.size]? = some (vp_cell _ _) by rw [vp_cell_q]; exact e1))) ⟨Nat.le_trans hS.1 (by omega), fun x h1 h2 => (o1 x (Nat.lt_of_lt_of_le h1 hS.1)).trans (hS.2.1 x h1 h2), hS.2.2⟩
  rw [va_up_self] at hk
  exact hk
theorem maast (hexec : p.tables.exec = Jvm.exec) (hb : c.code = cc) (hw : mW G V α s H) (hS0 : va_S (mfree G) s.heap H locs) {i iv ci : Nat} {n : Nat} {r : vw_C} {vs : List Value} {f : Nat → Option Nat} (hv : V i = some (.inl (G.2.2.2.1, n, .inr (.inr (.inr (.inr f)))))) (hx : V iv = some (.inr (ci, vs))) (hc : vwCl[ci]? = some r) (hca : (r.1, "java/lang/Object") ∈ MCA) {j : Int32} {k : Nat} (hj : j = nI k) (hk : k < n) (hn : n < 2 ^ 31) (hdg : decode cc pc = .ok (.aastore, 1))
    (kk : ∀ (H1 : Heap) (locs1 : List Loc), mW G (vup V i (.inl (G.2.2.2.1, n, .inr (.inr (.inr (.inr (va_up f k (some (α iv)))))))) ) α s H1 → va_S (mfree G) s.heap H1 locs1 → W p l e R s m args below meth c H1 locs1 cells slots Q (F0 m (pc + 1) ls rest)) : W p l e R s m args below meth c H locs cells slots Q (F0 m pc ls (.ref (α iv) :: .int j :: .ref (α i) :: rest)) := by
  subst hj
  have hin : vp_in (nI k) n := vp_in_nI hk hn
  have hkc : (nI k).toNatClampNeg = k := nI_clamp (by omega)
  have hlt : (nI k).toNatClampNeg < n := Nat.not_le.mp fun q => hin (Or.inr q)
  have h0 : ¬ nI k < 0 := fun q => hin (Or.inl q)
  obtain ⟨r', hr', cellV, g1, g2, g3, -⟩ := (hw.2.2.1 iv _ hx).1
  have hcls := (hw.1.1.1 ci r hc).2
  obtain ⟨kA, comp, k1, k2, k3, -⟩ := (hw.1.1.2 2 _ rfl).2
  obtain ⟨kE, hkE, -⟩ := Vm.findClass_spec k3
  obtain ⟨c0, t1, f1, f2, f3⟩ := Cond.castable_spec (va_Nw.use (A := args) rfl (hw.1.2.2.1 _ hca))
  cases hcls.1.symm.trans f1
  cases k3.symm.trans f2
  obtain ⟨kC, hkC, -⟩ := hcls.2
  refine W.aast hexec hb (hw.2.2.1 i _ hv).1 (fun q h => by cases h) (fun h => by cases h) k1 k2 rfl hkE ⟨h0, by show _ < (arrV _ _ _).slots.size; rw [arrV_size]; exact hlt⟩ g1 (fun q h => by rw [g3] at h; cases h) (by rw [g2]; exact hkC) (by rw [g2]; exact f3) rfl rfl hdg fun H1 e z oq => ?_
  refine kk H1 _ (hw.at (fun a _ ha => oq a (hw.2.2.out hv ha)) (hw.2.2.set hv z oq ?_)) (hS0.put z oq (hw.2.2.1 i _ hv).2)
  show H1[α i]? = some (vp_cell _ _)
  rw [e]
  rw [vp_cell_q, vp_cell_q, arrV_store]
  congr 2
  funext q
  rw [hkc]
  by_cases hq : q = k
  · subst hq
    simp [updV, va_up, va_rf]
  · simp [updV, va_up, hq]
theorem macmp_eq (hexec : p.tables.exec = Jvm.exec) (hb : c.code = cc) {x y : Nat} {off : Int} {tgt : Nat} (hdg : decode cc pc = .ok (.if_acmp .eq off, 3)) (ht : (pc : Int) + off = (tgt : Int))
    (kt : x = y → W p l e R s m args below meth c H locs cells slots Q (F0 m tgt ls rest)) (kf : ¬ x = y → W p l e R s m args below meth c H locs cells slots Q (F0 m (pc + 3) ls rest)) : W p l e R s m args below meth c H locs cells slots Q (F0 m pc ls (.ref y :: .ref x :: rest)) :=
  lv_acmp_eq (rx := some x) (ry := some y) hexec hb hdg ht (fun h => kt (Option.some.inj h)) (fun h => kf (fun z => h (by rw [z])))
theorem mcopy {cc : ByteArray} (hexec : p.tables.exec = Jvm.exec) (hb : c.code = cc) (hml : c.maxLocals = ls.size) {own : String} {index : Nat} (hown : s.vm.findClass own = some m.cls) (hlink : (Cond.methodLink own index arraycopyName).before args s = true) (hnat : (Cond.native arraycopyName).before args s = true) (hstat : (Cond.static arraycopyName).before args s = true) (hini : (Cond.initialized "java/lang/System").before args s = true)
    (hw : mW G V α s H) (hS : va_S (mfree G) s.heap H []) {i0 i1 n0 n1 : Nat} {f g : Nat → Option Nat} (h01 : i0 ≠ i1) (hv0 : V i0 = some (.inl (G.2.2.2.1, n0, .inr (.inr (.inr (.inr f)))))) (hv1 : V i1 = some (.inl (G.2.2.2.1, n1, .inr (.inr (.inr (.inr g))))))
    {n : Nat} (hn : n < 2 ^ 31) (h4 : n ≤ n0) (h5 : n ≤ n1) (hel : ∀ i : Nat, i < n → ∀ y : Nat, f i = some y → va_Any "java/lang/Object" s H y)
    (hframes : 1 ≤ R.frames) (hlocals : (rest.map fun v => v.category).sum + (nativeFrameWords "java/lang/System" "arraycopy" 5 + 11) ≤ R.locals) (hdg : decode cc pc = .ok (.invokestatic index, 3))
    (kk : ∀ (H1 : Heap) (locs1 : List Loc), mW G (vup V i1 (.inl (G.2.2.2.1, n1, .inr (.inr (.inr (.inr (va_cpy f g 0 0 n))))))) α s H1 → va_S (mfree G) s.heap H1 locs1 → W p l e R s m args below meth c H1 locs1 cells slots Q (F0 m (pc + 3) ls rest)) : W p l e R s m args below meth c H [] cells slots Q (F0 m pc ls (.int (nI n) :: .int 0 :: .ref (α i1) :: .int 0 :: .ref (α i0) :: rest)) := by
  have hP : va_P G.2.1 vwCl [(α i0, .inl (G.2.2.2.1, n0, .inr (.inr (.inr (.inr f))))), (α i1, .inl (G.2.2.2.1, n1, .inr (.inr (.inr (.inr g)))))] H := by
    intro k q hk
    rcases k with _ | _ | k
    · cases hk; exact (hw.2.2.1 _ _ hv0).1
    · cases hk; exact (hw.2.2.1 _ _ hv1).1
    · simp at hk
  have hne : α i0 ≠ α i1 := fun z => h01 (hw.2.2.2.1 _ _ _ _ hv0 hv1 z)
  have hD : va_D (fun q => q = α i0 ∨ q = α i1) [(α i0, .inl (G.2.2.2.1, n0, .inr (.inr (.inr (.inr f))))), (α i1, (.inl (G.2.2.2.1, n1, .inr (.inr (.inr (.inr g)))) : va_E))] := by
    refine ⟨fun i j x y hi hj hxy => ?_, fun k q hk => ?_⟩
    · rcases i with _ | _ | i <;> rcases j with _ | _ | j <;> first | rfl | (simp at hi hj; done) | (cases hi; cases hj; exact absurd hxy hne) | (cases hi; cases hj; exact absurd hxy.symm hne) | simp at hi | simp at hj
    · rcases k with _ | _ | k
      · cases hk; exact Or.inl rfl
      · cases hk; exact Or.inr rfl
      · simp at hk
  have hS0 : va_S (fun q => q = α i0 ∨ q = α i1) H H [] := va_S.rf
  refine va_copyM hexec hb hml hown hlink hnat hstat hini hw.1.1 hP hD hS0 0 1 2 2 rfl rfl rfl rfl (sp := 0) (dp := 0) (n := nI n) (by decide) (by decide) (nI_pos hn) (by rw [nI_clamp hn]; show 0 + n ≤ n0; omega) (by rw [nI_clamp hn]; show 0 + n ≤ n1; omega) (fun i hi y hy => hel i (by rw [nI_clamp hn] at hi; exact hi) y (by rw [show (0 : Int32).toNatClampNeg = 0 from rfl, Nat.zero_add] at hy; exact hy)) hframes hlocals hdg (fun H1 locs1 hP1 hD1 hS1 => ?_)
  rw [nI_clamp hn] at hP1
  have h0 : H1[α i0]? = H[α i0]? := by
    have a0 := hP1 0 _ rfl
    have b0 := (hw.2.2.1 _ _ hv0).1
    exact Eq.trans a0 b0.symm
  have hoth : ∀ q : Nat, q < H.size → q ≠ α i1 → H1[q]? = H[q]? := by
    intro q hq hq1
    by_cases hq0 : q = α i0
    · rw [hq0]; exact h0
    · exact hS1.2.1 q hq (fun z => z.elim hq0 hq1)
  refine kk H1 locs1 (hw.at (fun a ha hf => hoth a ha (hw.2.2.out hv1 hf)) (hw.2.2.set2 hv1 hS1.1 hoth (hP1 1 _ rfl))) ⟨Nat.le_trans hS.1 hS1.1, fun q h1 h2 => (hoth q (Nat.lt_of_lt_of_le h1 hS.1) (hw.2.2.out hv1 h2)).trans (hS.2.1 q h1 h2), fun q hq => ?_⟩
  rcases hS1.2.2 q hq with h | h
  · rw [h]; exact (hw.2.2.1 _ _ hv0).2
  · rw [h]; exact (hw.2.2.1 _ _ hv1).2
theorem mcallVwq {y : MethodName} {bytes : ByteArray} {maxL nL n index ci i mc ms : Nat} {ret : Option FieldType} {ws Ts : List Cond} {rm : Room} {own C : String} {As st0 : List Value} {post : Option Nat → mV × (Nat → Nat) → Prop} {fs : List Value} {q : vw_C} (hw : mW G V α s H) (hv : V i = some (.inr (ci, fs))) (hc : vwCl[ci]? = some q) (hC : q.1 = C) (S : CallFix p m c cc nL s args Ts own) (hS : va_S (mfree G) s.heap H locs) (hM : Met l y ws rm (va_Pc (.ref (α i) :: As) (fun U => mW G V α U U.heap)) (va_Qq post (fun u t => mH G u.1 u.2 t.heap) (mfree G)) mc ms (mfree G)) (cw : CallW R s args own C index y bytes maxL ret ws rm mc ms n)
    (hn : As.length = n) (hsize : ls.size = nL) (hstack : st0 = As.reverse ++ .ref (α i) :: rest) (hW : (rest.map fun v => v.category).sum ≤ 8) (hdg : decode cc pc = .ok (.invokevirtual index, 3)) (hf : cells + mc ≤ R.cells ∧ slots + ms ≤ R.slots)
    (kk : ∀ (r : Option Nat) (V1 : mV) (α1 : Nat → Nat) (H1 : Heap) (locs1 : List Loc), post r (V1, α1) → mW G V1 α1 s H1 → va_S (mfree G) s.heap H1 locs1 → W p l e R s m args below meth c H1 locs1 (cells + mc) (slots + ms) Q (F0 m (pc + 3) ls (va_rf r :: rest))) : W p l e R s m args below meth c H locs cells slots Q (F0 m pc ls st0) := by
  subst hstack
  subst hC
  exact va_callq (va_runV (g := F0 m pc ls (As.reverse ++ .ref (α i) :: rest)) S hM cw ⟨mPcB, mrecv hw hv hc, fun U hU hWm => ⟨rfl, by show mW G V α U U.heap; rw [hU]; exact hw.warm hWm⟩⟩ rfl hn hsize rfl (lv_room hW) hdg hf) hS (fun q _ h => h) (fun q h => h)
    (fun r u t H1 locs1 ht hvm hp hB hz hk hS1 => kk r u.1 u.2 H1 locs1 hp (hw.at hk (by rw [← ht]; exact hB)) hS1)
theorem mcallVwv {y : MethodName} {bytes : ByteArray} {maxL nL n index ci i mc ms : Nat} {ret : Option FieldType} {ws Ts : List Cond} {rm : Room} {own C : String} {As st0 : List Value} {post : mV × (Nat → Nat) → Prop} {fs : List Value} {q : vw_C} (hw : mW G V α s H) (hv : V i = some (.inr (ci, fs))) (hc : vwCl[ci]? = some q) (hC : q.1 = C) (S : CallFix p m c cc nL s args Ts own) (hS : va_S (mfree G) s.heap H locs) (hM : Met l y ws rm (va_Pc (.ref (α i) :: As) (fun U => mW G V α U U.heap)) (va_Qv post (fun u t => mH G u.1 u.2 t.heap) (mfree G)) mc ms (mfree G)) (cw : CallW R s args own C index y bytes maxL ret ws rm mc ms n)
    (hn : As.length = n) (hsize : ls.size = nL) (hstack : st0 = As.reverse ++ .ref (α i) :: rest) (hW : (rest.map fun v => v.category).sum ≤ 8) (hdg : decode cc pc = .ok (.invokevirtual index, 3)) (hf : cells + mc ≤ R.cells ∧ slots + ms ≤ R.slots)
    (kk : ∀ (V1 : mV) (α1 : Nat → Nat) (H1 : Heap) (locs1 : List Loc), post (V1, α1) → mW G V1 α1 s H1 → va_S (mfree G) s.heap H1 locs1 → W p l e R s m args below meth c H1 locs1 (cells + mc) (slots + ms) Q (F0 m (pc + 3) ls rest)) : W p l e R s m args below meth c H locs cells slots Q (F0 m pc ls st0) := by
  subst hstack
  subst hC
  exact va_callv (va_runV (g := F0 m pc ls (As.reverse ++ .ref (α i) :: rest)) S hM cw ⟨mPcB, mrecv hw hv hc, fun U hU hWm => ⟨rfl, by show mW G V α U U.heap; rw [hU]; exact hw.warm hWm⟩⟩ rfl hn hsize rfl (lv_room hW) hdg hf) hS (fun q _ h => h) (fun q h => h)
    (fun u t H1 locs1 ht hvm hp hB hz hk hS1 => kk u.1 u.2 H1 locs1 hp (hw.at hk (by rw [← ht]; exact hB)) hS1)
theorem mcallSwq {y : MethodName} {bytes : ByteArray} {maxL nL n index mc ms : Nat} {ret : Option FieldType} {ws Ts : List Cond} {rm : Room} {own : String} {As st0 : List Value} {post : Option Nat → mV × (Nat → Nat) → Prop} (hw : mW G V α s H) (S : CallFix p m c cc nL s args Ts own) (hS : va_S (mfree G) s.heap H locs) (hM : Met l y ws rm (va_Pc As (fun U => mW G V α U U.heap)) (va_Qq post (fun u t => mH G u.1 u.2 t.heap) (mfree G)) mc ms (mfree G)) (cw : CallB R s args own index y bytes maxL ret ws rm mc ms n ∧ (Cond.static y).before args s = true)
    (hn : As.length = n) (hsize : ls.size = nL) (hstack : st0 = As.reverse ++ rest) (hW : (rest.map fun v => v.category).sum ≤ 8) (hdg : decode cc pc = .ok (.invokestatic index, 3)) (hf : cells + mc ≤ R.cells ∧ slots + ms ≤ R.slots)
    (kk : ∀ (r : Option Nat) (V1 : mV) (α1 : Nat → Nat) (H1 : Heap) (locs1 : List Loc), post r (V1, α1) → mW G V1 α1 s H1 → va_S (mfree G) s.heap H1 locs1 → W p l e R s m args below meth c H1 locs1 (cells + mc) (slots + ms) Q (F0 m (pc + 3) ls (va_rf r :: rest))) : W p l e R s m args below meth c H locs cells slots Q (F0 m pc ls st0) := by
  subst hstack
  exact va_callq (va_runS (g := F0 m pc ls (As.reverse ++ rest)) S hM cw ⟨mPcB, fun U hU hWm => ⟨rfl, by show mW G V α U U.heap; rw [hU]; exact hw.warm hWm⟩⟩ rfl hn hsize rfl (lv_room hW) hdg hf) hS (fun q _ h => h) (fun q h => h)
    (fun r u t H1 locs1 ht hvm hp hB hz hk hS1 => kk r u.1 u.2 H1 locs1 hp (hw.at hk (by rw [← ht]; exact hB)) hS1)
theorem mcallSwv {y : MethodName} {bytes : ByteArray} {maxL nL n index mc ms : Nat} {ret : Option FieldType} {ws Ts : List Cond} {rm : Room} {own : String} {As st0 : List Value} {post : mV × (Nat → Nat) → Prop} (hw : mW G V α s H) (S : CallFix p m c cc nL s args Ts own) (hS : va_S (mfree G) s.heap H locs) (hM : Met l y ws rm (va_Pc As (fun U => mW G V α U U.heap)) (va_Qv post (fun u t => mH G u.1 u.2 t.heap) (mfree G)) mc ms (mfree G)) (cw : CallB R s args own index y bytes maxL ret ws rm mc ms n ∧ (Cond.static y).before args s = true)
    (hn : As.length = n) (hsize : ls.size = nL) (hstack : st0 = As.reverse ++ rest) (hW : (rest.map fun v => v.category).sum ≤ 8) (hdg : decode cc pc = .ok (.invokestatic index, 3)) (hf : cells + mc ≤ R.cells ∧ slots + ms ≤ R.slots)
    (kk : ∀ (V1 : mV) (α1 : Nat → Nat) (H1 : Heap) (locs1 : List Loc), post (V1, α1) → mW G V1 α1 s H1 → va_S (mfree G) s.heap H1 locs1 → W p l e R s m args below meth c H1 locs1 (cells + mc) (slots + ms) Q (F0 m (pc + 3) ls rest)) : W p l e R s m args below meth c H locs cells slots Q (F0 m pc ls st0) := by
  subst hstack
  exact va_callv (va_runS (g := F0 m pc ls (As.reverse ++ rest)) S hM cw ⟨mPcB, fun U hU hWm => ⟨rfl, by show mW G V α U U.heap; rw [hU]; exact hw.warm hWm⟩⟩ rfl hn hsize rfl (lv_room hW) hdg hf) hS (fun q _ h => h) (fun q h => h)
    (fun u t H1 locs1 ht hvm hp hB hz hk hS1 => kk u.1 u.2 H1 locs1 hp (hw.at hk (by rw [← ht]; exact hB)) hS1)
theorem mcallIwv {y : MethodName} {bytes : ByteArray} {maxL nL n index i mc ms : Nat} {ws Ts : List Cond} {rm : Room} {own : String} {As st0 : List Value} {post : mV × (Nat → Nat) → Prop} (hw : mW G V α s H) (S : CallFix p m c cc nL s args Ts own) (hS : va_S (mfree G) s.heap H locs) (hM : Met l y ws rm (va_Pc (.ref (α i) :: As) (fun U => mW G V α U U.heap)) (va_Qv post (fun u t => mH G u.1 u.2 t.heap) (mfree G)) mc ms (mfree G)) (cw : CallB R s args own index y bytes maxL none ws rm mc ms n ∧ y.name = "<init>" ∧ (Cond.instanceMethod y).before args s = true)
    (hn : As.length = n) (hsize : ls.size = nL) (hstack : st0 = As.reverse ++ .ref (α i) :: rest) (hW : (rest.map fun v => v.category).sum ≤ 8) (hdg : decode cc pc = .ok (.invokespecial index, 3)) (hf : cells + mc ≤ R.cells ∧ slots + ms ≤ R.slots)
    (kk : ∀ (V1 : mV) (α1 : Nat → Nat) (H1 : Heap) (locs1 : List Loc), post (V1, α1) → mW G V1 α1 s H1 → va_S (mfree G) s.heap H1 locs1 → W p l e R s m args below meth c H1 locs1 (cells + mc) (slots + ms) Q (F0 m (pc + 3) ls rest)) : W p l e R s m args below meth c H locs cells slots Q (F0 m pc ls st0) := by
  subst hstack
  exact va_callv (va_runI (g := F0 m pc ls (As.reverse ++ .ref (α i) :: rest)) S hM cw ⟨mPcB, fun U hU hWm => ⟨rfl, by show mW G V α U U.heap; rw [hU]; exact hw.warm hWm⟩⟩ rfl hn hsize rfl (lv_room hW) hdg hf) hS (fun q _ h => h) (fun q h => h)
    (fun u t H1 locs1 ht hvm hp hB hz hk hS1 => kk u.1 u.2 H1 locs1 hp (hw.at hk (by rw [← ht]; exact hB)) hS1)
end MJ
