abbrev MSTR : List (String × Nat × String) := [("RosterPay", 38, "no such rank"), ("RosterPay", 53, "no more rules"), ("RosterPay", 73, "no such day"), ("RosterPay", 75, "no more workers"), ("RosterPay", 94, "no room for the shift"), ("RosterPay", 166, "an argument is out of range"), ("RosterPay", 168, "the shift was cancelled"), ("RosterPay", 172, "no such quarter"), ("RosterPay", 175, "no such rule"), ("RosterPay", 177, "no such worker"), ("RosterPay", 179, "no such shift")]
/-! THE WORLD: what the objects hold, by names (numbers), and the names' addresses -/
/-- the launch's own: (first free address, the empty static row), classes and slots, (int[], boolean[]), (Object[], long[]) -/
abbrev mG : Type := (Nat × Nat) × va_G × (ClassId × ClassId) × (ClassId × (ClassId × Nat))
abbrev mV : Type := Nat → Option va_E
def vup (V : mV) (i : Nat) (e : va_E) : mV := fun j => if j = i then some e else V j
theorem vup_s (V : mV) (i : Nat) (e : va_E) : vup V i e i = some e := by simp [vup]
theorem vup_n (V : mV) {i j : Nat} (e : va_E) (h : j ≠ i) : vup V i e j = V j := by simp [vup, h]
theorem aup_s {α : Type} (f : Nat → α) (i : Nat) (x : α) : va_up f i x i = x := va_up_self f i x
theorem aup_n {α : Type} (f : Nat → α) {i j : Nat} (x : α) (h : j ≠ i) : va_up f i x j = f j := va_up_ne f x h
abbrev mtys (G : mG) : List (ClassId × FieldType) := [(G.2.2.1.1, .int), (G.2.2.1.2, .boolean), (G.2.2.2.1, .object "java/lang/Object")]
def mfree (G : mG) : Nat → Prop := fun q => G.1.1 ≤ q
def mstr (U : State) : Prop := ∀ q : String × Nat × String, q ∈ MSTR → ∃ a : Nat, vk_R q.1 q.2.1 q.2.2 a U
abbrev MCA : List (String × String) := [("java/lang/IllegalArgumentException", "java/lang/IllegalArgumentException"), ("java/lang/IllegalStateException", "java/lang/IllegalStateException"), ("java/lang/IndexOutOfBoundsException", "java/lang/IndexOutOfBoundsException"), ("RosterPay$Rule", "java/lang/Object"), ("RosterPay$Shift", "java/lang/Object"), ("RosterPay$Worker", "java/lang/Object")]
abbrev MDE : List MethodName := [⟨"java/lang/RuntimeException", "<init>", "(Ljava/lang/String;)V"⟩, ⟨"java/lang/Exception", "<init>", "(Ljava/lang/String;)V"⟩, ⟨"java/lang/Throwable", "<init>", "(Ljava/lang/String;)V"⟩, ⟨"java/lang/Object", "getClass", "()Ljava/lang/Class;"⟩]
abbrev MNC : List (String × String) := [("java/lang/IllegalArgumentException", "java/lang/IndexOutOfBoundsException"), ("java/lang/IllegalStateException", "java/lang/IndexOutOfBoundsException"), ("java/lang/IllegalStateException", "java/lang/IllegalArgumentException")]
def mtab (G : mG) (U : State) : Prop := mstr U ∧ (∀ q ∈ MCA, va_Nw (.castable q.1 q.2) U) ∧ (∀ x ∈ MDE, va_Nw (.declares x) U) ∧ (∀ q ∈ MNC, va_Nc q.1 q.2 U) ∧ va_Mi "[Ljava/lang/Object;" G.2.2.2.2.2 U ∧ va_AO "java/lang/Object" U
theorem mtab.warm {G : mG} {s U : State} (hW : s.WarmedH U.vm) (h : mtab G s) : mtab G U := ⟨fun q hq => by obtain ⟨a, ha⟩ := h.1 q hq; exact ⟨a, vk_R.warm hW ha⟩, fun q hq => va_Nw.warmC hW (h.2.1 q hq), fun q hq => va_Nw.warmD hW (h.2.2.1 q hq), fun q hq => va_Nc.moved hW.alike (h.2.2.2.1 q hq), va_Mi.moved hW.alike h.2.2.2.2.1, va_AO.moved hW.alike h.2.2.2.2.2⟩
theorem mtab.same {G : mG} {u U : State} (hv : U.vm = u.vm) (h : mtab G u) : mtab G U := ⟨fun q hq => by obtain ⟨a, ha⟩ := h.1 q hq; exact ⟨a, vk_R.same hv ha⟩, fun q hq => va_Nw.same rfl hv.symm (h.2.1 q hq), fun q hq => va_Nw.same rfl hv.symm (h.2.2.1 q hq), fun q hq => va_Nc.moved (by rw [hv]; exact Vm.Alike.refl _) (h.2.2.2.1 q hq), va_Mi.moved (by rw [hv]; exact Vm.Alike.refl _) h.2.2.2.2.1, va_AO.moved (by rw [hv]; exact Vm.Alike.refl _) h.2.2.2.2.2⟩
def mZ (G : mG) (U : State) (H : Heap) : Prop := vx_Zq Bundle.tN "UNASSIGNED_STACK" Bundle.steD (mfree G) U H ∧ vx_Zq Bundle.tN "SUPPRESSED_SENTINEL" Bundle.listD (mfree G) U H ∧ va_Z "java/util/ArrayList" "DEFAULTCAPACITY_EMPTY_ELEMENTDATA" "[Ljava/lang/Object;" (.ref G.1.2) (mfree G) U H ∧ va_T (.object "java/lang/Object") G.1.2 0 (fun _ => .null) (mfree G) U H
def mH (G : mG) (V : mV) (α : Nat → Nat) (H : Heap) : Prop := (∀ (i : Nat) (e : va_E), V i = some e → va_at G.2.1 vwCl (α i, e) H ∧ mfree G (α i)) ∧ (∀ (i j : Nat) (e f : va_E), V i = some e → V j = some f → α i = α j → i = j) ∧ G.1.1 ≤ H.size
def mW (G : mG) (V : mV) (α : Nat → Nat) (U : State) (H : Heap) : Prop := (va_K G.2.1 vwCl (mtys G) U ∧ mtab G U) ∧ mZ G U H ∧ mH G V α H
theorem mZ.kept {G : mG} {U : State} {H H1 : Heap} (h : mZ G U H) (hq : ∀ a : Nat, a < H.size → ¬ mfree G a → H1[a]? = H[a]?) : mZ G U H1 := ⟨vx_Zq.kept h.1 hq, vx_Zq.kept h.2.1 hq, va_Z.kept h.2.2.1 hq, va_T.kept h.2.2.2 hq⟩
theorem mZ.moved {G : mG} {u U : State} {H : Heap} (hvm : u.vm.Alike U.vm) (h : mZ G u H) : mZ G U H := ⟨vx_Zq.moved hvm h.1, vx_Zq.moved hvm h.2.1, va_Z.moved hvm h.2.2.1, va_T.moved hvm h.2.2.2⟩
theorem mW.warm {G : mG} {V : mV} {α : Nat → Nat} {s U : State} {H : Heap} (hW : s.WarmedH U.vm) (h : mW G V α s H) : mW G V α U H :=
  ⟨⟨va_K.moved hW.alike h.1.1, h.1.2.warm hW⟩, h.2.1.moved hW.alike, h.2.2⟩
theorem mW.same {G : mG} {V : mV} {α : Nat → Nat} {u U : State} {H : Heap} (hv : U.vm = u.vm) (h : mW G V α u H) : mW G V α U H :=
  ⟨⟨va_K.moved (by rw [hv]; exact Vm.Alike.refl _) h.1.1, h.1.2.same hv⟩, h.2.1.moved (by rw [hv]; exact Vm.Alike.refl _), h.2.2⟩
/-- the world at a new heap that agrees with the old one where nobody writes -/
theorem mW.at {G : mG} {V V1 : mV} {α α1 : Nat → Nat} {s : State} {H H1 : Heap} (h : mW G V α s H) (hq : ∀ a : Nat, a < H.size → ¬ mfree G a → H1[a]? = H[a]?) (hH : mH G V1 α1 H1) : mW G V1 α1 s H1 := ⟨h.1, h.2.1.kept hq, hH⟩
theorem mH.P {G : mG} {V : mV} {α : Nat → Nat} {H : Heap} (h : mH G V α H) {i : Nat} {e : va_E} (hv : V i = some e) : va_P G.2.1 vwCl [(α i, e)] H := fun k q hk => by
  have hz : k < 1 := (List.getElem?_eq_some_iff.mp hk).1
  have h0 : k = 0 := by omega
  subst h0
  cases hk
  exact (h.1 i e hv).1
theorem mH.set {G : mG} {V : mV} {α : Nat → Nat} {H H1 : Heap} {i : Nat} {e0 e : va_E} (h : mH G V α H) (hv : V i = some e0) (z : H1.size = H.size) (oq : ∀ q : Nat, q ≠ α i → H1[q]? = H[q]?) (he : va_at G.2.1 vwCl (α i, e) H1) : mH G (vup V i e) α H1 := by
  have key : ∀ (j : Nat) (f : va_E), vup V i e j = some f → ∃ g, V j = some g := by
    intro j f hj
    by_cases hji : j = i
    · subst hji
      exact ⟨e0, hv⟩
    · rw [vup_n V e hji] at hj
      exact ⟨f, hj⟩
  refine ⟨fun j f hj => ?_, fun j k f g hj hk hjk => ?_, by rw [z]; exact h.2.2⟩
  · by_cases hji : j = i
    · subst hji
      rw [vup_s] at hj
      cases hj
      exact ⟨he, (h.1 j e0 hv).2⟩
    · rw [vup_n V e hji] at hj
      refine ⟨((h.1 j f hj).1).kept (oq _ (fun hq => hji (h.2.1 j i f e0 hj hv hq))), (h.1 j f hj).2⟩
  · obtain ⟨f', hf'⟩ := key j f hj
    obtain ⟨g', hg'⟩ := key k g hk
    exact h.2.1 j k f' g' hf' hg' hjk
theorem mH.new {G : mG} {V : mV} {α : Nat → Nat} {H H1 : Heap} {i : Nat} {e : va_E} (h : mH G V α H) (hv : V i = none) (z : H.size ≤ H1.size) (oq : ∀ q : Nat, q < H.size → H1[q]? = H[q]?) (he : va_at G.2.1 vwCl (H.size, e) H1) : mH G (vup V i e) (va_up α i H.size) H1 := by
  have key : ∀ (j : Nat) (f : va_E), j ≠ i → vup V i e j = some f → V j = some f ∧ va_up α i H.size j = α j ∧ α j < H.size := by
    intro j f hji hj
    rw [vup_n V e hji] at hj
    exact ⟨hj, va_up_ne _ _ hji, ((h.1 j f hj).1).lt⟩
  refine ⟨fun j f hj => ?_, fun j k f g hj hk hjk => ?_, Nat.le_trans h.2.2 z⟩
  · by_cases hji : j = i
    · subst hji
      rw [vup_s] at hj
      cases hj
      rw [va_up_self]
      exact ⟨he, h.2.2⟩
    · obtain ⟨h1, h2, h3⟩ := key j f hji hj
      rw [h2]
      exact ⟨((h.1 j f h1).1).kept (oq _ h3), (h.1 j f h1).2⟩
  · by_cases hji : j = i <;> by_cases hki : k = i
    · rw [hji, hki]
    · obtain ⟨h1, h2, h3⟩ := key k g hki hk
      rw [hji, va_up_self, h2] at hjk
      omega
    · obtain ⟨h1, h2, h3⟩ := key j f hji hj
      rw [hki, va_up_self, h2] at hjk
      omega
    · obtain ⟨h1, h2, h3⟩ := key j f hji hj
      obtain ⟨h4, h5, h6⟩ := key k g hki hk
      rw [h2, h5] at hjk
      exact h.2.1 j k f g h1 h4 hjk
theorem mH.grow {G : mG} {V : mV} {α : Nat → Nat} {H H1 : Heap} (h : mH G V α H) (z : H.size ≤ H1.size) (oq : ∀ q : Nat, q < H.size → H1[q]? = H[q]?) : mH G V α H1 :=
  ⟨fun j f hj => ⟨((h.1 j f hj).1).kept (oq _ ((h.1 j f hj).1).lt), (h.1 j f hj).2⟩, h.2.1, Nat.le_trans h.2.2 z⟩
theorem mH.out {G : mG} {V : mV} {α : Nat → Nat} {H : Heap} (h : mH G V α H) {i : Nat} {e : va_E} (hv : V i = some e) {q : Nat} (hq : ¬ mfree G q) : q ≠ α i := fun z => hq (z ▸ (h.1 i e hv).2)
theorem mPcB {G : mG} {V : mV} {α : Nat → Nat} {av : List Value} : FrameBlind (va_Pc av (fun U => mW G V α U U.heap)) := fun a U g mk q => ⟨q.1, mW.same (u := U) (U := U.calling g mk a) rfl q.2⟩
section MR
variable {p : Program} {l : Launch} {e : Env} {R : Room} {s : State} {m : MethodId} {args : Array Value} {below : List Frame} {meth : Method} {c : Code} {H : Heap} {locs : List Loc} {cells slots : Nat} {Q : State → Prop}
variable {cc : ByteArray} {pc : Nat} {ls : Array Slot} {rest : List Value} {G : mG} {V : mV} {α : Nat → Nat}
theorem mget (hexec : p.tables.exec = Jvm.exec) (hb : c.code = cc) {own C : String} {T : u_T} {N ci index : Nat} {Ts : List Cond} (hts : ∀ w ∈ Ts, w.before args s = true) (hin : ∀ w ∈ u_ws C T N, w ∈ Ts) (hown : s.vm.findClass own = some m.cls) (hw : mW G V α s H) {i : Nat} {fs : List Value} (hv : V i = some (.inr (ci, fs))) (hc : vwCl[ci]? = some (C, T, N)) (k : Nat) (hk : k < N) (hlink : (Cond.fieldLink own index (T k).1 (T k).2.1 (T k).2.2.1).before args s = true) {v : Value} (hf : fs[k]? = some v) (hdg : decode cc pc = .ok (.getfield index, 3))
    (kk : W p l e R s m args below meth c H locs cells slots Q (F0 m (pc + 3) ls (v :: rest))) : W p l e R s m args below meth c H locs cells slots Q (F0 m pc ls (.ref (α i) :: rest)) :=
  va_get (ws := [(α i, .inr (ci, fs))]) hexec hb hts hin hown hw.1.1 (hw.2.2.P hv) 0 rfl hc k hk hlink (fun _ h9 => h9) hf hdg kk
theorem mput (hexec : p.tables.exec = Jvm.exec) (hb : c.code = cc) {own C : String} {T : u_T} {N ci index : Nat} {Ts : List Cond} (hts : ∀ w ∈ Ts, w.before args s = true) (hin : ∀ w ∈ u_ws C T N, w ∈ Ts) (ty0 : Nat → FieldType) (hty : ∀ k, k < N → parseFieldDescriptor (T k).2.2.1 = some (ty0 k)) (hnm : ∀ a, a < N → ∀ b, b < N → a ≠ b → (T a).2.1 ≠ (T b).2.1) (hown : s.vm.findClass own = some m.cls) (hw : mW G V α s H) (hS0 : va_S (mfree G) s.heap H locs) {i : Nat} {fs : List Value} (hv : V i = some (.inr (ci, fs))) (hc : vwCl[ci]? = some (C, T, N)) (k : Nat) (hk : k < N) (hlink : (Cond.fieldLink own index (T k).1 (T k).2.1 (T k).2.2.1).before args s = true) (hfin : (T k).2.2.2 = false) {v : Value} (hn : narrow (ty0 k) v = v) (hfit : fits (ty0 k) v = true) (hl : k < fs.length)
    (hdg : decode cc pc = .ok (.putfield index, 3)) (kk : ∀ (H1 : Heap) (locs1 : List Loc), mW G (vup V i (.inr (ci, fs.set k v))) α s H1 → va_S (mfree G) s.heap H1 locs1 → W p l e R s m args below meth c H1 locs1 cells slots Q (F0 m (pc + 3) ls rest)) : W p l e R s m args below meth c H locs cells slots Q (F0 m pc ls (v :: .ref (α i) :: rest)) := by
  have hK := hw.1.1
  have hap := va_apart (own := own) hts hin ty0 hty hnm hK hc
  obtain ⟨r, h1, cell, q1, q2, q3, q4⟩ := (hw.2.2.1 i _ hv).1
  have hr : r = (C, T, N) := Option.some.inj (h1.symm.trans hc)
  subst hr
  obtain ⟨hS, hfc, kC, hkC, hkind⟩ := hK.1 ci _ hc
  obtain ⟨cf, kf, fi, f, hi, hsl⟩ := hS k hk
  have hlay := hts _ (hin _ (u_in_lay hk))
  unfold u_lay at hlay
  rw [if_neg (by rw [hfin]; decide)] at hlay
  have hst := (u_facts hfc hkC (u_lays hts hin hk) hi).1
  have h6 := u_store hfc hkC hkind hlay hi (hty k hk) hn hfit
  refine W.putK hexec hb (f := f) ⟨hown, hlink, ⟨_, _, _, hi⟩, hst⟩ (by rw [q2]; exact h6) q1 q3 (by rw [hsl]; exact k2_hasslot (q4 k hk)) rfl rfl hdg fun H' e1 e2 e3 => ?_
  rw [hsl] at e1 ⊢
  exact kk H' _ (hw.at (fun a _ ha => e3 a (hw.2.2.out hv ha)) (hw.2.2.set hv e2 e3 ⟨_, hc, t_OB.to (V := updV (vp_V fs) k v) ⟨_, e1, q2, q3, t_set q4 hap hk v⟩ (fun j _ => vp_updV_set hl v j)⟩)) (hS0.put e2 e3 (hw.2.2.1 i _ hv).2)
theorem mputF (hexec : p.tables.exec = Jvm.exec) (hb : c.code = cc) {own C : String} {T : u_T} {N ci index : Nat} {Ts : List Cond} (hts : ∀ w ∈ Ts, w.before args s = true) (hin : ∀ w ∈ u_ws C T N, w ∈ Ts) (ty0 : Nat → FieldType) (hty : ∀ k, k < N → parseFieldDescriptor (T k).2.2.1 = some (ty0 k)) (hnm : ∀ a, a < N → ∀ b, b < N → a ≠ b → (T a).2.1 ≠ (T b).2.1) (hown : s.vm.findClass own = some m.cls) (hw : mW G V α s H) (hS0 : va_S (mfree G) s.heap H locs) {i : Nat} {fs : List Value} (hv : V i = some (.inr (ci, fs))) (hc : vwCl[ci]? = some (C, T, N)) (k : Nat) (hk : k < N) (hlink : (Cond.fieldLink own index (T k).1 (T k).2.1 (T k).2.2.1).before args s = true) (hfin : (T k).2.2.2 = true) (hin2 : meth.name = "<init>") (hdecl : (T k).1 = own) {v : Value} (hn : narrow (ty0 k) v = v) (hfit : fits (ty0 k) v = true) (hl : k < fs.length)
    (hdg : decode cc pc = .ok (.putfield index, 3)) (kk : ∀ (H1 : Heap) (locs1 : List Loc), mW G (vup V i (.inr (ci, fs.set k v))) α s H1 → va_S (mfree G) s.heap H1 locs1 → W p l e R s m args below meth c H1 locs1 cells slots Q (F0 m (pc + 3) ls rest)) : W p l e R s m args below meth c H locs cells slots Q (F0 m pc ls (v :: .ref (α i) :: rest)) := by
  have hK := hw.1.1
  have hap := va_apart (own := own) hts hin ty0 hty hnm hK hc
  obtain ⟨r, h1, cell, q1, q2, q3, q4⟩ := (hw.2.2.1 i _ hv).1
  have hr : r = (C, T, N) := Option.some.inj (h1.symm.trans hc)
  subst hr
  obtain ⟨hS, hfc, kC, hkC, hkind⟩ := hK.1 ci _ hc
  obtain ⟨cf, kf, fi, f, hi, hsl⟩ := hS k hk
  have hlay := hts _ (hin _ (u_in_lay hk))
  unfold u_lay at hlay
  rw [if_pos hfin] at hlay
  have hst := (u_facts hfc hkC (u_lays hts hin hk) hi).1
  have hcf : m.cls = cf := by
    obtain ⟨_, _, c', _, _, _, -, -, hf', -, -, -, hown2, -⟩ := Cond.laysFinal_spec hlay
    have e1 : c' = cf := by have := hi.symm.trans hf'; simp at this; exact this.1.symm
    rw [hdecl] at hown2
    rw [← e1]; exact Option.some.inj (hown.symm.trans hown2)
  have h6 := u_fits hfc hkC hkind (Or.inr hlay) hi (hty k hk) hn hfit
  refine W.putFinK hexec hb hown hlink hi hst hcf hin2 (by rw [q2]; exact h6) q1 q3 (by rw [hsl]; exact k2_hasslot (q4 k hk)) rfl rfl hdg fun H' e1 e2 e3 => ?_
  rw [hsl] at e1 ⊢
  exact kk H' _ (hw.at (fun a _ ha => e3 a (hw.2.2.out hv ha)) (hw.2.2.set hv e2 e3 ⟨_, hc, t_OB.to (V := updV (vp_V fs) k v) ⟨_, e1, q2, q3, t_set q4 hap hk v⟩ (fun j _ => vp_updV_set hl v j)⟩)) (hS0.put e2 e3 (hw.2.2.1 i _ hv).2)
theorem miald (hexec : p.tables.exec = Jvm.exec) (hb : c.code = cc) (hw : mW G V α s H) {i : Nat} {n : Nat} {f : Nat → Int32} (hv : V i = some (.inl (G.2.2.1.1, n, .inl f))) {j : Int32} (hin : vp_in j n) (hdg : decode cc pc = .ok (.iaload, 1))
    (kk : W p l e R s m args below meth c H locs cells slots Q (F0 m (pc + 1) ls (.int (f j.toNatClampNeg) :: rest))) : W p l e R s m args below meth c H locs cells slots Q (F0 m pc ls (.int j :: .ref (α i) :: rest)) :=
  va_iald (ws := [(α i, .inl (G.2.2.1.1, n, .inl f))]) hexec hb hw.1.1 (hw.2.2.P hv) 0 0 rfl rfl hin hdg kk
theorem mzald (hexec : p.tables.exec = Jvm.exec) (hb : c.code = cc) (hw : mW G V α s H) {i : Nat} {n : Nat} {f : Nat → Int32} (hv : V i = some (.inl (G.2.2.1.2, n, .inl f))) {j : Int32} (hin : vp_in j n) (hdg : decode cc pc = .ok (.baload, 1))
    (kk : W p l e R s m args below meth c H locs cells slots Q (F0 m (pc + 1) ls (.int (f j.toNatClampNeg) :: rest))) : W p l e R s m args below meth c H locs cells slots Q (F0 m pc ls (.int j :: .ref (α i) :: rest)) :=
  va_zald (ws := [(α i, .inl (G.2.2.1.2, n, .inl f))]) hexec hb hw.1.1 (hw.2.2.P hv) 0 1 rfl rfl hin hdg kk
theorem maald (hexec : p.tables.exec = Jvm.exec) (hb : c.code = cc) (hw : mW G V α s H) {i : Nat} {n : Nat} {f : Nat → Option Nat} (hv : V i = some (.inl (G.2.2.2.1, n, .inr (.inr (.inr (.inr f)))))) {j : Int32} (hin : vp_in j n) (hdg : decode cc pc = .ok (.aaload, 1))
    (kk : W p l e R s m args below meth c H locs cells slots Q (F0 m (pc + 1) ls (va_rf (f j.toNatClampNeg) :: rest))) : W p l e R s m args below meth c H locs cells slots Q (F0 m pc ls (.int j :: .ref (α i) :: rest)) :=
  va_aldq (ws := [(α i, .inl (G.2.2.2.1, n, .inr (.inr (.inr (.inr f)))))]) hexec hb hw.1.1 (hw.2.2.P hv) 0 2 rfl rfl hin hdg kk
theorem mialen (hexec : p.tables.exec = Jvm.exec) (hb : c.code = cc) (hw : mW G V α s H) {i : Nat} {n : Nat} {f : Nat → Int32} (hv : V i = some (.inl (G.2.2.1.1, n, .inl f))) (hdg : decode cc pc = .ok (.arraylength, 1))
    (kk : W p l e R s m args below meth c H locs cells slots Q (F0 m (pc + 1) ls (.int (nI n) :: rest))) : W p l e R s m args below meth c H locs cells slots Q (F0 m pc ls (.ref (α i) :: rest)) :=
  W.alen hexec hb (hw.2.2.1 i _ hv).1 ((hw.1.1.2 0 _ rfl).1 n (fun j => .int (f j))) (by show (arrV _ _ _).slots.size.toInt32 = _; rw [arrV_size]; rfl) rfl rfl hdg kk
theorem mzalen (hexec : p.tables.exec = Jvm.exec) (hb : c.code = cc) (hw : mW G V α s H) {i : Nat} {n : Nat} {f : Nat → Int32} (hv : V i = some (.inl (G.2.2.1.2, n, .inl f))) (hdg : decode cc pc = .ok (.arraylength, 1))
    (kk : W p l e R s m args below meth c H locs cells slots Q (F0 m (pc + 1) ls (.int (nI n) :: rest))) : W p l e R s m args below meth c H locs cells slots Q (F0 m pc ls (.ref (α i) :: rest)) :=
  W.alen hexec hb (hw.2.2.1 i _ hv).1 ((hw.1.1.2 1 _ rfl).1 n (fun j => .int (f j))) (by show (arrV _ _ _).slots.size.toInt32 = _; rw [arrV_size]; rfl) rfl rfl hdg kk
theorem maalen (hexec : p.tables.exec = Jvm.exec) (hb : c.code = cc) (hw : mW G V α s H) {i : Nat} {n : Nat} {f : Nat → Option Nat} (hv : V i = some (.inl (G.2.2.2.1, n, .inr (.inr (.inr (.inr f)))))) (hdg : decode cc pc = .ok (.arraylength, 1))
    (kk : W p l e R s m args below meth c H locs cells slots Q (F0 m (pc + 1) ls (.int (nI n) :: rest))) : W p l e R s m args below meth c H locs cells slots Q (F0 m pc ls (.ref (α i) :: rest)) :=
  W.alen hexec hb (hw.2.2.1 i _ hv).1 ((hw.1.1.2 2 _ rfl).1 n (fun j => va_rf (f j))) (by show (arrV _ _ _).slots.size.toInt32 = _; rw [arrV_size]; rfl) rfl rfl hdg kk
theorem miast (hexec : p.tables.exec = Jvm.exec) (hb : c.code = cc) (hw : mW G V α s H) (hS0 : va_S (mfree G) s.heap H locs) {i : Nat} {n : Nat} {f : Nat → Int32} (hv : V i = some (.inl (G.2.2.1.1, n, .inl f))) {j x : Int32} (hin : vp_in j n) (hdg : decode cc pc = .ok (.iastore, 1))
    (kk : ∀ (H1 : Heap) (locs1 : List Loc), mW G (vup V i (.inl (G.2.2.1.1, n, .inl (upd f j.toNatClampNeg x)))) α s H1 → va_S (mfree G) s.heap H1 locs1 → W p l e R s m args below meth c H1 locs1 cells slots Q (F0 m (pc + 1) ls rest)) : W p l e R s m args below meth c H locs cells slots Q (F0 m pc ls (.int x :: .int j :: .ref (α i) :: rest)) := by
  refine W.iast hexec hb (hw.2.2.1 i _ hv).1 ((hw.1.1.2 0 _ rfl).1 n (fun j => .int (f j))) (fun q => by cases q) (by show ¬ (j < 0 ∨ (arrV _ _ _).slots.size ≤ _); rw [arrV_size]; exact hin) rfl rfl hdg fun H1 e z oq => ?_
  refine kk H1 _ (hw.at (fun a _ ha => oq a (hw.2.2.out hv ha)) (hw.2.2.set hv z oq ?_)) (hS0.put z oq (hw.2.2.1 i _ hv).2)
  show H1[α i]? = some (vp_cell _ _)
  rw [e]
  rw [vp_cell_i, vp_cell_i, arrV_store]
  congr 2
  funext q
  by_cases hq : q = j.toNatClampNeg
  · subst hq
    simp [updV, upd]
  · simp [updV, upd, hq]
theorem mzast (hexec : p.tables.exec = Jvm.exec) (hb : c.code = cc) (hw : mW G V α s H) (hS0 : va_S (mfree G) s.heap H locs) {i : Nat} {n : Nat} {f : Nat → Int32} (hv : V i = some (.inl (G.2.2.1.2, n, .inl f))) {j x : Int32} (hin : vp_in j n) (hdg : decode cc pc = .ok (.bastore, 1))
    (kk : ∀ (H1 : Heap) (locs1 : List Loc), mW G (vup V i (.inl (G.2.2.1.2, n, .inl (upd f j.toNatClampNeg (vp_nar .boolean x))))) α s H1 → va_S (mfree G) s.heap H1 locs1 → W p l e R s m args below meth c H1 locs1 cells slots Q (F0 m (pc + 1) ls rest)) : W p l e R s m args below meth c H locs cells slots Q (F0 m pc ls (.int x :: .int j :: .ref (α i) :: rest)) := by
  refine W.zast hexec hb (hw.2.2.1 i _ hv).1 ((hw.1.1.2 1 _ rfl).1 n (fun j => .int (f j))) (fun q => by cases q) (by show ¬ (j < 0 ∨ (arrV _ _ _).slots.size ≤ _); rw [arrV_size]; exact hin) rfl rfl hdg fun H1 e z oq => ?_
  refine kk H1 _ (hw.at (fun a _ ha => oq a (hw.2.2.out hv ha)) (hw.2.2.set hv z oq ?_)) (hS0.put z oq (hw.2.2.1 i _ hv).2)
  show H1[α i]? = some (vp_cell _ _)
  rw [e]
  rw [vp_cell_i, vp_cell_i, arrV_store]
  congr 2
  funext q
  by_cases hq : q = j.toNatClampNeg
  · subst hq
    simp [updV, upd, vp_nar]
    try rfl
  · simp [updV, upd, hq]
theorem mnew (hexec : p.tables.exec = Jvm.exec) (hb : c.code = cc) {own C : String} {T : u_T} {N ci index : Nat} {Ts : List Cond} (hts : ∀ w ∈ Ts, w.before args s = true) (hin : ∀ w ∈ u_ws C T N, w ∈ Ts) (ty : Nat → FieldType) (hty : ∀ k, k < N → parseFieldDescriptor (T k).2.2.1 = some (ty k)) (hown : s.vm.findClass own = some m.cls) (hcl : (Cond.classLink own index C).before args s = true) (hinst : (Cond.instantiable C N).before args s = true) (hini : (Cond.initialized C).before args s = true)
    (hw : mW G V α s H) (hS : va_S (mfree G) s.heap H locs) (hc : vwCl[ci]? = some (C, T, N)) (i : Nat) (hi : V i = none) {fs : List Value} (hfs : ∀ j, j < N → defaultValue (ty j) = vp_V fs j) (hcells : cells + 1 ≤ R.cells) (hslots : slots + N ≤ R.slots) (hdg : decode cc pc = .ok (.new index, 3))
    (kk : ∀ (α1 : Nat → Nat) (H1 : Heap), (∀ j, j ≠ i → α1 j = α j) → mW G (vup V i (.inr (ci, fs))) α1 s H1 → va_S (mfree G) s.heap H1 locs →
      W p l e R s m args below meth c H1 locs (cells + 1) (slots + N) Q (F0 m (pc + 3) ls (.ref (α1 i) :: rest))) : W p l e R s m args below meth c H locs cells slots Q (F0 m pc ls rest) := by
  have hKn := hw.1.1.1 ci _ hc
  refine W.newcK hexec hb hown hcl hinst hini rfl hdg hcells hslots hKn.2.1 rfl fun H1 kC hkC e1 z1 o1 => ?_
  have hk := kk (va_up α i H.size) H1 (fun j hj => va_up_ne _ _ hj) (hw.at (fun a ha _ => o1 a ha) (hw.2.2.new hi (by omega) o1 ⟨_, hc, (u_born ty hts hin hKn hkC e1 hty).to hfs⟩)) ⟨Nat.le_trans hS.1 (by omega), fun x h1 h2 => (o1 x (Nat.lt_of_lt_of_le h1 hS.1)).trans (hS.2.1 x h1 h2), hS.2.2⟩
  rw [va_up_self] at hk
  exact hk
theorem mnewa (hexec : p.tables.exec = Jvm.exec) (hb : c.code = cc) {atype : ArrayType} (harr : (Cond.arrayClass (newarray.typeOf atype)).before args s = true) {ty : FieldType} {cA : ClassId} (t0 : Nat) (ht : (mtys G)[t0]? = some (cA, ty)) (hty : newarray.typeOf atype = ty) (hw : mW G V α s H) (hS : va_S (mfree G) s.heap H locs)
    {n : Int32} {N' : Nat} {a0 : vp_A} (ha : vp_cell cA a0 = arrV cA N' (fun _ => defaultValue ty)) (hn : ¬ n < 0) (hN : n.toNatClampNeg = N') (hbytes : N' * componentBytes ty ≤ 536870912) (i : Nat) (hi : V i = none) (hcells : cells + 1 ≤ R.cells) (hslots : slots + N' ≤ R.slots) (hdg : decode cc pc = .ok (.newarray atype, 2))
    (kk : ∀ (α1 : Nat → Nat) (H1 : Heap), (∀ j, j ≠ i → α1 j = α j) → mW G (vup V i (.inl (cA, a0))) α1 s H1 → va_S (mfree G) s.heap H1 locs →
      W p l e R s m args below meth c H1 locs (cells + 1) (slots + N') Q (F0 m (pc + 2) ls (.ref (α1 i) :: rest))) : W p l e R s m args below meth c H locs cells slots Q (F0 m pc ls (.int n :: rest)) := by
  subst hty
  refine va_newaK hexec hb harr rfl hdg rfl hn hN hbytes hcells hslots rfl fun H1 cB e1 z1 o1 hAr hNm => ?_
  have hcc : cB = cA := by
    have h2 := (hw.1.1.2 t0 _ ht).2
    cases atype <;> exact Option.some.inj (hNm.symm.trans h2)
  subst hcc
  have hk := kk (va_up α i H.size) H1 (fun j hj => va_up_ne _ _ hj) (hw.at (fun a h _ => o1 a h) (hw.2.2.new hi (by omega) o1 (show H1[H.size]? = some (vp_cell _ _) by rw [ha]; exact e1))) ⟨Nat.le_trans hS.1 (by omega), fun x h1 h2 => (o1 x (Nat.lt_of_lt_of_le h1 hS.1)).trans (hS.2.1 x h1 h2), hS.2.2⟩
  rw [va_up_self] at hk
  exact hk
theorem mrecv (hw : mW G V α s H) {i ci : Nat} {q : vw_C} {fs : List Value} (hv : V i = some (.inr (ci, fs))) (hc : vwCl[ci]? = some q) : ∃ cell : Cell, H[α i]? = some cell ∧ cell.vm.isStatics = false ∧ s.vm.findClass q.1 = some cell.cls :=
  va_recv (q0 := 0) hw.1.1 (hw.2.2.P hv) hc rfl
theorem mcast (hexec : p.tables.exec = Jvm.exec) (hb : c.code = cc) {own nm : String} {index : Nat} (hown : s.vm.findClass own = some m.cls) (hlink : (Cond.classLink own index nm).before args s = true) (hw : mW G V α s H) {i ci N : Nat} {T : u_T} {fs : List Value} (hv : V i = some (.inr (ci, fs))) (hc : vwCl[ci]? = some (nm, T, N)) (hdg : decode cc pc = .ok (.checkcast index, 3))
    (k : W p l e R s m args below meth c H locs cells slots Q (F0 m (pc + 3) ls (.ref (α i) :: rest))) : W p l e R s m args below meth c H locs cells slots Q (F0 m pc ls (.ref (α i) :: rest)) :=
  va_castS hexec hb hown hlink (hw.1.1.1 ci _ hc).2 (mrecv hw hv hc) hdg k
/-- a call that only reads -/
theorem mcallVi {y : MethodName} {bytes : ByteArray} {maxL nL n index ci i : Nat} {ret : Option FieldType} {ws Ts : List Cond} {rm : Room} {own C : String} {As st0 : List Value} {x : Int32} {fs : List Value} {q : vw_C} (hw : mW G V α s H) (hv : V i = some (.inr (ci, fs))) (hc : vwCl[ci]? = some q) (hC : q.1 = C) (S : CallFix p m c cc nL s args Ts own) (hM : Met l y ws rm (va_Pc (.ref (α i) :: As) (fun U => mW G V α U U.heap)) (vp_Si (fun r => r = x)) 0 0 (fun _ => False)) (cw : CallW R s args own C index y bytes maxL ret ws rm 0 0 n)
    (hn : As.length = n) (hsize : ls.size = nL) (hstack : st0 = As.reverse ++ .ref (α i) :: rest) (hW : (rest.map fun v => v.category).sum ≤ 8) (hdg : decode cc pc = .ok (.invokevirtual index, 3)) (hf : cells ≤ R.cells ∧ slots ≤ R.slots)
    (kk : W p l e R s m args below meth c H locs cells slots Q (F0 m (pc + 3) ls (.int x :: rest))) : W p l e R s m args below meth c H locs cells slots Q (F0 m pc ls st0) := by
  subst hstack
  subst hC
  exact vp_callSi (W.runV (g := F0 m pc ls (As.reverse ++ .ref (α i) :: rest)) S hM cw ⟨mPcB, mrecv hw hv hc, fun U hU hWm => ⟨rfl, by show mW G V α U U.heap; rw [hU]; exact hw.warm hWm⟩⟩ rfl hn hsize rfl (lv_room hW) hdg hf) (fun r hr => by subst hr; exact kk)
theorem mcallVq {y : MethodName} {bytes : ByteArray} {maxL nL n index ci i : Nat} {ret : Option FieldType} {ws Ts : List Cond} {rm : Room} {own C : String} {As st0 : List Value} {x : Option Nat} {fs : List Value} {q : vw_C} (hw : mW G V α s H) (hv : V i = some (.inr (ci, fs))) (hc : vwCl[ci]? = some q) (hC : q.1 = C) (S : CallFix p m c cc nL s args Ts own) (hM : Met l y ws rm (va_Pc (.ref (α i) :: As) (fun U => mW G V α U U.heap)) (va_Sq (fun r => r = x)) 0 0 (fun _ => False)) (cw : CallW R s args own C index y bytes maxL ret ws rm 0 0 n)
    (hn : As.length = n) (hsize : ls.size = nL) (hstack : st0 = As.reverse ++ .ref (α i) :: rest) (hW : (rest.map fun v => v.category).sum ≤ 8) (hdg : decode cc pc = .ok (.invokevirtual index, 3)) (hf : cells ≤ R.cells ∧ slots ≤ R.slots)
    (kk : W p l e R s m args below meth c H locs cells slots Q (F0 m (pc + 3) ls (va_rf x :: rest))) : W p l e R s m args below meth c H locs cells slots Q (F0 m pc ls st0) := by
  subst hstack
  subst hC
  exact va_csq (W.runV (g := F0 m pc ls (As.reverse ++ .ref (α i) :: rest)) S hM cw ⟨mPcB, mrecv hw hv hc, fun U hU hWm => ⟨rfl, by show mW G V α U U.heap; rw [hU]; exact hw.warm hWm⟩⟩ rfl hn hsize rfl (lv_room hW) hdg hf) (fun r hr => by subst hr; exact kk)
theorem mcallSi {y : MethodName} {bytes : ByteArray} {maxL nL n index : Nat} {ret : Option FieldType} {ws Ts : List Cond} {rm : Room} {own : String} {As st0 : List Value} {x : Int32} (hw : mW G V α s H) (S : CallFix p m c cc nL s args Ts own) (hM : Met l y ws rm (va_Pc As (fun U => mW G V α U U.heap)) (vp_Si (fun r => r = x)) 0 0 (fun _ => False)) (cw : CallB R s args own index y bytes maxL ret ws rm 0 0 n ∧ (Cond.static y).before args s = true)
    (hn : As.length = n) (hsize : ls.size = nL) (hstack : st0 = As.reverse ++ rest) (hW : (rest.map fun v => v.category).sum ≤ 8) (hdg : decode cc pc = .ok (.invokestatic index, 3)) (hf : cells ≤ R.cells ∧ slots ≤ R.slots)
    (kk : W p l e R s m args below meth c H locs cells slots Q (F0 m (pc + 3) ls (.int x :: rest))) : W p l e R s m args below meth c H locs cells slots Q (F0 m pc ls st0) := by
  subst hstack
  exact vp_callSi (W.runS (g := F0 m pc ls (As.reverse ++ rest)) S hM cw ⟨mPcB, fun U hU hWm => ⟨rfl, by show mW G V α U U.heap; rw [hU]; exact hw.warm hWm⟩⟩ rfl hn hsize rfl (lv_room hW) hdg hf) (fun r hr => by subst hr; exact kk)
end MR
