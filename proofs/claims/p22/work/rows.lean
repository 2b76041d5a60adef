section
-- ===== PART A: goes FIRST, ahead of the names: the tables' words, and 'selects' of the private methods out of them =====
/-- a private method of a class that the tables say can be made, by its rows of tables_1 -/
def lw_okq (q : MethodName × Nat) : Prop := (q.1.cls ≠ "java/lang/invoke/MethodHandle" ∧ q.1.cls ≠ "java/lang/invoke/VarHandle") ∧ Cond.instantiable q.1.cls q.2 ∈ tables_1 ∧ Cond.privateMethod q.1 ∈ tables_1 ∧ Cond.instanceMethod q.1 ∈ tables_1
theorem lw_p0 : lw_okq (⟨"java/lang/Throwable", "fillInStackTrace", "(I)Ljava/lang/Throwable;"⟩, 6) := ⟨⟨by decide +kernel, by decide +kernel⟩, List.mem_of_getElem? (i := 121) (by decide +kernel), List.mem_of_getElem? (i := 119) (by decide +kernel), List.mem_of_getElem? (i := 120) (by decide +kernel)⟩
theorem lw_p1 : lw_okq (⟨"java/util/ArrayList", "add", "(Ljava/lang/Object;[Ljava/lang/Object;I)V"⟩, 3) := ⟨⟨by decide +kernel, by decide +kernel⟩, List.mem_of_getElem? (i := 32) (by decide +kernel), List.mem_of_getElem? (i := 186) (by decide +kernel), List.mem_of_getElem? (i := 187) (by decide +kernel)⟩
theorem lw_p2 : lw_okq (⟨"java/util/ArrayList", "grow", "()[Ljava/lang/Object;"⟩, 3) := ⟨⟨by decide +kernel, by decide +kernel⟩, List.mem_of_getElem? (i := 32) (by decide +kernel), List.mem_of_getElem? (i := 190) (by decide +kernel), List.mem_of_getElem? (i := 191) (by decide +kernel)⟩
theorem lw_p3 : lw_okq (⟨"java/util/ArrayList", "grow", "(I)[Ljava/lang/Object;"⟩, 3) := ⟨⟨by decide +kernel, by decide +kernel⟩, List.mem_of_getElem? (i := 32) (by decide +kernel), List.mem_of_getElem? (i := 194) (by decide +kernel), List.mem_of_getElem? (i := 195) (by decide +kernel)⟩
theorem lw_p4 : lw_okq (⟨"RosterPay", "findWorker", "(I)LRosterPay$Worker;"⟩, 5) := ⟨⟨by decide +kernel, by decide +kernel⟩, List.mem_of_getElem? (i := 21) (by decide +kernel), List.mem_of_getElem? (i := 241) (by decide +kernel), List.mem_of_getElem? (i := 242) (by decide +kernel)⟩
theorem lw_p5 : lw_okq (⟨"RosterPay", "overlapsAnother", "(LRosterPay$Worker;II)Z"⟩, 5) := ⟨⟨by decide +kernel, by decide +kernel⟩, List.mem_of_getElem? (i := 21) (by decide +kernel), List.mem_of_getElem? (i := 275) (by decide +kernel), List.mem_of_getElem? (i := 276) (by decide +kernel)⟩
theorem lw_p6 : lw_okq (⟨"RosterPay", "workedBetween", "(LRosterPay$Worker;II)I"⟩, 5) := ⟨⟨by decide +kernel, by decide +kernel⟩, List.mem_of_getElem? (i := 21) (by decide +kernel), List.mem_of_getElem? (i := 279) (by decide +kernel), List.mem_of_getElem? (i := 280) (by decide +kernel)⟩
theorem lw_p7 : lw_okq (⟨"RosterPay", "findShift", "(I)LRosterPay$Shift;"⟩, 5) := ⟨⟨by decide +kernel, by decide +kernel⟩, List.mem_of_getElem? (i := 21) (by decide +kernel), List.mem_of_getElem? (i := 319) (by decide +kernel), List.mem_of_getElem? (i := 320) (by decide +kernel)⟩
theorem lw_p8 : lw_okq (⟨"RosterPay", "payFor", "(LRosterPay$Shift;)I"⟩, 5) := ⟨⟨by decide +kernel, by decide +kernel⟩, List.mem_of_getElem? (i := 21) (by decide +kernel), List.mem_of_getElem? (i := 332) (by decide +kernel), List.mem_of_getElem? (i := 333) (by decide +kernel)⟩
theorem lw_p9 : lw_okq (⟨"RosterPay", "baseOf", "(I)I"⟩, 5) := ⟨⟨by decide +kernel, by decide +kernel⟩, List.mem_of_getElem? (i := 21) (by decide +kernel), List.mem_of_getElem? (i := 336) (by decide +kernel), List.mem_of_getElem? (i := 337) (by decide +kernel)⟩
theorem lw_p10 : lw_okq (⟨"RosterPay$Shift", "breaksOwed", "()I"⟩, 5) := ⟨⟨by decide +kernel, by decide +kernel⟩, List.mem_of_getElem? (i := 290) (by decide +kernel), List.mem_of_getElem? (i := 344) (by decide +kernel), List.mem_of_getElem? (i := 345) (by decide +kernel)⟩
theorem lw_p11 : lw_okq (⟨"RosterPay", "percentOf", "(LRosterPay$Shift;I)I"⟩, 5) := ⟨⟨by decide +kernel, by decide +kernel⟩, List.mem_of_getElem? (i := 21) (by decide +kernel), List.mem_of_getElem? (i := 348) (by decide +kernel), List.mem_of_getElem? (i := 349) (by decide +kernel)⟩
theorem lw_p12 : lw_okq (⟨"RosterPay", "decidingRule", "(LRosterPay$Shift;I)LRosterPay$Rule;"⟩, 5) := ⟨⟨by decide +kernel, by decide +kernel⟩, List.mem_of_getElem? (i := 21) (by decide +kernel), List.mem_of_getElem? (i := 352) (by decide +kernel), List.mem_of_getElem? (i := 353) (by decide +kernel)⟩
theorem lw_p13 : lw_okq (⟨"RosterPay", "isHoliday", "(I)Z"⟩, 5) := ⟨⟨by decide +kernel, by decide +kernel⟩, List.mem_of_getElem? (i := 21) (by decide +kernel), List.mem_of_getElem? (i := 364) (by decide +kernel), List.mem_of_getElem? (i := 365) (by decide +kernel)⟩
theorem lw_p14 : lw_okq (⟨"RosterPay$Rule", "isForDay", "(IZ)Z"⟩, 7) := ⟨⟨by decide +kernel, by decide +kernel⟩, List.mem_of_getElem? (i := 381) (by decide +kernel), List.mem_of_getElem? (i := 379) (by decide +kernel), List.mem_of_getElem? (i := 380) (by decide +kernel)⟩
theorem lw_p15 : lw_okq (⟨"RosterPay", "workedInWeeks", "(LRosterPay$Worker;II)I"⟩, 5) := ⟨⟨by decide +kernel, by decide +kernel⟩, List.mem_of_getElem? (i := 21) (by decide +kernel), List.mem_of_getElem? (i := 441) (by decide +kernel), List.mem_of_getElem? (i := 442) (by decide +kernel)⟩
def lw_privs_1 : List (MethodName × Nat) := [(⟨"java/lang/Throwable", "fillInStackTrace", "(I)Ljava/lang/Throwable;"⟩, 6), (⟨"java/util/ArrayList", "add", "(Ljava/lang/Object;[Ljava/lang/Object;I)V"⟩, 3), (⟨"java/util/ArrayList", "grow", "()[Ljava/lang/Object;"⟩, 3), (⟨"java/util/ArrayList", "grow", "(I)[Ljava/lang/Object;"⟩, 3), (⟨"RosterPay", "findWorker", "(I)LRosterPay$Worker;"⟩, 5), (⟨"RosterPay", "overlapsAnother", "(LRosterPay$Worker;II)Z"⟩, 5), (⟨"RosterPay", "workedBetween", "(LRosterPay$Worker;II)I"⟩, 5), (⟨"RosterPay", "findShift", "(I)LRosterPay$Shift;"⟩, 5), (⟨"RosterPay", "payFor", "(LRosterPay$Shift;)I"⟩, 5), (⟨"RosterPay", "baseOf", "(I)I"⟩, 5), (⟨"RosterPay$Shift", "breaksOwed", "()I"⟩, 5), (⟨"RosterPay", "percentOf", "(LRosterPay$Shift;I)I"⟩, 5), (⟨"RosterPay", "decidingRule", "(LRosterPay$Shift;I)LRosterPay$Rule;"⟩, 5), (⟨"RosterPay", "isHoliday", "(I)Z"⟩, 5), (⟨"RosterPay$Rule", "isForDay", "(IZ)Z"⟩, 7), (⟨"RosterPay", "workedInWeeks", "(LRosterPay$Worker;II)I"⟩, 5)]
theorem lw_r1 : ∀ q ∈ lw_privs_1, lw_okq q := List.forall_mem_cons.mpr ⟨lw_p0, List.forall_mem_cons.mpr ⟨lw_p1, List.forall_mem_cons.mpr ⟨lw_p2, List.forall_mem_cons.mpr ⟨lw_p3, List.forall_mem_cons.mpr ⟨lw_p4, List.forall_mem_cons.mpr ⟨lw_p5, List.forall_mem_cons.mpr ⟨lw_p6, List.forall_mem_cons.mpr ⟨lw_p7, List.forall_mem_cons.mpr ⟨lw_p8, List.forall_mem_cons.mpr ⟨lw_p9, List.forall_mem_cons.mpr ⟨lw_p10, List.forall_mem_cons.mpr ⟨lw_p11, List.forall_mem_cons.mpr ⟨lw_p12, List.forall_mem_cons.mpr ⟨lw_p13, List.forall_mem_cons.mpr ⟨lw_p14, List.forall_mem_cons.mpr ⟨lw_p15, fun _ h => absurd h List.not_mem_nil⟩⟩⟩⟩⟩⟩⟩⟩⟩⟩⟩⟩⟩⟩⟩⟩
theorem lw_p16 : lw_okq (⟨"RosterPay", "findRule", "(I)LRosterPay$Rule;"⟩, 5) := ⟨⟨by decide +kernel, by decide +kernel⟩, List.mem_of_getElem? (i := 21) (by decide +kernel), List.mem_of_getElem? (i := 459) (by decide +kernel), List.mem_of_getElem? (i := 460) (by decide +kernel)⟩
theorem lw_p17 : lw_okq (⟨"RosterPay", "payByRule", "(LRosterPay$Shift;LRosterPay$Rule;)I"⟩, 5) := ⟨⟨by decide +kernel, by decide +kernel⟩, List.mem_of_getElem? (i := 21) (by decide +kernel), List.mem_of_getElem? (i := 505) (by decide +kernel), List.mem_of_getElem? (i := 506) (by decide +kernel)⟩
def lw_privs_2 : List (MethodName × Nat) := [(⟨"RosterPay", "findRule", "(I)LRosterPay$Rule;"⟩, 5), (⟨"RosterPay", "payByRule", "(LRosterPay$Shift;LRosterPay$Rule;)I"⟩, 5)]
theorem lw_r2 : ∀ q ∈ lw_privs_2, lw_okq q := List.forall_mem_cons.mpr ⟨lw_p16, List.forall_mem_cons.mpr ⟨lw_p17, fun _ h => absurd h List.not_mem_nil⟩⟩
def lw_privs : List (MethodName × Nat) := lw_privs_1 ++ (lw_privs_2)
def lw_tbl : List Cond := k2_sels lw_privs ++ tables_1
theorem lw_privs_ok : ∀ q ∈ lw_privs, lw_okq q := by
  show ∀ q ∈ lw_privs_1 ++ (lw_privs_2), lw_okq q
  exact List.forall_mem_append.mpr ⟨lw_r1, lw_r2⟩
-- ===== end of PART A; then your names; then what follows =====
end
section
/-! ===== BEGIN words of one list among another's, by their places ===== -/
theorem goodIn_r {big : List Cond} (ws : List Cond) (ps : List Nat) (hp : ws = ps.filterMap (fun i => big[i]?)) (h : ws.all goodWord = true) : GoodIn big ws := by
  intro w hw
  have h1 := List.all_eq_true.mp h w hw
  rw [hp] at hw
  obtain ⟨i, -, hi⟩ := List.mem_filterMap.mp hw
  have hm : w ∈ big := by first | exact List.mem_of_getElem? hi | exact List.getElem?_mem hi
  exact ⟨hm, good_of_word h1⟩
theorem goodIn_app {big a b : List Cond} (ha : GoodIn big a) (hb : GoodIn big b) : GoodIn big (a ++ b) := fun w h => (List.mem_append.mp h).elim (ha w) (hb w)
theorem goodIn_ca {big a b : List Cond} {c : Cond} (ha : GoodIn big (c :: a)) (hb : GoodIn big b) : GoodIn big (c :: (a ++ b)) := fun w h => (List.mem_cons.mp h).elim (fun e => ha w (List.mem_cons.mpr (Or.inl e))) (fun h => (List.mem_append.mp h).elim (fun h => ha w (List.mem_cons.mpr (Or.inr h))) (hb w))
theorem goodIn_sub {big ws : List Cond} (hm : ∀ w ∈ ws, w ∈ big) (h : ws.all goodWord = true) : GoodIn big ws := fun w hw => ⟨hm w hw, good_of_word (List.all_eq_true.mp h w hw)⟩
/-! ===== END ===== -/

/-! ===== BEGIN exceptions that leave a method, and their catching by the caller (launches without stack traces) ===== -/
section VXA
/-! The laws vx_back, vx_callV, vx_callS, vx_callSW, vx_throw0, vx_throwS follow proofs of the library, with one case more: JvmDerived/Free/Laws.lean (Back.of_free), Shelf42/LK1.lean (callV, callS), Shelf/KitTraced.lean (throwNew0V, throwNewS). -/
/-- where a method has thrown q: the class by its name, the cell, what was written, the world -/
def vx_T (XC : String → State → State → Prop) (st : State) (q : Addr) (t : State) (mc ms : Nat) (free : Addr → Prop) : Prop :=
  ∃ (E : String) (ce : Cell) (L : List Loc), XC E st t ∧ t.heap[q]? = some ce ∧ ce.vm = .none ∧ st.vm.findClass E = some ce.cls ∧ st.WarmedH t.vm ∧ st.sameButNew ({ t with vm := st.vm } : State) L mc ms ∧ ∀ z ∈ L, free z.base
def vx_Q (Qc : Array Value → State → Outcome → State → Prop) (XC : String → State → State → Prop) (mc ms : Nat) (free : Addr → Prop) : Array Value → State → Outcome → State → Prop := fun a st o t =>
  (Qc a st o t ∧ ∃ L, FrameEnd st o t L mc ms ∧ ∀ q ∈ L, free q.base) ∨ ∃ q, o = .threw q ∧ vx_T XC st q t mc ms free
/-- a callee that returns or throws -/
def vx_Met (l : Launch) (y : MethodName) (ws : List Cond) (rm : Room) (Pc : Array Value → State → Prop) (Qc : Array Value → State → Outcome → State → Prop) (XC : String → State → State → Prop) (mc ms : Nat) (free : Addr → Prop) : Prop :=
  MetFree l y (headSpec ws rm) Pc (fun _ _ _ _ _ => True) (vx_Q Qc XC mc ms free)
def vx_Post (XC : String → State → State → Prop) (mc ms : Nat) (free : Addr → Prop) : Pt → Array Value → Addr → Pt → Prop := fun A a q B =>
  ∃ (g : JFrame) (mk : MethodId) (t : State) (L : List Loc) (E : String) (ce : Cell), B.U.heap = t.heap ∧ B.U.vm = t.vm ∧ XC E (A.U.calling g mk a) t ∧ t.heap[q]? = some ce ∧ ce.vm = .none ∧ A.U.vm.findClass E = some ce.cls ∧ B.locs = A.locs ++ L ∧ (∀ z ∈ L, free z.base) ∧ B.cells = A.cells + mc ∧ B.slots = A.slots + ms
def vx_Back (l : Launch) (R : Room) (p : Program) (e : Env) (below : List Frame) (s : State) (sargs : Array Value) (y : MethodName) (len W9 : Nat)
    (Pre : Pt → Array Value → Prop) (Post : Pt → Array Value → Option Value → Pt → Prop) (PostX : Pt → Array Value → Addr → Pt → Prop) : Prop :=
  ∀ (m : MethodId) (meth : Method) (c : Code) (A : Pt) (g : JFrame) (ig : Instr) (mk : MethodId) (a : Array Value),
    Stand p l e R s m sargs below meth c A.U A.locs A.cells A.slots → g.method = m → g.locals.size = c.maxLocals → decode c.code g.pc = .ok (ig, len) →
    2 * g.monitorRoom + (g.stack.map fun v => v.category).sum ≤ W9 → A.U.methodNamed? y = some mk → Pre A a →
    (∃ (v : Option Value) (B : Pt), Stand p l e R s m sargs below meth c B.U B.locs B.cells B.slots ∧ Post A a v B ∧
      Steps p.tables e below (doInvoke e (A.U.setTop g) [] mk a).1 (B.U.setTop { g with pc := g.pc + len, stack := v.toList ++ g.stack })) ∨
    (∃ (q : Addr) (B : Pt), Stand p l e R s m sargs below meth c B.U B.locs B.cells B.slots ∧ PostX A a q B ∧
      Steps p.tables e below (doInvoke e (A.U.setTop g) [] mk a).1 ((B.U.setTop g).pushFrame (.throwing q)))
section Payer
variable {l : Launch} {R : Room} {p : Program} {e : Env} {below : List Frame} {s : State} {sargs : Array Value} {y : MethodName} {len W9 : Nat}
theorem vx_back {ws : List Cond} {rm : Room} {Pc : Array Value → State → Prop} {Qc : Array Value → State → Outcome → State → Prop} {XC : String → State → State → Prop} {mc ms : Nat} {free : Addr → Prop} {bytes : ByteArray} {maxL : Nat} {ret : Option FieldType}
    (hM : vx_Met l y ws rm Pc Qc XC mc ms free) (hblind : FrameBlind Pc) (hrc : rm.cells = mc) (hrs : rm.slots = ms)
    (hframes : rm.frames + 1 ≤ R.frames) (hlocals : W9 + (maxL + 11) + rm.locals ≤ R.locals)
    (hws : ∀ w ∈ ws, ∀ a' U, s.WarmedH U.vm → w.before a' U = true) (hcode : Cond.code y bytes maxL ret ∈ ws) (hinit : ∀ a' U, s.WarmedH U.vm → (Cond.initialized y.cls).before a' U = true) :
    vx_Back l R p e below s sargs y len W9 (PreOf R mc ms Pc) (PostOf Qc mc ms free) (vx_Post XC mc ms free) := by
  intro m meth c A g ig mk a X hg hsize hdg hW hn hp
  have h1 : (headSpec ws rm).pre.before a A.U = true := atoms_intro fun w hw => hws w hw _ _ X.warmed
  have h2 : (Cond.code y bytes maxL ret).before a A.U = true := hws _ hcode _ _ X.warmed
  have h3 : (Cond.initialized y.cls).before a A.U = true := hinit _ _ X.warmed
  have h4 : A.cells + (headSpec ws rm).room.cells ≤ R.cells := by rw [show (headSpec ws rm).room.cells = mc from hrc]; exact hp.1
  have h5 : A.slots + (headSpec ws rm).room.slots ≤ R.slots := by rw [show (headSpec ws rm).room.slots = ms from hrs]; exact hp.2.1
  have hPc : Pc a (A.U.calling g mk a) := hblind _ _ _ _ hp.2.2
  obtain ⟨U, Ls, c0, s0⟩ := A
  dsimp only [Pt.U, Pt.locs, Pt.cells, Pt.slots] at h1 h2 h3 h4 h5 X hn hPc ⊢
  obtain ⟨methY, cY, hmY, hcY, -, hlY, -, -, -, -⟩ := Cond.code_spec hn h2
  obtain ⟨kY, hkY, -⟩ := className_of_methodNamed hn
  have hinitY : kY.init = .initialized := Cond.initialized_spec (findClass_of_methodNamed hn) hkY h3
  have h : At U g.method c below := by rw [hg]; exact X.here
  have hlocals9 : W9 + (maxL + 11) + (headSpec ws rm).room.locals ≤ R.locals := hlocals
  have happ : (headSpec ws rm).appliesLoose y e.platform (U.calling g mk a) = true :=
    Spec.appliesLoose_calling (g := g) h hdg hn hkY hinitY
      (X.room_calling (g := g) (R' := (headSpec ws rm).room) hsize hmY hcY hframes (by rw [hlY]; omega) h4 h5) h1
  obtain ⟨mid, hmid⟩ := h.above
  have hfr : (U.setTop g).frames = (.java g :: mid) ++ below := by rw [State.frames_setTop' g h.top, hmid]; rfl
  obtain ⟨o, s₂, hsteps, -, hend, hq⟩ := Steps.callFree hM p X.admits X.cas X.clock (acts := []) hfr happ hPc trivial
  have hq' : vx_Q Qc XC mc ms free a (U.calling g mk a) o s₂ := hq
  rw [State.frames_setTop' g h.top] at hend
  obtain ⟨g₀, hg0⟩ := Option.isSome_iff_exists.mp h.top
  obtain ⟨r, hr⟩ := State.topJava?_eq_some.mp hg0
  have hr' : (({ U with heap := s₂.heap, slotsUsed := s₂.slotsUsed } : State).setVm s₂.vm).frames = .java g₀ :: r := hr
  rcases hq' with ⟨hqc, L, hfe, hL⟩ | ⟨q, rfl, E, ce, L, hx, hce, hcv, hcl, hW₂, hsm, hL⟩
  · obtain ⟨⟨v, rfl⟩, hW₂, e2, q2, q3, q4, q5, q6⟩ := id hfe
    have e3 : s₂ = ({ (U.calling g mk a).setFrames s₂.frames with heap := s₂.heap, slotsUsed := s₂.slotsUsed } : State).setVm s₂.vm := by
      have : s₂ = ({ s₂ with vm := (U.calling g mk a).vm } : State).setVm s₂.vm := rfl
      rw [e2] at this
      exact this
    obtain ⟨c₂, i₂, len₂, hc₂, hd₂, hf₂⟩ := hend
    have hW' : U.WarmedH s₂.vm := hW₂
    have hcc : c₂ = c := by
      have h1 : s₂.code? g.method = U.code? g.method := by
        rw [State.code?_eq, State.code?_eq, hW'.alike.method?]
      exact Option.some.inj (hc₂.symm.trans (h1.trans h.code))
    subst hcc
    have hlen : len₂ = len := by rw [hdg] at hd₂; cases hd₂; rfl
    subst hlen
    have hs₂ : s₂ = (({ U with heap := s₂.heap, slotsUsed := s₂.slotsUsed } : State).setVm s₂.vm).setTop { g with pc := g.pc + len₂, stack := v.toList ++ g.stack } := by
      refine e3.trans ?_
      rw [hf₂, State.calling_eq h.top, State.setFrames_setFrames, State.setTop_of_frames _ hr', hr]
      rfl
    have hsame : U.sameButNew ({ U with heap := s₂.heap, slotsUsed := s₂.slotsUsed } : State) L mc ms := by
      refine ⟨?_, q2, q3, q4, q5, q6⟩
      obtain ⟨t, ht, -⟩ := State.frames_cons hr
      show ({ U with heap := s₂.heap, slotsUsed := s₂.slotsUsed } : State) = { U.setFrames U.frames with heap := s₂.heap, slotsUsed := s₂.slotsUsed }
      rw [State.setFrames_self ht]
    subst hg
    refine Or.inl ⟨v, ⟨(({ U with heap := s₂.heap, slotsUsed := s₂.slotsUsed } : State).setVm s₂.vm), Ls ++ L, c0 + mc, s0 + ms⟩,
      ⟨X.admits, X.cas, X.clock, X.frames, X.room, X.hears, X.method, X.code, (X.here.setHeapUsed s₂.heap s₂.slotsUsed).setVm hW'.alike, X.tail, State.WarmedH.trans X.warmed hW', X.limits, X.bytes, X.same.trans (hsame.setVm s.vm)⟩,
      ⟨g, mk, s₂, L, rfl, rfl, hqc, rfl, hL, rfl, rfl⟩, ?_⟩
    show Steps p.tables e below _ ((({ U with heap := s₂.heap, slotsUsed := s₂.slotsUsed } : State).setVm s₂.vm).setTop { g with pc := g.pc + len₂, stack := v.toList ++ g.stack })
    rw [← hs₂]
    exact hsteps
  · obtain ⟨e2, q2, q3, q4, q5, q6⟩ := id hsm
    have e3 : s₂ = ({ (U.calling g mk a).setFrames s₂.frames with heap := s₂.heap, slotsUsed := s₂.slotsUsed } : State).setVm s₂.vm := by
      have : s₂ = ({ s₂ with vm := (U.calling g mk a).vm } : State).setVm s₂.vm := rfl
      rw [e2] at this
      exact this
    have hf₂ : s₂.frames = .throwing q :: .java g :: U.frames.tail := hend
    have hW' : U.WarmedH s₂.vm := hW₂
    have hs₂ : s₂ = ((({ U with heap := s₂.heap, slotsUsed := s₂.slotsUsed } : State).setVm s₂.vm).setTop g).pushFrame (.throwing q) := by
      refine e3.trans ?_
      rw [hf₂, State.calling_eq h.top, State.setFrames_setFrames, State.pushFrame, State.frames_setTop _ hr', State.setTop_of_frames _ hr', State.setFrames_setFrames, hr]
      rfl
    have hsame : U.sameButNew ({ U with heap := s₂.heap, slotsUsed := s₂.slotsUsed } : State) L mc ms := by
      refine ⟨?_, q2, q3, q4, q5, q6⟩
      obtain ⟨t, ht, -⟩ := State.frames_cons hr
      show ({ U with heap := s₂.heap, slotsUsed := s₂.slotsUsed } : State) = { U.setFrames U.frames with heap := s₂.heap, slotsUsed := s₂.slotsUsed }
      rw [State.setFrames_self ht]
    subst hg
    refine Or.inr ⟨q, ⟨(({ U with heap := s₂.heap, slotsUsed := s₂.slotsUsed } : State).setVm s₂.vm), Ls ++ L, c0 + mc, s0 + ms⟩,
      ⟨X.admits, X.cas, X.clock, X.frames, X.room, X.hears, X.method, X.code, (X.here.setHeapUsed s₂.heap s₂.slotsUsed).setVm hW'.alike, X.tail, State.WarmedH.trans X.warmed hW', X.limits, X.bytes, X.same.trans (hsame.setVm s.vm)⟩,
      ⟨g, mk, s₂, L, E, ce, rfl, rfl, hx, hce, hcv, hcl, rfl, hL, rfl, rfl⟩, ?_⟩
    show Steps p.tables e below _ (((({ U with heap := s₂.heap, slotsUsed := s₂.slotsUsed } : State).setVm s₂.vm).setTop g).pushFrame (.throwing q))
    rw [← hs₂]
    exact hsteps
end Payer
section Calls
variable {p : Program} {l : Launch} {e : Env} {R : Room} {s : State} {m : MethodId} {args : Array Value} {below : List Frame} {meth : Method} {c : Code} {T : State} {locs : List Loc} {cells slots : Nat}
theorem vx_callV (X : Stand p l e R s m args below meth c T locs cells slots) (hexec : p.tables.exec = Jvm.exec) {own C : String} {index : Nat} {y : MethodName} {bytes : ByteArray} {maxL : Nat} {ret : Option FieldType}
    (hown : s.vm.findClass own = some m.cls) (hlink : (Cond.methodLink own index y).before args s = true) (hinst : (Cond.instanceMethod y).before args s = true) (hsel : (Cond.selects C y y).before args s = true)
    (hcode : (Cond.code y bytes maxL ret).before args s = true) (hy : y.cls ≠ "java/lang/invoke/MethodHandle" ∧ y.cls ≠ "java/lang/invoke/VarHandle")
    {W9 : Nat} {Pre : Pt → Array Value → Prop} {Post : Pt → Array Value → Option Value → Pt → Prop} {PostX : Pt → Array Value → Addr → Pt → Prop} (hK : vx_Back l R p e below s args y 3 W9 Pre Post PostX)
    {b : Addr} {cellB : Cell} (hcell : T.heap[b]? = some cellB) (hobj : cellB.vm.isStatics = false) (hcls : s.vm.findClass C = some cellB.cls)
    {g : JFrame} (hg : g.method = m) (hsize : g.locals.size = c.maxLocals) {argsL rest : List Value} (hlen : ∀ sig, parseMethodDescriptor y.desc = some sig → argsL.length = sig.parameters.length)
    (hstack : g.stack = argsL.reverse ++ .ref b :: rest) (hW : 2 * g.monitorRoom + (rest.map fun v => v.category).sum ≤ W9) (hdg : decode c.code g.pc = .ok (.invokevirtual index, 3))
    (hpre : ∀ vm₁, s.WarmedH vm₁ → Pre ⟨T.setVm vm₁, locs, cells, slots⟩ (Value.ref b :: argsL).toArray) :
    (∃ (v : Option Value) (vm₁ : Vm) (B : Pt), s.WarmedH vm₁ ∧ Stand p l e R s m args below meth c B.U B.locs B.cells B.slots ∧ Post ⟨T.setVm vm₁, locs, cells, slots⟩ (Value.ref b :: argsL).toArray v B ∧
      ∀ target, Steps p.tables e below (B.U.setTop { g with pc := g.pc + 3, stack := v.toList ++ rest }) target → Steps p.tables e below (T.setTop g) target) ∨
    (∃ (q : Addr) (vm₁ : Vm) (B : Pt), s.WarmedH vm₁ ∧ Stand p l e R s m args below meth c B.U B.locs B.cells B.slots ∧ PostX ⟨T.setVm vm₁, locs, cells, slots⟩ (Value.ref b :: argsL).toArray q B ∧
      Steps p.tables e below (T.setTop g) ((B.U.setTop { g with stack := rest }).pushFrame (.throwing q))) := by
  obtain ⟨mk, methM, hnamed, hmethM, hstM, habM⟩ := Cond.instanceMethod_spec hinst
  obtain ⟨methM', cM, hmethM', -, -, -, -, -, -, hsigM⟩ := Cond.code_spec hnamed hcode
  cases hmethM.symm.trans hmethM'
  obtain ⟨c2, r2, m2, q1, q2, q3, q4, kP, hkP, hkPi⟩ := Cond.selects_spec hsel
  cases hcls.symm.trans q1
  cases (State.methodFound?_of_named hnamed hy).symm.trans q2
  cases hnamed.symm.trans q3
  have hselP : selectMethod e.platform s.vm cellB.cls mk = .method mk := by rw [Launch.admits_selectMethod X.admits]; exact q4
  obtain ⟨vm₁, X₁, hstep₁⟩ := X.invokevirtual hexec hown hlink hnamed hmethM hstM hkP hkPi hy (a := b) (cell := cellB) hcell
    (fun z h => by rw [h] at hobj; cases hobj) hselP hmethM habM hkP hkPi (g := g) hg (argsL := argsL) (rest := rest) (hlen _ hsigM) hstack hdg
  rcases hK m meth c ⟨T.setVm vm₁, locs, cells, slots⟩ { g with stack := rest } (.invokevirtual index) mk (Value.ref b :: argsL).toArray X₁ hg hsize hdg hW (X₁.named hnamed) (hpre vm₁ X₁.warmed) with ⟨v, B, X', hpost, hsteps⟩ | ⟨q, B, X', hpost, hsteps⟩
  · exact Or.inl ⟨v, vm₁, B, X₁.warmed, X', hpost, fun target h => hstep₁ _ fun acts => by rw [doInvoke_state]; exact hsteps.trans h⟩
  · exact Or.inr ⟨q, vm₁, B, X₁.warmed, X', hpost, hstep₁ _ fun acts => by rw [doInvoke_state]; exact hsteps⟩
theorem vx_callS (X : Stand p l e R s m args below meth c T locs cells slots) (hexec : p.tables.exec = Jvm.exec) {own : String} {index : Nat} {y : MethodName} {bytes : ByteArray} {maxL : Nat} {ret : Option FieldType}
    (hown : s.vm.findClass own = some m.cls) (hlink : (Cond.methodLink own index y).before args s = true) (hstat : (Cond.static y).before args s = true) (hinit : (Cond.initialized y.cls).before args s = true)
    (hcode : (Cond.code y bytes maxL ret).before args s = true) (hy : y.cls ≠ "java/lang/invoke/MethodHandle" ∧ y.cls ≠ "java/lang/invoke/VarHandle")
    {W9 : Nat} {Pre : Pt → Array Value → Prop} {Post : Pt → Array Value → Option Value → Pt → Prop} {PostX : Pt → Array Value → Addr → Pt → Prop} (hK : vx_Back l R p e below s args y 3 W9 Pre Post PostX)
    {g : JFrame} (hg : g.method = m) (hsize : g.locals.size = c.maxLocals) {argsL rest : List Value} (hlen : ∀ sig, parseMethodDescriptor y.desc = some sig → argsL.length = sig.parameters.length)
    (hstack : g.stack = argsL.reverse ++ rest) (hW : 2 * g.monitorRoom + (rest.map fun v => v.category).sum ≤ W9) (hdg : decode c.code g.pc = .ok (.invokestatic index, 3))
    (hpre : ∀ vm₁, s.WarmedH vm₁ → Pre ⟨T.setVm vm₁, locs, cells, slots⟩ argsL.toArray) :
    (∃ (v : Option Value) (vm₁ : Vm) (B : Pt), s.WarmedH vm₁ ∧ Stand p l e R s m args below meth c B.U B.locs B.cells B.slots ∧ Post ⟨T.setVm vm₁, locs, cells, slots⟩ argsL.toArray v B ∧
      ∀ target, Steps p.tables e below (B.U.setTop { g with pc := g.pc + 3, stack := v.toList ++ rest }) target → Steps p.tables e below (T.setTop g) target) ∨
    (∃ (q : Addr) (vm₁ : Vm) (B : Pt), s.WarmedH vm₁ ∧ Stand p l e R s m args below meth c B.U B.locs B.cells B.slots ∧ PostX ⟨T.setVm vm₁, locs, cells, slots⟩ argsL.toArray q B ∧
      Steps p.tables e below (T.setTop g) ((B.U.setTop { g with stack := rest }).pushFrame (.throwing q))) := by
  obtain ⟨mk, hnamed⟩ := Cond.code_named hcode
  obtain ⟨methM, cM, hmethM, -, -, -, -, -, -, hsigM⟩ := Cond.code_spec hnamed hcode
  have hstatic : methM.isStatic = true := Cond.static_spec hnamed hmethM hstat
  obtain ⟨kP, hkP, -⟩ := className_of_methodNamed hnamed
  have hinitP : kP.init = .initialized := Cond.initialized_spec (findClass_of_methodNamed hnamed) hkP hinit
  obtain ⟨vm₁, X₁, hstep₁⟩ := X.invokestatic hexec hown hlink hnamed hmethM hstatic hkP hinitP hy (g := g) hg (argsL := argsL) (rest := rest) (hlen _ hsigM) hstack hdg
  rcases hK m meth c ⟨T.setVm vm₁, locs, cells, slots⟩ { g with stack := rest } (.invokestatic index) mk argsL.toArray X₁ hg hsize hdg hW (X₁.named hnamed) (hpre vm₁ X₁.warmed) with ⟨v, B, X', hpost, hsteps⟩ | ⟨q, B, X', hpost, hsteps⟩
  · exact Or.inl ⟨v, vm₁, B, X₁.warmed, X', hpost, fun target h => hstep₁ _ fun acts => by rw [doInvoke_state]; exact hsteps.trans h⟩
  · exact Or.inr ⟨q, vm₁, B, X₁.warmed, X', hpost, hstep₁ _ fun acts => by rw [doInvoke_state]; exact hsteps⟩
end Calls
theorem vx_cls {s : State} {T : State} {vm₁ : Vm} {E : String} {k : ClassId} (hW : s.WarmedH vm₁) (h : (T.setVm vm₁).vm.findClass E = some k) : s.vm.findClass E = some k := by
  have h1 : vm₁.findClass E = some k := h
  rw [hW.alike.findClass] at h1
  exact h1
/-- the method's frame g, with q thrown over it -/
def vx_W (p : Program) (l : Launch) (e : Env) (R : Room) (s : State) (m : MethodId) (args : Array Value) (below : List Frame) (meth : Method) (c : Code) (H : Heap) (locs : List Loc) (cells slots : Nat) (Q : State → Prop) (g : JFrame) (q : Addr) : Prop :=
  ∀ T : State, T.heap = H → Stand p l e R s m args below meth c T locs cells slots → ∃ t, Steps p.tables e below ((T.setTop g).pushFrame (.throwing q)) t ∧ Q t
def vx_Run (p : Program) (l : Launch) (e : Env) (R : Room) (s : State) (m : MethodId) (args : Array Value) (below : List Frame) (meth : Method) (c : Code) (H : Heap) (locs : List Loc) (cells slots mc ms : Nat) (g : JFrame) (rest : List Value) (Qa : State → Outcome → State → Prop) (XC : String → State → State → Prop) (free : Addr → Prop) : Prop :=
  ∀ T : State, T.heap = H → Stand p l e R s m args below meth c T locs cells slots →
    (∃ (v : Option Value) (st₀ t T' : State) (L : List Loc), st₀.heap = H ∧ Stand p l e R s m args below meth c T' (locs ++ L) (cells + mc) (slots + ms) ∧ (∀ q ∈ L, free q.base) ∧ T'.heap = t.heap ∧ T'.vm = t.vm ∧ Qa st₀ (.returned v) t ∧
      Goes p e below T g T' { g with pc := g.pc + 3, stack := v.toList ++ rest }) ∨
    (∃ (q : Addr) (st₀ t T' : State) (L : List Loc) (E : String) (ce : Cell), st₀.heap = H ∧ Stand p l e R s m args below meth c T' (locs ++ L) (cells + mc) (slots + ms) ∧ (∀ z ∈ L, free z.base) ∧ T'.heap = t.heap ∧ T'.vm = t.vm ∧ XC E st₀ t ∧ t.heap[q]? = some ce ∧ ce.vm = .none ∧ s.vm.findClass E = some ce.cls ∧
      Steps p.tables e below (T.setTop g) ((T'.setTop { g with stack := rest }).pushFrame (.throwing q)))
def vx_X {S : Type} (px : S → Prop) (B : String → S → State → Prop) (A : Nat → Prop) : String → State → State → Prop := fun E st t => ∃ u : S, px u ∧ B E u t ∧ va_F A st t
section Runs
variable {p : Program} {l : Launch} {e : Env} {R : Room} {s : State} {m : MethodId} {args : Array Value} {below : List Frame} {meth : Method} {c : Code} {H : Heap} {locs : List Loc} {cells slots : Nat}
variable {y : MethodName} {bytes cc : ByteArray} {maxL nL mc ms n index : Nat} {ret : Option FieldType} {ws : List Cond} {rm : Room} {Pc : Array Value → State → Prop} {Qc : Array Value → State → Outcome → State → Prop} {XC : String → State → State → Prop} {free : Addr → Prop} {Ts : List Cond} {own C : String} {b : Addr} {As rest : List Value} {g : JFrame}
theorem vx_callBack (cb : CallB R s args own index y bytes maxL ret ws rm mc ms n) (hM : vx_Met l y ws rm Pc Qc XC mc ms free) (hbl : FrameBlind Pc) : vx_Back l R p e below s args y 3 8 (PreOf R mc ms Pc) (PostOf Qc mc ms free) (vx_Post XC mc ms free) := by
  obtain ⟨hrc, hrs, hfr, hlo, hws, hcw, -, hini, -⟩ := cb
  exact vx_back (bytes := bytes) (maxL := maxL) (ret := ret) hM hbl hrc hrs hfr hlo hws hcw (fun a' U hW => word_at hW (Or.inl (by first | rfl | simp [Cond.onTables, Cond.keeps, Cond.steady])) hini)
theorem vx_runV (S : CallFix p m c cc nL s args Ts own) (hM : vx_Met l y ws rm Pc Qc XC mc ms free) (cw : CallW R s args own C index y bytes maxL ret ws rm mc ms n) (hp : PreV s H C b Pc As)
    (hg : g.method = m) (hn : As.length = n) (hsize : g.locals.size = nL) (hstack : g.stack = As.reverse ++ .ref b :: rest) (hW : 2 * g.monitorRoom + (rest.map fun v => v.category).sum ≤ 8) (hdg : decode cc g.pc = .ok (.invokevirtual index, 3)) (hf : cells + mc ≤ R.cells ∧ slots + ms ≤ R.slots) :
    vx_Run p l e R s m args below meth c H locs cells slots mc ms g rest (Qc (Value.ref b :: As).toArray) XC free := by
  have hK : vx_Back l R p e below s args y 3 8 (PreOf R mc ms Pc) (PostOf Qc mc ms free) (vx_Post XC mc ms free) := vx_callBack cw.1 hM hp.1
  obtain ⟨⟨-, -, -, -, -, -, hcode, -, hy, hlen, hl⟩, hin, hse⟩ := cw
  obtain ⟨hx, hb, hml, ho, -⟩ := S
  obtain ⟨-, ⟨cellB, hcB, hoB, hclB⟩, hPc⟩ := hp
  intro T hT X
  rcases vx_callV X hx (C := C) (bytes := bytes) (maxL := maxL) (ret := ret) ho hl hin hse hcode hy hK (by rw [hT]; exact hcB) hoB hclB hg (hsize.trans hml.symm) (argsL := As) (rest := rest) (fun sig h => hn.trans (hlen sig h)) hstack hW (by rw [hb]; exact hdg)
    (fun vm₁ hW₁ => ⟨hf.1, hf.2, hPc (T.setVm vm₁) hT hW₁⟩) with ⟨v, vm₁, ⟨U', l2, c2, s2⟩, hW₁, X', ⟨g', mk, t, L, e1, e2, hq, h1, hL, h2, h3⟩, st⟩ | ⟨q, vm₁, ⟨U', l2, c2, s2⟩, hW₁, X', ⟨g', mk, t, L, E, ce, e1, e2, hq, hce, hcv, hcl, h1, hL, h2, h3⟩, st⟩
  · dsimp only [Pt.U, Pt.locs, Pt.cells, Pt.slots] at X' e1 e2 h1 h2 h3 st
    subst h1; subst h2; subst h3
    exact Or.inl ⟨v, (T.setVm vm₁).calling g' mk (Value.ref b :: As).toArray, t, U', L, hT, X', hL, e1, e2, hq, st⟩
  · dsimp only [Pt.U, Pt.locs, Pt.cells, Pt.slots] at X' e1 e2 h1 h2 h3 st hcl
    subst h1; subst h2; subst h3
    exact Or.inr ⟨q, (T.setVm vm₁).calling g' mk (Value.ref b :: As).toArray, t, U', L, E, ce, hT, X', hL, e1, e2, hq, hce, hcv, vx_cls hW₁ hcl, st⟩
theorem vx_runS (S : CallFix p m c cc nL s args Ts own) (hM : vx_Met l y ws rm Pc Qc XC mc ms free) (cw : CallB R s args own index y bytes maxL ret ws rm mc ms n ∧ (Cond.static y).before args s = true) (hp : PreS s H Pc As)
    (hg : g.method = m) (hn : As.length = n) (hsize : g.locals.size = nL) (hstack : g.stack = As.reverse ++ rest) (hW : 2 * g.monitorRoom + (rest.map fun v => v.category).sum ≤ 8) (hdg : decode cc g.pc = .ok (.invokestatic index, 3)) (hf : cells + mc ≤ R.cells ∧ slots + ms ≤ R.slots) :
    vx_Run p l e R s m args below meth c H locs cells slots mc ms g rest (Qc As.toArray) XC free := by
  have hK : vx_Back l R p e below s args y 3 8 (PreOf R mc ms Pc) (PostOf Qc mc ms free) (vx_Post XC mc ms free) := vx_callBack cw.1 hM hp.1
  obtain ⟨⟨-, -, -, -, -, -, hcode, hini, hy, hlen, hl⟩, hstt⟩ := cw
  obtain ⟨hx, hb, hml, ho, -⟩ := S
  intro T hT X
  rcases vx_callS X hx (bytes := bytes) (maxL := maxL) (ret := ret) ho hl hstt hini hcode hy hK hg (hsize.trans hml.symm) (argsL := As) (rest := rest) (fun sig h => hn.trans (hlen sig h)) hstack hW (by rw [hb]; exact hdg)
    (fun vm₁ hW₁ => ⟨hf.1, hf.2, hp.2 (T.setVm vm₁) hT hW₁⟩) with ⟨v, vm₁, ⟨U', l2, c2, s2⟩, hW₁, X', ⟨g', mk, t, L, e1, e2, hq, h1, hL, h2, h3⟩, st⟩ | ⟨q, vm₁, ⟨U', l2, c2, s2⟩, hW₁, X', ⟨g', mk, t, L, E, ce, e1, e2, hq, hce, hcv, hcl, h1, hL, h2, h3⟩, st⟩
  · dsimp only [Pt.U, Pt.locs, Pt.cells, Pt.slots] at X' e1 e2 h1 h2 h3 st
    subst h1; subst h2; subst h3
    exact Or.inl ⟨v, (T.setVm vm₁).calling g' mk As.toArray, t, U', L, hT, X', hL, e1, e2, hq, st⟩
  · dsimp only [Pt.U, Pt.locs, Pt.cells, Pt.slots] at X' e1 e2 h1 h2 h3 st hcl
    subst h1; subst h2; subst h3
    exact Or.inr ⟨q, (T.setVm vm₁).calling g' mk As.toArray, t, U', L, E, ce, hT, X', hL, e1, e2, hq, hce, hcv, vx_cls hW₁ hcl, st⟩
end Runs
section Rows
variable {p : Program} {l : Launch} {e : Env} {R : Room} {s : State} {m : MethodId} {args : Array Value} {below : List Frame} {meth : Method} {c : Code} {H : Heap} {locs : List Loc} {cells slots : Nat} {Q : State → Prop}
variable {mc ms : Nat} {free : Addr → Prop} {A0 A1 : Nat → Prop} {H0 : Heap} {a : Array Value} {pc : Nat} {ls : Array Slot} {st0 rest : List Value}
theorem vx_keep {st₀ t T' : State} {L : List Loc} (h0 : st₀.heap = H) (e1 : T'.heap = t.heap) (hS : va_S A0 H0 H locs) (hA : ∀ q, q < H.size → A1 q → A0 q) (hf : ∀ q, free q → A0 q) (hL : ∀ q ∈ L, free q.base) (hF : va_F A1 st₀ t) :
    H.size ≤ T'.heap.size ∧ (∀ q : Nat, q < H.size → ¬ A1 q → T'.heap[q]? = H[q]?) ∧ va_S A0 H0 T'.heap (locs ++ L) := by
  obtain ⟨hz, hk⟩ := hF
  rw [h0] at hz hk
  exact ⟨by rw [e1]; exact hz, fun q h1 h2 => by rw [e1]; exact hk q h1 h2,
    ⟨Nat.le_trans hS.1 (by rw [e1]; exact hz), fun q h1 h2 => by rw [e1, hk q (Nat.lt_of_lt_of_le h1 hS.1) (fun z => h2 (hA q (Nat.lt_of_lt_of_le h1 hS.1) z))]; exact hS.2.1 q h1 h2, fun q hq => by
      rcases List.mem_append.mp hq with h | h
      · exact hS.2.2 q h
      · exact hf _ (hL q h)⟩⟩
theorem vx_calli {S SX : Type} {post : Int32 → S → Prop} {px : SX → Prop} {B : S → State → Prop} {BX : String → SX → State → Prop} {AX : Nat → Prop} (hr : vx_Run p l e R s m args below meth c H locs cells slots mc ms (F0 m pc ls st0) rest (va_Qi post B A1 a) (vx_X px BX AX) free) (hS : va_S A0 H0 H locs) (hA : ∀ q, q < H.size → A1 q → A0 q) (hf : ∀ q, free q → A0 q) (hAX : ∀ q, q < H.size → AX q → A0 q)
    (kx : ∀ (E : String) (ce : Cell) (q9 : Addr) (u : SX) (t : State) (H1 : Heap) (locs1 : List Loc), t.heap = H1 → s.vm.Alike t.vm → px u → BX E u t → H.size ≤ H1.size → (∀ q : Nat, q < H.size → ¬ AX q → H1[q]? = H[q]?) → va_S A0 H0 H1 locs1 → H1[q9]? = some ce → ce.vm = .none → s.vm.findClass E = some ce.cls → vx_W p l e R s m args below meth c H1 locs1 (cells + mc) (slots + ms) Q (F0 m pc ls rest) q9)
    (kk : ∀ (r : Int32) (u : S) (t : State) (H1 : Heap) (locs1 : List Loc), t.heap = H1 → s.vm.Alike t.vm → post r u → B u t → H.size ≤ H1.size → (∀ q : Nat, q < H.size → ¬ A1 q → H1[q]? = H[q]?) → va_S A0 H0 H1 locs1 → W p l e R s m args below meth c H1 locs1 (cells + mc) (slots + ms) Q (F0 m (pc + 3) ls (.int r :: rest))) : W p l e R s m args below meth c H locs cells slots Q (F0 m pc ls st0) := by
  intro T hT X
  rcases hr T hT X with ⟨v, st₀, t, T', L, h0, X', hL, e1, e2, ⟨⟨r, u, hv, hp, hb⟩, hF⟩, st⟩ | ⟨q, st₀, t, T', L, E, ce, h0, X', hL, e1, e2, ⟨u, hp, hb, hF⟩, hce, hcv, hcl, st⟩
  · cases hv
    obtain ⟨k1, k2, k3⟩ := vx_keep h0 e1 hS hA hf hL hF
    obtain ⟨t2, a1, b1⟩ := kk r u t T'.heap (locs ++ L) e1.symm (by rw [← e2]; exact X'.warmed.alike) hp hb k1 k2 k3 T' rfl X'
    exact ⟨t2, st t2 a1, b1⟩
  · obtain ⟨k1, k2, k3⟩ := vx_keep h0 e1 hS hAX hf hL hF
    obtain ⟨t2, a1, b1⟩ := kx E ce q u t T'.heap (locs ++ L) e1.symm (by rw [← e2]; exact X'.warmed.alike) hp hb k1 k2 k3 (by rw [e1]; exact hce) hcv hcl T' rfl X'
    exact ⟨t2, st.trans a1, b1⟩
theorem vx_calll {S SX : Type} {post : Int64 → S → Prop} {px : SX → Prop} {B : S → State → Prop} {BX : String → SX → State → Prop} {AX : Nat → Prop} (hr : vx_Run p l e R s m args below meth c H locs cells slots mc ms (F0 m pc ls st0) rest (va_Ql post B A1 a) (vx_X px BX AX) free) (hS : va_S A0 H0 H locs) (hA : ∀ q, q < H.size → A1 q → A0 q) (hf : ∀ q, free q → A0 q) (hAX : ∀ q, q < H.size → AX q → A0 q)
    (kx : ∀ (E : String) (ce : Cell) (q9 : Addr) (u : SX) (t : State) (H1 : Heap) (locs1 : List Loc), t.heap = H1 → s.vm.Alike t.vm → px u → BX E u t → H.size ≤ H1.size → (∀ q : Nat, q < H.size → ¬ AX q → H1[q]? = H[q]?) → va_S A0 H0 H1 locs1 → H1[q9]? = some ce → ce.vm = .none → s.vm.findClass E = some ce.cls → vx_W p l e R s m args below meth c H1 locs1 (cells + mc) (slots + ms) Q (F0 m pc ls rest) q9)
    (kk : ∀ (r : Int64) (u : S) (t : State) (H1 : Heap) (locs1 : List Loc), t.heap = H1 → s.vm.Alike t.vm → post r u → B u t → H.size ≤ H1.size → (∀ q : Nat, q < H.size → ¬ A1 q → H1[q]? = H[q]?) → va_S A0 H0 H1 locs1 → W p l e R s m args below meth c H1 locs1 (cells + mc) (slots + ms) Q (F0 m (pc + 3) ls (.long r :: rest))) : W p l e R s m args below meth c H locs cells slots Q (F0 m pc ls st0) := by
  intro T hT X
  rcases hr T hT X with ⟨v, st₀, t, T', L, h0, X', hL, e1, e2, ⟨⟨r, u, hv, hp, hb⟩, hF⟩, st⟩ | ⟨q, st₀, t, T', L, E, ce, h0, X', hL, e1, e2, ⟨u, hp, hb, hF⟩, hce, hcv, hcl, st⟩
  · cases hv
    obtain ⟨k1, k2, k3⟩ := vx_keep h0 e1 hS hA hf hL hF
    obtain ⟨t2, a1, b1⟩ := kk r u t T'.heap (locs ++ L) e1.symm (by rw [← e2]; exact X'.warmed.alike) hp hb k1 k2 k3 T' rfl X'
    exact ⟨t2, st t2 a1, b1⟩
  · obtain ⟨k1, k2, k3⟩ := vx_keep h0 e1 hS hAX hf hL hF
    obtain ⟨t2, a1, b1⟩ := kx E ce q u t T'.heap (locs ++ L) e1.symm (by rw [← e2]; exact X'.warmed.alike) hp hb k1 k2 k3 (by rw [e1]; exact hce) hcv hcl T' rfl X'
    exact ⟨t2, st.trans a1, b1⟩
theorem vx_callf {S SX : Type} {post : UInt32 → S → Prop} {px : SX → Prop} {B : S → State → Prop} {BX : String → SX → State → Prop} {AX : Nat → Prop} (hr : vx_Run p l e R s m args below meth c H locs cells slots mc ms (F0 m pc ls st0) rest (va_Qf post B A1 a) (vx_X px BX AX) free) (hS : va_S A0 H0 H locs) (hA : ∀ q, q < H.size → A1 q → A0 q) (hf : ∀ q, free q → A0 q) (hAX : ∀ q, q < H.size → AX q → A0 q)
    (kx : ∀ (E : String) (ce : Cell) (q9 : Addr) (u : SX) (t : State) (H1 : Heap) (locs1 : List Loc), t.heap = H1 → s.vm.Alike t.vm → px u → BX E u t → H.size ≤ H1.size → (∀ q : Nat, q < H.size → ¬ AX q → H1[q]? = H[q]?) → va_S A0 H0 H1 locs1 → H1[q9]? = some ce → ce.vm = .none → s.vm.findClass E = some ce.cls → vx_W p l e R s m args below meth c H1 locs1 (cells + mc) (slots + ms) Q (F0 m pc ls rest) q9)
    (kk : ∀ (r : UInt32) (u : S) (t : State) (H1 : Heap) (locs1 : List Loc), t.heap = H1 → s.vm.Alike t.vm → post r u → B u t → H.size ≤ H1.size → (∀ q : Nat, q < H.size → ¬ A1 q → H1[q]? = H[q]?) → va_S A0 H0 H1 locs1 → W p l e R s m args below meth c H1 locs1 (cells + mc) (slots + ms) Q (F0 m (pc + 3) ls (.float r :: rest))) : W p l e R s m args below meth c H locs cells slots Q (F0 m pc ls st0) := by
  intro T hT X
  rcases hr T hT X with ⟨v, st₀, t, T', L, h0, X', hL, e1, e2, ⟨⟨r, u, hv, hp, hb⟩, hF⟩, st⟩ | ⟨q, st₀, t, T', L, E, ce, h0, X', hL, e1, e2, ⟨u, hp, hb, hF⟩, hce, hcv, hcl, st⟩
  · cases hv
    obtain ⟨k1, k2, k3⟩ := vx_keep h0 e1 hS hA hf hL hF
    obtain ⟨t2, a1, b1⟩ := kk r u t T'.heap (locs ++ L) e1.symm (by rw [← e2]; exact X'.warmed.alike) hp hb k1 k2 k3 T' rfl X'
    exact ⟨t2, st t2 a1, b1⟩
  · obtain ⟨k1, k2, k3⟩ := vx_keep h0 e1 hS hAX hf hL hF
    obtain ⟨t2, a1, b1⟩ := kx E ce q u t T'.heap (locs ++ L) e1.symm (by rw [← e2]; exact X'.warmed.alike) hp hb k1 k2 k3 (by rw [e1]; exact hce) hcv hcl T' rfl X'
    exact ⟨t2, st.trans a1, b1⟩
theorem vx_calld {S SX : Type} {post : UInt64 → S → Prop} {px : SX → Prop} {B : S → State → Prop} {BX : String → SX → State → Prop} {AX : Nat → Prop} (hr : vx_Run p l e R s m args below meth c H locs cells slots mc ms (F0 m pc ls st0) rest (va_Qd post B A1 a) (vx_X px BX AX) free) (hS : va_S A0 H0 H locs) (hA : ∀ q, q < H.size → A1 q → A0 q) (hf : ∀ q, free q → A0 q) (hAX : ∀ q, q < H.size → AX q → A0 q)
    (kx : ∀ (E : String) (ce : Cell) (q9 : Addr) (u : SX) (t : State) (H1 : Heap) (locs1 : List Loc), t.heap = H1 → s.vm.Alike t.vm → px u → BX E u t → H.size ≤ H1.size → (∀ q : Nat, q < H.size → ¬ AX q → H1[q]? = H[q]?) → va_S A0 H0 H1 locs1 → H1[q9]? = some ce → ce.vm = .none → s.vm.findClass E = some ce.cls → vx_W p l e R s m args below meth c H1 locs1 (cells + mc) (slots + ms) Q (F0 m pc ls rest) q9)
    (kk : ∀ (r : UInt64) (u : S) (t : State) (H1 : Heap) (locs1 : List Loc), t.heap = H1 → s.vm.Alike t.vm → post r u → B u t → H.size ≤ H1.size → (∀ q : Nat, q < H.size → ¬ A1 q → H1[q]? = H[q]?) → va_S A0 H0 H1 locs1 → W p l e R s m args below meth c H1 locs1 (cells + mc) (slots + ms) Q (F0 m (pc + 3) ls (.double r :: rest))) : W p l e R s m args below meth c H locs cells slots Q (F0 m pc ls st0) := by
  intro T hT X
  rcases hr T hT X with ⟨v, st₀, t, T', L, h0, X', hL, e1, e2, ⟨⟨r, u, hv, hp, hb⟩, hF⟩, st⟩ | ⟨q, st₀, t, T', L, E, ce, h0, X', hL, e1, e2, ⟨u, hp, hb, hF⟩, hce, hcv, hcl, st⟩
  · cases hv
    obtain ⟨k1, k2, k3⟩ := vx_keep h0 e1 hS hA hf hL hF
    obtain ⟨t2, a1, b1⟩ := kk r u t T'.heap (locs ++ L) e1.symm (by rw [← e2]; exact X'.warmed.alike) hp hb k1 k2 k3 T' rfl X'
    exact ⟨t2, st t2 a1, b1⟩
  · obtain ⟨k1, k2, k3⟩ := vx_keep h0 e1 hS hAX hf hL hF
    obtain ⟨t2, a1, b1⟩ := kx E ce q u t T'.heap (locs ++ L) e1.symm (by rw [← e2]; exact X'.warmed.alike) hp hb k1 k2 k3 (by rw [e1]; exact hce) hcv hcl T' rfl X'
    exact ⟨t2, st.trans a1, b1⟩
theorem vx_callv {S SX : Type} {post : S → Prop} {px : SX → Prop} {B : S → State → Prop} {BX : String → SX → State → Prop} {AX : Nat → Prop} (hr : vx_Run p l e R s m args below meth c H locs cells slots mc ms (F0 m pc ls st0) rest (va_Qv post B A1 a) (vx_X px BX AX) free) (hS : va_S A0 H0 H locs) (hA : ∀ q, q < H.size → A1 q → A0 q) (hf : ∀ q, free q → A0 q) (hAX : ∀ q, q < H.size → AX q → A0 q)
    (kx : ∀ (E : String) (ce : Cell) (q9 : Addr) (u : SX) (t : State) (H1 : Heap) (locs1 : List Loc), t.heap = H1 → s.vm.Alike t.vm → px u → BX E u t → H.size ≤ H1.size → (∀ q : Nat, q < H.size → ¬ AX q → H1[q]? = H[q]?) → va_S A0 H0 H1 locs1 → H1[q9]? = some ce → ce.vm = .none → s.vm.findClass E = some ce.cls → vx_W p l e R s m args below meth c H1 locs1 (cells + mc) (slots + ms) Q (F0 m pc ls rest) q9)
    (kk : ∀ (u : S) (t : State) (H1 : Heap) (locs1 : List Loc), t.heap = H1 → s.vm.Alike t.vm → post u → B u t → H.size ≤ H1.size → (∀ q : Nat, q < H.size → ¬ A1 q → H1[q]? = H[q]?) → va_S A0 H0 H1 locs1 → W p l e R s m args below meth c H1 locs1 (cells + mc) (slots + ms) Q (F0 m (pc + 3) ls (rest))) : W p l e R s m args below meth c H locs cells slots Q (F0 m pc ls st0) := by
  intro T hT X
  rcases hr T hT X with ⟨v, st₀, t, T', L, h0, X', hL, e1, e2, ⟨⟨u, hv, hp, hb⟩, hF⟩, st⟩ | ⟨q, st₀, t, T', L, E, ce, h0, X', hL, e1, e2, ⟨u, hp, hb, hF⟩, hce, hcv, hcl, st⟩
  · cases hv
    obtain ⟨k1, k2, k3⟩ := vx_keep h0 e1 hS hA hf hL hF
    obtain ⟨t2, a1, b1⟩ := kk u t T'.heap (locs ++ L) e1.symm (by rw [← e2]; exact X'.warmed.alike) hp hb k1 k2 k3 T' rfl X'
    exact ⟨t2, st t2 a1, b1⟩
  · obtain ⟨k1, k2, k3⟩ := vx_keep h0 e1 hS hAX hf hL hF
    obtain ⟨t2, a1, b1⟩ := kx E ce q u t T'.heap (locs ++ L) e1.symm (by rw [← e2]; exact X'.warmed.alike) hp hb k1 k2 k3 (by rw [e1]; exact hce) hcv hcl T' rfl X'
    exact ⟨t2, st.trans a1, b1⟩
/-- caught by the row x of this method's table; the rows ahead don't take it -/
theorem vx_catch {own name : String} {E : String} {ce : Cell} {q : Addr} (hown : s.vm.findClass own = some m.cls) (pre : List ExceptionTableEntry) (x : ExceptionTableEntry) (suf : List ExceptionTableEntry) (hsplit : c.exceptionTable.toList = pre ++ x :: suf)
    (hpass : ∀ z ∈ pre, covers z pc = false ∨ (z.catchType ≠ 0 ∧ ∃ nm : String, (Cond.classLink own z.catchType nm).before args s = true ∧ va_Nc E nm s)) (hx : covers x pc = true) (h0 : x.catchType ≠ 0)
    (hlink : (Cond.classLink own x.catchType name).before args s = true) (hcast : (Cond.castable E name).before args s = true) (hcell : H[q]? = some ce) (hv : ce.vm = .none) (hcl : s.vm.findClass E = some ce.cls)
    (kk : W p l e R s m args below meth c H locs cells slots Q (F0 m x.handlerPc ls [.ref q])) : vx_W p l e R s m args below meth c H locs cells slots Q (F0 m pc ls rest) q := by
  intro T hT X
  have hpl : e.platform.magicAccessors = ({} : Platform).magicAccessors := by rw [X.admits.platform]
  obtain ⟨c3, c4, hc3, hc4, hasg⟩ := Cond.castable_spec hcast
  cases Option.some.inj (hc3.symm.trans hcl)
  obtain ⟨c5, hc5, hcl5⟩ := Cond.classLink_spec hown hlink e.platform hpl
  cases Option.some.inj (hc4.symm.trans hc5)
  obtain ⟨vm', X', st⟩ := X.thenCaughtThrough q (g := F0 m pc ls rest) rfl (Steps.refl _) (by rw [hT]; exact hcell) (by rw [hv]; rfl) (by obtain ⟨k9, h9, -⟩ := Vm.findClass_spec hcl; exact ⟨k9, h9⟩) pre x suf hsplit
    (fun z hz => by
      rcases hpass z hz with h | ⟨hz0, nm, hl1, hn1⟩
      · exact Or.inl h
      · obtain ⟨c6, hc6, hcl6⟩ := Cond.classLink_spec hown hl1 e.platform hpl
        obtain ⟨a8, b8, h1, h2, h3⟩ := hn1
        cases Option.some.inj (h1.symm.trans hcl)
        cases Option.some.inj (h2.symm.trans hc6)
        exact Or.inr ⟨hz0, _, hcl6, h3⟩) hx (Or.inr ⟨h0, c4, hcl5, hasg⟩)
  obtain ⟨t, a1, b1⟩ := kk (T.setVm vm') hT X'
  exact ⟨t, st.trans a1, b1⟩
end Rows
section Ends
variable {p : Program} {l : Launch} {e : Env} {R : Room} {s : State} {m : MethodId} {args : Array Value} {below : List Frame} {meth : Method} {c : Code} {H : Heap} {locs : List Loc} {cells slots : Nat} {Q : State → Prop}
variable {mc ms : Nat} {free : Addr → Prop} {A0 A1 : Nat → Prop} {H0 : Heap} {a : Array Value} {ls : Array Slot} {st0 rest : List Value}
variable {Qc : Array Value → State → Outcome → State → Prop} {XC : String → State → State → Prop}
/-- what a body that may throw owes at its end -/
def vx_MQ (below : List Frame) (Qc : Array Value → State → Outcome → State → Prop) (XC : String → State → State → Prop) (a : Array Value) (s : State) (mc ms : Nat) (free : Addr → Prop) : State → Prop := fun t =>
  ∃ o, t.status = .running ∧ Ended t below o ∧ vx_Q Qc XC mc ms free a s o t
theorem vx_ret {g : JFrame} {mc ms : Nat} (k : W p l e R s m args below meth c H locs cells slots (MQ below Qc args s mc ms free) g) : W p l e R s m args below meth c H locs cells slots (vx_MQ below Qc XC args s mc ms free) g := by
  intro T hT X
  obtain ⟨t, a1, o, b1, b2, b3, b4⟩ := k T hT X
  exact ⟨t, a1, o, b1, b2, Or.inl ⟨b3, b4⟩⟩
/-- not caught here: it goes on to the caller -/
theorem vx_widen {g : JFrame} {q : Addr} {k n : Nat} (h1 : cells ≤ k) (h2 : slots ≤ n) (kk : vx_W p l e R s m args below meth c H locs k n Q g q) : vx_W p l e R s m args below meth c H locs cells slots Q g q := fun T hT X => kk T hT (stand_widen X h1 h2)
theorem vx_out {pc : Nat} {E : String} {ce : Cell} {q : Addr} {mc ms : Nat} (hout : ∀ x ∈ c.exceptionTable.toList, covers x pc = false) (hlocks : meth.locks = false) (hcell : H[q]? = some ce) (hv : ce.vm = .none) (hcl : s.vm.findClass E = some ce.cls)
    (hx : ∀ t : State, t.heap = H → s.vm.Alike t.vm → XC E s t) (hf : ∀ z ∈ locs, free z.base) (hc : cells ≤ mc) (hs : slots ≤ ms) :
    vx_W p l e R s m args below meth c H locs cells slots (vx_MQ below Qc XC args s mc ms free) (F0 m pc ls rest) q := by
  intro T hT X
  obtain ⟨st1, hrun, hend, hW, hsm⟩ := X.leaveThrown q (g := F0 m pc ls rest) rfl rfl rfl hout hlocks
  have hcell9 : (T.setFrames (.throwing q :: below)).heap[q]? = some ce := by
    show T.heap[q]? = some ce
    rw [hT]; exact hcell
  exact ⟨_, st1, .threw q, hrun, hend, Or.inr ⟨q, rfl, E, ce, locs, hx _ hT hW.alike, hcell9, hv, hcl, hW, hsm.mono hc hs, hf⟩⟩
theorem vx_frame {U : State} {k n : Nat} (h : s.sameButNew ({ U with vm := s.vm } : State) locs k n) : s.heap.size ≤ U.heap.size ∧ ∀ q : Nat, q < s.heap.size → (∀ z ∈ locs, z.base ≠ q) → U.heap[q]? = s.heap[q]? := by
  obtain ⟨-, h2, -, -, -, h6⟩ := h
  refine ⟨h2, fun q hq hz => ?_⟩
  obtain ⟨c9, e1, e2, e3, e4⟩ := h6 q _ (Array.getElem?_eq_getElem hq)
  have hs : c9.slots = (s.heap[q]).slots := Array.ext_getElem? fun i => e4 i fun hm => hz _ hm rfl
  have h9 : c9 = s.heap[q] := by
    rw [hs] at e2
    exact e2
  have e5 : U.heap[q]? = some c9 := e1
  rw [e5, h9, Array.getElem?_eq_getElem hq]
/-- the words of a throw but the four that speak of the heap -/
def vx_no (w : Cond) : Bool := decide (w ≠ .isRef (.static Bundle.tN "UNASSIGNED_STACK" Bundle.steD)) && decide (w ≠ .isRef (.static Bundle.tN "SUPPRESSED_SENTINEL" Bundle.listD)) && decide (w ≠ .laysStatic Bundle.tN "UNASSIGNED_STACK" Bundle.steD) && decide (w ≠ .laysStatic Bundle.tN "SUPPRESSED_SENTINEL" Bundle.listD)
def vx_at0 (own : String) (ic : Nat) (X : String) (names : List String) : List Cond := (Bundle.ownAtoms0 own ic X names).filter vx_no
def vx_atS (own : String) (ic : Nat) (X : String) (names : List String) : List Cond := (Bundle.ownAtoms own ic X names).filter vx_no
/-- a word that the tables alone decide, or a good one -/
def vx_ot (w : Cond) : Bool := w.onTables || goodWord w
theorem vx_ot_at {args a' : Array Value} {s U : State} {w : Cond} (hW : s.WarmedH U.vm) (hvm : s.vm = U.vm) (hg : vx_ot w = true) (h : w.before args s = true) : w.before a' U = true := by
  simp only [vx_ot, Bool.or_eq_true] at hg
  rcases hg with hg | hg
  · exact va_tabs hg hvm h
  · exact word_at hW (good_of_word hg) h
/-- a list's words: the good ones out of the method's own list, the others by premises of their own -/
theorem vx_hat {args : Array Value} {s : State} {L B : List Cond} (h1 : ∀ w ∈ L.filter goodWord, w.before args s = true) (h2 : ∀ w ∈ L.filter (fun w => !goodWord w), w ∈ B) (h3 : ∀ w ∈ B, w.before args s = true) : ∀ w ∈ L, w.before args s = true := by
  intro w hw
  by_cases g : goodWord w = true
  · exact h1 w (List.mem_filter.mpr ⟨hw, g⟩)
  · refine h3 w (h2 w (List.mem_filter.mpr ⟨hw, ?_⟩))
    show (!goodWord w) = true
    cases hgw : goodWord w
    · rfl
    · exact absurd hgw g
theorem vx_c {args : Array Value} {s : State} {w : Cond} {B : List Cond} (h : w.before args s = true) (t : ∀ w ∈ B, w.before args s = true) : ∀ w' ∈ w :: B, w'.before args s = true := fun w' h' => (List.mem_cons.mp h').elim (fun e => by rw [e]; exact h) (t w')
theorem vx_n {args : Array Value} {s : State} : ∀ w ∈ ([] : List Cond), w.before args s = true := fun _ h => nomatch h
theorem vx_own {args : Array Value} {s : State} {L : List Cond} (h1 : ∀ w ∈ L.filter vx_no, w.before args s = true)
    (hU : (Cond.isRef (.static Bundle.tN "UNASSIGNED_STACK" Bundle.steD)).before args s = true) (hN : (Cond.isRef (.static Bundle.tN "SUPPRESSED_SENTINEL" Bundle.listD)).before args s = true)
    (lU : (Cond.laysStatic Bundle.tN "UNASSIGNED_STACK" Bundle.steD).before args s = true) (lN : (Cond.laysStatic Bundle.tN "SUPPRESSED_SENTINEL" Bundle.listD).before args s = true) : ∀ w ∈ L, w.before args s = true := by
  intro w hw
  by_cases e1 : w = .isRef (.static Bundle.tN "UNASSIGNED_STACK" Bundle.steD)
  · rw [e1]; exact hU
  · by_cases e2 : w = .isRef (.static Bundle.tN "SUPPRESSED_SENTINEL" Bundle.listD)
    · rw [e2]; exact hN
    · by_cases e3 : w = .laysStatic Bundle.tN "UNASSIGNED_STACK" Bundle.steD
      · rw [e3]; exact lU
      · by_cases e4 : w = .laysStatic Bundle.tN "SUPPRESSED_SENTINEL" Bundle.listD
        · rw [e4]; exact lN
        · exact h1 w (List.mem_filter.mpr ⟨hw, by unfold vx_no; rw [decide_eq_true e1, decide_eq_true e2, decide_eq_true e3, decide_eq_true e4]; rfl⟩)
/-- where a static field lies, its class's statics cell in H -/
def vx_L (C n d : String) (A : Nat → Prop) (U : State) (H : Heap) : Prop := ∃ (c : ClassId) (k : Class) (i : Nat) (f : Field) (a : Nat) (cell : Cell), U.vm.findClass C = some c ∧ U.fieldFound? C n d = some (c, k, i, f) ∧ f.isStatic = true ∧ k.statics = some a ∧ H[a]? = some cell ∧ cell.vm.isStatics = true ∧ cell.cls = c ∧ f.slot < cell.slots.size ∧ k.staticTypes[f.slot]? = some f.type ∧ ¬ A a
theorem vx_L.moved {C n d : String} {A : Nat → Prop} {u U : State} {H : Heap} (hvm : u.vm.Alike U.vm) (h : vx_L C n d A u H) : vx_L C n d A U H := by
  obtain ⟨c, k, i, f, a, cell, h1, h2, h3, h4, h5, h6, h7, h8, h9, h10⟩ := h
  obtain ⟨k', hi', he⟩ := State.fieldFound?_setVm hvm h2
  exact ⟨c, k', i, f, a, cell, by rw [hvm.findClass]; exact h1, hi', h3, by rw [he]; exact h4, h5, h6, h7, h8, by rw [he]; exact h9, h10⟩
theorem vx_L.kept {C n d : String} {A : Nat → Prop} {U : State} {H H1 : Heap} (h : vx_L C n d A U H) (hq : ∀ a : Nat, a < H.size → ¬ A a → H1[a]? = H[a]?) : vx_L C n d A U H1 := by
  obtain ⟨c, k, i, f, a, cell, h1, h2, h3, h4, h5, h6, h7, h8, h9, h10⟩ := h
  exact ⟨c, k, i, f, a, cell, h1, h2, h3, h4, by rw [hq a (Array.getElem?_eq_some_iff.mp h5).1 h10]; exact h5, h6, h7, h8, h9, h10⟩
theorem vx_L.narrow {C n d : String} {A B : Nat → Prop} {U : State} {H : Heap} (h : vx_L C n d A U H) (hAB : ∀ q, B q → A q) : vx_L C n d B U H := by
  obtain ⟨c, k, i, f, a, cell, h1, h2, h3, h4, h5, h6, h7, h8, h9, h10⟩ := h
  exact ⟨c, k, i, f, a, cell, h1, h2, h3, h4, h5, h6, h7, h8, h9, fun z => h10 (hAB _ z)⟩
theorem vx_L.word {C n d : String} {A : Nat → Prop} {s : State} {args : Array Value} (h : vx_L C n d A s s.heap) : (Cond.laysStatic C n d).before args s = true := by
  obtain ⟨c, k, i, f, a, cell, h1, h2, h3, h4, h5, h6, h7, h8, h9, -⟩ := h
  show (Cond.laysStatic C n d).holds args s none s [] = true
  exact Cond.laysStatic_of h1 h2 h3 h4 h5 h6 h7 h8 h9
/-- .. and what it holds: null or some reference -/
def vx_Zq (C n d : String) (A : Nat → Prop) (U : State) (H : Heap) : Prop := va_Zq C n d A U H ∧ vx_L C n d A U H
theorem vx_Zq.moved {C n d : String} {A : Nat → Prop} {u U : State} {H : Heap} (hvm : u.vm.Alike U.vm) (h : vx_Zq C n d A u H) : vx_Zq C n d A U H := ⟨va_Zq.moved hvm h.1, vx_L.moved hvm h.2⟩
theorem vx_Zq.kept {C n d : String} {A : Nat → Prop} {U : State} {H H1 : Heap} (h : vx_Zq C n d A U H) (hq : ∀ a : Nat, a < H.size → ¬ A a → H1[a]? = H[a]?) : vx_Zq C n d A U H1 := ⟨va_Zq.kept h.1 hq, vx_L.kept h.2 hq⟩
theorem vx_Zq.narrow {C n d : String} {A B : Nat → Prop} {U : State} {H : Heap} (h : vx_Zq C n d A U H) (hAB : ∀ q, B q → A q) : vx_Zq C n d B U H := ⟨va_Zq.narrow h.1 hAB, vx_L.narrow h.2 hAB⟩
theorem vx_Zqof {args : Array Value} {s : State} {C n d : String} {A : Nat → Prop} (hl : (Cond.laysStatic C n d).before args s = true) (hini : (Cond.initialized C).before args s = true) (h : (Cond.isRef (.static C n d)).before args s = true) (hA : ∀ a : Nat, a < s.heap.size → ¬ A a) : vx_Zq C n d A s s.heap := by
  refine ⟨va_Zqof hl hini h hA, ?_⟩
  obtain ⟨c, k, i, f, a, cell, h1, h2, h3, h4, h5, h6, h7, h8, h9⟩ := Cond.laysStatic_spec hl
  exact ⟨c, k, i, f, a, cell, h1, h2, h3, h4, h5, h6, h7, h8, h9, hA a (Array.getElem?_eq_some_iff.mp h5).1⟩
theorem vx_isRef {C n d : String} {v : Value} {A : Nat → Prop} {s : State} {args : Array Value} (h : va_Z C n d v A s s.heap) (hv : v.isRef = true) : (Cond.isRef (.static C n d)).before args s = true := by
  obtain ⟨cf, kf, fi, f, a, cell, h1, h2, h3, h4, h5, h6, h7, -⟩ := h
  have he : (Term.static C n d).eval args s none [] s = some v := by
    simp [Term.eval, State.fieldNamed?, h1, h2, h4, h5, h6, h7]
  simp only [Cond.before, Cond.holds, Cond.value, he]
  cases v <;> simp_all [Value.isRef]
theorem vx_isRefq {C n d : String} {A : Nat → Prop} {s : State} {args : Array Value} (h : va_Zq C n d A s s.heap) : (Cond.isRef (.static C n d)).before args s = true := by
  rcases h with h | ⟨t, h⟩
  · exact vx_isRef h rfl
  · exact vx_isRef h rfl
/-- the same frame, seen from here: as if the method were called anew in this heap -/
theorem vx_rebase {T : State} (X : Stand p l e R s m args below meth c T locs cells slots) {R' : Room} (hf : R'.frames ≤ R.frames) (hl : R'.locals ≤ R.locals) (hc : cells + R'.cells ≤ R.cells) (hs : slots + R'.slots ≤ R.slots) :
    Stand p l e R' ((T.setVm s.vm).setFrames (.invoking m args :: below)) m args below meth c T [] 0 0 := by
  have htop : (T.setVm s.vm).topJava?.isSome := X.here.top
  have hF : ((T.setVm s.vm).setFrames (.invoking m args :: below)).frames = .invoking m args :: below := State.frames_setFrames _ (State.cur_lt_of_top htop)
  obtain ⟨g₀, hg0⟩ := Option.isSome_iff_exists.mp htop
  obtain ⟨r, hr⟩ := State.topJava?_eq_some.mp hg0
  have hl9 : e.platform.stackLimits (T.setVm s.vm).me = e.platform.stackLimits s.me := X.limits
  have hb9 : (T.setVm s.vm).me.stackBytes = s.me.stackBytes := X.bytes
  refine ⟨X.admits, X.cas, X.clock, hF, ?_, X.hears, X.method, X.code, X.here, X.tail, X.warmed, ?_, ?_, ?_⟩
  · have h := X.room
    have hU : ((T.setVm s.vm).setFrames (.invoking m args :: below)).localsInUse = s.localsInUse := by
      rw [State.localsInUse_invoking hF (meth := meth) (c := c) X.method X.code, State.localsInUse_invoking X.frames X.method X.code]
    simp only [State.hasRoom, Bool.and_eq_true, decide_eq_true_eq] at h ⊢
    obtain ⟨⟨⟨⟨h1, h2, h3, h4, h5, h6⟩, h7⟩, h8⟩, h9⟩ := h
    rw [X.frames, List.length_cons] at h2 h3
    have q1 := X.heapSize
    have q2 := X.used
    simp only [hF, hU, List.length_cons, State.stackLimits_setFrames, State.stackBytes_setFrames, hl9, hb9]
    refine ⟨⟨⟨⟨by omega, by omega, by omega, by omega, by omega, h6⟩, ?_⟩, ?_⟩, X.book⟩
    · show T.heap.size + R'.cells ≤ e.platform.maxCells
      omega
    · show T.slotsUsed + R'.slots ≤ e.platform.maxSlots
      omega
  · rw [State.stackLimits_setFrames]; rfl
  · rw [State.stackBytes_setFrames]; rfl
  · refine ⟨?_, Nat.le_refl _, Nat.le_refl _, ?_, ?_, fun a c9 h9 => ⟨c9, h9, rfl, rfl, fun _ _ => rfl⟩⟩
    · obtain ⟨t, ht, -⟩ := State.frames_cons hr
      show T.setVm s.vm = { ((T.setVm s.vm).setFrames (.invoking m args :: below)).setFrames (T.setVm s.vm).frames with heap := T.heap, slotsUsed := T.slotsUsed }
      rw [State.setFrames_setFrames, State.setFrames_self ht]
      rfl
    · show T.slotsUsed = T.slotsUsed + ((T.heap.toList.drop T.heap.size).map (·.slots.size)).sum
      rw [List.drop_eq_nil_of_le (Nat.le_of_eq Array.length_toList)]
      rfl
    · show ((T.heap.toList.drop T.heap.size).map (·.slots.size)).sum ≤ 0
      rw [List.drop_eq_nil_of_le (Nat.le_of_eq Array.length_toList)]
      exact Nat.le_refl _
/-- 'throw new E()': new; dup; invokespecial; athrow -/
theorem vx_throw0 {cc : ByteArray} {pc : Nat} (hexec : p.tables.exec = Jvm.exec) (hb : c.code = cc) (hl : l.stackTraces = false) {own cls : String} {names : List String} {ik ic mc ms : Nat} {A : Nat → Prop}
    (hown : s.vm.findClass own = some m.cls) (hcls : Bundle.fit cls = true) (hnames : ∀ n ∈ names, Bundle.fit n = true)
    (hk : (Cond.classLink own ik cls).before args s = true) (hini : (Cond.initialized cls).before args s = true) (hat : ∀ w ∈ vx_at0 own ic cls names, w.before args s = true)
    (hgood : ∀ w ∈ Cond.classLink own ik cls :: Cond.initialized cls :: vx_at0 own ic cls names, vx_ot w = true)
    (hU : vx_Zq Bundle.tN "UNASSIGNED_STACK" Bundle.steD A s s.heap) (hN : vx_Zq Bundle.tN "SUPPRESSED_SENTINEL" Bundle.listD A s s.heap) (hS : va_S A s.heap H locs) (hsize : ls.size = c.maxLocals)
    (d0 : decode cc pc = .ok (.new ik, 3)) (d3 : decode cc (pc + 3) = .ok (.dup, 1)) (d4 : decode cc (pc + 4) = .ok (.invokespecial ic, 3)) (d7 : decode cc (pc + 7) = .ok (.athrow, 1))
    (hout : ∀ x ∈ c.exceptionTable.toList, covers x (pc + 7) = false)
    (hRframes : names.length + 3 < R.frames) (hRlocals : (rest.map fun v => v.category).sum + (13 * (names.length + 1) + 42) ≤ R.locals) (hRcells : cells + 1 ≤ R.cells) (hRslots : slots + 6 ≤ R.slots) (hlocks : meth.locks = false)
    (hx : ∀ t : State, s.vm.Alike t.vm → H.size ≤ t.heap.size → (∀ q : Nat, q < H.size → t.heap[q]? = H[q]?) → XC cls s t)
    (hf : ∀ z ∈ locs, free z.base) (hc : cells + 1 ≤ mc) (hs : slots + 6 ≤ ms) :
    W p l e R s m args below meth c H locs cells slots (vx_MQ below Qc XC args s mc ms free) (F0 m pc ls rest) := by
  intro T hT X
  have htr : e.platform.stackTraces = false := (show e.platform.stackTraces = l.stackTraces by rw [X.admits.platform]).trans hl
  have Y := vx_rebase X (R' := { frames := R.frames, locals := R.locals, cells := 1, slots := 6 }) (Nat.le_refl _) (Nat.le_refl _) hRcells hRslots
  obtain ⟨s', hA⟩ : ∃ z, z = (T.setVm s.vm).setFrames (.invoking m args :: below) := ⟨_, rfl⟩
  rw [← hA] at Y
  have hvm : s'.vm = s.vm := by rw [hA]; rfl
  have hhp : s'.heap = H := by rw [hA]; exact hT
  have hW0 : s.WarmedH s'.vm := by rw [hvm]; exact State.WarmedH.refl s
  have hat' : ∀ w ∈ vx_at0 own ic cls names, w.before args s' = true := fun w hw => vx_ot_at hW0 hvm.symm (hgood w (List.mem_cons_of_mem _ (List.mem_cons_of_mem _ hw))) (hat w hw)
  have hk' : (Cond.classLink own ik cls).before args s' = true := vx_ot_at hW0 hvm.symm (hgood _ List.mem_cons_self) hk
  have hini' : (Cond.initialized cls).before args s' = true := vx_ot_at hW0 hvm.symm (hgood _ (List.mem_cons_of_mem _ List.mem_cons_self)) hini
  have hU' : vx_Zq Bundle.tN "UNASSIGNED_STACK" Bundle.steD A s' s'.heap := by rw [hhp]; exact vx_Zq.moved hW0.alike (hU.kept hS.2.1)
  have hN' : vx_Zq Bundle.tN "SUPPRESSED_SENTINEL" Bundle.listD A s' s'.heap := by rw [hhp]; exact vx_Zq.moved hW0.alike (hN.kept hS.2.1)
  have h : ∀ w ∈ Bundle.ownAtoms0 own ic cls names, w.before args s' = true := vx_own hat' (vx_isRefq hU'.1) (vx_isRefq hN'.1) hU'.2.word hN'.2.word
  have hown' : s'.vm.findClass own = some m.cls := by rw [hvm]; exact hown
  have hins : (Cond.instantiable cls 6).before args s' = true := h _ (by simp [Bundle.ownAtoms0])
  obtain ⟨vm₁, cX, kX, hfX, hkX, -, -, X₁, st1⟩ := Y.newCold hexec (own := own) (C := cls) (index := ik) (n := 6) hown' hk' hins hini'
    (g := F0 m pc ls rest) rfl (by rw [hb]; exact d0) (Nat.le_refl _) (Nat.le_refl _)
  generalize hT1 : (T.setVm vm₁).pushCell { cls := cX, slots := kX.instanceTypes.map defaultValue, vm := .none } = T1 at X₁ st1
  have hcat : (Value.ref T.heap.size).category = 1 := rfl
  have hcellA : T1.heap[T.heap.size]? = some (freshCell cX kX) := by rw [← hT1]; exact State.heap_pushCell_size _ _
  have d3' : decode c.code (pc + 3) = .ok (.dup, 1) := by rw [hb]; exact d3
  obtain ⟨U, hsteps, hrun, hend, hW, hsame, ce, hce, hO⟩ := X₁.ctorThrow0 hexec htr (own := own) (cls := cls) (names := names) (ic := ic) hown' hcls hnames h (fun x hx => nomatch hx) hfX hkX hcellA (by rw [hhp, hT]; exact Nat.le_refl _)
    (g := { method := m, pc := pc + 4, locals := ls, stack := .ref T.heap.size :: .ref T.heap.size :: rest, locked := none }) rfl hsize rfl rfl (rest := rest) rfl
    (by rw [hb]; exact d4) (by rw [hb]; exact d7) hout hRframes (by simp only [List.map_cons, List.sum_cons, hcat]; omega) hlocks
  obtain ⟨f1, f2⟩ := vx_frame hsame
  rw [hhp] at f1 f2
  have hWs : s.WarmedH U.vm := State.WarmedH.trans hW0 hW
  have hcl : s.vm.findClass cls = some ce.cls := by
    have h9 := hO.cls
    rw [hvm] at h9
    exact h9
  have hall : s.sameButNew ({ U with vm := s.vm } : State) locs mc ms := by
    subst hA
    obtain ⟨e1, e2⟩ := hsame
    rw [State.setFrames_setFrames] at e1
    have h2 : (T.setVm s.vm).sameButNew ({ U with vm := s.vm } : State) [] (0 + 1) (0 + 6) := ⟨e1, e2⟩
    have h3 := X.same.trans h2
    rw [List.append_nil] at h3
    exact h3.mono hc hs
  refine ⟨U, ?_, .threw T.heap.size, hrun, hend, Or.inr ⟨T.heap.size, rfl, cls, ce, locs, hx U hWs.alike f1 (fun q hq => f2 q hq (fun z hz => nomatch hz)), hce, hO.vm, hcl, hWs, hall, hf⟩⟩
  refine st1 _ ?_
  show Steps p.tables e below (T1.setTop { method := m, pc := pc + 3, locals := ls, stack := .ref T.heap.size :: rest, locked := none }) _
  jvm_step X₁.here [X₁.here.top, hexec, d3', Value.category]
  exact hsteps
/-- 'throw new E("text")': new; dup; ldc; invokespecial; athrow -/
theorem vx_throwS {cc : ByteArray} {pc : Nat} (hexec : p.tables.exec = Jvm.exec) (hb : c.code = cc) (hl : l.stackTraces = false) {own cls text : String} {names : List String} {ik is ic mc ms sa : Nat} {A : Nat → Prop}
    (hown : s.vm.findClass own = some m.cls) (hcls : Bundle.fit cls = true) (hnames : ∀ n ∈ names, Bundle.fit n = true)
    (hk : (Cond.classLink own ik cls).before args s = true) (hini : (Cond.initialized cls).before args s = true) (hstr : vk_R own is text sa s) (hat : ∀ w ∈ vx_atS own ic cls names, w.before args s = true)
    (hgood : ∀ w ∈ Cond.classLink own ik cls :: Cond.initialized cls :: vx_atS own ic cls names, vx_ot w = true)
    (hU : vx_Zq Bundle.tN "UNASSIGNED_STACK" Bundle.steD A s s.heap) (hN : vx_Zq Bundle.tN "SUPPRESSED_SENTINEL" Bundle.listD A s s.heap) (hS : va_S A s.heap H locs) (hsize : ls.size = c.maxLocals)
    (d0 : decode cc pc = .ok (.new ik, 3)) (d3 : decode cc (pc + 3) = .ok (.dup, 1)) (d4 : decode cc (pc + 4) = .ok (.ldc is, 2)) (d6 : decode cc (pc + 6) = .ok (.invokespecial ic, 3)) (d9 : decode cc (pc + 9) = .ok (.athrow, 1))
    (hout : ∀ x ∈ c.exceptionTable.toList, covers x (pc + 9) = false)
    (hRframes : names.length + 3 < R.frames) (hRlocals : (rest.map fun v => v.category).sum + (13 * (names.length + 1) + 43) ≤ R.locals) (hRcells : cells + 1 ≤ R.cells) (hRslots : slots + 6 ≤ R.slots) (hlocks : meth.locks = false)
    (hx : ∀ t : State, s.vm.Alike t.vm → H.size ≤ t.heap.size → (∀ q : Nat, q < H.size → t.heap[q]? = H[q]?) → XC cls s t)
    (hf : ∀ z ∈ locs, free z.base) (hc : cells + 1 ≤ mc) (hs : slots + 6 ≤ ms) :
    W p l e R s m args below meth c H locs cells slots (vx_MQ below Qc XC args s mc ms free) (F0 m pc ls rest) := by
  intro T hT X
  have htr : e.platform.stackTraces = false := (show e.platform.stackTraces = l.stackTraces by rw [X.admits.platform]).trans hl
  have Y := vx_rebase X (R' := { frames := R.frames, locals := R.locals, cells := 1, slots := 6 }) (Nat.le_refl _) (Nat.le_refl _) hRcells hRslots
  obtain ⟨s', hA⟩ : ∃ z, z = (T.setVm s.vm).setFrames (.invoking m args :: below) := ⟨_, rfl⟩
  rw [← hA] at Y
  have hvm : s'.vm = s.vm := by rw [hA]; rfl
  have hhp : s'.heap = H := by rw [hA]; exact hT
  have hW0 : s.WarmedH s'.vm := by rw [hvm]; exact State.WarmedH.refl s
  have hat' : ∀ w ∈ vx_atS own ic cls names, w.before args s' = true := fun w hw => vx_ot_at hW0 hvm.symm (hgood w (List.mem_cons_of_mem _ (List.mem_cons_of_mem _ hw))) (hat w hw)
  have hk' : (Cond.classLink own ik cls).before args s' = true := vx_ot_at hW0 hvm.symm (hgood _ List.mem_cons_self) hk
  have hini' : (Cond.initialized cls).before args s' = true := vx_ot_at hW0 hvm.symm (hgood _ (List.mem_cons_of_mem _ List.mem_cons_self)) hini
  have hU' : vx_Zq Bundle.tN "UNASSIGNED_STACK" Bundle.steD A s' s'.heap := by rw [hhp]; exact vx_Zq.moved hW0.alike (hU.kept hS.2.1)
  have hN' : vx_Zq Bundle.tN "SUPPRESSED_SENTINEL" Bundle.listD A s' s'.heap := by rw [hhp]; exact vx_Zq.moved hW0.alike (hN.kept hS.2.1)
  have h : ∀ w ∈ Bundle.ownAtoms own ic cls names, w.before args s' = true := vx_own hat' (vx_isRefq hU'.1) (vx_isRefq hN'.1) hU'.2.word hN'.2.word
  have hown' : s'.vm.findClass own = some m.cls := by rw [hvm]; exact hown
  have hins : (Cond.instantiable cls 6).before args s' = true := h _ (by simp [Bundle.ownAtoms])
  obtain ⟨vm₁, cX, kX, hfX, hkX, -, -, X₁, st1⟩ := Y.newCold hexec (own := own) (C := cls) (index := ik) (n := 6) hown' hk' hins hini'
    (g := F0 m pc ls rest) rfl (by rw [hb]; exact d0) (Nat.le_refl _) (Nat.le_refl _)
  generalize hT1 : (T.setVm vm₁).pushCell { cls := cX, slots := kX.instanceTypes.map defaultValue, vm := .none } = T1 at X₁ st1
  have hcat : (Value.ref T.heap.size).category = 1 := rfl
  have hcellA : T1.heap[T.heap.size]? = some (freshCell cX kX) := by rw [← hT1]; exact State.heap_pushCell_size _ _
  have d3' : decode c.code (pc + 3) = .ok (.dup, 1) := by rw [hb]; exact d3
  have d4' : decode c.code (pc + 4) = .ok (.ldc is, 2) := by rw [hb]; exact d4
  have hstr' : vk_R own is text sa s' := vk_R.warm hW0 hstr
  obtain ⟨U, hsteps, hrun, hend, hW, hsame, ce, hce, hO⟩ := X₁.ctorThrowS hexec htr (own := own) (cls := cls) (names := names) (ic := ic) hown' hcls hnames h (fun x hx => nomatch hx) hfX hkX hcellA (by rw [hhp, hT]; exact Nat.le_refl _) (msg := .ref sa) rfl
    (g := { method := m, pc := pc + 6, locals := ls, stack := .ref sa :: .ref T.heap.size :: .ref T.heap.size :: rest, locked := none }) rfl hsize rfl rfl (rest := rest) rfl
    (by rw [hb]; exact d6) (by rw [hb]; exact d9) hout hRframes (by simp only [List.map_cons, List.sum_cons, hcat]; omega) hlocks
  obtain ⟨f1, f2⟩ := vx_frame hsame
  rw [hhp] at f1 f2
  have hWs : s.WarmedH U.vm := State.WarmedH.trans hW0 hW
  have hcl : s.vm.findClass cls = some ce.cls := by
    have h9 := hO.cls
    rw [hvm] at h9
    exact h9
  have hall : s.sameButNew ({ U with vm := s.vm } : State) locs mc ms := by
    subst hA
    obtain ⟨e1, e2⟩ := hsame
    rw [State.setFrames_setFrames] at e1
    have h2 : (T.setVm s.vm).sameButNew ({ U with vm := s.vm } : State) [] (0 + 1) (0 + 6) := ⟨e1, e2⟩
    have h3 := X.same.trans h2
    rw [List.append_nil] at h3
    exact h3.mono hc hs
  refine ⟨U, ?_, .threw T.heap.size, hrun, hend, Or.inr ⟨T.heap.size, rfl, cls, ce, locs, hx U hWs.alike f1 (fun q hq => f2 q hq (fun z hz => nomatch hz)), hce, hO.vm, hcl, hWs, hall, hf⟩⟩
  refine st1 _ ?_
  show Steps p.tables e below (T1.setTop { method := m, pc := pc + 3, locals := ls, stack := .ref T.heap.size :: rest, locked := none }) _
  jvm_step X₁.here [X₁.here.top, hexec, d3', Value.category]
  exact X₁.ldcString hexec (own := own) (text := text) (index := is) (a := sa) hown' hstr'.1 hstr'.2
    (g := { method := m, pc := pc + 4, locals := ls, stack := .ref T.heap.size :: .ref T.heap.size :: rest, locked := none }) rfl d4' _ hsteps
/-- 'throw new E("text")', the text by a wide index -/
theorem vx_throwSW {cc : ByteArray} {pc : Nat} (hexec : p.tables.exec = Jvm.exec) (hb : c.code = cc) (hl : l.stackTraces = false) {own cls text : String} {names : List String} {ik is ic mc ms sa : Nat} {A : Nat → Prop}
    (hown : s.vm.findClass own = some m.cls) (hcls : Bundle.fit cls = true) (hnames : ∀ n ∈ names, Bundle.fit n = true)
    (hk : (Cond.classLink own ik cls).before args s = true) (hini : (Cond.initialized cls).before args s = true) (hstr : vk_R own is text sa s) (hat : ∀ w ∈ vx_atS own ic cls names, w.before args s = true)
    (hgood : ∀ w ∈ Cond.classLink own ik cls :: Cond.initialized cls :: vx_atS own ic cls names, vx_ot w = true)
    (hU : vx_Zq Bundle.tN "UNASSIGNED_STACK" Bundle.steD A s s.heap) (hN : vx_Zq Bundle.tN "SUPPRESSED_SENTINEL" Bundle.listD A s s.heap) (hS : va_S A s.heap H locs) (hsize : ls.size = c.maxLocals)
    (d0 : decode cc pc = .ok (.new ik, 3)) (d3 : decode cc (pc + 3) = .ok (.dup, 1)) (d4 : decode cc (pc + 4) = .ok (.ldc_w is, 3)) (d7 : decode cc (pc + 7) = .ok (.invokespecial ic, 3)) (d10 : decode cc (pc + 10) = .ok (.athrow, 1))
    (hout : ∀ x ∈ c.exceptionTable.toList, covers x (pc + 10) = false)
    (hRframes : names.length + 3 < R.frames) (hRlocals : (rest.map fun v => v.category).sum + (13 * (names.length + 1) + 43) ≤ R.locals) (hRcells : cells + 1 ≤ R.cells) (hRslots : slots + 6 ≤ R.slots) (hlocks : meth.locks = false)
    (hx : ∀ t : State, s.vm.Alike t.vm → H.size ≤ t.heap.size → (∀ q : Nat, q < H.size → t.heap[q]? = H[q]?) → XC cls s t)
    (hf : ∀ z ∈ locs, free z.base) (hc : cells + 1 ≤ mc) (hs : slots + 6 ≤ ms) :
    W p l e R s m args below meth c H locs cells slots (vx_MQ below Qc XC args s mc ms free) (F0 m pc ls rest) := by
  intro T hT X
  have htr : e.platform.stackTraces = false := (show e.platform.stackTraces = l.stackTraces by rw [X.admits.platform]).trans hl
  have Y := vx_rebase X (R' := { frames := R.frames, locals := R.locals, cells := 1, slots := 6 }) (Nat.le_refl _) (Nat.le_refl _) hRcells hRslots
  obtain ⟨s', hA⟩ : ∃ z, z = (T.setVm s.vm).setFrames (.invoking m args :: below) := ⟨_, rfl⟩
  rw [← hA] at Y
  have hvm : s'.vm = s.vm := by rw [hA]; rfl
  have hhp : s'.heap = H := by rw [hA]; exact hT
  have hW0 : s.WarmedH s'.vm := by rw [hvm]; exact State.WarmedH.refl s
  have hat' : ∀ w ∈ vx_atS own ic cls names, w.before args s' = true := fun w hw => vx_ot_at hW0 hvm.symm (hgood w (List.mem_cons_of_mem _ (List.mem_cons_of_mem _ hw))) (hat w hw)
  have hk' : (Cond.classLink own ik cls).before args s' = true := vx_ot_at hW0 hvm.symm (hgood _ List.mem_cons_self) hk
  have hini' : (Cond.initialized cls).before args s' = true := vx_ot_at hW0 hvm.symm (hgood _ (List.mem_cons_of_mem _ List.mem_cons_self)) hini
  have hU' : vx_Zq Bundle.tN "UNASSIGNED_STACK" Bundle.steD A s' s'.heap := by rw [hhp]; exact vx_Zq.moved hW0.alike (hU.kept hS.2.1)
  have hN' : vx_Zq Bundle.tN "SUPPRESSED_SENTINEL" Bundle.listD A s' s'.heap := by rw [hhp]; exact vx_Zq.moved hW0.alike (hN.kept hS.2.1)
  have h : ∀ w ∈ Bundle.ownAtoms own ic cls names, w.before args s' = true := vx_own hat' (vx_isRefq hU'.1) (vx_isRefq hN'.1) hU'.2.word hN'.2.word
  have hown' : s'.vm.findClass own = some m.cls := by rw [hvm]; exact hown
  have hins : (Cond.instantiable cls 6).before args s' = true := h _ (by simp [Bundle.ownAtoms])
  obtain ⟨vm₁, cX, kX, hfX, hkX, -, -, X₁, st1⟩ := Y.newCold hexec (own := own) (C := cls) (index := ik) (n := 6) hown' hk' hins hini'
    (g := F0 m pc ls rest) rfl (by rw [hb]; exact d0) (Nat.le_refl _) (Nat.le_refl _)
  generalize hT1 : (T.setVm vm₁).pushCell { cls := cX, slots := kX.instanceTypes.map defaultValue, vm := .none } = T1 at X₁ st1
  have hcat : (Value.ref T.heap.size).category = 1 := rfl
  have hcellA : T1.heap[T.heap.size]? = some (freshCell cX kX) := by rw [← hT1]; exact State.heap_pushCell_size _ _
  have d3' : decode c.code (pc + 3) = .ok (.dup, 1) := by rw [hb]; exact d3
  have d4' : decode c.code (pc + 4) = .ok (.ldc_w is, 3) := by rw [hb]; exact d4
  have hstr' : vk_R own is text sa s' := vk_R.warm hW0 hstr
  obtain ⟨U, hsteps, hrun, hend, hW, hsame, ce, hce, hO⟩ := X₁.ctorThrowS hexec htr (own := own) (cls := cls) (names := names) (ic := ic) hown' hcls hnames h (fun x hx => nomatch hx) hfX hkX hcellA (by rw [hhp, hT]; exact Nat.le_refl _) (msg := .ref sa) rfl
    (g := { method := m, pc := pc + 7, locals := ls, stack := .ref sa :: .ref T.heap.size :: .ref T.heap.size :: rest, locked := none }) rfl hsize rfl rfl (rest := rest) rfl
    (by rw [hb]; exact d7) (by rw [hb]; exact d10) hout hRframes (by simp only [List.map_cons, List.sum_cons, hcat]; omega) hlocks
  obtain ⟨f1, f2⟩ := vx_frame hsame
  rw [hhp] at f1 f2
  have hWs : s.WarmedH U.vm := State.WarmedH.trans hW0 hW
  have hcl : s.vm.findClass cls = some ce.cls := by
    have h9 := hO.cls
    rw [hvm] at h9
    exact h9
  have hall : s.sameButNew ({ U with vm := s.vm } : State) locs mc ms := by
    subst hA
    obtain ⟨e1, e2⟩ := hsame
    rw [State.setFrames_setFrames] at e1
    have h2 : (T.setVm s.vm).sameButNew ({ U with vm := s.vm } : State) [] (0 + 1) (0 + 6) := ⟨e1, e2⟩
    have h3 := X.same.trans h2
    rw [List.append_nil] at h3
    exact h3.mono hc hs
  refine ⟨U, ?_, .threw T.heap.size, hrun, hend, Or.inr ⟨T.heap.size, rfl, cls, ce, locs, hx U hWs.alike f1 (fun q hq => f2 q hq (fun z hz => nomatch hz)), hce, hO.vm, hcl, hWs, hall, hf⟩⟩
  refine st1 _ ?_
  show Steps p.tables e below (T1.setTop { method := m, pc := pc + 3, locals := ls, stack := .ref T.heap.size :: rest, locked := none }) _
  jvm_step X₁.here [X₁.here.top, hexec, d3', Value.category]
  exact X₁.ldcStringW hexec (own := own) (text := text) (index := is) (a := sa) hown' hstr'.1 hstr'.2
    (g := { method := m, pc := pc + 4, locals := ls, stack := .ref T.heap.size :: .ref T.heap.size :: rest, locked := none }) rfl d4' _ hsteps
end Ends
section Bodies
variable {l : Launch}
theorem vx_ofW {y : MethodName} {ws ws' : List Cond} {rm : Room} {Pc : Array Value → State → Prop} {Qc : Array Value → State → Outcome → State → Prop} {XC : String → State → State → Prop} {mc ms : Nat} {free : Addr → Prop} {cc : ByteArray} {maxL : Nat} {ret : Option FieldType}
    (hy : plainName y.cls = true) (hw : ws = Cond.code y cc maxL ret :: ws')
    (body : ∀ p e s m args below meth c s₁, BodyLoose p l y (headSpec ws rm) cc maxL ret e s m args below meth c s₁ → c.maxLocals = maxL → (∀ x ∈ c.exceptionTable.toList, False) → Pc args s →
      W p l e (headSpec ws rm).room s m args below meth c s.heap [] 0 0 (vx_MQ below Qc XC args s mc ms free) (entryFrame m args maxL)) : vx_Met l y ws rm Pc Qc XC mc ms free := by
  refine MetFree.of_bodyS (code := cc) (maxLocals := maxL) (ret := ret) hy ?_ ?_
  · intro args s m h hn
    obtain ⟨meth, c, h1, h2, h3, h4, h5, h6, -, -⟩ := Cond.code_spec hn (atoms_spec (ws := ws) h _ (by rw [hw]; exact List.mem_cons_self))
    exact ⟨meth, c, h1, h2, h3, h4, h5, h6⟩
  · intro p e s m args below meth c s₁ B hml hP _
    have hh0 : s₁.heap = s.heap := by rw [B.state]; rfl
    have ht : ∀ x ∈ c.exceptionTable.toList, False := by
      obtain ⟨meth9, c9, h1, h2, -, -, -, -, h7, -⟩ := Cond.code_spec B.named (atoms_spec (ws := ws) B.pre _ (by rw [hw]; exact List.mem_cons_self))
      cases Option.some.inj (h1.symm.trans B.method)
      cases Option.some.inj (h2.symm.trans (Stand.of_body B).code)
      intro x hx
      rw [Array.isEmpty_iff.mp h7] at hx
      cases hx
    obtain ⟨t, a1, o, b1, b2, b3⟩ := body p e s m args below meth c s₁ B hml ht hP s₁ hh0 (Stand.of_body B)
    exact ⟨t, o, a1, b1, b2, b3⟩
/-- the table of a body with handlers -/
theorem vx_table {p : Program} {x y : MethodName} {S : Spec} {cc bytes : ByteArray} {maxL maxL' : Nat} {ret ret' : Option FieldType} {e : Env} {s s₁ : State} {m : MethodId} {args : Array Value} {below : List Frame} {meth : Method} {c : Code} {hh : List (Nat × Nat × Nat × Nat)}
    (B : BodyLoose p l y S cc maxL ret e s m args below meth c s₁) (h : (Cond.codeWith y bytes maxL' ret' hh).before args s = true) : c.exceptionTable.toList = tableOf hh := by
  obtain ⟨m9, meth9, c9, hn9, h1, h2, -, -, h6, -⟩ := Cond.codeWith_spec h
  cases Option.some.inj (hn9.symm.trans B.named)
  cases Option.some.inj (h1.symm.trans B.method)
  cases Option.some.inj (h2.symm.trans (Stand.of_body B).code)
  rw [← h6, table_eq]
end Bodies
end VXA
/-! ===== END ===== -/
/-! ===== BEGIN a static call of a method with an exception table ===== -/
section VXS
variable {p : Program} {l : Launch} {e : Env} {R : Room} {s : State} {m : MethodId} {args : Array Value} {below : List Frame} {meth : Method} {c : Code} {T : State} {H : Heap} {locs : List Loc} {cells slots : Nat}
abbrev vx_CSW (R : Room) (s : State) (args : Array Value) (own : String) (index : Nat) (y : MethodName) (bytes : ByteArray) (maxL : Nat) (ret : Option FieldType) (hh : List (Nat × Nat × Nat × Nat)) (ws : List Cond) (rm : Room) (mc ms n : Nat) : Prop :=
  (rm.cells = mc ∧ rm.slots = ms ∧ rm.frames + 1 ≤ R.frames ∧ 8 + (maxL + 11) + rm.locals ≤ R.locals ∧ (∀ w ∈ ws, ∀ (a' : Array Value) (U : State), s.WarmedH U.vm → w.before a' U = true) ∧ Cond.codeWith y bytes maxL ret hh ∈ ws) ∧
  (Cond.codeWith y bytes maxL ret hh).before args s = true ∧ (Cond.initialized y.cls).before args s = true ∧ (y.cls ≠ "java/lang/invoke/MethodHandle" ∧ y.cls ≠ "java/lang/invoke/VarHandle") ∧
  (∀ sig, parseMethodDescriptor y.desc = some sig → n = sig.parameters.length) ∧ (Cond.methodLink own index y).before args s = true ∧ (Cond.static y).before args s = true
theorem vx_cwSW {own : String} {index maxL mc ms : Nat} {y : MethodName} {bytes : ByteArray} {ret : Option FieldType} {hh : List (Nat × Nat × Nat × Nat)} {Ts ws ws' : List Cond} {rm : Room} (n : Nat) (ht : ∀ w ∈ Ts, w.before args s = true) (hT : GoodIn Ts (va_wsS own index y ws)) (hw : ws = Cond.codeWith y bytes maxL ret hh :: ws') (hrc : rm.cells = mc) (hrs : rm.slots = ms)
    (hd : y.cls ≠ "java/lang/invoke/MethodHandle" ∧ y.cls ≠ "java/lang/invoke/VarHandle" ∧ (parseMethodDescriptor y.desc).map (fun d => d.parameters.length) = some n) (hR : rm.frames + 1 ≤ R.frames ∧ 8 + (maxL + 11) + rm.locals ≤ R.locals) :
    vx_CSW R s args own index y bytes maxL ret hh ws rm mc ms n := by
  have ok : ∀ w ∈ va_wsS own index y ws, w.before args s = true := fun w h => ht w (hT w h).1
  have hG : GoodIn Ts ws := fun w h => hT w (by unfold va_wsS; exact List.mem_append_right _ h)
  have hc : Cond.codeWith y bytes maxL ret hh ∈ ws := by rw [hw]; exact List.mem_cons_self
  refine ⟨⟨hrc, hrs, hR.1, hR.2, pay_in ht hG, hc⟩, ht _ (hG _ hc).1, ok _ (by simp [va_wsS]), ⟨hd.1, hd.2.1⟩, fun sig h => ?_, ok _ (by simp [va_wsS]), ok _ (by simp [va_wsS])⟩
  have h2 := hd.2.2
  rw [h] at h2
  exact (Option.some.inj h2).symm
theorem vx_callSW (X : Stand p l e R s m args below meth c T locs cells slots) (hexec : p.tables.exec = Jvm.exec) {own : String} {index : Nat} {y : MethodName} {bytes : ByteArray} {maxL : Nat} {ret : Option FieldType} {hh : List (Nat × Nat × Nat × Nat)}
    (hown : s.vm.findClass own = some m.cls) (hlink : (Cond.methodLink own index y).before args s = true) (hstat : (Cond.static y).before args s = true) (hinit : (Cond.initialized y.cls).before args s = true)
    (hcode : (Cond.codeWith y bytes maxL ret hh).before args s = true) (hy : y.cls ≠ "java/lang/invoke/MethodHandle" ∧ y.cls ≠ "java/lang/invoke/VarHandle")
    {W9 : Nat} {Pre : Pt → Array Value → Prop} {Post : Pt → Array Value → Option Value → Pt → Prop} (hK : Back l R p e below s args y 3 W9 Pre Post)
    {g : JFrame} (hg : g.method = m) (hsize : g.locals.size = c.maxLocals) {argsL rest : List Value} (hlen : ∀ sig, parseMethodDescriptor y.desc = some sig → argsL.length = sig.parameters.length)
    (hstack : g.stack = argsL.reverse ++ rest) (hW : 2 * g.monitorRoom + (rest.map fun v => v.category).sum ≤ W9) (hdg : decode c.code g.pc = .ok (.invokestatic index, 3))
    (hpre : ∀ vm₁, s.WarmedH vm₁ → Pre ⟨T.setVm vm₁, locs, cells, slots⟩ argsL.toArray) :
    ∃ (v : Option Value) (vm₁ : Vm) (B : Pt), s.WarmedH vm₁ ∧ Stand p l e R s m args below meth c B.U B.locs B.cells B.slots ∧ Post ⟨T.setVm vm₁, locs, cells, slots⟩ argsL.toArray v B ∧
      ∀ target, Steps p.tables e below (B.U.setTop { g with pc := g.pc + 3, stack := v.toList ++ rest }) target → Steps p.tables e below (T.setTop g) target := by
  obtain ⟨mk, methM, cM, hnamed, hmethM, -, -, -, -, -, -, hsigM⟩ := Cond.codeWith_spec hcode
  have hstatic : methM.isStatic = true := Cond.static_spec hnamed hmethM hstat
  obtain ⟨kP, hkP, -⟩ := className_of_methodNamed hnamed
  have hinitP : kP.init = .initialized := Cond.initialized_spec (findClass_of_methodNamed hnamed) hkP hinit
  obtain ⟨vm₁, X₁, hstep₁⟩ := X.invokestatic hexec hown hlink hnamed hmethM hstatic hkP hinitP hy (g := g) hg (argsL := argsL) (rest := rest) (hlen _ hsigM) hstack hdg
  obtain ⟨v, B, X', hpost, hsteps⟩ := hK m meth c ⟨T.setVm vm₁, locs, cells, slots⟩ { g with stack := rest } (.invokestatic index) mk argsL.toArray X₁ hg hsize hdg hW (X₁.named hnamed) (hpre vm₁ X₁.warmed)
  exact ⟨v, vm₁, B, X₁.warmed, X', hpost, fun target h => hstep₁ _ fun acts => by rw [doInvoke_state]; exact hsteps.trans h⟩
theorem vx_runSW {y : MethodName} {bytes cc : ByteArray} {maxL nL mc ms n index : Nat} {ret : Option FieldType} {hh : List (Nat × Nat × Nat × Nat)} {ws : List Cond} {rm : Room} {Pc : Array Value → State → Prop} {Qc : Array Value → State → Outcome → State → Prop} {free : Addr → Prop} {Ts : List Cond} {own : String} {As rest : List Value} {g : JFrame}
    (S : CallFix p m c cc nL s args Ts own) (hM : Met l y ws rm Pc Qc mc ms free) (cw : vx_CSW R s args own index y bytes maxL ret hh ws rm mc ms n) (hp : PreS s H Pc As)
    (hg : g.method = m) (hn : As.length = n) (hsize : g.locals.size = nL) (hstack : g.stack = As.reverse ++ rest) (hW : 2 * g.monitorRoom + (rest.map fun v => v.category).sum ≤ 8) (hdg : decode cc g.pc = .ok (.invokestatic index, 3)) (hf : cells + mc ≤ R.cells ∧ slots + ms ≤ R.slots) :
    va_Run p l e R s m args below meth c H locs cells slots mc ms g rest (Qc As.toArray) (free) := by
  obtain ⟨⟨hrc, hrs, hfr, hlo, hws, hcw⟩, hcode, hini, hy, hlen, hl, hstt⟩ := cw
  have hK : Back l R p e below s args y 3 8 (PreOf R mc ms Pc) (PostOf Qc mc ms free) := va_backW (hh := hh) (bytes := bytes) (maxL := maxL) (ret := ret) hM hp.1 hrc hrs hfr hlo hws hcw (fun a' U hW => word_at hW (Or.inl (by first | rfl | simp [Cond.onTables, Cond.keeps, Cond.steady])) hini)
  obtain ⟨hx, hb, hml, ho, -⟩ := S
  intro T hT X
  obtain ⟨v, vm₁, ⟨U', l2, c2, s2⟩, hW₁, X', ⟨g', mk, t, L, e1, e2, hq, h1, hL, h2, h3⟩, st⟩ := vx_callSW X hx (hh := hh) (bytes := bytes) (maxL := maxL) (ret := ret) ho hl hstt hini hcode hy hK hg (hsize.trans hml.symm) (argsL := As) (rest := rest) (fun sig h => hn.trans (hlen sig h)) hstack hW (by rw [hb]; exact hdg)
    (fun vm₁ hW₁ => ⟨hf.1, hf.2, hp.2 (T.setVm vm₁) hT hW₁⟩)
  dsimp only [Pt.U, Pt.locs, Pt.cells, Pt.slots] at X' e1 e2 h1 h2 h3 st
  subst h1; subst h2; subst h3
  exact ⟨v, (T.setVm vm₁).calling g' mk As.toArray, t, U', L, hT, X', hL, e1, e2, hq, st⟩
/-- not caught here, past rows that name other classes: it goes on to the caller -/
theorem vx_outP {p : Program} {l : Launch} {e : Env} {R : Room} {s : State} {m : MethodId} {args : Array Value} {below : List Frame} {meth : Method} {c : Code} {H : Heap} {locs : List Loc} {cells slots : Nat} {free : Addr → Prop} {ls : Array Slot} {rest : List Value} {Qc : Array Value → State → Outcome → State → Prop} {XC : String → State → State → Prop}
    {pc : Nat} {own E : String} {ce : Cell} {q : Addr} {mc ms : Nat} (hown : s.vm.findClass own = some m.cls) (hlocks : meth.locks = false)
    (hpass : ∀ z ∈ c.exceptionTable.toList, covers z pc = false ∨ (z.catchType ≠ 0 ∧ ∃ nm : String, (Cond.classLink own z.catchType nm).before args s = true ∧ va_Nc E nm s)) (hcell : H[q]? = some ce) (hv : ce.vm = .none) (hcl : s.vm.findClass E = some ce.cls)
    (hx : ∀ t : State, t.heap = H → s.vm.Alike t.vm → XC E s t) (hf : ∀ z ∈ locs, free z.base) (hc : cells ≤ mc) (hs : slots ≤ ms) :
    vx_W p l e R s m args below meth c H locs cells slots (vx_MQ below Qc XC args s mc ms free) (F0 m pc ls rest) q := by
  intro T hT X
  have hpl : e.platform.magicAccessors = ({} : Platform).magicAccessors := by rw [X.admits.platform]
  obtain ⟨vm', hW', X', st⟩ := X.outThrough hlocks q (g := F0 m pc ls rest) rfl rfl rfl (cell := ce) (by rw [hT]; exact hcell) (by rw [hv]; rfl)
    (by obtain ⟨k9, h9, -⟩ := Vm.findClass_spec hcl; exact ⟨k9, h9⟩) (fun z hz => by
      rcases hpass z hz with h | ⟨hz0, nm, hl1, hn1⟩
      · exact Or.inl h
      · obtain ⟨c6, hc6, hcl6⟩ := Cond.classLink_spec hown hl1 e.platform hpl
        obtain ⟨a8, b8, h1, h2, h3⟩ := hn1
        cases Option.some.inj (h1.symm.trans hcl)
        cases Option.some.inj (h2.symm.trans hc6)
        exact Or.inr ⟨hz0, _, hcl6, h3⟩)
  obtain ⟨g₀, hfr⟩ := X'.frames_eq
  have hcell9 : ((T.setVm vm').setFrames (.throwing q :: below)).heap[q]? = some ce := by
    show T.heap[q]? = some ce
    rw [hT]; exact hcell
  have hend : Ended ((T.setVm vm').setFrames (.throwing q :: below)) below (.threw q) := State.frames_setFrames _ (State.cur_lt_of_frames hfr)
  refine ⟨(T.setVm vm').setFrames (.throwing q :: below), ?_, .threw q, X'.here.running, hend, Or.inr ⟨q, rfl, E, ce, locs, hx _ hT (X'.ends _).1.alike, hcell9, hv, hcl, (X'.ends _).1, (X'.ends _).2.mono hc hs, hf⟩⟩
  rw [X.pushThrowing_eq]
  exact st
/-- a thing of a world lies in the heap -/
theorem vx_lt {D : va_G} {cl : List vw_C} {ws : va_W} {H1 : Heap} (h : va_P D cl ws H1) {k : Nat} {q : Nat × va_E} (hk : ws[k]? = some q) : q.1 < H1.size := (h k q hk).lt
end VXS
/-! ===== END ===== -/
/-! ===== BEGIN methods with a table of their own: called by a name, returning or throwing ===== -/
section VXH
/-! vx_backW, vx_callVX, vx_callSX, vx_callVW, vx_runVW, vx_runVX, vx_runSX, vx_ofWH follow the same proofs as their sisters above (Free/Laws.lean, Shelf42/LK1.lean); vx_outP calls Shelf42/NT130.lean (outThrough). -/
section
variable {l : Launch} {R : Room} {p : Program} {e : Env} {below : List Frame} {s : State} {sargs : Array Value} {y : MethodName} {len W9 : Nat}
theorem vx_backW {ws : List Cond} {rm : Room} {Pc : Array Value → State → Prop} {Qc : Array Value → State → Outcome → State → Prop} {XC : String → State → State → Prop} {mc ms : Nat} {free : Addr → Prop} {bytes : ByteArray} {maxL : Nat} {ret : Option FieldType} {hh : List (Nat × Nat × Nat × Nat)}
    (hM : vx_Met l y ws rm Pc Qc XC mc ms free) (hblind : FrameBlind Pc) (hrc : rm.cells = mc) (hrs : rm.slots = ms)
    (hframes : rm.frames + 1 ≤ R.frames) (hlocals : W9 + (maxL + 11) + rm.locals ≤ R.locals)
    (hws : ∀ w ∈ ws, ∀ a' U, s.WarmedH U.vm → w.before a' U = true) (hcode : Cond.codeWith y bytes maxL ret hh ∈ ws) (hinit : ∀ a' U, s.WarmedH U.vm → (Cond.initialized y.cls).before a' U = true) :
    vx_Back l R p e below s sargs y len W9 (PreOf R mc ms Pc) (PostOf Qc mc ms free) (vx_Post XC mc ms free) := by
  intro m meth c A g ig mk a X hg hsize hdg hW hn hp
  have h1 : (headSpec ws rm).pre.before a A.U = true := atoms_intro fun w hw => hws w hw _ _ X.warmed
  have h2 : (Cond.codeWith y bytes maxL ret hh).before a A.U = true := hws _ hcode _ _ X.warmed
  have h3 : (Cond.initialized y.cls).before a A.U = true := hinit _ _ X.warmed
  have h4 : A.cells + (headSpec ws rm).room.cells ≤ R.cells := by rw [show (headSpec ws rm).room.cells = mc from hrc]; exact hp.1
  have h5 : A.slots + (headSpec ws rm).room.slots ≤ R.slots := by rw [show (headSpec ws rm).room.slots = ms from hrs]; exact hp.2.1
  have hPc : Pc a (A.U.calling g mk a) := hblind _ _ _ _ hp.2.2
  obtain ⟨U, Ls, c0, s0⟩ := A
  dsimp only [Pt.U, Pt.locs, Pt.cells, Pt.slots] at h1 h2 h3 h4 h5 X hn hPc ⊢
  obtain ⟨m9, methY, cY, hn9, hmY, hcY, -, hlY, -⟩ := Cond.codeWith_spec h2
  cases Option.some.inj (hn9.symm.trans hn)
  obtain ⟨kY, hkY, -⟩ := className_of_methodNamed hn
  have hinitY : kY.init = .initialized := Cond.initialized_spec (findClass_of_methodNamed hn) hkY h3
  have h : At U g.method c below := by rw [hg]; exact X.here
  have hlocals9 : W9 + (maxL + 11) + (headSpec ws rm).room.locals ≤ R.locals := hlocals
  have happ : (headSpec ws rm).appliesLoose y e.platform (U.calling g mk a) = true :=
    Spec.appliesLoose_calling (g := g) h hdg hn hkY hinitY
      (X.room_calling (g := g) (R' := (headSpec ws rm).room) hsize hmY hcY hframes (by rw [hlY]; omega) h4 h5) h1
  obtain ⟨mid, hmid⟩ := h.above
  have hfr : (U.setTop g).frames = (.java g :: mid) ++ below := by rw [State.frames_setTop' g h.top, hmid]; rfl
  obtain ⟨o, s₂, hsteps, -, hend, hq⟩ := Steps.callFree hM p X.admits X.cas X.clock (acts := []) hfr happ hPc trivial
  have hq' : vx_Q Qc XC mc ms free a (U.calling g mk a) o s₂ := hq
  rw [State.frames_setTop' g h.top] at hend
  obtain ⟨g₀, hg0⟩ := Option.isSome_iff_exists.mp h.top
  obtain ⟨r, hr⟩ := State.topJava?_eq_some.mp hg0
  have hr' : (({ U with heap := s₂.heap, slotsUsed := s₂.slotsUsed } : State).setVm s₂.vm).frames = .java g₀ :: r := hr
  rcases hq' with ⟨hqc, L, hfe, hL⟩ | ⟨q, rfl, E, ce, L, hx, hce, hcv, hcl, hW₂, hsm, hL⟩
  · obtain ⟨⟨v, rfl⟩, hW₂, e2, q2, q3, q4, q5, q6⟩ := id hfe
    have e3 : s₂ = ({ (U.calling g mk a).setFrames s₂.frames with heap := s₂.heap, slotsUsed := s₂.slotsUsed } : State).setVm s₂.vm := by
      have : s₂ = ({ s₂ with vm := (U.calling g mk a).vm } : State).setVm s₂.vm := rfl
      rw [e2] at this
      exact this
    obtain ⟨c₂, i₂, len₂, hc₂, hd₂, hf₂⟩ := hend
    have hW' : U.WarmedH s₂.vm := hW₂
    have hcc : c₂ = c := by
      have h1 : s₂.code? g.method = U.code? g.method := by
        rw [State.code?_eq, State.code?_eq, hW'.alike.method?]
      exact Option.some.inj (hc₂.symm.trans (h1.trans h.code))
    subst hcc
    have hlen : len₂ = len := by rw [hdg] at hd₂; cases hd₂; rfl
    subst hlen
    have hs₂ : s₂ = (({ U with heap := s₂.heap, slotsUsed := s₂.slotsUsed } : State).setVm s₂.vm).setTop { g with pc := g.pc + len₂, stack := v.toList ++ g.stack } := by
      refine e3.trans ?_
      rw [hf₂, State.calling_eq h.top, State.setFrames_setFrames, State.setTop_of_frames _ hr', hr]
      rfl
    have hsame : U.sameButNew ({ U with heap := s₂.heap, slotsUsed := s₂.slotsUsed } : State) L mc ms := by
      refine ⟨?_, q2, q3, q4, q5, q6⟩
      obtain ⟨t, ht, -⟩ := State.frames_cons hr
      show ({ U with heap := s₂.heap, slotsUsed := s₂.slotsUsed } : State) = { U.setFrames U.frames with heap := s₂.heap, slotsUsed := s₂.slotsUsed }
      rw [State.setFrames_self ht]
    subst hg
    refine Or.inl ⟨v, ⟨(({ U with heap := s₂.heap, slotsUsed := s₂.slotsUsed } : State).setVm s₂.vm), Ls ++ L, c0 + mc, s0 + ms⟩,
      ⟨X.admits, X.cas, X.clock, X.frames, X.room, X.hears, X.method, X.code, (X.here.setHeapUsed s₂.heap s₂.slotsUsed).setVm hW'.alike, X.tail, State.WarmedH.trans X.warmed hW', X.limits, X.bytes, X.same.trans (hsame.setVm s.vm)⟩,
      ⟨g, mk, s₂, L, rfl, rfl, hqc, rfl, hL, rfl, rfl⟩, ?_⟩
    show Steps p.tables e below _ ((({ U with heap := s₂.heap, slotsUsed := s₂.slotsUsed } : State).setVm s₂.vm).setTop { g with pc := g.pc + len₂, stack := v.toList ++ g.stack })
    rw [← hs₂]
    exact hsteps
  · obtain ⟨e2, q2, q3, q4, q5, q6⟩ := id hsm
    have e3 : s₂ = ({ (U.calling g mk a).setFrames s₂.frames with heap := s₂.heap, slotsUsed := s₂.slotsUsed } : State).setVm s₂.vm := by
      have : s₂ = ({ s₂ with vm := (U.calling g mk a).vm } : State).setVm s₂.vm := rfl
      rw [e2] at this
      exact this
    have hf₂ : s₂.frames = .throwing q :: .java g :: U.frames.tail := hend
    have hW' : U.WarmedH s₂.vm := hW₂
    have hs₂ : s₂ = ((({ U with heap := s₂.heap, slotsUsed := s₂.slotsUsed } : State).setVm s₂.vm).setTop g).pushFrame (.throwing q) := by
      refine e3.trans ?_
      rw [hf₂, State.calling_eq h.top, State.setFrames_setFrames, State.pushFrame, State.frames_setTop _ hr', State.setTop_of_frames _ hr', State.setFrames_setFrames, hr]
      rfl
    have hsame : U.sameButNew ({ U with heap := s₂.heap, slotsUsed := s₂.slotsUsed } : State) L mc ms := by
      refine ⟨?_, q2, q3, q4, q5, q6⟩
      obtain ⟨t, ht, -⟩ := State.frames_cons hr
      show ({ U with heap := s₂.heap, slotsUsed := s₂.slotsUsed } : State) = { U.setFrames U.frames with heap := s₂.heap, slotsUsed := s₂.slotsUsed }
      rw [State.setFrames_self ht]
    subst hg
    refine Or.inr ⟨q, ⟨(({ U with heap := s₂.heap, slotsUsed := s₂.slotsUsed } : State).setVm s₂.vm), Ls ++ L, c0 + mc, s0 + ms⟩,
      ⟨X.admits, X.cas, X.clock, X.frames, X.room, X.hears, X.method, X.code, (X.here.setHeapUsed s₂.heap s₂.slotsUsed).setVm hW'.alike, X.tail, State.WarmedH.trans X.warmed hW', X.limits, X.bytes, X.same.trans (hsame.setVm s.vm)⟩,
      ⟨g, mk, s₂, L, E, ce, rfl, rfl, hx, hce, hcv, hcl, rfl, hL, rfl, rfl⟩, ?_⟩
    show Steps p.tables e below _ (((({ U with heap := s₂.heap, slotsUsed := s₂.slotsUsed } : State).setVm s₂.vm).setTop g).pushFrame (.throwing q))
    rw [← hs₂]
    exact hsteps
end
variable {p : Program} {l : Launch} {e : Env} {R : Room} {s : State} {m : MethodId} {args : Array Value} {below : List Frame} {meth : Method} {c : Code} {T : State} {H : Heap} {locs : List Loc} {cells slots : Nat}
theorem vx_callVX (X : Stand p l e R s m args below meth c T locs cells slots) (hexec : p.tables.exec = Jvm.exec) {own C : String} {index : Nat} {y : MethodName} {bytes : ByteArray} {maxL : Nat} {ret : Option FieldType} {hh : List (Nat × Nat × Nat × Nat)}
    (hown : s.vm.findClass own = some m.cls) (hlink : (Cond.methodLink own index y).before args s = true) (hinst : (Cond.instanceMethod y).before args s = true) (hsel : (Cond.selects C y y).before args s = true)
    (hcode : (Cond.codeWith y bytes maxL ret hh).before args s = true) (hy : y.cls ≠ "java/lang/invoke/MethodHandle" ∧ y.cls ≠ "java/lang/invoke/VarHandle")
    {W9 : Nat} {Pre : Pt → Array Value → Prop} {Post : Pt → Array Value → Option Value → Pt → Prop} {PostX : Pt → Array Value → Addr → Pt → Prop} (hK : vx_Back l R p e below s args y 3 W9 Pre Post PostX)
    {b : Addr} {cellB : Cell} (hcell : T.heap[b]? = some cellB) (hobj : cellB.vm.isStatics = false) (hcls : s.vm.findClass C = some cellB.cls)
    {g : JFrame} (hg : g.method = m) (hsize : g.locals.size = c.maxLocals) {argsL rest : List Value} (hlen : ∀ sig, parseMethodDescriptor y.desc = some sig → argsL.length = sig.parameters.length)
    (hstack : g.stack = argsL.reverse ++ .ref b :: rest) (hW : 2 * g.monitorRoom + (rest.map fun v => v.category).sum ≤ W9) (hdg : decode c.code g.pc = .ok (.invokevirtual index, 3))
    (hpre : ∀ vm₁, s.WarmedH vm₁ → Pre ⟨T.setVm vm₁, locs, cells, slots⟩ (Value.ref b :: argsL).toArray) :
    (∃ (v : Option Value) (vm₁ : Vm) (B : Pt), s.WarmedH vm₁ ∧ Stand p l e R s m args below meth c B.U B.locs B.cells B.slots ∧ Post ⟨T.setVm vm₁, locs, cells, slots⟩ (Value.ref b :: argsL).toArray v B ∧
      ∀ target, Steps p.tables e below (B.U.setTop { g with pc := g.pc + 3, stack := v.toList ++ rest }) target → Steps p.tables e below (T.setTop g) target) ∨
    (∃ (q : Addr) (vm₁ : Vm) (B : Pt), s.WarmedH vm₁ ∧ Stand p l e R s m args below meth c B.U B.locs B.cells B.slots ∧ PostX ⟨T.setVm vm₁, locs, cells, slots⟩ (Value.ref b :: argsL).toArray q B ∧
      Steps p.tables e below (T.setTop g) ((B.U.setTop { g with stack := rest }).pushFrame (.throwing q))) := by
  obtain ⟨mk, methM, hnamed, hmethM, hstM, habM⟩ := Cond.instanceMethod_spec hinst
  obtain ⟨m8, methM', cM, hn8, hmethM', -, -, -, -, -, -, hsigM⟩ := Cond.codeWith_spec hcode
  cases Option.some.inj (hn8.symm.trans hnamed)
  cases hmethM.symm.trans hmethM'
  obtain ⟨c2, r2, m2, q1, q2, q3, q4, kP, hkP, hkPi⟩ := Cond.selects_spec hsel
  cases hcls.symm.trans q1
  cases (State.methodFound?_of_named hnamed hy).symm.trans q2
  cases hnamed.symm.trans q3
  have hselP : selectMethod e.platform s.vm cellB.cls mk = .method mk := by rw [Launch.admits_selectMethod X.admits]; exact q4
  obtain ⟨vm₁, X₁, hstep₁⟩ := X.invokevirtual hexec hown hlink hnamed hmethM hstM hkP hkPi hy (a := b) (cell := cellB) hcell
    (fun z h => by rw [h] at hobj; cases hobj) hselP hmethM habM hkP hkPi (g := g) hg (argsL := argsL) (rest := rest) (hlen _ hsigM) hstack hdg
  rcases hK m meth c ⟨T.setVm vm₁, locs, cells, slots⟩ { g with stack := rest } (.invokevirtual index) mk (Value.ref b :: argsL).toArray X₁ hg hsize hdg hW (X₁.named hnamed) (hpre vm₁ X₁.warmed) with ⟨v, B, X', hpost, hsteps⟩ | ⟨q, B, X', hpost, hsteps⟩
  · exact Or.inl ⟨v, vm₁, B, X₁.warmed, X', hpost, fun target h => hstep₁ _ fun acts => by rw [doInvoke_state]; exact hsteps.trans h⟩
  · exact Or.inr ⟨q, vm₁, B, X₁.warmed, X', hpost, hstep₁ _ fun acts => by rw [doInvoke_state]; exact hsteps⟩
theorem vx_callSX (X : Stand p l e R s m args below meth c T locs cells slots) (hexec : p.tables.exec = Jvm.exec) {own : String} {index : Nat} {y : MethodName} {bytes : ByteArray} {maxL : Nat} {ret : Option FieldType} {hh : List (Nat × Nat × Nat × Nat)}
    (hown : s.vm.findClass own = some m.cls) (hlink : (Cond.methodLink own index y).before args s = true) (hstat : (Cond.static y).before args s = true) (hinit : (Cond.initialized y.cls).before args s = true)
    (hcode : (Cond.codeWith y bytes maxL ret hh).before args s = true) (hy : y.cls ≠ "java/lang/invoke/MethodHandle" ∧ y.cls ≠ "java/lang/invoke/VarHandle")
    {W9 : Nat} {Pre : Pt → Array Value → Prop} {Post : Pt → Array Value → Option Value → Pt → Prop} {PostX : Pt → Array Value → Addr → Pt → Prop} (hK : vx_Back l R p e below s args y 3 W9 Pre Post PostX)
    {g : JFrame} (hg : g.method = m) (hsize : g.locals.size = c.maxLocals) {argsL rest : List Value} (hlen : ∀ sig, parseMethodDescriptor y.desc = some sig → argsL.length = sig.parameters.length)
    (hstack : g.stack = argsL.reverse ++ rest) (hW : 2 * g.monitorRoom + (rest.map fun v => v.category).sum ≤ W9) (hdg : decode c.code g.pc = .ok (.invokestatic index, 3))
    (hpre : ∀ vm₁, s.WarmedH vm₁ → Pre ⟨T.setVm vm₁, locs, cells, slots⟩ argsL.toArray) :
    (∃ (v : Option Value) (vm₁ : Vm) (B : Pt), s.WarmedH vm₁ ∧ Stand p l e R s m args below meth c B.U B.locs B.cells B.slots ∧ Post ⟨T.setVm vm₁, locs, cells, slots⟩ argsL.toArray v B ∧
      ∀ target, Steps p.tables e below (B.U.setTop { g with pc := g.pc + 3, stack := v.toList ++ rest }) target → Steps p.tables e below (T.setTop g) target) ∨
    (∃ (q : Addr) (vm₁ : Vm) (B : Pt), s.WarmedH vm₁ ∧ Stand p l e R s m args below meth c B.U B.locs B.cells B.slots ∧ PostX ⟨T.setVm vm₁, locs, cells, slots⟩ argsL.toArray q B ∧
      Steps p.tables e below (T.setTop g) ((B.U.setTop { g with stack := rest }).pushFrame (.throwing q))) := by
  obtain ⟨mk, methM, cM, hnamed, hmethM, -, -, -, -, -, -, hsigM⟩ := Cond.codeWith_spec hcode
  have hstatic : methM.isStatic = true := Cond.static_spec hnamed hmethM hstat
  obtain ⟨kP, hkP, -⟩ := className_of_methodNamed hnamed
  have hinitP : kP.init = .initialized := Cond.initialized_spec (findClass_of_methodNamed hnamed) hkP hinit
  obtain ⟨vm₁, X₁, hstep₁⟩ := X.invokestatic hexec hown hlink hnamed hmethM hstatic hkP hinitP hy (g := g) hg (argsL := argsL) (rest := rest) (hlen _ hsigM) hstack hdg
  rcases hK m meth c ⟨T.setVm vm₁, locs, cells, slots⟩ { g with stack := rest } (.invokestatic index) mk argsL.toArray X₁ hg hsize hdg hW (X₁.named hnamed) (hpre vm₁ X₁.warmed) with ⟨v, B, X', hpost, hsteps⟩ | ⟨q, B, X', hpost, hsteps⟩
  · exact Or.inl ⟨v, vm₁, B, X₁.warmed, X', hpost, fun target h => hstep₁ _ fun acts => by rw [doInvoke_state]; exact hsteps.trans h⟩
  · exact Or.inr ⟨q, vm₁, B, X₁.warmed, X', hpost, hstep₁ _ fun acts => by rw [doInvoke_state]; exact hsteps⟩
theorem vx_callVW (X : Stand p l e R s m args below meth c T locs cells slots) (hexec : p.tables.exec = Jvm.exec) {own C : String} {index : Nat} {y : MethodName} {bytes : ByteArray} {maxL : Nat} {ret : Option FieldType} {hh : List (Nat × Nat × Nat × Nat)}
    (hown : s.vm.findClass own = some m.cls) (hlink : (Cond.methodLink own index y).before args s = true) (hinst : (Cond.instanceMethod y).before args s = true) (hsel : (Cond.selects C y y).before args s = true)
    (hcode : (Cond.codeWith y bytes maxL ret hh).before args s = true) (hy : y.cls ≠ "java/lang/invoke/MethodHandle" ∧ y.cls ≠ "java/lang/invoke/VarHandle")
    {W9 : Nat} {Pre : Pt → Array Value → Prop} {Post : Pt → Array Value → Option Value → Pt → Prop} (hK : Back l R p e below s args y 3 W9 Pre Post)
    {b : Addr} {cellB : Cell} (hcell : T.heap[b]? = some cellB) (hobj : cellB.vm.isStatics = false) (hcls : s.vm.findClass C = some cellB.cls)
    {g : JFrame} (hg : g.method = m) (hsize : g.locals.size = c.maxLocals) {argsL rest : List Value} (hlen : ∀ sig, parseMethodDescriptor y.desc = some sig → argsL.length = sig.parameters.length)
    (hstack : g.stack = argsL.reverse ++ .ref b :: rest) (hW : 2 * g.monitorRoom + (rest.map fun v => v.category).sum ≤ W9) (hdg : decode c.code g.pc = .ok (.invokevirtual index, 3))
    (hpre : ∀ vm₁, s.WarmedH vm₁ → Pre ⟨T.setVm vm₁, locs, cells, slots⟩ (Value.ref b :: argsL).toArray) :
    ∃ (v : Option Value) (vm₁ : Vm) (B : Pt), s.WarmedH vm₁ ∧ Stand p l e R s m args below meth c B.U B.locs B.cells B.slots ∧ Post ⟨T.setVm vm₁, locs, cells, slots⟩ (Value.ref b :: argsL).toArray v B ∧
      ∀ target, Steps p.tables e below (B.U.setTop { g with pc := g.pc + 3, stack := v.toList ++ rest }) target → Steps p.tables e below (T.setTop g) target := by
  obtain ⟨mk, methM, hnamed, hmethM, hstM, habM⟩ := Cond.instanceMethod_spec hinst
  obtain ⟨m8, methM', cM, hn8, hmethM', -, -, -, -, -, -, hsigM⟩ := Cond.codeWith_spec hcode
  cases Option.some.inj (hn8.symm.trans hnamed)
  cases hmethM.symm.trans hmethM'
  obtain ⟨c2, r2, m2, q1, q2, q3, q4, kP, hkP, hkPi⟩ := Cond.selects_spec hsel
  cases hcls.symm.trans q1
  cases (State.methodFound?_of_named hnamed hy).symm.trans q2
  cases hnamed.symm.trans q3
  have hselP : selectMethod e.platform s.vm cellB.cls mk = .method mk := by rw [Launch.admits_selectMethod X.admits]; exact q4
  obtain ⟨vm₁, X₁, hstep₁⟩ := X.invokevirtual hexec hown hlink hnamed hmethM hstM hkP hkPi hy (a := b) (cell := cellB) hcell
    (fun z h => by rw [h] at hobj; cases hobj) hselP hmethM habM hkP hkPi (g := g) hg (argsL := argsL) (rest := rest) (hlen _ hsigM) hstack hdg
  obtain ⟨v, B, X', hpost, hsteps⟩ := hK m meth c ⟨T.setVm vm₁, locs, cells, slots⟩ { g with stack := rest } (.invokevirtual index) mk (Value.ref b :: argsL).toArray X₁ hg hsize hdg hW (X₁.named hnamed) (hpre vm₁ X₁.warmed)
  exact ⟨v, vm₁, B, X₁.warmed, X', hpost, fun target h => hstep₁ _ fun acts => by rw [doInvoke_state]; exact hsteps.trans h⟩
abbrev vx_CVW (R : Room) (s : State) (args : Array Value) (own C : String) (index : Nat) (y : MethodName) (bytes : ByteArray) (maxL : Nat) (ret : Option FieldType) (hh : List (Nat × Nat × Nat × Nat)) (ws : List Cond) (rm : Room) (mc ms n : Nat) : Prop :=
  (rm.cells = mc ∧ rm.slots = ms ∧ rm.frames + 1 ≤ R.frames ∧ 8 + (maxL + 11) + rm.locals ≤ R.locals ∧ (∀ w ∈ ws, ∀ (a' : Array Value) (U : State), s.WarmedH U.vm → w.before a' U = true) ∧ Cond.codeWith y bytes maxL ret hh ∈ ws) ∧
  (Cond.codeWith y bytes maxL ret hh).before args s = true ∧ (Cond.initialized y.cls).before args s = true ∧ (y.cls ≠ "java/lang/invoke/MethodHandle" ∧ y.cls ≠ "java/lang/invoke/VarHandle") ∧
  (∀ sig, parseMethodDescriptor y.desc = some sig → n = sig.parameters.length) ∧ (Cond.methodLink own index y).before args s = true ∧ (Cond.instanceMethod y).before args s = true ∧ (Cond.selects C y y).before args s = true
theorem vx_cwVW {own C : String} {index maxL mc ms : Nat} {y : MethodName} {bytes : ByteArray} {ret : Option FieldType} {hh : List (Nat × Nat × Nat × Nat)} {Ts ws ws' : List Cond} {rm : Room} (n : Nat) (ht : ∀ w ∈ Ts, w.before args s = true) (hT : GoodIn Ts (wsV own index C y ws)) (hw : ws = Cond.codeWith y bytes maxL ret hh :: ws') (hrc : rm.cells = mc) (hrs : rm.slots = ms)
    (hd : y.cls = C ∧ y.cls ≠ "java/lang/invoke/MethodHandle" ∧ y.cls ≠ "java/lang/invoke/VarHandle" ∧ (parseMethodDescriptor y.desc).map (fun d => d.parameters.length) = some n) (hR : rm.frames + 1 ≤ R.frames ∧ 8 + (maxL + 11) + rm.locals ≤ R.locals) :
    vx_CVW R s args own C index y bytes maxL ret hh ws rm mc ms n := by
  obtain ⟨hC, hd⟩ := hd
  subst hC
  have ok : ∀ w ∈ wsV own index y.cls y ws, w.before args s = true := fun w h => ht w (hT w h).1
  have hG : GoodIn Ts ws := fun w h => hT w (by unfold wsV; exact List.mem_append_right _ h)
  have hc : Cond.codeWith y bytes maxL ret hh ∈ ws := by rw [hw]; exact List.mem_cons_self
  refine ⟨⟨hrc, hrs, hR.1, hR.2, pay_in ht hG, hc⟩, ht _ (hG _ hc).1, ok _ (by simp [wsV]), ⟨hd.1, hd.2.1⟩, fun sig h => ?_, ok _ (by simp [wsV]), ok _ (by simp [wsV]), ok _ (by simp [wsV])⟩
  have h2 := hd.2.2
  rw [h] at h2
  exact (Option.some.inj h2).symm
theorem vx_runVW {y : MethodName} {bytes cc : ByteArray} {maxL nL mc ms n index : Nat} {ret : Option FieldType} {hh : List (Nat × Nat × Nat × Nat)} {ws : List Cond} {rm : Room} {Pc : Array Value → State → Prop} {Qc : Array Value → State → Outcome → State → Prop} {free : Addr → Prop} {Ts : List Cond} {own C : String} {b : Addr} {As rest : List Value} {g : JFrame}
    (S : CallFix p m c cc nL s args Ts own) (hM : Met l y ws rm Pc Qc mc ms free) (cw : vx_CVW R s args own C index y bytes maxL ret hh ws rm mc ms n) (hp : PreV s H C b Pc As)
    (hg : g.method = m) (hn : As.length = n) (hsize : g.locals.size = nL) (hstack : g.stack = As.reverse ++ .ref b :: rest) (hW : 2 * g.monitorRoom + (rest.map fun v => v.category).sum ≤ 8) (hdg : decode cc g.pc = .ok (.invokevirtual index, 3)) (hf : cells + mc ≤ R.cells ∧ slots + ms ≤ R.slots) :
    va_Run p l e R s m args below meth c H locs cells slots mc ms g rest (Qc (Value.ref b :: As).toArray) free := by
  obtain ⟨⟨hrc, hrs, hfr, hlo, hws, hcw⟩, hcode, hini, hy, hlen, hl, hin, hse⟩ := cw
  have hK : Back l R p e below s args y 3 8 (PreOf R mc ms Pc) (PostOf Qc mc ms free) := va_backW (hh := hh) (bytes := bytes) (maxL := maxL) (ret := ret) hM hp.1 hrc hrs hfr hlo hws hcw (fun a' U hW => word_at hW (Or.inl (by first | rfl | simp [Cond.onTables, Cond.keeps, Cond.steady])) hini)
  obtain ⟨hx, hb, hml, ho, -⟩ := S
  obtain ⟨-, ⟨cellB, hcB, hoB, hclB⟩, hPc⟩ := hp
  intro T hT X
  obtain ⟨v, vm₁, ⟨U', l2, c2, s2⟩, hW₁, X', ⟨g', mk, t, L, e1, e2, hq, h1, hL, h2, h3⟩, st⟩ := vx_callVW X hx (C := C) (hh := hh) (bytes := bytes) (maxL := maxL) (ret := ret) ho hl hin hse hcode hy hK (by rw [hT]; exact hcB) hoB hclB hg (hsize.trans hml.symm) (argsL := As) (rest := rest) (fun sig h => hn.trans (hlen sig h)) hstack hW (by rw [hb]; exact hdg)
    (fun vm₁ hW₁ => ⟨hf.1, hf.2, hPc (T.setVm vm₁) hT hW₁⟩)
  dsimp only [Pt.U, Pt.locs, Pt.cells, Pt.slots] at X' e1 e2 h1 h2 h3 st
  subst h1; subst h2; subst h3
  exact ⟨v, (T.setVm vm₁).calling g' mk (Value.ref b :: As).toArray, t, U', L, hT, X', hL, e1, e2, hq, st⟩
section
variable {y : MethodName} {bytes cc : ByteArray} {maxL nL mc ms n index : Nat} {ret : Option FieldType} {ws : List Cond} {rm : Room} {Pc : Array Value → State → Prop} {Qc : Array Value → State → Outcome → State → Prop} {XC : String → State → State → Prop} {free : Addr → Prop} {Ts : List Cond} {own C : String} {b : Addr} {As rest : List Value} {g : JFrame}
theorem vx_runVX {hh : List (Nat × Nat × Nat × Nat)} (S : CallFix p m c cc nL s args Ts own) (hM : vx_Met l y ws rm Pc Qc XC mc ms free) (cw : vx_CVW R s args own C index y bytes maxL ret hh ws rm mc ms n) (hp : PreV s H C b Pc As)
    (hg : g.method = m) (hn : As.length = n) (hsize : g.locals.size = nL) (hstack : g.stack = As.reverse ++ .ref b :: rest) (hW : 2 * g.monitorRoom + (rest.map fun v => v.category).sum ≤ 8) (hdg : decode cc g.pc = .ok (.invokevirtual index, 3)) (hf : cells + mc ≤ R.cells ∧ slots + ms ≤ R.slots) :
    vx_Run p l e R s m args below meth c H locs cells slots mc ms g rest (Qc (Value.ref b :: As).toArray) XC free := by
  obtain ⟨⟨hrc, hrs, hfr, hlo, hws, hcw⟩, hcode, hini, hy, hlen, hl, hin, hse⟩ := cw
  have hK : vx_Back l R p e below s args y 3 8 (PreOf R mc ms Pc) (PostOf Qc mc ms free) (vx_Post XC mc ms free) := vx_backW (hh := hh) (bytes := bytes) (maxL := maxL) (ret := ret) hM hp.1 hrc hrs hfr hlo hws hcw (fun a' U hW => word_at hW (Or.inl (by first | rfl | simp [Cond.onTables, Cond.keeps, Cond.steady])) hini)
  obtain ⟨hx, hb, hml, ho, -⟩ := S
  obtain ⟨-, ⟨cellB, hcB, hoB, hclB⟩, hPc⟩ := hp
  intro T hT X
  rcases vx_callVX X hx (C := C) (hh := hh) (bytes := bytes) (maxL := maxL) (ret := ret) ho hl hin hse hcode hy hK (by rw [hT]; exact hcB) hoB hclB hg (hsize.trans hml.symm) (argsL := As) (rest := rest) (fun sig h => hn.trans (hlen sig h)) hstack hW (by rw [hb]; exact hdg)
    (fun vm₁ hW₁ => ⟨hf.1, hf.2, hPc (T.setVm vm₁) hT hW₁⟩) with ⟨v, vm₁, ⟨U', l2, c2, s2⟩, hW₁, X', ⟨g', mk, t, L, e1, e2, hq, h1, hL, h2, h3⟩, st⟩ | ⟨q, vm₁, ⟨U', l2, c2, s2⟩, hW₁, X', ⟨g', mk, t, L, E, ce, e1, e2, hq, hce, hcv, hcl, h1, hL, h2, h3⟩, st⟩
  · dsimp only [Pt.U, Pt.locs, Pt.cells, Pt.slots] at X' e1 e2 h1 h2 h3 st
    subst h1; subst h2; subst h3
    exact Or.inl ⟨v, (T.setVm vm₁).calling g' mk (Value.ref b :: As).toArray, t, U', L, hT, X', hL, e1, e2, hq, st⟩
  · dsimp only [Pt.U, Pt.locs, Pt.cells, Pt.slots] at X' e1 e2 h1 h2 h3 st hcl
    subst h1; subst h2; subst h3
    exact Or.inr ⟨q, (T.setVm vm₁).calling g' mk (Value.ref b :: As).toArray, t, U', L, E, ce, hT, X', hL, e1, e2, hq, hce, hcv, vx_cls hW₁ hcl, st⟩
theorem vx_runSX {hh : List (Nat × Nat × Nat × Nat)} (S : CallFix p m c cc nL s args Ts own) (hM : vx_Met l y ws rm Pc Qc XC mc ms free) (cw : vx_CSW R s args own index y bytes maxL ret hh ws rm mc ms n) (hp : PreS s H Pc As)
    (hg : g.method = m) (hn : As.length = n) (hsize : g.locals.size = nL) (hstack : g.stack = As.reverse ++ rest) (hW : 2 * g.monitorRoom + (rest.map fun v => v.category).sum ≤ 8) (hdg : decode cc g.pc = .ok (.invokestatic index, 3)) (hf : cells + mc ≤ R.cells ∧ slots + ms ≤ R.slots) :
    vx_Run p l e R s m args below meth c H locs cells slots mc ms g rest (Qc As.toArray) XC free := by
  obtain ⟨⟨hrc, hrs, hfr, hlo, hws, hcw⟩, hcode, hini, hy, hlen, hl, hstt⟩ := cw
  have hK : vx_Back l R p e below s args y 3 8 (PreOf R mc ms Pc) (PostOf Qc mc ms free) (vx_Post XC mc ms free) := vx_backW (hh := hh) (bytes := bytes) (maxL := maxL) (ret := ret) hM hp.1 hrc hrs hfr hlo hws hcw (fun a' U hW => word_at hW (Or.inl (by first | rfl | simp [Cond.onTables, Cond.keeps, Cond.steady])) hini)
  obtain ⟨hx, hb, hml, ho, -⟩ := S
  intro T hT X
  rcases vx_callSX X hx (hh := hh) (bytes := bytes) (maxL := maxL) (ret := ret) ho hl hstt hini hcode hy hK hg (hsize.trans hml.symm) (argsL := As) (rest := rest) (fun sig h => hn.trans (hlen sig h)) hstack hW (by rw [hb]; exact hdg)
    (fun vm₁ hW₁ => ⟨hf.1, hf.2, hp.2 (T.setVm vm₁) hT hW₁⟩) with ⟨v, vm₁, ⟨U', l2, c2, s2⟩, hW₁, X', ⟨g', mk, t, L, e1, e2, hq, h1, hL, h2, h3⟩, st⟩ | ⟨q, vm₁, ⟨U', l2, c2, s2⟩, hW₁, X', ⟨g', mk, t, L, E, ce, e1, e2, hq, hce, hcv, hcl, h1, hL, h2, h3⟩, st⟩
  · dsimp only [Pt.U, Pt.locs, Pt.cells, Pt.slots] at X' e1 e2 h1 h2 h3 st
    subst h1; subst h2; subst h3
    exact Or.inl ⟨v, (T.setVm vm₁).calling g' mk As.toArray, t, U', L, hT, X', hL, e1, e2, hq, st⟩
  · dsimp only [Pt.U, Pt.locs, Pt.cells, Pt.slots] at X' e1 e2 h1 h2 h3 st hcl
    subst h1; subst h2; subst h3
    exact Or.inr ⟨q, (T.setVm vm₁).calling g' mk As.toArray, t, U', L, E, ce, hT, X', hL, e1, e2, hq, hce, hcv, vx_cls hW₁ hcl, st⟩
end
end VXH
theorem vx_ofWH {l : Launch} {y : MethodName} {ws ws' : List Cond} {rm : Room} {Pc : Array Value → State → Prop} {Qc : Array Value → State → Outcome → State → Prop} {XC : String → State → State → Prop} {mc ms : Nat} {free : Addr → Prop} {cc : ByteArray} {maxL : Nat} {ret : Option FieldType} {hh : List (Nat × Nat × Nat × Nat)}
    (hy : plainName y.cls = true) (hw : ws = Cond.codeWith y cc maxL ret hh :: ws')
    (body : ∀ p e s m args below meth c s₁, BodyLoose p l y (headSpec ws rm) cc maxL ret e s m args below meth c s₁ → c.maxLocals = maxL → Pc args s →
      W p l e (headSpec ws rm).room s m args below meth c s.heap [] 0 0 (vx_MQ below Qc XC args s mc ms free) (entryFrame m args maxL)) : vx_Met l y ws rm Pc Qc XC mc ms free := by
  refine MetFree.of_bodyS (code := cc) (maxLocals := maxL) (ret := ret) hy ?_ ?_
  · intro args s m h hn
    obtain ⟨m9, meth, c, hn9, h1, h2, h3, h4, -, h5, h6, -⟩ := Cond.codeWith_spec (atoms_spec (ws := ws) h _ (by rw [hw]; exact List.mem_cons_self))
    cases hn.symm.trans hn9
    exact ⟨meth, c, h1, h2, h3, h4, h5, h6⟩
  · intro p e s m args below meth c s₁ B hml hP _
    have hh0 : s₁.heap = s.heap := by rw [B.state]; rfl
    obtain ⟨t, a1, o, b1, b2, b3⟩ := body p e s m args below meth c s₁ B hml hP s₁ hh0 (Stand.of_body B)
    exact ⟨t, o, a1, b1, b2, b3⟩
/-! ===== END ===== -/
end
section
/-! ===== BEGIN printed: names, fields, word lists, decode rows ===== -/
def RX0 : String := "RosterPay$Rule"
def TX0 : u_T := fun k => match k with
  | 0 => ("RosterPay$Rule", "number", "I", true)
  | 1 => ("RosterPay$Rule", "weekdays", "I", true)
  | 2 => ("RosterPay$Rule", "from", "I", true)
  | 3 => ("RosterPay$Rule", "to", "I", true)
  | 4 => ("RosterPay$Rule", "ranks", "I", true)
  | 5 => ("RosterPay$Rule", "percent", "I", true)
  | _ => ("RosterPay$Rule", "isOn", "Z", false)
def tyX0 : Nat → FieldType := fun k => match k with
  | 0 => .int
  | 1 => .int
  | 2 => .int
  | 3 => .int
  | 4 => .int
  | 5 => .int
  | _ => .boolean
abbrev wsX00 : List Cond := u_ws RX0 TX0 7
theorem nmX0 : ∀ a, a < 7 → ∀ b, b < 7 → a ≠ b → (TX0 a).2.1 ≠ (TX0 b).2.1 := by decide +kernel
theorem tyX0_ok : ∀ k, k < 7 → parseFieldDescriptor (TX0 k).2.2.1 = some (tyX0 k) := by decide +kernel
abbrev cX0_init : ByteArray := prog_2_method_1_code
def yX0_init : MethodName := ⟨RX0, "<init>", "(IIIIII)V"⟩
abbrev cX0_appliesTo : ByteArray := prog_2_method_2_code
def yX0_appliesTo : MethodName := ⟨RX0, "appliesTo", "(IIIZ)Z"⟩
abbrev cX0_isForDay : ByteArray := prog_2_method_3_code
def yX0_isForDay : MethodName := ⟨RX0, "isForDay", "(IZ)Z"⟩
abbrev cX0_hasBit : ByteArray := prog_2_method_4_code
def yX0_hasBit : MethodName := ⟨RX0, "hasBit", "(II)Z"⟩
def RX1 : String := "RosterPay$Shift"
def TX1 : u_T := fun k => match k with
  | 0 => ("RosterPay$Shift", "worker", "LRosterPay$Worker;", true)
  | 1 => ("RosterPay$Shift", "start", "I", true)
  | 2 => ("RosterPay$Shift", "quarters", "I", true)
  | 3 => ("RosterPay$Shift", "breaksTaken", "I", false)
  | _ => ("RosterPay$Shift", "isCancelled", "Z", false)
def tyX1 : Nat → FieldType := fun k => match k with
  | 0 => .object "RosterPay$Worker"
  | 1 => .int
  | 2 => .int
  | 3 => .int
  | _ => .boolean
abbrev wsX10 : List Cond := u_ws RX1 TX1 5
theorem nmX1 : ∀ a, a < 5 → ∀ b, b < 5 → a ≠ b → (TX1 a).2.1 ≠ (TX1 b).2.1 := by decide +kernel
theorem tyX1_ok : ∀ k, k < 5 → parseFieldDescriptor (TX1 k).2.2.1 = some (tyX1 k) := by decide +kernel
abbrev cX1_init : ByteArray := prog_3_method_1_code
def yX1_init : MethodName := ⟨RX1, "<init>", "(LRosterPay$Worker;II)V"⟩
abbrev cX1_paidLength : ByteArray := prog_3_method_2_code
def yX1_paidLength : MethodName := ⟨RX1, "paidLength", "()I"⟩
abbrev cX1_dayOf : ByteArray := prog_3_method_3_code
def yX1_dayOf : MethodName := ⟨RX1, "dayOf", "(I)I"⟩
abbrev cX1_quarterOfDay : ByteArray := prog_3_method_4_code
def yX1_quarterOfDay : MethodName := ⟨RX1, "quarterOfDay", "(I)I"⟩
abbrev cX1_breaksMissed : ByteArray := prog_3_method_5_code
def yX1_breaksMissed : MethodName := ⟨RX1, "breaksMissed", "()I"⟩
abbrev cX1_breaksOwed : ByteArray := prog_3_method_6_code
def yX1_breaksOwed : MethodName := ⟨RX1, "breaksOwed", "()I"⟩
abbrev cX1_ownBetween : ByteArray := prog_3_method_7_code
def yX1_ownBetween : MethodName := ⟨RX1, "ownBetween", "(II)I"⟩
def RX2 : String := "RosterPay$Worker"
def TX2 : u_T := fun k => match k with
  | _ => ("RosterPay$Worker", "rank", "I", false)
def tyX2 : Nat → FieldType := fun k => match k with
  | _ => .int
abbrev wsX20 : List Cond := u_ws RX2 TX2 1
theorem nmX2 : ∀ a, a < 1 → ∀ b, b < 1 → a ≠ b → (TX2 a).2.1 ≠ (TX2 b).2.1 := by decide +kernel
theorem tyX2_ok : ∀ k, k < 1 → parseFieldDescriptor (TX2 k).2.2.1 = some (tyX2 k) := by decide +kernel
abbrev cX2_init : ByteArray := prog_4_method_1_code
def yX2_init : MethodName := ⟨RX2, "<init>", "(I)V"⟩
def RX3 : String := "RosterPay"
def TX3 : u_T := fun k => match k with
  | 0 => ("RosterPay", "bases", "[I", true)
  | 1 => ("RosterPay", "holidays", "[Z", true)
  | 2 => ("RosterPay", "rules", "Ljava/util/ArrayList;", true)
  | 3 => ("RosterPay", "workers", "Ljava/util/ArrayList;", true)
  | _ => ("RosterPay", "roster", "Ljava/util/ArrayList;", true)
def tyX3 : Nat → FieldType := fun k => match k with
  | 0 => .array .int
  | 1 => .array .boolean
  | 2 => .object "java/util/ArrayList"
  | 3 => .object "java/util/ArrayList"
  | _ => .object "java/util/ArrayList"
abbrev wsX30 : List Cond := u_ws RX3 TX3 5
theorem nmX3 : ∀ a, a < 5 → ∀ b, b < 5 → a ≠ b → (TX3 a).2.1 ≠ (TX3 b).2.1 := by decide +kernel
theorem tyX3_ok : ∀ k, k < 5 → parseFieldDescriptor (TX3 k).2.2.1 = some (tyX3 k) := by decide +kernel
abbrev cX3_init : ByteArray := prog_1_method_1_code
def yX3_init : MethodName := ⟨RX3, "<init>", "()V"⟩
abbrev cX3_setBase : ByteArray := prog_1_method_2_code
def yX3_setBase : MethodName := ⟨RX3, "setBase", "(II)I"⟩
abbrev cX3_addRule : ByteArray := prog_1_method_3_code
def yX3_addRule : MethodName := ⟨RX3, "addRule", "(IIIII)I"⟩
abbrev cX3_setRule : ByteArray := prog_1_method_4_code
def yX3_setRule : MethodName := ⟨RX3, "setRule", "(IZ)Z"⟩
abbrev cX3_setHoliday : ByteArray := prog_1_method_5_code
def yX3_setHoliday : MethodName := ⟨RX3, "setHoliday", "(IZ)Z"⟩
abbrev cX3_addWorker : ByteArray := prog_1_method_6_code
def yX3_addWorker : MethodName := ⟨RX3, "addWorker", "(I)I"⟩
abbrev cX3_setRank : ByteArray := prog_1_method_7_code
def yX3_setRank : MethodName := ⟨RX3, "setRank", "(II)I"⟩
abbrev cX3_addShift : ByteArray := prog_1_method_8_code
def yX3_addShift : MethodName := ⟨RX3, "addShift", "(IIII)I"⟩
abbrev cX3_cancel : ByteArray := prog_1_method_9_code
def yX3_cancel : MethodName := ⟨RX3, "cancel", "(I)I"⟩
abbrev cX3_takeBreaks : ByteArray := prog_1_method_10_code
def yX3_takeBreaks : MethodName := ⟨RX3, "takeBreaks", "(II)I"⟩
abbrev cX3_shifts : ByteArray := prog_1_method_11_code
def yX3_shifts : MethodName := ⟨RX3, "shifts", "()I"⟩
abbrev cX3_paidQuarters : ByteArray := prog_1_method_12_code
def yX3_paidQuarters : MethodName := ⟨RX3, "paidQuarters", "(I)I"⟩
abbrev cX3_percentAt : ByteArray := prog_1_method_13_code
def yX3_percentAt : MethodName := ⟨RX3, "percentAt", "(II)I"⟩
abbrev cX3_reasonAt : ByteArray := prog_1_method_14_code
def yX3_reasonAt : MethodName := ⟨RX3, "reasonAt", "(II)I"⟩
abbrev cX3_missed : ByteArray := prog_1_method_15_code
def yX3_missed : MethodName := ⟨RX3, "missed", "(I)I"⟩
abbrev cX3_pay : ByteArray := prog_1_method_16_code
def yX3_pay : MethodName := ⟨RX3, "pay", "(I)I"⟩
abbrev cX3_payOf : ByteArray := prog_1_method_17_code
def yX3_payOf : MethodName := ⟨RX3, "payOf", "(III)I"⟩
abbrev cX3_paidBy : ByteArray := prog_1_method_18_code
def yX3_paidBy : MethodName := ⟨RX3, "paidBy", "(I)I"⟩
abbrev cX3_worked : ByteArray := prog_1_method_19_code
def yX3_worked : MethodName := ⟨RX3, "worked", "(II)I"⟩
abbrev cX3_excess : ByteArray := prog_1_method_20_code
def yX3_excess : MethodName := ⟨RX3, "excess", "(II)I"⟩
abbrev cX3_checkArgument : ByteArray := prog_1_method_21_code
def yX3_checkArgument : MethodName := ⟨RX3, "checkArgument", "(III)V"⟩
abbrev cX3_checkNotCancelled : ByteArray := prog_1_method_22_code
def yX3_checkNotCancelled : MethodName := ⟨RX3, "checkNotCancelled", "(LRosterPay$Shift;)V"⟩
abbrev cX3_checkPaidQuarter : ByteArray := prog_1_method_23_code
def yX3_checkPaidQuarter : MethodName := ⟨RX3, "checkPaidQuarter", "(LRosterPay$Shift;I)V"⟩
abbrev cX3_findRule : ByteArray := prog_1_method_24_code
def yX3_findRule : MethodName := ⟨RX3, "findRule", "(I)LRosterPay$Rule;"⟩
abbrev cX3_findWorker : ByteArray := prog_1_method_25_code
def yX3_findWorker : MethodName := ⟨RX3, "findWorker", "(I)LRosterPay$Worker;"⟩
abbrev cX3_findShift : ByteArray := prog_1_method_26_code
def yX3_findShift : MethodName := ⟨RX3, "findShift", "(I)LRosterPay$Shift;"⟩
abbrev cX3_overtimePercent : ByteArray := prog_1_method_27_code
def yX3_overtimePercent : MethodName := ⟨RX3, "overtimePercent", "(I)I"⟩
abbrev cX3_decidingRule : ByteArray := prog_1_method_28_code
def yX3_decidingRule : MethodName := ⟨RX3, "decidingRule", "(LRosterPay$Shift;I)LRosterPay$Rule;"⟩
abbrev cX3_percentOf : ByteArray := prog_1_method_29_code
def yX3_percentOf : MethodName := ⟨RX3, "percentOf", "(LRosterPay$Shift;I)I"⟩
abbrev cX3_payFor : ByteArray := prog_1_method_30_code
def yX3_payFor : MethodName := ⟨RX3, "payFor", "(LRosterPay$Shift;)I"⟩
abbrev cX3_payByRule : ByteArray := prog_1_method_31_code
def yX3_payByRule : MethodName := ⟨RX3, "payByRule", "(LRosterPay$Shift;LRosterPay$Rule;)I"⟩
abbrev cX3_amount : ByteArray := prog_1_method_32_code
def yX3_amount : MethodName := ⟨RX3, "amount", "(II)I"⟩
abbrev cX3_baseOf : ByteArray := prog_1_method_33_code
def yX3_baseOf : MethodName := ⟨RX3, "baseOf", "(I)I"⟩
abbrev cX3_isHoliday : ByteArray := prog_1_method_34_code
def yX3_isHoliday : MethodName := ⟨RX3, "isHoliday", "(I)Z"⟩
abbrev cX3_overlapsAnother : ByteArray := prog_1_method_35_code
def yX3_overlapsAnother : MethodName := ⟨RX3, "overlapsAnother", "(LRosterPay$Worker;II)Z"⟩
abbrev cX3_workedInWeeks : ByteArray := prog_1_method_36_code
def yX3_workedInWeeks : MethodName := ⟨RX3, "workedInWeeks", "(LRosterPay$Worker;II)I"⟩
abbrev cX3_workedBetween : ByteArray := prog_1_method_37_code
def yX3_workedBetween : MethodName := ⟨RX3, "workedBetween", "(LRosterPay$Worker;II)I"⟩
def RX4 : String := "RosterPayModel"
def TX4 : u_T := fun k => match k with
  | _ => ("", "", "", false)
def tyX4 : Nat → FieldType := fun k => match k with
  | _ => .int
abbrev wsX40 : List Cond := u_ws RX4 TX4 0
theorem nmX4 : ∀ a, a < 0 → ∀ b, b < 0 → a ≠ b → (TX4 a).2.1 ≠ (TX4 b).2.1 := by decide +kernel
theorem tyX4_ok : ∀ k, k < 0 → parseFieldDescriptor (TX4 k).2.2.1 = some (tyX4 k) := by decide +kernel
def RJx145de : String := "java/io/Serializable"
def TJx145de : u_T := fun k => match k with
  | _ => ("", "", "", false)
def tyJx145de : Nat → FieldType := fun k => match k with
  | _ => .int
abbrev wsJx145de0 : List Cond := u_ws RJx145de TJx145de 0
theorem nmJx145de : ∀ a, a < 0 → ∀ b, b < 0 → a ≠ b → (TJx145de a).2.1 ≠ (TJx145de b).2.1 := by decide +kernel
theorem tyJx145de_ok : ∀ k, k < 0 → parseFieldDescriptor (TJx145de k).2.2.1 = some (tyJx145de k) := by decide +kernel
def RJx8e188 : String := "java/lang/Cloneable"
def TJx8e188 : u_T := fun k => match k with
  | _ => ("", "", "", false)
def tyJx8e188 : Nat → FieldType := fun k => match k with
  | _ => .int
abbrev wsJx8e1880 : List Cond := u_ws RJx8e188 TJx8e188 0
theorem nmJx8e188 : ∀ a, a < 0 → ∀ b, b < 0 → a ≠ b → (TJx8e188 a).2.1 ≠ (TJx8e188 b).2.1 := by decide +kernel
theorem tyJx8e188_ok : ∀ k, k < 0 → parseFieldDescriptor (TJx8e188 k).2.2.1 = some (tyJx8e188 k) := by decide +kernel
def RJxab1ab : String := "java/lang/Iterable"
def TJxab1ab : u_T := fun k => match k with
  | _ => ("", "", "", false)
def tyJxab1ab : Nat → FieldType := fun k => match k with
  | _ => .int
abbrev wsJxab1ab0 : List Cond := u_ws RJxab1ab TJxab1ab 0
theorem nmJxab1ab : ∀ a, a < 0 → ∀ b, b < 0 → a ≠ b → (TJxab1ab a).2.1 ≠ (TJxab1ab b).2.1 := by decide +kernel
theorem tyJxab1ab_ok : ∀ k, k < 0 → parseFieldDescriptor (TJxab1ab k).2.2.1 = some (tyJxab1ab k) := by decide +kernel
def RJ9 : String := "java/lang/Math"
def TJ9 : u_T := fun k => match k with
  | _ => ("", "", "", false)
def tyJ9 : Nat → FieldType := fun k => match k with
  | _ => .int
abbrev wsJ90 : List Cond := u_ws RJ9 TJ9 0
theorem nmJ9 : ∀ a, a < 0 → ∀ b, b < 0 → a ≠ b → (TJ9 a).2.1 ≠ (TJ9 b).2.1 := by decide +kernel
theorem tyJ9_ok : ∀ k, k < 0 → parseFieldDescriptor (TJ9 k).2.2.1 = some (tyJ9 k) := by decide +kernel
abbrev cJ9_max_7cf53 : ByteArray := prog_14_method_65_code
def yJ9_max_7cf53 : MethodName := ⟨RJ9, "max", "(II)I"⟩
abbrev cJ9_min_7cf53 : ByteArray := prog_14_method_69_code
def yJ9_min_7cf53 : MethodName := ⟨RJ9, "min", "(II)I"⟩
def RJ0 : String := "java/lang/String"
def TJ0 : u_T := fun k => match k with
  | _ => ("", "", "", false)
def tyJ0 : Nat → FieldType := fun k => match k with
  | _ => .int
abbrev wsJ00 : List Cond := u_ws RJ0 TJ0 0
theorem nmJ0 : ∀ a, a < 0 → ∀ b, b < 0 → a ≠ b → (TJ0 a).2.1 ≠ (TJ0 b).2.1 := by decide +kernel
theorem tyJ0_ok : ∀ k, k < 0 → parseFieldDescriptor (TJ0 k).2.2.1 = some (tyJ0 k) := by decide +kernel
def RJ10 : String := "java/lang/System"
def TJ10 : u_T := fun k => match k with
  | _ => ("", "", "", false)
def tyJ10 : Nat → FieldType := fun k => match k with
  | _ => .int
abbrev wsJ100 : List Cond := u_ws RJ10 TJ10 0
theorem nmJ10 : ∀ a, a < 0 → ∀ b, b < 0 → a ≠ b → (TJ10 a).2.1 ≠ (TJ10 b).2.1 := by decide +kernel
theorem tyJ10_ok : ∀ k, k < 0 → parseFieldDescriptor (TJ10 k).2.2.1 = some (tyJ10 k) := by decide +kernel
def RJxa1e45 : String := "java/util/AbstractCollection"
def TJxa1e45 : u_T := fun k => match k with
  | _ => ("", "", "", false)
def tyJxa1e45 : Nat → FieldType := fun k => match k with
  | _ => .int
abbrev wsJxa1e450 : List Cond := u_ws RJxa1e45 TJxa1e45 0
theorem nmJxa1e45 : ∀ a, a < 0 → ∀ b, b < 0 → a ≠ b → (TJxa1e45 a).2.1 ≠ (TJxa1e45 b).2.1 := by decide +kernel
theorem tyJxa1e45_ok : ∀ k, k < 0 → parseFieldDescriptor (TJxa1e45 k).2.2.1 = some (tyJxa1e45 k) := by decide +kernel
abbrev cJxa1e45_init_da8c8 : ByteArray := prog_19_method_1_code
def yJxa1e45_init_da8c8 : MethodName := ⟨RJxa1e45, "<init>", "()V"⟩
def RJxc12de : String := "java/util/AbstractList"
def TJxc12de : u_T := fun k => match k with
  | _ => ("", "", "", false)
def tyJxc12de : Nat → FieldType := fun k => match k with
  | _ => .int
abbrev wsJxc12de0 : List Cond := u_ws RJxc12de TJxc12de 0
theorem nmJxc12de : ∀ a, a < 0 → ∀ b, b < 0 → a ≠ b → (TJxc12de a).2.1 ≠ (TJxc12de b).2.1 := by decide +kernel
theorem tyJxc12de_ok : ∀ k, k < 0 → parseFieldDescriptor (TJxc12de k).2.2.1 = some (tyJxc12de k) := by decide +kernel
abbrev cJxc12de_init_da8c8 : ByteArray := prog_20_method_1_code
def yJxc12de_init_da8c8 : MethodName := ⟨RJxc12de, "<init>", "()V"⟩
def RJx4a65c : String := "java/util/ArrayList"
def TJx4a65c : u_T := fun k => match k with
  | 0 => ("java/util/AbstractList", "modCount", "I", false)
  | 1 => ("java/util/ArrayList", "elementData", "[Ljava/lang/Object;", false)
  | _ => ("java/util/ArrayList", "size", "I", false)
def tyJx4a65c : Nat → FieldType := fun k => match k with
  | 0 => .int
  | 1 => .array (.object "java/lang/Object")
  | _ => .int
abbrev wsJx4a65c0 : List Cond := u_ws RJx4a65c TJx4a65c 3
theorem nmJx4a65c : ∀ a, a < 3 → ∀ b, b < 3 → a ≠ b → (TJx4a65c a).2.1 ≠ (TJx4a65c b).2.1 := by decide +kernel
theorem tyJx4a65c_ok : ∀ k, k < 3 → parseFieldDescriptor (TJx4a65c k).2.2.1 = some (tyJx4a65c k) := by decide +kernel
abbrev cJx4a65c_init_da8c8 : ByteArray := prog_21_method_2_code
def yJx4a65c_init_da8c8 : MethodName := ⟨RJx4a65c, "<init>", "()V"⟩
abbrev cJx4a65c_grow_92f84 : ByteArray := prog_21_method_6_code
def yJx4a65c_grow_92f84 : MethodName := ⟨RJx4a65c, "grow", "(I)[Ljava/lang/Object;"⟩
abbrev cJx4a65c_grow_d5877 : ByteArray := prog_21_method_7_code
def yJx4a65c_grow_d5877 : MethodName := ⟨RJx4a65c, "grow", "()[Ljava/lang/Object;"⟩
abbrev cJx4a65c_size_8abf5 : ByteArray := prog_21_method_8_code
def yJx4a65c_size_8abf5 : MethodName := ⟨RJx4a65c, "size", "()I"⟩
abbrev cJx4a65c_elementData_915e3 : ByteArray := prog_21_method_18_code
def yJx4a65c_elementData_915e3 : MethodName := ⟨RJx4a65c, "elementData", "(I)Ljava/lang/Object;"⟩
abbrev cJx4a65c_get_915e3 : ByteArray := prog_21_method_20_code
def yJx4a65c_get_915e3 : MethodName := ⟨RJx4a65c, "get", "(I)Ljava/lang/Object;"⟩
abbrev cJx4a65c_add_72be8 : ByteArray := prog_21_method_24_code
def yJx4a65c_add_72be8 : MethodName := ⟨RJx4a65c, "add", "(Ljava/lang/Object;[Ljava/lang/Object;I)V"⟩
abbrev cJx4a65c_add_9ea2d : ByteArray := prog_21_method_25_code
def yJx4a65c_add_9ea2d : MethodName := ⟨RJx4a65c, "add", "(Ljava/lang/Object;)Z"⟩
def RJ7 : String := "java/util/Arrays"
def TJ7 : u_T := fun k => match k with
  | _ => ("", "", "", false)
def tyJ7 : Nat → FieldType := fun k => match k with
  | _ => .int
abbrev wsJ70 : List Cond := u_ws RJ7 TJ7 0
theorem nmJ7 : ∀ a, a < 0 → ∀ b, b < 0 → a ≠ b → (TJ7 a).2.1 ≠ (TJ7 b).2.1 := by decide +kernel
theorem tyJ7_ok : ∀ k, k < 0 → parseFieldDescriptor (TJ7 k).2.2.1 = some (tyJ7 k) := by decide +kernel
abbrev cJ7_fill_53178 : ByteArray := prog_22_method_103_code
def yJ7_fill_53178 : MethodName := ⟨RJ7, "fill", "([II)V"⟩
abbrev cJ7_copyOf_1904c : ByteArray := prog_22_method_119_code
def yJ7_copyOf_1904c : MethodName := ⟨RJ7, "copyOf", "([Ljava/lang/Object;I)[Ljava/lang/Object;"⟩
abbrev cJ7_copyOf_6403c : ByteArray := prog_22_method_120_code
def yJ7_copyOf_6403c : MethodName := ⟨RJ7, "copyOf", "([Ljava/lang/Object;ILjava/lang/Class;)[Ljava/lang/Object;"⟩
def RJx5ef63 : String := "java/util/Collection"
def TJx5ef63 : u_T := fun k => match k with
  | _ => ("", "", "", false)
def tyJx5ef63 : Nat → FieldType := fun k => match k with
  | _ => .int
abbrev wsJx5ef630 : List Cond := u_ws RJx5ef63 TJx5ef63 0
theorem nmJx5ef63 : ∀ a, a < 0 → ∀ b, b < 0 → a ≠ b → (TJx5ef63 a).2.1 ≠ (TJx5ef63 b).2.1 := by decide +kernel
theorem tyJx5ef63_ok : ∀ k, k < 0 → parseFieldDescriptor (TJx5ef63 k).2.2.1 = some (tyJx5ef63 k) := by decide +kernel
def RJxbd725 : String := "java/util/List"
def TJxbd725 : u_T := fun k => match k with
  | _ => ("", "", "", false)
def tyJxbd725 : Nat → FieldType := fun k => match k with
  | _ => .int
abbrev wsJxbd7250 : List Cond := u_ws RJxbd725 TJxbd725 0
theorem nmJxbd725 : ∀ a, a < 0 → ∀ b, b < 0 → a ≠ b → (TJxbd725 a).2.1 ≠ (TJxbd725 b).2.1 := by decide +kernel
theorem tyJxbd725_ok : ∀ k, k < 0 → parseFieldDescriptor (TJxbd725 k).2.2.1 = some (tyJxbd725 k) := by decide +kernel
def RJ15 : String := "java/util/Objects"
def TJ15 : u_T := fun k => match k with
  | _ => ("", "", "", false)
def tyJ15 : Nat → FieldType := fun k => match k with
  | _ => .int
abbrev wsJ150 : List Cond := u_ws RJ15 TJ15 0
theorem nmJ15 : ∀ a, a < 0 → ∀ b, b < 0 → a ≠ b → (TJ15 a).2.1 ≠ (TJ15 b).2.1 := by decide +kernel
theorem tyJ15_ok : ∀ k, k < 0 → parseFieldDescriptor (TJ15 k).2.2.1 = some (tyJ15 k) := by decide +kernel
abbrev cJ15_checkIndex_7cf53 : ByteArray := prog_25_method_17_code
def yJ15_checkIndex_7cf53 : MethodName := ⟨RJ15, "checkIndex", "(II)I"⟩
def RJxf0a74 : String := "java/util/RandomAccess"
def TJxf0a74 : u_T := fun k => match k with
  | _ => ("", "", "", false)
def tyJxf0a74 : Nat → FieldType := fun k => match k with
  | _ => .int
abbrev wsJxf0a740 : List Cond := u_ws RJxf0a74 TJxf0a74 0
theorem nmJxf0a74 : ∀ a, a < 0 → ∀ b, b < 0 → a ≠ b → (TJxf0a74 a).2.1 ≠ (TJxf0a74 b).2.1 := by decide +kernel
theorem tyJxf0a74_ok : ∀ k, k < 0 → parseFieldDescriptor (TJxf0a74 k).2.2.1 = some (tyJxf0a74 k) := by decide +kernel
def RJxa66e6 : String := "java/util/SequencedCollection"
def TJxa66e6 : u_T := fun k => match k with
  | _ => ("", "", "", false)
def tyJxa66e6 : Nat → FieldType := fun k => match k with
  | _ => .int
abbrev wsJxa66e60 : List Cond := u_ws RJxa66e6 TJxa66e6 0
theorem nmJxa66e6 : ∀ a, a < 0 → ∀ b, b < 0 → a ≠ b → (TJxa66e6 a).2.1 ≠ (TJxa66e6 b).2.1 := by decide +kernel
theorem tyJxa66e6_ok : ∀ k, k < 0 → parseFieldDescriptor (TJxa66e6 k).2.2.1 = some (tyJxa66e6 k) := by decide +kernel
def RJ8 : String := "jdk/internal/util/ArraysSupport"
def TJ8 : u_T := fun k => match k with
  | _ => ("", "", "", false)
def tyJ8 : Nat → FieldType := fun k => match k with
  | _ => .int
abbrev wsJ80 : List Cond := u_ws RJ8 TJ8 0
theorem nmJ8 : ∀ a, a < 0 → ∀ b, b < 0 → a ≠ b → (TJ8 a).2.1 ≠ (TJ8 b).2.1 := by decide +kernel
theorem tyJ8_ok : ∀ k, k < 0 → parseFieldDescriptor (TJ8 k).2.2.1 = some (tyJ8 k) := by decide +kernel
abbrev cJ8_newLength_cabcc : ByteArray := prog_28_method_27_code
def yJ8_newLength_cabcc : MethodName := ⟨RJ8, "newLength", "(III)I"⟩
abbrev cJ8_hugeLength_7cf53 : ByteArray := prog_28_method_28_code
def yJ8_hugeLength_7cf53 : MethodName := ⟨RJ8, "hugeLength", "(II)I"⟩
def RJ3 : String := "jdk/internal/util/Preconditions"
def TJ3 : u_T := fun k => match k with
  | _ => ("", "", "", false)
def tyJ3 : Nat → FieldType := fun k => match k with
  | _ => .int
abbrev wsJ30 : List Cond := u_ws RJ3 TJ3 0
theorem nmJ3 : ∀ a, a < 0 → ∀ b, b < 0 → a ≠ b → (TJ3 a).2.1 ≠ (TJ3 b).2.1 := by decide +kernel
theorem tyJ3_ok : ∀ k, k < 0 → parseFieldDescriptor (TJ3 k).2.2.1 = some (tyJ3 k) := by decide +kernel
abbrev cJ3_checkIndex_8e157 : ByteArray := prog_29_method_11_code
def yJ3_checkIndex_8e157 : MethodName := ⟨RJ3, "checkIndex", "(IILjava/util/function/BiFunction;)I"⟩
def RL : String := "RosterPayLaw"
abbrev cL_rule : ByteArray := method_2_code
def yL_rule : MethodName := ⟨RL, "rule", "(LRosterPay;IIIII)I"⟩
abbrev cL_act : ByteArray := method_3_code
def yL_act : MethodName := ⟨RL, "act", "(LRosterPay;IIIII)I"⟩
abbrev cL_refuses : ByteArray := method_4_code
def yL_refuses : MethodName := ⟨RL, "refuses", "(LRosterPay;II)Z"⟩
abbrev cL_at : ByteArray := method_5_code
def yL_at : MethodName := ⟨RL, "at", "(LRosterPay;IIII)Z"⟩
abbrev cL_pays : ByteArray := method_6_code
def yL_pays : MethodName := ⟨RL, "pays", "()Z"⟩
abbrev cL_hours : ByteArray := method_7_code
def yL_hours : MethodName := ⟨RL, "hours", "()Z"⟩
abbrev cL_most : ByteArray := method_8_code
def yL_most : MethodName := ⟨RL, "most", "(LRosterPay;)Z"⟩
abbrev cL_law : ByteArray := code
def yL_law : MethodName := ⟨RL, "law", "([I)Z"⟩
def wsX0_init : List Cond := .code yX0_init cX0_init 7 none :: ([.methodLink RX0 3 objectInit, .instanceMethod objectInit, .code objectInit ⟨#[0xb1]⟩ 1 none, .fieldLink RX0 9 "RosterPay$Rule" "number" "I", .fieldLink RX0 15 "RosterPay$Rule" "weekdays" "I", .fieldLink RX0 18 "RosterPay$Rule" "from" "I", .fieldLink RX0 21 "RosterPay$Rule" "to" "I", .fieldLink RX0 24 "RosterPay$Rule" "ranks" "I", .fieldLink RX0 27 "RosterPay$Rule" "percent" "I", .fieldLink RX0 30 "RosterPay$Rule" "isOn" "Z"] ++ wsX00)
def wsX0_hasBit : List Cond := .code yX0_hasBit cX0_hasBit 2 (some .boolean) :: ([])
def wsX0_isForDay : List Cond := .code yX0_isForDay cX0_isForDay 3 (some .boolean) :: ([.fieldLink RX0 15 "RosterPay$Rule" "weekdays" "I", .methodLink RX0 34 yX0_hasBit, .static yX0_hasBit, .initialized RX0, .code yX0_hasBit cX0_hasBit 2 (some .boolean)] ++ wsX00)
def wsX0_appliesTo : List Cond := .code yX0_appliesTo cX0_appliesTo 5 (some .boolean) :: ([.fieldLink RX0 30 "RosterPay$Rule" "isOn" "Z", .fieldLink RX0 24 "RosterPay$Rule" "ranks" "I", .fieldLink RX0 18 "RosterPay$Rule" "from" "I", .fieldLink RX0 21 "RosterPay$Rule" "to" "I", .methodLink RX0 34 yX0_hasBit, .static yX0_hasBit, .initialized RX0, .code yX0_hasBit cX0_hasBit 2 (some .boolean), .methodLink RX0 38 yX0_isForDay, .instanceMethod yX0_isForDay, .selects RX0 yX0_isForDay yX0_isForDay, .code yX0_isForDay cX0_isForDay 3 (some .boolean), .fieldLink RX0 15 "RosterPay$Rule" "weekdays" "I"] ++ wsX00)
def wsX1_init : List Cond := .code yX1_init cX1_init 4 none :: ([.methodLink RX1 3 objectInit, .instanceMethod objectInit, .code objectInit ⟨#[0xb1]⟩ 1 none, .fieldLink RX1 9 "RosterPay$Shift" "worker" "LRosterPay$Worker;", .fieldLink RX1 15 "RosterPay$Shift" "start" "I", .fieldLink RX1 19 "RosterPay$Shift" "quarters" "I", .fieldLink RX1 22 "RosterPay$Shift" "breaksTaken" "I", .fieldLink RX1 25 "RosterPay$Shift" "isCancelled" "Z"] ++ wsX10)
def wsX1_paidLength : List Cond := .code yX1_paidLength cX1_paidLength 1 (some .int) :: ([.fieldLink RX1 25 "RosterPay$Shift" "isCancelled" "Z", .fieldLink RX1 19 "RosterPay$Shift" "quarters" "I", .methodLink RX1 29 Lib.Math.max.name, .static Lib.Math.max.name, .initialized "java/lang/Math", .code Lib.Math.max.name Lib.Math.max.code 2 (some .int)] ++ wsX10)
def wsX1_dayOf : List Cond := .code yX1_dayOf cX1_dayOf 2 (some .int) :: ([.fieldLink RX1 15 "RosterPay$Shift" "start" "I"] ++ wsX10)
def wsX1_quarterOfDay : List Cond := .code yX1_quarterOfDay cX1_quarterOfDay 2 (some .int) :: ([.fieldLink RX1 15 "RosterPay$Shift" "start" "I"] ++ wsX10)
def wsX1_breaksOwed : List Cond := .code yX1_breaksOwed cX1_breaksOwed 1 (some .int) :: ([.fieldLink RX1 19 "RosterPay$Shift" "quarters" "I"] ++ wsX10)
def wsX1_breaksMissed : List Cond := .code yX1_breaksMissed cX1_breaksMissed 1 (some .int) :: ([.fieldLink RX1 25 "RosterPay$Shift" "isCancelled" "Z", .fieldLink RX1 22 "RosterPay$Shift" "breaksTaken" "I", .methodLink RX1 29 Lib.Math.max.name, .static Lib.Math.max.name, .initialized "java/lang/Math", .code Lib.Math.max.name Lib.Math.max.code 2 (some .int), .methodLink RX1 35 yX1_breaksOwed, .instanceMethod yX1_breaksOwed, .selects RX1 yX1_breaksOwed yX1_breaksOwed, .initialized RX1, .code yX1_breaksOwed cX1_breaksOwed 1 (some .int), .fieldLink RX1 19 "RosterPay$Shift" "quarters" "I"] ++ wsX10)
def wsX1_ownBetween : List Cond := .code yX1_ownBetween cX1_ownBetween 3 (some .int) :: ([.fieldLink RX1 15 "RosterPay$Shift" "start" "I", .fieldLink RX1 19 "RosterPay$Shift" "quarters" "I", .methodLink RX1 39 Lib.Math.min.name, .static Lib.Math.min.name, .initialized "java/lang/Math", .code Lib.Math.min.name Lib.Math.min.code 2 (some .int), .methodLink RX1 29 Lib.Math.max.name, .static Lib.Math.max.name, .code Lib.Math.max.name Lib.Math.max.code 2 (some .int)] ++ wsX10)
def wsX2_init : List Cond := .code yX2_init cX2_init 2 none :: ([.methodLink RX2 1 objectInit, .instanceMethod objectInit, .code objectInit ⟨#[0xb1]⟩ 1 none, .fieldLink RX2 7 "RosterPay$Worker" "rank" "I"] ++ wsX20)
def wsJ7_fill_53178 : List Cond := .code yJ7_fill_53178 cJ7_fill_53178 4 none :: ([])
def wsJxa1e45_init_da8c8 : List Cond := .code yJxa1e45_init_da8c8 cJxa1e45_init_da8c8 1 none :: ([.methodLink RJxa1e45 1 objectInit, .instanceMethod objectInit, .code objectInit ⟨#[0xb1]⟩ 1 none])
def wsJxc12de_init_da8c8 : List Cond := .code yJxc12de_init_da8c8 cJxc12de_init_da8c8 1 none :: ([.fieldLink RJxc12de 7 "java/util/AbstractList" "modCount" "I", .methodLink RJxc12de 1 yJxa1e45_init_da8c8, .instanceMethod yJxa1e45_init_da8c8, .initialized RJxa1e45, .code yJxa1e45_init_da8c8 cJxa1e45_init_da8c8 1 none, .methodLink RJxa1e45 1 objectInit, .instanceMethod objectInit, .code objectInit ⟨#[0xb1]⟩ 1 none] ++ wsJx4a65c0)
def wsJx4a65c_init_da8c8 : List Cond := .code yJx4a65c_init_da8c8 cJx4a65c_init_da8c8 1 none :: ([.fieldLink RJx4a65c 39 "java/util/ArrayList" "DEFAULTCAPACITY_EMPTY_ELEMENTDATA" "[Ljava/lang/Object;", .fieldLink RJx4a65c 9 "java/util/ArrayList" "elementData" "[Ljava/lang/Object;", .methodLink RJx4a65c 1 yJxc12de_init_da8c8, .instanceMethod yJxc12de_init_da8c8, .initialized RJxc12de, .code yJxc12de_init_da8c8 cJxc12de_init_da8c8 1 none, .fieldLink RJxc12de 7 "java/util/AbstractList" "modCount" "I", .methodLink RJxc12de 1 yJxa1e45_init_da8c8, .instanceMethod yJxa1e45_init_da8c8, .initialized RJxa1e45, .code yJxa1e45_init_da8c8 cJxa1e45_init_da8c8 1 none, .methodLink RJxa1e45 1 objectInit, .instanceMethod objectInit, .code objectInit ⟨#[0xb1]⟩ 1 none] ++ wsJx4a65c0)
def wsX3_init_r1 : List Cond := [Cond.methodLink RX3 3 objectInit, Cond.instanceMethod objectInit, Cond.code objectInit ⟨#[0xb1]⟩ 1 none, Cond.arrayClass .int, Cond.fieldLink RX3 9 "RosterPay" "bases" "[I", Cond.arrayClass .boolean, Cond.fieldLink RX3 19 "RosterPay" "holidays" "[Z", Cond.classLink RX3 23 RJx4a65c, Cond.instantiable RJx4a65c 3, Cond.initialized RJx4a65c, Cond.fieldLink RX3 26 "RosterPay" "rules" "Ljava/util/ArrayList;", Cond.fieldLink RX3 30 "RosterPay" "workers" "Ljava/util/ArrayList;", Cond.fieldLink RX3 33 "RosterPay" "roster" "Ljava/util/ArrayList;", Cond.methodLink RX3 13 yJ7_fill_53178, Cond.static yJ7_fill_53178, Cond.initialized RJ7, Cond.code yJ7_fill_53178 cJ7_fill_53178 4 none, Cond.methodLink RX3 25 yJx4a65c_init_da8c8, Cond.instanceMethod yJx4a65c_init_da8c8, Cond.code yJx4a65c_init_da8c8 cJx4a65c_init_da8c8 1 none, Cond.fieldLink RJx4a65c 39 "java/util/ArrayList" "DEFAULTCAPACITY_EMPTY_ELEMENTDATA" "[Ljava/lang/Object;", Cond.fieldLink RJx4a65c 9 "java/util/ArrayList" "elementData" "[Ljava/lang/Object;", Cond.methodLink RJx4a65c 1 yJxc12de_init_da8c8, Cond.instanceMethod yJxc12de_init_da8c8]
def wsX3_init_r2 : List Cond := [Cond.initialized RJxc12de, Cond.code yJxc12de_init_da8c8 cJxc12de_init_da8c8 1 none, Cond.fieldLink RJxc12de 7 "java/util/AbstractList" "modCount" "I", Cond.methodLink RJxc12de 1 yJxa1e45_init_da8c8, Cond.instanceMethod yJxa1e45_init_da8c8, Cond.initialized RJxa1e45, Cond.code yJxa1e45_init_da8c8 cJxa1e45_init_da8c8 1 none, Cond.methodLink RJxa1e45 1 objectInit]
def wsX3_init : List Cond := .code yX3_init cX3_init 1 none :: ((wsX3_init_r1 ++ wsX3_init_r2) ++ wsX30 ++ wsJx4a65c0)
def wsX3_checkArgument : List Cond := .code yX3_checkArgument cX3_checkArgument 3 none :: ([.classLink RX3 36 "java/lang/IllegalArgumentException", .initialized "java/lang/IllegalArgumentException"] ++ (vx_atS RX3 40 "java/lang/IllegalArgumentException" ["java/lang/RuntimeException", "java/lang/Exception"]).filter goodWord)
def wsX3_setBase : List Cond := .code yX3_setBase cX3_setBase 4 (some .int) :: ([.classLink RX3 36 "java/lang/IllegalArgumentException", .initialized "java/lang/IllegalArgumentException", .fieldLink RX3 9 "RosterPay" "bases" "[I", .methodLink RX3 43 yX3_checkArgument, .static yX3_checkArgument, .initialized RX3, .code yX3_checkArgument cX3_checkArgument 3 none] ++ wsX30 ++ (vx_atS RX3 40 "java/lang/IllegalArgumentException" ["java/lang/RuntimeException", "java/lang/Exception"]).filter goodWord)
def wsJx4a65c_size_8abf5 : List Cond := .code yJx4a65c_size_8abf5 cJx4a65c_size_8abf5 1 (some .int) :: ([.fieldLink RJx4a65c 48 "java/util/ArrayList" "size" "I"] ++ wsJx4a65c0)
def wsJ8_hugeLength_7cf53 : List Cond := .code yJ8_hugeLength_7cf53 cJ8_hugeLength_7cf53 3 (some .int) :: ([.constant RJ8 200 (2147483639)])
def wsJ8_newLength_cabcc : List Cond := .code yJ8_newLength_cabcc cJ8_newLength_cabcc 4 (some .int) :: ([.methodLink RJ8 194 Lib.Math.max.name, .static Lib.Math.max.name, .initialized "java/lang/Math", .code Lib.Math.max.name Lib.Math.max.code 2 (some .int), .constant RJ8 200 (2147483639), .methodLink RJ8 201 yJ8_hugeLength_7cf53, .static yJ8_hugeLength_7cf53, .initialized RJ8, .code yJ8_hugeLength_7cf53 cJ8_hugeLength_7cf53 3 (some .int)])
def wsJ7_copyOf_6403c : List Cond := .code yJ7_copyOf_6403c cJ7_copyOf_6403c 4 (some (.array (.object "java/lang/Object"))) :: ([.classLink RJ7 110 "[Ljava/lang/Object;", .classLink RJ7 2 "java/lang/Object", .methodLink RJ7 304 Lib.Math.min.name, .static Lib.Math.min.name, .initialized "java/lang/Math", .code Lib.Math.min.name Lib.Math.min.code 2 (some .int), .methodLink RJ7 150 arraycopyName, .native arraycopyName, .static arraycopyName, .initialized "java/lang/System"])
def wsJ7_copyOf_1904c : List Cond := .code yJ7_copyOf_1904c cJ7_copyOf_1904c 2 (some (.array (.object "java/lang/Object"))) :: ([.methodLink RJ7 86 ⟨"java/lang/Object", "getClass", "()Ljava/lang/Class;"⟩, .selects "[Ljava/lang/Object;" ⟨"java/lang/Object", "getClass", "()Ljava/lang/Class;"⟩ ⟨"java/lang/Object", "getClass", "()Ljava/lang/Class;"⟩, .instanceMethod ⟨"java/lang/Object", "getClass", "()Ljava/lang/Class;"⟩, .native ⟨"java/lang/Object", "getClass", "()Ljava/lang/Class;"⟩, .methodLink RJ7 300 yJ7_copyOf_6403c, .static yJ7_copyOf_6403c, .initialized RJ7, .code yJ7_copyOf_6403c cJ7_copyOf_6403c 4 (some (.array (.object "java/lang/Object"))), .classLink RJ7 110 "[Ljava/lang/Object;", .classLink RJ7 2 "java/lang/Object", .methodLink RJ7 304 Lib.Math.min.name, .static Lib.Math.min.name, .initialized "java/lang/Math", .code Lib.Math.min.name Lib.Math.min.code 2 (some .int), .methodLink RJ7 150 arraycopyName, .native arraycopyName, .static arraycopyName, .initialized "java/lang/System"])
def wsJx4a65c_grow_92f84_r1 : List Cond := [Cond.fieldLink RJx4a65c 9 "java/util/ArrayList" "elementData" "[Ljava/lang/Object;", Cond.fieldLink RJx4a65c 39 "java/util/ArrayList" "DEFAULTCAPACITY_EMPTY_ELEMENTDATA" "[Ljava/lang/Object;", Cond.methodLink RJx4a65c 79 Lib.Math.max.name, Cond.static Lib.Math.max.name, Cond.initialized "java/lang/Math", Cond.code Lib.Math.max.name Lib.Math.max.code 2 (some .int), Cond.classLink RJx4a65c 7 "java/lang/Object", Cond.methodLink RJx4a65c 73 yJ8_newLength_cabcc, Cond.static yJ8_newLength_cabcc, Cond.initialized RJ8, Cond.code yJ8_newLength_cabcc cJ8_newLength_cabcc 4 (some .int), Cond.methodLink RJ8 194 Lib.Math.max.name, Cond.constant RJ8 200 (2147483639), Cond.methodLink RJ8 201 yJ8_hugeLength_7cf53, Cond.static yJ8_hugeLength_7cf53, Cond.code yJ8_hugeLength_7cf53 cJ8_hugeLength_7cf53 3 (some .int), Cond.methodLink RJx4a65c 66 yJ7_copyOf_1904c, Cond.static yJ7_copyOf_1904c, Cond.initialized RJ7, Cond.code yJ7_copyOf_1904c cJ7_copyOf_1904c 2 (some (.array (.object "java/lang/Object"))), Cond.methodLink RJ7 86 ⟨"java/lang/Object", "getClass", "()Ljava/lang/Class;"⟩, Cond.selects "[Ljava/lang/Object;" ⟨"java/lang/Object", "getClass", "()Ljava/lang/Class;"⟩ ⟨"java/lang/Object", "getClass", "()Ljava/lang/Class;"⟩, Cond.instanceMethod ⟨"java/lang/Object", "getClass", "()Ljava/lang/Class;"⟩, Cond.native ⟨"java/lang/Object", "getClass", "()Ljava/lang/Class;"⟩]
def wsJx4a65c_grow_92f84_r2 : List Cond := [Cond.methodLink RJ7 300 yJ7_copyOf_6403c, Cond.static yJ7_copyOf_6403c, Cond.code yJ7_copyOf_6403c cJ7_copyOf_6403c 4 (some (.array (.object "java/lang/Object"))), Cond.classLink RJ7 110 "[Ljava/lang/Object;", Cond.classLink RJ7 2 "java/lang/Object", Cond.methodLink RJ7 304 Lib.Math.min.name, Cond.static Lib.Math.min.name, Cond.code Lib.Math.min.name Lib.Math.min.code 2 (some .int), Cond.methodLink RJ7 150 arraycopyName, Cond.native arraycopyName, Cond.static arraycopyName, Cond.initialized "java/lang/System"]
def wsJx4a65c_grow_92f84 : List Cond := .code yJx4a65c_grow_92f84 cJx4a65c_grow_92f84 4 (some (.array (.object "java/lang/Object"))) :: ((wsJx4a65c_grow_92f84_r1 ++ wsJx4a65c_grow_92f84_r2) ++ wsJx4a65c0)
def wsJx4a65c_grow_d5877_r1 : List Cond := [Cond.fieldLink RJx4a65c 48 "java/util/ArrayList" "size" "I", Cond.methodLink RJx4a65c 69 yJx4a65c_grow_92f84, Cond.instanceMethod yJx4a65c_grow_92f84, Cond.selects RJx4a65c yJx4a65c_grow_92f84 yJx4a65c_grow_92f84, Cond.initialized RJx4a65c, Cond.code yJx4a65c_grow_92f84 cJx4a65c_grow_92f84 4 (some (.array (.object "java/lang/Object"))), Cond.fieldLink RJx4a65c 9 "java/util/ArrayList" "elementData" "[Ljava/lang/Object;", Cond.fieldLink RJx4a65c 39 "java/util/ArrayList" "DEFAULTCAPACITY_EMPTY_ELEMENTDATA" "[Ljava/lang/Object;", Cond.methodLink RJx4a65c 79 Lib.Math.max.name, Cond.static Lib.Math.max.name, Cond.initialized "java/lang/Math", Cond.code Lib.Math.max.name Lib.Math.max.code 2 (some .int), Cond.classLink RJx4a65c 7 "java/lang/Object", Cond.methodLink RJx4a65c 73 yJ8_newLength_cabcc, Cond.static yJ8_newLength_cabcc, Cond.initialized RJ8, Cond.code yJ8_newLength_cabcc cJ8_newLength_cabcc 4 (some .int), Cond.methodLink RJ8 194 Lib.Math.max.name, Cond.constant RJ8 200 (2147483639), Cond.methodLink RJ8 201 yJ8_hugeLength_7cf53, Cond.static yJ8_hugeLength_7cf53, Cond.code yJ8_hugeLength_7cf53 cJ8_hugeLength_7cf53 3 (some .int), Cond.methodLink RJx4a65c 66 yJ7_copyOf_1904c, Cond.static yJ7_copyOf_1904c]
def wsJx4a65c_grow_d5877_r2 : List Cond := [Cond.initialized RJ7, Cond.code yJ7_copyOf_1904c cJ7_copyOf_1904c 2 (some (.array (.object "java/lang/Object"))), Cond.methodLink RJ7 86 ⟨"java/lang/Object", "getClass", "()Ljava/lang/Class;"⟩, Cond.selects "[Ljava/lang/Object;" ⟨"java/lang/Object", "getClass", "()Ljava/lang/Class;"⟩ ⟨"java/lang/Object", "getClass", "()Ljava/lang/Class;"⟩, Cond.instanceMethod ⟨"java/lang/Object", "getClass", "()Ljava/lang/Class;"⟩, Cond.native ⟨"java/lang/Object", "getClass", "()Ljava/lang/Class;"⟩, Cond.methodLink RJ7 300 yJ7_copyOf_6403c, Cond.static yJ7_copyOf_6403c, Cond.code yJ7_copyOf_6403c cJ7_copyOf_6403c 4 (some (.array (.object "java/lang/Object"))), Cond.classLink RJ7 110 "[Ljava/lang/Object;", Cond.classLink RJ7 2 "java/lang/Object", Cond.methodLink RJ7 304 Lib.Math.min.name, Cond.static Lib.Math.min.name, Cond.code Lib.Math.min.name Lib.Math.min.code 2 (some .int), Cond.methodLink RJ7 150 arraycopyName, Cond.native arraycopyName, Cond.static arraycopyName, Cond.initialized "java/lang/System"]
def wsJx4a65c_grow_d5877 : List Cond := .code yJx4a65c_grow_d5877 cJx4a65c_grow_d5877 1 (some (.array (.object "java/lang/Object"))) :: ((wsJx4a65c_grow_d5877_r1 ++ wsJx4a65c_grow_d5877_r2) ++ wsJx4a65c0)
def wsJx4a65c_add_72be8_r1 : List Cond := [Cond.fieldLink RJx4a65c 48 "java/util/ArrayList" "size" "I", Cond.methodLink RJx4a65c 129 yJx4a65c_grow_d5877, Cond.instanceMethod yJx4a65c_grow_d5877, Cond.selects RJx4a65c yJx4a65c_grow_d5877 yJx4a65c_grow_d5877, Cond.initialized RJx4a65c, Cond.code yJx4a65c_grow_d5877 cJx4a65c_grow_d5877 1 (some (.array (.object "java/lang/Object"))), Cond.methodLink RJx4a65c 69 yJx4a65c_grow_92f84, Cond.instanceMethod yJx4a65c_grow_92f84, Cond.selects RJx4a65c yJx4a65c_grow_92f84 yJx4a65c_grow_92f84, Cond.code yJx4a65c_grow_92f84 cJx4a65c_grow_92f84 4 (some (.array (.object "java/lang/Object"))), Cond.fieldLink RJx4a65c 9 "java/util/ArrayList" "elementData" "[Ljava/lang/Object;", Cond.fieldLink RJx4a65c 39 "java/util/ArrayList" "DEFAULTCAPACITY_EMPTY_ELEMENTDATA" "[Ljava/lang/Object;", Cond.methodLink RJx4a65c 79 Lib.Math.max.name, Cond.static Lib.Math.max.name, Cond.initialized "java/lang/Math", Cond.code Lib.Math.max.name Lib.Math.max.code 2 (some .int), Cond.classLink RJx4a65c 7 "java/lang/Object", Cond.methodLink RJx4a65c 73 yJ8_newLength_cabcc, Cond.static yJ8_newLength_cabcc, Cond.initialized RJ8, Cond.code yJ8_newLength_cabcc cJ8_newLength_cabcc 4 (some .int), Cond.methodLink RJ8 194 Lib.Math.max.name, Cond.constant RJ8 200 (2147483639), Cond.methodLink RJ8 201 yJ8_hugeLength_7cf53]
def wsJx4a65c_add_72be8_r2 : List Cond := [Cond.static yJ8_hugeLength_7cf53, Cond.code yJ8_hugeLength_7cf53 cJ8_hugeLength_7cf53 3 (some .int), Cond.methodLink RJx4a65c 66 yJ7_copyOf_1904c, Cond.static yJ7_copyOf_1904c, Cond.initialized RJ7, Cond.code yJ7_copyOf_1904c cJ7_copyOf_1904c 2 (some (.array (.object "java/lang/Object"))), Cond.methodLink RJ7 86 ⟨"java/lang/Object", "getClass", "()Ljava/lang/Class;"⟩, Cond.selects "[Ljava/lang/Object;" ⟨"java/lang/Object", "getClass", "()Ljava/lang/Class;"⟩ ⟨"java/lang/Object", "getClass", "()Ljava/lang/Class;"⟩, Cond.instanceMethod ⟨"java/lang/Object", "getClass", "()Ljava/lang/Class;"⟩, Cond.native ⟨"java/lang/Object", "getClass", "()Ljava/lang/Class;"⟩, Cond.methodLink RJ7 300 yJ7_copyOf_6403c, Cond.static yJ7_copyOf_6403c, Cond.code yJ7_copyOf_6403c cJ7_copyOf_6403c 4 (some (.array (.object "java/lang/Object"))), Cond.classLink RJ7 110 "[Ljava/lang/Object;", Cond.classLink RJ7 2 "java/lang/Object", Cond.methodLink RJ7 304 Lib.Math.min.name, Cond.static Lib.Math.min.name, Cond.code Lib.Math.min.name Lib.Math.min.code 2 (some .int), Cond.methodLink RJ7 150 arraycopyName, Cond.native arraycopyName, Cond.static arraycopyName, Cond.initialized "java/lang/System"]
def wsJx4a65c_add_72be8 : List Cond := .code yJx4a65c_add_72be8 cJx4a65c_add_72be8 4 none :: ((wsJx4a65c_add_72be8_r1 ++ wsJx4a65c_add_72be8_r2) ++ wsJx4a65c0)
def wsJx4a65c_add_9ea2d_r1 : List Cond := [Cond.fieldLink RJx4a65c 63 "java/util/ArrayList" "modCount" "I", Cond.sameField "java/util/ArrayList" "java/util/AbstractList" "modCount" "I", Cond.fieldLink RJx4a65c 9 "java/util/ArrayList" "elementData" "[Ljava/lang/Object;", Cond.fieldLink RJx4a65c 48 "java/util/ArrayList" "size" "I", Cond.methodLink RJx4a65c 131 yJx4a65c_add_72be8, Cond.instanceMethod yJx4a65c_add_72be8, Cond.selects RJx4a65c yJx4a65c_add_72be8 yJx4a65c_add_72be8, Cond.initialized RJx4a65c, Cond.code yJx4a65c_add_72be8 cJx4a65c_add_72be8 4 none, Cond.methodLink RJx4a65c 129 yJx4a65c_grow_d5877, Cond.instanceMethod yJx4a65c_grow_d5877, Cond.selects RJx4a65c yJx4a65c_grow_d5877 yJx4a65c_grow_d5877, Cond.code yJx4a65c_grow_d5877 cJx4a65c_grow_d5877 1 (some (.array (.object "java/lang/Object"))), Cond.methodLink RJx4a65c 69 yJx4a65c_grow_92f84, Cond.instanceMethod yJx4a65c_grow_92f84, Cond.selects RJx4a65c yJx4a65c_grow_92f84 yJx4a65c_grow_92f84, Cond.code yJx4a65c_grow_92f84 cJx4a65c_grow_92f84 4 (some (.array (.object "java/lang/Object"))), Cond.fieldLink RJx4a65c 39 "java/util/ArrayList" "DEFAULTCAPACITY_EMPTY_ELEMENTDATA" "[Ljava/lang/Object;", Cond.methodLink RJx4a65c 79 Lib.Math.max.name, Cond.static Lib.Math.max.name, Cond.initialized "java/lang/Math", Cond.code Lib.Math.max.name Lib.Math.max.code 2 (some .int), Cond.classLink RJx4a65c 7 "java/lang/Object", Cond.methodLink RJx4a65c 73 yJ8_newLength_cabcc]
def wsJx4a65c_add_9ea2d_r2 : List Cond := [Cond.static yJ8_newLength_cabcc, Cond.initialized RJ8, Cond.code yJ8_newLength_cabcc cJ8_newLength_cabcc 4 (some .int), Cond.methodLink RJ8 194 Lib.Math.max.name, Cond.constant RJ8 200 (2147483639), Cond.methodLink RJ8 201 yJ8_hugeLength_7cf53, Cond.static yJ8_hugeLength_7cf53, Cond.code yJ8_hugeLength_7cf53 cJ8_hugeLength_7cf53 3 (some .int), Cond.methodLink RJx4a65c 66 yJ7_copyOf_1904c, Cond.static yJ7_copyOf_1904c, Cond.initialized RJ7, Cond.code yJ7_copyOf_1904c cJ7_copyOf_1904c 2 (some (.array (.object "java/lang/Object"))), Cond.methodLink RJ7 86 ⟨"java/lang/Object", "getClass", "()Ljava/lang/Class;"⟩, Cond.selects "[Ljava/lang/Object;" ⟨"java/lang/Object", "getClass", "()Ljava/lang/Class;"⟩ ⟨"java/lang/Object", "getClass", "()Ljava/lang/Class;"⟩, Cond.instanceMethod ⟨"java/lang/Object", "getClass", "()Ljava/lang/Class;"⟩, Cond.native ⟨"java/lang/Object", "getClass", "()Ljava/lang/Class;"⟩, Cond.methodLink RJ7 300 yJ7_copyOf_6403c, Cond.static yJ7_copyOf_6403c, Cond.code yJ7_copyOf_6403c cJ7_copyOf_6403c 4 (some (.array (.object "java/lang/Object"))), Cond.classLink RJ7 110 "[Ljava/lang/Object;", Cond.classLink RJ7 2 "java/lang/Object", Cond.methodLink RJ7 304 Lib.Math.min.name, Cond.static Lib.Math.min.name, Cond.code Lib.Math.min.name Lib.Math.min.code 2 (some .int)]
def wsJx4a65c_add_9ea2d_r3 : List Cond := [Cond.methodLink RJ7 150 arraycopyName, Cond.native arraycopyName, Cond.static arraycopyName, Cond.initialized "java/lang/System"]
def wsJx4a65c_add_9ea2d : List Cond := .code yJx4a65c_add_9ea2d cJx4a65c_add_9ea2d 2 (some .boolean) :: ((wsJx4a65c_add_9ea2d_r1 ++ (wsJx4a65c_add_9ea2d_r2 ++ wsJx4a65c_add_9ea2d_r3)) ++ wsJx4a65c0)
def wsX3_addRule_r1 : List Cond := [Cond.classLink RX3 51 "java/lang/IllegalStateException", Cond.initialized "java/lang/IllegalStateException", Cond.fieldLink RX3 26 "RosterPay" "rules" "Ljava/util/ArrayList;", Cond.classLink RX3 56 RX0, Cond.instantiable RX0 7, Cond.initialized RX0, Cond.methodLink RX3 43 yX3_checkArgument, Cond.static yX3_checkArgument, Cond.initialized RX3, Cond.code yX3_checkArgument cX3_checkArgument 3 none, Cond.classLink RX3 36 "java/lang/IllegalArgumentException", Cond.initialized "java/lang/IllegalArgumentException", Cond.methodLink RX3 47 yJx4a65c_size_8abf5, Cond.instanceMethod yJx4a65c_size_8abf5, Cond.selects RJx4a65c yJx4a65c_size_8abf5 yJx4a65c_size_8abf5, Cond.initialized RJx4a65c, Cond.code yJx4a65c_size_8abf5 cJx4a65c_size_8abf5 1 (some .int), Cond.fieldLink RJx4a65c 48 "java/util/ArrayList" "size" "I", Cond.methodLink RX3 58 yX0_init, Cond.instanceMethod yX0_init, Cond.code yX0_init cX0_init 7 none, Cond.methodLink RX0 3 objectInit, Cond.instanceMethod objectInit, Cond.code objectInit ⟨#[0xb1]⟩ 1 none]
def wsX3_addRule_r2 : List Cond := [Cond.fieldLink RX0 9 "RosterPay$Rule" "number" "I", Cond.fieldLink RX0 15 "RosterPay$Rule" "weekdays" "I", Cond.fieldLink RX0 18 "RosterPay$Rule" "from" "I", Cond.fieldLink RX0 21 "RosterPay$Rule" "to" "I", Cond.fieldLink RX0 24 "RosterPay$Rule" "ranks" "I", Cond.fieldLink RX0 27 "RosterPay$Rule" "percent" "I", Cond.fieldLink RX0 30 "RosterPay$Rule" "isOn" "Z", Cond.methodLink RX3 61 yJx4a65c_add_9ea2d, Cond.instanceMethod yJx4a65c_add_9ea2d, Cond.selects RJx4a65c yJx4a65c_add_9ea2d yJx4a65c_add_9ea2d, Cond.code yJx4a65c_add_9ea2d cJx4a65c_add_9ea2d 2 (some .boolean), Cond.fieldLink RJx4a65c 63 "java/util/ArrayList" "modCount" "I", Cond.sameField "java/util/ArrayList" "java/util/AbstractList" "modCount" "I", Cond.fieldLink RJx4a65c 9 "java/util/ArrayList" "elementData" "[Ljava/lang/Object;", Cond.methodLink RJx4a65c 131 yJx4a65c_add_72be8, Cond.instanceMethod yJx4a65c_add_72be8, Cond.selects RJx4a65c yJx4a65c_add_72be8 yJx4a65c_add_72be8, Cond.code yJx4a65c_add_72be8 cJx4a65c_add_72be8 4 none, Cond.methodLink RJx4a65c 129 yJx4a65c_grow_d5877, Cond.instanceMethod yJx4a65c_grow_d5877, Cond.selects RJx4a65c yJx4a65c_grow_d5877 yJx4a65c_grow_d5877, Cond.code yJx4a65c_grow_d5877 cJx4a65c_grow_d5877 1 (some (.array (.object "java/lang/Object"))), Cond.methodLink RJx4a65c 69 yJx4a65c_grow_92f84, Cond.instanceMethod yJx4a65c_grow_92f84]
def wsX3_addRule_r3 : List Cond := [Cond.selects RJx4a65c yJx4a65c_grow_92f84 yJx4a65c_grow_92f84, Cond.code yJx4a65c_grow_92f84 cJx4a65c_grow_92f84 4 (some (.array (.object "java/lang/Object"))), Cond.fieldLink RJx4a65c 39 "java/util/ArrayList" "DEFAULTCAPACITY_EMPTY_ELEMENTDATA" "[Ljava/lang/Object;", Cond.methodLink RJx4a65c 79 Lib.Math.max.name, Cond.static Lib.Math.max.name, Cond.initialized "java/lang/Math", Cond.code Lib.Math.max.name Lib.Math.max.code 2 (some .int), Cond.classLink RJx4a65c 7 "java/lang/Object", Cond.methodLink RJx4a65c 73 yJ8_newLength_cabcc, Cond.static yJ8_newLength_cabcc, Cond.initialized RJ8, Cond.code yJ8_newLength_cabcc cJ8_newLength_cabcc 4 (some .int), Cond.methodLink RJ8 194 Lib.Math.max.name, Cond.constant RJ8 200 (2147483639), Cond.methodLink RJ8 201 yJ8_hugeLength_7cf53, Cond.static yJ8_hugeLength_7cf53, Cond.code yJ8_hugeLength_7cf53 cJ8_hugeLength_7cf53 3 (some .int), Cond.methodLink RJx4a65c 66 yJ7_copyOf_1904c, Cond.static yJ7_copyOf_1904c, Cond.initialized RJ7, Cond.code yJ7_copyOf_1904c cJ7_copyOf_1904c 2 (some (.array (.object "java/lang/Object"))), Cond.methodLink RJ7 86 ⟨"java/lang/Object", "getClass", "()Ljava/lang/Class;"⟩, Cond.selects "[Ljava/lang/Object;" ⟨"java/lang/Object", "getClass", "()Ljava/lang/Class;"⟩ ⟨"java/lang/Object", "getClass", "()Ljava/lang/Class;"⟩, Cond.instanceMethod ⟨"java/lang/Object", "getClass", "()Ljava/lang/Class;"⟩]
def wsX3_addRule_r4 : List Cond := [Cond.native ⟨"java/lang/Object", "getClass", "()Ljava/lang/Class;"⟩, Cond.methodLink RJ7 300 yJ7_copyOf_6403c, Cond.static yJ7_copyOf_6403c, Cond.code yJ7_copyOf_6403c cJ7_copyOf_6403c 4 (some (.array (.object "java/lang/Object"))), Cond.classLink RJ7 110 "[Ljava/lang/Object;", Cond.classLink RJ7 2 "java/lang/Object", Cond.methodLink RJ7 304 Lib.Math.min.name, Cond.static Lib.Math.min.name, Cond.code Lib.Math.min.name Lib.Math.min.code 2 (some .int), Cond.methodLink RJ7 150 arraycopyName, Cond.native arraycopyName, Cond.static arraycopyName, Cond.initialized "java/lang/System"]
def wsX3_addRule : List Cond := .code yX3_addRule cX3_addRule 7 (some .int) :: ((wsX3_addRule_r1 ++ (wsX3_addRule_r2 ++ (wsX3_addRule_r3 ++ wsX3_addRule_r4))) ++ wsX30 ++ wsX00 ++ wsJx4a65c0 ++ (vx_atS RX3 55 "java/lang/IllegalStateException" ["java/lang/RuntimeException", "java/lang/Exception"]).filter goodWord ++ (vx_atS RX3 40 "java/lang/IllegalArgumentException" ["java/lang/RuntimeException", "java/lang/Exception"]).filter goodWord)
def wsJ3_checkIndex_8e157 : List Cond := .code yJ3_checkIndex_8e157 cJ3_checkIndex_8e157 3 (some .int) :: ([])
def wsJ15_checkIndex_7cf53 : List Cond := .code yJ15_checkIndex_7cf53 cJ15_checkIndex_7cf53 2 (some .int) :: ([.methodLink RJ15 105 yJ3_checkIndex_8e157, .static yJ3_checkIndex_8e157, .initialized RJ3, .code yJ3_checkIndex_8e157 cJ3_checkIndex_8e157 3 (some .int)])
def wsJx4a65c_elementData_915e3 : List Cond := .code yJx4a65c_elementData_915e3 cJx4a65c_elementData_915e3 2 (some (.object "java/lang/Object")) :: ([.fieldLink RJx4a65c 9 "java/util/ArrayList" "elementData" "[Ljava/lang/Object;"] ++ wsJx4a65c0)
def wsJx4a65c_get_915e3 : List Cond := .code yJx4a65c_get_915e3 cJx4a65c_get_915e3 2 (some (.object "java/lang/Object")) :: ([.fieldLink RJx4a65c 48 "java/util/ArrayList" "size" "I", .methodLink RJx4a65c 118 yJ15_checkIndex_7cf53, .static yJ15_checkIndex_7cf53, .initialized RJ15, .code yJ15_checkIndex_7cf53 cJ15_checkIndex_7cf53 2 (some .int), .methodLink RJ15 105 yJ3_checkIndex_8e157, .static yJ3_checkIndex_8e157, .initialized RJ3, .code yJ3_checkIndex_8e157 cJ3_checkIndex_8e157 3 (some .int), .methodLink RJx4a65c 123 yJx4a65c_elementData_915e3, .instanceMethod yJx4a65c_elementData_915e3, .selects RJx4a65c yJx4a65c_elementData_915e3 yJx4a65c_elementData_915e3, .initialized RJx4a65c, .code yJx4a65c_elementData_915e3 cJx4a65c_elementData_915e3 2 (some (.object "java/lang/Object")), .fieldLink RJx4a65c 9 "java/util/ArrayList" "elementData" "[Ljava/lang/Object;"] ++ wsJx4a65c0)
def wsX3_findRule_r1 : List Cond := [Cond.classLink RX3 170 "java/lang/IndexOutOfBoundsException", Cond.initialized "java/lang/IndexOutOfBoundsException", Cond.fieldLink RX3 26 "RosterPay" "rules" "Ljava/util/ArrayList;", Cond.classLink RX3 56 "RosterPay$Rule", Cond.methodLink RX3 47 yJx4a65c_size_8abf5, Cond.instanceMethod yJx4a65c_size_8abf5, Cond.selects RJx4a65c yJx4a65c_size_8abf5 yJx4a65c_size_8abf5, Cond.initialized RJx4a65c, Cond.code yJx4a65c_size_8abf5 cJx4a65c_size_8abf5 1 (some .int), Cond.fieldLink RJx4a65c 48 "java/util/ArrayList" "size" "I", Cond.methodLink RX3 140 yJx4a65c_get_915e3, Cond.instanceMethod yJx4a65c_get_915e3, Cond.selects RJx4a65c yJx4a65c_get_915e3 yJx4a65c_get_915e3, Cond.code yJx4a65c_get_915e3 cJx4a65c_get_915e3 2 (some (.object "java/lang/Object")), Cond.methodLink RJx4a65c 118 yJ15_checkIndex_7cf53, Cond.static yJ15_checkIndex_7cf53, Cond.initialized RJ15, Cond.code yJ15_checkIndex_7cf53 cJ15_checkIndex_7cf53 2 (some .int), Cond.methodLink RJ15 105 yJ3_checkIndex_8e157, Cond.static yJ3_checkIndex_8e157, Cond.initialized RJ3, Cond.code yJ3_checkIndex_8e157 cJ3_checkIndex_8e157 3 (some .int), Cond.methodLink RJx4a65c 123 yJx4a65c_elementData_915e3, Cond.instanceMethod yJx4a65c_elementData_915e3]
def wsX3_findRule_r2 : List Cond := [Cond.selects RJx4a65c yJx4a65c_elementData_915e3 yJx4a65c_elementData_915e3, Cond.code yJx4a65c_elementData_915e3 cJx4a65c_elementData_915e3 2 (some (.object "java/lang/Object")), Cond.fieldLink RJx4a65c 9 "java/util/ArrayList" "elementData" "[Ljava/lang/Object;"]
def wsX3_findRule : List Cond := .code yX3_findRule cX3_findRule 2 (some (.object "RosterPay$Rule")) :: ((wsX3_findRule_r1 ++ wsX3_findRule_r2) ++ wsX30 ++ wsJx4a65c0 ++ (vx_atS RX3 174 "java/lang/IndexOutOfBoundsException" ["java/lang/RuntimeException", "java/lang/Exception"]).filter goodWord)
def wsX3_setRule_r1 : List Cond := [Cond.fieldLink RX3 69 "RosterPay$Rule" "isOn" "Z", Cond.methodLink RX3 65 yX3_findRule, Cond.instanceMethod yX3_findRule, Cond.selects RX3 yX3_findRule yX3_findRule, Cond.initialized RX3, Cond.code yX3_findRule cX3_findRule 2 (some (.object "RosterPay$Rule")), Cond.classLink RX3 170 "java/lang/IndexOutOfBoundsException", Cond.initialized "java/lang/IndexOutOfBoundsException", Cond.fieldLink RX3 26 "RosterPay" "rules" "Ljava/util/ArrayList;", Cond.classLink RX3 56 "RosterPay$Rule", Cond.methodLink RX3 47 yJx4a65c_size_8abf5, Cond.instanceMethod yJx4a65c_size_8abf5, Cond.selects RJx4a65c yJx4a65c_size_8abf5 yJx4a65c_size_8abf5, Cond.initialized RJx4a65c, Cond.code yJx4a65c_size_8abf5 cJx4a65c_size_8abf5 1 (some .int), Cond.fieldLink RJx4a65c 48 "java/util/ArrayList" "size" "I", Cond.methodLink RX3 140 yJx4a65c_get_915e3, Cond.instanceMethod yJx4a65c_get_915e3, Cond.selects RJx4a65c yJx4a65c_get_915e3 yJx4a65c_get_915e3, Cond.code yJx4a65c_get_915e3 cJx4a65c_get_915e3 2 (some (.object "java/lang/Object")), Cond.methodLink RJx4a65c 118 yJ15_checkIndex_7cf53, Cond.static yJ15_checkIndex_7cf53, Cond.initialized RJ15, Cond.code yJ15_checkIndex_7cf53 cJ15_checkIndex_7cf53 2 (some .int)]
def wsX3_setRule_r2 : List Cond := [Cond.methodLink RJ15 105 yJ3_checkIndex_8e157, Cond.static yJ3_checkIndex_8e157, Cond.initialized RJ3, Cond.code yJ3_checkIndex_8e157 cJ3_checkIndex_8e157 3 (some .int), Cond.methodLink RJx4a65c 123 yJx4a65c_elementData_915e3, Cond.instanceMethod yJx4a65c_elementData_915e3, Cond.selects RJx4a65c yJx4a65c_elementData_915e3 yJx4a65c_elementData_915e3, Cond.code yJx4a65c_elementData_915e3 cJx4a65c_elementData_915e3 2 (some (.object "java/lang/Object")), Cond.fieldLink RJx4a65c 9 "java/util/ArrayList" "elementData" "[Ljava/lang/Object;"]
def wsX3_setRule : List Cond := .code yX3_setRule cX3_setRule 5 (some .boolean) :: ((wsX3_setRule_r1 ++ wsX3_setRule_r2) ++ wsX00 ++ wsX30 ++ wsJx4a65c0 ++ (vx_atS RX3 174 "java/lang/IndexOutOfBoundsException" ["java/lang/RuntimeException", "java/lang/Exception"]).filter goodWord)
def wsX3_setHoliday : List Cond := .code yX3_setHoliday cX3_setHoliday 4 (some .boolean) :: ([.classLink RX3 36 "java/lang/IllegalArgumentException", .initialized "java/lang/IllegalArgumentException", .fieldLink RX3 19 "RosterPay" "holidays" "[Z"] ++ wsX30 ++ (vx_atS RX3 40 "java/lang/IllegalArgumentException" ["java/lang/RuntimeException", "java/lang/Exception"]).filter goodWord)
def wsX3_addWorker_r1 : List Cond := [Cond.classLink RX3 51 "java/lang/IllegalStateException", Cond.initialized "java/lang/IllegalStateException", Cond.fieldLink RX3 30 "RosterPay" "workers" "Ljava/util/ArrayList;", Cond.classLink RX3 77 RX2, Cond.instantiable RX2 1, Cond.initialized RX2, Cond.methodLink RX3 43 yX3_checkArgument, Cond.static yX3_checkArgument, Cond.initialized RX3, Cond.code yX3_checkArgument cX3_checkArgument 3 none, Cond.classLink RX3 36 "java/lang/IllegalArgumentException", Cond.initialized "java/lang/IllegalArgumentException", Cond.methodLink RX3 47 yJx4a65c_size_8abf5, Cond.instanceMethod yJx4a65c_size_8abf5, Cond.selects RJx4a65c yJx4a65c_size_8abf5 yJx4a65c_size_8abf5, Cond.initialized RJx4a65c, Cond.code yJx4a65c_size_8abf5 cJx4a65c_size_8abf5 1 (some .int), Cond.fieldLink RJx4a65c 48 "java/util/ArrayList" "size" "I", Cond.methodLink RX3 79 yX2_init, Cond.instanceMethod yX2_init, Cond.code yX2_init cX2_init 2 none, Cond.methodLink RX2 1 objectInit, Cond.instanceMethod objectInit, Cond.code objectInit ⟨#[0xb1]⟩ 1 none]
def wsX3_addWorker_r2 : List Cond := [Cond.fieldLink RX2 7 "RosterPay$Worker" "rank" "I", Cond.methodLink RX3 61 yJx4a65c_add_9ea2d, Cond.instanceMethod yJx4a65c_add_9ea2d, Cond.selects RJx4a65c yJx4a65c_add_9ea2d yJx4a65c_add_9ea2d, Cond.code yJx4a65c_add_9ea2d cJx4a65c_add_9ea2d 2 (some .boolean), Cond.fieldLink RJx4a65c 63 "java/util/ArrayList" "modCount" "I", Cond.sameField "java/util/ArrayList" "java/util/AbstractList" "modCount" "I", Cond.fieldLink RJx4a65c 9 "java/util/ArrayList" "elementData" "[Ljava/lang/Object;", Cond.methodLink RJx4a65c 131 yJx4a65c_add_72be8, Cond.instanceMethod yJx4a65c_add_72be8, Cond.selects RJx4a65c yJx4a65c_add_72be8 yJx4a65c_add_72be8, Cond.code yJx4a65c_add_72be8 cJx4a65c_add_72be8 4 none, Cond.methodLink RJx4a65c 129 yJx4a65c_grow_d5877, Cond.instanceMethod yJx4a65c_grow_d5877, Cond.selects RJx4a65c yJx4a65c_grow_d5877 yJx4a65c_grow_d5877, Cond.code yJx4a65c_grow_d5877 cJx4a65c_grow_d5877 1 (some (.array (.object "java/lang/Object"))), Cond.methodLink RJx4a65c 69 yJx4a65c_grow_92f84, Cond.instanceMethod yJx4a65c_grow_92f84, Cond.selects RJx4a65c yJx4a65c_grow_92f84 yJx4a65c_grow_92f84, Cond.code yJx4a65c_grow_92f84 cJx4a65c_grow_92f84 4 (some (.array (.object "java/lang/Object"))), Cond.fieldLink RJx4a65c 39 "java/util/ArrayList" "DEFAULTCAPACITY_EMPTY_ELEMENTDATA" "[Ljava/lang/Object;", Cond.methodLink RJx4a65c 79 Lib.Math.max.name, Cond.static Lib.Math.max.name, Cond.initialized "java/lang/Math"]
def wsX3_addWorker_r3 : List Cond := [Cond.code Lib.Math.max.name Lib.Math.max.code 2 (some .int), Cond.classLink RJx4a65c 7 "java/lang/Object", Cond.methodLink RJx4a65c 73 yJ8_newLength_cabcc, Cond.static yJ8_newLength_cabcc, Cond.initialized RJ8, Cond.code yJ8_newLength_cabcc cJ8_newLength_cabcc 4 (some .int), Cond.methodLink RJ8 194 Lib.Math.max.name, Cond.constant RJ8 200 (2147483639), Cond.methodLink RJ8 201 yJ8_hugeLength_7cf53, Cond.static yJ8_hugeLength_7cf53, Cond.code yJ8_hugeLength_7cf53 cJ8_hugeLength_7cf53 3 (some .int), Cond.methodLink RJx4a65c 66 yJ7_copyOf_1904c, Cond.static yJ7_copyOf_1904c, Cond.initialized RJ7, Cond.code yJ7_copyOf_1904c cJ7_copyOf_1904c 2 (some (.array (.object "java/lang/Object"))), Cond.methodLink RJ7 86 ⟨"java/lang/Object", "getClass", "()Ljava/lang/Class;"⟩, Cond.selects "[Ljava/lang/Object;" ⟨"java/lang/Object", "getClass", "()Ljava/lang/Class;"⟩ ⟨"java/lang/Object", "getClass", "()Ljava/lang/Class;"⟩, Cond.instanceMethod ⟨"java/lang/Object", "getClass", "()Ljava/lang/Class;"⟩, Cond.native ⟨"java/lang/Object", "getClass", "()Ljava/lang/Class;"⟩, Cond.methodLink RJ7 300 yJ7_copyOf_6403c, Cond.static yJ7_copyOf_6403c, Cond.code yJ7_copyOf_6403c cJ7_copyOf_6403c 4 (some (.array (.object "java/lang/Object"))), Cond.classLink RJ7 110 "[Ljava/lang/Object;", Cond.classLink RJ7 2 "java/lang/Object"]
def wsX3_addWorker_r4 : List Cond := [Cond.methodLink RJ7 304 Lib.Math.min.name, Cond.static Lib.Math.min.name, Cond.code Lib.Math.min.name Lib.Math.min.code 2 (some .int), Cond.methodLink RJ7 150 arraycopyName, Cond.native arraycopyName, Cond.static arraycopyName, Cond.initialized "java/lang/System"]
def wsX3_addWorker : List Cond := .code yX3_addWorker cX3_addWorker 3 (some .int) :: ((wsX3_addWorker_r1 ++ (wsX3_addWorker_r2 ++ (wsX3_addWorker_r3 ++ wsX3_addWorker_r4))) ++ wsX30 ++ wsX20 ++ wsJx4a65c0 ++ (vx_atS RX3 55 "java/lang/IllegalStateException" ["java/lang/RuntimeException", "java/lang/Exception"]).filter goodWord ++ (vx_atS RX3 40 "java/lang/IllegalArgumentException" ["java/lang/RuntimeException", "java/lang/Exception"]).filter goodWord)
def wsX3_findWorker_r1 : List Cond := [Cond.classLink RX3 170 "java/lang/IndexOutOfBoundsException", Cond.initialized "java/lang/IndexOutOfBoundsException", Cond.fieldLink RX3 30 "RosterPay" "workers" "Ljava/util/ArrayList;", Cond.classLink RX3 77 "RosterPay$Worker", Cond.methodLink RX3 47 yJx4a65c_size_8abf5, Cond.instanceMethod yJx4a65c_size_8abf5, Cond.selects RJx4a65c yJx4a65c_size_8abf5 yJx4a65c_size_8abf5, Cond.initialized RJx4a65c, Cond.code yJx4a65c_size_8abf5 cJx4a65c_size_8abf5 1 (some .int), Cond.fieldLink RJx4a65c 48 "java/util/ArrayList" "size" "I", Cond.methodLink RX3 140 yJx4a65c_get_915e3, Cond.instanceMethod yJx4a65c_get_915e3, Cond.selects RJx4a65c yJx4a65c_get_915e3 yJx4a65c_get_915e3, Cond.code yJx4a65c_get_915e3 cJx4a65c_get_915e3 2 (some (.object "java/lang/Object")), Cond.methodLink RJx4a65c 118 yJ15_checkIndex_7cf53, Cond.static yJ15_checkIndex_7cf53, Cond.initialized RJ15, Cond.code yJ15_checkIndex_7cf53 cJ15_checkIndex_7cf53 2 (some .int), Cond.methodLink RJ15 105 yJ3_checkIndex_8e157, Cond.static yJ3_checkIndex_8e157, Cond.initialized RJ3, Cond.code yJ3_checkIndex_8e157 cJ3_checkIndex_8e157 3 (some .int), Cond.methodLink RJx4a65c 123 yJx4a65c_elementData_915e3, Cond.instanceMethod yJx4a65c_elementData_915e3]
def wsX3_findWorker_r2 : List Cond := [Cond.selects RJx4a65c yJx4a65c_elementData_915e3 yJx4a65c_elementData_915e3, Cond.code yJx4a65c_elementData_915e3 cJx4a65c_elementData_915e3 2 (some (.object "java/lang/Object")), Cond.fieldLink RJx4a65c 9 "java/util/ArrayList" "elementData" "[Ljava/lang/Object;"]
def wsX3_findWorker : List Cond := .code yX3_findWorker cX3_findWorker 2 (some (.object "RosterPay$Worker")) :: ((wsX3_findWorker_r1 ++ wsX3_findWorker_r2) ++ wsX30 ++ wsJx4a65c0 ++ (vx_atS RX3 174 "java/lang/IndexOutOfBoundsException" ["java/lang/RuntimeException", "java/lang/Exception"]).filter goodWord)
def wsX3_setRank_r1 : List Cond := [Cond.fieldLink RX3 86 "RosterPay$Worker" "rank" "I", Cond.methodLink RX3 82 yX3_findWorker, Cond.instanceMethod yX3_findWorker, Cond.selects RX3 yX3_findWorker yX3_findWorker, Cond.initialized RX3, Cond.code yX3_findWorker cX3_findWorker 2 (some (.object "RosterPay$Worker")), Cond.classLink RX3 170 "java/lang/IndexOutOfBoundsException", Cond.initialized "java/lang/IndexOutOfBoundsException", Cond.fieldLink RX3 30 "RosterPay" "workers" "Ljava/util/ArrayList;", Cond.classLink RX3 77 "RosterPay$Worker", Cond.methodLink RX3 47 yJx4a65c_size_8abf5, Cond.instanceMethod yJx4a65c_size_8abf5, Cond.selects RJx4a65c yJx4a65c_size_8abf5 yJx4a65c_size_8abf5, Cond.initialized RJx4a65c, Cond.code yJx4a65c_size_8abf5 cJx4a65c_size_8abf5 1 (some .int), Cond.fieldLink RJx4a65c 48 "java/util/ArrayList" "size" "I", Cond.methodLink RX3 140 yJx4a65c_get_915e3, Cond.instanceMethod yJx4a65c_get_915e3, Cond.selects RJx4a65c yJx4a65c_get_915e3 yJx4a65c_get_915e3, Cond.code yJx4a65c_get_915e3 cJx4a65c_get_915e3 2 (some (.object "java/lang/Object")), Cond.methodLink RJx4a65c 118 yJ15_checkIndex_7cf53, Cond.static yJ15_checkIndex_7cf53, Cond.initialized RJ15, Cond.code yJ15_checkIndex_7cf53 cJ15_checkIndex_7cf53 2 (some .int)]
def wsX3_setRank_r2 : List Cond := [Cond.methodLink RJ15 105 yJ3_checkIndex_8e157, Cond.static yJ3_checkIndex_8e157, Cond.initialized RJ3, Cond.code yJ3_checkIndex_8e157 cJ3_checkIndex_8e157 3 (some .int), Cond.methodLink RJx4a65c 123 yJx4a65c_elementData_915e3, Cond.instanceMethod yJx4a65c_elementData_915e3, Cond.selects RJx4a65c yJx4a65c_elementData_915e3 yJx4a65c_elementData_915e3, Cond.code yJx4a65c_elementData_915e3 cJx4a65c_elementData_915e3 2 (some (.object "java/lang/Object")), Cond.fieldLink RJx4a65c 9 "java/util/ArrayList" "elementData" "[Ljava/lang/Object;", Cond.methodLink RX3 43 yX3_checkArgument, Cond.static yX3_checkArgument, Cond.code yX3_checkArgument cX3_checkArgument 3 none, Cond.classLink RX3 36 "java/lang/IllegalArgumentException", Cond.initialized "java/lang/IllegalArgumentException"]
def wsX3_setRank : List Cond := .code yX3_setRank cX3_setRank 5 (some .int) :: ((wsX3_setRank_r1 ++ wsX3_setRank_r2) ++ wsX20 ++ wsX30 ++ wsJx4a65c0 ++ (vx_atS RX3 174 "java/lang/IndexOutOfBoundsException" ["java/lang/RuntimeException", "java/lang/Exception"]).filter goodWord ++ (vx_atS RX3 40 "java/lang/IllegalArgumentException" ["java/lang/RuntimeException", "java/lang/Exception"]).filter goodWord)
def wsX3_workedBetween_r1 : List Cond := [Cond.fieldLink RX3 33 "RosterPay" "roster" "Ljava/util/ArrayList;", Cond.classLink RX3 96 "RosterPay$Shift", Cond.fieldLink RX3 148 "RosterPay$Shift" "worker" "LRosterPay$Worker;", Cond.fieldLink RX3 113 "RosterPay$Shift" "isCancelled" "Z", Cond.methodLink RX3 47 yJx4a65c_size_8abf5, Cond.instanceMethod yJx4a65c_size_8abf5, Cond.selects RJx4a65c yJx4a65c_size_8abf5 yJx4a65c_size_8abf5, Cond.initialized RJx4a65c, Cond.code yJx4a65c_size_8abf5 cJx4a65c_size_8abf5 1 (some .int), Cond.fieldLink RJx4a65c 48 "java/util/ArrayList" "size" "I", Cond.methodLink RX3 140 yJx4a65c_get_915e3, Cond.instanceMethod yJx4a65c_get_915e3, Cond.selects RJx4a65c yJx4a65c_get_915e3 yJx4a65c_get_915e3, Cond.code yJx4a65c_get_915e3 cJx4a65c_get_915e3 2 (some (.object "java/lang/Object")), Cond.methodLink RJx4a65c 118 yJ15_checkIndex_7cf53, Cond.static yJ15_checkIndex_7cf53, Cond.initialized RJ15, Cond.code yJ15_checkIndex_7cf53 cJ15_checkIndex_7cf53 2 (some .int), Cond.methodLink RJ15 105 yJ3_checkIndex_8e157, Cond.static yJ3_checkIndex_8e157, Cond.initialized RJ3, Cond.code yJ3_checkIndex_8e157 cJ3_checkIndex_8e157 3 (some .int), Cond.methodLink RJx4a65c 123 yJx4a65c_elementData_915e3, Cond.instanceMethod yJx4a65c_elementData_915e3]
def wsX3_workedBetween_r2 : List Cond := [Cond.selects RJx4a65c yJx4a65c_elementData_915e3 yJx4a65c_elementData_915e3, Cond.code yJx4a65c_elementData_915e3 cJx4a65c_elementData_915e3 2 (some (.object "java/lang/Object")), Cond.fieldLink RJx4a65c 9 "java/util/ArrayList" "elementData" "[Ljava/lang/Object;", Cond.methodLink RX3 207 yX1_ownBetween, Cond.instanceMethod yX1_ownBetween, Cond.selects RX1 yX1_ownBetween yX1_ownBetween, Cond.initialized RX1, Cond.code yX1_ownBetween cX1_ownBetween 3 (some .int), Cond.fieldLink RX1 15 "RosterPay$Shift" "start" "I", Cond.fieldLink RX1 19 "RosterPay$Shift" "quarters" "I", Cond.methodLink RX1 39 Lib.Math.min.name, Cond.static Lib.Math.min.name, Cond.initialized "java/lang/Math", Cond.code Lib.Math.min.name Lib.Math.min.code 2 (some .int), Cond.methodLink RX1 29 Lib.Math.max.name, Cond.static Lib.Math.max.name, Cond.code Lib.Math.max.name Lib.Math.max.code 2 (some .int)]
def wsX3_workedBetween : List Cond := .code yX3_workedBetween cX3_workedBetween 7 (some .int) :: ((wsX3_workedBetween_r1 ++ wsX3_workedBetween_r2) ++ wsX30 ++ wsX10 ++ wsJx4a65c0)
def wsX3_overlapsAnother_r1 : List Cond := [Cond.methodLink RX3 204 yX3_workedBetween, Cond.instanceMethod yX3_workedBetween, Cond.selects RX3 yX3_workedBetween yX3_workedBetween, Cond.initialized RX3, Cond.code yX3_workedBetween cX3_workedBetween 7 (some .int), Cond.fieldLink RX3 33 "RosterPay" "roster" "Ljava/util/ArrayList;", Cond.classLink RX3 96 "RosterPay$Shift", Cond.fieldLink RX3 148 "RosterPay$Shift" "worker" "LRosterPay$Worker;", Cond.fieldLink RX3 113 "RosterPay$Shift" "isCancelled" "Z", Cond.methodLink RX3 47 yJx4a65c_size_8abf5, Cond.instanceMethod yJx4a65c_size_8abf5, Cond.selects RJx4a65c yJx4a65c_size_8abf5 yJx4a65c_size_8abf5, Cond.initialized RJx4a65c, Cond.code yJx4a65c_size_8abf5 cJx4a65c_size_8abf5 1 (some .int), Cond.fieldLink RJx4a65c 48 "java/util/ArrayList" "size" "I", Cond.methodLink RX3 140 yJx4a65c_get_915e3, Cond.instanceMethod yJx4a65c_get_915e3, Cond.selects RJx4a65c yJx4a65c_get_915e3 yJx4a65c_get_915e3, Cond.code yJx4a65c_get_915e3 cJx4a65c_get_915e3 2 (some (.object "java/lang/Object")), Cond.methodLink RJx4a65c 118 yJ15_checkIndex_7cf53, Cond.static yJ15_checkIndex_7cf53, Cond.initialized RJ15, Cond.code yJ15_checkIndex_7cf53 cJ15_checkIndex_7cf53 2 (some .int), Cond.methodLink RJ15 105 yJ3_checkIndex_8e157]
def wsX3_overlapsAnother_r2 : List Cond := [Cond.static yJ3_checkIndex_8e157, Cond.initialized RJ3, Cond.code yJ3_checkIndex_8e157 cJ3_checkIndex_8e157 3 (some .int), Cond.methodLink RJx4a65c 123 yJx4a65c_elementData_915e3, Cond.instanceMethod yJx4a65c_elementData_915e3, Cond.selects RJx4a65c yJx4a65c_elementData_915e3 yJx4a65c_elementData_915e3, Cond.code yJx4a65c_elementData_915e3 cJx4a65c_elementData_915e3 2 (some (.object "java/lang/Object")), Cond.fieldLink RJx4a65c 9 "java/util/ArrayList" "elementData" "[Ljava/lang/Object;", Cond.methodLink RX3 207 yX1_ownBetween, Cond.instanceMethod yX1_ownBetween, Cond.selects RX1 yX1_ownBetween yX1_ownBetween, Cond.initialized RX1, Cond.code yX1_ownBetween cX1_ownBetween 3 (some .int), Cond.fieldLink RX1 15 "RosterPay$Shift" "start" "I", Cond.fieldLink RX1 19 "RosterPay$Shift" "quarters" "I", Cond.methodLink RX1 39 Lib.Math.min.name, Cond.static Lib.Math.min.name, Cond.initialized "java/lang/Math", Cond.code Lib.Math.min.name Lib.Math.min.code 2 (some .int), Cond.methodLink RX1 29 Lib.Math.max.name, Cond.static Lib.Math.max.name, Cond.code Lib.Math.max.name Lib.Math.max.code 2 (some .int)]
def wsX3_overlapsAnother : List Cond := .code yX3_overlapsAnother cX3_overlapsAnother 4 (some .boolean) :: ((wsX3_overlapsAnother_r1 ++ wsX3_overlapsAnother_r2) ++ wsX30 ++ wsX10 ++ wsJx4a65c0)
def wsX3_addShift_r1 : List Cond := [Cond.classLink RX3 51 "java/lang/IllegalStateException", Cond.initialized "java/lang/IllegalStateException", Cond.fieldLink RX3 33 "RosterPay" "roster" "Ljava/util/ArrayList;", Cond.classLink RX3 96 RX1, Cond.instantiable RX1 5, Cond.initialized RX1, Cond.methodLink RX3 82 yX3_findWorker, Cond.instanceMethod yX3_findWorker, Cond.selects RX3 yX3_findWorker yX3_findWorker, Cond.initialized RX3, Cond.code yX3_findWorker cX3_findWorker 2 (some (.object "RosterPay$Worker")), Cond.classLink RX3 170 "java/lang/IndexOutOfBoundsException", Cond.initialized "java/lang/IndexOutOfBoundsException", Cond.fieldLink RX3 30 "RosterPay" "workers" "Ljava/util/ArrayList;", Cond.classLink RX3 77 "RosterPay$Worker", Cond.methodLink RX3 47 yJx4a65c_size_8abf5, Cond.instanceMethod yJx4a65c_size_8abf5, Cond.selects RJx4a65c yJx4a65c_size_8abf5 yJx4a65c_size_8abf5, Cond.initialized RJx4a65c, Cond.code yJx4a65c_size_8abf5 cJx4a65c_size_8abf5 1 (some .int), Cond.fieldLink RJx4a65c 48 "java/util/ArrayList" "size" "I", Cond.methodLink RX3 140 yJx4a65c_get_915e3, Cond.instanceMethod yJx4a65c_get_915e3, Cond.selects RJx4a65c yJx4a65c_get_915e3 yJx4a65c_get_915e3]
def wsX3_addShift_r2 : List Cond := [Cond.code yJx4a65c_get_915e3 cJx4a65c_get_915e3 2 (some (.object "java/lang/Object")), Cond.methodLink RJx4a65c 118 yJ15_checkIndex_7cf53, Cond.static yJ15_checkIndex_7cf53, Cond.initialized RJ15, Cond.code yJ15_checkIndex_7cf53 cJ15_checkIndex_7cf53 2 (some .int), Cond.methodLink RJ15 105 yJ3_checkIndex_8e157, Cond.static yJ3_checkIndex_8e157, Cond.initialized RJ3, Cond.code yJ3_checkIndex_8e157 cJ3_checkIndex_8e157 3 (some .int), Cond.methodLink RJx4a65c 123 yJx4a65c_elementData_915e3, Cond.instanceMethod yJx4a65c_elementData_915e3, Cond.selects RJx4a65c yJx4a65c_elementData_915e3 yJx4a65c_elementData_915e3, Cond.code yJx4a65c_elementData_915e3 cJx4a65c_elementData_915e3 2 (some (.object "java/lang/Object")), Cond.fieldLink RJx4a65c 9 "java/util/ArrayList" "elementData" "[Ljava/lang/Object;", Cond.methodLink RX3 43 yX3_checkArgument, Cond.static yX3_checkArgument, Cond.code yX3_checkArgument cX3_checkArgument 3 none, Cond.classLink RX3 36 "java/lang/IllegalArgumentException", Cond.initialized "java/lang/IllegalArgumentException", Cond.methodLink RX3 90 yX3_overlapsAnother, Cond.instanceMethod yX3_overlapsAnother, Cond.selects RX3 yX3_overlapsAnother yX3_overlapsAnother, Cond.code yX3_overlapsAnother cX3_overlapsAnother 4 (some .boolean), Cond.methodLink RX3 204 yX3_workedBetween]
def wsX3_addShift_r3 : List Cond := [Cond.instanceMethod yX3_workedBetween, Cond.selects RX3 yX3_workedBetween yX3_workedBetween, Cond.code yX3_workedBetween cX3_workedBetween 7 (some .int), Cond.classLink RX3 96 "RosterPay$Shift", Cond.fieldLink RX3 148 "RosterPay$Shift" "worker" "LRosterPay$Worker;", Cond.fieldLink RX3 113 "RosterPay$Shift" "isCancelled" "Z", Cond.methodLink RX3 207 yX1_ownBetween, Cond.instanceMethod yX1_ownBetween, Cond.selects RX1 yX1_ownBetween yX1_ownBetween, Cond.code yX1_ownBetween cX1_ownBetween 3 (some .int), Cond.fieldLink RX1 15 "RosterPay$Shift" "start" "I", Cond.fieldLink RX1 19 "RosterPay$Shift" "quarters" "I", Cond.methodLink RX1 39 Lib.Math.min.name, Cond.static Lib.Math.min.name, Cond.initialized "java/lang/Math", Cond.code Lib.Math.min.name Lib.Math.min.code 2 (some .int), Cond.methodLink RX1 29 Lib.Math.max.name, Cond.static Lib.Math.max.name, Cond.code Lib.Math.max.name Lib.Math.max.code 2 (some .int), Cond.methodLink RX3 98 yX1_init, Cond.instanceMethod yX1_init, Cond.code yX1_init cX1_init 4 none, Cond.methodLink RX1 3 objectInit, Cond.instanceMethod objectInit]
def wsX3_addShift_r4 : List Cond := [Cond.code objectInit ⟨#[0xb1]⟩ 1 none, Cond.fieldLink RX1 9 "RosterPay$Shift" "worker" "LRosterPay$Worker;", Cond.fieldLink RX1 22 "RosterPay$Shift" "breaksTaken" "I", Cond.fieldLink RX1 25 "RosterPay$Shift" "isCancelled" "Z", Cond.methodLink RX3 61 yJx4a65c_add_9ea2d, Cond.instanceMethod yJx4a65c_add_9ea2d, Cond.selects RJx4a65c yJx4a65c_add_9ea2d yJx4a65c_add_9ea2d, Cond.code yJx4a65c_add_9ea2d cJx4a65c_add_9ea2d 2 (some .boolean), Cond.fieldLink RJx4a65c 63 "java/util/ArrayList" "modCount" "I", Cond.sameField "java/util/ArrayList" "java/util/AbstractList" "modCount" "I", Cond.methodLink RJx4a65c 131 yJx4a65c_add_72be8, Cond.instanceMethod yJx4a65c_add_72be8, Cond.selects RJx4a65c yJx4a65c_add_72be8 yJx4a65c_add_72be8, Cond.code yJx4a65c_add_72be8 cJx4a65c_add_72be8 4 none, Cond.methodLink RJx4a65c 129 yJx4a65c_grow_d5877, Cond.instanceMethod yJx4a65c_grow_d5877, Cond.selects RJx4a65c yJx4a65c_grow_d5877 yJx4a65c_grow_d5877, Cond.code yJx4a65c_grow_d5877 cJx4a65c_grow_d5877 1 (some (.array (.object "java/lang/Object"))), Cond.methodLink RJx4a65c 69 yJx4a65c_grow_92f84, Cond.instanceMethod yJx4a65c_grow_92f84, Cond.selects RJx4a65c yJx4a65c_grow_92f84 yJx4a65c_grow_92f84, Cond.code yJx4a65c_grow_92f84 cJx4a65c_grow_92f84 4 (some (.array (.object "java/lang/Object"))), Cond.fieldLink RJx4a65c 39 "java/util/ArrayList" "DEFAULTCAPACITY_EMPTY_ELEMENTDATA" "[Ljava/lang/Object;", Cond.methodLink RJx4a65c 79 Lib.Math.max.name]
def wsX3_addShift_r5 : List Cond := [Cond.classLink RJx4a65c 7 "java/lang/Object", Cond.methodLink RJx4a65c 73 yJ8_newLength_cabcc, Cond.static yJ8_newLength_cabcc, Cond.initialized RJ8, Cond.code yJ8_newLength_cabcc cJ8_newLength_cabcc 4 (some .int), Cond.methodLink RJ8 194 Lib.Math.max.name, Cond.constant RJ8 200 (2147483639), Cond.methodLink RJ8 201 yJ8_hugeLength_7cf53, Cond.static yJ8_hugeLength_7cf53, Cond.code yJ8_hugeLength_7cf53 cJ8_hugeLength_7cf53 3 (some .int), Cond.methodLink RJx4a65c 66 yJ7_copyOf_1904c, Cond.static yJ7_copyOf_1904c, Cond.initialized RJ7, Cond.code yJ7_copyOf_1904c cJ7_copyOf_1904c 2 (some (.array (.object "java/lang/Object"))), Cond.methodLink RJ7 86 ⟨"java/lang/Object", "getClass", "()Ljava/lang/Class;"⟩, Cond.selects "[Ljava/lang/Object;" ⟨"java/lang/Object", "getClass", "()Ljava/lang/Class;"⟩ ⟨"java/lang/Object", "getClass", "()Ljava/lang/Class;"⟩, Cond.instanceMethod ⟨"java/lang/Object", "getClass", "()Ljava/lang/Class;"⟩, Cond.native ⟨"java/lang/Object", "getClass", "()Ljava/lang/Class;"⟩, Cond.methodLink RJ7 300 yJ7_copyOf_6403c, Cond.static yJ7_copyOf_6403c, Cond.code yJ7_copyOf_6403c cJ7_copyOf_6403c 4 (some (.array (.object "java/lang/Object"))), Cond.classLink RJ7 110 "[Ljava/lang/Object;", Cond.classLink RJ7 2 "java/lang/Object", Cond.methodLink RJ7 304 Lib.Math.min.name]
def wsX3_addShift_r6 : List Cond := [Cond.methodLink RJ7 150 arraycopyName, Cond.native arraycopyName, Cond.static arraycopyName, Cond.initialized "java/lang/System"]
def wsX3_addShift : List Cond := .code yX3_addShift cX3_addShift 8 (some .int) :: ((wsX3_addShift_r1 ++ (wsX3_addShift_r2 ++ (wsX3_addShift_r3 ++ (wsX3_addShift_r4 ++ (wsX3_addShift_r5 ++ wsX3_addShift_r6))))) ++ wsX30 ++ wsX10 ++ wsJx4a65c0 ++ (vx_atS RX3 55 "java/lang/IllegalStateException" ["java/lang/RuntimeException", "java/lang/Exception"]).filter goodWord ++ (vx_atS RX3 174 "java/lang/IndexOutOfBoundsException" ["java/lang/RuntimeException", "java/lang/Exception"]).filter goodWord ++ (vx_atS RX3 40 "java/lang/IllegalArgumentException" ["java/lang/RuntimeException", "java/lang/Exception"]).filter goodWord)
def wsX3_findShift_r1 : List Cond := [Cond.classLink RX3 170 "java/lang/IndexOutOfBoundsException", Cond.initialized "java/lang/IndexOutOfBoundsException", Cond.fieldLink RX3 33 "RosterPay" "roster" "Ljava/util/ArrayList;", Cond.classLink RX3 96 "RosterPay$Shift", Cond.methodLink RX3 47 yJx4a65c_size_8abf5, Cond.instanceMethod yJx4a65c_size_8abf5, Cond.selects RJx4a65c yJx4a65c_size_8abf5 yJx4a65c_size_8abf5, Cond.initialized RJx4a65c, Cond.code yJx4a65c_size_8abf5 cJx4a65c_size_8abf5 1 (some .int), Cond.fieldLink RJx4a65c 48 "java/util/ArrayList" "size" "I", Cond.methodLink RX3 140 yJx4a65c_get_915e3, Cond.instanceMethod yJx4a65c_get_915e3, Cond.selects RJx4a65c yJx4a65c_get_915e3 yJx4a65c_get_915e3, Cond.code yJx4a65c_get_915e3 cJx4a65c_get_915e3 2 (some (.object "java/lang/Object")), Cond.methodLink RJx4a65c 118 yJ15_checkIndex_7cf53, Cond.static yJ15_checkIndex_7cf53, Cond.initialized RJ15, Cond.code yJ15_checkIndex_7cf53 cJ15_checkIndex_7cf53 2 (some .int), Cond.methodLink RJ15 105 yJ3_checkIndex_8e157, Cond.static yJ3_checkIndex_8e157, Cond.initialized RJ3, Cond.code yJ3_checkIndex_8e157 cJ3_checkIndex_8e157 3 (some .int), Cond.methodLink RJx4a65c 123 yJx4a65c_elementData_915e3, Cond.instanceMethod yJx4a65c_elementData_915e3]
def wsX3_findShift_r2 : List Cond := [Cond.selects RJx4a65c yJx4a65c_elementData_915e3 yJx4a65c_elementData_915e3, Cond.code yJx4a65c_elementData_915e3 cJx4a65c_elementData_915e3 2 (some (.object "java/lang/Object")), Cond.fieldLink RJx4a65c 9 "java/util/ArrayList" "elementData" "[Ljava/lang/Object;"]
def wsX3_findShift : List Cond := .code yX3_findShift cX3_findShift 2 (some (.object "RosterPay$Shift")) :: ((wsX3_findShift_r1 ++ wsX3_findShift_r2) ++ wsX30 ++ wsJx4a65c0 ++ (vx_atS RX3 174 "java/lang/IndexOutOfBoundsException" ["java/lang/RuntimeException", "java/lang/Exception"]).filter goodWord)
def wsX3_checkNotCancelled : List Cond := .code yX3_checkNotCancelled cX3_checkNotCancelled 1 none :: ([.classLink RX3 51 "java/lang/IllegalStateException", .initialized "java/lang/IllegalStateException", .fieldLink RX3 113 "RosterPay$Shift" "isCancelled" "Z"] ++ wsX10 ++ (vx_atS RX3 55 "java/lang/IllegalStateException" ["java/lang/RuntimeException", "java/lang/Exception"]).filter goodWord)
def wsX3_baseOf : List Cond := .code yX3_baseOf cX3_baseOf 2 (some .int) :: ([.fieldLink RX3 9 "RosterPay" "bases" "[I"] ++ wsX30)
def wsX3_isHoliday : List Cond := .code yX3_isHoliday cX3_isHoliday 2 (some .boolean) :: ([.fieldLink RX3 19 "RosterPay" "holidays" "[Z"] ++ wsX30)
def wsX3_overtimePercent : List Cond := .code yX3_overtimePercent cX3_overtimePercent 1 (some .int) :: ([])
def wsX3_decidingRule_r1 : List Cond := [Cond.fieldLink RX3 26 "RosterPay" "rules" "Ljava/util/ArrayList;", Cond.classLink RX3 56 "RosterPay$Rule", Cond.fieldLink RX3 191 "RosterPay$Rule" "percent" "I", Cond.fieldLink RX3 148 "RosterPay$Shift" "worker" "LRosterPay$Worker;", Cond.fieldLink RX3 86 "RosterPay$Worker" "rank" "I", Cond.methodLink RX3 144 yX1_dayOf, Cond.instanceMethod yX1_dayOf, Cond.selects RX1 yX1_dayOf yX1_dayOf, Cond.initialized RX1, Cond.code yX1_dayOf cX1_dayOf 2 (some .int), Cond.fieldLink RX1 15 "RosterPay$Shift" "start" "I", Cond.methodLink RX3 181 yX1_quarterOfDay, Cond.instanceMethod yX1_quarterOfDay, Cond.selects RX1 yX1_quarterOfDay yX1_quarterOfDay, Cond.code yX1_quarterOfDay cX1_quarterOfDay 2 (some .int), Cond.methodLink RX3 184 yX3_isHoliday, Cond.instanceMethod yX3_isHoliday, Cond.selects RX3 yX3_isHoliday yX3_isHoliday, Cond.initialized RX3, Cond.code yX3_isHoliday cX3_isHoliday 2 (some .boolean), Cond.fieldLink RX3 19 "RosterPay" "holidays" "[Z", Cond.methodLink RX3 188 yX3_overtimePercent, Cond.static yX3_overtimePercent, Cond.code yX3_overtimePercent cX3_overtimePercent 1 (some .int)]
def wsX3_decidingRule_r2 : List Cond := [Cond.methodLink RX3 47 yJx4a65c_size_8abf5, Cond.instanceMethod yJx4a65c_size_8abf5, Cond.selects RJx4a65c yJx4a65c_size_8abf5 yJx4a65c_size_8abf5, Cond.initialized RJx4a65c, Cond.code yJx4a65c_size_8abf5 cJx4a65c_size_8abf5 1 (some .int), Cond.fieldLink RJx4a65c 48 "java/util/ArrayList" "size" "I", Cond.methodLink RX3 140 yJx4a65c_get_915e3, Cond.instanceMethod yJx4a65c_get_915e3, Cond.selects RJx4a65c yJx4a65c_get_915e3 yJx4a65c_get_915e3, Cond.code yJx4a65c_get_915e3 cJx4a65c_get_915e3 2 (some (.object "java/lang/Object")), Cond.methodLink RJx4a65c 118 yJ15_checkIndex_7cf53, Cond.static yJ15_checkIndex_7cf53, Cond.initialized RJ15, Cond.code yJ15_checkIndex_7cf53 cJ15_checkIndex_7cf53 2 (some .int), Cond.methodLink RJ15 105 yJ3_checkIndex_8e157, Cond.static yJ3_checkIndex_8e157, Cond.initialized RJ3, Cond.code yJ3_checkIndex_8e157 cJ3_checkIndex_8e157 3 (some .int), Cond.methodLink RJx4a65c 123 yJx4a65c_elementData_915e3, Cond.instanceMethod yJx4a65c_elementData_915e3, Cond.selects RJx4a65c yJx4a65c_elementData_915e3 yJx4a65c_elementData_915e3, Cond.code yJx4a65c_elementData_915e3 cJx4a65c_elementData_915e3 2 (some (.object "java/lang/Object")), Cond.fieldLink RJx4a65c 9 "java/util/ArrayList" "elementData" "[Ljava/lang/Object;", Cond.methodLink RX3 194 yX0_appliesTo]
def wsX3_decidingRule_r3 : List Cond := [Cond.instanceMethod yX0_appliesTo, Cond.selects RX0 yX0_appliesTo yX0_appliesTo, Cond.initialized RX0, Cond.code yX0_appliesTo cX0_appliesTo 5 (some .boolean), Cond.fieldLink RX0 30 "RosterPay$Rule" "isOn" "Z", Cond.fieldLink RX0 24 "RosterPay$Rule" "ranks" "I", Cond.fieldLink RX0 18 "RosterPay$Rule" "from" "I", Cond.fieldLink RX0 21 "RosterPay$Rule" "to" "I", Cond.methodLink RX0 34 yX0_hasBit, Cond.static yX0_hasBit, Cond.code yX0_hasBit cX0_hasBit 2 (some .boolean), Cond.methodLink RX0 38 yX0_isForDay, Cond.instanceMethod yX0_isForDay, Cond.selects RX0 yX0_isForDay yX0_isForDay, Cond.code yX0_isForDay cX0_isForDay 3 (some .boolean), Cond.fieldLink RX0 15 "RosterPay$Rule" "weekdays" "I"]
def wsX3_decidingRule : List Cond := .code yX3_decidingRule cX3_decidingRule 11 (some (.object "RosterPay$Rule")) :: ((wsX3_decidingRule_r1 ++ (wsX3_decidingRule_r2 ++ wsX3_decidingRule_r3)) ++ wsX30 ++ wsX00 ++ wsX10 ++ wsX20 ++ wsJx4a65c0)
def wsX3_percentOf_r1 : List Cond := [Cond.fieldLink RX3 191 "RosterPay$Rule" "percent" "I", Cond.methodLink RX3 130 yX3_decidingRule, Cond.instanceMethod yX3_decidingRule, Cond.selects RX3 yX3_decidingRule yX3_decidingRule, Cond.initialized RX3, Cond.code yX3_decidingRule cX3_decidingRule 11 (some (.object "RosterPay$Rule")), Cond.fieldLink RX3 26 "RosterPay" "rules" "Ljava/util/ArrayList;", Cond.classLink RX3 56 "RosterPay$Rule", Cond.fieldLink RX3 148 "RosterPay$Shift" "worker" "LRosterPay$Worker;", Cond.fieldLink RX3 86 "RosterPay$Worker" "rank" "I", Cond.methodLink RX3 144 yX1_dayOf, Cond.instanceMethod yX1_dayOf, Cond.selects RX1 yX1_dayOf yX1_dayOf, Cond.initialized RX1, Cond.code yX1_dayOf cX1_dayOf 2 (some .int), Cond.fieldLink RX1 15 "RosterPay$Shift" "start" "I", Cond.methodLink RX3 181 yX1_quarterOfDay, Cond.instanceMethod yX1_quarterOfDay, Cond.selects RX1 yX1_quarterOfDay yX1_quarterOfDay, Cond.code yX1_quarterOfDay cX1_quarterOfDay 2 (some .int), Cond.methodLink RX3 184 yX3_isHoliday, Cond.instanceMethod yX3_isHoliday, Cond.selects RX3 yX3_isHoliday yX3_isHoliday, Cond.code yX3_isHoliday cX3_isHoliday 2 (some .boolean)]
def wsX3_percentOf_r2 : List Cond := [Cond.fieldLink RX3 19 "RosterPay" "holidays" "[Z", Cond.methodLink RX3 188 yX3_overtimePercent, Cond.static yX3_overtimePercent, Cond.code yX3_overtimePercent cX3_overtimePercent 1 (some .int), Cond.methodLink RX3 47 yJx4a65c_size_8abf5, Cond.instanceMethod yJx4a65c_size_8abf5, Cond.selects RJx4a65c yJx4a65c_size_8abf5 yJx4a65c_size_8abf5, Cond.initialized RJx4a65c, Cond.code yJx4a65c_size_8abf5 cJx4a65c_size_8abf5 1 (some .int), Cond.fieldLink RJx4a65c 48 "java/util/ArrayList" "size" "I", Cond.methodLink RX3 140 yJx4a65c_get_915e3, Cond.instanceMethod yJx4a65c_get_915e3, Cond.selects RJx4a65c yJx4a65c_get_915e3 yJx4a65c_get_915e3, Cond.code yJx4a65c_get_915e3 cJx4a65c_get_915e3 2 (some (.object "java/lang/Object")), Cond.methodLink RJx4a65c 118 yJ15_checkIndex_7cf53, Cond.static yJ15_checkIndex_7cf53, Cond.initialized RJ15, Cond.code yJ15_checkIndex_7cf53 cJ15_checkIndex_7cf53 2 (some .int), Cond.methodLink RJ15 105 yJ3_checkIndex_8e157, Cond.static yJ3_checkIndex_8e157, Cond.initialized RJ3, Cond.code yJ3_checkIndex_8e157 cJ3_checkIndex_8e157 3 (some .int), Cond.methodLink RJx4a65c 123 yJx4a65c_elementData_915e3, Cond.instanceMethod yJx4a65c_elementData_915e3]
def wsX3_percentOf_r3 : List Cond := [Cond.selects RJx4a65c yJx4a65c_elementData_915e3 yJx4a65c_elementData_915e3, Cond.code yJx4a65c_elementData_915e3 cJx4a65c_elementData_915e3 2 (some (.object "java/lang/Object")), Cond.fieldLink RJx4a65c 9 "java/util/ArrayList" "elementData" "[Ljava/lang/Object;", Cond.methodLink RX3 194 yX0_appliesTo, Cond.instanceMethod yX0_appliesTo, Cond.selects RX0 yX0_appliesTo yX0_appliesTo, Cond.initialized RX0, Cond.code yX0_appliesTo cX0_appliesTo 5 (some .boolean), Cond.fieldLink RX0 30 "RosterPay$Rule" "isOn" "Z", Cond.fieldLink RX0 24 "RosterPay$Rule" "ranks" "I", Cond.fieldLink RX0 18 "RosterPay$Rule" "from" "I", Cond.fieldLink RX0 21 "RosterPay$Rule" "to" "I", Cond.methodLink RX0 34 yX0_hasBit, Cond.static yX0_hasBit, Cond.code yX0_hasBit cX0_hasBit 2 (some .boolean), Cond.methodLink RX0 38 yX0_isForDay, Cond.instanceMethod yX0_isForDay, Cond.selects RX0 yX0_isForDay yX0_isForDay, Cond.code yX0_isForDay cX0_isForDay 3 (some .boolean), Cond.fieldLink RX0 15 "RosterPay$Rule" "weekdays" "I"]
def wsX3_percentOf : List Cond := .code yX3_percentOf cX3_percentOf 4 (some .int) :: ((wsX3_percentOf_r1 ++ (wsX3_percentOf_r2 ++ wsX3_percentOf_r3)) ++ wsX00 ++ wsX30 ++ wsX10 ++ wsX20 ++ wsJx4a65c0)
def wsX3_amount : List Cond := .code yX3_amount cX3_amount 2 (some .int) :: ([])
def wsX3_payFor_r1 : List Cond := [Cond.fieldLink RX3 148 "RosterPay$Shift" "worker" "LRosterPay$Worker;", Cond.fieldLink RX3 86 "RosterPay$Worker" "rank" "I", Cond.methodLink RX3 198 yX3_baseOf, Cond.instanceMethod yX3_baseOf, Cond.selects RX3 yX3_baseOf yX3_baseOf, Cond.initialized RX3, Cond.code yX3_baseOf cX3_baseOf 2 (some .int), Cond.fieldLink RX3 9 "RosterPay" "bases" "[I", Cond.methodLink RX3 137 yX1_breaksMissed, Cond.instanceMethod yX1_breaksMissed, Cond.selects RX1 yX1_breaksMissed yX1_breaksMissed, Cond.initialized RX1, Cond.code yX1_breaksMissed cX1_breaksMissed 1 (some .int), Cond.fieldLink RX1 25 "RosterPay$Shift" "isCancelled" "Z", Cond.fieldLink RX1 22 "RosterPay$Shift" "breaksTaken" "I", Cond.methodLink RX1 29 Lib.Math.max.name, Cond.static Lib.Math.max.name, Cond.initialized "java/lang/Math", Cond.code Lib.Math.max.name Lib.Math.max.code 2 (some .int), Cond.methodLink RX1 35 yX1_breaksOwed, Cond.instanceMethod yX1_breaksOwed, Cond.selects RX1 yX1_breaksOwed yX1_breaksOwed, Cond.code yX1_breaksOwed cX1_breaksOwed 1 (some .int), Cond.fieldLink RX1 19 "RosterPay$Shift" "quarters" "I"]
def wsX3_payFor_r2 : List Cond := [Cond.methodLink RX3 119 yX1_paidLength, Cond.instanceMethod yX1_paidLength, Cond.selects RX1 yX1_paidLength yX1_paidLength, Cond.code yX1_paidLength cX1_paidLength 1 (some .int), Cond.methodLink RX3 126 yX3_percentOf, Cond.instanceMethod yX3_percentOf, Cond.selects RX3 yX3_percentOf yX3_percentOf, Cond.code yX3_percentOf cX3_percentOf 4 (some .int), Cond.fieldLink RX3 191 "RosterPay$Rule" "percent" "I", Cond.methodLink RX3 130 yX3_decidingRule, Cond.instanceMethod yX3_decidingRule, Cond.selects RX3 yX3_decidingRule yX3_decidingRule, Cond.code yX3_decidingRule cX3_decidingRule 11 (some (.object "RosterPay$Rule")), Cond.fieldLink RX3 26 "RosterPay" "rules" "Ljava/util/ArrayList;", Cond.classLink RX3 56 "RosterPay$Rule", Cond.methodLink RX3 144 yX1_dayOf, Cond.instanceMethod yX1_dayOf, Cond.selects RX1 yX1_dayOf yX1_dayOf, Cond.code yX1_dayOf cX1_dayOf 2 (some .int), Cond.fieldLink RX1 15 "RosterPay$Shift" "start" "I", Cond.methodLink RX3 181 yX1_quarterOfDay, Cond.instanceMethod yX1_quarterOfDay, Cond.selects RX1 yX1_quarterOfDay yX1_quarterOfDay, Cond.code yX1_quarterOfDay cX1_quarterOfDay 2 (some .int)]
def wsX3_payFor_r3 : List Cond := [Cond.methodLink RX3 184 yX3_isHoliday, Cond.instanceMethod yX3_isHoliday, Cond.selects RX3 yX3_isHoliday yX3_isHoliday, Cond.code yX3_isHoliday cX3_isHoliday 2 (some .boolean), Cond.fieldLink RX3 19 "RosterPay" "holidays" "[Z", Cond.methodLink RX3 188 yX3_overtimePercent, Cond.static yX3_overtimePercent, Cond.code yX3_overtimePercent cX3_overtimePercent 1 (some .int), Cond.methodLink RX3 47 yJx4a65c_size_8abf5, Cond.instanceMethod yJx4a65c_size_8abf5, Cond.selects RJx4a65c yJx4a65c_size_8abf5 yJx4a65c_size_8abf5, Cond.initialized RJx4a65c, Cond.code yJx4a65c_size_8abf5 cJx4a65c_size_8abf5 1 (some .int), Cond.fieldLink RJx4a65c 48 "java/util/ArrayList" "size" "I", Cond.methodLink RX3 140 yJx4a65c_get_915e3, Cond.instanceMethod yJx4a65c_get_915e3, Cond.selects RJx4a65c yJx4a65c_get_915e3 yJx4a65c_get_915e3, Cond.code yJx4a65c_get_915e3 cJx4a65c_get_915e3 2 (some (.object "java/lang/Object")), Cond.methodLink RJx4a65c 118 yJ15_checkIndex_7cf53, Cond.static yJ15_checkIndex_7cf53, Cond.initialized RJ15, Cond.code yJ15_checkIndex_7cf53 cJ15_checkIndex_7cf53 2 (some .int), Cond.methodLink RJ15 105 yJ3_checkIndex_8e157, Cond.static yJ3_checkIndex_8e157]
def wsX3_payFor_r4 : List Cond := [Cond.initialized RJ3, Cond.code yJ3_checkIndex_8e157 cJ3_checkIndex_8e157 3 (some .int), Cond.methodLink RJx4a65c 123 yJx4a65c_elementData_915e3, Cond.instanceMethod yJx4a65c_elementData_915e3, Cond.selects RJx4a65c yJx4a65c_elementData_915e3 yJx4a65c_elementData_915e3, Cond.code yJx4a65c_elementData_915e3 cJx4a65c_elementData_915e3 2 (some (.object "java/lang/Object")), Cond.fieldLink RJx4a65c 9 "java/util/ArrayList" "elementData" "[Ljava/lang/Object;", Cond.methodLink RX3 194 yX0_appliesTo, Cond.instanceMethod yX0_appliesTo, Cond.selects RX0 yX0_appliesTo yX0_appliesTo, Cond.initialized RX0, Cond.code yX0_appliesTo cX0_appliesTo 5 (some .boolean), Cond.fieldLink RX0 30 "RosterPay$Rule" "isOn" "Z", Cond.fieldLink RX0 24 "RosterPay$Rule" "ranks" "I", Cond.fieldLink RX0 18 "RosterPay$Rule" "from" "I", Cond.fieldLink RX0 21 "RosterPay$Rule" "to" "I", Cond.methodLink RX0 34 yX0_hasBit, Cond.static yX0_hasBit, Cond.code yX0_hasBit cX0_hasBit 2 (some .boolean), Cond.methodLink RX0 38 yX0_isForDay, Cond.instanceMethod yX0_isForDay, Cond.selects RX0 yX0_isForDay yX0_isForDay, Cond.code yX0_isForDay cX0_isForDay 3 (some .boolean), Cond.fieldLink RX0 15 "RosterPay$Rule" "weekdays" "I"]
def wsX3_payFor_r5 : List Cond := [Cond.methodLink RX3 201 yX3_amount, Cond.static yX3_amount, Cond.code yX3_amount cX3_amount 2 (some .int)]
def wsX3_payFor : List Cond := .code yX3_payFor cX3_payFor 5 (some .int) :: ((wsX3_payFor_r1 ++ (wsX3_payFor_r2 ++ (wsX3_payFor_r3 ++ (wsX3_payFor_r4 ++ wsX3_payFor_r5)))) ++ wsX10 ++ wsX20 ++ wsX30 ++ wsX00 ++ wsJx4a65c0)
def wsX3_cancel_r1 : List Cond := [Cond.fieldLink RX3 113 "RosterPay$Shift" "isCancelled" "Z", Cond.methodLink RX3 101 yX3_findShift, Cond.instanceMethod yX3_findShift, Cond.selects RX3 yX3_findShift yX3_findShift, Cond.initialized RX3, Cond.code yX3_findShift cX3_findShift 2 (some (.object "RosterPay$Shift")), Cond.classLink RX3 170 "java/lang/IndexOutOfBoundsException", Cond.initialized "java/lang/IndexOutOfBoundsException", Cond.fieldLink RX3 33 "RosterPay" "roster" "Ljava/util/ArrayList;", Cond.classLink RX3 96 "RosterPay$Shift", Cond.methodLink RX3 47 yJx4a65c_size_8abf5, Cond.instanceMethod yJx4a65c_size_8abf5, Cond.selects RJx4a65c yJx4a65c_size_8abf5 yJx4a65c_size_8abf5, Cond.initialized RJx4a65c, Cond.code yJx4a65c_size_8abf5 cJx4a65c_size_8abf5 1 (some .int), Cond.fieldLink RJx4a65c 48 "java/util/ArrayList" "size" "I", Cond.methodLink RX3 140 yJx4a65c_get_915e3, Cond.instanceMethod yJx4a65c_get_915e3, Cond.selects RJx4a65c yJx4a65c_get_915e3 yJx4a65c_get_915e3, Cond.code yJx4a65c_get_915e3 cJx4a65c_get_915e3 2 (some (.object "java/lang/Object")), Cond.methodLink RJx4a65c 118 yJ15_checkIndex_7cf53, Cond.static yJ15_checkIndex_7cf53, Cond.initialized RJ15, Cond.code yJ15_checkIndex_7cf53 cJ15_checkIndex_7cf53 2 (some .int)]
def wsX3_cancel_r2 : List Cond := [Cond.methodLink RJ15 105 yJ3_checkIndex_8e157, Cond.static yJ3_checkIndex_8e157, Cond.initialized RJ3, Cond.code yJ3_checkIndex_8e157 cJ3_checkIndex_8e157 3 (some .int), Cond.methodLink RJx4a65c 123 yJx4a65c_elementData_915e3, Cond.instanceMethod yJx4a65c_elementData_915e3, Cond.selects RJx4a65c yJx4a65c_elementData_915e3 yJx4a65c_elementData_915e3, Cond.code yJx4a65c_elementData_915e3 cJx4a65c_elementData_915e3 2 (some (.object "java/lang/Object")), Cond.fieldLink RJx4a65c 9 "java/util/ArrayList" "elementData" "[Ljava/lang/Object;", Cond.methodLink RX3 105 yX3_checkNotCancelled, Cond.static yX3_checkNotCancelled, Cond.code yX3_checkNotCancelled cX3_checkNotCancelled 1 none, Cond.classLink RX3 51 "java/lang/IllegalStateException", Cond.initialized "java/lang/IllegalStateException", Cond.methodLink RX3 109 yX3_payFor, Cond.instanceMethod yX3_payFor, Cond.selects RX3 yX3_payFor yX3_payFor, Cond.code yX3_payFor cX3_payFor 5 (some .int), Cond.fieldLink RX3 148 "RosterPay$Shift" "worker" "LRosterPay$Worker;", Cond.fieldLink RX3 86 "RosterPay$Worker" "rank" "I", Cond.methodLink RX3 198 yX3_baseOf, Cond.instanceMethod yX3_baseOf, Cond.selects RX3 yX3_baseOf yX3_baseOf, Cond.code yX3_baseOf cX3_baseOf 2 (some .int)]
def wsX3_cancel_r3 : List Cond := [Cond.fieldLink RX3 9 "RosterPay" "bases" "[I", Cond.methodLink RX3 137 yX1_breaksMissed, Cond.instanceMethod yX1_breaksMissed, Cond.selects RX1 yX1_breaksMissed yX1_breaksMissed, Cond.initialized RX1, Cond.code yX1_breaksMissed cX1_breaksMissed 1 (some .int), Cond.fieldLink RX1 25 "RosterPay$Shift" "isCancelled" "Z", Cond.fieldLink RX1 22 "RosterPay$Shift" "breaksTaken" "I", Cond.methodLink RX1 29 Lib.Math.max.name, Cond.static Lib.Math.max.name, Cond.initialized "java/lang/Math", Cond.code Lib.Math.max.name Lib.Math.max.code 2 (some .int), Cond.methodLink RX1 35 yX1_breaksOwed, Cond.instanceMethod yX1_breaksOwed, Cond.selects RX1 yX1_breaksOwed yX1_breaksOwed, Cond.code yX1_breaksOwed cX1_breaksOwed 1 (some .int), Cond.fieldLink RX1 19 "RosterPay$Shift" "quarters" "I", Cond.methodLink RX3 119 yX1_paidLength, Cond.instanceMethod yX1_paidLength, Cond.selects RX1 yX1_paidLength yX1_paidLength, Cond.code yX1_paidLength cX1_paidLength 1 (some .int), Cond.methodLink RX3 126 yX3_percentOf, Cond.instanceMethod yX3_percentOf, Cond.selects RX3 yX3_percentOf yX3_percentOf]
def wsX3_cancel_r4 : List Cond := [Cond.code yX3_percentOf cX3_percentOf 4 (some .int), Cond.fieldLink RX3 191 "RosterPay$Rule" "percent" "I", Cond.methodLink RX3 130 yX3_decidingRule, Cond.instanceMethod yX3_decidingRule, Cond.selects RX3 yX3_decidingRule yX3_decidingRule, Cond.code yX3_decidingRule cX3_decidingRule 11 (some (.object "RosterPay$Rule")), Cond.fieldLink RX3 26 "RosterPay" "rules" "Ljava/util/ArrayList;", Cond.classLink RX3 56 "RosterPay$Rule", Cond.methodLink RX3 144 yX1_dayOf, Cond.instanceMethod yX1_dayOf, Cond.selects RX1 yX1_dayOf yX1_dayOf, Cond.code yX1_dayOf cX1_dayOf 2 (some .int), Cond.fieldLink RX1 15 "RosterPay$Shift" "start" "I", Cond.methodLink RX3 181 yX1_quarterOfDay, Cond.instanceMethod yX1_quarterOfDay, Cond.selects RX1 yX1_quarterOfDay yX1_quarterOfDay, Cond.code yX1_quarterOfDay cX1_quarterOfDay 2 (some .int), Cond.methodLink RX3 184 yX3_isHoliday, Cond.instanceMethod yX3_isHoliday, Cond.selects RX3 yX3_isHoliday yX3_isHoliday, Cond.code yX3_isHoliday cX3_isHoliday 2 (some .boolean), Cond.fieldLink RX3 19 "RosterPay" "holidays" "[Z", Cond.methodLink RX3 188 yX3_overtimePercent, Cond.static yX3_overtimePercent]
def wsX3_cancel_r5 : List Cond := [Cond.code yX3_overtimePercent cX3_overtimePercent 1 (some .int), Cond.methodLink RX3 194 yX0_appliesTo, Cond.instanceMethod yX0_appliesTo, Cond.selects RX0 yX0_appliesTo yX0_appliesTo, Cond.initialized RX0, Cond.code yX0_appliesTo cX0_appliesTo 5 (some .boolean), Cond.fieldLink RX0 30 "RosterPay$Rule" "isOn" "Z", Cond.fieldLink RX0 24 "RosterPay$Rule" "ranks" "I", Cond.fieldLink RX0 18 "RosterPay$Rule" "from" "I", Cond.fieldLink RX0 21 "RosterPay$Rule" "to" "I", Cond.methodLink RX0 34 yX0_hasBit, Cond.static yX0_hasBit, Cond.code yX0_hasBit cX0_hasBit 2 (some .boolean), Cond.methodLink RX0 38 yX0_isForDay, Cond.instanceMethod yX0_isForDay, Cond.selects RX0 yX0_isForDay yX0_isForDay, Cond.code yX0_isForDay cX0_isForDay 3 (some .boolean), Cond.fieldLink RX0 15 "RosterPay$Rule" "weekdays" "I", Cond.methodLink RX3 201 yX3_amount, Cond.static yX3_amount, Cond.code yX3_amount cX3_amount 2 (some .int)]
def wsX3_cancel : List Cond := .code yX3_cancel cX3_cancel 4 (some .int) :: ((wsX3_cancel_r1 ++ (wsX3_cancel_r2 ++ (wsX3_cancel_r3 ++ (wsX3_cancel_r4 ++ wsX3_cancel_r5)))) ++ wsX10 ++ wsX30 ++ wsJx4a65c0 ++ wsX20 ++ wsX00 ++ (vx_atS RX3 174 "java/lang/IndexOutOfBoundsException" ["java/lang/RuntimeException", "java/lang/Exception"]).filter goodWord ++ (vx_atS RX3 55 "java/lang/IllegalStateException" ["java/lang/RuntimeException", "java/lang/Exception"]).filter goodWord)
def wsX3_takeBreaks_r1 : List Cond := [Cond.fieldLink RX3 116 "RosterPay$Shift" "breaksTaken" "I", Cond.methodLink RX3 101 yX3_findShift, Cond.instanceMethod yX3_findShift, Cond.selects RX3 yX3_findShift yX3_findShift, Cond.initialized RX3, Cond.code yX3_findShift cX3_findShift 2 (some (.object "RosterPay$Shift")), Cond.classLink RX3 170 "java/lang/IndexOutOfBoundsException", Cond.initialized "java/lang/IndexOutOfBoundsException", Cond.fieldLink RX3 33 "RosterPay" "roster" "Ljava/util/ArrayList;", Cond.classLink RX3 96 "RosterPay$Shift", Cond.methodLink RX3 47 yJx4a65c_size_8abf5, Cond.instanceMethod yJx4a65c_size_8abf5, Cond.selects RJx4a65c yJx4a65c_size_8abf5 yJx4a65c_size_8abf5, Cond.initialized RJx4a65c, Cond.code yJx4a65c_size_8abf5 cJx4a65c_size_8abf5 1 (some .int), Cond.fieldLink RJx4a65c 48 "java/util/ArrayList" "size" "I", Cond.methodLink RX3 140 yJx4a65c_get_915e3, Cond.instanceMethod yJx4a65c_get_915e3, Cond.selects RJx4a65c yJx4a65c_get_915e3 yJx4a65c_get_915e3, Cond.code yJx4a65c_get_915e3 cJx4a65c_get_915e3 2 (some (.object "java/lang/Object")), Cond.methodLink RJx4a65c 118 yJ15_checkIndex_7cf53, Cond.static yJ15_checkIndex_7cf53, Cond.initialized RJ15, Cond.code yJ15_checkIndex_7cf53 cJ15_checkIndex_7cf53 2 (some .int)]
def wsX3_takeBreaks_r2 : List Cond := [Cond.methodLink RJ15 105 yJ3_checkIndex_8e157, Cond.static yJ3_checkIndex_8e157, Cond.initialized RJ3, Cond.code yJ3_checkIndex_8e157 cJ3_checkIndex_8e157 3 (some .int), Cond.methodLink RJx4a65c 123 yJx4a65c_elementData_915e3, Cond.instanceMethod yJx4a65c_elementData_915e3, Cond.selects RJx4a65c yJx4a65c_elementData_915e3 yJx4a65c_elementData_915e3, Cond.code yJx4a65c_elementData_915e3 cJx4a65c_elementData_915e3 2 (some (.object "java/lang/Object")), Cond.fieldLink RJx4a65c 9 "java/util/ArrayList" "elementData" "[Ljava/lang/Object;", Cond.methodLink RX3 43 yX3_checkArgument, Cond.static yX3_checkArgument, Cond.code yX3_checkArgument cX3_checkArgument 3 none, Cond.classLink RX3 36 "java/lang/IllegalArgumentException", Cond.initialized "java/lang/IllegalArgumentException", Cond.methodLink RX3 105 yX3_checkNotCancelled, Cond.static yX3_checkNotCancelled, Cond.code yX3_checkNotCancelled cX3_checkNotCancelled 1 none, Cond.classLink RX3 51 "java/lang/IllegalStateException", Cond.initialized "java/lang/IllegalStateException", Cond.fieldLink RX3 113 "RosterPay$Shift" "isCancelled" "Z"]
def wsX3_takeBreaks : List Cond := .code yX3_takeBreaks cX3_takeBreaks 5 (some .int) :: ((wsX3_takeBreaks_r1 ++ wsX3_takeBreaks_r2) ++ wsX10 ++ wsX30 ++ wsJx4a65c0 ++ (vx_atS RX3 174 "java/lang/IndexOutOfBoundsException" ["java/lang/RuntimeException", "java/lang/Exception"]).filter goodWord ++ (vx_atS RX3 40 "java/lang/IllegalArgumentException" ["java/lang/RuntimeException", "java/lang/Exception"]).filter goodWord ++ (vx_atS RX3 55 "java/lang/IllegalStateException" ["java/lang/RuntimeException", "java/lang/Exception"]).filter goodWord)
def wsX3_shifts : List Cond := .code yX3_shifts cX3_shifts 1 (some .int) :: ([.fieldLink RX3 33 "RosterPay" "roster" "Ljava/util/ArrayList;", .methodLink RX3 47 yJx4a65c_size_8abf5, .instanceMethod yJx4a65c_size_8abf5, .selects RJx4a65c yJx4a65c_size_8abf5 yJx4a65c_size_8abf5, .initialized RJx4a65c, .code yJx4a65c_size_8abf5 cJx4a65c_size_8abf5 1 (some .int), .fieldLink RJx4a65c 48 "java/util/ArrayList" "size" "I"] ++ wsX30 ++ wsJx4a65c0)
def wsX3_paidQuarters_r1 : List Cond := [Cond.methodLink RX3 101 yX3_findShift, Cond.instanceMethod yX3_findShift, Cond.selects RX3 yX3_findShift yX3_findShift, Cond.initialized RX3, Cond.code yX3_findShift cX3_findShift 2 (some (.object "RosterPay$Shift")), Cond.classLink RX3 170 "java/lang/IndexOutOfBoundsException", Cond.initialized "java/lang/IndexOutOfBoundsException", Cond.fieldLink RX3 33 "RosterPay" "roster" "Ljava/util/ArrayList;", Cond.classLink RX3 96 "RosterPay$Shift", Cond.methodLink RX3 47 yJx4a65c_size_8abf5, Cond.instanceMethod yJx4a65c_size_8abf5, Cond.selects RJx4a65c yJx4a65c_size_8abf5 yJx4a65c_size_8abf5, Cond.initialized RJx4a65c, Cond.code yJx4a65c_size_8abf5 cJx4a65c_size_8abf5 1 (some .int), Cond.fieldLink RJx4a65c 48 "java/util/ArrayList" "size" "I", Cond.methodLink RX3 140 yJx4a65c_get_915e3, Cond.instanceMethod yJx4a65c_get_915e3, Cond.selects RJx4a65c yJx4a65c_get_915e3 yJx4a65c_get_915e3, Cond.code yJx4a65c_get_915e3 cJx4a65c_get_915e3 2 (some (.object "java/lang/Object")), Cond.methodLink RJx4a65c 118 yJ15_checkIndex_7cf53, Cond.static yJ15_checkIndex_7cf53, Cond.initialized RJ15, Cond.code yJ15_checkIndex_7cf53 cJ15_checkIndex_7cf53 2 (some .int), Cond.methodLink RJ15 105 yJ3_checkIndex_8e157]
def wsX3_paidQuarters_r2 : List Cond := [Cond.static yJ3_checkIndex_8e157, Cond.initialized RJ3, Cond.code yJ3_checkIndex_8e157 cJ3_checkIndex_8e157 3 (some .int), Cond.methodLink RJx4a65c 123 yJx4a65c_elementData_915e3, Cond.instanceMethod yJx4a65c_elementData_915e3, Cond.selects RJx4a65c yJx4a65c_elementData_915e3 yJx4a65c_elementData_915e3, Cond.code yJx4a65c_elementData_915e3 cJx4a65c_elementData_915e3 2 (some (.object "java/lang/Object")), Cond.fieldLink RJx4a65c 9 "java/util/ArrayList" "elementData" "[Ljava/lang/Object;", Cond.methodLink RX3 119 yX1_paidLength, Cond.instanceMethod yX1_paidLength, Cond.selects RX1 yX1_paidLength yX1_paidLength, Cond.initialized RX1, Cond.code yX1_paidLength cX1_paidLength 1 (some .int), Cond.fieldLink RX1 25 "RosterPay$Shift" "isCancelled" "Z", Cond.fieldLink RX1 19 "RosterPay$Shift" "quarters" "I", Cond.methodLink RX1 29 Lib.Math.max.name, Cond.static Lib.Math.max.name, Cond.initialized "java/lang/Math", Cond.code Lib.Math.max.name Lib.Math.max.code 2 (some .int)]
def wsX3_paidQuarters : List Cond := .code yX3_paidQuarters cX3_paidQuarters 2 (some .int) :: ((wsX3_paidQuarters_r1 ++ wsX3_paidQuarters_r2) ++ wsX30 ++ wsJx4a65c0 ++ wsX10 ++ (vx_atS RX3 174 "java/lang/IndexOutOfBoundsException" ["java/lang/RuntimeException", "java/lang/Exception"]).filter goodWord)
def wsX3_checkPaidQuarter : List Cond := .code yX3_checkPaidQuarter cX3_checkPaidQuarter 2 none :: ([.classLink RX3 170 "java/lang/IndexOutOfBoundsException", .initialized "java/lang/IndexOutOfBoundsException", .methodLink RX3 119 yX1_paidLength, .instanceMethod yX1_paidLength, .selects RX1 yX1_paidLength yX1_paidLength, .initialized RX1, .code yX1_paidLength cX1_paidLength 1 (some .int), .fieldLink RX1 25 "RosterPay$Shift" "isCancelled" "Z", .fieldLink RX1 19 "RosterPay$Shift" "quarters" "I", .methodLink RX1 29 Lib.Math.max.name, .static Lib.Math.max.name, .initialized "java/lang/Math", .code Lib.Math.max.name Lib.Math.max.code 2 (some .int)] ++ wsX10 ++ (vx_atS RX3 174 "java/lang/IndexOutOfBoundsException" ["java/lang/RuntimeException", "java/lang/Exception"]).filter goodWord)
def wsX3_percentAt_r1 : List Cond := [Cond.methodLink RX3 101 yX3_findShift, Cond.instanceMethod yX3_findShift, Cond.selects RX3 yX3_findShift yX3_findShift, Cond.initialized RX3, Cond.code yX3_findShift cX3_findShift 2 (some (.object "RosterPay$Shift")), Cond.classLink RX3 170 "java/lang/IndexOutOfBoundsException", Cond.initialized "java/lang/IndexOutOfBoundsException", Cond.fieldLink RX3 33 "RosterPay" "roster" "Ljava/util/ArrayList;", Cond.classLink RX3 96 "RosterPay$Shift", Cond.methodLink RX3 47 yJx4a65c_size_8abf5, Cond.instanceMethod yJx4a65c_size_8abf5, Cond.selects RJx4a65c yJx4a65c_size_8abf5 yJx4a65c_size_8abf5, Cond.initialized RJx4a65c, Cond.code yJx4a65c_size_8abf5 cJx4a65c_size_8abf5 1 (some .int), Cond.fieldLink RJx4a65c 48 "java/util/ArrayList" "size" "I", Cond.methodLink RX3 140 yJx4a65c_get_915e3, Cond.instanceMethod yJx4a65c_get_915e3, Cond.selects RJx4a65c yJx4a65c_get_915e3 yJx4a65c_get_915e3, Cond.code yJx4a65c_get_915e3 cJx4a65c_get_915e3 2 (some (.object "java/lang/Object")), Cond.methodLink RJx4a65c 118 yJ15_checkIndex_7cf53, Cond.static yJ15_checkIndex_7cf53, Cond.initialized RJ15, Cond.code yJ15_checkIndex_7cf53 cJ15_checkIndex_7cf53 2 (some .int), Cond.methodLink RJ15 105 yJ3_checkIndex_8e157]
def wsX3_percentAt_r2 : List Cond := [Cond.static yJ3_checkIndex_8e157, Cond.initialized RJ3, Cond.code yJ3_checkIndex_8e157 cJ3_checkIndex_8e157 3 (some .int), Cond.methodLink RJx4a65c 123 yJx4a65c_elementData_915e3, Cond.instanceMethod yJx4a65c_elementData_915e3, Cond.selects RJx4a65c yJx4a65c_elementData_915e3 yJx4a65c_elementData_915e3, Cond.code yJx4a65c_elementData_915e3 cJx4a65c_elementData_915e3 2 (some (.object "java/lang/Object")), Cond.fieldLink RJx4a65c 9 "java/util/ArrayList" "elementData" "[Ljava/lang/Object;", Cond.methodLink RX3 122 yX3_checkPaidQuarter, Cond.static yX3_checkPaidQuarter, Cond.code yX3_checkPaidQuarter cX3_checkPaidQuarter 2 none, Cond.methodLink RX3 119 yX1_paidLength, Cond.instanceMethod yX1_paidLength, Cond.selects RX1 yX1_paidLength yX1_paidLength, Cond.initialized RX1, Cond.code yX1_paidLength cX1_paidLength 1 (some .int), Cond.fieldLink RX1 25 "RosterPay$Shift" "isCancelled" "Z", Cond.fieldLink RX1 19 "RosterPay$Shift" "quarters" "I", Cond.methodLink RX1 29 Lib.Math.max.name, Cond.static Lib.Math.max.name, Cond.initialized "java/lang/Math", Cond.code Lib.Math.max.name Lib.Math.max.code 2 (some .int), Cond.methodLink RX3 126 yX3_percentOf, Cond.instanceMethod yX3_percentOf]
def wsX3_percentAt_r3 : List Cond := [Cond.selects RX3 yX3_percentOf yX3_percentOf, Cond.code yX3_percentOf cX3_percentOf 4 (some .int), Cond.fieldLink RX3 191 "RosterPay$Rule" "percent" "I", Cond.methodLink RX3 130 yX3_decidingRule, Cond.instanceMethod yX3_decidingRule, Cond.selects RX3 yX3_decidingRule yX3_decidingRule, Cond.code yX3_decidingRule cX3_decidingRule 11 (some (.object "RosterPay$Rule")), Cond.fieldLink RX3 26 "RosterPay" "rules" "Ljava/util/ArrayList;", Cond.classLink RX3 56 "RosterPay$Rule", Cond.fieldLink RX3 148 "RosterPay$Shift" "worker" "LRosterPay$Worker;", Cond.fieldLink RX3 86 "RosterPay$Worker" "rank" "I", Cond.methodLink RX3 144 yX1_dayOf, Cond.instanceMethod yX1_dayOf, Cond.selects RX1 yX1_dayOf yX1_dayOf, Cond.code yX1_dayOf cX1_dayOf 2 (some .int), Cond.fieldLink RX1 15 "RosterPay$Shift" "start" "I", Cond.methodLink RX3 181 yX1_quarterOfDay, Cond.instanceMethod yX1_quarterOfDay, Cond.selects RX1 yX1_quarterOfDay yX1_quarterOfDay, Cond.code yX1_quarterOfDay cX1_quarterOfDay 2 (some .int), Cond.methodLink RX3 184 yX3_isHoliday, Cond.instanceMethod yX3_isHoliday, Cond.selects RX3 yX3_isHoliday yX3_isHoliday, Cond.code yX3_isHoliday cX3_isHoliday 2 (some .boolean)]
def wsX3_percentAt_r4 : List Cond := [Cond.fieldLink RX3 19 "RosterPay" "holidays" "[Z", Cond.methodLink RX3 188 yX3_overtimePercent, Cond.static yX3_overtimePercent, Cond.code yX3_overtimePercent cX3_overtimePercent 1 (some .int), Cond.methodLink RX3 194 yX0_appliesTo, Cond.instanceMethod yX0_appliesTo, Cond.selects RX0 yX0_appliesTo yX0_appliesTo, Cond.initialized RX0, Cond.code yX0_appliesTo cX0_appliesTo 5 (some .boolean), Cond.fieldLink RX0 30 "RosterPay$Rule" "isOn" "Z", Cond.fieldLink RX0 24 "RosterPay$Rule" "ranks" "I", Cond.fieldLink RX0 18 "RosterPay$Rule" "from" "I", Cond.fieldLink RX0 21 "RosterPay$Rule" "to" "I", Cond.methodLink RX0 34 yX0_hasBit, Cond.static yX0_hasBit, Cond.code yX0_hasBit cX0_hasBit 2 (some .boolean), Cond.methodLink RX0 38 yX0_isForDay, Cond.instanceMethod yX0_isForDay, Cond.selects RX0 yX0_isForDay yX0_isForDay, Cond.code yX0_isForDay cX0_isForDay 3 (some .boolean), Cond.fieldLink RX0 15 "RosterPay$Rule" "weekdays" "I"]
def wsX3_percentAt : List Cond := .code yX3_percentAt cX3_percentAt 4 (some .int) :: ((wsX3_percentAt_r1 ++ (wsX3_percentAt_r2 ++ (wsX3_percentAt_r3 ++ wsX3_percentAt_r4))) ++ wsX30 ++ wsJx4a65c0 ++ wsX10 ++ wsX00 ++ wsX20 ++ (vx_atS RX3 174 "java/lang/IndexOutOfBoundsException" ["java/lang/RuntimeException", "java/lang/Exception"]).filter goodWord)
def wsX3_reasonAt_r1 : List Cond := [Cond.fieldLink RX3 134 "RosterPay$Rule" "number" "I", Cond.methodLink RX3 101 yX3_findShift, Cond.instanceMethod yX3_findShift, Cond.selects RX3 yX3_findShift yX3_findShift, Cond.initialized RX3, Cond.code yX3_findShift cX3_findShift 2 (some (.object "RosterPay$Shift")), Cond.classLink RX3 170 "java/lang/IndexOutOfBoundsException", Cond.initialized "java/lang/IndexOutOfBoundsException", Cond.fieldLink RX3 33 "RosterPay" "roster" "Ljava/util/ArrayList;", Cond.classLink RX3 96 "RosterPay$Shift", Cond.methodLink RX3 47 yJx4a65c_size_8abf5, Cond.instanceMethod yJx4a65c_size_8abf5, Cond.selects RJx4a65c yJx4a65c_size_8abf5 yJx4a65c_size_8abf5, Cond.initialized RJx4a65c, Cond.code yJx4a65c_size_8abf5 cJx4a65c_size_8abf5 1 (some .int), Cond.fieldLink RJx4a65c 48 "java/util/ArrayList" "size" "I", Cond.methodLink RX3 140 yJx4a65c_get_915e3, Cond.instanceMethod yJx4a65c_get_915e3, Cond.selects RJx4a65c yJx4a65c_get_915e3 yJx4a65c_get_915e3, Cond.code yJx4a65c_get_915e3 cJx4a65c_get_915e3 2 (some (.object "java/lang/Object")), Cond.methodLink RJx4a65c 118 yJ15_checkIndex_7cf53, Cond.static yJ15_checkIndex_7cf53, Cond.initialized RJ15, Cond.code yJ15_checkIndex_7cf53 cJ15_checkIndex_7cf53 2 (some .int)]
def wsX3_reasonAt_r2 : List Cond := [Cond.methodLink RJ15 105 yJ3_checkIndex_8e157, Cond.static yJ3_checkIndex_8e157, Cond.initialized RJ3, Cond.code yJ3_checkIndex_8e157 cJ3_checkIndex_8e157 3 (some .int), Cond.methodLink RJx4a65c 123 yJx4a65c_elementData_915e3, Cond.instanceMethod yJx4a65c_elementData_915e3, Cond.selects RJx4a65c yJx4a65c_elementData_915e3 yJx4a65c_elementData_915e3, Cond.code yJx4a65c_elementData_915e3 cJx4a65c_elementData_915e3 2 (some (.object "java/lang/Object")), Cond.fieldLink RJx4a65c 9 "java/util/ArrayList" "elementData" "[Ljava/lang/Object;", Cond.methodLink RX3 122 yX3_checkPaidQuarter, Cond.static yX3_checkPaidQuarter, Cond.code yX3_checkPaidQuarter cX3_checkPaidQuarter 2 none, Cond.methodLink RX3 119 yX1_paidLength, Cond.instanceMethod yX1_paidLength, Cond.selects RX1 yX1_paidLength yX1_paidLength, Cond.initialized RX1, Cond.code yX1_paidLength cX1_paidLength 1 (some .int), Cond.fieldLink RX1 25 "RosterPay$Shift" "isCancelled" "Z", Cond.fieldLink RX1 19 "RosterPay$Shift" "quarters" "I", Cond.methodLink RX1 29 Lib.Math.max.name, Cond.static Lib.Math.max.name, Cond.initialized "java/lang/Math", Cond.code Lib.Math.max.name Lib.Math.max.code 2 (some .int), Cond.methodLink RX3 130 yX3_decidingRule]
def wsX3_reasonAt_r3 : List Cond := [Cond.instanceMethod yX3_decidingRule, Cond.selects RX3 yX3_decidingRule yX3_decidingRule, Cond.code yX3_decidingRule cX3_decidingRule 11 (some (.object "RosterPay$Rule")), Cond.fieldLink RX3 26 "RosterPay" "rules" "Ljava/util/ArrayList;", Cond.classLink RX3 56 "RosterPay$Rule", Cond.fieldLink RX3 191 "RosterPay$Rule" "percent" "I", Cond.fieldLink RX3 148 "RosterPay$Shift" "worker" "LRosterPay$Worker;", Cond.fieldLink RX3 86 "RosterPay$Worker" "rank" "I", Cond.methodLink RX3 144 yX1_dayOf, Cond.instanceMethod yX1_dayOf, Cond.selects RX1 yX1_dayOf yX1_dayOf, Cond.code yX1_dayOf cX1_dayOf 2 (some .int), Cond.fieldLink RX1 15 "RosterPay$Shift" "start" "I", Cond.methodLink RX3 181 yX1_quarterOfDay, Cond.instanceMethod yX1_quarterOfDay, Cond.selects RX1 yX1_quarterOfDay yX1_quarterOfDay, Cond.code yX1_quarterOfDay cX1_quarterOfDay 2 (some .int), Cond.methodLink RX3 184 yX3_isHoliday, Cond.instanceMethod yX3_isHoliday, Cond.selects RX3 yX3_isHoliday yX3_isHoliday, Cond.code yX3_isHoliday cX3_isHoliday 2 (some .boolean), Cond.fieldLink RX3 19 "RosterPay" "holidays" "[Z", Cond.methodLink RX3 188 yX3_overtimePercent, Cond.static yX3_overtimePercent]
def wsX3_reasonAt_r4 : List Cond := [Cond.code yX3_overtimePercent cX3_overtimePercent 1 (some .int), Cond.methodLink RX3 194 yX0_appliesTo, Cond.instanceMethod yX0_appliesTo, Cond.selects RX0 yX0_appliesTo yX0_appliesTo, Cond.initialized RX0, Cond.code yX0_appliesTo cX0_appliesTo 5 (some .boolean), Cond.fieldLink RX0 30 "RosterPay$Rule" "isOn" "Z", Cond.fieldLink RX0 24 "RosterPay$Rule" "ranks" "I", Cond.fieldLink RX0 18 "RosterPay$Rule" "from" "I", Cond.fieldLink RX0 21 "RosterPay$Rule" "to" "I", Cond.methodLink RX0 34 yX0_hasBit, Cond.static yX0_hasBit, Cond.code yX0_hasBit cX0_hasBit 2 (some .boolean), Cond.methodLink RX0 38 yX0_isForDay, Cond.instanceMethod yX0_isForDay, Cond.selects RX0 yX0_isForDay yX0_isForDay, Cond.code yX0_isForDay cX0_isForDay 3 (some .boolean), Cond.fieldLink RX0 15 "RosterPay$Rule" "weekdays" "I"]
def wsX3_reasonAt : List Cond := .code yX3_reasonAt cX3_reasonAt 5 (some .int) :: ((wsX3_reasonAt_r1 ++ (wsX3_reasonAt_r2 ++ (wsX3_reasonAt_r3 ++ wsX3_reasonAt_r4))) ++ wsX00 ++ wsX30 ++ wsJx4a65c0 ++ wsX10 ++ wsX20 ++ (vx_atS RX3 174 "java/lang/IndexOutOfBoundsException" ["java/lang/RuntimeException", "java/lang/Exception"]).filter goodWord)
def wsX3_missed_r1 : List Cond := [Cond.methodLink RX3 101 yX3_findShift, Cond.instanceMethod yX3_findShift, Cond.selects RX3 yX3_findShift yX3_findShift, Cond.initialized RX3, Cond.code yX3_findShift cX3_findShift 2 (some (.object "RosterPay$Shift")), Cond.classLink RX3 170 "java/lang/IndexOutOfBoundsException", Cond.initialized "java/lang/IndexOutOfBoundsException", Cond.fieldLink RX3 33 "RosterPay" "roster" "Ljava/util/ArrayList;", Cond.classLink RX3 96 "RosterPay$Shift", Cond.methodLink RX3 47 yJx4a65c_size_8abf5, Cond.instanceMethod yJx4a65c_size_8abf5, Cond.selects RJx4a65c yJx4a65c_size_8abf5 yJx4a65c_size_8abf5, Cond.initialized RJx4a65c, Cond.code yJx4a65c_size_8abf5 cJx4a65c_size_8abf5 1 (some .int), Cond.fieldLink RJx4a65c 48 "java/util/ArrayList" "size" "I", Cond.methodLink RX3 140 yJx4a65c_get_915e3, Cond.instanceMethod yJx4a65c_get_915e3, Cond.selects RJx4a65c yJx4a65c_get_915e3 yJx4a65c_get_915e3, Cond.code yJx4a65c_get_915e3 cJx4a65c_get_915e3 2 (some (.object "java/lang/Object")), Cond.methodLink RJx4a65c 118 yJ15_checkIndex_7cf53, Cond.static yJ15_checkIndex_7cf53, Cond.initialized RJ15, Cond.code yJ15_checkIndex_7cf53 cJ15_checkIndex_7cf53 2 (some .int), Cond.methodLink RJ15 105 yJ3_checkIndex_8e157]
def wsX3_missed_r2 : List Cond := [Cond.static yJ3_checkIndex_8e157, Cond.initialized RJ3, Cond.code yJ3_checkIndex_8e157 cJ3_checkIndex_8e157 3 (some .int), Cond.methodLink RJx4a65c 123 yJx4a65c_elementData_915e3, Cond.instanceMethod yJx4a65c_elementData_915e3, Cond.selects RJx4a65c yJx4a65c_elementData_915e3 yJx4a65c_elementData_915e3, Cond.code yJx4a65c_elementData_915e3 cJx4a65c_elementData_915e3 2 (some (.object "java/lang/Object")), Cond.fieldLink RJx4a65c 9 "java/util/ArrayList" "elementData" "[Ljava/lang/Object;", Cond.methodLink RX3 137 yX1_breaksMissed, Cond.instanceMethod yX1_breaksMissed, Cond.selects RX1 yX1_breaksMissed yX1_breaksMissed, Cond.initialized RX1, Cond.code yX1_breaksMissed cX1_breaksMissed 1 (some .int), Cond.fieldLink RX1 25 "RosterPay$Shift" "isCancelled" "Z", Cond.fieldLink RX1 22 "RosterPay$Shift" "breaksTaken" "I", Cond.methodLink RX1 29 Lib.Math.max.name, Cond.static Lib.Math.max.name, Cond.initialized "java/lang/Math", Cond.code Lib.Math.max.name Lib.Math.max.code 2 (some .int), Cond.methodLink RX1 35 yX1_breaksOwed, Cond.instanceMethod yX1_breaksOwed, Cond.selects RX1 yX1_breaksOwed yX1_breaksOwed, Cond.code yX1_breaksOwed cX1_breaksOwed 1 (some .int), Cond.fieldLink RX1 19 "RosterPay$Shift" "quarters" "I"]
def wsX3_missed : List Cond := .code yX3_missed cX3_missed 2 (some .int) :: ((wsX3_missed_r1 ++ wsX3_missed_r2) ++ wsX30 ++ wsJx4a65c0 ++ wsX10 ++ (vx_atS RX3 174 "java/lang/IndexOutOfBoundsException" ["java/lang/RuntimeException", "java/lang/Exception"]).filter goodWord)
def wsX3_pay_r1 : List Cond := [Cond.methodLink RX3 101 yX3_findShift, Cond.instanceMethod yX3_findShift, Cond.selects RX3 yX3_findShift yX3_findShift, Cond.initialized RX3, Cond.code yX3_findShift cX3_findShift 2 (some (.object "RosterPay$Shift")), Cond.classLink RX3 170 "java/lang/IndexOutOfBoundsException", Cond.initialized "java/lang/IndexOutOfBoundsException", Cond.fieldLink RX3 33 "RosterPay" "roster" "Ljava/util/ArrayList;", Cond.classLink RX3 96 "RosterPay$Shift", Cond.methodLink RX3 47 yJx4a65c_size_8abf5, Cond.instanceMethod yJx4a65c_size_8abf5, Cond.selects RJx4a65c yJx4a65c_size_8abf5 yJx4a65c_size_8abf5, Cond.initialized RJx4a65c, Cond.code yJx4a65c_size_8abf5 cJx4a65c_size_8abf5 1 (some .int), Cond.fieldLink RJx4a65c 48 "java/util/ArrayList" "size" "I", Cond.methodLink RX3 140 yJx4a65c_get_915e3, Cond.instanceMethod yJx4a65c_get_915e3, Cond.selects RJx4a65c yJx4a65c_get_915e3 yJx4a65c_get_915e3, Cond.code yJx4a65c_get_915e3 cJx4a65c_get_915e3 2 (some (.object "java/lang/Object")), Cond.methodLink RJx4a65c 118 yJ15_checkIndex_7cf53, Cond.static yJ15_checkIndex_7cf53, Cond.initialized RJ15, Cond.code yJ15_checkIndex_7cf53 cJ15_checkIndex_7cf53 2 (some .int), Cond.methodLink RJ15 105 yJ3_checkIndex_8e157]
def wsX3_pay_r2 : List Cond := [Cond.static yJ3_checkIndex_8e157, Cond.initialized RJ3, Cond.code yJ3_checkIndex_8e157 cJ3_checkIndex_8e157 3 (some .int), Cond.methodLink RJx4a65c 123 yJx4a65c_elementData_915e3, Cond.instanceMethod yJx4a65c_elementData_915e3, Cond.selects RJx4a65c yJx4a65c_elementData_915e3 yJx4a65c_elementData_915e3, Cond.code yJx4a65c_elementData_915e3 cJx4a65c_elementData_915e3 2 (some (.object "java/lang/Object")), Cond.fieldLink RJx4a65c 9 "java/util/ArrayList" "elementData" "[Ljava/lang/Object;", Cond.methodLink RX3 109 yX3_payFor, Cond.instanceMethod yX3_payFor, Cond.selects RX3 yX3_payFor yX3_payFor, Cond.code yX3_payFor cX3_payFor 5 (some .int), Cond.fieldLink RX3 148 "RosterPay$Shift" "worker" "LRosterPay$Worker;", Cond.fieldLink RX3 86 "RosterPay$Worker" "rank" "I", Cond.methodLink RX3 198 yX3_baseOf, Cond.instanceMethod yX3_baseOf, Cond.selects RX3 yX3_baseOf yX3_baseOf, Cond.code yX3_baseOf cX3_baseOf 2 (some .int), Cond.fieldLink RX3 9 "RosterPay" "bases" "[I", Cond.methodLink RX3 137 yX1_breaksMissed, Cond.instanceMethod yX1_breaksMissed, Cond.selects RX1 yX1_breaksMissed yX1_breaksMissed, Cond.initialized RX1, Cond.code yX1_breaksMissed cX1_breaksMissed 1 (some .int)]
def wsX3_pay_r3 : List Cond := [Cond.fieldLink RX1 25 "RosterPay$Shift" "isCancelled" "Z", Cond.fieldLink RX1 22 "RosterPay$Shift" "breaksTaken" "I", Cond.methodLink RX1 29 Lib.Math.max.name, Cond.static Lib.Math.max.name, Cond.initialized "java/lang/Math", Cond.code Lib.Math.max.name Lib.Math.max.code 2 (some .int), Cond.methodLink RX1 35 yX1_breaksOwed, Cond.instanceMethod yX1_breaksOwed, Cond.selects RX1 yX1_breaksOwed yX1_breaksOwed, Cond.code yX1_breaksOwed cX1_breaksOwed 1 (some .int), Cond.fieldLink RX1 19 "RosterPay$Shift" "quarters" "I", Cond.methodLink RX3 119 yX1_paidLength, Cond.instanceMethod yX1_paidLength, Cond.selects RX1 yX1_paidLength yX1_paidLength, Cond.code yX1_paidLength cX1_paidLength 1 (some .int), Cond.methodLink RX3 126 yX3_percentOf, Cond.instanceMethod yX3_percentOf, Cond.selects RX3 yX3_percentOf yX3_percentOf, Cond.code yX3_percentOf cX3_percentOf 4 (some .int), Cond.fieldLink RX3 191 "RosterPay$Rule" "percent" "I", Cond.methodLink RX3 130 yX3_decidingRule, Cond.instanceMethod yX3_decidingRule, Cond.selects RX3 yX3_decidingRule yX3_decidingRule, Cond.code yX3_decidingRule cX3_decidingRule 11 (some (.object "RosterPay$Rule"))]
def wsX3_pay_r4 : List Cond := [Cond.fieldLink RX3 26 "RosterPay" "rules" "Ljava/util/ArrayList;", Cond.classLink RX3 56 "RosterPay$Rule", Cond.methodLink RX3 144 yX1_dayOf, Cond.instanceMethod yX1_dayOf, Cond.selects RX1 yX1_dayOf yX1_dayOf, Cond.code yX1_dayOf cX1_dayOf 2 (some .int), Cond.fieldLink RX1 15 "RosterPay$Shift" "start" "I", Cond.methodLink RX3 181 yX1_quarterOfDay, Cond.instanceMethod yX1_quarterOfDay, Cond.selects RX1 yX1_quarterOfDay yX1_quarterOfDay, Cond.code yX1_quarterOfDay cX1_quarterOfDay 2 (some .int), Cond.methodLink RX3 184 yX3_isHoliday, Cond.instanceMethod yX3_isHoliday, Cond.selects RX3 yX3_isHoliday yX3_isHoliday, Cond.code yX3_isHoliday cX3_isHoliday 2 (some .boolean), Cond.fieldLink RX3 19 "RosterPay" "holidays" "[Z", Cond.methodLink RX3 188 yX3_overtimePercent, Cond.static yX3_overtimePercent, Cond.code yX3_overtimePercent cX3_overtimePercent 1 (some .int), Cond.methodLink RX3 194 yX0_appliesTo, Cond.instanceMethod yX0_appliesTo, Cond.selects RX0 yX0_appliesTo yX0_appliesTo, Cond.initialized RX0, Cond.code yX0_appliesTo cX0_appliesTo 5 (some .boolean)]
def wsX3_pay_r5 : List Cond := [Cond.fieldLink RX0 30 "RosterPay$Rule" "isOn" "Z", Cond.fieldLink RX0 24 "RosterPay$Rule" "ranks" "I", Cond.fieldLink RX0 18 "RosterPay$Rule" "from" "I", Cond.fieldLink RX0 21 "RosterPay$Rule" "to" "I", Cond.methodLink RX0 34 yX0_hasBit, Cond.static yX0_hasBit, Cond.code yX0_hasBit cX0_hasBit 2 (some .boolean), Cond.methodLink RX0 38 yX0_isForDay, Cond.instanceMethod yX0_isForDay, Cond.selects RX0 yX0_isForDay yX0_isForDay, Cond.code yX0_isForDay cX0_isForDay 3 (some .boolean), Cond.fieldLink RX0 15 "RosterPay$Rule" "weekdays" "I", Cond.methodLink RX3 201 yX3_amount, Cond.static yX3_amount, Cond.code yX3_amount cX3_amount 2 (some .int)]
def wsX3_pay : List Cond := .code yX3_pay cX3_pay 2 (some .int) :: ((wsX3_pay_r1 ++ (wsX3_pay_r2 ++ (wsX3_pay_r3 ++ (wsX3_pay_r4 ++ wsX3_pay_r5)))) ++ wsX30 ++ wsJx4a65c0 ++ wsX10 ++ wsX20 ++ wsX00 ++ (vx_atS RX3 174 "java/lang/IndexOutOfBoundsException" ["java/lang/RuntimeException", "java/lang/Exception"]).filter goodWord)
def wsX3_payOf_r1 : List Cond := [Cond.fieldLink RX3 33 "RosterPay" "roster" "Ljava/util/ArrayList;", Cond.classLink RX3 96 "RosterPay$Shift", Cond.fieldLink RX3 148 "RosterPay$Shift" "worker" "LRosterPay$Worker;", Cond.methodLink RX3 82 yX3_findWorker, Cond.instanceMethod yX3_findWorker, Cond.selects RX3 yX3_findWorker yX3_findWorker, Cond.initialized RX3, Cond.code yX3_findWorker cX3_findWorker 2 (some (.object "RosterPay$Worker")), Cond.classLink RX3 170 "java/lang/IndexOutOfBoundsException", Cond.initialized "java/lang/IndexOutOfBoundsException", Cond.fieldLink RX3 30 "RosterPay" "workers" "Ljava/util/ArrayList;", Cond.classLink RX3 77 "RosterPay$Worker", Cond.methodLink RX3 47 yJx4a65c_size_8abf5, Cond.instanceMethod yJx4a65c_size_8abf5, Cond.selects RJx4a65c yJx4a65c_size_8abf5 yJx4a65c_size_8abf5, Cond.initialized RJx4a65c, Cond.code yJx4a65c_size_8abf5 cJx4a65c_size_8abf5 1 (some .int), Cond.fieldLink RJx4a65c 48 "java/util/ArrayList" "size" "I", Cond.methodLink RX3 140 yJx4a65c_get_915e3, Cond.instanceMethod yJx4a65c_get_915e3, Cond.selects RJx4a65c yJx4a65c_get_915e3 yJx4a65c_get_915e3, Cond.code yJx4a65c_get_915e3 cJx4a65c_get_915e3 2 (some (.object "java/lang/Object")), Cond.methodLink RJx4a65c 118 yJ15_checkIndex_7cf53, Cond.static yJ15_checkIndex_7cf53]
def wsX3_payOf_r2 : List Cond := [Cond.initialized RJ15, Cond.code yJ15_checkIndex_7cf53 cJ15_checkIndex_7cf53 2 (some .int), Cond.methodLink RJ15 105 yJ3_checkIndex_8e157, Cond.static yJ3_checkIndex_8e157, Cond.initialized RJ3, Cond.code yJ3_checkIndex_8e157 cJ3_checkIndex_8e157 3 (some .int), Cond.methodLink RJx4a65c 123 yJx4a65c_elementData_915e3, Cond.instanceMethod yJx4a65c_elementData_915e3, Cond.selects RJx4a65c yJx4a65c_elementData_915e3 yJx4a65c_elementData_915e3, Cond.code yJx4a65c_elementData_915e3 cJx4a65c_elementData_915e3 2 (some (.object "java/lang/Object")), Cond.fieldLink RJx4a65c 9 "java/util/ArrayList" "elementData" "[Ljava/lang/Object;", Cond.methodLink RX3 43 yX3_checkArgument, Cond.static yX3_checkArgument, Cond.code yX3_checkArgument cX3_checkArgument 3 none, Cond.classLink RX3 36 "java/lang/IllegalArgumentException", Cond.initialized "java/lang/IllegalArgumentException", Cond.methodLink RX3 144 yX1_dayOf, Cond.instanceMethod yX1_dayOf, Cond.selects RX1 yX1_dayOf yX1_dayOf, Cond.initialized RX1, Cond.code yX1_dayOf cX1_dayOf 2 (some .int), Cond.fieldLink RX1 15 "RosterPay$Shift" "start" "I", Cond.methodLink RX3 109 yX3_payFor, Cond.instanceMethod yX3_payFor]
def wsX3_payOf_r3 : List Cond := [Cond.selects RX3 yX3_payFor yX3_payFor, Cond.code yX3_payFor cX3_payFor 5 (some .int), Cond.fieldLink RX3 86 "RosterPay$Worker" "rank" "I", Cond.methodLink RX3 198 yX3_baseOf, Cond.instanceMethod yX3_baseOf, Cond.selects RX3 yX3_baseOf yX3_baseOf, Cond.code yX3_baseOf cX3_baseOf 2 (some .int), Cond.fieldLink RX3 9 "RosterPay" "bases" "[I", Cond.methodLink RX3 137 yX1_breaksMissed, Cond.instanceMethod yX1_breaksMissed, Cond.selects RX1 yX1_breaksMissed yX1_breaksMissed, Cond.code yX1_breaksMissed cX1_breaksMissed 1 (some .int), Cond.fieldLink RX1 25 "RosterPay$Shift" "isCancelled" "Z", Cond.fieldLink RX1 22 "RosterPay$Shift" "breaksTaken" "I", Cond.methodLink RX1 29 Lib.Math.max.name, Cond.static Lib.Math.max.name, Cond.initialized "java/lang/Math", Cond.code Lib.Math.max.name Lib.Math.max.code 2 (some .int), Cond.methodLink RX1 35 yX1_breaksOwed, Cond.instanceMethod yX1_breaksOwed, Cond.selects RX1 yX1_breaksOwed yX1_breaksOwed, Cond.code yX1_breaksOwed cX1_breaksOwed 1 (some .int), Cond.fieldLink RX1 19 "RosterPay$Shift" "quarters" "I", Cond.methodLink RX3 119 yX1_paidLength]
def wsX3_payOf_r4 : List Cond := [Cond.instanceMethod yX1_paidLength, Cond.selects RX1 yX1_paidLength yX1_paidLength, Cond.code yX1_paidLength cX1_paidLength 1 (some .int), Cond.methodLink RX3 126 yX3_percentOf, Cond.instanceMethod yX3_percentOf, Cond.selects RX3 yX3_percentOf yX3_percentOf, Cond.code yX3_percentOf cX3_percentOf 4 (some .int), Cond.fieldLink RX3 191 "RosterPay$Rule" "percent" "I", Cond.methodLink RX3 130 yX3_decidingRule, Cond.instanceMethod yX3_decidingRule, Cond.selects RX3 yX3_decidingRule yX3_decidingRule, Cond.code yX3_decidingRule cX3_decidingRule 11 (some (.object "RosterPay$Rule")), Cond.fieldLink RX3 26 "RosterPay" "rules" "Ljava/util/ArrayList;", Cond.classLink RX3 56 "RosterPay$Rule", Cond.methodLink RX3 181 yX1_quarterOfDay, Cond.instanceMethod yX1_quarterOfDay, Cond.selects RX1 yX1_quarterOfDay yX1_quarterOfDay, Cond.code yX1_quarterOfDay cX1_quarterOfDay 2 (some .int), Cond.methodLink RX3 184 yX3_isHoliday, Cond.instanceMethod yX3_isHoliday, Cond.selects RX3 yX3_isHoliday yX3_isHoliday, Cond.code yX3_isHoliday cX3_isHoliday 2 (some .boolean), Cond.fieldLink RX3 19 "RosterPay" "holidays" "[Z", Cond.methodLink RX3 188 yX3_overtimePercent]
def wsX3_payOf_r5 : List Cond := [Cond.static yX3_overtimePercent, Cond.code yX3_overtimePercent cX3_overtimePercent 1 (some .int), Cond.methodLink RX3 194 yX0_appliesTo, Cond.instanceMethod yX0_appliesTo, Cond.selects RX0 yX0_appliesTo yX0_appliesTo, Cond.initialized RX0, Cond.code yX0_appliesTo cX0_appliesTo 5 (some .boolean), Cond.fieldLink RX0 30 "RosterPay$Rule" "isOn" "Z", Cond.fieldLink RX0 24 "RosterPay$Rule" "ranks" "I", Cond.fieldLink RX0 18 "RosterPay$Rule" "from" "I", Cond.fieldLink RX0 21 "RosterPay$Rule" "to" "I", Cond.methodLink RX0 34 yX0_hasBit, Cond.static yX0_hasBit, Cond.code yX0_hasBit cX0_hasBit 2 (some .boolean), Cond.methodLink RX0 38 yX0_isForDay, Cond.instanceMethod yX0_isForDay, Cond.selects RX0 yX0_isForDay yX0_isForDay, Cond.code yX0_isForDay cX0_isForDay 3 (some .boolean), Cond.fieldLink RX0 15 "RosterPay$Rule" "weekdays" "I", Cond.methodLink RX3 201 yX3_amount, Cond.static yX3_amount, Cond.code yX3_amount cX3_amount 2 (some .int)]
def wsX3_payOf : List Cond := .code yX3_payOf cX3_payOf 9 (some .int) :: ((wsX3_payOf_r1 ++ (wsX3_payOf_r2 ++ (wsX3_payOf_r3 ++ (wsX3_payOf_r4 ++ wsX3_payOf_r5)))) ++ wsX30 ++ wsX10 ++ wsJx4a65c0 ++ wsX20 ++ wsX00 ++ (vx_atS RX3 174 "java/lang/IndexOutOfBoundsException" ["java/lang/RuntimeException", "java/lang/Exception"]).filter goodWord ++ (vx_atS RX3 40 "java/lang/IllegalArgumentException" ["java/lang/RuntimeException", "java/lang/Exception"]).filter goodWord)
def wsX3_payByRule_r1 : List Cond := [Cond.fieldLink RX3 148 "RosterPay$Shift" "worker" "LRosterPay$Worker;", Cond.fieldLink RX3 86 "RosterPay$Worker" "rank" "I", Cond.fieldLink RX3 134 "RosterPay$Rule" "number" "I", Cond.fieldLink RX3 191 "RosterPay$Rule" "percent" "I", Cond.methodLink RX3 198 yX3_baseOf, Cond.instanceMethod yX3_baseOf, Cond.selects RX3 yX3_baseOf yX3_baseOf, Cond.initialized RX3, Cond.code yX3_baseOf cX3_baseOf 2 (some .int), Cond.fieldLink RX3 9 "RosterPay" "bases" "[I", Cond.methodLink RX3 119 yX1_paidLength, Cond.instanceMethod yX1_paidLength, Cond.selects RX1 yX1_paidLength yX1_paidLength, Cond.initialized RX1, Cond.code yX1_paidLength cX1_paidLength 1 (some .int), Cond.fieldLink RX1 25 "RosterPay$Shift" "isCancelled" "Z", Cond.fieldLink RX1 19 "RosterPay$Shift" "quarters" "I", Cond.methodLink RX1 29 Lib.Math.max.name, Cond.static Lib.Math.max.name, Cond.initialized "java/lang/Math", Cond.code Lib.Math.max.name Lib.Math.max.code 2 (some .int), Cond.methodLink RX3 130 yX3_decidingRule, Cond.instanceMethod yX3_decidingRule, Cond.selects RX3 yX3_decidingRule yX3_decidingRule]
def wsX3_payByRule_r2 : List Cond := [Cond.code yX3_decidingRule cX3_decidingRule 11 (some (.object "RosterPay$Rule")), Cond.fieldLink RX3 26 "RosterPay" "rules" "Ljava/util/ArrayList;", Cond.classLink RX3 56 "RosterPay$Rule", Cond.methodLink RX3 144 yX1_dayOf, Cond.instanceMethod yX1_dayOf, Cond.selects RX1 yX1_dayOf yX1_dayOf, Cond.code yX1_dayOf cX1_dayOf 2 (some .int), Cond.fieldLink RX1 15 "RosterPay$Shift" "start" "I", Cond.methodLink RX3 181 yX1_quarterOfDay, Cond.instanceMethod yX1_quarterOfDay, Cond.selects RX1 yX1_quarterOfDay yX1_quarterOfDay, Cond.code yX1_quarterOfDay cX1_quarterOfDay 2 (some .int), Cond.methodLink RX3 184 yX3_isHoliday, Cond.instanceMethod yX3_isHoliday, Cond.selects RX3 yX3_isHoliday yX3_isHoliday, Cond.code yX3_isHoliday cX3_isHoliday 2 (some .boolean), Cond.fieldLink RX3 19 "RosterPay" "holidays" "[Z", Cond.methodLink RX3 188 yX3_overtimePercent, Cond.static yX3_overtimePercent, Cond.code yX3_overtimePercent cX3_overtimePercent 1 (some .int), Cond.methodLink RX3 47 yJx4a65c_size_8abf5, Cond.instanceMethod yJx4a65c_size_8abf5, Cond.selects RJx4a65c yJx4a65c_size_8abf5 yJx4a65c_size_8abf5, Cond.initialized RJx4a65c]
def wsX3_payByRule_r3 : List Cond := [Cond.code yJx4a65c_size_8abf5 cJx4a65c_size_8abf5 1 (some .int), Cond.fieldLink RJx4a65c 48 "java/util/ArrayList" "size" "I", Cond.methodLink RX3 140 yJx4a65c_get_915e3, Cond.instanceMethod yJx4a65c_get_915e3, Cond.selects RJx4a65c yJx4a65c_get_915e3 yJx4a65c_get_915e3, Cond.code yJx4a65c_get_915e3 cJx4a65c_get_915e3 2 (some (.object "java/lang/Object")), Cond.methodLink RJx4a65c 118 yJ15_checkIndex_7cf53, Cond.static yJ15_checkIndex_7cf53, Cond.initialized RJ15, Cond.code yJ15_checkIndex_7cf53 cJ15_checkIndex_7cf53 2 (some .int), Cond.methodLink RJ15 105 yJ3_checkIndex_8e157, Cond.static yJ3_checkIndex_8e157, Cond.initialized RJ3, Cond.code yJ3_checkIndex_8e157 cJ3_checkIndex_8e157 3 (some .int), Cond.methodLink RJx4a65c 123 yJx4a65c_elementData_915e3, Cond.instanceMethod yJx4a65c_elementData_915e3, Cond.selects RJx4a65c yJx4a65c_elementData_915e3 yJx4a65c_elementData_915e3, Cond.code yJx4a65c_elementData_915e3 cJx4a65c_elementData_915e3 2 (some (.object "java/lang/Object")), Cond.fieldLink RJx4a65c 9 "java/util/ArrayList" "elementData" "[Ljava/lang/Object;", Cond.methodLink RX3 194 yX0_appliesTo, Cond.instanceMethod yX0_appliesTo, Cond.selects RX0 yX0_appliesTo yX0_appliesTo, Cond.initialized RX0, Cond.code yX0_appliesTo cX0_appliesTo 5 (some .boolean)]
def wsX3_payByRule_r4 : List Cond := [Cond.fieldLink RX0 30 "RosterPay$Rule" "isOn" "Z", Cond.fieldLink RX0 24 "RosterPay$Rule" "ranks" "I", Cond.fieldLink RX0 18 "RosterPay$Rule" "from" "I", Cond.fieldLink RX0 21 "RosterPay$Rule" "to" "I", Cond.methodLink RX0 34 yX0_hasBit, Cond.static yX0_hasBit, Cond.code yX0_hasBit cX0_hasBit 2 (some .boolean), Cond.methodLink RX0 38 yX0_isForDay, Cond.instanceMethod yX0_isForDay, Cond.selects RX0 yX0_isForDay yX0_isForDay, Cond.code yX0_isForDay cX0_isForDay 3 (some .boolean), Cond.fieldLink RX0 15 "RosterPay$Rule" "weekdays" "I", Cond.methodLink RX3 201 yX3_amount, Cond.static yX3_amount, Cond.code yX3_amount cX3_amount 2 (some .int)]
def wsX3_payByRule : List Cond := .code yX3_payByRule cX3_payByRule 7 (some .int) :: ((wsX3_payByRule_r1 ++ (wsX3_payByRule_r2 ++ (wsX3_payByRule_r3 ++ wsX3_payByRule_r4))) ++ wsX10 ++ wsX20 ++ wsX00 ++ wsX30 ++ wsJx4a65c0)
def wsX3_paidBy_r1 : List Cond := [Cond.fieldLink RX3 33 "RosterPay" "roster" "Ljava/util/ArrayList;", Cond.classLink RX3 96 "RosterPay$Shift", Cond.methodLink RX3 65 yX3_findRule, Cond.instanceMethod yX3_findRule, Cond.selects RX3 yX3_findRule yX3_findRule, Cond.initialized RX3, Cond.code yX3_findRule cX3_findRule 2 (some (.object "RosterPay$Rule")), Cond.classLink RX3 170 "java/lang/IndexOutOfBoundsException", Cond.initialized "java/lang/IndexOutOfBoundsException", Cond.fieldLink RX3 26 "RosterPay" "rules" "Ljava/util/ArrayList;", Cond.classLink RX3 56 "RosterPay$Rule", Cond.methodLink RX3 47 yJx4a65c_size_8abf5, Cond.instanceMethod yJx4a65c_size_8abf5, Cond.selects RJx4a65c yJx4a65c_size_8abf5 yJx4a65c_size_8abf5, Cond.initialized RJx4a65c, Cond.code yJx4a65c_size_8abf5 cJx4a65c_size_8abf5 1 (some .int), Cond.fieldLink RJx4a65c 48 "java/util/ArrayList" "size" "I", Cond.methodLink RX3 140 yJx4a65c_get_915e3, Cond.instanceMethod yJx4a65c_get_915e3, Cond.selects RJx4a65c yJx4a65c_get_915e3 yJx4a65c_get_915e3, Cond.code yJx4a65c_get_915e3 cJx4a65c_get_915e3 2 (some (.object "java/lang/Object")), Cond.methodLink RJx4a65c 118 yJ15_checkIndex_7cf53, Cond.static yJ15_checkIndex_7cf53, Cond.initialized RJ15]
def wsX3_paidBy_r2 : List Cond := [Cond.code yJ15_checkIndex_7cf53 cJ15_checkIndex_7cf53 2 (some .int), Cond.methodLink RJ15 105 yJ3_checkIndex_8e157, Cond.static yJ3_checkIndex_8e157, Cond.initialized RJ3, Cond.code yJ3_checkIndex_8e157 cJ3_checkIndex_8e157 3 (some .int), Cond.methodLink RJx4a65c 123 yJx4a65c_elementData_915e3, Cond.instanceMethod yJx4a65c_elementData_915e3, Cond.selects RJx4a65c yJx4a65c_elementData_915e3 yJx4a65c_elementData_915e3, Cond.code yJx4a65c_elementData_915e3 cJx4a65c_elementData_915e3 2 (some (.object "java/lang/Object")), Cond.fieldLink RJx4a65c 9 "java/util/ArrayList" "elementData" "[Ljava/lang/Object;", Cond.methodLink RX3 152 yX3_payByRule, Cond.instanceMethod yX3_payByRule, Cond.selects RX3 yX3_payByRule yX3_payByRule, Cond.code yX3_payByRule cX3_payByRule 7 (some .int), Cond.fieldLink RX3 148 "RosterPay$Shift" "worker" "LRosterPay$Worker;", Cond.fieldLink RX3 86 "RosterPay$Worker" "rank" "I", Cond.fieldLink RX3 134 "RosterPay$Rule" "number" "I", Cond.fieldLink RX3 191 "RosterPay$Rule" "percent" "I", Cond.methodLink RX3 198 yX3_baseOf, Cond.instanceMethod yX3_baseOf, Cond.selects RX3 yX3_baseOf yX3_baseOf, Cond.code yX3_baseOf cX3_baseOf 2 (some .int), Cond.fieldLink RX3 9 "RosterPay" "bases" "[I", Cond.methodLink RX3 119 yX1_paidLength]
def wsX3_paidBy_r3 : List Cond := [Cond.instanceMethod yX1_paidLength, Cond.selects RX1 yX1_paidLength yX1_paidLength, Cond.initialized RX1, Cond.code yX1_paidLength cX1_paidLength 1 (some .int), Cond.fieldLink RX1 25 "RosterPay$Shift" "isCancelled" "Z", Cond.fieldLink RX1 19 "RosterPay$Shift" "quarters" "I", Cond.methodLink RX1 29 Lib.Math.max.name, Cond.static Lib.Math.max.name, Cond.initialized "java/lang/Math", Cond.code Lib.Math.max.name Lib.Math.max.code 2 (some .int), Cond.methodLink RX3 130 yX3_decidingRule, Cond.instanceMethod yX3_decidingRule, Cond.selects RX3 yX3_decidingRule yX3_decidingRule, Cond.code yX3_decidingRule cX3_decidingRule 11 (some (.object "RosterPay$Rule")), Cond.methodLink RX3 144 yX1_dayOf, Cond.instanceMethod yX1_dayOf, Cond.selects RX1 yX1_dayOf yX1_dayOf, Cond.code yX1_dayOf cX1_dayOf 2 (some .int), Cond.fieldLink RX1 15 "RosterPay$Shift" "start" "I", Cond.methodLink RX3 181 yX1_quarterOfDay, Cond.instanceMethod yX1_quarterOfDay, Cond.selects RX1 yX1_quarterOfDay yX1_quarterOfDay, Cond.code yX1_quarterOfDay cX1_quarterOfDay 2 (some .int), Cond.methodLink RX3 184 yX3_isHoliday]
def wsX3_paidBy_r4 : List Cond := [Cond.instanceMethod yX3_isHoliday, Cond.selects RX3 yX3_isHoliday yX3_isHoliday, Cond.code yX3_isHoliday cX3_isHoliday 2 (some .boolean), Cond.fieldLink RX3 19 "RosterPay" "holidays" "[Z", Cond.methodLink RX3 188 yX3_overtimePercent, Cond.static yX3_overtimePercent, Cond.code yX3_overtimePercent cX3_overtimePercent 1 (some .int), Cond.methodLink RX3 194 yX0_appliesTo, Cond.instanceMethod yX0_appliesTo, Cond.selects RX0 yX0_appliesTo yX0_appliesTo, Cond.initialized RX0, Cond.code yX0_appliesTo cX0_appliesTo 5 (some .boolean), Cond.fieldLink RX0 30 "RosterPay$Rule" "isOn" "Z", Cond.fieldLink RX0 24 "RosterPay$Rule" "ranks" "I", Cond.fieldLink RX0 18 "RosterPay$Rule" "from" "I", Cond.fieldLink RX0 21 "RosterPay$Rule" "to" "I", Cond.methodLink RX0 34 yX0_hasBit, Cond.static yX0_hasBit, Cond.code yX0_hasBit cX0_hasBit 2 (some .boolean), Cond.methodLink RX0 38 yX0_isForDay, Cond.instanceMethod yX0_isForDay, Cond.selects RX0 yX0_isForDay yX0_isForDay, Cond.code yX0_isForDay cX0_isForDay 3 (some .boolean), Cond.fieldLink RX0 15 "RosterPay$Rule" "weekdays" "I"]
def wsX3_paidBy_r5 : List Cond := [Cond.methodLink RX3 201 yX3_amount, Cond.static yX3_amount, Cond.code yX3_amount cX3_amount 2 (some .int)]
def wsX3_paidBy : List Cond := .code yX3_paidBy cX3_paidBy 5 (some .int) :: ((wsX3_paidBy_r1 ++ (wsX3_paidBy_r2 ++ (wsX3_paidBy_r3 ++ (wsX3_paidBy_r4 ++ wsX3_paidBy_r5)))) ++ wsX30 ++ wsJx4a65c0 ++ wsX10 ++ wsX20 ++ wsX00 ++ (vx_atS RX3 174 "java/lang/IndexOutOfBoundsException" ["java/lang/RuntimeException", "java/lang/Exception"]).filter goodWord)
def wsX3_workedInWeeks_r1 : List Cond := [Cond.methodLink RX3 204 yX3_workedBetween, Cond.instanceMethod yX3_workedBetween, Cond.selects RX3 yX3_workedBetween yX3_workedBetween, Cond.initialized RX3, Cond.code yX3_workedBetween cX3_workedBetween 7 (some .int), Cond.fieldLink RX3 33 "RosterPay" "roster" "Ljava/util/ArrayList;", Cond.classLink RX3 96 "RosterPay$Shift", Cond.fieldLink RX3 148 "RosterPay$Shift" "worker" "LRosterPay$Worker;", Cond.fieldLink RX3 113 "RosterPay$Shift" "isCancelled" "Z", Cond.methodLink RX3 47 yJx4a65c_size_8abf5, Cond.instanceMethod yJx4a65c_size_8abf5, Cond.selects RJx4a65c yJx4a65c_size_8abf5 yJx4a65c_size_8abf5, Cond.initialized RJx4a65c, Cond.code yJx4a65c_size_8abf5 cJx4a65c_size_8abf5 1 (some .int), Cond.fieldLink RJx4a65c 48 "java/util/ArrayList" "size" "I", Cond.methodLink RX3 140 yJx4a65c_get_915e3, Cond.instanceMethod yJx4a65c_get_915e3, Cond.selects RJx4a65c yJx4a65c_get_915e3 yJx4a65c_get_915e3, Cond.code yJx4a65c_get_915e3 cJx4a65c_get_915e3 2 (some (.object "java/lang/Object")), Cond.methodLink RJx4a65c 118 yJ15_checkIndex_7cf53, Cond.static yJ15_checkIndex_7cf53, Cond.initialized RJ15, Cond.code yJ15_checkIndex_7cf53 cJ15_checkIndex_7cf53 2 (some .int), Cond.methodLink RJ15 105 yJ3_checkIndex_8e157]
def wsX3_workedInWeeks_r2 : List Cond := [Cond.static yJ3_checkIndex_8e157, Cond.initialized RJ3, Cond.code yJ3_checkIndex_8e157 cJ3_checkIndex_8e157 3 (some .int), Cond.methodLink RJx4a65c 123 yJx4a65c_elementData_915e3, Cond.instanceMethod yJx4a65c_elementData_915e3, Cond.selects RJx4a65c yJx4a65c_elementData_915e3 yJx4a65c_elementData_915e3, Cond.code yJx4a65c_elementData_915e3 cJx4a65c_elementData_915e3 2 (some (.object "java/lang/Object")), Cond.fieldLink RJx4a65c 9 "java/util/ArrayList" "elementData" "[Ljava/lang/Object;", Cond.methodLink RX3 207 yX1_ownBetween, Cond.instanceMethod yX1_ownBetween, Cond.selects RX1 yX1_ownBetween yX1_ownBetween, Cond.initialized RX1, Cond.code yX1_ownBetween cX1_ownBetween 3 (some .int), Cond.fieldLink RX1 15 "RosterPay$Shift" "start" "I", Cond.fieldLink RX1 19 "RosterPay$Shift" "quarters" "I", Cond.methodLink RX1 39 Lib.Math.min.name, Cond.static Lib.Math.min.name, Cond.initialized "java/lang/Math", Cond.code Lib.Math.min.name Lib.Math.min.code 2 (some .int), Cond.methodLink RX1 29 Lib.Math.max.name, Cond.static Lib.Math.max.name, Cond.code Lib.Math.max.name Lib.Math.max.code 2 (some .int)]
def wsX3_workedInWeeks : List Cond := .code yX3_workedInWeeks cX3_workedInWeeks 4 (some .int) :: ((wsX3_workedInWeeks_r1 ++ wsX3_workedInWeeks_r2) ++ wsX30 ++ wsX10 ++ wsJx4a65c0)
def wsX3_worked_r1 : List Cond := [Cond.methodLink RX3 82 yX3_findWorker, Cond.instanceMethod yX3_findWorker, Cond.selects RX3 yX3_findWorker yX3_findWorker, Cond.initialized RX3, Cond.code yX3_findWorker cX3_findWorker 2 (some (.object "RosterPay$Worker")), Cond.classLink RX3 170 "java/lang/IndexOutOfBoundsException", Cond.initialized "java/lang/IndexOutOfBoundsException", Cond.fieldLink RX3 30 "RosterPay" "workers" "Ljava/util/ArrayList;", Cond.classLink RX3 77 "RosterPay$Worker", Cond.methodLink RX3 47 yJx4a65c_size_8abf5, Cond.instanceMethod yJx4a65c_size_8abf5, Cond.selects RJx4a65c yJx4a65c_size_8abf5 yJx4a65c_size_8abf5, Cond.initialized RJx4a65c, Cond.code yJx4a65c_size_8abf5 cJx4a65c_size_8abf5 1 (some .int), Cond.fieldLink RJx4a65c 48 "java/util/ArrayList" "size" "I", Cond.methodLink RX3 140 yJx4a65c_get_915e3, Cond.instanceMethod yJx4a65c_get_915e3, Cond.selects RJx4a65c yJx4a65c_get_915e3 yJx4a65c_get_915e3, Cond.code yJx4a65c_get_915e3 cJx4a65c_get_915e3 2 (some (.object "java/lang/Object")), Cond.methodLink RJx4a65c 118 yJ15_checkIndex_7cf53, Cond.static yJ15_checkIndex_7cf53, Cond.initialized RJ15, Cond.code yJ15_checkIndex_7cf53 cJ15_checkIndex_7cf53 2 (some .int), Cond.methodLink RJ15 105 yJ3_checkIndex_8e157]
def wsX3_worked_r2 : List Cond := [Cond.static yJ3_checkIndex_8e157, Cond.initialized RJ3, Cond.code yJ3_checkIndex_8e157 cJ3_checkIndex_8e157 3 (some .int), Cond.methodLink RJx4a65c 123 yJx4a65c_elementData_915e3, Cond.instanceMethod yJx4a65c_elementData_915e3, Cond.selects RJx4a65c yJx4a65c_elementData_915e3 yJx4a65c_elementData_915e3, Cond.code yJx4a65c_elementData_915e3 cJx4a65c_elementData_915e3 2 (some (.object "java/lang/Object")), Cond.fieldLink RJx4a65c 9 "java/util/ArrayList" "elementData" "[Ljava/lang/Object;", Cond.methodLink RX3 43 yX3_checkArgument, Cond.static yX3_checkArgument, Cond.code yX3_checkArgument cX3_checkArgument 3 none, Cond.classLink RX3 36 "java/lang/IllegalArgumentException", Cond.initialized "java/lang/IllegalArgumentException", Cond.methodLink RX3 156 yX3_workedInWeeks, Cond.instanceMethod yX3_workedInWeeks, Cond.selects RX3 yX3_workedInWeeks yX3_workedInWeeks, Cond.code yX3_workedInWeeks cX3_workedInWeeks 4 (some .int), Cond.methodLink RX3 204 yX3_workedBetween, Cond.instanceMethod yX3_workedBetween, Cond.selects RX3 yX3_workedBetween yX3_workedBetween, Cond.code yX3_workedBetween cX3_workedBetween 7 (some .int), Cond.fieldLink RX3 33 "RosterPay" "roster" "Ljava/util/ArrayList;", Cond.classLink RX3 96 "RosterPay$Shift", Cond.fieldLink RX3 148 "RosterPay$Shift" "worker" "LRosterPay$Worker;"]
def wsX3_worked_r3 : List Cond := [Cond.fieldLink RX3 113 "RosterPay$Shift" "isCancelled" "Z", Cond.methodLink RX3 207 yX1_ownBetween, Cond.instanceMethod yX1_ownBetween, Cond.selects RX1 yX1_ownBetween yX1_ownBetween, Cond.initialized RX1, Cond.code yX1_ownBetween cX1_ownBetween 3 (some .int), Cond.fieldLink RX1 15 "RosterPay$Shift" "start" "I", Cond.fieldLink RX1 19 "RosterPay$Shift" "quarters" "I", Cond.methodLink RX1 39 Lib.Math.min.name, Cond.static Lib.Math.min.name, Cond.initialized "java/lang/Math", Cond.code Lib.Math.min.name Lib.Math.min.code 2 (some .int), Cond.methodLink RX1 29 Lib.Math.max.name, Cond.static Lib.Math.max.name, Cond.code Lib.Math.max.name Lib.Math.max.code 2 (some .int)]
def wsX3_worked : List Cond := .code yX3_worked cX3_worked 4 (some .int) :: ((wsX3_worked_r1 ++ (wsX3_worked_r2 ++ wsX3_worked_r3)) ++ wsX30 ++ wsJx4a65c0 ++ wsX10 ++ (vx_atS RX3 174 "java/lang/IndexOutOfBoundsException" ["java/lang/RuntimeException", "java/lang/Exception"]).filter goodWord ++ (vx_atS RX3 40 "java/lang/IllegalArgumentException" ["java/lang/RuntimeException", "java/lang/Exception"]).filter goodWord)
def wsX3_excess_r1 : List Cond := [Cond.methodLink RX3 160 Lib.Math.max.name, Cond.static Lib.Math.max.name, Cond.initialized "java/lang/Math", Cond.code Lib.Math.max.name Lib.Math.max.code 2 (some .int), Cond.methodLink RX3 82 yX3_findWorker, Cond.instanceMethod yX3_findWorker, Cond.selects RX3 yX3_findWorker yX3_findWorker, Cond.initialized RX3, Cond.code yX3_findWorker cX3_findWorker 2 (some (.object "RosterPay$Worker")), Cond.classLink RX3 170 "java/lang/IndexOutOfBoundsException", Cond.initialized "java/lang/IndexOutOfBoundsException", Cond.fieldLink RX3 30 "RosterPay" "workers" "Ljava/util/ArrayList;", Cond.classLink RX3 77 "RosterPay$Worker", Cond.methodLink RX3 47 yJx4a65c_size_8abf5, Cond.instanceMethod yJx4a65c_size_8abf5, Cond.selects RJx4a65c yJx4a65c_size_8abf5 yJx4a65c_size_8abf5, Cond.initialized RJx4a65c, Cond.code yJx4a65c_size_8abf5 cJx4a65c_size_8abf5 1 (some .int), Cond.fieldLink RJx4a65c 48 "java/util/ArrayList" "size" "I", Cond.methodLink RX3 140 yJx4a65c_get_915e3, Cond.instanceMethod yJx4a65c_get_915e3, Cond.selects RJx4a65c yJx4a65c_get_915e3 yJx4a65c_get_915e3, Cond.code yJx4a65c_get_915e3 cJx4a65c_get_915e3 2 (some (.object "java/lang/Object")), Cond.methodLink RJx4a65c 118 yJ15_checkIndex_7cf53]
def wsX3_excess_r2 : List Cond := [Cond.static yJ15_checkIndex_7cf53, Cond.initialized RJ15, Cond.code yJ15_checkIndex_7cf53 cJ15_checkIndex_7cf53 2 (some .int), Cond.methodLink RJ15 105 yJ3_checkIndex_8e157, Cond.static yJ3_checkIndex_8e157, Cond.initialized RJ3, Cond.code yJ3_checkIndex_8e157 cJ3_checkIndex_8e157 3 (some .int), Cond.methodLink RJx4a65c 123 yJx4a65c_elementData_915e3, Cond.instanceMethod yJx4a65c_elementData_915e3, Cond.selects RJx4a65c yJx4a65c_elementData_915e3 yJx4a65c_elementData_915e3, Cond.code yJx4a65c_elementData_915e3 cJx4a65c_elementData_915e3 2 (some (.object "java/lang/Object")), Cond.fieldLink RJx4a65c 9 "java/util/ArrayList" "elementData" "[Ljava/lang/Object;", Cond.methodLink RX3 43 yX3_checkArgument, Cond.static yX3_checkArgument, Cond.code yX3_checkArgument cX3_checkArgument 3 none, Cond.classLink RX3 36 "java/lang/IllegalArgumentException", Cond.initialized "java/lang/IllegalArgumentException", Cond.methodLink RX3 156 yX3_workedInWeeks, Cond.instanceMethod yX3_workedInWeeks, Cond.selects RX3 yX3_workedInWeeks yX3_workedInWeeks, Cond.code yX3_workedInWeeks cX3_workedInWeeks 4 (some .int), Cond.methodLink RX3 204 yX3_workedBetween, Cond.instanceMethod yX3_workedBetween, Cond.selects RX3 yX3_workedBetween yX3_workedBetween]
def wsX3_excess_r3 : List Cond := [Cond.code yX3_workedBetween cX3_workedBetween 7 (some .int), Cond.fieldLink RX3 33 "RosterPay" "roster" "Ljava/util/ArrayList;", Cond.classLink RX3 96 "RosterPay$Shift", Cond.fieldLink RX3 148 "RosterPay$Shift" "worker" "LRosterPay$Worker;", Cond.fieldLink RX3 113 "RosterPay$Shift" "isCancelled" "Z", Cond.methodLink RX3 207 yX1_ownBetween, Cond.instanceMethod yX1_ownBetween, Cond.selects RX1 yX1_ownBetween yX1_ownBetween, Cond.initialized RX1, Cond.code yX1_ownBetween cX1_ownBetween 3 (some .int), Cond.fieldLink RX1 15 "RosterPay$Shift" "start" "I", Cond.fieldLink RX1 19 "RosterPay$Shift" "quarters" "I", Cond.methodLink RX1 39 Lib.Math.min.name, Cond.static Lib.Math.min.name, Cond.code Lib.Math.min.name Lib.Math.min.code 2 (some .int), Cond.methodLink RX1 29 Lib.Math.max.name]
def wsX3_excess : List Cond := .code yX3_excess cX3_excess 5 (some .int) :: ((wsX3_excess_r1 ++ (wsX3_excess_r2 ++ wsX3_excess_r3)) ++ wsX30 ++ wsJx4a65c0 ++ wsX10 ++ (vx_atS RX3 174 "java/lang/IndexOutOfBoundsException" ["java/lang/RuntimeException", "java/lang/Exception"]).filter goodWord ++ (vx_atS RX3 40 "java/lang/IllegalArgumentException" ["java/lang/RuntimeException", "java/lang/Exception"]).filter goodWord)
def wsJ9_max_7cf53 : List Cond := .code yJ9_max_7cf53 cJ9_max_7cf53 2 (some .int) :: ([])
def wsJ9_min_7cf53 : List Cond := .code yJ9_min_7cf53 cJ9_min_7cf53 2 (some .int) :: ([])
def wsL_rule_r1 : List Cond := [Cond.classLink RL 13 "java/lang/IllegalArgumentException", Cond.classLink RL 15 "java/lang/IllegalStateException", Cond.methodLink RL 7 yX3_addRule, Cond.instanceMethod yX3_addRule, Cond.selects RX3 yX3_addRule yX3_addRule, Cond.initialized RX3, Cond.code yX3_addRule cX3_addRule 7 (some .int), Cond.classLink RX3 51 "java/lang/IllegalStateException", Cond.initialized "java/lang/IllegalStateException", Cond.fieldLink RX3 26 "RosterPay" "rules" "Ljava/util/ArrayList;", Cond.classLink RX3 56 RX0, Cond.instantiable RX0 7, Cond.initialized RX0, Cond.methodLink RX3 43 yX3_checkArgument, Cond.static yX3_checkArgument, Cond.code yX3_checkArgument cX3_checkArgument 3 none, Cond.classLink RX3 36 "java/lang/IllegalArgumentException", Cond.initialized "java/lang/IllegalArgumentException", Cond.methodLink RX3 47 yJx4a65c_size_8abf5, Cond.instanceMethod yJx4a65c_size_8abf5, Cond.selects RJx4a65c yJx4a65c_size_8abf5 yJx4a65c_size_8abf5, Cond.initialized RJx4a65c, Cond.code yJx4a65c_size_8abf5 cJx4a65c_size_8abf5 1 (some .int), Cond.fieldLink RJx4a65c 48 "java/util/ArrayList" "size" "I"]
def wsL_rule_r2 : List Cond := [Cond.methodLink RX3 58 yX0_init, Cond.instanceMethod yX0_init, Cond.code yX0_init cX0_init 7 none, Cond.methodLink RX0 3 objectInit, Cond.instanceMethod objectInit, Cond.code objectInit ⟨#[0xb1]⟩ 1 none, Cond.fieldLink RX0 9 "RosterPay$Rule" "number" "I", Cond.fieldLink RX0 15 "RosterPay$Rule" "weekdays" "I", Cond.fieldLink RX0 18 "RosterPay$Rule" "from" "I", Cond.fieldLink RX0 21 "RosterPay$Rule" "to" "I", Cond.fieldLink RX0 24 "RosterPay$Rule" "ranks" "I", Cond.fieldLink RX0 27 "RosterPay$Rule" "percent" "I", Cond.fieldLink RX0 30 "RosterPay$Rule" "isOn" "Z", Cond.methodLink RX3 61 yJx4a65c_add_9ea2d, Cond.instanceMethod yJx4a65c_add_9ea2d, Cond.selects RJx4a65c yJx4a65c_add_9ea2d yJx4a65c_add_9ea2d, Cond.code yJx4a65c_add_9ea2d cJx4a65c_add_9ea2d 2 (some .boolean), Cond.fieldLink RJx4a65c 63 "java/util/ArrayList" "modCount" "I", Cond.sameField "java/util/ArrayList" "java/util/AbstractList" "modCount" "I", Cond.fieldLink RJx4a65c 9 "java/util/ArrayList" "elementData" "[Ljava/lang/Object;", Cond.methodLink RJx4a65c 131 yJx4a65c_add_72be8, Cond.instanceMethod yJx4a65c_add_72be8, Cond.selects RJx4a65c yJx4a65c_add_72be8 yJx4a65c_add_72be8, Cond.code yJx4a65c_add_72be8 cJx4a65c_add_72be8 4 none]
def wsL_rule_r3 : List Cond := [Cond.methodLink RJx4a65c 129 yJx4a65c_grow_d5877, Cond.instanceMethod yJx4a65c_grow_d5877, Cond.selects RJx4a65c yJx4a65c_grow_d5877 yJx4a65c_grow_d5877, Cond.code yJx4a65c_grow_d5877 cJx4a65c_grow_d5877 1 (some (.array (.object "java/lang/Object"))), Cond.methodLink RJx4a65c 69 yJx4a65c_grow_92f84, Cond.instanceMethod yJx4a65c_grow_92f84, Cond.selects RJx4a65c yJx4a65c_grow_92f84 yJx4a65c_grow_92f84, Cond.code yJx4a65c_grow_92f84 cJx4a65c_grow_92f84 4 (some (.array (.object "java/lang/Object"))), Cond.fieldLink RJx4a65c 39 "java/util/ArrayList" "DEFAULTCAPACITY_EMPTY_ELEMENTDATA" "[Ljava/lang/Object;", Cond.methodLink RJx4a65c 79 Lib.Math.max.name, Cond.static Lib.Math.max.name, Cond.initialized "java/lang/Math", Cond.code Lib.Math.max.name Lib.Math.max.code 2 (some .int), Cond.classLink RJx4a65c 7 "java/lang/Object", Cond.methodLink RJx4a65c 73 yJ8_newLength_cabcc, Cond.static yJ8_newLength_cabcc, Cond.initialized RJ8, Cond.code yJ8_newLength_cabcc cJ8_newLength_cabcc 4 (some .int), Cond.methodLink RJ8 194 Lib.Math.max.name, Cond.constant RJ8 200 (2147483639), Cond.methodLink RJ8 201 yJ8_hugeLength_7cf53, Cond.static yJ8_hugeLength_7cf53, Cond.code yJ8_hugeLength_7cf53 cJ8_hugeLength_7cf53 3 (some .int), Cond.methodLink RJx4a65c 66 yJ7_copyOf_1904c]
def wsL_rule_r4 : List Cond := [Cond.static yJ7_copyOf_1904c, Cond.initialized RJ7, Cond.code yJ7_copyOf_1904c cJ7_copyOf_1904c 2 (some (.array (.object "java/lang/Object"))), Cond.methodLink RJ7 86 ⟨"java/lang/Object", "getClass", "()Ljava/lang/Class;"⟩, Cond.selects "[Ljava/lang/Object;" ⟨"java/lang/Object", "getClass", "()Ljava/lang/Class;"⟩ ⟨"java/lang/Object", "getClass", "()Ljava/lang/Class;"⟩, Cond.instanceMethod ⟨"java/lang/Object", "getClass", "()Ljava/lang/Class;"⟩, Cond.native ⟨"java/lang/Object", "getClass", "()Ljava/lang/Class;"⟩, Cond.methodLink RJ7 300 yJ7_copyOf_6403c, Cond.static yJ7_copyOf_6403c, Cond.code yJ7_copyOf_6403c cJ7_copyOf_6403c 4 (some (.array (.object "java/lang/Object"))), Cond.classLink RJ7 110 "[Ljava/lang/Object;", Cond.classLink RJ7 2 "java/lang/Object", Cond.methodLink RJ7 304 Lib.Math.min.name, Cond.static Lib.Math.min.name, Cond.code Lib.Math.min.name Lib.Math.min.code 2 (some .int), Cond.methodLink RJ7 150 arraycopyName, Cond.native arraycopyName, Cond.static arraycopyName, Cond.initialized "java/lang/System"]
def wsL_rule : List Cond := .codeWith yL_rule cL_rule 7 (some .int) [(0, 11, 12, 13), (0, 11, 17, 15)] :: ((wsL_rule_r1 ++ (wsL_rule_r2 ++ (wsL_rule_r3 ++ wsL_rule_r4))) ++ wsX30 ++ wsX00 ++ wsJx4a65c0 ++ (vx_atS RX3 55 "java/lang/IllegalStateException" ["java/lang/RuntimeException", "java/lang/Exception"]).filter goodWord ++ (vx_atS RX3 40 "java/lang/IllegalArgumentException" ["java/lang/RuntimeException", "java/lang/Exception"]).filter goodWord)
def wsL_act_r1 : List Cond := [Cond.classLink RL 73 "java/lang/IndexOutOfBoundsException", Cond.classLink RL 13 "java/lang/IllegalArgumentException", Cond.classLink RL 15 "java/lang/IllegalStateException", Cond.methodLink RL 17 yX3_setBase, Cond.instanceMethod yX3_setBase, Cond.selects RX3 yX3_setBase yX3_setBase, Cond.initialized RX3, Cond.code yX3_setBase cX3_setBase 4 (some .int), Cond.classLink RX3 36 "java/lang/IllegalArgumentException", Cond.initialized "java/lang/IllegalArgumentException", Cond.fieldLink RX3 9 "RosterPay" "bases" "[I", Cond.methodLink RX3 43 yX3_checkArgument, Cond.static yX3_checkArgument, Cond.code yX3_checkArgument cX3_checkArgument 3 none, Cond.methodLink RL 21 yX3_setRule, Cond.instanceMethod yX3_setRule, Cond.selects RX3 yX3_setRule yX3_setRule, Cond.code yX3_setRule cX3_setRule 5 (some .boolean), Cond.fieldLink RX3 69 "RosterPay$Rule" "isOn" "Z", Cond.methodLink RX3 65 yX3_findRule, Cond.instanceMethod yX3_findRule, Cond.selects RX3 yX3_findRule yX3_findRule, Cond.code yX3_findRule cX3_findRule 2 (some (.object "RosterPay$Rule")), Cond.classLink RX3 170 "java/lang/IndexOutOfBoundsException"]
def wsL_act_r2 : List Cond := [Cond.initialized "java/lang/IndexOutOfBoundsException", Cond.fieldLink RX3 26 "RosterPay" "rules" "Ljava/util/ArrayList;", Cond.classLink RX3 56 "RosterPay$Rule", Cond.methodLink RX3 47 yJx4a65c_size_8abf5, Cond.instanceMethod yJx4a65c_size_8abf5, Cond.selects RJx4a65c yJx4a65c_size_8abf5 yJx4a65c_size_8abf5, Cond.initialized RJx4a65c, Cond.code yJx4a65c_size_8abf5 cJx4a65c_size_8abf5 1 (some .int), Cond.fieldLink RJx4a65c 48 "java/util/ArrayList" "size" "I", Cond.methodLink RX3 140 yJx4a65c_get_915e3, Cond.instanceMethod yJx4a65c_get_915e3, Cond.selects RJx4a65c yJx4a65c_get_915e3 yJx4a65c_get_915e3, Cond.code yJx4a65c_get_915e3 cJx4a65c_get_915e3 2 (some (.object "java/lang/Object")), Cond.methodLink RJx4a65c 118 yJ15_checkIndex_7cf53, Cond.static yJ15_checkIndex_7cf53, Cond.initialized RJ15, Cond.code yJ15_checkIndex_7cf53 cJ15_checkIndex_7cf53 2 (some .int), Cond.methodLink RJ15 105 yJ3_checkIndex_8e157, Cond.static yJ3_checkIndex_8e157, Cond.initialized RJ3, Cond.code yJ3_checkIndex_8e157 cJ3_checkIndex_8e157 3 (some .int), Cond.methodLink RJx4a65c 123 yJx4a65c_elementData_915e3, Cond.instanceMethod yJx4a65c_elementData_915e3, Cond.selects RJx4a65c yJx4a65c_elementData_915e3 yJx4a65c_elementData_915e3]
def wsL_act_r3 : List Cond := [Cond.code yJx4a65c_elementData_915e3 cJx4a65c_elementData_915e3 2 (some (.object "java/lang/Object")), Cond.fieldLink RJx4a65c 9 "java/util/ArrayList" "elementData" "[Ljava/lang/Object;", Cond.methodLink RL 25 yX3_setHoliday, Cond.instanceMethod yX3_setHoliday, Cond.selects RX3 yX3_setHoliday yX3_setHoliday, Cond.code yX3_setHoliday cX3_setHoliday 4 (some .boolean), Cond.fieldLink RX3 19 "RosterPay" "holidays" "[Z", Cond.methodLink RL 28 yX3_addWorker, Cond.instanceMethod yX3_addWorker, Cond.selects RX3 yX3_addWorker yX3_addWorker, Cond.code yX3_addWorker cX3_addWorker 3 (some .int), Cond.classLink RX3 51 "java/lang/IllegalStateException", Cond.initialized "java/lang/IllegalStateException", Cond.fieldLink RX3 30 "RosterPay" "workers" "Ljava/util/ArrayList;", Cond.classLink RX3 77 RX2, Cond.instantiable RX2 1, Cond.initialized RX2, Cond.methodLink RX3 79 yX2_init, Cond.instanceMethod yX2_init, Cond.code yX2_init cX2_init 2 none, Cond.methodLink RX2 1 objectInit, Cond.instanceMethod objectInit, Cond.code objectInit ⟨#[0xb1]⟩ 1 none, Cond.fieldLink RX2 7 "RosterPay$Worker" "rank" "I"]
def wsL_act_r4 : List Cond := [Cond.methodLink RX3 61 yJx4a65c_add_9ea2d, Cond.instanceMethod yJx4a65c_add_9ea2d, Cond.selects RJx4a65c yJx4a65c_add_9ea2d yJx4a65c_add_9ea2d, Cond.code yJx4a65c_add_9ea2d cJx4a65c_add_9ea2d 2 (some .boolean), Cond.fieldLink RJx4a65c 63 "java/util/ArrayList" "modCount" "I", Cond.sameField "java/util/ArrayList" "java/util/AbstractList" "modCount" "I", Cond.methodLink RJx4a65c 131 yJx4a65c_add_72be8, Cond.instanceMethod yJx4a65c_add_72be8, Cond.selects RJx4a65c yJx4a65c_add_72be8 yJx4a65c_add_72be8, Cond.code yJx4a65c_add_72be8 cJx4a65c_add_72be8 4 none, Cond.methodLink RJx4a65c 129 yJx4a65c_grow_d5877, Cond.instanceMethod yJx4a65c_grow_d5877, Cond.selects RJx4a65c yJx4a65c_grow_d5877 yJx4a65c_grow_d5877, Cond.code yJx4a65c_grow_d5877 cJx4a65c_grow_d5877 1 (some (.array (.object "java/lang/Object"))), Cond.methodLink RJx4a65c 69 yJx4a65c_grow_92f84, Cond.instanceMethod yJx4a65c_grow_92f84, Cond.selects RJx4a65c yJx4a65c_grow_92f84 yJx4a65c_grow_92f84, Cond.code yJx4a65c_grow_92f84 cJx4a65c_grow_92f84 4 (some (.array (.object "java/lang/Object"))), Cond.fieldLink RJx4a65c 39 "java/util/ArrayList" "DEFAULTCAPACITY_EMPTY_ELEMENTDATA" "[Ljava/lang/Object;", Cond.methodLink RJx4a65c 79 Lib.Math.max.name, Cond.static Lib.Math.max.name, Cond.initialized "java/lang/Math", Cond.code Lib.Math.max.name Lib.Math.max.code 2 (some .int), Cond.classLink RJx4a65c 7 "java/lang/Object"]
def wsL_act_r5 : List Cond := [Cond.methodLink RJx4a65c 73 yJ8_newLength_cabcc, Cond.static yJ8_newLength_cabcc, Cond.initialized RJ8, Cond.code yJ8_newLength_cabcc cJ8_newLength_cabcc 4 (some .int), Cond.methodLink RJ8 194 Lib.Math.max.name, Cond.constant RJ8 200 (2147483639), Cond.methodLink RJ8 201 yJ8_hugeLength_7cf53, Cond.static yJ8_hugeLength_7cf53, Cond.code yJ8_hugeLength_7cf53 cJ8_hugeLength_7cf53 3 (some .int), Cond.methodLink RJx4a65c 66 yJ7_copyOf_1904c, Cond.static yJ7_copyOf_1904c, Cond.initialized RJ7, Cond.code yJ7_copyOf_1904c cJ7_copyOf_1904c 2 (some (.array (.object "java/lang/Object"))), Cond.methodLink RJ7 86 ⟨"java/lang/Object", "getClass", "()Ljava/lang/Class;"⟩, Cond.selects "[Ljava/lang/Object;" ⟨"java/lang/Object", "getClass", "()Ljava/lang/Class;"⟩ ⟨"java/lang/Object", "getClass", "()Ljava/lang/Class;"⟩, Cond.instanceMethod ⟨"java/lang/Object", "getClass", "()Ljava/lang/Class;"⟩, Cond.native ⟨"java/lang/Object", "getClass", "()Ljava/lang/Class;"⟩, Cond.methodLink RJ7 300 yJ7_copyOf_6403c, Cond.static yJ7_copyOf_6403c, Cond.code yJ7_copyOf_6403c cJ7_copyOf_6403c 4 (some (.array (.object "java/lang/Object"))), Cond.classLink RJ7 110 "[Ljava/lang/Object;", Cond.classLink RJ7 2 "java/lang/Object", Cond.methodLink RJ7 304 Lib.Math.min.name, Cond.static Lib.Math.min.name]
def wsL_act_r6 : List Cond := [Cond.code Lib.Math.min.name Lib.Math.min.code 2 (some .int), Cond.methodLink RJ7 150 arraycopyName, Cond.native arraycopyName, Cond.static arraycopyName, Cond.initialized "java/lang/System", Cond.methodLink RL 32 yX3_setRank, Cond.instanceMethod yX3_setRank, Cond.selects RX3 yX3_setRank yX3_setRank, Cond.code yX3_setRank cX3_setRank 5 (some .int), Cond.fieldLink RX3 86 "RosterPay$Worker" "rank" "I", Cond.methodLink RX3 82 yX3_findWorker, Cond.instanceMethod yX3_findWorker, Cond.selects RX3 yX3_findWorker yX3_findWorker, Cond.code yX3_findWorker cX3_findWorker 2 (some (.object "RosterPay$Worker")), Cond.classLink RX3 77 "RosterPay$Worker", Cond.methodLink RL 35 yX3_addShift, Cond.instanceMethod yX3_addShift, Cond.selects RX3 yX3_addShift yX3_addShift, Cond.code yX3_addShift cX3_addShift 8 (some .int), Cond.fieldLink RX3 33 "RosterPay" "roster" "Ljava/util/ArrayList;", Cond.classLink RX3 96 RX1, Cond.instantiable RX1 5, Cond.initialized RX1, Cond.methodLink RX3 90 yX3_overlapsAnother]
def wsL_act_r7 : List Cond := [Cond.instanceMethod yX3_overlapsAnother, Cond.selects RX3 yX3_overlapsAnother yX3_overlapsAnother, Cond.code yX3_overlapsAnother cX3_overlapsAnother 4 (some .boolean), Cond.methodLink RX3 204 yX3_workedBetween, Cond.instanceMethod yX3_workedBetween, Cond.selects RX3 yX3_workedBetween yX3_workedBetween, Cond.code yX3_workedBetween cX3_workedBetween 7 (some .int), Cond.classLink RX3 96 "RosterPay$Shift", Cond.fieldLink RX3 148 "RosterPay$Shift" "worker" "LRosterPay$Worker;", Cond.fieldLink RX3 113 "RosterPay$Shift" "isCancelled" "Z", Cond.methodLink RX3 207 yX1_ownBetween, Cond.instanceMethod yX1_ownBetween, Cond.selects RX1 yX1_ownBetween yX1_ownBetween, Cond.code yX1_ownBetween cX1_ownBetween 3 (some .int), Cond.fieldLink RX1 15 "RosterPay$Shift" "start" "I", Cond.fieldLink RX1 19 "RosterPay$Shift" "quarters" "I", Cond.methodLink RX1 39 Lib.Math.min.name, Cond.methodLink RX1 29 Lib.Math.max.name, Cond.methodLink RX3 98 yX1_init, Cond.instanceMethod yX1_init, Cond.code yX1_init cX1_init 4 none, Cond.methodLink RX1 3 objectInit, Cond.fieldLink RX1 9 "RosterPay$Shift" "worker" "LRosterPay$Worker;", Cond.fieldLink RX1 22 "RosterPay$Shift" "breaksTaken" "I"]
def wsL_act_r8 : List Cond := [Cond.fieldLink RX1 25 "RosterPay$Shift" "isCancelled" "Z", Cond.methodLink RL 39 yX3_cancel, Cond.instanceMethod yX3_cancel, Cond.selects RX3 yX3_cancel yX3_cancel, Cond.code yX3_cancel cX3_cancel 4 (some .int), Cond.methodLink RX3 101 yX3_findShift, Cond.instanceMethod yX3_findShift, Cond.selects RX3 yX3_findShift yX3_findShift, Cond.code yX3_findShift cX3_findShift 2 (some (.object "RosterPay$Shift")), Cond.methodLink RX3 105 yX3_checkNotCancelled, Cond.static yX3_checkNotCancelled, Cond.code yX3_checkNotCancelled cX3_checkNotCancelled 1 none, Cond.methodLink RX3 109 yX3_payFor, Cond.instanceMethod yX3_payFor, Cond.selects RX3 yX3_payFor yX3_payFor, Cond.code yX3_payFor cX3_payFor 5 (some .int), Cond.methodLink RX3 198 yX3_baseOf, Cond.instanceMethod yX3_baseOf, Cond.selects RX3 yX3_baseOf yX3_baseOf, Cond.code yX3_baseOf cX3_baseOf 2 (some .int), Cond.methodLink RX3 137 yX1_breaksMissed, Cond.instanceMethod yX1_breaksMissed, Cond.selects RX1 yX1_breaksMissed yX1_breaksMissed, Cond.code yX1_breaksMissed cX1_breaksMissed 1 (some .int)]
def wsL_act_r9 : List Cond := [Cond.methodLink RX1 35 yX1_breaksOwed, Cond.instanceMethod yX1_breaksOwed, Cond.selects RX1 yX1_breaksOwed yX1_breaksOwed, Cond.code yX1_breaksOwed cX1_breaksOwed 1 (some .int), Cond.methodLink RX3 119 yX1_paidLength, Cond.instanceMethod yX1_paidLength, Cond.selects RX1 yX1_paidLength yX1_paidLength, Cond.code yX1_paidLength cX1_paidLength 1 (some .int), Cond.methodLink RX3 126 yX3_percentOf, Cond.instanceMethod yX3_percentOf, Cond.selects RX3 yX3_percentOf yX3_percentOf, Cond.code yX3_percentOf cX3_percentOf 4 (some .int), Cond.fieldLink RX3 191 "RosterPay$Rule" "percent" "I", Cond.methodLink RX3 130 yX3_decidingRule, Cond.instanceMethod yX3_decidingRule, Cond.selects RX3 yX3_decidingRule yX3_decidingRule, Cond.code yX3_decidingRule cX3_decidingRule 11 (some (.object "RosterPay$Rule")), Cond.methodLink RX3 144 yX1_dayOf, Cond.instanceMethod yX1_dayOf, Cond.selects RX1 yX1_dayOf yX1_dayOf, Cond.code yX1_dayOf cX1_dayOf 2 (some .int), Cond.methodLink RX3 181 yX1_quarterOfDay, Cond.instanceMethod yX1_quarterOfDay, Cond.selects RX1 yX1_quarterOfDay yX1_quarterOfDay]
def wsL_act_r10 : List Cond := [Cond.code yX1_quarterOfDay cX1_quarterOfDay 2 (some .int), Cond.methodLink RX3 184 yX3_isHoliday, Cond.instanceMethod yX3_isHoliday, Cond.selects RX3 yX3_isHoliday yX3_isHoliday, Cond.code yX3_isHoliday cX3_isHoliday 2 (some .boolean), Cond.methodLink RX3 188 yX3_overtimePercent, Cond.static yX3_overtimePercent, Cond.code yX3_overtimePercent cX3_overtimePercent 1 (some .int), Cond.methodLink RX3 194 yX0_appliesTo, Cond.instanceMethod yX0_appliesTo, Cond.selects RX0 yX0_appliesTo yX0_appliesTo, Cond.initialized RX0, Cond.code yX0_appliesTo cX0_appliesTo 5 (some .boolean), Cond.fieldLink RX0 30 "RosterPay$Rule" "isOn" "Z", Cond.fieldLink RX0 24 "RosterPay$Rule" "ranks" "I", Cond.fieldLink RX0 18 "RosterPay$Rule" "from" "I", Cond.fieldLink RX0 21 "RosterPay$Rule" "to" "I", Cond.methodLink RX0 34 yX0_hasBit, Cond.static yX0_hasBit, Cond.code yX0_hasBit cX0_hasBit 2 (some .boolean), Cond.methodLink RX0 38 yX0_isForDay, Cond.instanceMethod yX0_isForDay, Cond.selects RX0 yX0_isForDay yX0_isForDay, Cond.code yX0_isForDay cX0_isForDay 3 (some .boolean)]
def wsL_act_r11 : List Cond := [Cond.fieldLink RX0 15 "RosterPay$Rule" "weekdays" "I", Cond.methodLink RX3 201 yX3_amount, Cond.static yX3_amount, Cond.code yX3_amount cX3_amount 2 (some .int), Cond.methodLink RL 42 yX3_takeBreaks, Cond.instanceMethod yX3_takeBreaks, Cond.selects RX3 yX3_takeBreaks yX3_takeBreaks, Cond.code yX3_takeBreaks cX3_takeBreaks 5 (some .int), Cond.fieldLink RX3 116 "RosterPay$Shift" "breaksTaken" "I", Cond.methodLink RL 45 yX3_paidQuarters, Cond.instanceMethod yX3_paidQuarters, Cond.selects RX3 yX3_paidQuarters yX3_paidQuarters, Cond.code yX3_paidQuarters cX3_paidQuarters 2 (some .int), Cond.methodLink RL 48 yX3_percentAt, Cond.instanceMethod yX3_percentAt, Cond.selects RX3 yX3_percentAt yX3_percentAt, Cond.code yX3_percentAt cX3_percentAt 4 (some .int), Cond.methodLink RX3 122 yX3_checkPaidQuarter, Cond.static yX3_checkPaidQuarter, Cond.code yX3_checkPaidQuarter cX3_checkPaidQuarter 2 none, Cond.methodLink RL 51 yX3_reasonAt, Cond.instanceMethod yX3_reasonAt, Cond.selects RX3 yX3_reasonAt yX3_reasonAt, Cond.code yX3_reasonAt cX3_reasonAt 5 (some .int)]
def wsL_act_r12 : List Cond := [Cond.fieldLink RX3 134 "RosterPay$Rule" "number" "I", Cond.methodLink RL 54 yX3_missed, Cond.instanceMethod yX3_missed, Cond.selects RX3 yX3_missed yX3_missed, Cond.code yX3_missed cX3_missed 2 (some .int), Cond.methodLink RL 57 yX3_pay, Cond.instanceMethod yX3_pay, Cond.selects RX3 yX3_pay yX3_pay, Cond.code yX3_pay cX3_pay 2 (some .int), Cond.methodLink RL 60 yX3_payOf, Cond.instanceMethod yX3_payOf, Cond.selects RX3 yX3_payOf yX3_payOf, Cond.code yX3_payOf cX3_payOf 9 (some .int), Cond.methodLink RL 64 yX3_paidBy, Cond.instanceMethod yX3_paidBy, Cond.selects RX3 yX3_paidBy yX3_paidBy, Cond.code yX3_paidBy cX3_paidBy 5 (some .int), Cond.methodLink RX3 152 yX3_payByRule, Cond.instanceMethod yX3_payByRule, Cond.selects RX3 yX3_payByRule yX3_payByRule, Cond.code yX3_payByRule cX3_payByRule 7 (some .int), Cond.methodLink RL 67 yX3_worked, Cond.instanceMethod yX3_worked, Cond.selects RX3 yX3_worked yX3_worked]
def wsL_act_r13 : List Cond := [Cond.code yX3_worked cX3_worked 4 (some .int), Cond.methodLink RX3 156 yX3_workedInWeeks, Cond.instanceMethod yX3_workedInWeeks, Cond.selects RX3 yX3_workedInWeeks yX3_workedInWeeks, Cond.code yX3_workedInWeeks cX3_workedInWeeks 4 (some .int), Cond.methodLink RL 70 yX3_excess, Cond.instanceMethod yX3_excess, Cond.selects RX3 yX3_excess yX3_excess, Cond.code yX3_excess cX3_excess 5 (some .int), Cond.methodLink RX3 160 Lib.Math.max.name]
def wsL_act : List Cond := .codeWith yL_act cL_act 7 (some .int) [(0, 273, 274, 73), (0, 273, 279, 13), (0, 273, 284, 15)] :: ((wsL_act_r1 ++ (wsL_act_r2 ++ (wsL_act_r3 ++ (wsL_act_r4 ++ (wsL_act_r5 ++ (wsL_act_r6 ++ (wsL_act_r7 ++ (wsL_act_r8 ++ (wsL_act_r9 ++ (wsL_act_r10 ++ (wsL_act_r11 ++ (wsL_act_r12 ++ wsL_act_r13)))))))))))) ++ wsX30 ++ wsX00 ++ wsJx4a65c0 ++ wsX20 ++ wsX10 ++ (vx_atS RX3 40 "java/lang/IllegalArgumentException" ["java/lang/RuntimeException", "java/lang/Exception"]).filter goodWord ++ (vx_atS RX3 174 "java/lang/IndexOutOfBoundsException" ["java/lang/RuntimeException", "java/lang/Exception"]).filter goodWord ++ (vx_atS RX3 55 "java/lang/IllegalStateException" ["java/lang/RuntimeException", "java/lang/Exception"]).filter goodWord)
def wsL_refuses_r1 : List Cond := [Cond.constant RL 79 (2147483647), Cond.methodLink RL 75 yX3_shifts, Cond.instanceMethod yX3_shifts, Cond.selects RX3 yX3_shifts yX3_shifts, Cond.initialized RX3, Cond.code yX3_shifts cX3_shifts 1 (some .int), Cond.fieldLink RX3 33 "RosterPay" "roster" "Ljava/util/ArrayList;", Cond.methodLink RX3 47 yJx4a65c_size_8abf5, Cond.instanceMethod yJx4a65c_size_8abf5, Cond.selects RJx4a65c yJx4a65c_size_8abf5 yJx4a65c_size_8abf5, Cond.initialized RJx4a65c, Cond.code yJx4a65c_size_8abf5 cJx4a65c_size_8abf5 1 (some .int), Cond.fieldLink RJx4a65c 48 "java/util/ArrayList" "size" "I", Cond.methodLink RL 60 yX3_payOf, Cond.instanceMethod yX3_payOf, Cond.selects RX3 yX3_payOf yX3_payOf, Cond.code yX3_payOf cX3_payOf 9 (some .int), Cond.classLink RX3 96 "RosterPay$Shift", Cond.fieldLink RX3 148 "RosterPay$Shift" "worker" "LRosterPay$Worker;", Cond.methodLink RX3 82 yX3_findWorker, Cond.instanceMethod yX3_findWorker, Cond.selects RX3 yX3_findWorker yX3_findWorker, Cond.code yX3_findWorker cX3_findWorker 2 (some (.object "RosterPay$Worker")), Cond.classLink RX3 170 "java/lang/IndexOutOfBoundsException"]
def wsL_refuses_r2 : List Cond := [Cond.initialized "java/lang/IndexOutOfBoundsException", Cond.fieldLink RX3 30 "RosterPay" "workers" "Ljava/util/ArrayList;", Cond.classLink RX3 77 "RosterPay$Worker", Cond.methodLink RX3 140 yJx4a65c_get_915e3, Cond.instanceMethod yJx4a65c_get_915e3, Cond.selects RJx4a65c yJx4a65c_get_915e3 yJx4a65c_get_915e3, Cond.code yJx4a65c_get_915e3 cJx4a65c_get_915e3 2 (some (.object "java/lang/Object")), Cond.methodLink RJx4a65c 118 yJ15_checkIndex_7cf53, Cond.static yJ15_checkIndex_7cf53, Cond.initialized RJ15, Cond.code yJ15_checkIndex_7cf53 cJ15_checkIndex_7cf53 2 (some .int), Cond.methodLink RJ15 105 yJ3_checkIndex_8e157, Cond.static yJ3_checkIndex_8e157, Cond.initialized RJ3, Cond.code yJ3_checkIndex_8e157 cJ3_checkIndex_8e157 3 (some .int), Cond.methodLink RJx4a65c 123 yJx4a65c_elementData_915e3, Cond.instanceMethod yJx4a65c_elementData_915e3, Cond.selects RJx4a65c yJx4a65c_elementData_915e3 yJx4a65c_elementData_915e3, Cond.code yJx4a65c_elementData_915e3 cJx4a65c_elementData_915e3 2 (some (.object "java/lang/Object")), Cond.fieldLink RJx4a65c 9 "java/util/ArrayList" "elementData" "[Ljava/lang/Object;", Cond.methodLink RX3 43 yX3_checkArgument, Cond.static yX3_checkArgument, Cond.code yX3_checkArgument cX3_checkArgument 3 none, Cond.classLink RX3 36 "java/lang/IllegalArgumentException"]
def wsL_refuses_r3 : List Cond := [Cond.initialized "java/lang/IllegalArgumentException", Cond.methodLink RX3 144 yX1_dayOf, Cond.instanceMethod yX1_dayOf, Cond.selects RX1 yX1_dayOf yX1_dayOf, Cond.initialized RX1, Cond.code yX1_dayOf cX1_dayOf 2 (some .int), Cond.fieldLink RX1 15 "RosterPay$Shift" "start" "I", Cond.methodLink RX3 109 yX3_payFor, Cond.instanceMethod yX3_payFor, Cond.selects RX3 yX3_payFor yX3_payFor, Cond.code yX3_payFor cX3_payFor 5 (some .int), Cond.fieldLink RX3 86 "RosterPay$Worker" "rank" "I", Cond.methodLink RX3 198 yX3_baseOf, Cond.instanceMethod yX3_baseOf, Cond.selects RX3 yX3_baseOf yX3_baseOf, Cond.code yX3_baseOf cX3_baseOf 2 (some .int), Cond.fieldLink RX3 9 "RosterPay" "bases" "[I", Cond.methodLink RX3 137 yX1_breaksMissed, Cond.instanceMethod yX1_breaksMissed, Cond.selects RX1 yX1_breaksMissed yX1_breaksMissed, Cond.code yX1_breaksMissed cX1_breaksMissed 1 (some .int), Cond.fieldLink RX1 25 "RosterPay$Shift" "isCancelled" "Z", Cond.fieldLink RX1 22 "RosterPay$Shift" "breaksTaken" "I", Cond.methodLink RX1 29 Lib.Math.max.name]
def wsL_refuses_r4 : List Cond := [Cond.static Lib.Math.max.name, Cond.initialized "java/lang/Math", Cond.code Lib.Math.max.name Lib.Math.max.code 2 (some .int), Cond.methodLink RX1 35 yX1_breaksOwed, Cond.instanceMethod yX1_breaksOwed, Cond.selects RX1 yX1_breaksOwed yX1_breaksOwed, Cond.code yX1_breaksOwed cX1_breaksOwed 1 (some .int), Cond.fieldLink RX1 19 "RosterPay$Shift" "quarters" "I", Cond.methodLink RX3 119 yX1_paidLength, Cond.instanceMethod yX1_paidLength, Cond.selects RX1 yX1_paidLength yX1_paidLength, Cond.code yX1_paidLength cX1_paidLength 1 (some .int), Cond.methodLink RX3 126 yX3_percentOf, Cond.instanceMethod yX3_percentOf, Cond.selects RX3 yX3_percentOf yX3_percentOf, Cond.code yX3_percentOf cX3_percentOf 4 (some .int), Cond.fieldLink RX3 191 "RosterPay$Rule" "percent" "I", Cond.methodLink RX3 130 yX3_decidingRule, Cond.instanceMethod yX3_decidingRule, Cond.selects RX3 yX3_decidingRule yX3_decidingRule, Cond.code yX3_decidingRule cX3_decidingRule 11 (some (.object "RosterPay$Rule")), Cond.fieldLink RX3 26 "RosterPay" "rules" "Ljava/util/ArrayList;", Cond.classLink RX3 56 "RosterPay$Rule", Cond.methodLink RX3 181 yX1_quarterOfDay]
def wsL_refuses_r5 : List Cond := [Cond.instanceMethod yX1_quarterOfDay, Cond.selects RX1 yX1_quarterOfDay yX1_quarterOfDay, Cond.code yX1_quarterOfDay cX1_quarterOfDay 2 (some .int), Cond.methodLink RX3 184 yX3_isHoliday, Cond.instanceMethod yX3_isHoliday, Cond.selects RX3 yX3_isHoliday yX3_isHoliday, Cond.code yX3_isHoliday cX3_isHoliday 2 (some .boolean), Cond.fieldLink RX3 19 "RosterPay" "holidays" "[Z", Cond.methodLink RX3 188 yX3_overtimePercent, Cond.static yX3_overtimePercent, Cond.code yX3_overtimePercent cX3_overtimePercent 1 (some .int), Cond.methodLink RX3 194 yX0_appliesTo, Cond.instanceMethod yX0_appliesTo, Cond.selects RX0 yX0_appliesTo yX0_appliesTo, Cond.initialized RX0, Cond.code yX0_appliesTo cX0_appliesTo 5 (some .boolean), Cond.fieldLink RX0 30 "RosterPay$Rule" "isOn" "Z", Cond.fieldLink RX0 24 "RosterPay$Rule" "ranks" "I", Cond.fieldLink RX0 18 "RosterPay$Rule" "from" "I", Cond.fieldLink RX0 21 "RosterPay$Rule" "to" "I", Cond.methodLink RX0 34 yX0_hasBit, Cond.static yX0_hasBit, Cond.code yX0_hasBit cX0_hasBit 2 (some .boolean), Cond.methodLink RX0 38 yX0_isForDay]
def wsL_refuses_r6 : List Cond := [Cond.instanceMethod yX0_isForDay, Cond.selects RX0 yX0_isForDay yX0_isForDay, Cond.code yX0_isForDay cX0_isForDay 3 (some .boolean), Cond.fieldLink RX0 15 "RosterPay$Rule" "weekdays" "I", Cond.methodLink RX3 201 yX3_amount, Cond.static yX3_amount, Cond.code yX3_amount cX3_amount 2 (some .int), Cond.methodLink RL 67 yX3_worked, Cond.instanceMethod yX3_worked, Cond.selects RX3 yX3_worked yX3_worked, Cond.code yX3_worked cX3_worked 4 (some .int), Cond.methodLink RX3 156 yX3_workedInWeeks, Cond.instanceMethod yX3_workedInWeeks, Cond.selects RX3 yX3_workedInWeeks yX3_workedInWeeks, Cond.code yX3_workedInWeeks cX3_workedInWeeks 4 (some .int), Cond.methodLink RX3 204 yX3_workedBetween, Cond.instanceMethod yX3_workedBetween, Cond.selects RX3 yX3_workedBetween yX3_workedBetween, Cond.code yX3_workedBetween cX3_workedBetween 7 (some .int), Cond.fieldLink RX3 113 "RosterPay$Shift" "isCancelled" "Z", Cond.methodLink RX3 207 yX1_ownBetween, Cond.instanceMethod yX1_ownBetween, Cond.selects RX1 yX1_ownBetween yX1_ownBetween, Cond.code yX1_ownBetween cX1_ownBetween 3 (some .int)]
def wsL_refuses_r7 : List Cond := [Cond.methodLink RX1 39 Lib.Math.min.name, Cond.static Lib.Math.min.name, Cond.code Lib.Math.min.name Lib.Math.min.code 2 (some .int), Cond.methodLink RL 80 yL_act, Cond.static yL_act, Cond.initialized RL, Cond.codeWith yL_act cL_act 7 (some .int) [(0, 273, 274, 73), (0, 273, 279, 13), (0, 273, 284, 15)], Cond.classLink RL 73 "java/lang/IndexOutOfBoundsException", Cond.classLink RL 13 "java/lang/IllegalArgumentException", Cond.classLink RL 15 "java/lang/IllegalStateException", Cond.methodLink RL 17 yX3_setBase, Cond.instanceMethod yX3_setBase, Cond.selects RX3 yX3_setBase yX3_setBase, Cond.code yX3_setBase cX3_setBase 4 (some .int), Cond.methodLink RL 21 yX3_setRule, Cond.instanceMethod yX3_setRule, Cond.selects RX3 yX3_setRule yX3_setRule, Cond.code yX3_setRule cX3_setRule 5 (some .boolean), Cond.fieldLink RX3 69 "RosterPay$Rule" "isOn" "Z", Cond.methodLink RX3 65 yX3_findRule, Cond.instanceMethod yX3_findRule, Cond.selects RX3 yX3_findRule yX3_findRule, Cond.code yX3_findRule cX3_findRule 2 (some (.object "RosterPay$Rule")), Cond.methodLink RL 25 yX3_setHoliday]
def wsL_refuses_r8 : List Cond := [Cond.instanceMethod yX3_setHoliday, Cond.selects RX3 yX3_setHoliday yX3_setHoliday, Cond.code yX3_setHoliday cX3_setHoliday 4 (some .boolean), Cond.methodLink RL 28 yX3_addWorker, Cond.instanceMethod yX3_addWorker, Cond.selects RX3 yX3_addWorker yX3_addWorker, Cond.code yX3_addWorker cX3_addWorker 3 (some .int), Cond.classLink RX3 51 "java/lang/IllegalStateException", Cond.initialized "java/lang/IllegalStateException", Cond.classLink RX3 77 RX2, Cond.instantiable RX2 1, Cond.initialized RX2, Cond.methodLink RX3 79 yX2_init, Cond.instanceMethod yX2_init, Cond.code yX2_init cX2_init 2 none, Cond.methodLink RX2 1 objectInit, Cond.instanceMethod objectInit, Cond.code objectInit ⟨#[0xb1]⟩ 1 none, Cond.fieldLink RX2 7 "RosterPay$Worker" "rank" "I", Cond.methodLink RX3 61 yJx4a65c_add_9ea2d, Cond.instanceMethod yJx4a65c_add_9ea2d, Cond.selects RJx4a65c yJx4a65c_add_9ea2d yJx4a65c_add_9ea2d, Cond.code yJx4a65c_add_9ea2d cJx4a65c_add_9ea2d 2 (some .boolean), Cond.fieldLink RJx4a65c 63 "java/util/ArrayList" "modCount" "I"]
def wsL_refuses_r9 : List Cond := [Cond.sameField "java/util/ArrayList" "java/util/AbstractList" "modCount" "I", Cond.methodLink RJx4a65c 131 yJx4a65c_add_72be8, Cond.instanceMethod yJx4a65c_add_72be8, Cond.selects RJx4a65c yJx4a65c_add_72be8 yJx4a65c_add_72be8, Cond.code yJx4a65c_add_72be8 cJx4a65c_add_72be8 4 none, Cond.methodLink RJx4a65c 129 yJx4a65c_grow_d5877, Cond.instanceMethod yJx4a65c_grow_d5877, Cond.selects RJx4a65c yJx4a65c_grow_d5877 yJx4a65c_grow_d5877, Cond.code yJx4a65c_grow_d5877 cJx4a65c_grow_d5877 1 (some (.array (.object "java/lang/Object"))), Cond.methodLink RJx4a65c 69 yJx4a65c_grow_92f84, Cond.instanceMethod yJx4a65c_grow_92f84, Cond.selects RJx4a65c yJx4a65c_grow_92f84 yJx4a65c_grow_92f84, Cond.code yJx4a65c_grow_92f84 cJx4a65c_grow_92f84 4 (some (.array (.object "java/lang/Object"))), Cond.fieldLink RJx4a65c 39 "java/util/ArrayList" "DEFAULTCAPACITY_EMPTY_ELEMENTDATA" "[Ljava/lang/Object;", Cond.methodLink RJx4a65c 79 Lib.Math.max.name, Cond.classLink RJx4a65c 7 "java/lang/Object", Cond.methodLink RJx4a65c 73 yJ8_newLength_cabcc, Cond.static yJ8_newLength_cabcc, Cond.initialized RJ8, Cond.code yJ8_newLength_cabcc cJ8_newLength_cabcc 4 (some .int), Cond.methodLink RJ8 194 Lib.Math.max.name, Cond.constant RJ8 200 (2147483639), Cond.methodLink RJ8 201 yJ8_hugeLength_7cf53, Cond.static yJ8_hugeLength_7cf53]
def wsL_refuses_r10 : List Cond := [Cond.code yJ8_hugeLength_7cf53 cJ8_hugeLength_7cf53 3 (some .int), Cond.methodLink RJx4a65c 66 yJ7_copyOf_1904c, Cond.static yJ7_copyOf_1904c, Cond.initialized RJ7, Cond.code yJ7_copyOf_1904c cJ7_copyOf_1904c 2 (some (.array (.object "java/lang/Object"))), Cond.methodLink RJ7 86 ⟨"java/lang/Object", "getClass", "()Ljava/lang/Class;"⟩, Cond.selects "[Ljava/lang/Object;" ⟨"java/lang/Object", "getClass", "()Ljava/lang/Class;"⟩ ⟨"java/lang/Object", "getClass", "()Ljava/lang/Class;"⟩, Cond.instanceMethod ⟨"java/lang/Object", "getClass", "()Ljava/lang/Class;"⟩, Cond.native ⟨"java/lang/Object", "getClass", "()Ljava/lang/Class;"⟩, Cond.methodLink RJ7 300 yJ7_copyOf_6403c, Cond.static yJ7_copyOf_6403c, Cond.code yJ7_copyOf_6403c cJ7_copyOf_6403c 4 (some (.array (.object "java/lang/Object"))), Cond.classLink RJ7 110 "[Ljava/lang/Object;", Cond.classLink RJ7 2 "java/lang/Object", Cond.methodLink RJ7 304 Lib.Math.min.name, Cond.methodLink RJ7 150 arraycopyName, Cond.native arraycopyName, Cond.static arraycopyName, Cond.initialized "java/lang/System", Cond.methodLink RL 32 yX3_setRank, Cond.instanceMethod yX3_setRank, Cond.selects RX3 yX3_setRank yX3_setRank, Cond.code yX3_setRank cX3_setRank 5 (some .int), Cond.methodLink RL 35 yX3_addShift]
def wsL_refuses_r11 : List Cond := [Cond.instanceMethod yX3_addShift, Cond.selects RX3 yX3_addShift yX3_addShift, Cond.code yX3_addShift cX3_addShift 8 (some .int), Cond.classLink RX3 96 RX1, Cond.instantiable RX1 5, Cond.methodLink RX3 90 yX3_overlapsAnother, Cond.instanceMethod yX3_overlapsAnother, Cond.selects RX3 yX3_overlapsAnother yX3_overlapsAnother, Cond.code yX3_overlapsAnother cX3_overlapsAnother 4 (some .boolean), Cond.methodLink RX3 98 yX1_init, Cond.instanceMethod yX1_init, Cond.code yX1_init cX1_init 4 none, Cond.methodLink RX1 3 objectInit, Cond.fieldLink RX1 9 "RosterPay$Shift" "worker" "LRosterPay$Worker;", Cond.methodLink RL 39 yX3_cancel, Cond.instanceMethod yX3_cancel, Cond.selects RX3 yX3_cancel yX3_cancel, Cond.code yX3_cancel cX3_cancel 4 (some .int), Cond.methodLink RX3 101 yX3_findShift, Cond.instanceMethod yX3_findShift, Cond.selects RX3 yX3_findShift yX3_findShift, Cond.code yX3_findShift cX3_findShift 2 (some (.object "RosterPay$Shift")), Cond.methodLink RX3 105 yX3_checkNotCancelled, Cond.static yX3_checkNotCancelled]
def wsL_refuses_r12 : List Cond := [Cond.code yX3_checkNotCancelled cX3_checkNotCancelled 1 none, Cond.methodLink RL 42 yX3_takeBreaks, Cond.instanceMethod yX3_takeBreaks, Cond.selects RX3 yX3_takeBreaks yX3_takeBreaks, Cond.code yX3_takeBreaks cX3_takeBreaks 5 (some .int), Cond.fieldLink RX3 116 "RosterPay$Shift" "breaksTaken" "I", Cond.methodLink RL 45 yX3_paidQuarters, Cond.instanceMethod yX3_paidQuarters, Cond.selects RX3 yX3_paidQuarters yX3_paidQuarters, Cond.code yX3_paidQuarters cX3_paidQuarters 2 (some .int), Cond.methodLink RL 48 yX3_percentAt, Cond.instanceMethod yX3_percentAt, Cond.selects RX3 yX3_percentAt yX3_percentAt, Cond.code yX3_percentAt cX3_percentAt 4 (some .int), Cond.methodLink RX3 122 yX3_checkPaidQuarter, Cond.static yX3_checkPaidQuarter, Cond.code yX3_checkPaidQuarter cX3_checkPaidQuarter 2 none, Cond.methodLink RL 51 yX3_reasonAt, Cond.instanceMethod yX3_reasonAt, Cond.selects RX3 yX3_reasonAt yX3_reasonAt, Cond.code yX3_reasonAt cX3_reasonAt 5 (some .int), Cond.fieldLink RX3 134 "RosterPay$Rule" "number" "I", Cond.methodLink RL 54 yX3_missed, Cond.instanceMethod yX3_missed]
def wsL_refuses_r13 : List Cond := [Cond.selects RX3 yX3_missed yX3_missed, Cond.code yX3_missed cX3_missed 2 (some .int), Cond.methodLink RL 57 yX3_pay, Cond.instanceMethod yX3_pay, Cond.selects RX3 yX3_pay yX3_pay, Cond.code yX3_pay cX3_pay 2 (some .int), Cond.methodLink RL 64 yX3_paidBy, Cond.instanceMethod yX3_paidBy, Cond.selects RX3 yX3_paidBy yX3_paidBy, Cond.code yX3_paidBy cX3_paidBy 5 (some .int), Cond.methodLink RX3 152 yX3_payByRule, Cond.instanceMethod yX3_payByRule, Cond.selects RX3 yX3_payByRule yX3_payByRule, Cond.code yX3_payByRule cX3_payByRule 7 (some .int), Cond.methodLink RL 70 yX3_excess, Cond.instanceMethod yX3_excess, Cond.selects RX3 yX3_excess yX3_excess, Cond.code yX3_excess cX3_excess 5 (some .int), Cond.methodLink RX3 160 Lib.Math.max.name, Cond.methodLink RL 86 yL_rule, Cond.static yL_rule, Cond.codeWith yL_rule cL_rule 7 (some .int) [(0, 11, 12, 13), (0, 11, 17, 15)], Cond.methodLink RL 7 yX3_addRule, Cond.instanceMethod yX3_addRule]
def wsL_refuses_r14 : List Cond := [Cond.selects RX3 yX3_addRule yX3_addRule, Cond.code yX3_addRule cX3_addRule 7 (some .int), Cond.classLink RX3 56 RX0, Cond.instantiable RX0 7, Cond.methodLink RX3 58 yX0_init, Cond.instanceMethod yX0_init, Cond.code yX0_init cX0_init 7 none, Cond.methodLink RX0 3 objectInit, Cond.fieldLink RX0 9 "RosterPay$Rule" "number" "I", Cond.fieldLink RX0 27 "RosterPay$Rule" "percent" "I"]
def wsL_refuses : List Cond := .code yL_refuses cL_refuses 16 (some .boolean) :: ((wsL_refuses_r1 ++ (wsL_refuses_r2 ++ (wsL_refuses_r3 ++ (wsL_refuses_r4 ++ (wsL_refuses_r5 ++ (wsL_refuses_r6 ++ (wsL_refuses_r7 ++ (wsL_refuses_r8 ++ (wsL_refuses_r9 ++ (wsL_refuses_r10 ++ (wsL_refuses_r11 ++ (wsL_refuses_r12 ++ (wsL_refuses_r13 ++ wsL_refuses_r14))))))))))))) ++ wsX30 ++ wsJx4a65c0 ++ wsX10 ++ wsX20 ++ wsX00 ++ (vx_atS RX3 174 "java/lang/IndexOutOfBoundsException" ["java/lang/RuntimeException", "java/lang/Exception"]).filter goodWord ++ (vx_atS RX3 40 "java/lang/IllegalArgumentException" ["java/lang/RuntimeException", "java/lang/Exception"]).filter goodWord ++ (vx_atS RX3 55 "java/lang/IllegalStateException" ["java/lang/RuntimeException", "java/lang/Exception"]).filter goodWord)
def wsL_at_r1 : List Cond := [Cond.methodLink RL 48 yX3_percentAt, Cond.instanceMethod yX3_percentAt, Cond.selects RX3 yX3_percentAt yX3_percentAt, Cond.initialized RX3, Cond.code yX3_percentAt cX3_percentAt 4 (some .int), Cond.methodLink RX3 101 yX3_findShift, Cond.instanceMethod yX3_findShift, Cond.selects RX3 yX3_findShift yX3_findShift, Cond.code yX3_findShift cX3_findShift 2 (some (.object "RosterPay$Shift")), Cond.classLink RX3 170 "java/lang/IndexOutOfBoundsException", Cond.initialized "java/lang/IndexOutOfBoundsException", Cond.fieldLink RX3 33 "RosterPay" "roster" "Ljava/util/ArrayList;", Cond.classLink RX3 96 "RosterPay$Shift", Cond.methodLink RX3 47 yJx4a65c_size_8abf5, Cond.instanceMethod yJx4a65c_size_8abf5, Cond.selects RJx4a65c yJx4a65c_size_8abf5 yJx4a65c_size_8abf5, Cond.initialized RJx4a65c, Cond.code yJx4a65c_size_8abf5 cJx4a65c_size_8abf5 1 (some .int), Cond.fieldLink RJx4a65c 48 "java/util/ArrayList" "size" "I", Cond.methodLink RX3 140 yJx4a65c_get_915e3, Cond.instanceMethod yJx4a65c_get_915e3, Cond.selects RJx4a65c yJx4a65c_get_915e3 yJx4a65c_get_915e3, Cond.code yJx4a65c_get_915e3 cJx4a65c_get_915e3 2 (some (.object "java/lang/Object")), Cond.methodLink RJx4a65c 118 yJ15_checkIndex_7cf53]
def wsL_at_r2 : List Cond := [Cond.static yJ15_checkIndex_7cf53, Cond.initialized RJ15, Cond.code yJ15_checkIndex_7cf53 cJ15_checkIndex_7cf53 2 (some .int), Cond.methodLink RJ15 105 yJ3_checkIndex_8e157, Cond.static yJ3_checkIndex_8e157, Cond.initialized RJ3, Cond.code yJ3_checkIndex_8e157 cJ3_checkIndex_8e157 3 (some .int), Cond.methodLink RJx4a65c 123 yJx4a65c_elementData_915e3, Cond.instanceMethod yJx4a65c_elementData_915e3, Cond.selects RJx4a65c yJx4a65c_elementData_915e3 yJx4a65c_elementData_915e3, Cond.code yJx4a65c_elementData_915e3 cJx4a65c_elementData_915e3 2 (some (.object "java/lang/Object")), Cond.fieldLink RJx4a65c 9 "java/util/ArrayList" "elementData" "[Ljava/lang/Object;", Cond.methodLink RX3 122 yX3_checkPaidQuarter, Cond.static yX3_checkPaidQuarter, Cond.code yX3_checkPaidQuarter cX3_checkPaidQuarter 2 none, Cond.methodLink RX3 119 yX1_paidLength, Cond.instanceMethod yX1_paidLength, Cond.selects RX1 yX1_paidLength yX1_paidLength, Cond.initialized RX1, Cond.code yX1_paidLength cX1_paidLength 1 (some .int), Cond.fieldLink RX1 25 "RosterPay$Shift" "isCancelled" "Z", Cond.fieldLink RX1 19 "RosterPay$Shift" "quarters" "I", Cond.methodLink RX1 29 Lib.Math.max.name, Cond.static Lib.Math.max.name]
def wsL_at_r3 : List Cond := [Cond.initialized "java/lang/Math", Cond.code Lib.Math.max.name Lib.Math.max.code 2 (some .int), Cond.methodLink RX3 126 yX3_percentOf, Cond.instanceMethod yX3_percentOf, Cond.selects RX3 yX3_percentOf yX3_percentOf, Cond.code yX3_percentOf cX3_percentOf 4 (some .int), Cond.fieldLink RX3 191 "RosterPay$Rule" "percent" "I", Cond.methodLink RX3 130 yX3_decidingRule, Cond.instanceMethod yX3_decidingRule, Cond.selects RX3 yX3_decidingRule yX3_decidingRule, Cond.code yX3_decidingRule cX3_decidingRule 11 (some (.object "RosterPay$Rule")), Cond.fieldLink RX3 26 "RosterPay" "rules" "Ljava/util/ArrayList;", Cond.classLink RX3 56 "RosterPay$Rule", Cond.fieldLink RX3 148 "RosterPay$Shift" "worker" "LRosterPay$Worker;", Cond.fieldLink RX3 86 "RosterPay$Worker" "rank" "I", Cond.methodLink RX3 144 yX1_dayOf, Cond.instanceMethod yX1_dayOf, Cond.selects RX1 yX1_dayOf yX1_dayOf, Cond.code yX1_dayOf cX1_dayOf 2 (some .int), Cond.fieldLink RX1 15 "RosterPay$Shift" "start" "I", Cond.methodLink RX3 181 yX1_quarterOfDay, Cond.instanceMethod yX1_quarterOfDay, Cond.selects RX1 yX1_quarterOfDay yX1_quarterOfDay, Cond.code yX1_quarterOfDay cX1_quarterOfDay 2 (some .int)]
def wsL_at_r4 : List Cond := [Cond.methodLink RX3 184 yX3_isHoliday, Cond.instanceMethod yX3_isHoliday, Cond.selects RX3 yX3_isHoliday yX3_isHoliday, Cond.code yX3_isHoliday cX3_isHoliday 2 (some .boolean), Cond.fieldLink RX3 19 "RosterPay" "holidays" "[Z", Cond.methodLink RX3 188 yX3_overtimePercent, Cond.static yX3_overtimePercent, Cond.code yX3_overtimePercent cX3_overtimePercent 1 (some .int), Cond.methodLink RX3 194 yX0_appliesTo, Cond.instanceMethod yX0_appliesTo, Cond.selects RX0 yX0_appliesTo yX0_appliesTo, Cond.initialized RX0, Cond.code yX0_appliesTo cX0_appliesTo 5 (some .boolean), Cond.fieldLink RX0 30 "RosterPay$Rule" "isOn" "Z", Cond.fieldLink RX0 24 "RosterPay$Rule" "ranks" "I", Cond.fieldLink RX0 18 "RosterPay$Rule" "from" "I", Cond.fieldLink RX0 21 "RosterPay$Rule" "to" "I", Cond.methodLink RX0 34 yX0_hasBit, Cond.static yX0_hasBit, Cond.code yX0_hasBit cX0_hasBit 2 (some .boolean), Cond.methodLink RX0 38 yX0_isForDay, Cond.instanceMethod yX0_isForDay, Cond.selects RX0 yX0_isForDay yX0_isForDay, Cond.code yX0_isForDay cX0_isForDay 3 (some .boolean)]
def wsL_at_r5 : List Cond := [Cond.fieldLink RX0 15 "RosterPay$Rule" "weekdays" "I", Cond.methodLink RL 51 yX3_reasonAt, Cond.instanceMethod yX3_reasonAt, Cond.selects RX3 yX3_reasonAt yX3_reasonAt, Cond.code yX3_reasonAt cX3_reasonAt 5 (some .int), Cond.fieldLink RX3 134 "RosterPay$Rule" "number" "I"]
def wsL_at : List Cond := .code yL_at cL_at 5 (some .boolean) :: ((wsL_at_r1 ++ (wsL_at_r2 ++ (wsL_at_r3 ++ (wsL_at_r4 ++ wsL_at_r5)))) ++ wsX30 ++ wsJx4a65c0 ++ wsX10 ++ wsX00 ++ wsX20 ++ (vx_atS RX3 174 "java/lang/IndexOutOfBoundsException" ["java/lang/RuntimeException", "java/lang/Exception"]).filter goodWord)
def wsL_pays_r1 : List Cond := [Cond.classLink RL 8 RX3, Cond.instantiable RX3 5, Cond.initialized RX3, Cond.methodLink RL 89 yX3_init, Cond.instanceMethod yX3_init, Cond.code yX3_init cX3_init 1 none, Cond.methodLink RX3 3 objectInit, Cond.instanceMethod objectInit, Cond.code objectInit ⟨#[0xb1]⟩ 1 none, Cond.arrayClass .int, Cond.fieldLink RX3 9 "RosterPay" "bases" "[I", Cond.arrayClass .boolean, Cond.fieldLink RX3 19 "RosterPay" "holidays" "[Z", Cond.classLink RX3 23 RJx4a65c, Cond.instantiable RJx4a65c 3, Cond.initialized RJx4a65c, Cond.fieldLink RX3 26 "RosterPay" "rules" "Ljava/util/ArrayList;", Cond.fieldLink RX3 30 "RosterPay" "workers" "Ljava/util/ArrayList;", Cond.fieldLink RX3 33 "RosterPay" "roster" "Ljava/util/ArrayList;", Cond.methodLink RX3 13 yJ7_fill_53178, Cond.static yJ7_fill_53178, Cond.initialized RJ7, Cond.code yJ7_fill_53178 cJ7_fill_53178 4 none, Cond.methodLink RX3 25 yJx4a65c_init_da8c8]
def wsL_pays_r2 : List Cond := [Cond.instanceMethod yJx4a65c_init_da8c8, Cond.code yJx4a65c_init_da8c8 cJx4a65c_init_da8c8 1 none, Cond.fieldLink RJx4a65c 39 "java/util/ArrayList" "DEFAULTCAPACITY_EMPTY_ELEMENTDATA" "[Ljava/lang/Object;", Cond.fieldLink RJx4a65c 9 "java/util/ArrayList" "elementData" "[Ljava/lang/Object;", Cond.methodLink RJx4a65c 1 yJxc12de_init_da8c8, Cond.instanceMethod yJxc12de_init_da8c8, Cond.initialized RJxc12de, Cond.code yJxc12de_init_da8c8 cJxc12de_init_da8c8 1 none, Cond.fieldLink RJxc12de 7 "java/util/AbstractList" "modCount" "I", Cond.methodLink RJxc12de 1 yJxa1e45_init_da8c8, Cond.instanceMethod yJxa1e45_init_da8c8, Cond.initialized RJxa1e45, Cond.code yJxa1e45_init_da8c8 cJxa1e45_init_da8c8 1 none, Cond.methodLink RJxa1e45 1 objectInit, Cond.methodLink RL 75 yX3_shifts, Cond.instanceMethod yX3_shifts, Cond.selects RX3 yX3_shifts yX3_shifts, Cond.code yX3_shifts cX3_shifts 1 (some .int), Cond.methodLink RX3 47 yJx4a65c_size_8abf5, Cond.instanceMethod yJx4a65c_size_8abf5, Cond.selects RJx4a65c yJx4a65c_size_8abf5 yJx4a65c_size_8abf5, Cond.code yJx4a65c_size_8abf5 cJx4a65c_size_8abf5 1 (some .int), Cond.fieldLink RJx4a65c 48 "java/util/ArrayList" "size" "I", Cond.methodLink RL 80 yL_act]
def wsL_pays_r3 : List Cond := [Cond.static yL_act, Cond.initialized RL, Cond.codeWith yL_act cL_act 7 (some .int) [(0, 273, 274, 73), (0, 273, 279, 13), (0, 273, 284, 15)], Cond.classLink RL 73 "java/lang/IndexOutOfBoundsException", Cond.classLink RL 13 "java/lang/IllegalArgumentException", Cond.classLink RL 15 "java/lang/IllegalStateException", Cond.methodLink RL 17 yX3_setBase, Cond.instanceMethod yX3_setBase, Cond.selects RX3 yX3_setBase yX3_setBase, Cond.code yX3_setBase cX3_setBase 4 (some .int), Cond.classLink RX3 36 "java/lang/IllegalArgumentException", Cond.initialized "java/lang/IllegalArgumentException", Cond.methodLink RX3 43 yX3_checkArgument, Cond.static yX3_checkArgument, Cond.code yX3_checkArgument cX3_checkArgument 3 none, Cond.methodLink RL 21 yX3_setRule, Cond.instanceMethod yX3_setRule, Cond.selects RX3 yX3_setRule yX3_setRule, Cond.code yX3_setRule cX3_setRule 5 (some .boolean), Cond.fieldLink RX3 69 "RosterPay$Rule" "isOn" "Z", Cond.methodLink RX3 65 yX3_findRule, Cond.instanceMethod yX3_findRule, Cond.selects RX3 yX3_findRule yX3_findRule, Cond.code yX3_findRule cX3_findRule 2 (some (.object "RosterPay$Rule"))]
def wsL_pays_r4 : List Cond := [Cond.classLink RX3 170 "java/lang/IndexOutOfBoundsException", Cond.initialized "java/lang/IndexOutOfBoundsException", Cond.classLink RX3 56 "RosterPay$Rule", Cond.methodLink RX3 140 yJx4a65c_get_915e3, Cond.instanceMethod yJx4a65c_get_915e3, Cond.selects RJx4a65c yJx4a65c_get_915e3 yJx4a65c_get_915e3, Cond.code yJx4a65c_get_915e3 cJx4a65c_get_915e3 2 (some (.object "java/lang/Object")), Cond.methodLink RJx4a65c 118 yJ15_checkIndex_7cf53, Cond.static yJ15_checkIndex_7cf53, Cond.initialized RJ15, Cond.code yJ15_checkIndex_7cf53 cJ15_checkIndex_7cf53 2 (some .int), Cond.methodLink RJ15 105 yJ3_checkIndex_8e157, Cond.static yJ3_checkIndex_8e157, Cond.initialized RJ3, Cond.code yJ3_checkIndex_8e157 cJ3_checkIndex_8e157 3 (some .int), Cond.methodLink RJx4a65c 123 yJx4a65c_elementData_915e3, Cond.instanceMethod yJx4a65c_elementData_915e3, Cond.selects RJx4a65c yJx4a65c_elementData_915e3 yJx4a65c_elementData_915e3, Cond.code yJx4a65c_elementData_915e3 cJx4a65c_elementData_915e3 2 (some (.object "java/lang/Object")), Cond.methodLink RL 25 yX3_setHoliday, Cond.instanceMethod yX3_setHoliday, Cond.selects RX3 yX3_setHoliday yX3_setHoliday, Cond.code yX3_setHoliday cX3_setHoliday 4 (some .boolean), Cond.methodLink RL 28 yX3_addWorker]
def wsL_pays_r5 : List Cond := [Cond.instanceMethod yX3_addWorker, Cond.selects RX3 yX3_addWorker yX3_addWorker, Cond.code yX3_addWorker cX3_addWorker 3 (some .int), Cond.classLink RX3 51 "java/lang/IllegalStateException", Cond.initialized "java/lang/IllegalStateException", Cond.classLink RX3 77 RX2, Cond.instantiable RX2 1, Cond.initialized RX2, Cond.methodLink RX3 79 yX2_init, Cond.instanceMethod yX2_init, Cond.code yX2_init cX2_init 2 none, Cond.methodLink RX2 1 objectInit, Cond.fieldLink RX2 7 "RosterPay$Worker" "rank" "I", Cond.methodLink RX3 61 yJx4a65c_add_9ea2d, Cond.instanceMethod yJx4a65c_add_9ea2d, Cond.selects RJx4a65c yJx4a65c_add_9ea2d yJx4a65c_add_9ea2d, Cond.code yJx4a65c_add_9ea2d cJx4a65c_add_9ea2d 2 (some .boolean), Cond.fieldLink RJx4a65c 63 "java/util/ArrayList" "modCount" "I", Cond.sameField "java/util/ArrayList" "java/util/AbstractList" "modCount" "I", Cond.methodLink RJx4a65c 131 yJx4a65c_add_72be8, Cond.instanceMethod yJx4a65c_add_72be8, Cond.selects RJx4a65c yJx4a65c_add_72be8 yJx4a65c_add_72be8, Cond.code yJx4a65c_add_72be8 cJx4a65c_add_72be8 4 none, Cond.methodLink RJx4a65c 129 yJx4a65c_grow_d5877]
def wsL_pays_r6 : List Cond := [Cond.instanceMethod yJx4a65c_grow_d5877, Cond.selects RJx4a65c yJx4a65c_grow_d5877 yJx4a65c_grow_d5877, Cond.code yJx4a65c_grow_d5877 cJx4a65c_grow_d5877 1 (some (.array (.object "java/lang/Object"))), Cond.methodLink RJx4a65c 69 yJx4a65c_grow_92f84, Cond.instanceMethod yJx4a65c_grow_92f84, Cond.selects RJx4a65c yJx4a65c_grow_92f84 yJx4a65c_grow_92f84, Cond.code yJx4a65c_grow_92f84 cJx4a65c_grow_92f84 4 (some (.array (.object "java/lang/Object"))), Cond.methodLink RJx4a65c 79 Lib.Math.max.name, Cond.static Lib.Math.max.name, Cond.initialized "java/lang/Math", Cond.code Lib.Math.max.name Lib.Math.max.code 2 (some .int), Cond.classLink RJx4a65c 7 "java/lang/Object", Cond.methodLink RJx4a65c 73 yJ8_newLength_cabcc, Cond.static yJ8_newLength_cabcc, Cond.initialized RJ8, Cond.code yJ8_newLength_cabcc cJ8_newLength_cabcc 4 (some .int), Cond.methodLink RJ8 194 Lib.Math.max.name, Cond.constant RJ8 200 (2147483639), Cond.methodLink RJ8 201 yJ8_hugeLength_7cf53, Cond.static yJ8_hugeLength_7cf53, Cond.code yJ8_hugeLength_7cf53 cJ8_hugeLength_7cf53 3 (some .int), Cond.methodLink RJx4a65c 66 yJ7_copyOf_1904c, Cond.static yJ7_copyOf_1904c, Cond.code yJ7_copyOf_1904c cJ7_copyOf_1904c 2 (some (.array (.object "java/lang/Object")))]
def wsL_pays_r7 : List Cond := [Cond.methodLink RJ7 86 ⟨"java/lang/Object", "getClass", "()Ljava/lang/Class;"⟩, Cond.selects "[Ljava/lang/Object;" ⟨"java/lang/Object", "getClass", "()Ljava/lang/Class;"⟩ ⟨"java/lang/Object", "getClass", "()Ljava/lang/Class;"⟩, Cond.instanceMethod ⟨"java/lang/Object", "getClass", "()Ljava/lang/Class;"⟩, Cond.native ⟨"java/lang/Object", "getClass", "()Ljava/lang/Class;"⟩, Cond.methodLink RJ7 300 yJ7_copyOf_6403c, Cond.static yJ7_copyOf_6403c, Cond.code yJ7_copyOf_6403c cJ7_copyOf_6403c 4 (some (.array (.object "java/lang/Object"))), Cond.classLink RJ7 110 "[Ljava/lang/Object;", Cond.classLink RJ7 2 "java/lang/Object", Cond.methodLink RJ7 304 Lib.Math.min.name, Cond.static Lib.Math.min.name, Cond.code Lib.Math.min.name Lib.Math.min.code 2 (some .int), Cond.methodLink RJ7 150 arraycopyName, Cond.native arraycopyName, Cond.static arraycopyName, Cond.initialized "java/lang/System", Cond.methodLink RL 32 yX3_setRank, Cond.instanceMethod yX3_setRank, Cond.selects RX3 yX3_setRank yX3_setRank, Cond.code yX3_setRank cX3_setRank 5 (some .int), Cond.fieldLink RX3 86 "RosterPay$Worker" "rank" "I", Cond.methodLink RX3 82 yX3_findWorker, Cond.instanceMethod yX3_findWorker, Cond.selects RX3 yX3_findWorker yX3_findWorker]
def wsL_pays_r8 : List Cond := [Cond.code yX3_findWorker cX3_findWorker 2 (some (.object "RosterPay$Worker")), Cond.classLink RX3 77 "RosterPay$Worker", Cond.methodLink RL 35 yX3_addShift, Cond.instanceMethod yX3_addShift, Cond.selects RX3 yX3_addShift yX3_addShift, Cond.code yX3_addShift cX3_addShift 8 (some .int), Cond.classLink RX3 96 RX1, Cond.instantiable RX1 5, Cond.initialized RX1, Cond.methodLink RX3 90 yX3_overlapsAnother, Cond.instanceMethod yX3_overlapsAnother, Cond.selects RX3 yX3_overlapsAnother yX3_overlapsAnother, Cond.code yX3_overlapsAnother cX3_overlapsAnother 4 (some .boolean), Cond.methodLink RX3 204 yX3_workedBetween, Cond.instanceMethod yX3_workedBetween, Cond.selects RX3 yX3_workedBetween yX3_workedBetween, Cond.code yX3_workedBetween cX3_workedBetween 7 (some .int), Cond.classLink RX3 96 "RosterPay$Shift", Cond.fieldLink RX3 148 "RosterPay$Shift" "worker" "LRosterPay$Worker;", Cond.fieldLink RX3 113 "RosterPay$Shift" "isCancelled" "Z", Cond.methodLink RX3 207 yX1_ownBetween, Cond.instanceMethod yX1_ownBetween, Cond.selects RX1 yX1_ownBetween yX1_ownBetween, Cond.code yX1_ownBetween cX1_ownBetween 3 (some .int)]
def wsL_pays_r9 : List Cond := [Cond.fieldLink RX1 15 "RosterPay$Shift" "start" "I", Cond.fieldLink RX1 19 "RosterPay$Shift" "quarters" "I", Cond.methodLink RX1 39 Lib.Math.min.name, Cond.methodLink RX1 29 Lib.Math.max.name, Cond.methodLink RX3 98 yX1_init, Cond.instanceMethod yX1_init, Cond.code yX1_init cX1_init 4 none, Cond.methodLink RX1 3 objectInit, Cond.fieldLink RX1 9 "RosterPay$Shift" "worker" "LRosterPay$Worker;", Cond.fieldLink RX1 22 "RosterPay$Shift" "breaksTaken" "I", Cond.fieldLink RX1 25 "RosterPay$Shift" "isCancelled" "Z", Cond.methodLink RL 39 yX3_cancel, Cond.instanceMethod yX3_cancel, Cond.selects RX3 yX3_cancel yX3_cancel, Cond.code yX3_cancel cX3_cancel 4 (some .int), Cond.methodLink RX3 101 yX3_findShift, Cond.instanceMethod yX3_findShift, Cond.selects RX3 yX3_findShift yX3_findShift, Cond.code yX3_findShift cX3_findShift 2 (some (.object "RosterPay$Shift")), Cond.methodLink RX3 105 yX3_checkNotCancelled, Cond.static yX3_checkNotCancelled, Cond.code yX3_checkNotCancelled cX3_checkNotCancelled 1 none, Cond.methodLink RX3 109 yX3_payFor, Cond.instanceMethod yX3_payFor]
def wsL_pays_r10 : List Cond := [Cond.selects RX3 yX3_payFor yX3_payFor, Cond.code yX3_payFor cX3_payFor 5 (some .int), Cond.methodLink RX3 198 yX3_baseOf, Cond.instanceMethod yX3_baseOf, Cond.selects RX3 yX3_baseOf yX3_baseOf, Cond.code yX3_baseOf cX3_baseOf 2 (some .int), Cond.methodLink RX3 137 yX1_breaksMissed, Cond.instanceMethod yX1_breaksMissed, Cond.selects RX1 yX1_breaksMissed yX1_breaksMissed, Cond.code yX1_breaksMissed cX1_breaksMissed 1 (some .int), Cond.methodLink RX1 35 yX1_breaksOwed, Cond.instanceMethod yX1_breaksOwed, Cond.selects RX1 yX1_breaksOwed yX1_breaksOwed, Cond.code yX1_breaksOwed cX1_breaksOwed 1 (some .int), Cond.methodLink RX3 119 yX1_paidLength, Cond.instanceMethod yX1_paidLength, Cond.selects RX1 yX1_paidLength yX1_paidLength, Cond.code yX1_paidLength cX1_paidLength 1 (some .int), Cond.methodLink RX3 126 yX3_percentOf, Cond.instanceMethod yX3_percentOf, Cond.selects RX3 yX3_percentOf yX3_percentOf, Cond.code yX3_percentOf cX3_percentOf 4 (some .int), Cond.fieldLink RX3 191 "RosterPay$Rule" "percent" "I", Cond.methodLink RX3 130 yX3_decidingRule]
def wsL_pays_r11 : List Cond := [Cond.instanceMethod yX3_decidingRule, Cond.selects RX3 yX3_decidingRule yX3_decidingRule, Cond.code yX3_decidingRule cX3_decidingRule 11 (some (.object "RosterPay$Rule")), Cond.methodLink RX3 144 yX1_dayOf, Cond.instanceMethod yX1_dayOf, Cond.selects RX1 yX1_dayOf yX1_dayOf, Cond.code yX1_dayOf cX1_dayOf 2 (some .int), Cond.methodLink RX3 181 yX1_quarterOfDay, Cond.instanceMethod yX1_quarterOfDay, Cond.selects RX1 yX1_quarterOfDay yX1_quarterOfDay, Cond.code yX1_quarterOfDay cX1_quarterOfDay 2 (some .int), Cond.methodLink RX3 184 yX3_isHoliday, Cond.instanceMethod yX3_isHoliday, Cond.selects RX3 yX3_isHoliday yX3_isHoliday, Cond.code yX3_isHoliday cX3_isHoliday 2 (some .boolean), Cond.methodLink RX3 188 yX3_overtimePercent, Cond.static yX3_overtimePercent, Cond.code yX3_overtimePercent cX3_overtimePercent 1 (some .int), Cond.methodLink RX3 194 yX0_appliesTo, Cond.instanceMethod yX0_appliesTo, Cond.selects RX0 yX0_appliesTo yX0_appliesTo, Cond.initialized RX0, Cond.code yX0_appliesTo cX0_appliesTo 5 (some .boolean), Cond.fieldLink RX0 30 "RosterPay$Rule" "isOn" "Z"]
def wsL_pays_r12 : List Cond := [Cond.fieldLink RX0 24 "RosterPay$Rule" "ranks" "I", Cond.fieldLink RX0 18 "RosterPay$Rule" "from" "I", Cond.fieldLink RX0 21 "RosterPay$Rule" "to" "I", Cond.methodLink RX0 34 yX0_hasBit, Cond.static yX0_hasBit, Cond.code yX0_hasBit cX0_hasBit 2 (some .boolean), Cond.methodLink RX0 38 yX0_isForDay, Cond.instanceMethod yX0_isForDay, Cond.selects RX0 yX0_isForDay yX0_isForDay, Cond.code yX0_isForDay cX0_isForDay 3 (some .boolean), Cond.fieldLink RX0 15 "RosterPay$Rule" "weekdays" "I", Cond.methodLink RX3 201 yX3_amount, Cond.static yX3_amount, Cond.code yX3_amount cX3_amount 2 (some .int), Cond.methodLink RL 42 yX3_takeBreaks, Cond.instanceMethod yX3_takeBreaks, Cond.selects RX3 yX3_takeBreaks yX3_takeBreaks, Cond.code yX3_takeBreaks cX3_takeBreaks 5 (some .int), Cond.fieldLink RX3 116 "RosterPay$Shift" "breaksTaken" "I", Cond.methodLink RL 45 yX3_paidQuarters, Cond.instanceMethod yX3_paidQuarters, Cond.selects RX3 yX3_paidQuarters yX3_paidQuarters, Cond.code yX3_paidQuarters cX3_paidQuarters 2 (some .int), Cond.methodLink RL 48 yX3_percentAt]
def wsL_pays_r13 : List Cond := [Cond.instanceMethod yX3_percentAt, Cond.selects RX3 yX3_percentAt yX3_percentAt, Cond.code yX3_percentAt cX3_percentAt 4 (some .int), Cond.methodLink RX3 122 yX3_checkPaidQuarter, Cond.static yX3_checkPaidQuarter, Cond.code yX3_checkPaidQuarter cX3_checkPaidQuarter 2 none, Cond.methodLink RL 51 yX3_reasonAt, Cond.instanceMethod yX3_reasonAt, Cond.selects RX3 yX3_reasonAt yX3_reasonAt, Cond.code yX3_reasonAt cX3_reasonAt 5 (some .int), Cond.fieldLink RX3 134 "RosterPay$Rule" "number" "I", Cond.methodLink RL 54 yX3_missed, Cond.instanceMethod yX3_missed, Cond.selects RX3 yX3_missed yX3_missed, Cond.code yX3_missed cX3_missed 2 (some .int), Cond.methodLink RL 57 yX3_pay, Cond.instanceMethod yX3_pay, Cond.selects RX3 yX3_pay yX3_pay, Cond.code yX3_pay cX3_pay 2 (some .int), Cond.methodLink RL 60 yX3_payOf, Cond.instanceMethod yX3_payOf, Cond.selects RX3 yX3_payOf yX3_payOf, Cond.code yX3_payOf cX3_payOf 9 (some .int), Cond.methodLink RL 64 yX3_paidBy]
def wsL_pays_r14 : List Cond := [Cond.instanceMethod yX3_paidBy, Cond.selects RX3 yX3_paidBy yX3_paidBy, Cond.code yX3_paidBy cX3_paidBy 5 (some .int), Cond.methodLink RX3 152 yX3_payByRule, Cond.instanceMethod yX3_payByRule, Cond.selects RX3 yX3_payByRule yX3_payByRule, Cond.code yX3_payByRule cX3_payByRule 7 (some .int), Cond.methodLink RL 67 yX3_worked, Cond.instanceMethod yX3_worked, Cond.selects RX3 yX3_worked yX3_worked, Cond.code yX3_worked cX3_worked 4 (some .int), Cond.methodLink RX3 156 yX3_workedInWeeks, Cond.instanceMethod yX3_workedInWeeks, Cond.selects RX3 yX3_workedInWeeks yX3_workedInWeeks, Cond.code yX3_workedInWeeks cX3_workedInWeeks 4 (some .int), Cond.methodLink RL 70 yX3_excess, Cond.instanceMethod yX3_excess, Cond.selects RX3 yX3_excess yX3_excess, Cond.code yX3_excess cX3_excess 5 (some .int), Cond.methodLink RX3 160 Lib.Math.max.name, Cond.methodLink RL 90 yL_refuses, Cond.static yL_refuses, Cond.code yL_refuses cL_refuses 16 (some .boolean), Cond.constant RL 79 (2147483647)]
def wsL_pays_r15 : List Cond := [Cond.methodLink RL 86 yL_rule, Cond.static yL_rule, Cond.codeWith yL_rule cL_rule 7 (some .int) [(0, 11, 12, 13), (0, 11, 17, 15)], Cond.methodLink RL 7 yX3_addRule, Cond.instanceMethod yX3_addRule, Cond.selects RX3 yX3_addRule yX3_addRule, Cond.code yX3_addRule cX3_addRule 7 (some .int), Cond.classLink RX3 56 RX0, Cond.instantiable RX0 7, Cond.methodLink RX3 58 yX0_init, Cond.instanceMethod yX0_init, Cond.code yX0_init cX0_init 7 none, Cond.methodLink RX0 3 objectInit, Cond.fieldLink RX0 9 "RosterPay$Rule" "number" "I", Cond.fieldLink RX0 27 "RosterPay$Rule" "percent" "I", Cond.methodLink RL 94 yL_at, Cond.static yL_at, Cond.code yL_at cL_at 5 (some .boolean)]
def wsL_pays : List Cond := .code yL_pays cL_pays 1 (some .boolean) :: ((wsL_pays_r1 ++ (wsL_pays_r2 ++ (wsL_pays_r3 ++ (wsL_pays_r4 ++ (wsL_pays_r5 ++ (wsL_pays_r6 ++ (wsL_pays_r7 ++ (wsL_pays_r8 ++ (wsL_pays_r9 ++ (wsL_pays_r10 ++ (wsL_pays_r11 ++ (wsL_pays_r12 ++ (wsL_pays_r13 ++ (wsL_pays_r14 ++ wsL_pays_r15)))))))))))))) ++ wsX30 ++ wsJx4a65c0 ++ wsX00 ++ wsX20 ++ wsX10 ++ (vx_atS RX3 40 "java/lang/IllegalArgumentException" ["java/lang/RuntimeException", "java/lang/Exception"]).filter goodWord ++ (vx_atS RX3 174 "java/lang/IndexOutOfBoundsException" ["java/lang/RuntimeException", "java/lang/Exception"]).filter goodWord ++ (vx_atS RX3 55 "java/lang/IllegalStateException" ["java/lang/RuntimeException", "java/lang/Exception"]).filter goodWord)
def wsL_most_r1 : List Cond := [Cond.methodLink RL 80 yL_act, Cond.static yL_act, Cond.initialized RL, Cond.codeWith yL_act cL_act 7 (some .int) [(0, 273, 274, 73), (0, 273, 279, 13), (0, 273, 284, 15)], Cond.classLink RL 73 "java/lang/IndexOutOfBoundsException", Cond.classLink RL 13 "java/lang/IllegalArgumentException", Cond.classLink RL 15 "java/lang/IllegalStateException", Cond.methodLink RL 17 yX3_setBase, Cond.instanceMethod yX3_setBase, Cond.selects RX3 yX3_setBase yX3_setBase, Cond.initialized RX3, Cond.code yX3_setBase cX3_setBase 4 (some .int), Cond.classLink RX3 36 "java/lang/IllegalArgumentException", Cond.initialized "java/lang/IllegalArgumentException", Cond.fieldLink RX3 9 "RosterPay" "bases" "[I", Cond.methodLink RX3 43 yX3_checkArgument, Cond.static yX3_checkArgument, Cond.code yX3_checkArgument cX3_checkArgument 3 none, Cond.methodLink RL 21 yX3_setRule, Cond.instanceMethod yX3_setRule, Cond.selects RX3 yX3_setRule yX3_setRule, Cond.code yX3_setRule cX3_setRule 5 (some .boolean), Cond.fieldLink RX3 69 "RosterPay$Rule" "isOn" "Z", Cond.methodLink RX3 65 yX3_findRule]
def wsL_most_r2 : List Cond := [Cond.instanceMethod yX3_findRule, Cond.selects RX3 yX3_findRule yX3_findRule, Cond.code yX3_findRule cX3_findRule 2 (some (.object "RosterPay$Rule")), Cond.classLink RX3 170 "java/lang/IndexOutOfBoundsException", Cond.initialized "java/lang/IndexOutOfBoundsException", Cond.fieldLink RX3 26 "RosterPay" "rules" "Ljava/util/ArrayList;", Cond.classLink RX3 56 "RosterPay$Rule", Cond.methodLink RX3 47 yJx4a65c_size_8abf5, Cond.instanceMethod yJx4a65c_size_8abf5, Cond.selects RJx4a65c yJx4a65c_size_8abf5 yJx4a65c_size_8abf5, Cond.initialized RJx4a65c, Cond.code yJx4a65c_size_8abf5 cJx4a65c_size_8abf5 1 (some .int), Cond.fieldLink RJx4a65c 48 "java/util/ArrayList" "size" "I", Cond.methodLink RX3 140 yJx4a65c_get_915e3, Cond.instanceMethod yJx4a65c_get_915e3, Cond.selects RJx4a65c yJx4a65c_get_915e3 yJx4a65c_get_915e3, Cond.code yJx4a65c_get_915e3 cJx4a65c_get_915e3 2 (some (.object "java/lang/Object")), Cond.methodLink RJx4a65c 118 yJ15_checkIndex_7cf53, Cond.static yJ15_checkIndex_7cf53, Cond.initialized RJ15, Cond.code yJ15_checkIndex_7cf53 cJ15_checkIndex_7cf53 2 (some .int), Cond.methodLink RJ15 105 yJ3_checkIndex_8e157, Cond.static yJ3_checkIndex_8e157, Cond.initialized RJ3]
def wsL_most_r3 : List Cond := [Cond.code yJ3_checkIndex_8e157 cJ3_checkIndex_8e157 3 (some .int), Cond.methodLink RJx4a65c 123 yJx4a65c_elementData_915e3, Cond.instanceMethod yJx4a65c_elementData_915e3, Cond.selects RJx4a65c yJx4a65c_elementData_915e3 yJx4a65c_elementData_915e3, Cond.code yJx4a65c_elementData_915e3 cJx4a65c_elementData_915e3 2 (some (.object "java/lang/Object")), Cond.fieldLink RJx4a65c 9 "java/util/ArrayList" "elementData" "[Ljava/lang/Object;", Cond.methodLink RL 25 yX3_setHoliday, Cond.instanceMethod yX3_setHoliday, Cond.selects RX3 yX3_setHoliday yX3_setHoliday, Cond.code yX3_setHoliday cX3_setHoliday 4 (some .boolean), Cond.fieldLink RX3 19 "RosterPay" "holidays" "[Z", Cond.methodLink RL 28 yX3_addWorker, Cond.instanceMethod yX3_addWorker, Cond.selects RX3 yX3_addWorker yX3_addWorker, Cond.code yX3_addWorker cX3_addWorker 3 (some .int), Cond.classLink RX3 51 "java/lang/IllegalStateException", Cond.initialized "java/lang/IllegalStateException", Cond.fieldLink RX3 30 "RosterPay" "workers" "Ljava/util/ArrayList;", Cond.classLink RX3 77 RX2, Cond.instantiable RX2 1, Cond.initialized RX2, Cond.methodLink RX3 79 yX2_init, Cond.instanceMethod yX2_init, Cond.code yX2_init cX2_init 2 none]
def wsL_most_r4 : List Cond := [Cond.methodLink RX2 1 objectInit, Cond.instanceMethod objectInit, Cond.code objectInit ⟨#[0xb1]⟩ 1 none, Cond.fieldLink RX2 7 "RosterPay$Worker" "rank" "I", Cond.methodLink RX3 61 yJx4a65c_add_9ea2d, Cond.instanceMethod yJx4a65c_add_9ea2d, Cond.selects RJx4a65c yJx4a65c_add_9ea2d yJx4a65c_add_9ea2d, Cond.code yJx4a65c_add_9ea2d cJx4a65c_add_9ea2d 2 (some .boolean), Cond.fieldLink RJx4a65c 63 "java/util/ArrayList" "modCount" "I", Cond.sameField "java/util/ArrayList" "java/util/AbstractList" "modCount" "I", Cond.methodLink RJx4a65c 131 yJx4a65c_add_72be8, Cond.instanceMethod yJx4a65c_add_72be8, Cond.selects RJx4a65c yJx4a65c_add_72be8 yJx4a65c_add_72be8, Cond.code yJx4a65c_add_72be8 cJx4a65c_add_72be8 4 none, Cond.methodLink RJx4a65c 129 yJx4a65c_grow_d5877, Cond.instanceMethod yJx4a65c_grow_d5877, Cond.selects RJx4a65c yJx4a65c_grow_d5877 yJx4a65c_grow_d5877, Cond.code yJx4a65c_grow_d5877 cJx4a65c_grow_d5877 1 (some (.array (.object "java/lang/Object"))), Cond.methodLink RJx4a65c 69 yJx4a65c_grow_92f84, Cond.instanceMethod yJx4a65c_grow_92f84, Cond.selects RJx4a65c yJx4a65c_grow_92f84 yJx4a65c_grow_92f84, Cond.code yJx4a65c_grow_92f84 cJx4a65c_grow_92f84 4 (some (.array (.object "java/lang/Object"))), Cond.fieldLink RJx4a65c 39 "java/util/ArrayList" "DEFAULTCAPACITY_EMPTY_ELEMENTDATA" "[Ljava/lang/Object;", Cond.methodLink RJx4a65c 79 Lib.Math.max.name]
def wsL_most_r5 : List Cond := [Cond.static Lib.Math.max.name, Cond.initialized "java/lang/Math", Cond.code Lib.Math.max.name Lib.Math.max.code 2 (some .int), Cond.classLink RJx4a65c 7 "java/lang/Object", Cond.methodLink RJx4a65c 73 yJ8_newLength_cabcc, Cond.static yJ8_newLength_cabcc, Cond.initialized RJ8, Cond.code yJ8_newLength_cabcc cJ8_newLength_cabcc 4 (some .int), Cond.methodLink RJ8 194 Lib.Math.max.name, Cond.constant RJ8 200 (2147483639), Cond.methodLink RJ8 201 yJ8_hugeLength_7cf53, Cond.static yJ8_hugeLength_7cf53, Cond.code yJ8_hugeLength_7cf53 cJ8_hugeLength_7cf53 3 (some .int), Cond.methodLink RJx4a65c 66 yJ7_copyOf_1904c, Cond.static yJ7_copyOf_1904c, Cond.initialized RJ7, Cond.code yJ7_copyOf_1904c cJ7_copyOf_1904c 2 (some (.array (.object "java/lang/Object"))), Cond.methodLink RJ7 86 ⟨"java/lang/Object", "getClass", "()Ljava/lang/Class;"⟩, Cond.selects "[Ljava/lang/Object;" ⟨"java/lang/Object", "getClass", "()Ljava/lang/Class;"⟩ ⟨"java/lang/Object", "getClass", "()Ljava/lang/Class;"⟩, Cond.instanceMethod ⟨"java/lang/Object", "getClass", "()Ljava/lang/Class;"⟩, Cond.native ⟨"java/lang/Object", "getClass", "()Ljava/lang/Class;"⟩, Cond.methodLink RJ7 300 yJ7_copyOf_6403c, Cond.static yJ7_copyOf_6403c, Cond.code yJ7_copyOf_6403c cJ7_copyOf_6403c 4 (some (.array (.object "java/lang/Object")))]
def wsL_most_r6 : List Cond := [Cond.classLink RJ7 110 "[Ljava/lang/Object;", Cond.classLink RJ7 2 "java/lang/Object", Cond.methodLink RJ7 304 Lib.Math.min.name, Cond.static Lib.Math.min.name, Cond.code Lib.Math.min.name Lib.Math.min.code 2 (some .int), Cond.methodLink RJ7 150 arraycopyName, Cond.native arraycopyName, Cond.static arraycopyName, Cond.initialized "java/lang/System", Cond.methodLink RL 32 yX3_setRank, Cond.instanceMethod yX3_setRank, Cond.selects RX3 yX3_setRank yX3_setRank, Cond.code yX3_setRank cX3_setRank 5 (some .int), Cond.fieldLink RX3 86 "RosterPay$Worker" "rank" "I", Cond.methodLink RX3 82 yX3_findWorker, Cond.instanceMethod yX3_findWorker, Cond.selects RX3 yX3_findWorker yX3_findWorker, Cond.code yX3_findWorker cX3_findWorker 2 (some (.object "RosterPay$Worker")), Cond.classLink RX3 77 "RosterPay$Worker", Cond.methodLink RL 35 yX3_addShift, Cond.instanceMethod yX3_addShift, Cond.selects RX3 yX3_addShift yX3_addShift, Cond.code yX3_addShift cX3_addShift 8 (some .int), Cond.fieldLink RX3 33 "RosterPay" "roster" "Ljava/util/ArrayList;"]
def wsL_most_r7 : List Cond := [Cond.classLink RX3 96 RX1, Cond.instantiable RX1 5, Cond.initialized RX1, Cond.methodLink RX3 90 yX3_overlapsAnother, Cond.instanceMethod yX3_overlapsAnother, Cond.selects RX3 yX3_overlapsAnother yX3_overlapsAnother, Cond.code yX3_overlapsAnother cX3_overlapsAnother 4 (some .boolean), Cond.methodLink RX3 204 yX3_workedBetween, Cond.instanceMethod yX3_workedBetween, Cond.selects RX3 yX3_workedBetween yX3_workedBetween, Cond.code yX3_workedBetween cX3_workedBetween 7 (some .int), Cond.classLink RX3 96 "RosterPay$Shift", Cond.fieldLink RX3 148 "RosterPay$Shift" "worker" "LRosterPay$Worker;", Cond.fieldLink RX3 113 "RosterPay$Shift" "isCancelled" "Z", Cond.methodLink RX3 207 yX1_ownBetween, Cond.instanceMethod yX1_ownBetween, Cond.selects RX1 yX1_ownBetween yX1_ownBetween, Cond.code yX1_ownBetween cX1_ownBetween 3 (some .int), Cond.fieldLink RX1 15 "RosterPay$Shift" "start" "I", Cond.fieldLink RX1 19 "RosterPay$Shift" "quarters" "I", Cond.methodLink RX1 39 Lib.Math.min.name, Cond.methodLink RX1 29 Lib.Math.max.name, Cond.methodLink RX3 98 yX1_init, Cond.instanceMethod yX1_init]
def wsL_most_r8 : List Cond := [Cond.code yX1_init cX1_init 4 none, Cond.methodLink RX1 3 objectInit, Cond.fieldLink RX1 9 "RosterPay$Shift" "worker" "LRosterPay$Worker;", Cond.fieldLink RX1 22 "RosterPay$Shift" "breaksTaken" "I", Cond.fieldLink RX1 25 "RosterPay$Shift" "isCancelled" "Z", Cond.methodLink RL 39 yX3_cancel, Cond.instanceMethod yX3_cancel, Cond.selects RX3 yX3_cancel yX3_cancel, Cond.code yX3_cancel cX3_cancel 4 (some .int), Cond.methodLink RX3 101 yX3_findShift, Cond.instanceMethod yX3_findShift, Cond.selects RX3 yX3_findShift yX3_findShift, Cond.code yX3_findShift cX3_findShift 2 (some (.object "RosterPay$Shift")), Cond.methodLink RX3 105 yX3_checkNotCancelled, Cond.static yX3_checkNotCancelled, Cond.code yX3_checkNotCancelled cX3_checkNotCancelled 1 none, Cond.methodLink RX3 109 yX3_payFor, Cond.instanceMethod yX3_payFor, Cond.selects RX3 yX3_payFor yX3_payFor, Cond.code yX3_payFor cX3_payFor 5 (some .int), Cond.methodLink RX3 198 yX3_baseOf, Cond.instanceMethod yX3_baseOf, Cond.selects RX3 yX3_baseOf yX3_baseOf, Cond.code yX3_baseOf cX3_baseOf 2 (some .int)]
def wsL_most_r9 : List Cond := [Cond.methodLink RX3 137 yX1_breaksMissed, Cond.instanceMethod yX1_breaksMissed, Cond.selects RX1 yX1_breaksMissed yX1_breaksMissed, Cond.code yX1_breaksMissed cX1_breaksMissed 1 (some .int), Cond.methodLink RX1 35 yX1_breaksOwed, Cond.instanceMethod yX1_breaksOwed, Cond.selects RX1 yX1_breaksOwed yX1_breaksOwed, Cond.code yX1_breaksOwed cX1_breaksOwed 1 (some .int), Cond.methodLink RX3 119 yX1_paidLength, Cond.instanceMethod yX1_paidLength, Cond.selects RX1 yX1_paidLength yX1_paidLength, Cond.code yX1_paidLength cX1_paidLength 1 (some .int), Cond.methodLink RX3 126 yX3_percentOf, Cond.instanceMethod yX3_percentOf, Cond.selects RX3 yX3_percentOf yX3_percentOf, Cond.code yX3_percentOf cX3_percentOf 4 (some .int), Cond.fieldLink RX3 191 "RosterPay$Rule" "percent" "I", Cond.methodLink RX3 130 yX3_decidingRule, Cond.instanceMethod yX3_decidingRule, Cond.selects RX3 yX3_decidingRule yX3_decidingRule, Cond.code yX3_decidingRule cX3_decidingRule 11 (some (.object "RosterPay$Rule")), Cond.methodLink RX3 144 yX1_dayOf, Cond.instanceMethod yX1_dayOf, Cond.selects RX1 yX1_dayOf yX1_dayOf]
def wsL_most_r10 : List Cond := [Cond.code yX1_dayOf cX1_dayOf 2 (some .int), Cond.methodLink RX3 181 yX1_quarterOfDay, Cond.instanceMethod yX1_quarterOfDay, Cond.selects RX1 yX1_quarterOfDay yX1_quarterOfDay, Cond.code yX1_quarterOfDay cX1_quarterOfDay 2 (some .int), Cond.methodLink RX3 184 yX3_isHoliday, Cond.instanceMethod yX3_isHoliday, Cond.selects RX3 yX3_isHoliday yX3_isHoliday, Cond.code yX3_isHoliday cX3_isHoliday 2 (some .boolean), Cond.methodLink RX3 188 yX3_overtimePercent, Cond.static yX3_overtimePercent, Cond.code yX3_overtimePercent cX3_overtimePercent 1 (some .int), Cond.methodLink RX3 194 yX0_appliesTo, Cond.instanceMethod yX0_appliesTo, Cond.selects RX0 yX0_appliesTo yX0_appliesTo, Cond.initialized RX0, Cond.code yX0_appliesTo cX0_appliesTo 5 (some .boolean), Cond.fieldLink RX0 30 "RosterPay$Rule" "isOn" "Z", Cond.fieldLink RX0 24 "RosterPay$Rule" "ranks" "I", Cond.fieldLink RX0 18 "RosterPay$Rule" "from" "I", Cond.fieldLink RX0 21 "RosterPay$Rule" "to" "I", Cond.methodLink RX0 34 yX0_hasBit, Cond.static yX0_hasBit, Cond.code yX0_hasBit cX0_hasBit 2 (some .boolean)]
def wsL_most_r11 : List Cond := [Cond.methodLink RX0 38 yX0_isForDay, Cond.instanceMethod yX0_isForDay, Cond.selects RX0 yX0_isForDay yX0_isForDay, Cond.code yX0_isForDay cX0_isForDay 3 (some .boolean), Cond.fieldLink RX0 15 "RosterPay$Rule" "weekdays" "I", Cond.methodLink RX3 201 yX3_amount, Cond.static yX3_amount, Cond.code yX3_amount cX3_amount 2 (some .int), Cond.methodLink RL 42 yX3_takeBreaks, Cond.instanceMethod yX3_takeBreaks, Cond.selects RX3 yX3_takeBreaks yX3_takeBreaks, Cond.code yX3_takeBreaks cX3_takeBreaks 5 (some .int), Cond.fieldLink RX3 116 "RosterPay$Shift" "breaksTaken" "I", Cond.methodLink RL 45 yX3_paidQuarters, Cond.instanceMethod yX3_paidQuarters, Cond.selects RX3 yX3_paidQuarters yX3_paidQuarters, Cond.code yX3_paidQuarters cX3_paidQuarters 2 (some .int), Cond.methodLink RL 48 yX3_percentAt, Cond.instanceMethod yX3_percentAt, Cond.selects RX3 yX3_percentAt yX3_percentAt, Cond.code yX3_percentAt cX3_percentAt 4 (some .int), Cond.methodLink RX3 122 yX3_checkPaidQuarter, Cond.static yX3_checkPaidQuarter, Cond.code yX3_checkPaidQuarter cX3_checkPaidQuarter 2 none]
def wsL_most_r12 : List Cond := [Cond.methodLink RL 51 yX3_reasonAt, Cond.instanceMethod yX3_reasonAt, Cond.selects RX3 yX3_reasonAt yX3_reasonAt, Cond.code yX3_reasonAt cX3_reasonAt 5 (some .int), Cond.fieldLink RX3 134 "RosterPay$Rule" "number" "I", Cond.methodLink RL 54 yX3_missed, Cond.instanceMethod yX3_missed, Cond.selects RX3 yX3_missed yX3_missed, Cond.code yX3_missed cX3_missed 2 (some .int), Cond.methodLink RL 57 yX3_pay, Cond.instanceMethod yX3_pay, Cond.selects RX3 yX3_pay yX3_pay, Cond.code yX3_pay cX3_pay 2 (some .int), Cond.methodLink RL 60 yX3_payOf, Cond.instanceMethod yX3_payOf, Cond.selects RX3 yX3_payOf yX3_payOf, Cond.code yX3_payOf cX3_payOf 9 (some .int), Cond.methodLink RL 64 yX3_paidBy, Cond.instanceMethod yX3_paidBy, Cond.selects RX3 yX3_paidBy yX3_paidBy, Cond.code yX3_paidBy cX3_paidBy 5 (some .int), Cond.methodLink RX3 152 yX3_payByRule, Cond.instanceMethod yX3_payByRule, Cond.selects RX3 yX3_payByRule yX3_payByRule]
def wsL_most_r13 : List Cond := [Cond.code yX3_payByRule cX3_payByRule 7 (some .int), Cond.methodLink RL 67 yX3_worked, Cond.instanceMethod yX3_worked, Cond.selects RX3 yX3_worked yX3_worked, Cond.code yX3_worked cX3_worked 4 (some .int), Cond.methodLink RX3 156 yX3_workedInWeeks, Cond.instanceMethod yX3_workedInWeeks, Cond.selects RX3 yX3_workedInWeeks yX3_workedInWeeks, Cond.code yX3_workedInWeeks cX3_workedInWeeks 4 (some .int), Cond.methodLink RL 70 yX3_excess, Cond.instanceMethod yX3_excess, Cond.selects RX3 yX3_excess yX3_excess, Cond.code yX3_excess cX3_excess 5 (some .int), Cond.methodLink RX3 160 Lib.Math.max.name, Cond.methodLink RL 86 yL_rule, Cond.static yL_rule, Cond.codeWith yL_rule cL_rule 7 (some .int) [(0, 11, 12, 13), (0, 11, 17, 15)], Cond.methodLink RL 7 yX3_addRule, Cond.instanceMethod yX3_addRule, Cond.selects RX3 yX3_addRule yX3_addRule, Cond.code yX3_addRule cX3_addRule 7 (some .int), Cond.classLink RX3 56 RX0, Cond.instantiable RX0 7, Cond.methodLink RX3 58 yX0_init]
def wsL_most_r14 : List Cond := [Cond.instanceMethod yX0_init, Cond.code yX0_init cX0_init 7 none, Cond.methodLink RX0 3 objectInit, Cond.fieldLink RX0 9 "RosterPay$Rule" "number" "I", Cond.fieldLink RX0 27 "RosterPay$Rule" "percent" "I", Cond.methodLink RL 94 yL_at, Cond.static yL_at, Cond.code yL_at cL_at 5 (some .boolean), Cond.methodLink RL 90 yL_refuses, Cond.static yL_refuses, Cond.code yL_refuses cL_refuses 16 (some .boolean), Cond.constant RL 79 (2147483647), Cond.methodLink RL 75 yX3_shifts, Cond.instanceMethod yX3_shifts, Cond.selects RX3 yX3_shifts yX3_shifts, Cond.code yX3_shifts cX3_shifts 1 (some .int)]
def wsL_most : List Cond := .code yL_most cL_most 2 (some .boolean) :: ((wsL_most_r1 ++ (wsL_most_r2 ++ (wsL_most_r3 ++ (wsL_most_r4 ++ (wsL_most_r5 ++ (wsL_most_r6 ++ (wsL_most_r7 ++ (wsL_most_r8 ++ (wsL_most_r9 ++ (wsL_most_r10 ++ (wsL_most_r11 ++ (wsL_most_r12 ++ (wsL_most_r13 ++ wsL_most_r14))))))))))))) ++ wsX30 ++ wsX00 ++ wsJx4a65c0 ++ wsX20 ++ wsX10 ++ (vx_atS RX3 40 "java/lang/IllegalArgumentException" ["java/lang/RuntimeException", "java/lang/Exception"]).filter goodWord ++ (vx_atS RX3 174 "java/lang/IndexOutOfBoundsException" ["java/lang/RuntimeException", "java/lang/Exception"]).filter goodWord ++ (vx_atS RX3 55 "java/lang/IllegalStateException" ["java/lang/RuntimeException", "java/lang/Exception"]).filter goodWord)
def wsL_hours_r1 : List Cond := [Cond.classLink RL 8 RX3, Cond.instantiable RX3 5, Cond.initialized RX3, Cond.constant RL 98 (48000), Cond.methodLink RL 89 yX3_init, Cond.instanceMethod yX3_init, Cond.code yX3_init cX3_init 1 none, Cond.methodLink RX3 3 objectInit, Cond.instanceMethod objectInit, Cond.code objectInit ⟨#[0xb1]⟩ 1 none, Cond.arrayClass .int, Cond.fieldLink RX3 9 "RosterPay" "bases" "[I", Cond.arrayClass .boolean, Cond.fieldLink RX3 19 "RosterPay" "holidays" "[Z", Cond.classLink RX3 23 RJx4a65c, Cond.instantiable RJx4a65c 3, Cond.initialized RJx4a65c, Cond.fieldLink RX3 26 "RosterPay" "rules" "Ljava/util/ArrayList;", Cond.fieldLink RX3 30 "RosterPay" "workers" "Ljava/util/ArrayList;", Cond.fieldLink RX3 33 "RosterPay" "roster" "Ljava/util/ArrayList;", Cond.methodLink RX3 13 yJ7_fill_53178, Cond.static yJ7_fill_53178, Cond.initialized RJ7, Cond.code yJ7_fill_53178 cJ7_fill_53178 4 none]
def wsL_hours_r2 : List Cond := [Cond.methodLink RX3 25 yJx4a65c_init_da8c8, Cond.instanceMethod yJx4a65c_init_da8c8, Cond.code yJx4a65c_init_da8c8 cJx4a65c_init_da8c8 1 none, Cond.fieldLink RJx4a65c 39 "java/util/ArrayList" "DEFAULTCAPACITY_EMPTY_ELEMENTDATA" "[Ljava/lang/Object;", Cond.fieldLink RJx4a65c 9 "java/util/ArrayList" "elementData" "[Ljava/lang/Object;", Cond.methodLink RJx4a65c 1 yJxc12de_init_da8c8, Cond.instanceMethod yJxc12de_init_da8c8, Cond.initialized RJxc12de, Cond.code yJxc12de_init_da8c8 cJxc12de_init_da8c8 1 none, Cond.fieldLink RJxc12de 7 "java/util/AbstractList" "modCount" "I", Cond.methodLink RJxc12de 1 yJxa1e45_init_da8c8, Cond.instanceMethod yJxa1e45_init_da8c8, Cond.initialized RJxa1e45, Cond.code yJxa1e45_init_da8c8 cJxa1e45_init_da8c8 1 none, Cond.methodLink RJxa1e45 1 objectInit, Cond.methodLink RL 28 yX3_addWorker, Cond.instanceMethod yX3_addWorker, Cond.selects RX3 yX3_addWorker yX3_addWorker, Cond.code yX3_addWorker cX3_addWorker 3 (some .int), Cond.classLink RX3 51 "java/lang/IllegalStateException", Cond.initialized "java/lang/IllegalStateException", Cond.classLink RX3 77 RX2, Cond.instantiable RX2 1, Cond.initialized RX2]
def wsL_hours_r3 : List Cond := [Cond.methodLink RX3 43 yX3_checkArgument, Cond.static yX3_checkArgument, Cond.code yX3_checkArgument cX3_checkArgument 3 none, Cond.classLink RX3 36 "java/lang/IllegalArgumentException", Cond.initialized "java/lang/IllegalArgumentException", Cond.methodLink RX3 47 yJx4a65c_size_8abf5, Cond.instanceMethod yJx4a65c_size_8abf5, Cond.selects RJx4a65c yJx4a65c_size_8abf5 yJx4a65c_size_8abf5, Cond.code yJx4a65c_size_8abf5 cJx4a65c_size_8abf5 1 (some .int), Cond.fieldLink RJx4a65c 48 "java/util/ArrayList" "size" "I", Cond.methodLink RX3 79 yX2_init, Cond.instanceMethod yX2_init, Cond.code yX2_init cX2_init 2 none, Cond.methodLink RX2 1 objectInit, Cond.fieldLink RX2 7 "RosterPay$Worker" "rank" "I", Cond.methodLink RX3 61 yJx4a65c_add_9ea2d, Cond.instanceMethod yJx4a65c_add_9ea2d, Cond.selects RJx4a65c yJx4a65c_add_9ea2d yJx4a65c_add_9ea2d, Cond.code yJx4a65c_add_9ea2d cJx4a65c_add_9ea2d 2 (some .boolean), Cond.fieldLink RJx4a65c 63 "java/util/ArrayList" "modCount" "I", Cond.sameField "java/util/ArrayList" "java/util/AbstractList" "modCount" "I", Cond.methodLink RJx4a65c 131 yJx4a65c_add_72be8, Cond.instanceMethod yJx4a65c_add_72be8, Cond.selects RJx4a65c yJx4a65c_add_72be8 yJx4a65c_add_72be8]
def wsL_hours_r4 : List Cond := [Cond.code yJx4a65c_add_72be8 cJx4a65c_add_72be8 4 none, Cond.methodLink RJx4a65c 129 yJx4a65c_grow_d5877, Cond.instanceMethod yJx4a65c_grow_d5877, Cond.selects RJx4a65c yJx4a65c_grow_d5877 yJx4a65c_grow_d5877, Cond.code yJx4a65c_grow_d5877 cJx4a65c_grow_d5877 1 (some (.array (.object "java/lang/Object"))), Cond.methodLink RJx4a65c 69 yJx4a65c_grow_92f84, Cond.instanceMethod yJx4a65c_grow_92f84, Cond.selects RJx4a65c yJx4a65c_grow_92f84 yJx4a65c_grow_92f84, Cond.code yJx4a65c_grow_92f84 cJx4a65c_grow_92f84 4 (some (.array (.object "java/lang/Object"))), Cond.methodLink RJx4a65c 79 Lib.Math.max.name, Cond.static Lib.Math.max.name, Cond.initialized "java/lang/Math", Cond.code Lib.Math.max.name Lib.Math.max.code 2 (some .int), Cond.classLink RJx4a65c 7 "java/lang/Object", Cond.methodLink RJx4a65c 73 yJ8_newLength_cabcc, Cond.static yJ8_newLength_cabcc, Cond.initialized RJ8, Cond.code yJ8_newLength_cabcc cJ8_newLength_cabcc 4 (some .int), Cond.methodLink RJ8 194 Lib.Math.max.name, Cond.constant RJ8 200 (2147483639), Cond.methodLink RJ8 201 yJ8_hugeLength_7cf53, Cond.static yJ8_hugeLength_7cf53, Cond.code yJ8_hugeLength_7cf53 cJ8_hugeLength_7cf53 3 (some .int), Cond.methodLink RJx4a65c 66 yJ7_copyOf_1904c]
def wsL_hours_r5 : List Cond := [Cond.static yJ7_copyOf_1904c, Cond.code yJ7_copyOf_1904c cJ7_copyOf_1904c 2 (some (.array (.object "java/lang/Object"))), Cond.methodLink RJ7 86 ⟨"java/lang/Object", "getClass", "()Ljava/lang/Class;"⟩, Cond.selects "[Ljava/lang/Object;" ⟨"java/lang/Object", "getClass", "()Ljava/lang/Class;"⟩ ⟨"java/lang/Object", "getClass", "()Ljava/lang/Class;"⟩, Cond.instanceMethod ⟨"java/lang/Object", "getClass", "()Ljava/lang/Class;"⟩, Cond.native ⟨"java/lang/Object", "getClass", "()Ljava/lang/Class;"⟩, Cond.methodLink RJ7 300 yJ7_copyOf_6403c, Cond.static yJ7_copyOf_6403c, Cond.code yJ7_copyOf_6403c cJ7_copyOf_6403c 4 (some (.array (.object "java/lang/Object"))), Cond.classLink RJ7 110 "[Ljava/lang/Object;", Cond.classLink RJ7 2 "java/lang/Object", Cond.methodLink RJ7 304 Lib.Math.min.name, Cond.static Lib.Math.min.name, Cond.code Lib.Math.min.name Lib.Math.min.code 2 (some .int), Cond.methodLink RJ7 150 arraycopyName, Cond.native arraycopyName, Cond.static arraycopyName, Cond.initialized "java/lang/System", Cond.methodLink RL 35 yX3_addShift, Cond.instanceMethod yX3_addShift, Cond.selects RX3 yX3_addShift yX3_addShift, Cond.code yX3_addShift cX3_addShift 8 (some .int), Cond.classLink RX3 96 RX1, Cond.instantiable RX1 5]
def wsL_hours_r6 : List Cond := [Cond.initialized RX1, Cond.methodLink RX3 82 yX3_findWorker, Cond.instanceMethod yX3_findWorker, Cond.selects RX3 yX3_findWorker yX3_findWorker, Cond.code yX3_findWorker cX3_findWorker 2 (some (.object "RosterPay$Worker")), Cond.classLink RX3 170 "java/lang/IndexOutOfBoundsException", Cond.initialized "java/lang/IndexOutOfBoundsException", Cond.classLink RX3 77 "RosterPay$Worker", Cond.methodLink RX3 140 yJx4a65c_get_915e3, Cond.instanceMethod yJx4a65c_get_915e3, Cond.selects RJx4a65c yJx4a65c_get_915e3 yJx4a65c_get_915e3, Cond.code yJx4a65c_get_915e3 cJx4a65c_get_915e3 2 (some (.object "java/lang/Object")), Cond.methodLink RJx4a65c 118 yJ15_checkIndex_7cf53, Cond.static yJ15_checkIndex_7cf53, Cond.initialized RJ15, Cond.code yJ15_checkIndex_7cf53 cJ15_checkIndex_7cf53 2 (some .int), Cond.methodLink RJ15 105 yJ3_checkIndex_8e157, Cond.static yJ3_checkIndex_8e157, Cond.initialized RJ3, Cond.code yJ3_checkIndex_8e157 cJ3_checkIndex_8e157 3 (some .int), Cond.methodLink RJx4a65c 123 yJx4a65c_elementData_915e3, Cond.instanceMethod yJx4a65c_elementData_915e3, Cond.selects RJx4a65c yJx4a65c_elementData_915e3 yJx4a65c_elementData_915e3, Cond.code yJx4a65c_elementData_915e3 cJx4a65c_elementData_915e3 2 (some (.object "java/lang/Object"))]
def wsL_hours_r7 : List Cond := [Cond.methodLink RX3 90 yX3_overlapsAnother, Cond.instanceMethod yX3_overlapsAnother, Cond.selects RX3 yX3_overlapsAnother yX3_overlapsAnother, Cond.code yX3_overlapsAnother cX3_overlapsAnother 4 (some .boolean), Cond.methodLink RX3 204 yX3_workedBetween, Cond.instanceMethod yX3_workedBetween, Cond.selects RX3 yX3_workedBetween yX3_workedBetween, Cond.code yX3_workedBetween cX3_workedBetween 7 (some .int), Cond.classLink RX3 96 "RosterPay$Shift", Cond.fieldLink RX3 148 "RosterPay$Shift" "worker" "LRosterPay$Worker;", Cond.fieldLink RX3 113 "RosterPay$Shift" "isCancelled" "Z", Cond.methodLink RX3 207 yX1_ownBetween, Cond.instanceMethod yX1_ownBetween, Cond.selects RX1 yX1_ownBetween yX1_ownBetween, Cond.code yX1_ownBetween cX1_ownBetween 3 (some .int), Cond.fieldLink RX1 15 "RosterPay$Shift" "start" "I", Cond.fieldLink RX1 19 "RosterPay$Shift" "quarters" "I", Cond.methodLink RX1 39 Lib.Math.min.name, Cond.methodLink RX1 29 Lib.Math.max.name, Cond.methodLink RX3 98 yX1_init, Cond.instanceMethod yX1_init, Cond.code yX1_init cX1_init 4 none, Cond.methodLink RX1 3 objectInit, Cond.fieldLink RX1 9 "RosterPay$Shift" "worker" "LRosterPay$Worker;"]
def wsL_hours_r8 : List Cond := [Cond.fieldLink RX1 22 "RosterPay$Shift" "breaksTaken" "I", Cond.fieldLink RX1 25 "RosterPay$Shift" "isCancelled" "Z", Cond.methodLink RL 80 yL_act, Cond.static yL_act, Cond.initialized RL, Cond.codeWith yL_act cL_act 7 (some .int) [(0, 273, 274, 73), (0, 273, 279, 13), (0, 273, 284, 15)], Cond.classLink RL 73 "java/lang/IndexOutOfBoundsException", Cond.classLink RL 13 "java/lang/IllegalArgumentException", Cond.classLink RL 15 "java/lang/IllegalStateException", Cond.methodLink RL 17 yX3_setBase, Cond.instanceMethod yX3_setBase, Cond.selects RX3 yX3_setBase yX3_setBase, Cond.code yX3_setBase cX3_setBase 4 (some .int), Cond.methodLink RL 21 yX3_setRule, Cond.instanceMethod yX3_setRule, Cond.selects RX3 yX3_setRule yX3_setRule, Cond.code yX3_setRule cX3_setRule 5 (some .boolean), Cond.fieldLink RX3 69 "RosterPay$Rule" "isOn" "Z", Cond.methodLink RX3 65 yX3_findRule, Cond.instanceMethod yX3_findRule, Cond.selects RX3 yX3_findRule yX3_findRule, Cond.code yX3_findRule cX3_findRule 2 (some (.object "RosterPay$Rule")), Cond.classLink RX3 56 "RosterPay$Rule", Cond.methodLink RL 25 yX3_setHoliday]
def wsL_hours_r9 : List Cond := [Cond.instanceMethod yX3_setHoliday, Cond.selects RX3 yX3_setHoliday yX3_setHoliday, Cond.code yX3_setHoliday cX3_setHoliday 4 (some .boolean), Cond.methodLink RL 32 yX3_setRank, Cond.instanceMethod yX3_setRank, Cond.selects RX3 yX3_setRank yX3_setRank, Cond.code yX3_setRank cX3_setRank 5 (some .int), Cond.fieldLink RX3 86 "RosterPay$Worker" "rank" "I", Cond.methodLink RL 39 yX3_cancel, Cond.instanceMethod yX3_cancel, Cond.selects RX3 yX3_cancel yX3_cancel, Cond.code yX3_cancel cX3_cancel 4 (some .int), Cond.methodLink RX3 101 yX3_findShift, Cond.instanceMethod yX3_findShift, Cond.selects RX3 yX3_findShift yX3_findShift, Cond.code yX3_findShift cX3_findShift 2 (some (.object "RosterPay$Shift")), Cond.methodLink RX3 105 yX3_checkNotCancelled, Cond.static yX3_checkNotCancelled, Cond.code yX3_checkNotCancelled cX3_checkNotCancelled 1 none, Cond.methodLink RX3 109 yX3_payFor, Cond.instanceMethod yX3_payFor, Cond.selects RX3 yX3_payFor yX3_payFor, Cond.code yX3_payFor cX3_payFor 5 (some .int), Cond.methodLink RX3 198 yX3_baseOf]
def wsL_hours_r10 : List Cond := [Cond.instanceMethod yX3_baseOf, Cond.selects RX3 yX3_baseOf yX3_baseOf, Cond.code yX3_baseOf cX3_baseOf 2 (some .int), Cond.methodLink RX3 137 yX1_breaksMissed, Cond.instanceMethod yX1_breaksMissed, Cond.selects RX1 yX1_breaksMissed yX1_breaksMissed, Cond.code yX1_breaksMissed cX1_breaksMissed 1 (some .int), Cond.methodLink RX1 35 yX1_breaksOwed, Cond.instanceMethod yX1_breaksOwed, Cond.selects RX1 yX1_breaksOwed yX1_breaksOwed, Cond.code yX1_breaksOwed cX1_breaksOwed 1 (some .int), Cond.methodLink RX3 119 yX1_paidLength, Cond.instanceMethod yX1_paidLength, Cond.selects RX1 yX1_paidLength yX1_paidLength, Cond.code yX1_paidLength cX1_paidLength 1 (some .int), Cond.methodLink RX3 126 yX3_percentOf, Cond.instanceMethod yX3_percentOf, Cond.selects RX3 yX3_percentOf yX3_percentOf, Cond.code yX3_percentOf cX3_percentOf 4 (some .int), Cond.fieldLink RX3 191 "RosterPay$Rule" "percent" "I", Cond.methodLink RX3 130 yX3_decidingRule, Cond.instanceMethod yX3_decidingRule, Cond.selects RX3 yX3_decidingRule yX3_decidingRule, Cond.code yX3_decidingRule cX3_decidingRule 11 (some (.object "RosterPay$Rule"))]
def wsL_hours_r11 : List Cond := [Cond.methodLink RX3 144 yX1_dayOf, Cond.instanceMethod yX1_dayOf, Cond.selects RX1 yX1_dayOf yX1_dayOf, Cond.code yX1_dayOf cX1_dayOf 2 (some .int), Cond.methodLink RX3 181 yX1_quarterOfDay, Cond.instanceMethod yX1_quarterOfDay, Cond.selects RX1 yX1_quarterOfDay yX1_quarterOfDay, Cond.code yX1_quarterOfDay cX1_quarterOfDay 2 (some .int), Cond.methodLink RX3 184 yX3_isHoliday, Cond.instanceMethod yX3_isHoliday, Cond.selects RX3 yX3_isHoliday yX3_isHoliday, Cond.code yX3_isHoliday cX3_isHoliday 2 (some .boolean), Cond.methodLink RX3 188 yX3_overtimePercent, Cond.static yX3_overtimePercent, Cond.code yX3_overtimePercent cX3_overtimePercent 1 (some .int), Cond.methodLink RX3 194 yX0_appliesTo, Cond.instanceMethod yX0_appliesTo, Cond.selects RX0 yX0_appliesTo yX0_appliesTo, Cond.initialized RX0, Cond.code yX0_appliesTo cX0_appliesTo 5 (some .boolean), Cond.fieldLink RX0 30 "RosterPay$Rule" "isOn" "Z", Cond.fieldLink RX0 24 "RosterPay$Rule" "ranks" "I", Cond.fieldLink RX0 18 "RosterPay$Rule" "from" "I", Cond.fieldLink RX0 21 "RosterPay$Rule" "to" "I"]
def wsL_hours_r12 : List Cond := [Cond.methodLink RX0 34 yX0_hasBit, Cond.static yX0_hasBit, Cond.code yX0_hasBit cX0_hasBit 2 (some .boolean), Cond.methodLink RX0 38 yX0_isForDay, Cond.instanceMethod yX0_isForDay, Cond.selects RX0 yX0_isForDay yX0_isForDay, Cond.code yX0_isForDay cX0_isForDay 3 (some .boolean), Cond.fieldLink RX0 15 "RosterPay$Rule" "weekdays" "I", Cond.methodLink RX3 201 yX3_amount, Cond.static yX3_amount, Cond.code yX3_amount cX3_amount 2 (some .int), Cond.methodLink RL 42 yX3_takeBreaks, Cond.instanceMethod yX3_takeBreaks, Cond.selects RX3 yX3_takeBreaks yX3_takeBreaks, Cond.code yX3_takeBreaks cX3_takeBreaks 5 (some .int), Cond.fieldLink RX3 116 "RosterPay$Shift" "breaksTaken" "I", Cond.methodLink RL 45 yX3_paidQuarters, Cond.instanceMethod yX3_paidQuarters, Cond.selects RX3 yX3_paidQuarters yX3_paidQuarters, Cond.code yX3_paidQuarters cX3_paidQuarters 2 (some .int), Cond.methodLink RL 48 yX3_percentAt, Cond.instanceMethod yX3_percentAt, Cond.selects RX3 yX3_percentAt yX3_percentAt, Cond.code yX3_percentAt cX3_percentAt 4 (some .int)]
def wsL_hours_r13 : List Cond := [Cond.methodLink RX3 122 yX3_checkPaidQuarter, Cond.static yX3_checkPaidQuarter, Cond.code yX3_checkPaidQuarter cX3_checkPaidQuarter 2 none, Cond.methodLink RL 51 yX3_reasonAt, Cond.instanceMethod yX3_reasonAt, Cond.selects RX3 yX3_reasonAt yX3_reasonAt, Cond.code yX3_reasonAt cX3_reasonAt 5 (some .int), Cond.fieldLink RX3 134 "RosterPay$Rule" "number" "I", Cond.methodLink RL 54 yX3_missed, Cond.instanceMethod yX3_missed, Cond.selects RX3 yX3_missed yX3_missed, Cond.code yX3_missed cX3_missed 2 (some .int), Cond.methodLink RL 57 yX3_pay, Cond.instanceMethod yX3_pay, Cond.selects RX3 yX3_pay yX3_pay, Cond.code yX3_pay cX3_pay 2 (some .int), Cond.methodLink RL 60 yX3_payOf, Cond.instanceMethod yX3_payOf, Cond.selects RX3 yX3_payOf yX3_payOf, Cond.code yX3_payOf cX3_payOf 9 (some .int), Cond.methodLink RL 64 yX3_paidBy, Cond.instanceMethod yX3_paidBy, Cond.selects RX3 yX3_paidBy yX3_paidBy, Cond.code yX3_paidBy cX3_paidBy 5 (some .int)]
def wsL_hours_r14 : List Cond := [Cond.methodLink RX3 152 yX3_payByRule, Cond.instanceMethod yX3_payByRule, Cond.selects RX3 yX3_payByRule yX3_payByRule, Cond.code yX3_payByRule cX3_payByRule 7 (some .int), Cond.methodLink RL 67 yX3_worked, Cond.instanceMethod yX3_worked, Cond.selects RX3 yX3_worked yX3_worked, Cond.code yX3_worked cX3_worked 4 (some .int), Cond.methodLink RX3 156 yX3_workedInWeeks, Cond.instanceMethod yX3_workedInWeeks, Cond.selects RX3 yX3_workedInWeeks yX3_workedInWeeks, Cond.code yX3_workedInWeeks cX3_workedInWeeks 4 (some .int), Cond.methodLink RL 70 yX3_excess, Cond.instanceMethod yX3_excess, Cond.selects RX3 yX3_excess yX3_excess, Cond.code yX3_excess cX3_excess 5 (some .int), Cond.methodLink RX3 160 Lib.Math.max.name, Cond.methodLink RL 90 yL_refuses, Cond.static yL_refuses, Cond.code yL_refuses cL_refuses 16 (some .boolean), Cond.constant RL 79 (2147483647), Cond.methodLink RL 75 yX3_shifts, Cond.instanceMethod yX3_shifts, Cond.selects RX3 yX3_shifts yX3_shifts]
def wsL_hours_r15 : List Cond := [Cond.code yX3_shifts cX3_shifts 1 (some .int), Cond.methodLink RL 86 yL_rule, Cond.static yL_rule, Cond.codeWith yL_rule cL_rule 7 (some .int) [(0, 11, 12, 13), (0, 11, 17, 15)], Cond.methodLink RL 7 yX3_addRule, Cond.instanceMethod yX3_addRule, Cond.selects RX3 yX3_addRule yX3_addRule, Cond.code yX3_addRule cX3_addRule 7 (some .int), Cond.classLink RX3 56 RX0, Cond.instantiable RX0 7, Cond.methodLink RX3 58 yX0_init, Cond.instanceMethod yX0_init, Cond.code yX0_init cX0_init 7 none, Cond.methodLink RX0 3 objectInit, Cond.fieldLink RX0 9 "RosterPay$Rule" "number" "I", Cond.fieldLink RX0 27 "RosterPay$Rule" "percent" "I", Cond.methodLink RL 99 yL_most, Cond.static yL_most, Cond.code yL_most cL_most 2 (some .boolean), Cond.methodLink RL 94 yL_at, Cond.static yL_at, Cond.code yL_at cL_at 5 (some .boolean)]
def wsL_hours : List Cond := .code yL_hours cL_hours 2 (some .boolean) :: ((wsL_hours_r1 ++ (wsL_hours_r2 ++ (wsL_hours_r3 ++ (wsL_hours_r4 ++ (wsL_hours_r5 ++ (wsL_hours_r6 ++ (wsL_hours_r7 ++ (wsL_hours_r8 ++ (wsL_hours_r9 ++ (wsL_hours_r10 ++ (wsL_hours_r11 ++ (wsL_hours_r12 ++ (wsL_hours_r13 ++ (wsL_hours_r14 ++ wsL_hours_r15)))))))))))))) ++ wsX30 ++ wsJx4a65c0 ++ wsX20 ++ wsX10 ++ wsX00 ++ (vx_atS RX3 55 "java/lang/IllegalStateException" ["java/lang/RuntimeException", "java/lang/Exception"]).filter goodWord ++ (vx_atS RX3 40 "java/lang/IllegalArgumentException" ["java/lang/RuntimeException", "java/lang/Exception"]).filter goodWord ++ (vx_atS RX3 174 "java/lang/IndexOutOfBoundsException" ["java/lang/RuntimeException", "java/lang/Exception"]).filter goodWord)
def wsL_law0_r1 : List Cond := [Cond.classLink RL 8 RX3, Cond.instantiable RX3 5, Cond.initialized RX3, Cond.methodLink RL 103 yL_pays, Cond.static yL_pays, Cond.initialized RL, Cond.code yL_pays cL_pays 1 (some .boolean), Cond.methodLink RL 89 yX3_init, Cond.instanceMethod yX3_init, Cond.code yX3_init cX3_init 1 none, Cond.methodLink RX3 3 objectInit, Cond.instanceMethod objectInit, Cond.code objectInit ⟨#[0xb1]⟩ 1 none, Cond.arrayClass .int, Cond.fieldLink RX3 9 "RosterPay" "bases" "[I", Cond.arrayClass .boolean, Cond.fieldLink RX3 19 "RosterPay" "holidays" "[Z", Cond.classLink RX3 23 RJx4a65c, Cond.instantiable RJx4a65c 3, Cond.initialized RJx4a65c, Cond.fieldLink RX3 26 "RosterPay" "rules" "Ljava/util/ArrayList;", Cond.fieldLink RX3 30 "RosterPay" "workers" "Ljava/util/ArrayList;", Cond.fieldLink RX3 33 "RosterPay" "roster" "Ljava/util/ArrayList;", Cond.methodLink RX3 13 yJ7_fill_53178]
def wsL_law0_r2 : List Cond := [Cond.static yJ7_fill_53178, Cond.initialized RJ7, Cond.code yJ7_fill_53178 cJ7_fill_53178 4 none, Cond.methodLink RX3 25 yJx4a65c_init_da8c8, Cond.instanceMethod yJx4a65c_init_da8c8, Cond.code yJx4a65c_init_da8c8 cJx4a65c_init_da8c8 1 none, Cond.fieldLink RJx4a65c 39 "java/util/ArrayList" "DEFAULTCAPACITY_EMPTY_ELEMENTDATA" "[Ljava/lang/Object;", Cond.fieldLink RJx4a65c 9 "java/util/ArrayList" "elementData" "[Ljava/lang/Object;", Cond.methodLink RJx4a65c 1 yJxc12de_init_da8c8, Cond.instanceMethod yJxc12de_init_da8c8, Cond.initialized RJxc12de, Cond.code yJxc12de_init_da8c8 cJxc12de_init_da8c8 1 none, Cond.fieldLink RJxc12de 7 "java/util/AbstractList" "modCount" "I", Cond.methodLink RJxc12de 1 yJxa1e45_init_da8c8, Cond.instanceMethod yJxa1e45_init_da8c8, Cond.initialized RJxa1e45, Cond.code yJxa1e45_init_da8c8 cJxa1e45_init_da8c8 1 none, Cond.methodLink RJxa1e45 1 objectInit, Cond.methodLink RL 75 yX3_shifts, Cond.instanceMethod yX3_shifts, Cond.selects RX3 yX3_shifts yX3_shifts, Cond.code yX3_shifts cX3_shifts 1 (some .int), Cond.methodLink RX3 47 yJx4a65c_size_8abf5, Cond.instanceMethod yJx4a65c_size_8abf5]
def wsL_law0_r3 : List Cond := [Cond.selects RJx4a65c yJx4a65c_size_8abf5 yJx4a65c_size_8abf5, Cond.code yJx4a65c_size_8abf5 cJx4a65c_size_8abf5 1 (some .int), Cond.fieldLink RJx4a65c 48 "java/util/ArrayList" "size" "I", Cond.methodLink RL 80 yL_act, Cond.static yL_act, Cond.codeWith yL_act cL_act 7 (some .int) [(0, 273, 274, 73), (0, 273, 279, 13), (0, 273, 284, 15)], Cond.classLink RL 73 "java/lang/IndexOutOfBoundsException", Cond.classLink RL 13 "java/lang/IllegalArgumentException", Cond.classLink RL 15 "java/lang/IllegalStateException", Cond.methodLink RL 17 yX3_setBase, Cond.instanceMethod yX3_setBase, Cond.selects RX3 yX3_setBase yX3_setBase, Cond.code yX3_setBase cX3_setBase 4 (some .int), Cond.classLink RX3 36 "java/lang/IllegalArgumentException", Cond.initialized "java/lang/IllegalArgumentException", Cond.methodLink RX3 43 yX3_checkArgument, Cond.static yX3_checkArgument, Cond.code yX3_checkArgument cX3_checkArgument 3 none, Cond.methodLink RL 21 yX3_setRule, Cond.instanceMethod yX3_setRule, Cond.selects RX3 yX3_setRule yX3_setRule, Cond.code yX3_setRule cX3_setRule 5 (some .boolean), Cond.fieldLink RX3 69 "RosterPay$Rule" "isOn" "Z", Cond.methodLink RX3 65 yX3_findRule]
def wsL_law0_r4 : List Cond := [Cond.instanceMethod yX3_findRule, Cond.selects RX3 yX3_findRule yX3_findRule, Cond.code yX3_findRule cX3_findRule 2 (some (.object "RosterPay$Rule")), Cond.classLink RX3 170 "java/lang/IndexOutOfBoundsException", Cond.initialized "java/lang/IndexOutOfBoundsException", Cond.classLink RX3 56 "RosterPay$Rule", Cond.methodLink RX3 140 yJx4a65c_get_915e3, Cond.instanceMethod yJx4a65c_get_915e3, Cond.selects RJx4a65c yJx4a65c_get_915e3 yJx4a65c_get_915e3, Cond.code yJx4a65c_get_915e3 cJx4a65c_get_915e3 2 (some (.object "java/lang/Object")), Cond.methodLink RJx4a65c 118 yJ15_checkIndex_7cf53, Cond.static yJ15_checkIndex_7cf53, Cond.initialized RJ15, Cond.code yJ15_checkIndex_7cf53 cJ15_checkIndex_7cf53 2 (some .int), Cond.methodLink RJ15 105 yJ3_checkIndex_8e157, Cond.static yJ3_checkIndex_8e157, Cond.initialized RJ3, Cond.code yJ3_checkIndex_8e157 cJ3_checkIndex_8e157 3 (some .int), Cond.methodLink RJx4a65c 123 yJx4a65c_elementData_915e3, Cond.instanceMethod yJx4a65c_elementData_915e3, Cond.selects RJx4a65c yJx4a65c_elementData_915e3 yJx4a65c_elementData_915e3, Cond.code yJx4a65c_elementData_915e3 cJx4a65c_elementData_915e3 2 (some (.object "java/lang/Object")), Cond.methodLink RL 25 yX3_setHoliday, Cond.instanceMethod yX3_setHoliday]
def wsL_law0_r5 : List Cond := [Cond.selects RX3 yX3_setHoliday yX3_setHoliday, Cond.code yX3_setHoliday cX3_setHoliday 4 (some .boolean), Cond.methodLink RL 28 yX3_addWorker, Cond.instanceMethod yX3_addWorker, Cond.selects RX3 yX3_addWorker yX3_addWorker, Cond.code yX3_addWorker cX3_addWorker 3 (some .int), Cond.classLink RX3 51 "java/lang/IllegalStateException", Cond.initialized "java/lang/IllegalStateException", Cond.classLink RX3 77 RX2, Cond.instantiable RX2 1, Cond.initialized RX2, Cond.methodLink RX3 79 yX2_init, Cond.instanceMethod yX2_init, Cond.code yX2_init cX2_init 2 none, Cond.methodLink RX2 1 objectInit, Cond.fieldLink RX2 7 "RosterPay$Worker" "rank" "I", Cond.methodLink RX3 61 yJx4a65c_add_9ea2d, Cond.instanceMethod yJx4a65c_add_9ea2d, Cond.selects RJx4a65c yJx4a65c_add_9ea2d yJx4a65c_add_9ea2d, Cond.code yJx4a65c_add_9ea2d cJx4a65c_add_9ea2d 2 (some .boolean), Cond.fieldLink RJx4a65c 63 "java/util/ArrayList" "modCount" "I", Cond.sameField "java/util/ArrayList" "java/util/AbstractList" "modCount" "I", Cond.methodLink RJx4a65c 131 yJx4a65c_add_72be8, Cond.instanceMethod yJx4a65c_add_72be8]
def wsL_law0_r6 : List Cond := [Cond.selects RJx4a65c yJx4a65c_add_72be8 yJx4a65c_add_72be8, Cond.code yJx4a65c_add_72be8 cJx4a65c_add_72be8 4 none, Cond.methodLink RJx4a65c 129 yJx4a65c_grow_d5877, Cond.instanceMethod yJx4a65c_grow_d5877, Cond.selects RJx4a65c yJx4a65c_grow_d5877 yJx4a65c_grow_d5877, Cond.code yJx4a65c_grow_d5877 cJx4a65c_grow_d5877 1 (some (.array (.object "java/lang/Object"))), Cond.methodLink RJx4a65c 69 yJx4a65c_grow_92f84, Cond.instanceMethod yJx4a65c_grow_92f84, Cond.selects RJx4a65c yJx4a65c_grow_92f84 yJx4a65c_grow_92f84, Cond.code yJx4a65c_grow_92f84 cJx4a65c_grow_92f84 4 (some (.array (.object "java/lang/Object"))), Cond.methodLink RJx4a65c 79 Lib.Math.max.name, Cond.static Lib.Math.max.name, Cond.initialized "java/lang/Math", Cond.code Lib.Math.max.name Lib.Math.max.code 2 (some .int), Cond.classLink RJx4a65c 7 "java/lang/Object", Cond.methodLink RJx4a65c 73 yJ8_newLength_cabcc, Cond.static yJ8_newLength_cabcc, Cond.initialized RJ8, Cond.code yJ8_newLength_cabcc cJ8_newLength_cabcc 4 (some .int), Cond.methodLink RJ8 194 Lib.Math.max.name, Cond.constant RJ8 200 (2147483639), Cond.methodLink RJ8 201 yJ8_hugeLength_7cf53, Cond.static yJ8_hugeLength_7cf53, Cond.code yJ8_hugeLength_7cf53 cJ8_hugeLength_7cf53 3 (some .int)]
def wsL_law0_r7 : List Cond := [Cond.methodLink RJx4a65c 66 yJ7_copyOf_1904c, Cond.static yJ7_copyOf_1904c, Cond.code yJ7_copyOf_1904c cJ7_copyOf_1904c 2 (some (.array (.object "java/lang/Object"))), Cond.methodLink RJ7 86 ⟨"java/lang/Object", "getClass", "()Ljava/lang/Class;"⟩, Cond.selects "[Ljava/lang/Object;" ⟨"java/lang/Object", "getClass", "()Ljava/lang/Class;"⟩ ⟨"java/lang/Object", "getClass", "()Ljava/lang/Class;"⟩, Cond.instanceMethod ⟨"java/lang/Object", "getClass", "()Ljava/lang/Class;"⟩, Cond.native ⟨"java/lang/Object", "getClass", "()Ljava/lang/Class;"⟩, Cond.methodLink RJ7 300 yJ7_copyOf_6403c, Cond.static yJ7_copyOf_6403c, Cond.code yJ7_copyOf_6403c cJ7_copyOf_6403c 4 (some (.array (.object "java/lang/Object"))), Cond.classLink RJ7 110 "[Ljava/lang/Object;", Cond.classLink RJ7 2 "java/lang/Object", Cond.methodLink RJ7 304 Lib.Math.min.name, Cond.static Lib.Math.min.name, Cond.code Lib.Math.min.name Lib.Math.min.code 2 (some .int), Cond.methodLink RJ7 150 arraycopyName, Cond.native arraycopyName, Cond.static arraycopyName, Cond.initialized "java/lang/System", Cond.methodLink RL 32 yX3_setRank, Cond.instanceMethod yX3_setRank, Cond.selects RX3 yX3_setRank yX3_setRank, Cond.code yX3_setRank cX3_setRank 5 (some .int), Cond.fieldLink RX3 86 "RosterPay$Worker" "rank" "I"]
def wsL_law0_r8 : List Cond := [Cond.methodLink RX3 82 yX3_findWorker, Cond.instanceMethod yX3_findWorker, Cond.selects RX3 yX3_findWorker yX3_findWorker, Cond.code yX3_findWorker cX3_findWorker 2 (some (.object "RosterPay$Worker")), Cond.classLink RX3 77 "RosterPay$Worker", Cond.methodLink RL 35 yX3_addShift, Cond.instanceMethod yX3_addShift, Cond.selects RX3 yX3_addShift yX3_addShift, Cond.code yX3_addShift cX3_addShift 8 (some .int), Cond.classLink RX3 96 RX1, Cond.instantiable RX1 5, Cond.initialized RX1, Cond.methodLink RX3 90 yX3_overlapsAnother, Cond.instanceMethod yX3_overlapsAnother, Cond.selects RX3 yX3_overlapsAnother yX3_overlapsAnother, Cond.code yX3_overlapsAnother cX3_overlapsAnother 4 (some .boolean), Cond.methodLink RX3 204 yX3_workedBetween, Cond.instanceMethod yX3_workedBetween, Cond.selects RX3 yX3_workedBetween yX3_workedBetween, Cond.code yX3_workedBetween cX3_workedBetween 7 (some .int), Cond.classLink RX3 96 "RosterPay$Shift", Cond.fieldLink RX3 148 "RosterPay$Shift" "worker" "LRosterPay$Worker;", Cond.fieldLink RX3 113 "RosterPay$Shift" "isCancelled" "Z", Cond.methodLink RX3 207 yX1_ownBetween]
def wsL_law0_r9 : List Cond := [Cond.instanceMethod yX1_ownBetween, Cond.selects RX1 yX1_ownBetween yX1_ownBetween, Cond.code yX1_ownBetween cX1_ownBetween 3 (some .int), Cond.fieldLink RX1 15 "RosterPay$Shift" "start" "I", Cond.fieldLink RX1 19 "RosterPay$Shift" "quarters" "I", Cond.methodLink RX1 39 Lib.Math.min.name, Cond.methodLink RX1 29 Lib.Math.max.name, Cond.methodLink RX3 98 yX1_init, Cond.instanceMethod yX1_init, Cond.code yX1_init cX1_init 4 none, Cond.methodLink RX1 3 objectInit, Cond.fieldLink RX1 9 "RosterPay$Shift" "worker" "LRosterPay$Worker;", Cond.fieldLink RX1 22 "RosterPay$Shift" "breaksTaken" "I", Cond.fieldLink RX1 25 "RosterPay$Shift" "isCancelled" "Z", Cond.methodLink RL 39 yX3_cancel, Cond.instanceMethod yX3_cancel, Cond.selects RX3 yX3_cancel yX3_cancel, Cond.code yX3_cancel cX3_cancel 4 (some .int), Cond.methodLink RX3 101 yX3_findShift, Cond.instanceMethod yX3_findShift, Cond.selects RX3 yX3_findShift yX3_findShift, Cond.code yX3_findShift cX3_findShift 2 (some (.object "RosterPay$Shift")), Cond.methodLink RX3 105 yX3_checkNotCancelled, Cond.static yX3_checkNotCancelled]
def wsL_law0_r10 : List Cond := [Cond.code yX3_checkNotCancelled cX3_checkNotCancelled 1 none, Cond.methodLink RX3 109 yX3_payFor, Cond.instanceMethod yX3_payFor, Cond.selects RX3 yX3_payFor yX3_payFor, Cond.code yX3_payFor cX3_payFor 5 (some .int), Cond.methodLink RX3 198 yX3_baseOf, Cond.instanceMethod yX3_baseOf, Cond.selects RX3 yX3_baseOf yX3_baseOf, Cond.code yX3_baseOf cX3_baseOf 2 (some .int), Cond.methodLink RX3 137 yX1_breaksMissed, Cond.instanceMethod yX1_breaksMissed, Cond.selects RX1 yX1_breaksMissed yX1_breaksMissed, Cond.code yX1_breaksMissed cX1_breaksMissed 1 (some .int), Cond.methodLink RX1 35 yX1_breaksOwed, Cond.instanceMethod yX1_breaksOwed, Cond.selects RX1 yX1_breaksOwed yX1_breaksOwed, Cond.code yX1_breaksOwed cX1_breaksOwed 1 (some .int), Cond.methodLink RX3 119 yX1_paidLength, Cond.instanceMethod yX1_paidLength, Cond.selects RX1 yX1_paidLength yX1_paidLength, Cond.code yX1_paidLength cX1_paidLength 1 (some .int), Cond.methodLink RX3 126 yX3_percentOf, Cond.instanceMethod yX3_percentOf, Cond.selects RX3 yX3_percentOf yX3_percentOf]
def wsL_law0_r11 : List Cond := [Cond.code yX3_percentOf cX3_percentOf 4 (some .int), Cond.fieldLink RX3 191 "RosterPay$Rule" "percent" "I", Cond.methodLink RX3 130 yX3_decidingRule, Cond.instanceMethod yX3_decidingRule, Cond.selects RX3 yX3_decidingRule yX3_decidingRule, Cond.code yX3_decidingRule cX3_decidingRule 11 (some (.object "RosterPay$Rule")), Cond.methodLink RX3 144 yX1_dayOf, Cond.instanceMethod yX1_dayOf, Cond.selects RX1 yX1_dayOf yX1_dayOf, Cond.code yX1_dayOf cX1_dayOf 2 (some .int), Cond.methodLink RX3 181 yX1_quarterOfDay, Cond.instanceMethod yX1_quarterOfDay, Cond.selects RX1 yX1_quarterOfDay yX1_quarterOfDay, Cond.code yX1_quarterOfDay cX1_quarterOfDay 2 (some .int), Cond.methodLink RX3 184 yX3_isHoliday, Cond.instanceMethod yX3_isHoliday, Cond.selects RX3 yX3_isHoliday yX3_isHoliday, Cond.code yX3_isHoliday cX3_isHoliday 2 (some .boolean), Cond.methodLink RX3 188 yX3_overtimePercent, Cond.static yX3_overtimePercent, Cond.code yX3_overtimePercent cX3_overtimePercent 1 (some .int), Cond.methodLink RX3 194 yX0_appliesTo, Cond.instanceMethod yX0_appliesTo, Cond.selects RX0 yX0_appliesTo yX0_appliesTo]
def wsL_law0_r12 : List Cond := [Cond.initialized RX0, Cond.code yX0_appliesTo cX0_appliesTo 5 (some .boolean), Cond.fieldLink RX0 30 "RosterPay$Rule" "isOn" "Z", Cond.fieldLink RX0 24 "RosterPay$Rule" "ranks" "I", Cond.fieldLink RX0 18 "RosterPay$Rule" "from" "I", Cond.fieldLink RX0 21 "RosterPay$Rule" "to" "I", Cond.methodLink RX0 34 yX0_hasBit, Cond.static yX0_hasBit, Cond.code yX0_hasBit cX0_hasBit 2 (some .boolean), Cond.methodLink RX0 38 yX0_isForDay, Cond.instanceMethod yX0_isForDay, Cond.selects RX0 yX0_isForDay yX0_isForDay, Cond.code yX0_isForDay cX0_isForDay 3 (some .boolean), Cond.fieldLink RX0 15 "RosterPay$Rule" "weekdays" "I", Cond.methodLink RX3 201 yX3_amount, Cond.static yX3_amount, Cond.code yX3_amount cX3_amount 2 (some .int), Cond.methodLink RL 42 yX3_takeBreaks, Cond.instanceMethod yX3_takeBreaks, Cond.selects RX3 yX3_takeBreaks yX3_takeBreaks, Cond.code yX3_takeBreaks cX3_takeBreaks 5 (some .int), Cond.fieldLink RX3 116 "RosterPay$Shift" "breaksTaken" "I", Cond.methodLink RL 45 yX3_paidQuarters, Cond.instanceMethod yX3_paidQuarters]
def wsL_law0_r13 : List Cond := [Cond.selects RX3 yX3_paidQuarters yX3_paidQuarters, Cond.code yX3_paidQuarters cX3_paidQuarters 2 (some .int), Cond.methodLink RL 48 yX3_percentAt, Cond.instanceMethod yX3_percentAt, Cond.selects RX3 yX3_percentAt yX3_percentAt, Cond.code yX3_percentAt cX3_percentAt 4 (some .int), Cond.methodLink RX3 122 yX3_checkPaidQuarter, Cond.static yX3_checkPaidQuarter, Cond.code yX3_checkPaidQuarter cX3_checkPaidQuarter 2 none, Cond.methodLink RL 51 yX3_reasonAt, Cond.instanceMethod yX3_reasonAt, Cond.selects RX3 yX3_reasonAt yX3_reasonAt, Cond.code yX3_reasonAt cX3_reasonAt 5 (some .int), Cond.fieldLink RX3 134 "RosterPay$Rule" "number" "I", Cond.methodLink RL 54 yX3_missed, Cond.instanceMethod yX3_missed, Cond.selects RX3 yX3_missed yX3_missed, Cond.code yX3_missed cX3_missed 2 (some .int), Cond.methodLink RL 57 yX3_pay, Cond.instanceMethod yX3_pay, Cond.selects RX3 yX3_pay yX3_pay, Cond.code yX3_pay cX3_pay 2 (some .int), Cond.methodLink RL 60 yX3_payOf, Cond.instanceMethod yX3_payOf]
def wsL_law0_r14 : List Cond := [Cond.selects RX3 yX3_payOf yX3_payOf, Cond.code yX3_payOf cX3_payOf 9 (some .int), Cond.methodLink RL 64 yX3_paidBy, Cond.instanceMethod yX3_paidBy, Cond.selects RX3 yX3_paidBy yX3_paidBy, Cond.code yX3_paidBy cX3_paidBy 5 (some .int), Cond.methodLink RX3 152 yX3_payByRule, Cond.instanceMethod yX3_payByRule, Cond.selects RX3 yX3_payByRule yX3_payByRule, Cond.code yX3_payByRule cX3_payByRule 7 (some .int), Cond.methodLink RL 67 yX3_worked, Cond.instanceMethod yX3_worked, Cond.selects RX3 yX3_worked yX3_worked, Cond.code yX3_worked cX3_worked 4 (some .int), Cond.methodLink RX3 156 yX3_workedInWeeks, Cond.instanceMethod yX3_workedInWeeks, Cond.selects RX3 yX3_workedInWeeks yX3_workedInWeeks, Cond.code yX3_workedInWeeks cX3_workedInWeeks 4 (some .int), Cond.methodLink RL 70 yX3_excess, Cond.instanceMethod yX3_excess, Cond.selects RX3 yX3_excess yX3_excess, Cond.code yX3_excess cX3_excess 5 (some .int), Cond.methodLink RX3 160 Lib.Math.max.name, Cond.methodLink RL 90 yL_refuses]
def wsL_law0_r15 : List Cond := [Cond.static yL_refuses, Cond.code yL_refuses cL_refuses 16 (some .boolean), Cond.constant RL 79 (2147483647), Cond.methodLink RL 86 yL_rule, Cond.static yL_rule, Cond.codeWith yL_rule cL_rule 7 (some .int) [(0, 11, 12, 13), (0, 11, 17, 15)], Cond.methodLink RL 7 yX3_addRule, Cond.instanceMethod yX3_addRule, Cond.selects RX3 yX3_addRule yX3_addRule, Cond.code yX3_addRule cX3_addRule 7 (some .int), Cond.classLink RX3 56 RX0, Cond.instantiable RX0 7, Cond.methodLink RX3 58 yX0_init, Cond.instanceMethod yX0_init, Cond.code yX0_init cX0_init 7 none, Cond.methodLink RX0 3 objectInit, Cond.fieldLink RX0 9 "RosterPay$Rule" "number" "I", Cond.fieldLink RX0 27 "RosterPay$Rule" "percent" "I", Cond.methodLink RL 94 yL_at, Cond.static yL_at, Cond.code yL_at cL_at 5 (some .boolean), Cond.methodLink RL 107 yL_hours, Cond.static yL_hours, Cond.code yL_hours cL_hours 2 (some .boolean)]
def wsL_law0_r16 : List Cond := [Cond.constant RL 98 (48000), Cond.methodLink RL 99 yL_most, Cond.static yL_most, Cond.code yL_most cL_most 2 (some .boolean)]
def wsL_law0 : List Cond := (wsL_law0_r1 ++ (wsL_law0_r2 ++ (wsL_law0_r3 ++ (wsL_law0_r4 ++ (wsL_law0_r5 ++ (wsL_law0_r6 ++ (wsL_law0_r7 ++ (wsL_law0_r8 ++ (wsL_law0_r9 ++ (wsL_law0_r10 ++ (wsL_law0_r11 ++ (wsL_law0_r12 ++ (wsL_law0_r13 ++ (wsL_law0_r14 ++ (wsL_law0_r15 ++ wsL_law0_r16))))))))))))))) ++ wsX30 ++ wsJx4a65c0 ++ wsX00 ++ wsX20 ++ wsX10 ++ ([] : List Cond)
def wsL_law : List Cond := wsL_law0 ++ (vx_atS RX3 40 "java/lang/IllegalArgumentException" ["java/lang/RuntimeException", "java/lang/Exception"]).filter goodWord ++ (vx_atS RX3 174 "java/lang/IndexOutOfBoundsException" ["java/lang/RuntimeException", "java/lang/Exception"]).filter goodWord ++ (vx_atS RX3 55 "java/lang/IllegalStateException" ["java/lang/RuntimeException", "java/lang/Exception"]).filter goodWord
end
section
set_option maxRecDepth 100000 in
theorem kk_wsL_law0_r1_0 : Cond.classLink RL 8 RX3 ∈ lw_tbl := by decide +kernel
set_option maxRecDepth 100000 in
theorem kk_wsL_law0_r1_1 : Cond.instantiable RX3 5 ∈ lw_tbl := by decide +kernel
set_option maxRecDepth 100000 in
theorem kk_wsL_law0_r1_2 : Cond.initialized RX3 ∈ lw_tbl := by decide +kernel
set_option maxRecDepth 100000 in
theorem kk_wsL_law0_r1_3 : Cond.methodLink RL 103 yL_pays ∈ lw_tbl := by decide +kernel
set_option maxRecDepth 100000 in
theorem kk_wsL_law0_r1_4 : Cond.static yL_pays ∈ lw_tbl := by decide +kernel
set_option maxRecDepth 100000 in
theorem kk_wsL_law0_r1_5 : Cond.initialized RL ∈ lw_tbl := by decide +kernel
set_option maxRecDepth 100000 in
theorem kk_wsL_law0_r1_6 : Cond.code yL_pays cL_pays 1 (some .boolean) ∈ lw_tbl := List.mem_of_getElem? (i := 533) rfl
set_option maxRecDepth 100000 in
theorem kk_wsL_law0_r1_7 : Cond.methodLink RL 89 yX3_init ∈ lw_tbl := by decide +kernel
set_option maxRecDepth 100000 in
theorem kk_wsL_law0_r1_8 : Cond.instanceMethod yX3_init ∈ lw_tbl := by decide +kernel
set_option maxRecDepth 100000 in
theorem kk_wsL_law0_r1_9 : Cond.code yX3_init cX3_init 1 none ∈ lw_tbl := by decide +kernel
set_option maxRecDepth 100000 in
theorem kk_wsL_law0_r1_10 : Cond.methodLink RX3 3 objectInit ∈ lw_tbl := by decide +kernel
set_option maxRecDepth 100000 in
theorem kk_wsL_law0_r1_11 : Cond.instanceMethod objectInit ∈ lw_tbl := by decide +kernel
set_option maxRecDepth 100000 in
theorem kk_wsL_law0_r1_12 : Cond.code objectInit ⟨#[0xb1]⟩ 1 none ∈ lw_tbl := by decide +kernel
set_option maxRecDepth 100000 in
theorem kk_wsL_law0_r1_13 : Cond.arrayClass .int ∈ lw_tbl := by decide +kernel
set_option maxRecDepth 100000 in
theorem kk_wsL_law0_r1_14 : Cond.fieldLink RX3 9 "RosterPay" "bases" "[I" ∈ lw_tbl := by decide +kernel
set_option maxRecDepth 100000 in
theorem kk_wsL_law0_r1_15 : Cond.arrayClass .boolean ∈ lw_tbl := by decide +kernel
set_option maxRecDepth 100000 in
theorem kk_wsL_law0_r1_16 : Cond.fieldLink RX3 19 "RosterPay" "holidays" "[Z" ∈ lw_tbl := by decide +kernel
set_option maxRecDepth 100000 in
theorem kk_wsL_law0_r1_17 : Cond.classLink RX3 23 RJx4a65c ∈ lw_tbl := by decide +kernel
set_option maxRecDepth 100000 in
theorem kk_wsL_law0_r1_18 : Cond.instantiable RJx4a65c 3 ∈ lw_tbl := by decide +kernel
set_option maxRecDepth 100000 in
theorem kk_wsL_law0_r1_19 : Cond.initialized RJx4a65c ∈ lw_tbl := by decide +kernel
set_option maxRecDepth 100000 in
theorem kk_wsL_law0_r1_20 : Cond.fieldLink RX3 26 "RosterPay" "rules" "Ljava/util/ArrayList;" ∈ lw_tbl := by decide +kernel
set_option maxRecDepth 100000 in
theorem kk_wsL_law0_r1_21 : Cond.fieldLink RX3 30 "RosterPay" "workers" "Ljava/util/ArrayList;" ∈ lw_tbl := by decide +kernel
set_option maxRecDepth 100000 in
theorem kk_wsL_law0_r1_22 : Cond.fieldLink RX3 33 "RosterPay" "roster" "Ljava/util/ArrayList;" ∈ lw_tbl := by decide +kernel
set_option maxRecDepth 100000 in
theorem kk_wsL_law0_r1_23 : Cond.methodLink RX3 13 yJ7_fill_53178 ∈ lw_tbl := by decide +kernel
theorem kk_wsL_law0_r1 : ∀ w ∈ wsL_law0_r1, w ∈ lw_tbl := List.forall_mem_cons.mpr ⟨kk_wsL_law0_r1_0, List.forall_mem_cons.mpr ⟨kk_wsL_law0_r1_1, List.forall_mem_cons.mpr ⟨kk_wsL_law0_r1_2, List.forall_mem_cons.mpr ⟨kk_wsL_law0_r1_3, List.forall_mem_cons.mpr ⟨kk_wsL_law0_r1_4, List.forall_mem_cons.mpr ⟨kk_wsL_law0_r1_5, List.forall_mem_cons.mpr ⟨kk_wsL_law0_r1_6, List.forall_mem_cons.mpr ⟨kk_wsL_law0_r1_7, List.forall_mem_cons.mpr ⟨kk_wsL_law0_r1_8, List.forall_mem_cons.mpr ⟨kk_wsL_law0_r1_9, List.forall_mem_cons.mpr ⟨kk_wsL_law0_r1_10, List.forall_mem_cons.mpr ⟨kk_wsL_law0_r1_11, List.forall_mem_cons.mpr ⟨kk_wsL_law0_r1_12, List.forall_mem_cons.mpr ⟨kk_wsL_law0_r1_13, List.forall_mem_cons.mpr ⟨kk_wsL_law0_r1_14, List.forall_mem_cons.mpr ⟨kk_wsL_law0_r1_15, List.forall_mem_cons.mpr ⟨kk_wsL_law0_r1_16, List.forall_mem_cons.mpr ⟨kk_wsL_law0_r1_17, List.forall_mem_cons.mpr ⟨kk_wsL_law0_r1_18, List.forall_mem_cons.mpr ⟨kk_wsL_law0_r1_19, List.forall_mem_cons.mpr ⟨kk_wsL_law0_r1_20, List.forall_mem_cons.mpr ⟨kk_wsL_law0_r1_21, List.forall_mem_cons.mpr ⟨kk_wsL_law0_r1_22, List.forall_mem_cons.mpr ⟨kk_wsL_law0_r1_23, fun _ h => absurd h List.not_mem_nil⟩⟩⟩⟩⟩⟩⟩⟩⟩⟩⟩⟩⟩⟩⟩⟩⟩⟩⟩⟩⟩⟩⟩⟩
set_option maxRecDepth 100000 in
theorem kk_wsL_law0_r2 : ∀ w ∈ wsL_law0_r2, w ∈ lw_tbl := by decide +kernel
set_option maxRecDepth 100000 in
theorem kk_wsL_law0_r3 : ∀ w ∈ wsL_law0_r3, w ∈ lw_tbl := by decide +kernel
set_option maxRecDepth 100000 in
theorem kk_wsL_law0_r4 : ∀ w ∈ wsL_law0_r4, w ∈ lw_tbl := by decide +kernel
set_option maxRecDepth 100000 in
theorem kk_wsL_law0_r5 : ∀ w ∈ wsL_law0_r5, w ∈ lw_tbl := by decide +kernel
set_option maxRecDepth 100000 in
theorem kk_wsL_law0_r6 : ∀ w ∈ wsL_law0_r6, w ∈ lw_tbl := by decide +kernel
set_option maxRecDepth 100000 in
theorem kk_wsL_law0_r7 : ∀ w ∈ wsL_law0_r7, w ∈ lw_tbl := by decide +kernel
set_option maxRecDepth 100000 in
theorem kk_wsL_law0_r8 : ∀ w ∈ wsL_law0_r8, w ∈ lw_tbl := by decide +kernel
set_option maxRecDepth 100000 in
theorem kk_wsL_law0_r9 : ∀ w ∈ wsL_law0_r9, w ∈ lw_tbl := by decide +kernel
set_option maxRecDepth 100000 in
theorem kk_wsL_law0_r10 : ∀ w ∈ wsL_law0_r10, w ∈ lw_tbl := by decide +kernel
set_option maxRecDepth 100000 in
theorem kk_wsL_law0_r11 : ∀ w ∈ wsL_law0_r11, w ∈ lw_tbl := by decide +kernel
set_option maxRecDepth 100000 in
theorem kk_wsL_law0_r12 : ∀ w ∈ wsL_law0_r12, w ∈ lw_tbl := by decide +kernel
set_option maxRecDepth 100000 in
theorem kk_wsL_law0_r13 : ∀ w ∈ wsL_law0_r13, w ∈ lw_tbl := by decide +kernel
set_option maxRecDepth 100000 in
theorem kk_wsL_law0_r14 : ∀ w ∈ wsL_law0_r14, w ∈ lw_tbl := by decide +kernel
set_option maxRecDepth 100000 in
theorem kk_wsL_law0_r15_0 : Cond.static yL_refuses ∈ lw_tbl := by decide +kernel
set_option maxRecDepth 100000 in
theorem kk_wsL_law0_r15_1 : Cond.code yL_refuses cL_refuses 16 (some .boolean) ∈ lw_tbl := List.mem_of_getElem? (i := 445) rfl
set_option maxRecDepth 100000 in
theorem kk_wsL_law0_r15_2 : Cond.constant RL 79 (2147483647) ∈ lw_tbl := by decide +kernel
set_option maxRecDepth 100000 in
theorem kk_wsL_law0_r15_3 : Cond.methodLink RL 86 yL_rule ∈ lw_tbl := by decide +kernel
set_option maxRecDepth 100000 in
theorem kk_wsL_law0_r15_4 : Cond.static yL_rule ∈ lw_tbl := by decide +kernel
set_option maxRecDepth 100000 in
theorem kk_wsL_law0_r15_5 : Cond.codeWith yL_rule cL_rule 7 (some .int) [(0, 11, 12, 13), (0, 11, 17, 15)] ∈ lw_tbl := by decide +kernel
set_option maxRecDepth 100000 in
theorem kk_wsL_law0_r15_6 : Cond.methodLink RL 7 yX3_addRule ∈ lw_tbl := by decide +kernel
set_option maxRecDepth 100000 in
theorem kk_wsL_law0_r15_7 : Cond.instanceMethod yX3_addRule ∈ lw_tbl := by decide +kernel
set_option maxRecDepth 100000 in
theorem kk_wsL_law0_r15_8 : Cond.selects RX3 yX3_addRule yX3_addRule ∈ lw_tbl := by decide +kernel
set_option maxRecDepth 100000 in
theorem kk_wsL_law0_r15_9 : Cond.code yX3_addRule cX3_addRule 7 (some .int) ∈ lw_tbl := by decide +kernel
set_option maxRecDepth 100000 in
theorem kk_wsL_law0_r15_10 : Cond.classLink RX3 56 RX0 ∈ lw_tbl := by decide +kernel
set_option maxRecDepth 100000 in
theorem kk_wsL_law0_r15_11 : Cond.instantiable RX0 7 ∈ lw_tbl := by decide +kernel
set_option maxRecDepth 100000 in
theorem kk_wsL_law0_r15_12 : Cond.methodLink RX3 58 yX0_init ∈ lw_tbl := by decide +kernel
set_option maxRecDepth 100000 in
theorem kk_wsL_law0_r15_13 : Cond.instanceMethod yX0_init ∈ lw_tbl := by decide +kernel
set_option maxRecDepth 100000 in
theorem kk_wsL_law0_r15_14 : Cond.code yX0_init cX0_init 7 none ∈ lw_tbl := by decide +kernel
set_option maxRecDepth 100000 in
theorem kk_wsL_law0_r15_15 : Cond.methodLink RX0 3 objectInit ∈ lw_tbl := by decide +kernel
set_option maxRecDepth 100000 in
theorem kk_wsL_law0_r15_16 : Cond.fieldLink RX0 9 "RosterPay$Rule" "number" "I" ∈ lw_tbl := by decide +kernel
set_option maxRecDepth 100000 in
theorem kk_wsL_law0_r15_17 : Cond.fieldLink RX0 27 "RosterPay$Rule" "percent" "I" ∈ lw_tbl := by decide +kernel
set_option maxRecDepth 100000 in
theorem kk_wsL_law0_r15_18 : Cond.methodLink RL 94 yL_at ∈ lw_tbl := by decide +kernel
set_option maxRecDepth 100000 in
theorem kk_wsL_law0_r15_19 : Cond.static yL_at ∈ lw_tbl := by decide +kernel
set_option maxRecDepth 100000 in
theorem kk_wsL_law0_r15_20 : Cond.code yL_at cL_at 5 (some .boolean) ∈ lw_tbl := List.mem_of_getElem? (i := 536) rfl
set_option maxRecDepth 100000 in
theorem kk_wsL_law0_r15_21 : Cond.methodLink RL 107 yL_hours ∈ lw_tbl := by decide +kernel
set_option maxRecDepth 100000 in
theorem kk_wsL_law0_r15_22 : Cond.static yL_hours ∈ lw_tbl := by decide +kernel
set_option maxRecDepth 100000 in
theorem kk_wsL_law0_r15_23 : Cond.code yL_hours cL_hours 2 (some .boolean) ∈ lw_tbl := List.mem_of_getElem? (i := 539) rfl
theorem kk_wsL_law0_r15 : ∀ w ∈ wsL_law0_r15, w ∈ lw_tbl := List.forall_mem_cons.mpr ⟨kk_wsL_law0_r15_0, List.forall_mem_cons.mpr ⟨kk_wsL_law0_r15_1, List.forall_mem_cons.mpr ⟨kk_wsL_law0_r15_2, List.forall_mem_cons.mpr ⟨kk_wsL_law0_r15_3, List.forall_mem_cons.mpr ⟨kk_wsL_law0_r15_4, List.forall_mem_cons.mpr ⟨kk_wsL_law0_r15_5, List.forall_mem_cons.mpr ⟨kk_wsL_law0_r15_6, List.forall_mem_cons.mpr ⟨kk_wsL_law0_r15_7, List.forall_mem_cons.mpr ⟨kk_wsL_law0_r15_8, List.forall_mem_cons.mpr ⟨kk_wsL_law0_r15_9, List.forall_mem_cons.mpr ⟨kk_wsL_law0_r15_10, List.forall_mem_cons.mpr ⟨kk_wsL_law0_r15_11, List.forall_mem_cons.mpr ⟨kk_wsL_law0_r15_12, List.forall_mem_cons.mpr ⟨kk_wsL_law0_r15_13, List.forall_mem_cons.mpr ⟨kk_wsL_law0_r15_14, List.forall_mem_cons.mpr ⟨kk_wsL_law0_r15_15, List.forall_mem_cons.mpr ⟨kk_wsL_law0_r15_16, List.forall_mem_cons.mpr ⟨kk_wsL_law0_r15_17, List.forall_mem_cons.mpr ⟨kk_wsL_law0_r15_18, List.forall_mem_cons.mpr ⟨kk_wsL_law0_r15_19, List.forall_mem_cons.mpr ⟨kk_wsL_law0_r15_20, List.forall_mem_cons.mpr ⟨kk_wsL_law0_r15_21, List.forall_mem_cons.mpr ⟨kk_wsL_law0_r15_22, List.forall_mem_cons.mpr ⟨kk_wsL_law0_r15_23, fun _ h => absurd h List.not_mem_nil⟩⟩⟩⟩⟩⟩⟩⟩⟩⟩⟩⟩⟩⟩⟩⟩⟩⟩⟩⟩⟩⟩⟩⟩
set_option maxRecDepth 100000 in
theorem kk_wsL_law0_r16_0 : Cond.constant RL 98 (48000) ∈ lw_tbl := by decide +kernel
set_option maxRecDepth 100000 in
theorem kk_wsL_law0_r16_1 : Cond.methodLink RL 99 yL_most ∈ lw_tbl := by decide +kernel
set_option maxRecDepth 100000 in
theorem kk_wsL_law0_r16_2 : Cond.static yL_most ∈ lw_tbl := by decide +kernel
set_option maxRecDepth 100000 in
theorem kk_wsL_law0_r16_3 : Cond.code yL_most cL_most 2 (some .boolean) ∈ lw_tbl := List.mem_of_getElem? (i := 543) rfl
theorem kk_wsL_law0_r16 : ∀ w ∈ wsL_law0_r16, w ∈ lw_tbl := List.forall_mem_cons.mpr ⟨kk_wsL_law0_r16_0, List.forall_mem_cons.mpr ⟨kk_wsL_law0_r16_1, List.forall_mem_cons.mpr ⟨kk_wsL_law0_r16_2, List.forall_mem_cons.mpr ⟨kk_wsL_law0_r16_3, fun _ h => absurd h List.not_mem_nil⟩⟩⟩⟩
set_option maxRecDepth 100000 in
theorem kk_wsX30 : ∀ w ∈ wsX30, w ∈ lw_tbl := by decide +kernel
set_option maxRecDepth 100000 in
theorem kk_wsJx4a65c0 : ∀ w ∈ wsJx4a65c0, w ∈ lw_tbl := by decide +kernel
set_option maxRecDepth 100000 in
theorem kk_wsX00 : ∀ w ∈ wsX00, w ∈ lw_tbl := by decide +kernel
set_option maxRecDepth 100000 in
theorem kk_wsX20 : ∀ w ∈ wsX20, w ∈ lw_tbl := by decide +kernel
set_option maxRecDepth 100000 in
theorem kk_wsX10 : ∀ w ∈ wsX10, w ∈ lw_tbl := by decide +kernel
theorem wsL_law_in0 : ∀ w ∈ wsL_law0, w ∈ lw_tbl := (List.forall_mem_append.mpr ⟨(List.forall_mem_append.mpr ⟨(List.forall_mem_append.mpr ⟨(List.forall_mem_append.mpr ⟨(List.forall_mem_append.mpr ⟨(List.forall_mem_append.mpr ⟨(List.forall_mem_append.mpr ⟨kk_wsL_law0_r1, (List.forall_mem_append.mpr ⟨kk_wsL_law0_r2, (List.forall_mem_append.mpr ⟨kk_wsL_law0_r3, (List.forall_mem_append.mpr ⟨kk_wsL_law0_r4, (List.forall_mem_append.mpr ⟨kk_wsL_law0_r5, (List.forall_mem_append.mpr ⟨kk_wsL_law0_r6, (List.forall_mem_append.mpr ⟨kk_wsL_law0_r7, (List.forall_mem_append.mpr ⟨kk_wsL_law0_r8, (List.forall_mem_append.mpr ⟨kk_wsL_law0_r9, (List.forall_mem_append.mpr ⟨kk_wsL_law0_r10, (List.forall_mem_append.mpr ⟨kk_wsL_law0_r11, (List.forall_mem_append.mpr ⟨kk_wsL_law0_r12, (List.forall_mem_append.mpr ⟨kk_wsL_law0_r13, (List.forall_mem_append.mpr ⟨kk_wsL_law0_r14, (List.forall_mem_append.mpr ⟨kk_wsL_law0_r15, kk_wsL_law0_r16⟩)⟩)⟩)⟩)⟩)⟩)⟩)⟩)⟩)⟩)⟩)⟩)⟩)⟩)⟩), kk_wsX30⟩), kk_wsJx4a65c0⟩), kk_wsX00⟩), kk_wsX20⟩), kk_wsX10⟩), (fun w h => absurd h List.not_mem_nil)⟩)
theorem wsL_law_x0 : ∀ w ∈ (vx_atS RX3 40 "java/lang/IllegalArgumentException" ["java/lang/RuntimeException", "java/lang/Exception"]).filter goodWord, w ∈ lw_tbl := by decide +kernel
theorem wsL_law_x1 : ∀ w ∈ (vx_atS RX3 174 "java/lang/IndexOutOfBoundsException" ["java/lang/RuntimeException", "java/lang/Exception"]).filter goodWord, w ∈ lw_tbl := by decide +kernel
theorem wsL_law_x2 : ∀ w ∈ (vx_atS RX3 55 "java/lang/IllegalStateException" ["java/lang/RuntimeException", "java/lang/Exception"]).filter goodWord, w ∈ lw_tbl := by decide +kernel
theorem wsL_law_in : ∀ w ∈ wsL_law, w ∈ lw_tbl := fun w h => (List.mem_append.mp h).elim (fun h => (List.mem_append.mp h).elim (fun h => (List.mem_append.mp h).elim (fun h => wsL_law_in0 w h) (fun h => wsL_law_x0 w h)) (fun h => wsL_law_x1 w h)) (fun h => wsL_law_x2 w h)
theorem inlX0 : ∀ w ∈ wsX00, w ∈ wsL_law := fun _ h => List.mem_append_left _ (List.mem_append_left _ (List.mem_append_left _ (List.mem_append_left _ (List.mem_append_left _ (List.mem_append_left _ (List.mem_append_right _ h))))))
theorem inX0 : ∀ w ∈ wsX00, w ∈ lw_tbl := fun w h => wsL_law_in w (inlX0 w h)
theorem inlX1 : ∀ w ∈ wsX10, w ∈ wsL_law := fun _ h => List.mem_append_left _ (List.mem_append_left _ (List.mem_append_left _ (List.mem_append_left _ (List.mem_append_right _ h))))
theorem inX1 : ∀ w ∈ wsX10, w ∈ lw_tbl := fun w h => wsL_law_in w (inlX1 w h)
theorem inlX2 : ∀ w ∈ wsX20, w ∈ wsL_law := fun _ h => List.mem_append_left _ (List.mem_append_left _ (List.mem_append_left _ (List.mem_append_left _ (List.mem_append_left _ (List.mem_append_right _ h)))))
theorem inX2 : ∀ w ∈ wsX20, w ∈ lw_tbl := fun w h => wsL_law_in w (inlX2 w h)
theorem inlX3 : ∀ w ∈ wsX30, w ∈ wsL_law := fun _ h => List.mem_append_left _ (List.mem_append_left _ (List.mem_append_left _ (List.mem_append_left _ (List.mem_append_left _ (List.mem_append_left _ (List.mem_append_left _ (List.mem_append_left _ (List.mem_append_right _ h))))))))
theorem inX3 : ∀ w ∈ wsX30, w ∈ lw_tbl := fun w h => wsL_law_in w (inlX3 w h)
theorem inX4 : ∀ w ∈ wsX40, w ∈ lw_tbl := by decide +kernel
theorem inJx145de : ∀ w ∈ wsJx145de0, w ∈ lw_tbl := by decide +kernel
theorem inJx8e188 : ∀ w ∈ wsJx8e1880, w ∈ lw_tbl := by decide +kernel
theorem inJxab1ab : ∀ w ∈ wsJxab1ab0, w ∈ lw_tbl := by decide +kernel
theorem inJ9 : ∀ w ∈ wsJ90, w ∈ lw_tbl := by decide +kernel
theorem inJ0 : ∀ w ∈ wsJ00, w ∈ lw_tbl := by decide +kernel
theorem inJ10 : ∀ w ∈ wsJ100, w ∈ lw_tbl := by decide +kernel
theorem inJxa1e45 : ∀ w ∈ wsJxa1e450, w ∈ lw_tbl := by decide +kernel
theorem inJxc12de : ∀ w ∈ wsJxc12de0, w ∈ lw_tbl := by decide +kernel
theorem inlJx4a65c : ∀ w ∈ wsJx4a65c0, w ∈ wsL_law := fun _ h => List.mem_append_left _ (List.mem_append_left _ (List.mem_append_left _ (List.mem_append_left _ (List.mem_append_left _ (List.mem_append_left _ (List.mem_append_left _ (List.mem_append_right _ h)))))))
theorem inJx4a65c : ∀ w ∈ wsJx4a65c0, w ∈ lw_tbl := fun w h => wsL_law_in w (inlJx4a65c w h)
theorem inJ7 : ∀ w ∈ wsJ70, w ∈ lw_tbl := by decide +kernel
theorem inJx5ef63 : ∀ w ∈ wsJx5ef630, w ∈ lw_tbl := by decide +kernel
theorem inJxbd725 : ∀ w ∈ wsJxbd7250, w ∈ lw_tbl := by decide +kernel
theorem inJ15 : ∀ w ∈ wsJ150, w ∈ lw_tbl := by decide +kernel
theorem inJxf0a74 : ∀ w ∈ wsJxf0a740, w ∈ lw_tbl := by decide +kernel
theorem inJxa66e6 : ∀ w ∈ wsJxa66e60, w ∈ lw_tbl := by decide +kernel
theorem inJ8 : ∀ w ∈ wsJ80, w ∈ lw_tbl := by decide +kernel
theorem inJ3 : ∀ w ∈ wsJ30, w ∈ lw_tbl := by decide +kernel
end
section
theorem dX0_init_0 : decode cX0_init 0 = .ok (.aload_n 0, 1) := by decide +kernel
theorem dX0_init_1 : decode cX0_init 1 = .ok (.invokespecial 3, 3) := by decide +kernel
theorem dX0_init_4 : decode cX0_init 4 = .ok (.aload_n 0, 1) := by decide +kernel
theorem dX0_init_5 : decode cX0_init 5 = .ok (.iload_n 1, 1) := by decide +kernel
theorem dX0_init_6 : decode cX0_init 6 = .ok (.putfield 9, 3) := by decide +kernel
theorem dX0_init_9 : decode cX0_init 9 = .ok (.aload_n 0, 1) := by decide +kernel
theorem dX0_init_10 : decode cX0_init 10 = .ok (.iload_n 2, 1) := by decide +kernel
theorem dX0_init_11 : decode cX0_init 11 = .ok (.putfield 15, 3) := by decide +kernel
theorem dX0_init_14 : decode cX0_init 14 = .ok (.aload_n 0, 1) := by decide +kernel
theorem dX0_init_15 : decode cX0_init 15 = .ok (.iload_n 3, 1) := by decide +kernel
theorem dX0_init_16 : decode cX0_init 16 = .ok (.putfield 18, 3) := by decide +kernel
theorem dX0_init_19 : decode cX0_init 19 = .ok (.aload_n 0, 1) := by decide +kernel
theorem dX0_init_20 : decode cX0_init 20 = .ok (.iload 4, 2) := by decide +kernel
theorem dX0_init_22 : decode cX0_init 22 = .ok (.putfield 21, 3) := by decide +kernel
theorem dX0_init_25 : decode cX0_init 25 = .ok (.aload_n 0, 1) := by decide +kernel
theorem dX0_init_26 : decode cX0_init 26 = .ok (.iload 5, 2) := by decide +kernel
theorem dX0_init_28 : decode cX0_init 28 = .ok (.putfield 24, 3) := by decide +kernel
theorem dX0_init_31 : decode cX0_init 31 = .ok (.aload_n 0, 1) := by decide +kernel
theorem dX0_init_32 : decode cX0_init 32 = .ok (.iload 6, 2) := by decide +kernel
theorem dX0_init_34 : decode cX0_init 34 = .ok (.putfield 27, 3) := by decide +kernel
theorem dX0_init_37 : decode cX0_init 37 = .ok (.aload_n 0, 1) := by decide +kernel
theorem dX0_init_38 : decode cX0_init 38 = .ok (.iconst 1, 1) := by decide +kernel
theorem dX0_init_39 : decode cX0_init 39 = .ok (.putfield 30, 3) := by decide +kernel
theorem dX0_init_42 : decode cX0_init 42 = .ok (.return_, 1) := by decide +kernel
set_option maxRecDepth 20000 in
theorem ggX0_appliesTo_X0_hasBit : GoodIn wsX0_appliesTo wsX0_hasBit := goodIn_r _ [8] (by decide +kernel) (by decide +kernel)
set_option maxRecDepth 20000 in
theorem gX0_appliesTo_X0_hasBit : GoodIn wsX0_appliesTo (va_wsS RX0 34 yX0_hasBit wsX0_hasBit) := goodIn_app (goodIn_of _ (by decide +kernel)) ggX0_appliesTo_X0_hasBit
set_option maxRecDepth 20000 in
theorem ggX0_appliesTo_X0_isForDay : GoodIn wsX0_appliesTo wsX0_isForDay := goodIn_r _ [12, 13, 5, 6, 7, 8, 14, 15, 16, 17, 18, 19, 20] (by decide +kernel) (by decide +kernel)
set_option maxRecDepth 20000 in
theorem gX0_appliesTo_X0_isForDay : GoodIn wsX0_appliesTo (wsV RX0 38 RX0 yX0_isForDay wsX0_isForDay) := goodIn_app (goodIn_of _ (by decide +kernel)) ggX0_appliesTo_X0_isForDay
theorem dX0_appliesTo_0 : decode cX0_appliesTo 0 = .ok (.aload_n 0, 1) := by decide +kernel
theorem dX0_appliesTo_1 : decode cX0_appliesTo 1 = .ok (.getfield 30, 3) := by decide +kernel
theorem dX0_appliesTo_4 : decode cX0_appliesTo 4 = .ok (.ifCond .eq 44, 3) := by decide +kernel
theorem dX0_appliesTo_7 : decode cX0_appliesTo 7 = .ok (.aload_n 0, 1) := by decide +kernel
theorem dX0_appliesTo_8 : decode cX0_appliesTo 8 = .ok (.getfield 24, 3) := by decide +kernel
theorem dX0_appliesTo_11 : decode cX0_appliesTo 11 = .ok (.iload_n 1, 1) := by decide +kernel
theorem dX0_appliesTo_12 : decode cX0_appliesTo 12 = .ok (.invokestatic 34, 3) := by decide +kernel
theorem dX0_appliesTo_15 : decode cX0_appliesTo 15 = .ok (.ifCond .eq 33, 3) := by decide +kernel
theorem dX0_appliesTo_18 : decode cX0_appliesTo 18 = .ok (.iload_n 3, 1) := by decide +kernel
theorem dX0_appliesTo_19 : decode cX0_appliesTo 19 = .ok (.aload_n 0, 1) := by decide +kernel
theorem dX0_appliesTo_20 : decode cX0_appliesTo 20 = .ok (.getfield 18, 3) := by decide +kernel
theorem dX0_appliesTo_23 : decode cX0_appliesTo 23 = .ok (.if_icmp .lt 25, 3) := by decide +kernel
theorem dX0_appliesTo_26 : decode cX0_appliesTo 26 = .ok (.iload_n 3, 1) := by decide +kernel
theorem dX0_appliesTo_27 : decode cX0_appliesTo 27 = .ok (.aload_n 0, 1) := by decide +kernel
theorem dX0_appliesTo_28 : decode cX0_appliesTo 28 = .ok (.getfield 21, 3) := by decide +kernel
theorem dX0_appliesTo_31 : decode cX0_appliesTo 31 = .ok (.if_icmp .ge 17, 3) := by decide +kernel
theorem dX0_appliesTo_34 : decode cX0_appliesTo 34 = .ok (.aload_n 0, 1) := by decide +kernel
theorem dX0_appliesTo_35 : decode cX0_appliesTo 35 = .ok (.iload_n 2, 1) := by decide +kernel
theorem dX0_appliesTo_36 : decode cX0_appliesTo 36 = .ok (.iload 4, 2) := by decide +kernel
theorem dX0_appliesTo_38 : decode cX0_appliesTo 38 = .ok (.invokevirtual 38, 3) := by decide +kernel
theorem dX0_appliesTo_41 : decode cX0_appliesTo 41 = .ok (.ifCond .eq 7, 3) := by decide +kernel
theorem dX0_appliesTo_44 : decode cX0_appliesTo 44 = .ok (.iconst 1, 1) := by decide +kernel
theorem dX0_appliesTo_45 : decode cX0_appliesTo 45 = .ok (.goto 4, 3) := by decide +kernel
theorem dX0_appliesTo_48 : decode cX0_appliesTo 48 = .ok (.iconst 0, 1) := by decide +kernel
theorem dX0_appliesTo_49 : decode cX0_appliesTo 49 = .ok (.ireturn, 1) := by decide +kernel
set_option maxRecDepth 20000 in
theorem ggX0_isForDay_X0_hasBit : GoodIn wsX0_isForDay wsX0_hasBit := goodIn_r _ [5] (by decide +kernel) (by decide +kernel)
set_option maxRecDepth 20000 in
theorem gX0_isForDay_X0_hasBit : GoodIn wsX0_isForDay (va_wsS RX0 34 yX0_hasBit wsX0_hasBit) := goodIn_app (goodIn_of _ (by decide +kernel)) ggX0_isForDay_X0_hasBit
theorem dX0_isForDay_0 : decode cX0_isForDay 0 = .ok (.aload_n 0, 1) := by decide +kernel
theorem dX0_isForDay_1 : decode cX0_isForDay 1 = .ok (.getfield 15, 3) := by decide +kernel
theorem dX0_isForDay_4 : decode cX0_isForDay 4 = .ok (.ifCond .ne 7, 3) := by decide +kernel
theorem dX0_isForDay_7 : decode cX0_isForDay 7 = .ok (.iload_n 2, 1) := by decide +kernel
theorem dX0_isForDay_8 : decode cX0_isForDay 8 = .ok (.goto 14, 3) := by decide +kernel
theorem dX0_isForDay_11 : decode cX0_isForDay 11 = .ok (.aload_n 0, 1) := by decide +kernel
theorem dX0_isForDay_12 : decode cX0_isForDay 12 = .ok (.getfield 15, 3) := by decide +kernel
theorem dX0_isForDay_15 : decode cX0_isForDay 15 = .ok (.iload_n 1, 1) := by decide +kernel
theorem dX0_isForDay_16 : decode cX0_isForDay 16 = .ok (.bipush 7, 2) := by decide +kernel
theorem dX0_isForDay_18 : decode cX0_isForDay 18 = .ok (.irem, 1) := by decide +kernel
theorem dX0_isForDay_19 : decode cX0_isForDay 19 = .ok (.invokestatic 34, 3) := by decide +kernel
theorem dX0_isForDay_22 : decode cX0_isForDay 22 = .ok (.ireturn, 1) := by decide +kernel
theorem dX0_hasBit_0 : decode cX0_hasBit 0 = .ok (.iload_n 0, 1) := by decide +kernel
theorem dX0_hasBit_1 : decode cX0_hasBit 1 = .ok (.iload_n 1, 1) := by decide +kernel
theorem dX0_hasBit_2 : decode cX0_hasBit 2 = .ok (.ishr, 1) := by decide +kernel
theorem dX0_hasBit_3 : decode cX0_hasBit 3 = .ok (.iconst 1, 1) := by decide +kernel
theorem dX0_hasBit_4 : decode cX0_hasBit 4 = .ok (.iand, 1) := by decide +kernel
theorem dX0_hasBit_5 : decode cX0_hasBit 5 = .ok (.iconst 1, 1) := by decide +kernel
theorem dX0_hasBit_6 : decode cX0_hasBit 6 = .ok (.if_icmp .ne 7, 3) := by decide +kernel
theorem dX0_hasBit_9 : decode cX0_hasBit 9 = .ok (.iconst 1, 1) := by decide +kernel
theorem dX0_hasBit_10 : decode cX0_hasBit 10 = .ok (.goto 4, 3) := by decide +kernel
theorem dX0_hasBit_13 : decode cX0_hasBit 13 = .ok (.iconst 0, 1) := by decide +kernel
theorem dX0_hasBit_14 : decode cX0_hasBit 14 = .ok (.ireturn, 1) := by decide +kernel
theorem dX1_init_0 : decode cX1_init 0 = .ok (.aload_n 0, 1) := by decide +kernel
theorem dX1_init_1 : decode cX1_init 1 = .ok (.invokespecial 3, 3) := by decide +kernel
theorem dX1_init_4 : decode cX1_init 4 = .ok (.aload_n 0, 1) := by decide +kernel
theorem dX1_init_5 : decode cX1_init 5 = .ok (.aload_n 1, 1) := by decide +kernel
theorem dX1_init_6 : decode cX1_init 6 = .ok (.putfield 9, 3) := by decide +kernel
theorem dX1_init_9 : decode cX1_init 9 = .ok (.aload_n 0, 1) := by decide +kernel
theorem dX1_init_10 : decode cX1_init 10 = .ok (.iload_n 2, 1) := by decide +kernel
theorem dX1_init_11 : decode cX1_init 11 = .ok (.putfield 15, 3) := by decide +kernel
theorem dX1_init_14 : decode cX1_init 14 = .ok (.aload_n 0, 1) := by decide +kernel
theorem dX1_init_15 : decode cX1_init 15 = .ok (.iload_n 3, 1) := by decide +kernel
theorem dX1_init_16 : decode cX1_init 16 = .ok (.putfield 19, 3) := by decide +kernel
theorem dX1_init_19 : decode cX1_init 19 = .ok (.aload_n 0, 1) := by decide +kernel
theorem dX1_init_20 : decode cX1_init 20 = .ok (.iconst 0, 1) := by decide +kernel
theorem dX1_init_21 : decode cX1_init 21 = .ok (.putfield 22, 3) := by decide +kernel
theorem dX1_init_24 : decode cX1_init 24 = .ok (.aload_n 0, 1) := by decide +kernel
theorem dX1_init_25 : decode cX1_init 25 = .ok (.iconst 0, 1) := by decide +kernel
theorem dX1_init_26 : decode cX1_init 26 = .ok (.putfield 25, 3) := by decide +kernel
theorem dX1_init_29 : decode cX1_init 29 = .ok (.return_, 1) := by decide +kernel
theorem dX1_paidLength_0 : decode cX1_paidLength 0 = .ok (.aload_n 0, 1) := by decide +kernel
theorem dX1_paidLength_1 : decode cX1_paidLength 1 = .ok (.getfield 25, 3) := by decide +kernel
theorem dX1_paidLength_4 : decode cX1_paidLength 4 = .ok (.ifCond .eq 7, 3) := by decide +kernel
theorem dX1_paidLength_7 : decode cX1_paidLength 7 = .ok (.iconst 0, 1) := by decide +kernel
theorem dX1_paidLength_8 : decode cX1_paidLength 8 = .ok (.goto 12, 3) := by decide +kernel
theorem dX1_paidLength_11 : decode cX1_paidLength 11 = .ok (.aload_n 0, 1) := by decide +kernel
theorem dX1_paidLength_12 : decode cX1_paidLength 12 = .ok (.getfield 19, 3) := by decide +kernel
theorem dX1_paidLength_15 : decode cX1_paidLength 15 = .ok (.bipush 12, 2) := by decide +kernel
theorem dX1_paidLength_17 : decode cX1_paidLength 17 = .ok (.invokestatic 29, 3) := by decide +kernel
theorem dX1_paidLength_20 : decode cX1_paidLength 20 = .ok (.ireturn, 1) := by decide +kernel
theorem dX1_dayOf_0 : decode cX1_dayOf 0 = .ok (.aload_n 0, 1) := by decide +kernel
theorem dX1_dayOf_1 : decode cX1_dayOf 1 = .ok (.getfield 15, 3) := by decide +kernel
theorem dX1_dayOf_4 : decode cX1_dayOf 4 = .ok (.iload_n 1, 1) := by decide +kernel
theorem dX1_dayOf_5 : decode cX1_dayOf 5 = .ok (.iadd, 1) := by decide +kernel
theorem dX1_dayOf_6 : decode cX1_dayOf 6 = .ok (.bipush 96, 2) := by decide +kernel
theorem dX1_dayOf_8 : decode cX1_dayOf 8 = .ok (.idiv, 1) := by decide +kernel
theorem dX1_dayOf_9 : decode cX1_dayOf 9 = .ok (.ireturn, 1) := by decide +kernel
theorem dX1_quarterOfDay_0 : decode cX1_quarterOfDay 0 = .ok (.aload_n 0, 1) := by decide +kernel
theorem dX1_quarterOfDay_1 : decode cX1_quarterOfDay 1 = .ok (.getfield 15, 3) := by decide +kernel
theorem dX1_quarterOfDay_4 : decode cX1_quarterOfDay 4 = .ok (.iload_n 1, 1) := by decide +kernel
theorem dX1_quarterOfDay_5 : decode cX1_quarterOfDay 5 = .ok (.iadd, 1) := by decide +kernel
theorem dX1_quarterOfDay_6 : decode cX1_quarterOfDay 6 = .ok (.bipush 96, 2) := by decide +kernel
theorem dX1_quarterOfDay_8 : decode cX1_quarterOfDay 8 = .ok (.irem, 1) := by decide +kernel
theorem dX1_quarterOfDay_9 : decode cX1_quarterOfDay 9 = .ok (.ireturn, 1) := by decide +kernel
set_option maxRecDepth 20000 in
theorem ggX1_breaksMissed_X1_breaksOwed : GoodIn wsX1_breaksMissed wsX1_breaksOwed := goodIn_r _ [11, 12, 13, 14, 15, 16, 17] (by decide +kernel) (by decide +kernel)
set_option maxRecDepth 20000 in
theorem gX1_breaksMissed_X1_breaksOwed : GoodIn wsX1_breaksMissed (wsV RX1 35 RX1 yX1_breaksOwed wsX1_breaksOwed) := goodIn_app (goodIn_of _ (by decide +kernel)) ggX1_breaksMissed_X1_breaksOwed
theorem dX1_breaksMissed_0 : decode cX1_breaksMissed 0 = .ok (.aload_n 0, 1) := by decide +kernel
theorem dX1_breaksMissed_1 : decode cX1_breaksMissed 1 = .ok (.getfield 25, 3) := by decide +kernel
theorem dX1_breaksMissed_4 : decode cX1_breaksMissed 4 = .ok (.ifCond .eq 7, 3) := by decide +kernel
theorem dX1_breaksMissed_7 : decode cX1_breaksMissed 7 = .ok (.iconst 0, 1) := by decide +kernel
theorem dX1_breaksMissed_8 : decode cX1_breaksMissed 8 = .ok (.goto 16, 3) := by decide +kernel
theorem dX1_breaksMissed_11 : decode cX1_breaksMissed 11 = .ok (.aload_n 0, 1) := by decide +kernel
theorem dX1_breaksMissed_12 : decode cX1_breaksMissed 12 = .ok (.invokevirtual 35, 3) := by decide +kernel
theorem dX1_breaksMissed_15 : decode cX1_breaksMissed 15 = .ok (.aload_n 0, 1) := by decide +kernel
theorem dX1_breaksMissed_16 : decode cX1_breaksMissed 16 = .ok (.getfield 22, 3) := by decide +kernel
theorem dX1_breaksMissed_19 : decode cX1_breaksMissed 19 = .ok (.isub, 1) := by decide +kernel
theorem dX1_breaksMissed_20 : decode cX1_breaksMissed 20 = .ok (.iconst 0, 1) := by decide +kernel
theorem dX1_breaksMissed_21 : decode cX1_breaksMissed 21 = .ok (.invokestatic 29, 3) := by decide +kernel
theorem dX1_breaksMissed_24 : decode cX1_breaksMissed 24 = .ok (.ireturn, 1) := by decide +kernel
theorem dX1_breaksOwed_0 : decode cX1_breaksOwed 0 = .ok (.aload_n 0, 1) := by decide +kernel
theorem dX1_breaksOwed_1 : decode cX1_breaksOwed 1 = .ok (.getfield 19, 3) := by decide +kernel
theorem dX1_breaksOwed_4 : decode cX1_breaksOwed 4 = .ok (.bipush 40, 2) := by decide +kernel
theorem dX1_breaksOwed_6 : decode cX1_breaksOwed 6 = .ok (.if_icmp .lt 5, 3) := by decide +kernel
theorem dX1_breaksOwed_9 : decode cX1_breaksOwed 9 = .ok (.iconst 2, 1) := by decide +kernel
theorem dX1_breaksOwed_10 : decode cX1_breaksOwed 10 = .ok (.ireturn, 1) := by decide +kernel
theorem dX1_breaksOwed_11 : decode cX1_breaksOwed 11 = .ok (.aload_n 0, 1) := by decide +kernel
theorem dX1_breaksOwed_12 : decode cX1_breaksOwed 12 = .ok (.getfield 19, 3) := by decide +kernel
theorem dX1_breaksOwed_15 : decode cX1_breaksOwed 15 = .ok (.bipush 20, 2) := by decide +kernel
theorem dX1_breaksOwed_17 : decode cX1_breaksOwed 17 = .ok (.if_icmp .lt 7, 3) := by decide +kernel
theorem dX1_breaksOwed_20 : decode cX1_breaksOwed 20 = .ok (.iconst 1, 1) := by decide +kernel
theorem dX1_breaksOwed_21 : decode cX1_breaksOwed 21 = .ok (.goto 4, 3) := by decide +kernel
theorem dX1_breaksOwed_24 : decode cX1_breaksOwed 24 = .ok (.iconst 0, 1) := by decide +kernel
theorem dX1_breaksOwed_25 : decode cX1_breaksOwed 25 = .ok (.ireturn, 1) := by decide +kernel
theorem dX1_ownBetween_0 : decode cX1_ownBetween 0 = .ok (.aload_n 0, 1) := by decide +kernel
theorem dX1_ownBetween_1 : decode cX1_ownBetween 1 = .ok (.getfield 15, 3) := by decide +kernel
theorem dX1_ownBetween_4 : decode cX1_ownBetween 4 = .ok (.aload_n 0, 1) := by decide +kernel
theorem dX1_ownBetween_5 : decode cX1_ownBetween 5 = .ok (.getfield 19, 3) := by decide +kernel
theorem dX1_ownBetween_8 : decode cX1_ownBetween 8 = .ok (.iadd, 1) := by decide +kernel
theorem dX1_ownBetween_9 : decode cX1_ownBetween 9 = .ok (.iload_n 2, 1) := by decide +kernel
theorem dX1_ownBetween_10 : decode cX1_ownBetween 10 = .ok (.invokestatic 39, 3) := by decide +kernel
theorem dX1_ownBetween_13 : decode cX1_ownBetween 13 = .ok (.aload_n 0, 1) := by decide +kernel
theorem dX1_ownBetween_14 : decode cX1_ownBetween 14 = .ok (.getfield 15, 3) := by decide +kernel
theorem dX1_ownBetween_17 : decode cX1_ownBetween 17 = .ok (.iload_n 1, 1) := by decide +kernel
theorem dX1_ownBetween_18 : decode cX1_ownBetween 18 = .ok (.invokestatic 29, 3) := by decide +kernel
theorem dX1_ownBetween_21 : decode cX1_ownBetween 21 = .ok (.isub, 1) := by decide +kernel
theorem dX1_ownBetween_22 : decode cX1_ownBetween 22 = .ok (.iconst 0, 1) := by decide +kernel
theorem dX1_ownBetween_23 : decode cX1_ownBetween 23 = .ok (.invokestatic 29, 3) := by decide +kernel
theorem dX1_ownBetween_26 : decode cX1_ownBetween 26 = .ok (.ireturn, 1) := by decide +kernel
theorem dX2_init_0 : decode cX2_init 0 = .ok (.aload_n 0, 1) := by decide +kernel
theorem dX2_init_1 : decode cX2_init 1 = .ok (.invokespecial 1, 3) := by decide +kernel
theorem dX2_init_4 : decode cX2_init 4 = .ok (.aload_n 0, 1) := by decide +kernel
theorem dX2_init_5 : decode cX2_init 5 = .ok (.iload_n 1, 1) := by decide +kernel
theorem dX2_init_6 : decode cX2_init 6 = .ok (.putfield 7, 3) := by decide +kernel
theorem dX2_init_9 : decode cX2_init 9 = .ok (.return_, 1) := by decide +kernel
set_option maxRecDepth 20000 in
theorem ggX3_init_J7_fill_53178 : GoodIn wsX3_init wsJ7_fill_53178 := goodIn_r _ [17] (by decide +kernel) (by decide +kernel)
set_option maxRecDepth 20000 in
theorem gX3_init_J7_fill_53178 : GoodIn wsX3_init (va_wsS RX3 13 yJ7_fill_53178 wsJ7_fill_53178) := goodIn_app (goodIn_of _ (by decide +kernel)) ggX3_init_J7_fill_53178
set_option maxRecDepth 20000 in
theorem ggX3_init_Jx4a65c_init_da8c8 : GoodIn wsX3_init wsJx4a65c_init_da8c8 := goodIn_r _ [20, 21, 22, 23, 24, 25, 26, 27, 28, 29, 30, 31, 32, 2, 3, 38, 39, 40] (by decide +kernel) (by decide +kernel)
set_option maxRecDepth 20000 in
theorem gX3_init_Jx4a65c_init_da8c8 : GoodIn wsX3_init (wsJx4a65c_init_da8c8) := ggX3_init_Jx4a65c_init_da8c8
theorem dX3_init_0 : decode cX3_init 0 = .ok (.aload_n 0, 1) := by decide +kernel
theorem dX3_init_1 : decode cX3_init 1 = .ok (.invokespecial 3, 3) := by decide +kernel
theorem dX3_init_4 : decode cX3_init 4 = .ok (.aload_n 0, 1) := by decide +kernel
theorem dX3_init_5 : decode cX3_init 5 = .ok (.iconst 4, 1) := by decide +kernel
theorem dX3_init_6 : decode cX3_init 6 = .ok (.newarray .int, 2) := by decide +kernel
theorem dX3_init_8 : decode cX3_init 8 = .ok (.putfield 9, 3) := by decide +kernel
theorem dX3_init_11 : decode cX3_init 11 = .ok (.aload_n 0, 1) := by decide +kernel
theorem dX3_init_12 : decode cX3_init 12 = .ok (.getfield 9, 3) := by decide +kernel
theorem dX3_init_15 : decode cX3_init 15 = .ok (.sipush 500, 3) := by decide +kernel
theorem dX3_init_18 : decode cX3_init 18 = .ok (.invokestatic 13, 3) := by decide +kernel
theorem dX3_init_21 : decode cX3_init 21 = .ok (.aload_n 0, 1) := by decide +kernel
theorem dX3_init_22 : decode cX3_init 22 = .ok (.sipush 364, 3) := by decide +kernel
theorem dX3_init_25 : decode cX3_init 25 = .ok (.newarray .boolean, 2) := by decide +kernel
theorem dX3_init_27 : decode cX3_init 27 = .ok (.putfield 19, 3) := by decide +kernel
theorem dX3_init_30 : decode cX3_init 30 = .ok (.aload_n 0, 1) := by decide +kernel
theorem dX3_init_31 : decode cX3_init 31 = .ok (.new 23, 3) := by decide +kernel
theorem dX3_init_34 : decode cX3_init 34 = .ok (.dup, 1) := by decide +kernel
theorem dX3_init_35 : decode cX3_init 35 = .ok (.invokespecial 25, 3) := by decide +kernel
theorem dX3_init_38 : decode cX3_init 38 = .ok (.putfield 26, 3) := by decide +kernel
theorem dX3_init_41 : decode cX3_init 41 = .ok (.aload_n 0, 1) := by decide +kernel
theorem dX3_init_42 : decode cX3_init 42 = .ok (.new 23, 3) := by decide +kernel
theorem dX3_init_45 : decode cX3_init 45 = .ok (.dup, 1) := by decide +kernel
theorem dX3_init_46 : decode cX3_init 46 = .ok (.invokespecial 25, 3) := by decide +kernel
theorem dX3_init_49 : decode cX3_init 49 = .ok (.putfield 30, 3) := by decide +kernel
theorem dX3_init_52 : decode cX3_init 52 = .ok (.aload_n 0, 1) := by decide +kernel
theorem dX3_init_53 : decode cX3_init 53 = .ok (.new 23, 3) := by decide +kernel
theorem dX3_init_56 : decode cX3_init 56 = .ok (.dup, 1) := by decide +kernel
theorem dX3_init_57 : decode cX3_init 57 = .ok (.invokespecial 25, 3) := by decide +kernel
theorem dX3_init_60 : decode cX3_init 60 = .ok (.putfield 33, 3) := by decide +kernel
theorem dX3_init_63 : decode cX3_init 63 = .ok (.return_, 1) := by decide +kernel
set_option maxRecDepth 20000 in
theorem ggX3_setBase_X3_checkArgument : GoodIn wsX3_setBase wsX3_checkArgument := goodIn_ca (goodIn_r _ [7, 1, 2] (by decide +kernel) (by decide +kernel)) (goodIn_sub (fun _ h => List.mem_cons_of_mem _ (List.mem_append_right _ h)) (by decide +kernel))
set_option maxRecDepth 20000 in
theorem gX3_setBase_X3_checkArgument : GoodIn wsX3_setBase (va_wsS RX3 43 yX3_checkArgument wsX3_checkArgument) := goodIn_app (goodIn_of _ (by decide +kernel)) ggX3_setBase_X3_checkArgument
theorem dX3_setBase_0 : decode cX3_setBase 0 = .ok (.iload_n 1, 1) := by decide +kernel
theorem dX3_setBase_1 : decode cX3_setBase 1 = .ok (.ifCond .lt 12, 3) := by decide +kernel
theorem dX3_setBase_4 : decode cX3_setBase 4 = .ok (.iload_n 1, 1) := by decide +kernel
theorem dX3_setBase_5 : decode cX3_setBase 5 = .ok (.aload_n 0, 1) := by decide +kernel
theorem dX3_setBase_6 : decode cX3_setBase 6 = .ok (.getfield 9, 3) := by decide +kernel
theorem dX3_setBase_9 : decode cX3_setBase 9 = .ok (.arraylength, 1) := by decide +kernel
theorem dX3_setBase_10 : decode cX3_setBase 10 = .ok (.if_icmp .lt 13, 3) := by decide +kernel
theorem dX3_setBase_13 : decode cX3_setBase 13 = .ok (.new 36, 3) := by decide +kernel
theorem dX3_setBase_16 : decode cX3_setBase 16 = .ok (.dup, 1) := by decide +kernel
theorem dX3_setBase_17 : decode cX3_setBase 17 = .ok (.ldc 38, 2) := by decide +kernel
theorem dX3_setBase_19 : decode cX3_setBase 19 = .ok (.invokespecial 40, 3) := by decide +kernel
theorem dX3_setBase_22 : decode cX3_setBase 22 = .ok (.athrow, 1) := by decide +kernel
theorem dX3_setBase_23 : decode cX3_setBase 23 = .ok (.iload_n 2, 1) := by decide +kernel
theorem dX3_setBase_24 : decode cX3_setBase 24 = .ok (.iconst 1, 1) := by decide +kernel
theorem dX3_setBase_25 : decode cX3_setBase 25 = .ok (.sipush 10000, 3) := by decide +kernel
theorem dX3_setBase_28 : decode cX3_setBase 28 = .ok (.invokestatic 43, 3) := by decide +kernel
theorem dX3_setBase_31 : decode cX3_setBase 31 = .ok (.aload_n 0, 1) := by decide +kernel
theorem dX3_setBase_32 : decode cX3_setBase 32 = .ok (.getfield 9, 3) := by decide +kernel
theorem dX3_setBase_35 : decode cX3_setBase 35 = .ok (.iload_n 1, 1) := by decide +kernel
theorem dX3_setBase_36 : decode cX3_setBase 36 = .ok (.iaload, 1) := by decide +kernel
theorem dX3_setBase_37 : decode cX3_setBase 37 = .ok (.istore_n 3, 1) := by decide +kernel
theorem dX3_setBase_38 : decode cX3_setBase 38 = .ok (.aload_n 0, 1) := by decide +kernel
theorem dX3_setBase_39 : decode cX3_setBase 39 = .ok (.getfield 9, 3) := by decide +kernel
theorem dX3_setBase_42 : decode cX3_setBase 42 = .ok (.iload_n 1, 1) := by decide +kernel
theorem dX3_setBase_43 : decode cX3_setBase 43 = .ok (.iload_n 2, 1) := by decide +kernel
theorem dX3_setBase_44 : decode cX3_setBase 44 = .ok (.iastore, 1) := by decide +kernel
theorem dX3_setBase_45 : decode cX3_setBase 45 = .ok (.iload_n 3, 1) := by decide +kernel
theorem dX3_setBase_46 : decode cX3_setBase 46 = .ok (.ireturn, 1) := by decide +kernel
set_option maxRecDepth 20000 in
theorem ggX3_addRule_X3_checkArgument : GoodIn wsX3_addRule wsX3_checkArgument := goodIn_ca (goodIn_r _ [10, 11, 12] (by decide +kernel) (by decide +kernel)) (goodIn_sub (fun _ h => List.mem_cons_of_mem _ (List.mem_append_right _ h)) (by decide +kernel))
set_option maxRecDepth 20000 in
theorem gX3_addRule_X3_checkArgument : GoodIn wsX3_addRule (va_wsS RX3 43 yX3_checkArgument wsX3_checkArgument) := goodIn_app (goodIn_of _ (by decide +kernel)) ggX3_addRule_X3_checkArgument
set_option maxRecDepth 20000 in
theorem ggX3_addRule_Jx4a65c_size_8abf5 : GoodIn wsX3_addRule wsJx4a65c_size_8abf5 := goodIn_r _ [17, 18, 98, 99, 100] (by decide +kernel) (by decide +kernel)
set_option maxRecDepth 20000 in
theorem gX3_addRule_Jx4a65c_size_8abf5 : GoodIn wsX3_addRule (wsV RX3 47 RJx4a65c yJx4a65c_size_8abf5 wsJx4a65c_size_8abf5) := goodIn_app (goodIn_of _ (by decide +kernel)) ggX3_addRule_Jx4a65c_size_8abf5
set_option maxRecDepth 20000 in
theorem ggX3_addRule_X0_init : GoodIn wsX3_addRule wsX0_init := goodIn_r _ [21, 22, 23, 24, 25, 26, 27, 28, 29, 30, 31, 91, 92, 93, 94, 95, 96, 97] (by decide +kernel) (by decide +kernel)
set_option maxRecDepth 20000 in
theorem gX3_addRule_X0_init : GoodIn wsX3_addRule (wsX0_init) := ggX3_addRule_X0_init
set_option maxRecDepth 20000 in
theorem ggX3_addRule_Jx4a65c_add_9ea2d : GoodIn wsX3_addRule wsJx4a65c_add_9ea2d := goodIn_r _ [35, 36, 37, 38, 18, 39, 40, 41, 16, 42, 43, 44, 45, 46, 47, 48, 49, 50, 51, 52, 53, 54, 55, 56, 57, 58, 59, 60, 61, 62, 63, 64, 65, 66, 67, 68, 69, 70, 71, 72, 73, 74, 75, 76, 77, 78, 79, 80, 81, 82, 83, 84, 85, 98, 99, 100] (by decide +kernel) (by decide +kernel)
set_option maxRecDepth 20000 in
theorem gX3_addRule_Jx4a65c_add_9ea2d : GoodIn wsX3_addRule (wsV RX3 61 RJx4a65c yJx4a65c_add_9ea2d wsJx4a65c_add_9ea2d) := goodIn_app (goodIn_of _ (by decide +kernel)) ggX3_addRule_Jx4a65c_add_9ea2d
theorem dX3_addRule_0 : decode cX3_addRule 0 = .ok (.iload_n 1, 1) := by decide +kernel
theorem dX3_addRule_1 : decode cX3_addRule 1 = .ok (.iconst 0, 1) := by decide +kernel
theorem dX3_addRule_2 : decode cX3_addRule 2 = .ok (.bipush 127, 2) := by decide +kernel
theorem dX3_addRule_4 : decode cX3_addRule 4 = .ok (.invokestatic 43, 3) := by decide +kernel
theorem dX3_addRule_7 : decode cX3_addRule 7 = .ok (.iload_n 2, 1) := by decide +kernel
theorem dX3_addRule_8 : decode cX3_addRule 8 = .ok (.iconst 0, 1) := by decide +kernel
theorem dX3_addRule_9 : decode cX3_addRule 9 = .ok (.bipush 95, 2) := by decide +kernel
theorem dX3_addRule_11 : decode cX3_addRule 11 = .ok (.invokestatic 43, 3) := by decide +kernel
theorem dX3_addRule_14 : decode cX3_addRule 14 = .ok (.iload_n 3, 1) := by decide +kernel
theorem dX3_addRule_15 : decode cX3_addRule 15 = .ok (.iload_n 2, 1) := by decide +kernel
theorem dX3_addRule_16 : decode cX3_addRule 16 = .ok (.iconst 1, 1) := by decide +kernel
theorem dX3_addRule_17 : decode cX3_addRule 17 = .ok (.iadd, 1) := by decide +kernel
theorem dX3_addRule_18 : decode cX3_addRule 18 = .ok (.bipush 96, 2) := by decide +kernel
theorem dX3_addRule_20 : decode cX3_addRule 20 = .ok (.invokestatic 43, 3) := by decide +kernel
theorem dX3_addRule_23 : decode cX3_addRule 23 = .ok (.iload 4, 2) := by decide +kernel
theorem dX3_addRule_25 : decode cX3_addRule 25 = .ok (.iconst 1, 1) := by decide +kernel
theorem dX3_addRule_26 : decode cX3_addRule 26 = .ok (.bipush 15, 2) := by decide +kernel
theorem dX3_addRule_28 : decode cX3_addRule 28 = .ok (.invokestatic 43, 3) := by decide +kernel
theorem dX3_addRule_31 : decode cX3_addRule 31 = .ok (.iload 5, 2) := by decide +kernel
theorem dX3_addRule_33 : decode cX3_addRule 33 = .ok (.bipush 100, 2) := by decide +kernel
theorem dX3_addRule_35 : decode cX3_addRule 35 = .ok (.sipush 400, 3) := by decide +kernel
theorem dX3_addRule_38 : decode cX3_addRule 38 = .ok (.invokestatic 43, 3) := by decide +kernel
theorem dX3_addRule_41 : decode cX3_addRule 41 = .ok (.aload_n 0, 1) := by decide +kernel
theorem dX3_addRule_42 : decode cX3_addRule 42 = .ok (.getfield 26, 3) := by decide +kernel
theorem dX3_addRule_45 : decode cX3_addRule 45 = .ok (.invokevirtual 47, 3) := by decide +kernel
theorem dX3_addRule_48 : decode cX3_addRule 48 = .ok (.istore 6, 2) := by decide +kernel
theorem dX3_addRule_50 : decode cX3_addRule 50 = .ok (.iload 6, 2) := by decide +kernel
theorem dX3_addRule_52 : decode cX3_addRule 52 = .ok (.bipush 16, 2) := by decide +kernel
theorem dX3_addRule_54 : decode cX3_addRule 54 = .ok (.if_icmp .lt 13, 3) := by decide +kernel
theorem dX3_addRule_57 : decode cX3_addRule 57 = .ok (.new 51, 3) := by decide +kernel
theorem dX3_addRule_60 : decode cX3_addRule 60 = .ok (.dup, 1) := by decide +kernel
theorem dX3_addRule_61 : decode cX3_addRule 61 = .ok (.ldc 53, 2) := by decide +kernel
theorem dX3_addRule_63 : decode cX3_addRule 63 = .ok (.invokespecial 55, 3) := by decide +kernel
theorem dX3_addRule_66 : decode cX3_addRule 66 = .ok (.athrow, 1) := by decide +kernel
theorem dX3_addRule_67 : decode cX3_addRule 67 = .ok (.aload_n 0, 1) := by decide +kernel
theorem dX3_addRule_68 : decode cX3_addRule 68 = .ok (.getfield 26, 3) := by decide +kernel
theorem dX3_addRule_71 : decode cX3_addRule 71 = .ok (.new 56, 3) := by decide +kernel
theorem dX3_addRule_74 : decode cX3_addRule 74 = .ok (.dup, 1) := by decide +kernel
theorem dX3_addRule_75 : decode cX3_addRule 75 = .ok (.iload 6, 2) := by decide +kernel
theorem dX3_addRule_77 : decode cX3_addRule 77 = .ok (.iload_n 1, 1) := by decide +kernel
theorem dX3_addRule_78 : decode cX3_addRule 78 = .ok (.iload_n 2, 1) := by decide +kernel
theorem dX3_addRule_79 : decode cX3_addRule 79 = .ok (.iload_n 3, 1) := by decide +kernel
theorem dX3_addRule_80 : decode cX3_addRule 80 = .ok (.iload 4, 2) := by decide +kernel
theorem dX3_addRule_82 : decode cX3_addRule 82 = .ok (.iload 5, 2) := by decide +kernel
theorem dX3_addRule_84 : decode cX3_addRule 84 = .ok (.invokespecial 58, 3) := by decide +kernel
theorem dX3_addRule_87 : decode cX3_addRule 87 = .ok (.invokevirtual 61, 3) := by decide +kernel
theorem dX3_addRule_90 : decode cX3_addRule 90 = .ok (.pop, 1) := by decide +kernel
theorem dX3_addRule_91 : decode cX3_addRule 91 = .ok (.iload 6, 2) := by decide +kernel
theorem dX3_addRule_93 : decode cX3_addRule 93 = .ok (.ireturn, 1) := by decide +kernel
set_option maxRecDepth 20000 in
theorem ggX3_setRule_X3_findRule : GoodIn wsX3_setRule wsX3_findRule := goodIn_ca (goodIn_r _ [6, 7, 8, 9, 10, 11, 12, 13, 14, 15, 16, 17, 18, 19, 20, 21, 22, 23, 24, 25, 26, 27, 28, 29, 30, 31, 32, 33, 41, 42, 43, 44, 45, 46, 47, 48] (by decide +kernel) (by decide +kernel)) (goodIn_sub (fun _ h => List.mem_cons_of_mem _ (List.mem_append_right _ h)) (by decide +kernel))
set_option maxRecDepth 20000 in
theorem gX3_setRule_X3_findRule : GoodIn wsX3_setRule (wsV RX3 65 RX3 yX3_findRule wsX3_findRule) := goodIn_app (goodIn_of _ (by decide +kernel)) ggX3_setRule_X3_findRule
theorem dX3_setRule_0 : decode cX3_setRule 0 = .ok (.aload_n 0, 1) := by decide +kernel
theorem dX3_setRule_1 : decode cX3_setRule 1 = .ok (.iload_n 1, 1) := by decide +kernel
theorem dX3_setRule_2 : decode cX3_setRule 2 = .ok (.invokevirtual 65, 3) := by decide +kernel
theorem dX3_setRule_5 : decode cX3_setRule 5 = .ok (.astore_n 3, 1) := by decide +kernel
theorem dX3_setRule_6 : decode cX3_setRule 6 = .ok (.aload_n 3, 1) := by decide +kernel
theorem dX3_setRule_7 : decode cX3_setRule 7 = .ok (.getfield 69, 3) := by decide +kernel
theorem dX3_setRule_10 : decode cX3_setRule 10 = .ok (.istore 4, 2) := by decide +kernel
theorem dX3_setRule_12 : decode cX3_setRule 12 = .ok (.aload_n 3, 1) := by decide +kernel
theorem dX3_setRule_13 : decode cX3_setRule 13 = .ok (.iload_n 2, 1) := by decide +kernel
theorem dX3_setRule_14 : decode cX3_setRule 14 = .ok (.putfield 69, 3) := by decide +kernel
theorem dX3_setRule_17 : decode cX3_setRule 17 = .ok (.iload 4, 2) := by decide +kernel
theorem dX3_setRule_19 : decode cX3_setRule 19 = .ok (.ireturn, 1) := by decide +kernel
theorem dX3_setHoliday_0 : decode cX3_setHoliday 0 = .ok (.iload_n 1, 1) := by decide +kernel
theorem dX3_setHoliday_1 : decode cX3_setHoliday 1 = .ok (.ifCond .lt 12, 3) := by decide +kernel
theorem dX3_setHoliday_4 : decode cX3_setHoliday 4 = .ok (.iload_n 1, 1) := by decide +kernel
theorem dX3_setHoliday_5 : decode cX3_setHoliday 5 = .ok (.aload_n 0, 1) := by decide +kernel
theorem dX3_setHoliday_6 : decode cX3_setHoliday 6 = .ok (.getfield 19, 3) := by decide +kernel
theorem dX3_setHoliday_9 : decode cX3_setHoliday 9 = .ok (.arraylength, 1) := by decide +kernel
theorem dX3_setHoliday_10 : decode cX3_setHoliday 10 = .ok (.if_icmp .lt 13, 3) := by decide +kernel
theorem dX3_setHoliday_13 : decode cX3_setHoliday 13 = .ok (.new 36, 3) := by decide +kernel
theorem dX3_setHoliday_16 : decode cX3_setHoliday 16 = .ok (.dup, 1) := by decide +kernel
theorem dX3_setHoliday_17 : decode cX3_setHoliday 17 = .ok (.ldc 73, 2) := by decide +kernel
theorem dX3_setHoliday_19 : decode cX3_setHoliday 19 = .ok (.invokespecial 40, 3) := by decide +kernel
theorem dX3_setHoliday_22 : decode cX3_setHoliday 22 = .ok (.athrow, 1) := by decide +kernel
theorem dX3_setHoliday_23 : decode cX3_setHoliday 23 = .ok (.aload_n 0, 1) := by decide +kernel
theorem dX3_setHoliday_24 : decode cX3_setHoliday 24 = .ok (.getfield 19, 3) := by decide +kernel
theorem dX3_setHoliday_27 : decode cX3_setHoliday 27 = .ok (.iload_n 1, 1) := by decide +kernel
theorem dX3_setHoliday_28 : decode cX3_setHoliday 28 = .ok (.baload, 1) := by decide +kernel
theorem dX3_setHoliday_29 : decode cX3_setHoliday 29 = .ok (.istore_n 3, 1) := by decide +kernel
theorem dX3_setHoliday_30 : decode cX3_setHoliday 30 = .ok (.aload_n 0, 1) := by decide +kernel
theorem dX3_setHoliday_31 : decode cX3_setHoliday 31 = .ok (.getfield 19, 3) := by decide +kernel
theorem dX3_setHoliday_34 : decode cX3_setHoliday 34 = .ok (.iload_n 1, 1) := by decide +kernel
theorem dX3_setHoliday_35 : decode cX3_setHoliday 35 = .ok (.iload_n 2, 1) := by decide +kernel
theorem dX3_setHoliday_36 : decode cX3_setHoliday 36 = .ok (.bastore, 1) := by decide +kernel
theorem dX3_setHoliday_37 : decode cX3_setHoliday 37 = .ok (.iload_n 3, 1) := by decide +kernel
theorem dX3_setHoliday_38 : decode cX3_setHoliday 38 = .ok (.ireturn, 1) := by decide +kernel
set_option maxRecDepth 20000 in
theorem ggX3_addWorker_X3_checkArgument : GoodIn wsX3_addWorker wsX3_checkArgument := goodIn_ca (goodIn_r _ [10, 11, 12] (by decide +kernel) (by decide +kernel)) (goodIn_sub (fun _ h => List.mem_cons_of_mem _ (List.mem_append_right _ h)) (by decide +kernel))
set_option maxRecDepth 20000 in
theorem gX3_addWorker_X3_checkArgument : GoodIn wsX3_addWorker (va_wsS RX3 43 yX3_checkArgument wsX3_checkArgument) := goodIn_app (goodIn_of _ (by decide +kernel)) ggX3_addWorker_X3_checkArgument
set_option maxRecDepth 20000 in
theorem ggX3_addWorker_Jx4a65c_size_8abf5 : GoodIn wsX3_addWorker wsJx4a65c_size_8abf5 := goodIn_r _ [17, 18, 86, 87, 88] (by decide +kernel) (by decide +kernel)
set_option maxRecDepth 20000 in
theorem gX3_addWorker_Jx4a65c_size_8abf5 : GoodIn wsX3_addWorker (wsV RX3 47 RJx4a65c yJx4a65c_size_8abf5 wsJx4a65c_size_8abf5) := goodIn_app (goodIn_of _ (by decide +kernel)) ggX3_addWorker_Jx4a65c_size_8abf5
set_option maxRecDepth 20000 in
theorem ggX3_addWorker_X2_init : GoodIn wsX3_addWorker wsX2_init := goodIn_r _ [21, 22, 23, 24, 25, 85] (by decide +kernel) (by decide +kernel)
set_option maxRecDepth 20000 in
theorem gX3_addWorker_X2_init : GoodIn wsX3_addWorker (wsX2_init) := ggX3_addWorker_X2_init
set_option maxRecDepth 20000 in
theorem ggX3_addWorker_Jx4a65c_add_9ea2d : GoodIn wsX3_addWorker wsJx4a65c_add_9ea2d := goodIn_r _ [29, 30, 31, 32, 18, 33, 34, 35, 16, 36, 37, 38, 39, 40, 41, 42, 43, 44, 45, 46, 47, 48, 49, 50, 51, 52, 53, 54, 55, 56, 57, 58, 59, 60, 61, 62, 63, 64, 65, 66, 67, 68, 69, 70, 71, 72, 73, 74, 75, 76, 77, 78, 79, 86, 87, 88] (by decide +kernel) (by decide +kernel)
set_option maxRecDepth 20000 in
theorem gX3_addWorker_Jx4a65c_add_9ea2d : GoodIn wsX3_addWorker (wsV RX3 61 RJx4a65c yJx4a65c_add_9ea2d wsJx4a65c_add_9ea2d) := goodIn_app (goodIn_of _ (by decide +kernel)) ggX3_addWorker_Jx4a65c_add_9ea2d
theorem dX3_addWorker_0 : decode cX3_addWorker 0 = .ok (.iload_n 1, 1) := by decide +kernel
theorem dX3_addWorker_1 : decode cX3_addWorker 1 = .ok (.iconst 0, 1) := by decide +kernel
theorem dX3_addWorker_2 : decode cX3_addWorker 2 = .ok (.iconst 3, 1) := by decide +kernel
theorem dX3_addWorker_3 : decode cX3_addWorker 3 = .ok (.invokestatic 43, 3) := by decide +kernel
theorem dX3_addWorker_6 : decode cX3_addWorker 6 = .ok (.aload_n 0, 1) := by decide +kernel
theorem dX3_addWorker_7 : decode cX3_addWorker 7 = .ok (.getfield 30, 3) := by decide +kernel
theorem dX3_addWorker_10 : decode cX3_addWorker 10 = .ok (.invokevirtual 47, 3) := by decide +kernel
theorem dX3_addWorker_13 : decode cX3_addWorker 13 = .ok (.istore_n 2, 1) := by decide +kernel
theorem dX3_addWorker_14 : decode cX3_addWorker 14 = .ok (.iload_n 2, 1) := by decide +kernel
theorem dX3_addWorker_15 : decode cX3_addWorker 15 = .ok (.bipush 12, 2) := by decide +kernel
theorem dX3_addWorker_17 : decode cX3_addWorker 17 = .ok (.if_icmp .lt 13, 3) := by decide +kernel
theorem dX3_addWorker_20 : decode cX3_addWorker 20 = .ok (.new 51, 3) := by decide +kernel
theorem dX3_addWorker_23 : decode cX3_addWorker 23 = .ok (.dup, 1) := by decide +kernel
theorem dX3_addWorker_24 : decode cX3_addWorker 24 = .ok (.ldc 75, 2) := by decide +kernel
theorem dX3_addWorker_26 : decode cX3_addWorker 26 = .ok (.invokespecial 55, 3) := by decide +kernel
theorem dX3_addWorker_29 : decode cX3_addWorker 29 = .ok (.athrow, 1) := by decide +kernel
theorem dX3_addWorker_30 : decode cX3_addWorker 30 = .ok (.aload_n 0, 1) := by decide +kernel
theorem dX3_addWorker_31 : decode cX3_addWorker 31 = .ok (.getfield 30, 3) := by decide +kernel
theorem dX3_addWorker_34 : decode cX3_addWorker 34 = .ok (.new 77, 3) := by decide +kernel
theorem dX3_addWorker_37 : decode cX3_addWorker 37 = .ok (.dup, 1) := by decide +kernel
theorem dX3_addWorker_38 : decode cX3_addWorker 38 = .ok (.iload_n 1, 1) := by decide +kernel
theorem dX3_addWorker_39 : decode cX3_addWorker 39 = .ok (.invokespecial 79, 3) := by decide +kernel
theorem dX3_addWorker_42 : decode cX3_addWorker 42 = .ok (.invokevirtual 61, 3) := by decide +kernel
theorem dX3_addWorker_45 : decode cX3_addWorker 45 = .ok (.pop, 1) := by decide +kernel
theorem dX3_addWorker_46 : decode cX3_addWorker 46 = .ok (.iload_n 2, 1) := by decide +kernel
theorem dX3_addWorker_47 : decode cX3_addWorker 47 = .ok (.ireturn, 1) := by decide +kernel
set_option maxRecDepth 20000 in
theorem ggX3_setRank_X3_findWorker : GoodIn wsX3_setRank wsX3_findWorker := goodIn_ca (goodIn_r _ [6, 7, 8, 9, 10, 11, 12, 13, 14, 15, 16, 17, 18, 19, 20, 21, 22, 23, 24, 25, 26, 27, 28, 29, 30, 31, 32, 33, 40, 41, 42, 43, 44, 45, 46, 47] (by decide +kernel) (by decide +kernel)) (goodIn_sub (fun _ h => List.mem_cons_of_mem _ (List.mem_append_left _ (List.mem_append_right _ h))) (by decide +kernel))
set_option maxRecDepth 20000 in
theorem gX3_setRank_X3_findWorker : GoodIn wsX3_setRank (wsV RX3 82 RX3 yX3_findWorker wsX3_findWorker) := goodIn_app (goodIn_of _ (by decide +kernel)) ggX3_setRank_X3_findWorker
set_option maxRecDepth 20000 in
theorem ggX3_setRank_X3_checkArgument : GoodIn wsX3_setRank wsX3_checkArgument := goodIn_ca (goodIn_r _ [36, 37, 38] (by decide +kernel) (by decide +kernel)) (goodIn_sub (fun _ h => List.mem_cons_of_mem _ (List.mem_append_right _ h)) (by decide +kernel))
set_option maxRecDepth 20000 in
theorem gX3_setRank_X3_checkArgument : GoodIn wsX3_setRank (va_wsS RX3 43 yX3_checkArgument wsX3_checkArgument) := goodIn_app (goodIn_of _ (by decide +kernel)) ggX3_setRank_X3_checkArgument
theorem dX3_setRank_0 : decode cX3_setRank 0 = .ok (.aload_n 0, 1) := by decide +kernel
theorem dX3_setRank_1 : decode cX3_setRank 1 = .ok (.iload_n 1, 1) := by decide +kernel
theorem dX3_setRank_2 : decode cX3_setRank 2 = .ok (.invokevirtual 82, 3) := by decide +kernel
theorem dX3_setRank_5 : decode cX3_setRank 5 = .ok (.astore_n 3, 1) := by decide +kernel
theorem dX3_setRank_6 : decode cX3_setRank 6 = .ok (.iload_n 2, 1) := by decide +kernel
theorem dX3_setRank_7 : decode cX3_setRank 7 = .ok (.iconst 0, 1) := by decide +kernel
theorem dX3_setRank_8 : decode cX3_setRank 8 = .ok (.iconst 3, 1) := by decide +kernel
theorem dX3_setRank_9 : decode cX3_setRank 9 = .ok (.invokestatic 43, 3) := by decide +kernel
theorem dX3_setRank_12 : decode cX3_setRank 12 = .ok (.aload_n 3, 1) := by decide +kernel
theorem dX3_setRank_13 : decode cX3_setRank 13 = .ok (.getfield 86, 3) := by decide +kernel
theorem dX3_setRank_16 : decode cX3_setRank 16 = .ok (.istore 4, 2) := by decide +kernel
theorem dX3_setRank_18 : decode cX3_setRank 18 = .ok (.aload_n 3, 1) := by decide +kernel
theorem dX3_setRank_19 : decode cX3_setRank 19 = .ok (.iload_n 2, 1) := by decide +kernel
theorem dX3_setRank_20 : decode cX3_setRank 20 = .ok (.putfield 86, 3) := by decide +kernel
theorem dX3_setRank_23 : decode cX3_setRank 23 = .ok (.iload 4, 2) := by decide +kernel
theorem dX3_setRank_25 : decode cX3_setRank 25 = .ok (.ireturn, 1) := by decide +kernel
set_option maxRecDepth 20000 in
theorem ggX3_addShift_X3_findWorker : GoodIn wsX3_addShift wsX3_findWorker := goodIn_ca (goodIn_r _ [11, 12, 13, 14, 15, 16, 17, 18, 19, 20, 21, 22, 23, 24, 25, 26, 27, 28, 29, 30, 31, 32, 33, 34, 35, 36, 37, 38, 125, 126, 127, 128, 129, 135, 136, 137] (by decide +kernel) (by decide +kernel)) (goodIn_sub (fun _ h => List.mem_cons_of_mem _ (List.mem_append_left _ (List.mem_append_right _ h))) (by decide +kernel))
set_option maxRecDepth 20000 in
theorem gX3_addShift_X3_findWorker : GoodIn wsX3_addShift (wsV RX3 82 RX3 yX3_findWorker wsX3_findWorker) := goodIn_app (goodIn_of _ (by decide +kernel)) ggX3_addShift_X3_findWorker
set_option maxRecDepth 20000 in
theorem ggX3_addShift_X3_checkArgument : GoodIn wsX3_addShift wsX3_checkArgument := goodIn_ca (goodIn_r _ [41, 42, 43] (by decide +kernel) (by decide +kernel)) (goodIn_sub (fun _ h => List.mem_cons_of_mem _ (List.mem_append_right _ h)) (by decide +kernel))
set_option maxRecDepth 20000 in
theorem gX3_addShift_X3_checkArgument : GoodIn wsX3_addShift (va_wsS RX3 43 yX3_checkArgument wsX3_checkArgument) := goodIn_app (goodIn_of _ (by decide +kernel)) ggX3_addShift_X3_checkArgument
set_option maxRecDepth 20000 in
theorem ggX3_addShift_Jx4a65c_size_8abf5 : GoodIn wsX3_addShift wsJx4a65c_size_8abf5 := goodIn_r _ [20, 21, 135, 136, 137] (by decide +kernel) (by decide +kernel)
set_option maxRecDepth 20000 in
theorem gX3_addShift_Jx4a65c_size_8abf5 : GoodIn wsX3_addShift (wsV RX3 47 RJx4a65c yJx4a65c_size_8abf5 wsJx4a65c_size_8abf5) := goodIn_app (goodIn_of _ (by decide +kernel)) ggX3_addShift_Jx4a65c_size_8abf5
set_option maxRecDepth 20000 in
theorem ggX3_addShift_X3_overlapsAnother : GoodIn wsX3_addShift wsX3_overlapsAnother := goodIn_r _ [47, 48, 49, 50, 10, 51, 3, 52, 53, 54, 16, 17, 18, 19, 20, 21, 22, 23, 24, 25, 26, 27, 28, 29, 30, 31, 32, 33, 34, 35, 36, 37, 38, 55, 56, 57, 6, 58, 59, 60, 61, 62, 63, 64, 65, 66, 67, 125, 126, 127, 128, 129, 130, 131, 132, 133, 134, 135, 136, 137] (by decide +kernel) (by decide +kernel)
set_option maxRecDepth 20000 in
theorem gX3_addShift_X3_overlapsAnother : GoodIn wsX3_addShift (wsV RX3 90 RX3 yX3_overlapsAnother wsX3_overlapsAnother) := goodIn_app (goodIn_of _ (by decide +kernel)) ggX3_addShift_X3_overlapsAnother
set_option maxRecDepth 20000 in
theorem ggX3_addShift_X1_init : GoodIn wsX3_addShift wsX1_init := goodIn_r _ [70, 71, 72, 73, 74, 59, 60, 75, 76, 130, 131, 132, 133, 134] (by decide +kernel) (by decide +kernel)
set_option maxRecDepth 20000 in
theorem gX3_addShift_X1_init : GoodIn wsX3_addShift (wsX1_init) := ggX3_addShift_X1_init
set_option maxRecDepth 20000 in
theorem ggX3_addShift_Jx4a65c_add_9ea2d : GoodIn wsX3_addShift wsJx4a65c_add_9ea2d := goodIn_r _ [80, 81, 82, 38, 21, 83, 84, 85, 19, 86, 87, 88, 89, 90, 91, 92, 93, 94, 95, 96, 66, 63, 67, 97, 98, 99, 100, 101, 102, 103, 104, 105, 106, 107, 108, 109, 110, 111, 112, 113, 114, 115, 116, 117, 118, 119, 120, 62, 64, 121, 122, 123, 124, 135, 136, 137] (by decide +kernel) (by decide +kernel)
set_option maxRecDepth 20000 in
theorem gX3_addShift_Jx4a65c_add_9ea2d : GoodIn wsX3_addShift (wsV RX3 61 RJx4a65c yJx4a65c_add_9ea2d wsJx4a65c_add_9ea2d) := goodIn_app (goodIn_of _ (by decide +kernel)) ggX3_addShift_Jx4a65c_add_9ea2d
theorem dX3_addShift_0 : decode cX3_addShift 0 = .ok (.aload_n 0, 1) := by decide +kernel
theorem dX3_addShift_1 : decode cX3_addShift 1 = .ok (.iload_n 1, 1) := by decide +kernel
theorem dX3_addShift_2 : decode cX3_addShift 2 = .ok (.invokevirtual 82, 3) := by decide +kernel
theorem dX3_addShift_5 : decode cX3_addShift 5 = .ok (.astore 5, 2) := by decide +kernel
theorem dX3_addShift_7 : decode cX3_addShift 7 = .ok (.iload_n 2, 1) := by decide +kernel
theorem dX3_addShift_8 : decode cX3_addShift 8 = .ok (.iconst 0, 1) := by decide +kernel
theorem dX3_addShift_9 : decode cX3_addShift 9 = .ok (.sipush 362, 3) := by decide +kernel
theorem dX3_addShift_12 : decode cX3_addShift 12 = .ok (.invokestatic 43, 3) := by decide +kernel
theorem dX3_addShift_15 : decode cX3_addShift 15 = .ok (.iload_n 3, 1) := by decide +kernel
theorem dX3_addShift_16 : decode cX3_addShift 16 = .ok (.iconst 0, 1) := by decide +kernel
theorem dX3_addShift_17 : decode cX3_addShift 17 = .ok (.bipush 95, 2) := by decide +kernel
theorem dX3_addShift_19 : decode cX3_addShift 19 = .ok (.invokestatic 43, 3) := by decide +kernel
theorem dX3_addShift_22 : decode cX3_addShift 22 = .ok (.iload 4, 2) := by decide +kernel
theorem dX3_addShift_24 : decode cX3_addShift 24 = .ok (.iconst 1, 1) := by decide +kernel
theorem dX3_addShift_25 : decode cX3_addShift 25 = .ok (.bipush 64, 2) := by decide +kernel
theorem dX3_addShift_27 : decode cX3_addShift 27 = .ok (.invokestatic 43, 3) := by decide +kernel
theorem dX3_addShift_30 : decode cX3_addShift 30 = .ok (.iload_n 2, 1) := by decide +kernel
theorem dX3_addShift_31 : decode cX3_addShift 31 = .ok (.bipush 96, 2) := by decide +kernel
theorem dX3_addShift_33 : decode cX3_addShift 33 = .ok (.imul, 1) := by decide +kernel
theorem dX3_addShift_34 : decode cX3_addShift 34 = .ok (.iload_n 3, 1) := by decide +kernel
theorem dX3_addShift_35 : decode cX3_addShift 35 = .ok (.iadd, 1) := by decide +kernel
theorem dX3_addShift_36 : decode cX3_addShift 36 = .ok (.istore 6, 2) := by decide +kernel
theorem dX3_addShift_38 : decode cX3_addShift 38 = .ok (.aload_n 0, 1) := by decide +kernel
theorem dX3_addShift_39 : decode cX3_addShift 39 = .ok (.getfield 33, 3) := by decide +kernel
theorem dX3_addShift_42 : decode cX3_addShift 42 = .ok (.invokevirtual 47, 3) := by decide +kernel
theorem dX3_addShift_45 : decode cX3_addShift 45 = .ok (.istore 7, 2) := by decide +kernel
theorem dX3_addShift_47 : decode cX3_addShift 47 = .ok (.iload 7, 2) := by decide +kernel
theorem dX3_addShift_49 : decode cX3_addShift 49 = .ok (.bipush 80, 2) := by decide +kernel
theorem dX3_addShift_51 : decode cX3_addShift 51 = .ok (.if_icmp .ge 19, 3) := by decide +kernel
theorem dX3_addShift_54 : decode cX3_addShift 54 = .ok (.aload_n 0, 1) := by decide +kernel
theorem dX3_addShift_55 : decode cX3_addShift 55 = .ok (.aload 5, 2) := by decide +kernel
theorem dX3_addShift_57 : decode cX3_addShift 57 = .ok (.iload 6, 2) := by decide +kernel
theorem dX3_addShift_59 : decode cX3_addShift 59 = .ok (.iload 6, 2) := by decide +kernel
theorem dX3_addShift_61 : decode cX3_addShift 61 = .ok (.iload 4, 2) := by decide +kernel
theorem dX3_addShift_63 : decode cX3_addShift 63 = .ok (.iadd, 1) := by decide +kernel
theorem dX3_addShift_64 : decode cX3_addShift 64 = .ok (.invokevirtual 90, 3) := by decide +kernel
theorem dX3_addShift_67 : decode cX3_addShift 67 = .ok (.ifCond .eq 13, 3) := by decide +kernel
theorem dX3_addShift_70 : decode cX3_addShift 70 = .ok (.new 51, 3) := by decide +kernel
theorem dX3_addShift_73 : decode cX3_addShift 73 = .ok (.dup, 1) := by decide +kernel
theorem dX3_addShift_74 : decode cX3_addShift 74 = .ok (.ldc 94, 2) := by decide +kernel
theorem dX3_addShift_76 : decode cX3_addShift 76 = .ok (.invokespecial 55, 3) := by decide +kernel
theorem dX3_addShift_79 : decode cX3_addShift 79 = .ok (.athrow, 1) := by decide +kernel
theorem dX3_addShift_80 : decode cX3_addShift 80 = .ok (.aload_n 0, 1) := by decide +kernel
theorem dX3_addShift_81 : decode cX3_addShift 81 = .ok (.getfield 33, 3) := by decide +kernel
theorem dX3_addShift_84 : decode cX3_addShift 84 = .ok (.new 96, 3) := by decide +kernel
theorem dX3_addShift_87 : decode cX3_addShift 87 = .ok (.dup, 1) := by decide +kernel
theorem dX3_addShift_88 : decode cX3_addShift 88 = .ok (.aload 5, 2) := by decide +kernel
theorem dX3_addShift_90 : decode cX3_addShift 90 = .ok (.iload 6, 2) := by decide +kernel
theorem dX3_addShift_92 : decode cX3_addShift 92 = .ok (.iload 4, 2) := by decide +kernel
theorem dX3_addShift_94 : decode cX3_addShift 94 = .ok (.invokespecial 98, 3) := by decide +kernel
theorem dX3_addShift_97 : decode cX3_addShift 97 = .ok (.invokevirtual 61, 3) := by decide +kernel
theorem dX3_addShift_100 : decode cX3_addShift 100 = .ok (.pop, 1) := by decide +kernel
theorem dX3_addShift_101 : decode cX3_addShift 101 = .ok (.iload 7, 2) := by decide +kernel
theorem dX3_addShift_103 : decode cX3_addShift 103 = .ok (.ireturn, 1) := by decide +kernel
set_option maxRecDepth 20000 in
theorem ggX3_cancel_X3_findShift : GoodIn wsX3_cancel wsX3_findShift := goodIn_ca (goodIn_r _ [6, 7, 8, 9, 10, 11, 12, 13, 14, 15, 16, 17, 18, 19, 20, 21, 22, 23, 24, 25, 26, 27, 28, 29, 30, 31, 32, 33, 123, 124, 125, 126, 127, 128, 129, 130] (by decide +kernel) (by decide +kernel)) (goodIn_sub (fun _ h => List.mem_cons_of_mem _ (List.mem_append_left _ (List.mem_append_right _ h))) (by decide +kernel))
set_option maxRecDepth 20000 in
theorem gX3_cancel_X3_findShift : GoodIn wsX3_cancel (wsV RX3 101 RX3 yX3_findShift wsX3_findShift) := goodIn_app (goodIn_of _ (by decide +kernel)) ggX3_cancel_X3_findShift
set_option maxRecDepth 20000 in
theorem ggX3_cancel_X3_checkNotCancelled : GoodIn wsX3_cancel wsX3_checkNotCancelled := goodIn_ca (goodIn_r _ [36, 37, 38, 1, 118, 119, 120, 121, 122] (by decide +kernel) (by decide +kernel)) (goodIn_sub (fun _ h => List.mem_cons_of_mem _ (List.mem_append_right _ h)) (by decide +kernel))
set_option maxRecDepth 20000 in
theorem gX3_cancel_X3_checkNotCancelled : GoodIn wsX3_cancel (va_wsS RX3 105 yX3_checkNotCancelled wsX3_checkNotCancelled) := goodIn_app (goodIn_of _ (by decide +kernel)) ggX3_cancel_X3_checkNotCancelled
set_option maxRecDepth 20000 in
theorem ggX3_cancel_X3_payFor : GoodIn wsX3_cancel wsX3_payFor := goodIn_r _ [42, 43, 44, 45, 46, 47, 5, 48, 49, 50, 51, 52, 53, 54, 55, 56, 57, 58, 59, 60, 61, 62, 63, 64, 65, 66, 67, 68, 69, 70, 71, 72, 73, 74, 75, 76, 77, 78, 79, 80, 81, 82, 83, 84, 85, 86, 87, 88, 89, 90, 91, 92, 93, 94, 95, 96, 97, 11, 12, 13, 14, 15, 16, 17, 18, 19, 20, 21, 22, 23, 24, 25, 26, 27, 28, 29, 30, 31, 32, 33, 98, 99, 100, 101, 102, 103, 104, 105, 106, 107, 108, 109, 110, 111, 112, 113, 114, 115, 116, 117, 118, 119, 120, 121, 122, 131, 123, 124, 125, 126, 127, 132, 133, 134, 135, 136, 137, 138, 128, 129, 130] (by decide +kernel) (by decide +kernel)
set_option maxRecDepth 20000 in
theorem gX3_cancel_X3_payFor : GoodIn wsX3_cancel (wsV RX3 109 RX3 yX3_payFor wsX3_payFor) := goodIn_app (goodIn_of _ (by decide +kernel)) ggX3_cancel_X3_payFor
theorem dX3_cancel_0 : decode cX3_cancel 0 = .ok (.aload_n 0, 1) := by decide +kernel
theorem dX3_cancel_1 : decode cX3_cancel 1 = .ok (.iload_n 1, 1) := by decide +kernel
theorem dX3_cancel_2 : decode cX3_cancel 2 = .ok (.invokevirtual 101, 3) := by decide +kernel
theorem dX3_cancel_5 : decode cX3_cancel 5 = .ok (.astore_n 2, 1) := by decide +kernel
theorem dX3_cancel_6 : decode cX3_cancel 6 = .ok (.aload_n 2, 1) := by decide +kernel
theorem dX3_cancel_7 : decode cX3_cancel 7 = .ok (.invokestatic 105, 3) := by decide +kernel
theorem dX3_cancel_10 : decode cX3_cancel 10 = .ok (.aload_n 0, 1) := by decide +kernel
theorem dX3_cancel_11 : decode cX3_cancel 11 = .ok (.aload_n 2, 1) := by decide +kernel
theorem dX3_cancel_12 : decode cX3_cancel 12 = .ok (.invokevirtual 109, 3) := by decide +kernel
theorem dX3_cancel_15 : decode cX3_cancel 15 = .ok (.istore_n 3, 1) := by decide +kernel
theorem dX3_cancel_16 : decode cX3_cancel 16 = .ok (.aload_n 2, 1) := by decide +kernel
theorem dX3_cancel_17 : decode cX3_cancel 17 = .ok (.iconst 1, 1) := by decide +kernel
theorem dX3_cancel_18 : decode cX3_cancel 18 = .ok (.putfield 113, 3) := by decide +kernel
theorem dX3_cancel_21 : decode cX3_cancel 21 = .ok (.iload_n 3, 1) := by decide +kernel
theorem dX3_cancel_22 : decode cX3_cancel 22 = .ok (.ireturn, 1) := by decide +kernel
set_option maxRecDepth 20000 in
theorem ggX3_takeBreaks_X3_findShift : GoodIn wsX3_takeBreaks wsX3_findShift := goodIn_ca (goodIn_r _ [6, 7, 8, 9, 10, 11, 12, 13, 14, 15, 16, 17, 18, 19, 20, 21, 22, 23, 24, 25, 26, 27, 28, 29, 30, 31, 32, 33, 50, 51, 52, 53, 54, 55, 56, 57] (by decide +kernel) (by decide +kernel)) (goodIn_sub (fun _ h => List.mem_cons_of_mem _ (List.mem_append_left _ (List.mem_append_left _ (List.mem_append_right _ h)))) (by decide +kernel))
set_option maxRecDepth 20000 in
theorem gX3_takeBreaks_X3_findShift : GoodIn wsX3_takeBreaks (wsV RX3 101 RX3 yX3_findShift wsX3_findShift) := goodIn_app (goodIn_of _ (by decide +kernel)) ggX3_takeBreaks_X3_findShift
set_option maxRecDepth 20000 in
theorem ggX3_takeBreaks_X3_checkArgument : GoodIn wsX3_takeBreaks wsX3_checkArgument := goodIn_ca (goodIn_r _ [36, 37, 38] (by decide +kernel) (by decide +kernel)) (goodIn_sub (fun _ h => List.mem_cons_of_mem _ (List.mem_append_left _ (List.mem_append_right _ h))) (by decide +kernel))
set_option maxRecDepth 20000 in
theorem gX3_takeBreaks_X3_checkArgument : GoodIn wsX3_takeBreaks (va_wsS RX3 43 yX3_checkArgument wsX3_checkArgument) := goodIn_app (goodIn_of _ (by decide +kernel)) ggX3_takeBreaks_X3_checkArgument
set_option maxRecDepth 20000 in
theorem ggX3_takeBreaks_X3_checkNotCancelled : GoodIn wsX3_takeBreaks wsX3_checkNotCancelled := goodIn_ca (goodIn_r _ [41, 42, 43, 44, 45, 46, 47, 48, 49] (by decide +kernel) (by decide +kernel)) (goodIn_sub (fun _ h => List.mem_cons_of_mem _ (List.mem_append_right _ h)) (by decide +kernel))
set_option maxRecDepth 20000 in
theorem gX3_takeBreaks_X3_checkNotCancelled : GoodIn wsX3_takeBreaks (va_wsS RX3 105 yX3_checkNotCancelled wsX3_checkNotCancelled) := goodIn_app (goodIn_of _ (by decide +kernel)) ggX3_takeBreaks_X3_checkNotCancelled
theorem dX3_takeBreaks_0 : decode cX3_takeBreaks 0 = .ok (.aload_n 0, 1) := by decide +kernel
theorem dX3_takeBreaks_1 : decode cX3_takeBreaks 1 = .ok (.iload_n 1, 1) := by decide +kernel
theorem dX3_takeBreaks_2 : decode cX3_takeBreaks 2 = .ok (.invokevirtual 101, 3) := by decide +kernel
theorem dX3_takeBreaks_5 : decode cX3_takeBreaks 5 = .ok (.astore_n 3, 1) := by decide +kernel
theorem dX3_takeBreaks_6 : decode cX3_takeBreaks 6 = .ok (.iload_n 2, 1) := by decide +kernel
theorem dX3_takeBreaks_7 : decode cX3_takeBreaks 7 = .ok (.iconst 0, 1) := by decide +kernel
theorem dX3_takeBreaks_8 : decode cX3_takeBreaks 8 = .ok (.iconst 5, 1) := by decide +kernel
theorem dX3_takeBreaks_9 : decode cX3_takeBreaks 9 = .ok (.invokestatic 43, 3) := by decide +kernel
theorem dX3_takeBreaks_12 : decode cX3_takeBreaks 12 = .ok (.aload_n 3, 1) := by decide +kernel
theorem dX3_takeBreaks_13 : decode cX3_takeBreaks 13 = .ok (.invokestatic 105, 3) := by decide +kernel
theorem dX3_takeBreaks_16 : decode cX3_takeBreaks 16 = .ok (.aload_n 3, 1) := by decide +kernel
theorem dX3_takeBreaks_17 : decode cX3_takeBreaks 17 = .ok (.getfield 116, 3) := by decide +kernel
theorem dX3_takeBreaks_20 : decode cX3_takeBreaks 20 = .ok (.istore 4, 2) := by decide +kernel
theorem dX3_takeBreaks_22 : decode cX3_takeBreaks 22 = .ok (.aload_n 3, 1) := by decide +kernel
theorem dX3_takeBreaks_23 : decode cX3_takeBreaks 23 = .ok (.iload_n 2, 1) := by decide +kernel
theorem dX3_takeBreaks_24 : decode cX3_takeBreaks 24 = .ok (.putfield 116, 3) := by decide +kernel
theorem dX3_takeBreaks_27 : decode cX3_takeBreaks 27 = .ok (.iload 4, 2) := by decide +kernel
theorem dX3_takeBreaks_29 : decode cX3_takeBreaks 29 = .ok (.ireturn, 1) := by decide +kernel
set_option maxRecDepth 20000 in
theorem ggX3_shifts_Jx4a65c_size_8abf5 : GoodIn wsX3_shifts wsJx4a65c_size_8abf5 := goodIn_r _ [6, 7, 13, 14, 15] (by decide +kernel) (by decide +kernel)
set_option maxRecDepth 20000 in
theorem gX3_shifts_Jx4a65c_size_8abf5 : GoodIn wsX3_shifts (wsV RX3 47 RJx4a65c yJx4a65c_size_8abf5 wsJx4a65c_size_8abf5) := goodIn_app (goodIn_of _ (by decide +kernel)) ggX3_shifts_Jx4a65c_size_8abf5
theorem dX3_shifts_0 : decode cX3_shifts 0 = .ok (.aload_n 0, 1) := by decide +kernel
theorem dX3_shifts_1 : decode cX3_shifts 1 = .ok (.getfield 33, 3) := by decide +kernel
theorem dX3_shifts_4 : decode cX3_shifts 4 = .ok (.invokevirtual 47, 3) := by decide +kernel
theorem dX3_shifts_7 : decode cX3_shifts 7 = .ok (.ireturn, 1) := by decide +kernel
set_option maxRecDepth 20000 in
theorem ggX3_paidQuarters_X3_findShift : GoodIn wsX3_paidQuarters wsX3_findShift := goodIn_ca (goodIn_r _ [5, 6, 7, 8, 9, 10, 11, 12, 13, 14, 15, 16, 17, 18, 19, 20, 21, 22, 23, 24, 25, 26, 27, 28, 29, 30, 31, 32, 44, 45, 46, 47, 48, 49, 50, 51] (by decide +kernel) (by decide +kernel)) (goodIn_sub (fun _ h => List.mem_cons_of_mem _ (List.mem_append_right _ h)) (by decide +kernel))
set_option maxRecDepth 20000 in
theorem gX3_paidQuarters_X3_findShift : GoodIn wsX3_paidQuarters (wsV RX3 101 RX3 yX3_findShift wsX3_findShift) := goodIn_app (goodIn_of _ (by decide +kernel)) ggX3_paidQuarters_X3_findShift
set_option maxRecDepth 20000 in
theorem ggX3_paidQuarters_X1_paidLength : GoodIn wsX3_paidQuarters wsX1_paidLength := goodIn_r _ [37, 38, 39, 40, 41, 42, 43, 52, 53, 54, 55, 56] (by decide +kernel) (by decide +kernel)
set_option maxRecDepth 20000 in
theorem gX3_paidQuarters_X1_paidLength : GoodIn wsX3_paidQuarters (wsV RX3 119 RX1 yX1_paidLength wsX1_paidLength) := goodIn_app (goodIn_of _ (by decide +kernel)) ggX3_paidQuarters_X1_paidLength
theorem dX3_paidQuarters_0 : decode cX3_paidQuarters 0 = .ok (.aload_n 0, 1) := by decide +kernel
theorem dX3_paidQuarters_1 : decode cX3_paidQuarters 1 = .ok (.iload_n 1, 1) := by decide +kernel
theorem dX3_paidQuarters_2 : decode cX3_paidQuarters 2 = .ok (.invokevirtual 101, 3) := by decide +kernel
theorem dX3_paidQuarters_5 : decode cX3_paidQuarters 5 = .ok (.invokevirtual 119, 3) := by decide +kernel
theorem dX3_paidQuarters_8 : decode cX3_paidQuarters 8 = .ok (.ireturn, 1) := by decide +kernel
set_option maxRecDepth 20000 in
theorem ggX3_percentAt_X3_findShift : GoodIn wsX3_percentAt wsX3_findShift := goodIn_ca (goodIn_r _ [5, 6, 7, 8, 9, 10, 11, 12, 13, 14, 15, 16, 17, 18, 19, 20, 21, 22, 23, 24, 25, 26, 27, 28, 29, 30, 31, 32, 94, 95, 96, 97, 98, 99, 100, 101] (by decide +kernel) (by decide +kernel)) (goodIn_sub (fun _ h => List.mem_cons_of_mem _ (List.mem_append_right _ h)) (by decide +kernel))
set_option maxRecDepth 20000 in
theorem gX3_percentAt_X3_findShift : GoodIn wsX3_percentAt (wsV RX3 101 RX3 yX3_findShift wsX3_findShift) := goodIn_app (goodIn_of _ (by decide +kernel)) ggX3_percentAt_X3_findShift
set_option maxRecDepth 20000 in
theorem ggX3_percentAt_X3_checkPaidQuarter : GoodIn wsX3_percentAt wsX3_checkPaidQuarter := goodIn_ca (goodIn_r _ [35, 6, 7, 36, 37, 38, 39, 40, 41, 42, 43, 44, 45, 46, 102, 103, 104, 105, 106] (by decide +kernel) (by decide +kernel)) (goodIn_sub (fun _ h => List.mem_cons_of_mem _ (List.mem_append_right _ h)) (by decide +kernel))
set_option maxRecDepth 20000 in
theorem gX3_percentAt_X3_checkPaidQuarter : GoodIn wsX3_percentAt (va_wsS RX3 122 yX3_checkPaidQuarter wsX3_checkPaidQuarter) := goodIn_app (goodIn_of _ (by decide +kernel)) ggX3_percentAt_X3_checkPaidQuarter
set_option maxRecDepth 20000 in
theorem ggX3_percentAt_X3_percentOf : GoodIn wsX3_percentAt wsX3_percentOf := goodIn_r _ [50, 51, 52, 53, 54, 4, 55, 56, 57, 58, 59, 60, 61, 62, 39, 63, 64, 65, 66, 67, 68, 69, 70, 71, 72, 73, 74, 75, 76, 10, 11, 12, 13, 14, 15, 16, 17, 18, 19, 20, 21, 22, 23, 24, 25, 26, 27, 28, 29, 30, 31, 32, 77, 78, 79, 80, 81, 82, 83, 84, 85, 86, 87, 88, 89, 90, 91, 92, 93, 107, 108, 109, 110, 111, 112, 113, 94, 95, 96, 97, 98, 102, 103, 104, 105, 106, 114, 99, 100, 101] (by decide +kernel) (by decide +kernel)
set_option maxRecDepth 20000 in
theorem gX3_percentAt_X3_percentOf : GoodIn wsX3_percentAt (wsV RX3 126 RX3 yX3_percentOf wsX3_percentOf) := goodIn_app (goodIn_of _ (by decide +kernel)) ggX3_percentAt_X3_percentOf
theorem dX3_percentAt_0 : decode cX3_percentAt 0 = .ok (.aload_n 0, 1) := by decide +kernel
theorem dX3_percentAt_1 : decode cX3_percentAt 1 = .ok (.iload_n 1, 1) := by decide +kernel
theorem dX3_percentAt_2 : decode cX3_percentAt 2 = .ok (.invokevirtual 101, 3) := by decide +kernel
theorem dX3_percentAt_5 : decode cX3_percentAt 5 = .ok (.astore_n 3, 1) := by decide +kernel
theorem dX3_percentAt_6 : decode cX3_percentAt 6 = .ok (.aload_n 3, 1) := by decide +kernel
theorem dX3_percentAt_7 : decode cX3_percentAt 7 = .ok (.iload_n 2, 1) := by decide +kernel
theorem dX3_percentAt_8 : decode cX3_percentAt 8 = .ok (.invokestatic 122, 3) := by decide +kernel
theorem dX3_percentAt_11 : decode cX3_percentAt 11 = .ok (.aload_n 0, 1) := by decide +kernel
theorem dX3_percentAt_12 : decode cX3_percentAt 12 = .ok (.aload_n 3, 1) := by decide +kernel
theorem dX3_percentAt_13 : decode cX3_percentAt 13 = .ok (.iload_n 2, 1) := by decide +kernel
theorem dX3_percentAt_14 : decode cX3_percentAt 14 = .ok (.invokevirtual 126, 3) := by decide +kernel
theorem dX3_percentAt_17 : decode cX3_percentAt 17 = .ok (.ireturn, 1) := by decide +kernel
set_option maxRecDepth 20000 in
theorem ggX3_reasonAt_X3_findShift : GoodIn wsX3_reasonAt wsX3_findShift := goodIn_ca (goodIn_r _ [6, 7, 8, 9, 10, 11, 12, 13, 14, 15, 16, 17, 18, 19, 20, 21, 22, 23, 24, 25, 26, 27, 28, 29, 30, 31, 32, 33, 98, 99, 100, 101, 102, 103, 104, 105] (by decide +kernel) (by decide +kernel)) (goodIn_sub (fun _ h => List.mem_cons_of_mem _ (List.mem_append_right _ h)) (by decide +kernel))
set_option maxRecDepth 20000 in
theorem gX3_reasonAt_X3_findShift : GoodIn wsX3_reasonAt (wsV RX3 101 RX3 yX3_findShift wsX3_findShift) := goodIn_app (goodIn_of _ (by decide +kernel)) ggX3_reasonAt_X3_findShift
set_option maxRecDepth 20000 in
theorem ggX3_reasonAt_X3_checkPaidQuarter : GoodIn wsX3_reasonAt wsX3_checkPaidQuarter := goodIn_ca (goodIn_r _ [36, 7, 8, 37, 38, 39, 40, 41, 42, 43, 44, 45, 46, 47, 106, 107, 108, 109, 110] (by decide +kernel) (by decide +kernel)) (goodIn_sub (fun _ h => List.mem_cons_of_mem _ (List.mem_append_right _ h)) (by decide +kernel))
set_option maxRecDepth 20000 in
theorem gX3_reasonAt_X3_checkPaidQuarter : GoodIn wsX3_reasonAt (va_wsS RX3 122 yX3_checkPaidQuarter wsX3_checkPaidQuarter) := goodIn_app (goodIn_of _ (by decide +kernel)) ggX3_reasonAt_X3_checkPaidQuarter
set_option maxRecDepth 20000 in
theorem ggX3_reasonAt_X3_decidingRule : GoodIn wsX3_reasonAt wsX3_decidingRule := goodIn_r _ [51, 52, 53, 54, 55, 56, 57, 58, 59, 40, 60, 61, 62, 63, 64, 65, 66, 67, 68, 5, 69, 70, 71, 72, 73, 11, 12, 13, 14, 15, 16, 17, 18, 19, 20, 21, 22, 23, 24, 25, 26, 27, 28, 29, 30, 31, 32, 33, 74, 75, 76, 77, 78, 79, 80, 81, 82, 83, 84, 85, 86, 87, 88, 89, 90, 98, 99, 100, 101, 102, 91, 92, 93, 94, 95, 96, 97, 106, 107, 108, 109, 110, 111, 103, 104, 105] (by decide +kernel) (by decide +kernel)
set_option maxRecDepth 20000 in
theorem gX3_reasonAt_X3_decidingRule : GoodIn wsX3_reasonAt (wsV RX3 130 RX3 yX3_decidingRule wsX3_decidingRule) := goodIn_app (goodIn_of _ (by decide +kernel)) ggX3_reasonAt_X3_decidingRule
theorem dX3_reasonAt_0 : decode cX3_reasonAt 0 = .ok (.aload_n 0, 1) := by decide +kernel
theorem dX3_reasonAt_1 : decode cX3_reasonAt 1 = .ok (.iload_n 1, 1) := by decide +kernel
theorem dX3_reasonAt_2 : decode cX3_reasonAt 2 = .ok (.invokevirtual 101, 3) := by decide +kernel
theorem dX3_reasonAt_5 : decode cX3_reasonAt 5 = .ok (.astore_n 3, 1) := by decide +kernel
theorem dX3_reasonAt_6 : decode cX3_reasonAt 6 = .ok (.aload_n 3, 1) := by decide +kernel
theorem dX3_reasonAt_7 : decode cX3_reasonAt 7 = .ok (.iload_n 2, 1) := by decide +kernel
theorem dX3_reasonAt_8 : decode cX3_reasonAt 8 = .ok (.invokestatic 122, 3) := by decide +kernel
theorem dX3_reasonAt_11 : decode cX3_reasonAt 11 = .ok (.aload_n 0, 1) := by decide +kernel
theorem dX3_reasonAt_12 : decode cX3_reasonAt 12 = .ok (.aload_n 3, 1) := by decide +kernel
theorem dX3_reasonAt_13 : decode cX3_reasonAt 13 = .ok (.iload_n 2, 1) := by decide +kernel
theorem dX3_reasonAt_14 : decode cX3_reasonAt 14 = .ok (.invokevirtual 130, 3) := by decide +kernel
theorem dX3_reasonAt_17 : decode cX3_reasonAt 17 = .ok (.astore 4, 2) := by decide +kernel
theorem dX3_reasonAt_19 : decode cX3_reasonAt 19 = .ok (.aload 4, 2) := by decide +kernel
theorem dX3_reasonAt_21 : decode cX3_reasonAt 21 = .ok (.ifnull 9, 3) := by decide +kernel
theorem dX3_reasonAt_24 : decode cX3_reasonAt 24 = .ok (.aload 4, 2) := by decide +kernel
theorem dX3_reasonAt_26 : decode cX3_reasonAt 26 = .ok (.getfield 134, 3) := by decide +kernel
theorem dX3_reasonAt_29 : decode cX3_reasonAt 29 = .ok (.ireturn, 1) := by decide +kernel
theorem dX3_reasonAt_30 : decode cX3_reasonAt 30 = .ok (.iload_n 2, 1) := by decide +kernel
theorem dX3_reasonAt_31 : decode cX3_reasonAt 31 = .ok (.bipush 32, 2) := by decide +kernel
theorem dX3_reasonAt_33 : decode cX3_reasonAt 33 = .ok (.if_icmp .lt 8, 3) := by decide +kernel
theorem dX3_reasonAt_36 : decode cX3_reasonAt 36 = .ok (.bipush (-2), 2) := by decide +kernel
theorem dX3_reasonAt_38 : decode cX3_reasonAt 38 = .ok (.goto 4, 3) := by decide +kernel
theorem dX3_reasonAt_41 : decode cX3_reasonAt 41 = .ok (.iconst (-1), 1) := by decide +kernel
theorem dX3_reasonAt_42 : decode cX3_reasonAt 42 = .ok (.ireturn, 1) := by decide +kernel
set_option maxRecDepth 20000 in
theorem ggX3_missed_X3_findShift : GoodIn wsX3_missed wsX3_findShift := goodIn_ca (goodIn_r _ [5, 6, 7, 8, 9, 10, 11, 12, 13, 14, 15, 16, 17, 18, 19, 20, 21, 22, 23, 24, 25, 26, 27, 28, 29, 30, 31, 32, 49, 50, 51, 52, 53, 54, 55, 56] (by decide +kernel) (by decide +kernel)) (goodIn_sub (fun _ h => List.mem_cons_of_mem _ (List.mem_append_right _ h)) (by decide +kernel))
set_option maxRecDepth 20000 in
theorem gX3_missed_X3_findShift : GoodIn wsX3_missed (wsV RX3 101 RX3 yX3_findShift wsX3_findShift) := goodIn_app (goodIn_of _ (by decide +kernel)) ggX3_missed_X3_findShift
set_option maxRecDepth 20000 in
theorem ggX3_missed_X1_breaksMissed : GoodIn wsX3_missed wsX1_breaksMissed := goodIn_r _ [37, 38, 39, 40, 41, 42, 43, 44, 45, 46, 36, 47, 48, 57, 58, 59, 60, 61] (by decide +kernel) (by decide +kernel)
set_option maxRecDepth 20000 in
theorem gX3_missed_X1_breaksMissed : GoodIn wsX3_missed (wsV RX3 137 RX1 yX1_breaksMissed wsX1_breaksMissed) := goodIn_app (goodIn_of _ (by decide +kernel)) ggX3_missed_X1_breaksMissed
theorem dX3_missed_0 : decode cX3_missed 0 = .ok (.aload_n 0, 1) := by decide +kernel
theorem dX3_missed_1 : decode cX3_missed 1 = .ok (.iload_n 1, 1) := by decide +kernel
theorem dX3_missed_2 : decode cX3_missed 2 = .ok (.invokevirtual 101, 3) := by decide +kernel
theorem dX3_missed_5 : decode cX3_missed 5 = .ok (.invokevirtual 137, 3) := by decide +kernel
theorem dX3_missed_8 : decode cX3_missed 8 = .ok (.ireturn, 1) := by decide +kernel
set_option maxRecDepth 20000 in
theorem ggX3_pay_X3_findShift : GoodIn wsX3_pay wsX3_findShift := goodIn_ca (goodIn_r _ [5, 6, 7, 8, 9, 10, 11, 12, 13, 14, 15, 16, 17, 18, 19, 20, 21, 22, 23, 24, 25, 26, 27, 28, 29, 30, 31, 32, 112, 113, 114, 115, 116, 117, 118, 119] (by decide +kernel) (by decide +kernel)) (goodIn_sub (fun _ h => List.mem_cons_of_mem _ (List.mem_append_right _ h)) (by decide +kernel))
set_option maxRecDepth 20000 in
theorem gX3_pay_X3_findShift : GoodIn wsX3_pay (wsV RX3 101 RX3 yX3_findShift wsX3_findShift) := goodIn_app (goodIn_of _ (by decide +kernel)) ggX3_pay_X3_findShift
set_option maxRecDepth 20000 in
theorem ggX3_pay_X3_payFor : GoodIn wsX3_pay wsX3_payFor := goodIn_r _ [36, 37, 38, 39, 40, 41, 4, 42, 43, 44, 45, 46, 47, 48, 49, 50, 51, 52, 53, 54, 55, 56, 57, 58, 59, 60, 61, 62, 63, 64, 65, 66, 67, 68, 69, 70, 71, 72, 73, 74, 75, 76, 77, 78, 79, 80, 81, 82, 83, 84, 85, 86, 87, 88, 89, 90, 91, 10, 11, 12, 13, 14, 15, 16, 17, 18, 19, 20, 21, 22, 23, 24, 25, 26, 27, 28, 29, 30, 31, 32, 92, 93, 94, 95, 96, 97, 98, 99, 100, 101, 102, 103, 104, 105, 106, 107, 108, 109, 110, 111, 120, 121, 122, 123, 124, 125, 112, 113, 114, 115, 116, 126, 127, 128, 129, 130, 131, 132, 117, 118, 119] (by decide +kernel) (by decide +kernel)
set_option maxRecDepth 20000 in
theorem gX3_pay_X3_payFor : GoodIn wsX3_pay (wsV RX3 109 RX3 yX3_payFor wsX3_payFor) := goodIn_app (goodIn_of _ (by decide +kernel)) ggX3_pay_X3_payFor
theorem dX3_pay_0 : decode cX3_pay 0 = .ok (.aload_n 0, 1) := by decide +kernel
theorem dX3_pay_1 : decode cX3_pay 1 = .ok (.aload_n 0, 1) := by decide +kernel
theorem dX3_pay_2 : decode cX3_pay 2 = .ok (.iload_n 1, 1) := by decide +kernel
theorem dX3_pay_3 : decode cX3_pay 3 = .ok (.invokevirtual 101, 3) := by decide +kernel
theorem dX3_pay_6 : decode cX3_pay 6 = .ok (.invokevirtual 109, 3) := by decide +kernel
theorem dX3_pay_9 : decode cX3_pay 9 = .ok (.ireturn, 1) := by decide +kernel
set_option maxRecDepth 20000 in
theorem ggX3_payOf_X3_findWorker : GoodIn wsX3_payOf wsX3_findWorker := goodIn_ca (goodIn_r _ [8, 9, 10, 11, 12, 13, 14, 15, 16, 17, 18, 19, 20, 21, 22, 23, 24, 25, 26, 27, 28, 29, 30, 31, 32, 33, 34, 35, 119, 120, 121, 122, 123, 129, 130, 131] (by decide +kernel) (by decide +kernel)) (goodIn_sub (fun _ h => List.mem_cons_of_mem _ (List.mem_append_left _ (List.mem_append_right _ h))) (by decide +kernel))
set_option maxRecDepth 20000 in
theorem gX3_payOf_X3_findWorker : GoodIn wsX3_payOf (wsV RX3 82 RX3 yX3_findWorker wsX3_findWorker) := goodIn_app (goodIn_of _ (by decide +kernel)) ggX3_payOf_X3_findWorker
set_option maxRecDepth 20000 in
theorem ggX3_payOf_X3_checkArgument : GoodIn wsX3_payOf wsX3_checkArgument := goodIn_ca (goodIn_r _ [38, 39, 40] (by decide +kernel) (by decide +kernel)) (goodIn_sub (fun _ h => List.mem_cons_of_mem _ (List.mem_append_right _ h)) (by decide +kernel))
set_option maxRecDepth 20000 in
theorem gX3_payOf_X3_checkArgument : GoodIn wsX3_payOf (va_wsS RX3 43 yX3_checkArgument wsX3_checkArgument) := goodIn_app (goodIn_of _ (by decide +kernel)) ggX3_payOf_X3_checkArgument
set_option maxRecDepth 20000 in
theorem ggX3_payOf_Jx4a65c_size_8abf5 : GoodIn wsX3_payOf wsJx4a65c_size_8abf5 := goodIn_r _ [17, 18, 129, 130, 131] (by decide +kernel) (by decide +kernel)
set_option maxRecDepth 20000 in
theorem gX3_payOf_Jx4a65c_size_8abf5 : GoodIn wsX3_payOf (wsV RX3 47 RJx4a65c yJx4a65c_size_8abf5 wsJx4a65c_size_8abf5) := goodIn_app (goodIn_of _ (by decide +kernel)) ggX3_payOf_Jx4a65c_size_8abf5
set_option maxRecDepth 20000 in
theorem ggX3_payOf_Jx4a65c_get_915e3 : GoodIn wsX3_payOf wsJx4a65c_get_915e3 := goodIn_r _ [22, 18, 23, 24, 25, 26, 27, 28, 29, 30, 31, 32, 33, 16, 34, 35, 129, 130, 131] (by decide +kernel) (by decide +kernel)
set_option maxRecDepth 20000 in
theorem gX3_payOf_Jx4a65c_get_915e3 : GoodIn wsX3_payOf (wsV RX3 140 RJx4a65c yJx4a65c_get_915e3 wsJx4a65c_get_915e3) := goodIn_app (goodIn_of _ (by decide +kernel)) ggX3_payOf_Jx4a65c_get_915e3
set_option maxRecDepth 20000 in
theorem ggX3_payOf_X1_dayOf : GoodIn wsX3_payOf wsX1_dayOf := goodIn_r _ [45, 46, 124, 125, 126, 127, 128] (by decide +kernel) (by decide +kernel)
set_option maxRecDepth 20000 in
theorem gX3_payOf_X1_dayOf : GoodIn wsX3_payOf (wsV RX3 144 RX1 yX1_dayOf wsX1_dayOf) := goodIn_app (goodIn_of _ (by decide +kernel)) ggX3_payOf_X1_dayOf
set_option maxRecDepth 20000 in
theorem ggX3_payOf_X3_payFor : GoodIn wsX3_payOf wsX3_payFor := goodIn_r _ [50, 3, 51, 52, 53, 54, 7, 55, 56, 57, 58, 59, 44, 60, 61, 62, 63, 64, 65, 66, 67, 68, 69, 70, 71, 72, 73, 74, 75, 76, 77, 78, 79, 80, 81, 82, 83, 84, 85, 86, 41, 42, 43, 45, 46, 87, 88, 89, 90, 91, 92, 93, 94, 95, 96, 97, 98, 13, 14, 15, 16, 17, 18, 19, 20, 21, 22, 23, 24, 25, 26, 27, 28, 29, 30, 31, 32, 33, 34, 35, 99, 100, 101, 102, 103, 104, 105, 106, 107, 108, 109, 110, 111, 112, 113, 114, 115, 116, 117, 118, 124, 125, 126, 127, 128, 132, 119, 120, 121, 122, 123, 133, 134, 135, 136, 137, 138, 139, 129, 130, 131] (by decide +kernel) (by decide +kernel)
set_option maxRecDepth 20000 in
theorem gX3_payOf_X3_payFor : GoodIn wsX3_payOf (wsV RX3 109 RX3 yX3_payFor wsX3_payFor) := goodIn_app (goodIn_of _ (by decide +kernel)) ggX3_payOf_X3_payFor
theorem dX3_payOf_0 : decode cX3_payOf 0 = .ok (.aload_n 0, 1) := by decide +kernel
theorem dX3_payOf_1 : decode cX3_payOf 1 = .ok (.iload_n 1, 1) := by decide +kernel
theorem dX3_payOf_2 : decode cX3_payOf 2 = .ok (.invokevirtual 82, 3) := by decide +kernel
theorem dX3_payOf_5 : decode cX3_payOf 5 = .ok (.astore 4, 2) := by decide +kernel
theorem dX3_payOf_7 : decode cX3_payOf 7 = .ok (.iload_n 2, 1) := by decide +kernel
theorem dX3_payOf_8 : decode cX3_payOf 8 = .ok (.iconst 0, 1) := by decide +kernel
theorem dX3_payOf_9 : decode cX3_payOf 9 = .ok (.sipush 363, 3) := by decide +kernel
theorem dX3_payOf_12 : decode cX3_payOf 12 = .ok (.invokestatic 43, 3) := by decide +kernel
theorem dX3_payOf_15 : decode cX3_payOf 15 = .ok (.iload_n 3, 1) := by decide +kernel
theorem dX3_payOf_16 : decode cX3_payOf 16 = .ok (.iload_n 2, 1) := by decide +kernel
theorem dX3_payOf_17 : decode cX3_payOf 17 = .ok (.sipush 363, 3) := by decide +kernel
theorem dX3_payOf_20 : decode cX3_payOf 20 = .ok (.invokestatic 43, 3) := by decide +kernel
theorem dX3_payOf_23 : decode cX3_payOf 23 = .ok (.iconst 0, 1) := by decide +kernel
theorem dX3_payOf_24 : decode cX3_payOf 24 = .ok (.istore 5, 2) := by decide +kernel
theorem dX3_payOf_26 : decode cX3_payOf 26 = .ok (.iconst 0, 1) := by decide +kernel
theorem dX3_payOf_27 : decode cX3_payOf 27 = .ok (.istore 6, 2) := by decide +kernel
theorem dX3_payOf_29 : decode cX3_payOf 29 = .ok (.iload 6, 2) := by decide +kernel
theorem dX3_payOf_31 : decode cX3_payOf 31 = .ok (.aload_n 0, 1) := by decide +kernel
theorem dX3_payOf_32 : decode cX3_payOf 32 = .ok (.getfield 33, 3) := by decide +kernel
theorem dX3_payOf_35 : decode cX3_payOf 35 = .ok (.invokevirtual 47, 3) := by decide +kernel
theorem dX3_payOf_38 : decode cX3_payOf 38 = .ok (.if_icmp .ge 64, 3) := by decide +kernel
theorem dX3_payOf_41 : decode cX3_payOf 41 = .ok (.aload_n 0, 1) := by decide +kernel
theorem dX3_payOf_42 : decode cX3_payOf 42 = .ok (.getfield 33, 3) := by decide +kernel
theorem dX3_payOf_45 : decode cX3_payOf 45 = .ok (.iload 6, 2) := by decide +kernel
theorem dX3_payOf_47 : decode cX3_payOf 47 = .ok (.invokevirtual 140, 3) := by decide +kernel
theorem dX3_payOf_50 : decode cX3_payOf 50 = .ok (.checkcast 96, 3) := by decide +kernel
theorem dX3_payOf_53 : decode cX3_payOf 53 = .ok (.astore 7, 2) := by decide +kernel
theorem dX3_payOf_55 : decode cX3_payOf 55 = .ok (.aload 7, 2) := by decide +kernel
theorem dX3_payOf_57 : decode cX3_payOf 57 = .ok (.iconst 0, 1) := by decide +kernel
theorem dX3_payOf_58 : decode cX3_payOf 58 = .ok (.invokevirtual 144, 3) := by decide +kernel
theorem dX3_payOf_61 : decode cX3_payOf 61 = .ok (.istore 8, 2) := by decide +kernel
theorem dX3_payOf_63 : decode cX3_payOf 63 = .ok (.aload 7, 2) := by decide +kernel
theorem dX3_payOf_65 : decode cX3_payOf 65 = .ok (.getfield 148, 3) := by decide +kernel
theorem dX3_payOf_68 : decode cX3_payOf 68 = .ok (.aload 4, 2) := by decide +kernel
theorem dX3_payOf_70 : decode cX3_payOf 70 = .ok (.if_acmp .ne 26, 3) := by decide +kernel
theorem dX3_payOf_73 : decode cX3_payOf 73 = .ok (.iload 8, 2) := by decide +kernel
theorem dX3_payOf_75 : decode cX3_payOf 75 = .ok (.iload_n 2, 1) := by decide +kernel
theorem dX3_payOf_76 : decode cX3_payOf 76 = .ok (.if_icmp .lt 20, 3) := by decide +kernel
theorem dX3_payOf_79 : decode cX3_payOf 79 = .ok (.iload 8, 2) := by decide +kernel
theorem dX3_payOf_81 : decode cX3_payOf 81 = .ok (.iload_n 3, 1) := by decide +kernel
theorem dX3_payOf_82 : decode cX3_payOf 82 = .ok (.if_icmp .gt 14, 3) := by decide +kernel
theorem dX3_payOf_85 : decode cX3_payOf 85 = .ok (.iload 5, 2) := by decide +kernel
theorem dX3_payOf_87 : decode cX3_payOf 87 = .ok (.aload_n 0, 1) := by decide +kernel
theorem dX3_payOf_88 : decode cX3_payOf 88 = .ok (.aload 7, 2) := by decide +kernel
theorem dX3_payOf_90 : decode cX3_payOf 90 = .ok (.invokevirtual 109, 3) := by decide +kernel
theorem dX3_payOf_93 : decode cX3_payOf 93 = .ok (.iadd, 1) := by decide +kernel
theorem dX3_payOf_94 : decode cX3_payOf 94 = .ok (.istore 5, 2) := by decide +kernel
theorem dX3_payOf_96 : decode cX3_payOf 96 = .ok (.iinc 6 1, 3) := by decide +kernel
theorem dX3_payOf_99 : decode cX3_payOf 99 = .ok (.goto (-70), 3) := by decide +kernel
theorem dX3_payOf_102 : decode cX3_payOf 102 = .ok (.iload 5, 2) := by decide +kernel
theorem dX3_payOf_104 : decode cX3_payOf 104 = .ok (.ireturn, 1) := by decide +kernel
set_option maxRecDepth 20000 in
theorem ggX3_paidBy_X3_findRule : GoodIn wsX3_paidBy wsX3_findRule := goodIn_ca (goodIn_r _ [7, 8, 9, 10, 11, 12, 13, 14, 15, 16, 17, 18, 19, 20, 21, 22, 23, 24, 25, 26, 27, 28, 29, 30, 31, 32, 33, 34, 100, 101, 102, 103, 104, 105, 106, 107] (by decide +kernel) (by decide +kernel)) (goodIn_sub (fun _ h => List.mem_cons_of_mem _ (List.mem_append_right _ h)) (by decide +kernel))
set_option maxRecDepth 20000 in
theorem gX3_paidBy_X3_findRule : GoodIn wsX3_paidBy (wsV RX3 65 RX3 yX3_findRule wsX3_findRule) := goodIn_app (goodIn_of _ (by decide +kernel)) ggX3_paidBy_X3_findRule
set_option maxRecDepth 20000 in
theorem ggX3_paidBy_Jx4a65c_size_8abf5 : GoodIn wsX3_paidBy wsJx4a65c_size_8abf5 := goodIn_r _ [16, 17, 105, 106, 107] (by decide +kernel) (by decide +kernel)
set_option maxRecDepth 20000 in
theorem gX3_paidBy_Jx4a65c_size_8abf5 : GoodIn wsX3_paidBy (wsV RX3 47 RJx4a65c yJx4a65c_size_8abf5 wsJx4a65c_size_8abf5) := goodIn_app (goodIn_of _ (by decide +kernel)) ggX3_paidBy_Jx4a65c_size_8abf5
set_option maxRecDepth 20000 in
theorem ggX3_paidBy_Jx4a65c_get_915e3 : GoodIn wsX3_paidBy wsJx4a65c_get_915e3 := goodIn_r _ [21, 17, 22, 23, 24, 25, 26, 27, 28, 29, 30, 31, 32, 15, 33, 34, 105, 106, 107] (by decide +kernel) (by decide +kernel)
set_option maxRecDepth 20000 in
theorem gX3_paidBy_Jx4a65c_get_915e3 : GoodIn wsX3_paidBy (wsV RX3 140 RJx4a65c yJx4a65c_get_915e3 wsJx4a65c_get_915e3) := goodIn_app (goodIn_of _ (by decide +kernel)) ggX3_paidBy_Jx4a65c_get_915e3
set_option maxRecDepth 20000 in
theorem ggX3_paidBy_X3_payByRule : GoodIn wsX3_paidBy wsX3_payByRule := goodIn_r _ [38, 39, 40, 41, 42, 43, 44, 45, 6, 46, 47, 48, 49, 50, 51, 52, 53, 54, 55, 56, 57, 58, 59, 60, 61, 62, 10, 11, 63, 64, 65, 66, 67, 68, 69, 70, 71, 72, 73, 74, 75, 76, 77, 78, 79, 12, 13, 14, 15, 16, 17, 18, 19, 20, 21, 22, 23, 24, 25, 26, 27, 28, 29, 30, 31, 32, 33, 34, 80, 81, 82, 83, 84, 85, 86, 87, 88, 89, 90, 91, 92, 93, 94, 95, 96, 97, 98, 99, 108, 109, 110, 111, 112, 113, 114, 115, 116, 117, 118, 119, 120, 100, 101, 102, 103, 104, 105, 106, 107] (by decide +kernel) (by decide +kernel)
set_option maxRecDepth 20000 in
theorem gX3_paidBy_X3_payByRule : GoodIn wsX3_paidBy (wsV RX3 152 RX3 yX3_payByRule wsX3_payByRule) := goodIn_app (goodIn_of _ (by decide +kernel)) ggX3_paidBy_X3_payByRule
theorem dX3_paidBy_0 : decode cX3_paidBy 0 = .ok (.aload_n 0, 1) := by decide +kernel
theorem dX3_paidBy_1 : decode cX3_paidBy 1 = .ok (.iload_n 1, 1) := by decide +kernel
theorem dX3_paidBy_2 : decode cX3_paidBy 2 = .ok (.invokevirtual 65, 3) := by decide +kernel
theorem dX3_paidBy_5 : decode cX3_paidBy 5 = .ok (.astore_n 2, 1) := by decide +kernel
theorem dX3_paidBy_6 : decode cX3_paidBy 6 = .ok (.iconst 0, 1) := by decide +kernel
theorem dX3_paidBy_7 : decode cX3_paidBy 7 = .ok (.istore_n 3, 1) := by decide +kernel
theorem dX3_paidBy_8 : decode cX3_paidBy 8 = .ok (.iconst 0, 1) := by decide +kernel
theorem dX3_paidBy_9 : decode cX3_paidBy 9 = .ok (.istore 4, 2) := by decide +kernel
theorem dX3_paidBy_11 : decode cX3_paidBy 11 = .ok (.iload 4, 2) := by decide +kernel
theorem dX3_paidBy_13 : decode cX3_paidBy 13 = .ok (.aload_n 0, 1) := by decide +kernel
theorem dX3_paidBy_14 : decode cX3_paidBy 14 = .ok (.getfield 33, 3) := by decide +kernel
theorem dX3_paidBy_17 : decode cX3_paidBy 17 = .ok (.invokevirtual 47, 3) := by decide +kernel
theorem dX3_paidBy_20 : decode cX3_paidBy 20 = .ok (.if_icmp .ge 29, 3) := by decide +kernel
theorem dX3_paidBy_23 : decode cX3_paidBy 23 = .ok (.iload_n 3, 1) := by decide +kernel
theorem dX3_paidBy_24 : decode cX3_paidBy 24 = .ok (.aload_n 0, 1) := by decide +kernel
theorem dX3_paidBy_25 : decode cX3_paidBy 25 = .ok (.aload_n 0, 1) := by decide +kernel
theorem dX3_paidBy_26 : decode cX3_paidBy 26 = .ok (.getfield 33, 3) := by decide +kernel
theorem dX3_paidBy_29 : decode cX3_paidBy 29 = .ok (.iload 4, 2) := by decide +kernel
theorem dX3_paidBy_31 : decode cX3_paidBy 31 = .ok (.invokevirtual 140, 3) := by decide +kernel
theorem dX3_paidBy_34 : decode cX3_paidBy 34 = .ok (.checkcast 96, 3) := by decide +kernel
theorem dX3_paidBy_37 : decode cX3_paidBy 37 = .ok (.aload_n 2, 1) := by decide +kernel
theorem dX3_paidBy_38 : decode cX3_paidBy 38 = .ok (.invokevirtual 152, 3) := by decide +kernel
theorem dX3_paidBy_41 : decode cX3_paidBy 41 = .ok (.iadd, 1) := by decide +kernel
theorem dX3_paidBy_42 : decode cX3_paidBy 42 = .ok (.istore_n 3, 1) := by decide +kernel
theorem dX3_paidBy_43 : decode cX3_paidBy 43 = .ok (.iinc 4 1, 3) := by decide +kernel
theorem dX3_paidBy_46 : decode cX3_paidBy 46 = .ok (.goto (-35), 3) := by decide +kernel
theorem dX3_paidBy_49 : decode cX3_paidBy 49 = .ok (.iload_n 3, 1) := by decide +kernel
theorem dX3_paidBy_50 : decode cX3_paidBy 50 = .ok (.ireturn, 1) := by decide +kernel
set_option maxRecDepth 20000 in
theorem ggX3_worked_X3_findWorker : GoodIn wsX3_worked wsX3_findWorker := goodIn_ca (goodIn_r _ [5, 6, 7, 8, 9, 10, 11, 12, 13, 14, 15, 16, 17, 18, 19, 20, 21, 22, 23, 24, 25, 26, 27, 28, 29, 30, 31, 32, 64, 65, 66, 67, 68, 69, 70, 71] (by decide +kernel) (by decide +kernel)) (goodIn_sub (fun _ h => List.mem_cons_of_mem _ (List.mem_append_left _ (List.mem_append_right _ h))) (by decide +kernel))
set_option maxRecDepth 20000 in
theorem gX3_worked_X3_findWorker : GoodIn wsX3_worked (wsV RX3 82 RX3 yX3_findWorker wsX3_findWorker) := goodIn_app (goodIn_of _ (by decide +kernel)) ggX3_worked_X3_findWorker
set_option maxRecDepth 20000 in
theorem ggX3_worked_X3_checkArgument : GoodIn wsX3_worked wsX3_checkArgument := goodIn_ca (goodIn_r _ [35, 36, 37] (by decide +kernel) (by decide +kernel)) (goodIn_sub (fun _ h => List.mem_cons_of_mem _ (List.mem_append_right _ h)) (by decide +kernel))
set_option maxRecDepth 20000 in
theorem gX3_worked_X3_checkArgument : GoodIn wsX3_worked (va_wsS RX3 43 yX3_checkArgument wsX3_checkArgument) := goodIn_app (goodIn_of _ (by decide +kernel)) ggX3_worked_X3_checkArgument
set_option maxRecDepth 20000 in
theorem ggX3_worked_X3_workedInWeeks : GoodIn wsX3_worked wsX3_workedInWeeks := goodIn_r _ [41, 42, 43, 44, 4, 45, 46, 47, 48, 49, 10, 11, 12, 13, 14, 15, 16, 17, 18, 19, 20, 21, 22, 23, 24, 25, 26, 27, 28, 29, 30, 31, 32, 50, 51, 52, 53, 54, 55, 56, 57, 58, 59, 60, 61, 62, 63, 64, 65, 66, 67, 68, 72, 73, 74, 75, 76, 69, 70, 71] (by decide +kernel) (by decide +kernel)
set_option maxRecDepth 20000 in
theorem gX3_worked_X3_workedInWeeks : GoodIn wsX3_worked (wsV RX3 156 RX3 yX3_workedInWeeks wsX3_workedInWeeks) := goodIn_app (goodIn_of _ (by decide +kernel)) ggX3_worked_X3_workedInWeeks
theorem dX3_worked_0 : decode cX3_worked 0 = .ok (.aload_n 0, 1) := by decide +kernel
theorem dX3_worked_1 : decode cX3_worked 1 = .ok (.iload_n 1, 1) := by decide +kernel
theorem dX3_worked_2 : decode cX3_worked 2 = .ok (.invokevirtual 82, 3) := by decide +kernel
theorem dX3_worked_5 : decode cX3_worked 5 = .ok (.astore_n 3, 1) := by decide +kernel
theorem dX3_worked_6 : decode cX3_worked 6 = .ok (.iload_n 2, 1) := by decide +kernel
theorem dX3_worked_7 : decode cX3_worked 7 = .ok (.iconst 0, 1) := by decide +kernel
theorem dX3_worked_8 : decode cX3_worked 8 = .ok (.bipush 51, 2) := by decide +kernel
theorem dX3_worked_10 : decode cX3_worked 10 = .ok (.invokestatic 43, 3) := by decide +kernel
theorem dX3_worked_13 : decode cX3_worked 13 = .ok (.aload_n 0, 1) := by decide +kernel
theorem dX3_worked_14 : decode cX3_worked 14 = .ok (.aload_n 3, 1) := by decide +kernel
theorem dX3_worked_15 : decode cX3_worked 15 = .ok (.iload_n 2, 1) := by decide +kernel
theorem dX3_worked_16 : decode cX3_worked 16 = .ok (.iconst 1, 1) := by decide +kernel
theorem dX3_worked_17 : decode cX3_worked 17 = .ok (.invokevirtual 156, 3) := by decide +kernel
theorem dX3_worked_20 : decode cX3_worked 20 = .ok (.ireturn, 1) := by decide +kernel
set_option maxRecDepth 20000 in
theorem ggX3_excess_X3_findWorker : GoodIn wsX3_excess wsX3_findWorker := goodIn_ca (goodIn_r _ [9, 10, 11, 12, 13, 14, 15, 16, 17, 18, 19, 20, 21, 22, 23, 24, 25, 26, 27, 28, 29, 30, 31, 32, 33, 34, 35, 36, 65, 66, 67, 68, 69, 70, 71, 72] (by decide +kernel) (by decide +kernel)) (goodIn_sub (fun _ h => List.mem_cons_of_mem _ (List.mem_append_left _ (List.mem_append_right _ h))) (by decide +kernel))
set_option maxRecDepth 20000 in
theorem gX3_excess_X3_findWorker : GoodIn wsX3_excess (wsV RX3 82 RX3 yX3_findWorker wsX3_findWorker) := goodIn_app (goodIn_of _ (by decide +kernel)) ggX3_excess_X3_findWorker
set_option maxRecDepth 20000 in
theorem ggX3_excess_X3_checkArgument : GoodIn wsX3_excess wsX3_checkArgument := goodIn_ca (goodIn_r _ [39, 40, 41] (by decide +kernel) (by decide +kernel)) (goodIn_sub (fun _ h => List.mem_cons_of_mem _ (List.mem_append_right _ h)) (by decide +kernel))
set_option maxRecDepth 20000 in
theorem gX3_excess_X3_checkArgument : GoodIn wsX3_excess (va_wsS RX3 43 yX3_checkArgument wsX3_checkArgument) := goodIn_app (goodIn_of _ (by decide +kernel)) ggX3_excess_X3_checkArgument
set_option maxRecDepth 20000 in
theorem ggX3_excess_X3_workedInWeeks : GoodIn wsX3_excess wsX3_workedInWeeks := goodIn_r _ [45, 46, 47, 48, 8, 49, 50, 51, 52, 53, 14, 15, 16, 17, 18, 19, 20, 21, 22, 23, 24, 25, 26, 27, 28, 29, 30, 31, 32, 33, 34, 35, 36, 54, 55, 56, 57, 58, 59, 60, 61, 62, 3, 63, 64, 2, 4, 65, 66, 67, 68, 69, 73, 74, 75, 76, 77, 70, 71, 72] (by decide +kernel) (by decide +kernel)
set_option maxRecDepth 20000 in
theorem gX3_excess_X3_workedInWeeks : GoodIn wsX3_excess (wsV RX3 156 RX3 yX3_workedInWeeks wsX3_workedInWeeks) := goodIn_app (goodIn_of _ (by decide +kernel)) ggX3_excess_X3_workedInWeeks
theorem dX3_excess_0 : decode cX3_excess 0 = .ok (.aload_n 0, 1) := by decide +kernel
theorem dX3_excess_1 : decode cX3_excess 1 = .ok (.iload_n 1, 1) := by decide +kernel
theorem dX3_excess_2 : decode cX3_excess 2 = .ok (.invokevirtual 82, 3) := by decide +kernel
theorem dX3_excess_5 : decode cX3_excess 5 = .ok (.astore_n 3, 1) := by decide +kernel
theorem dX3_excess_6 : decode cX3_excess 6 = .ok (.iload_n 2, 1) := by decide +kernel
theorem dX3_excess_7 : decode cX3_excess 7 = .ok (.iconst 0, 1) := by decide +kernel
theorem dX3_excess_8 : decode cX3_excess 8 = .ok (.bipush 12, 2) := by decide +kernel
theorem dX3_excess_10 : decode cX3_excess 10 = .ok (.invokestatic 43, 3) := by decide +kernel
theorem dX3_excess_13 : decode cX3_excess 13 = .ok (.aload_n 0, 1) := by decide +kernel
theorem dX3_excess_14 : decode cX3_excess 14 = .ok (.aload_n 3, 1) := by decide +kernel
theorem dX3_excess_15 : decode cX3_excess 15 = .ok (.iload_n 2, 1) := by decide +kernel
theorem dX3_excess_16 : decode cX3_excess 16 = .ok (.iconst 4, 1) := by decide +kernel
theorem dX3_excess_17 : decode cX3_excess 17 = .ok (.imul, 1) := by decide +kernel
theorem dX3_excess_18 : decode cX3_excess 18 = .ok (.iconst 4, 1) := by decide +kernel
theorem dX3_excess_19 : decode cX3_excess 19 = .ok (.invokevirtual 156, 3) := by decide +kernel
theorem dX3_excess_22 : decode cX3_excess 22 = .ok (.istore 4, 2) := by decide +kernel
theorem dX3_excess_24 : decode cX3_excess 24 = .ok (.iload 4, 2) := by decide +kernel
theorem dX3_excess_26 : decode cX3_excess 26 = .ok (.sipush 608, 3) := by decide +kernel
theorem dX3_excess_29 : decode cX3_excess 29 = .ok (.isub, 1) := by decide +kernel
theorem dX3_excess_30 : decode cX3_excess 30 = .ok (.iconst 0, 1) := by decide +kernel
theorem dX3_excess_31 : decode cX3_excess 31 = .ok (.invokestatic 160, 3) := by decide +kernel
theorem dX3_excess_34 : decode cX3_excess 34 = .ok (.ireturn, 1) := by decide +kernel
theorem dX3_checkArgument_0 : decode cX3_checkArgument 0 = .ok (.iload_n 0, 1) := by decide +kernel
theorem dX3_checkArgument_1 : decode cX3_checkArgument 1 = .ok (.iload_n 1, 1) := by decide +kernel
theorem dX3_checkArgument_2 : decode cX3_checkArgument 2 = .ok (.if_icmp .lt 8, 3) := by decide +kernel
theorem dX3_checkArgument_5 : decode cX3_checkArgument 5 = .ok (.iload_n 0, 1) := by decide +kernel
theorem dX3_checkArgument_6 : decode cX3_checkArgument 6 = .ok (.iload_n 2, 1) := by decide +kernel
theorem dX3_checkArgument_7 : decode cX3_checkArgument 7 = .ok (.if_icmp .le 13, 3) := by decide +kernel
theorem dX3_checkArgument_10 : decode cX3_checkArgument 10 = .ok (.new 36, 3) := by decide +kernel
theorem dX3_checkArgument_13 : decode cX3_checkArgument 13 = .ok (.dup, 1) := by decide +kernel
theorem dX3_checkArgument_14 : decode cX3_checkArgument 14 = .ok (.ldc 166, 2) := by decide +kernel
theorem dX3_checkArgument_16 : decode cX3_checkArgument 16 = .ok (.invokespecial 40, 3) := by decide +kernel
theorem dX3_checkArgument_19 : decode cX3_checkArgument 19 = .ok (.athrow, 1) := by decide +kernel
theorem dX3_checkArgument_20 : decode cX3_checkArgument 20 = .ok (.return_, 1) := by decide +kernel
theorem dX3_checkNotCancelled_0 : decode cX3_checkNotCancelled 0 = .ok (.aload_n 0, 1) := by decide +kernel
theorem dX3_checkNotCancelled_1 : decode cX3_checkNotCancelled 1 = .ok (.getfield 113, 3) := by decide +kernel
theorem dX3_checkNotCancelled_4 : decode cX3_checkNotCancelled 4 = .ok (.ifCond .eq 13, 3) := by decide +kernel
theorem dX3_checkNotCancelled_7 : decode cX3_checkNotCancelled 7 = .ok (.new 51, 3) := by decide +kernel
theorem dX3_checkNotCancelled_10 : decode cX3_checkNotCancelled 10 = .ok (.dup, 1) := by decide +kernel
theorem dX3_checkNotCancelled_11 : decode cX3_checkNotCancelled 11 = .ok (.ldc 168, 2) := by decide +kernel
theorem dX3_checkNotCancelled_13 : decode cX3_checkNotCancelled 13 = .ok (.invokespecial 55, 3) := by decide +kernel
theorem dX3_checkNotCancelled_16 : decode cX3_checkNotCancelled 16 = .ok (.athrow, 1) := by decide +kernel
theorem dX3_checkNotCancelled_17 : decode cX3_checkNotCancelled 17 = .ok (.return_, 1) := by decide +kernel
set_option maxRecDepth 20000 in
theorem ggX3_checkPaidQuarter_X1_paidLength : GoodIn wsX3_checkPaidQuarter wsX1_paidLength := goodIn_r _ [7, 8, 9, 10, 11, 12, 13, 14, 15, 16, 17, 18] (by decide +kernel) (by decide +kernel)
set_option maxRecDepth 20000 in
theorem gX3_checkPaidQuarter_X1_paidLength : GoodIn wsX3_checkPaidQuarter (wsV RX3 119 RX1 yX1_paidLength wsX1_paidLength) := goodIn_app (goodIn_of _ (by decide +kernel)) ggX3_checkPaidQuarter_X1_paidLength
theorem dX3_checkPaidQuarter_0 : decode cX3_checkPaidQuarter 0 = .ok (.iload_n 1, 1) := by decide +kernel
theorem dX3_checkPaidQuarter_1 : decode cX3_checkPaidQuarter 1 = .ok (.ifCond .lt 11, 3) := by decide +kernel
theorem dX3_checkPaidQuarter_4 : decode cX3_checkPaidQuarter 4 = .ok (.iload_n 1, 1) := by decide +kernel
theorem dX3_checkPaidQuarter_5 : decode cX3_checkPaidQuarter 5 = .ok (.aload_n 0, 1) := by decide +kernel
theorem dX3_checkPaidQuarter_6 : decode cX3_checkPaidQuarter 6 = .ok (.invokevirtual 119, 3) := by decide +kernel
theorem dX3_checkPaidQuarter_9 : decode cX3_checkPaidQuarter 9 = .ok (.if_icmp .lt 13, 3) := by decide +kernel
theorem dX3_checkPaidQuarter_12 : decode cX3_checkPaidQuarter 12 = .ok (.new 170, 3) := by decide +kernel
theorem dX3_checkPaidQuarter_15 : decode cX3_checkPaidQuarter 15 = .ok (.dup, 1) := by decide +kernel
theorem dX3_checkPaidQuarter_16 : decode cX3_checkPaidQuarter 16 = .ok (.ldc 172, 2) := by decide +kernel
theorem dX3_checkPaidQuarter_18 : decode cX3_checkPaidQuarter 18 = .ok (.invokespecial 174, 3) := by decide +kernel
theorem dX3_checkPaidQuarter_21 : decode cX3_checkPaidQuarter 21 = .ok (.athrow, 1) := by decide +kernel
theorem dX3_checkPaidQuarter_22 : decode cX3_checkPaidQuarter 22 = .ok (.return_, 1) := by decide +kernel
set_option maxRecDepth 20000 in
theorem ggX3_findRule_Jx4a65c_size_8abf5 : GoodIn wsX3_findRule wsJx4a65c_size_8abf5 := goodIn_r _ [9, 10, 33, 34, 35] (by decide +kernel) (by decide +kernel)
set_option maxRecDepth 20000 in
theorem gX3_findRule_Jx4a65c_size_8abf5 : GoodIn wsX3_findRule (wsV RX3 47 RJx4a65c yJx4a65c_size_8abf5 wsJx4a65c_size_8abf5) := goodIn_app (goodIn_of _ (by decide +kernel)) ggX3_findRule_Jx4a65c_size_8abf5
set_option maxRecDepth 20000 in
theorem ggX3_findRule_Jx4a65c_get_915e3 : GoodIn wsX3_findRule wsJx4a65c_get_915e3 := goodIn_r _ [14, 10, 15, 16, 17, 18, 19, 20, 21, 22, 23, 24, 25, 8, 26, 27, 33, 34, 35] (by decide +kernel) (by decide +kernel)
set_option maxRecDepth 20000 in
theorem gX3_findRule_Jx4a65c_get_915e3 : GoodIn wsX3_findRule (wsV RX3 140 RJx4a65c yJx4a65c_get_915e3 wsJx4a65c_get_915e3) := goodIn_app (goodIn_of _ (by decide +kernel)) ggX3_findRule_Jx4a65c_get_915e3
theorem dX3_findRule_0 : decode cX3_findRule 0 = .ok (.iload_n 1, 1) := by decide +kernel
theorem dX3_findRule_1 : decode cX3_findRule 1 = .ok (.ifCond .lt 14, 3) := by decide +kernel
theorem dX3_findRule_4 : decode cX3_findRule 4 = .ok (.iload_n 1, 1) := by decide +kernel
theorem dX3_findRule_5 : decode cX3_findRule 5 = .ok (.aload_n 0, 1) := by decide +kernel
theorem dX3_findRule_6 : decode cX3_findRule 6 = .ok (.getfield 26, 3) := by decide +kernel
theorem dX3_findRule_9 : decode cX3_findRule 9 = .ok (.invokevirtual 47, 3) := by decide +kernel
theorem dX3_findRule_12 : decode cX3_findRule 12 = .ok (.if_icmp .lt 13, 3) := by decide +kernel
theorem dX3_findRule_15 : decode cX3_findRule 15 = .ok (.new 170, 3) := by decide +kernel
theorem dX3_findRule_18 : decode cX3_findRule 18 = .ok (.dup, 1) := by decide +kernel
theorem dX3_findRule_19 : decode cX3_findRule 19 = .ok (.ldc 175, 2) := by decide +kernel
theorem dX3_findRule_21 : decode cX3_findRule 21 = .ok (.invokespecial 174, 3) := by decide +kernel
theorem dX3_findRule_24 : decode cX3_findRule 24 = .ok (.athrow, 1) := by decide +kernel
theorem dX3_findRule_25 : decode cX3_findRule 25 = .ok (.aload_n 0, 1) := by decide +kernel
theorem dX3_findRule_26 : decode cX3_findRule 26 = .ok (.getfield 26, 3) := by decide +kernel
theorem dX3_findRule_29 : decode cX3_findRule 29 = .ok (.iload_n 1, 1) := by decide +kernel
theorem dX3_findRule_30 : decode cX3_findRule 30 = .ok (.invokevirtual 140, 3) := by decide +kernel
theorem dX3_findRule_33 : decode cX3_findRule 33 = .ok (.checkcast 56, 3) := by decide +kernel
theorem dX3_findRule_36 : decode cX3_findRule 36 = .ok (.areturn, 1) := by decide +kernel
set_option maxRecDepth 20000 in
theorem ggX3_findWorker_Jx4a65c_size_8abf5 : GoodIn wsX3_findWorker wsJx4a65c_size_8abf5 := goodIn_r _ [9, 10, 33, 34, 35] (by decide +kernel) (by decide +kernel)
set_option maxRecDepth 20000 in
theorem gX3_findWorker_Jx4a65c_size_8abf5 : GoodIn wsX3_findWorker (wsV RX3 47 RJx4a65c yJx4a65c_size_8abf5 wsJx4a65c_size_8abf5) := goodIn_app (goodIn_of _ (by decide +kernel)) ggX3_findWorker_Jx4a65c_size_8abf5
set_option maxRecDepth 20000 in
theorem ggX3_findWorker_Jx4a65c_get_915e3 : GoodIn wsX3_findWorker wsJx4a65c_get_915e3 := goodIn_r _ [14, 10, 15, 16, 17, 18, 19, 20, 21, 22, 23, 24, 25, 8, 26, 27, 33, 34, 35] (by decide +kernel) (by decide +kernel)
set_option maxRecDepth 20000 in
theorem gX3_findWorker_Jx4a65c_get_915e3 : GoodIn wsX3_findWorker (wsV RX3 140 RJx4a65c yJx4a65c_get_915e3 wsJx4a65c_get_915e3) := goodIn_app (goodIn_of _ (by decide +kernel)) ggX3_findWorker_Jx4a65c_get_915e3
theorem dX3_findWorker_0 : decode cX3_findWorker 0 = .ok (.iload_n 1, 1) := by decide +kernel
theorem dX3_findWorker_1 : decode cX3_findWorker 1 = .ok (.ifCond .lt 14, 3) := by decide +kernel
theorem dX3_findWorker_4 : decode cX3_findWorker 4 = .ok (.iload_n 1, 1) := by decide +kernel
theorem dX3_findWorker_5 : decode cX3_findWorker 5 = .ok (.aload_n 0, 1) := by decide +kernel
theorem dX3_findWorker_6 : decode cX3_findWorker 6 = .ok (.getfield 30, 3) := by decide +kernel
theorem dX3_findWorker_9 : decode cX3_findWorker 9 = .ok (.invokevirtual 47, 3) := by decide +kernel
theorem dX3_findWorker_12 : decode cX3_findWorker 12 = .ok (.if_icmp .lt 13, 3) := by decide +kernel
theorem dX3_findWorker_15 : decode cX3_findWorker 15 = .ok (.new 170, 3) := by decide +kernel
theorem dX3_findWorker_18 : decode cX3_findWorker 18 = .ok (.dup, 1) := by decide +kernel
theorem dX3_findWorker_19 : decode cX3_findWorker 19 = .ok (.ldc 177, 2) := by decide +kernel
theorem dX3_findWorker_21 : decode cX3_findWorker 21 = .ok (.invokespecial 174, 3) := by decide +kernel
theorem dX3_findWorker_24 : decode cX3_findWorker 24 = .ok (.athrow, 1) := by decide +kernel
theorem dX3_findWorker_25 : decode cX3_findWorker 25 = .ok (.aload_n 0, 1) := by decide +kernel
theorem dX3_findWorker_26 : decode cX3_findWorker 26 = .ok (.getfield 30, 3) := by decide +kernel
theorem dX3_findWorker_29 : decode cX3_findWorker 29 = .ok (.iload_n 1, 1) := by decide +kernel
theorem dX3_findWorker_30 : decode cX3_findWorker 30 = .ok (.invokevirtual 140, 3) := by decide +kernel
theorem dX3_findWorker_33 : decode cX3_findWorker 33 = .ok (.checkcast 77, 3) := by decide +kernel
theorem dX3_findWorker_36 : decode cX3_findWorker 36 = .ok (.areturn, 1) := by decide +kernel
set_option maxRecDepth 20000 in
theorem ggX3_findShift_Jx4a65c_size_8abf5 : GoodIn wsX3_findShift wsJx4a65c_size_8abf5 := goodIn_r _ [9, 10, 33, 34, 35] (by decide +kernel) (by decide +kernel)
set_option maxRecDepth 20000 in
theorem gX3_findShift_Jx4a65c_size_8abf5 : GoodIn wsX3_findShift (wsV RX3 47 RJx4a65c yJx4a65c_size_8abf5 wsJx4a65c_size_8abf5) := goodIn_app (goodIn_of _ (by decide +kernel)) ggX3_findShift_Jx4a65c_size_8abf5
set_option maxRecDepth 20000 in
theorem ggX3_findShift_Jx4a65c_get_915e3 : GoodIn wsX3_findShift wsJx4a65c_get_915e3 := goodIn_r _ [14, 10, 15, 16, 17, 18, 19, 20, 21, 22, 23, 24, 25, 8, 26, 27, 33, 34, 35] (by decide +kernel) (by decide +kernel)
set_option maxRecDepth 20000 in
theorem gX3_findShift_Jx4a65c_get_915e3 : GoodIn wsX3_findShift (wsV RX3 140 RJx4a65c yJx4a65c_get_915e3 wsJx4a65c_get_915e3) := goodIn_app (goodIn_of _ (by decide +kernel)) ggX3_findShift_Jx4a65c_get_915e3
theorem dX3_findShift_0 : decode cX3_findShift 0 = .ok (.iload_n 1, 1) := by decide +kernel
theorem dX3_findShift_1 : decode cX3_findShift 1 = .ok (.ifCond .lt 14, 3) := by decide +kernel
theorem dX3_findShift_4 : decode cX3_findShift 4 = .ok (.iload_n 1, 1) := by decide +kernel
theorem dX3_findShift_5 : decode cX3_findShift 5 = .ok (.aload_n 0, 1) := by decide +kernel
theorem dX3_findShift_6 : decode cX3_findShift 6 = .ok (.getfield 33, 3) := by decide +kernel
theorem dX3_findShift_9 : decode cX3_findShift 9 = .ok (.invokevirtual 47, 3) := by decide +kernel
theorem dX3_findShift_12 : decode cX3_findShift 12 = .ok (.if_icmp .lt 13, 3) := by decide +kernel
theorem dX3_findShift_15 : decode cX3_findShift 15 = .ok (.new 170, 3) := by decide +kernel
theorem dX3_findShift_18 : decode cX3_findShift 18 = .ok (.dup, 1) := by decide +kernel
theorem dX3_findShift_19 : decode cX3_findShift 19 = .ok (.ldc 179, 2) := by decide +kernel
theorem dX3_findShift_21 : decode cX3_findShift 21 = .ok (.invokespecial 174, 3) := by decide +kernel
theorem dX3_findShift_24 : decode cX3_findShift 24 = .ok (.athrow, 1) := by decide +kernel
theorem dX3_findShift_25 : decode cX3_findShift 25 = .ok (.aload_n 0, 1) := by decide +kernel
theorem dX3_findShift_26 : decode cX3_findShift 26 = .ok (.getfield 33, 3) := by decide +kernel
theorem dX3_findShift_29 : decode cX3_findShift 29 = .ok (.iload_n 1, 1) := by decide +kernel
theorem dX3_findShift_30 : decode cX3_findShift 30 = .ok (.invokevirtual 140, 3) := by decide +kernel
theorem dX3_findShift_33 : decode cX3_findShift 33 = .ok (.checkcast 96, 3) := by decide +kernel
theorem dX3_findShift_36 : decode cX3_findShift 36 = .ok (.areturn, 1) := by decide +kernel
theorem dX3_overtimePercent_0 : decode cX3_overtimePercent 0 = .ok (.iload_n 0, 1) := by decide +kernel
theorem dX3_overtimePercent_1 : decode cX3_overtimePercent 1 = .ok (.bipush 40, 2) := by decide +kernel
theorem dX3_overtimePercent_3 : decode cX3_overtimePercent 3 = .ok (.if_icmp .lt 7, 3) := by decide +kernel
theorem dX3_overtimePercent_6 : decode cX3_overtimePercent 6 = .ok (.sipush 200, 3) := by decide +kernel
theorem dX3_overtimePercent_9 : decode cX3_overtimePercent 9 = .ok (.ireturn, 1) := by decide +kernel
theorem dX3_overtimePercent_10 : decode cX3_overtimePercent 10 = .ok (.iload_n 0, 1) := by decide +kernel
theorem dX3_overtimePercent_11 : decode cX3_overtimePercent 11 = .ok (.bipush 32, 2) := by decide +kernel
theorem dX3_overtimePercent_13 : decode cX3_overtimePercent 13 = .ok (.if_icmp .lt 9, 3) := by decide +kernel
theorem dX3_overtimePercent_16 : decode cX3_overtimePercent 16 = .ok (.sipush 150, 3) := by decide +kernel
theorem dX3_overtimePercent_19 : decode cX3_overtimePercent 19 = .ok (.goto 5, 3) := by decide +kernel
theorem dX3_overtimePercent_22 : decode cX3_overtimePercent 22 = .ok (.bipush 100, 2) := by decide +kernel
theorem dX3_overtimePercent_24 : decode cX3_overtimePercent 24 = .ok (.ireturn, 1) := by decide +kernel
set_option maxRecDepth 20000 in
theorem ggX3_decidingRule_X1_dayOf : GoodIn wsX3_decidingRule wsX1_dayOf := goodIn_r _ [10, 11, 77, 78, 79, 80, 81] (by decide +kernel) (by decide +kernel)
set_option maxRecDepth 20000 in
theorem gX3_decidingRule_X1_dayOf : GoodIn wsX3_decidingRule (wsV RX3 144 RX1 yX1_dayOf wsX1_dayOf) := goodIn_app (goodIn_of _ (by decide +kernel)) ggX3_decidingRule_X1_dayOf
set_option maxRecDepth 20000 in
theorem ggX3_decidingRule_X1_quarterOfDay : GoodIn wsX3_decidingRule wsX1_quarterOfDay := goodIn_r _ [15, 11, 77, 78, 79, 80, 81] (by decide +kernel) (by decide +kernel)
set_option maxRecDepth 20000 in
theorem gX3_decidingRule_X1_quarterOfDay : GoodIn wsX3_decidingRule (wsV RX3 181 RX1 yX1_quarterOfDay wsX1_quarterOfDay) := goodIn_app (goodIn_of _ (by decide +kernel)) ggX3_decidingRule_X1_quarterOfDay
set_option maxRecDepth 20000 in
theorem ggX3_decidingRule_X3_isHoliday : GoodIn wsX3_decidingRule wsX3_isHoliday := goodIn_r _ [20, 21, 65, 66, 67, 68, 69] (by decide +kernel) (by decide +kernel)
set_option maxRecDepth 20000 in
theorem gX3_decidingRule_X3_isHoliday : GoodIn wsX3_decidingRule (wsV RX3 184 RX3 yX3_isHoliday wsX3_isHoliday) := goodIn_app (goodIn_of _ (by decide +kernel)) ggX3_decidingRule_X3_isHoliday
set_option maxRecDepth 20000 in
theorem ggX3_decidingRule_X3_overtimePercent : GoodIn wsX3_decidingRule wsX3_overtimePercent := goodIn_r _ [24] (by decide +kernel) (by decide +kernel)
set_option maxRecDepth 20000 in
theorem gX3_decidingRule_X3_overtimePercent : GoodIn wsX3_decidingRule (va_wsS RX3 188 yX3_overtimePercent wsX3_overtimePercent) := goodIn_app (goodIn_of _ (by decide +kernel)) ggX3_decidingRule_X3_overtimePercent
set_option maxRecDepth 20000 in
theorem ggX3_decidingRule_Jx4a65c_size_8abf5 : GoodIn wsX3_decidingRule wsJx4a65c_size_8abf5 := goodIn_r _ [29, 30, 83, 84, 85] (by decide +kernel) (by decide +kernel)
set_option maxRecDepth 20000 in
theorem gX3_decidingRule_Jx4a65c_size_8abf5 : GoodIn wsX3_decidingRule (wsV RX3 47 RJx4a65c yJx4a65c_size_8abf5 wsJx4a65c_size_8abf5) := goodIn_app (goodIn_of _ (by decide +kernel)) ggX3_decidingRule_Jx4a65c_size_8abf5
set_option maxRecDepth 20000 in
theorem ggX3_decidingRule_Jx4a65c_get_915e3 : GoodIn wsX3_decidingRule wsJx4a65c_get_915e3 := goodIn_r _ [34, 30, 35, 36, 37, 38, 39, 40, 41, 42, 43, 44, 45, 28, 46, 47, 83, 84, 85] (by decide +kernel) (by decide +kernel)
set_option maxRecDepth 20000 in
theorem gX3_decidingRule_Jx4a65c_get_915e3 : GoodIn wsX3_decidingRule (wsV RX3 140 RJx4a65c yJx4a65c_get_915e3 wsJx4a65c_get_915e3) := goodIn_app (goodIn_of _ (by decide +kernel)) ggX3_decidingRule_Jx4a65c_get_915e3
set_option maxRecDepth 20000 in
theorem ggX3_decidingRule_X0_appliesTo : GoodIn wsX3_decidingRule wsX0_appliesTo := goodIn_r _ [52, 53, 54, 55, 56, 57, 58, 51, 59, 60, 61, 62, 63, 64, 70, 71, 72, 73, 74, 75, 76] (by decide +kernel) (by decide +kernel)
set_option maxRecDepth 20000 in
theorem gX3_decidingRule_X0_appliesTo : GoodIn wsX3_decidingRule (wsV RX3 194 RX0 yX0_appliesTo wsX0_appliesTo) := goodIn_app (goodIn_of _ (by decide +kernel)) ggX3_decidingRule_X0_appliesTo
theorem dX3_decidingRule_0 : decode cX3_decidingRule 0 = .ok (.aload_n 1, 1) := by decide +kernel
theorem dX3_decidingRule_1 : decode cX3_decidingRule 1 = .ok (.iload_n 2, 1) := by decide +kernel
theorem dX3_decidingRule_2 : decode cX3_decidingRule 2 = .ok (.invokevirtual 144, 3) := by decide +kernel
theorem dX3_decidingRule_5 : decode cX3_decidingRule 5 = .ok (.istore_n 3, 1) := by decide +kernel
theorem dX3_decidingRule_6 : decode cX3_decidingRule 6 = .ok (.aload_n 1, 1) := by decide +kernel
theorem dX3_decidingRule_7 : decode cX3_decidingRule 7 = .ok (.iload_n 2, 1) := by decide +kernel
theorem dX3_decidingRule_8 : decode cX3_decidingRule 8 = .ok (.invokevirtual 181, 3) := by decide +kernel
theorem dX3_decidingRule_11 : decode cX3_decidingRule 11 = .ok (.istore 4, 2) := by decide +kernel
theorem dX3_decidingRule_13 : decode cX3_decidingRule 13 = .ok (.aload_n 0, 1) := by decide +kernel
theorem dX3_decidingRule_14 : decode cX3_decidingRule 14 = .ok (.iload_n 3, 1) := by decide +kernel
theorem dX3_decidingRule_15 : decode cX3_decidingRule 15 = .ok (.invokevirtual 184, 3) := by decide +kernel
theorem dX3_decidingRule_18 : decode cX3_decidingRule 18 = .ok (.istore 5, 2) := by decide +kernel
theorem dX3_decidingRule_20 : decode cX3_decidingRule 20 = .ok (.iload_n 2, 1) := by decide +kernel
theorem dX3_decidingRule_21 : decode cX3_decidingRule 21 = .ok (.invokestatic 188, 3) := by decide +kernel
theorem dX3_decidingRule_24 : decode cX3_decidingRule 24 = .ok (.istore 6, 2) := by decide +kernel
theorem dX3_decidingRule_26 : decode cX3_decidingRule 26 = .ok (.aconst_null, 1) := by decide +kernel
theorem dX3_decidingRule_27 : decode cX3_decidingRule 27 = .ok (.astore 7, 2) := by decide +kernel
theorem dX3_decidingRule_29 : decode cX3_decidingRule 29 = .ok (.iconst 0, 1) := by decide +kernel
theorem dX3_decidingRule_30 : decode cX3_decidingRule 30 = .ok (.istore 8, 2) := by decide +kernel
theorem dX3_decidingRule_32 : decode cX3_decidingRule 32 = .ok (.iload 8, 2) := by decide +kernel
theorem dX3_decidingRule_34 : decode cX3_decidingRule 34 = .ok (.aload_n 0, 1) := by decide +kernel
theorem dX3_decidingRule_35 : decode cX3_decidingRule 35 = .ok (.getfield 26, 3) := by decide +kernel
theorem dX3_decidingRule_38 : decode cX3_decidingRule 38 = .ok (.invokevirtual 47, 3) := by decide +kernel
theorem dX3_decidingRule_41 : decode cX3_decidingRule 41 = .ok (.if_icmp .ge 91, 3) := by decide +kernel
theorem dX3_decidingRule_44 : decode cX3_decidingRule 44 = .ok (.aload_n 0, 1) := by decide +kernel
theorem dX3_decidingRule_45 : decode cX3_decidingRule 45 = .ok (.getfield 26, 3) := by decide +kernel
theorem dX3_decidingRule_48 : decode cX3_decidingRule 48 = .ok (.iload 8, 2) := by decide +kernel
theorem dX3_decidingRule_50 : decode cX3_decidingRule 50 = .ok (.invokevirtual 140, 3) := by decide +kernel
theorem dX3_decidingRule_53 : decode cX3_decidingRule 53 = .ok (.checkcast 56, 3) := by decide +kernel
theorem dX3_decidingRule_56 : decode cX3_decidingRule 56 = .ok (.astore 9, 2) := by decide +kernel
theorem dX3_decidingRule_58 : decode cX3_decidingRule 58 = .ok (.aload 9, 2) := by decide +kernel
theorem dX3_decidingRule_60 : decode cX3_decidingRule 60 = .ok (.getfield 191, 3) := by decide +kernel
theorem dX3_decidingRule_63 : decode cX3_decidingRule 63 = .ok (.iload 6, 2) := by decide +kernel
theorem dX3_decidingRule_65 : decode cX3_decidingRule 65 = .ok (.if_icmp .gt 18, 3) := by decide +kernel
theorem dX3_decidingRule_68 : decode cX3_decidingRule 68 = .ok (.aload 9, 2) := by decide +kernel
theorem dX3_decidingRule_70 : decode cX3_decidingRule 70 = .ok (.getfield 191, 3) := by decide +kernel
theorem dX3_decidingRule_73 : decode cX3_decidingRule 73 = .ok (.iload 6, 2) := by decide +kernel
theorem dX3_decidingRule_75 : decode cX3_decidingRule 75 = .ok (.if_icmp .ne 12, 3) := by decide +kernel
theorem dX3_decidingRule_78 : decode cX3_decidingRule 78 = .ok (.aload 7, 2) := by decide +kernel
theorem dX3_decidingRule_80 : decode cX3_decidingRule 80 = .ok (.ifnonnull 7, 3) := by decide +kernel
theorem dX3_decidingRule_83 : decode cX3_decidingRule 83 = .ok (.iconst 1, 1) := by decide +kernel
theorem dX3_decidingRule_84 : decode cX3_decidingRule 84 = .ok (.goto 4, 3) := by decide +kernel
theorem dX3_decidingRule_87 : decode cX3_decidingRule 87 = .ok (.iconst 0, 1) := by decide +kernel
theorem dX3_decidingRule_88 : decode cX3_decidingRule 88 = .ok (.istore 10, 2) := by decide +kernel
theorem dX3_decidingRule_90 : decode cX3_decidingRule 90 = .ok (.iload 10, 2) := by decide +kernel
theorem dX3_decidingRule_92 : decode cX3_decidingRule 92 = .ok (.ifCond .eq 34, 3) := by decide +kernel
theorem dX3_decidingRule_95 : decode cX3_decidingRule 95 = .ok (.aload 9, 2) := by decide +kernel
theorem dX3_decidingRule_97 : decode cX3_decidingRule 97 = .ok (.aload_n 1, 1) := by decide +kernel
theorem dX3_decidingRule_98 : decode cX3_decidingRule 98 = .ok (.getfield 148, 3) := by decide +kernel
theorem dX3_decidingRule_101 : decode cX3_decidingRule 101 = .ok (.getfield 86, 3) := by decide +kernel
theorem dX3_decidingRule_104 : decode cX3_decidingRule 104 = .ok (.iload_n 3, 1) := by decide +kernel
theorem dX3_decidingRule_105 : decode cX3_decidingRule 105 = .ok (.iload 4, 2) := by decide +kernel
theorem dX3_decidingRule_107 : decode cX3_decidingRule 107 = .ok (.iload 5, 2) := by decide +kernel
theorem dX3_decidingRule_109 : decode cX3_decidingRule 109 = .ok (.invokevirtual 194, 3) := by decide +kernel
theorem dX3_decidingRule_112 : decode cX3_decidingRule 112 = .ok (.ifCond .eq 14, 3) := by decide +kernel
theorem dX3_decidingRule_115 : decode cX3_decidingRule 115 = .ok (.aload 9, 2) := by decide +kernel
theorem dX3_decidingRule_117 : decode cX3_decidingRule 117 = .ok (.getfield 191, 3) := by decide +kernel
theorem dX3_decidingRule_120 : decode cX3_decidingRule 120 = .ok (.istore 6, 2) := by decide +kernel
theorem dX3_decidingRule_122 : decode cX3_decidingRule 122 = .ok (.aload 9, 2) := by decide +kernel
theorem dX3_decidingRule_124 : decode cX3_decidingRule 124 = .ok (.astore 7, 2) := by decide +kernel
theorem dX3_decidingRule_126 : decode cX3_decidingRule 126 = .ok (.iinc 8 1, 3) := by decide +kernel
theorem dX3_decidingRule_129 : decode cX3_decidingRule 129 = .ok (.goto (-97), 3) := by decide +kernel
theorem dX3_decidingRule_132 : decode cX3_decidingRule 132 = .ok (.aload 7, 2) := by decide +kernel
theorem dX3_decidingRule_134 : decode cX3_decidingRule 134 = .ok (.areturn, 1) := by decide +kernel
set_option maxRecDepth 20000 in
theorem ggX3_percentOf_X3_decidingRule : GoodIn wsX3_percentOf wsX3_decidingRule := goodIn_r _ [6, 7, 8, 1, 9, 10, 11, 12, 13, 14, 15, 16, 17, 18, 19, 20, 21, 22, 23, 5, 24, 25, 26, 27, 28, 29, 30, 31, 32, 33, 34, 35, 36, 37, 38, 39, 40, 41, 42, 43, 44, 45, 46, 47, 48, 49, 50, 51, 52, 53, 54, 55, 56, 57, 58, 59, 60, 61, 62, 63, 64, 65, 66, 67, 68, 76, 77, 78, 79, 80, 69, 70, 71, 72, 73, 74, 75, 81, 82, 83, 84, 85, 86, 87, 88, 89] (by decide +kernel) (by decide +kernel)
set_option maxRecDepth 20000 in
theorem gX3_percentOf_X3_decidingRule : GoodIn wsX3_percentOf (wsV RX3 130 RX3 yX3_decidingRule wsX3_decidingRule) := goodIn_app (goodIn_of _ (by decide +kernel)) ggX3_percentOf_X3_decidingRule
set_option maxRecDepth 20000 in
theorem ggX3_percentOf_X3_overtimePercent : GoodIn wsX3_percentOf wsX3_overtimePercent := goodIn_r _ [28] (by decide +kernel) (by decide +kernel)
set_option maxRecDepth 20000 in
theorem gX3_percentOf_X3_overtimePercent : GoodIn wsX3_percentOf (va_wsS RX3 188 yX3_overtimePercent wsX3_overtimePercent) := goodIn_app (goodIn_of _ (by decide +kernel)) ggX3_percentOf_X3_overtimePercent
theorem dX3_percentOf_0 : decode cX3_percentOf 0 = .ok (.aload_n 0, 1) := by decide +kernel
theorem dX3_percentOf_1 : decode cX3_percentOf 1 = .ok (.aload_n 1, 1) := by decide +kernel
theorem dX3_percentOf_2 : decode cX3_percentOf 2 = .ok (.iload_n 2, 1) := by decide +kernel
theorem dX3_percentOf_3 : decode cX3_percentOf 3 = .ok (.invokevirtual 130, 3) := by decide +kernel
theorem dX3_percentOf_6 : decode cX3_percentOf 6 = .ok (.astore_n 3, 1) := by decide +kernel
theorem dX3_percentOf_7 : decode cX3_percentOf 7 = .ok (.aload_n 3, 1) := by decide +kernel
theorem dX3_percentOf_8 : decode cX3_percentOf 8 = .ok (.ifnull 10, 3) := by decide +kernel
theorem dX3_percentOf_11 : decode cX3_percentOf 11 = .ok (.aload_n 3, 1) := by decide +kernel
theorem dX3_percentOf_12 : decode cX3_percentOf 12 = .ok (.getfield 191, 3) := by decide +kernel
theorem dX3_percentOf_15 : decode cX3_percentOf 15 = .ok (.goto 7, 3) := by decide +kernel
theorem dX3_percentOf_18 : decode cX3_percentOf 18 = .ok (.iload_n 2, 1) := by decide +kernel
theorem dX3_percentOf_19 : decode cX3_percentOf 19 = .ok (.invokestatic 188, 3) := by decide +kernel
theorem dX3_percentOf_22 : decode cX3_percentOf 22 = .ok (.ireturn, 1) := by decide +kernel
set_option maxRecDepth 20000 in
theorem ggX3_payFor_X3_baseOf : GoodIn wsX3_payFor wsX3_baseOf := goodIn_r _ [7, 8, 106, 107, 108, 109, 110] (by decide +kernel) (by decide +kernel)
set_option maxRecDepth 20000 in
theorem gX3_payFor_X3_baseOf : GoodIn wsX3_payFor (wsV RX3 198 RX3 yX3_baseOf wsX3_baseOf) := goodIn_app (goodIn_of _ (by decide +kernel)) ggX3_payFor_X3_baseOf
set_option maxRecDepth 20000 in
theorem ggX3_payFor_X1_breaksMissed : GoodIn wsX3_payFor wsX1_breaksMissed := goodIn_r _ [13, 14, 15, 16, 17, 18, 19, 20, 21, 22, 12, 23, 24, 100, 101, 102, 103, 104] (by decide +kernel) (by decide +kernel)
set_option maxRecDepth 20000 in
theorem gX3_payFor_X1_breaksMissed : GoodIn wsX3_payFor (wsV RX3 137 RX1 yX1_breaksMissed wsX1_breaksMissed) := goodIn_app (goodIn_of _ (by decide +kernel)) ggX3_payFor_X1_breaksMissed
set_option maxRecDepth 20000 in
theorem ggX3_payFor_X1_paidLength : GoodIn wsX3_payFor wsX1_paidLength := goodIn_r _ [28, 14, 24, 16, 17, 18, 19, 100, 101, 102, 103, 104] (by decide +kernel) (by decide +kernel)
set_option maxRecDepth 20000 in
theorem gX3_payFor_X1_paidLength : GoodIn wsX3_payFor (wsV RX3 119 RX1 yX1_paidLength wsX1_paidLength) := goodIn_app (goodIn_of _ (by decide +kernel)) ggX3_payFor_X1_paidLength
set_option maxRecDepth 20000 in
theorem ggX3_payFor_X3_percentOf : GoodIn wsX3_payFor wsX3_percentOf := goodIn_r _ [32, 33, 34, 35, 36, 6, 37, 38, 39, 1, 2, 40, 41, 42, 12, 43, 44, 45, 46, 47, 48, 49, 50, 51, 52, 53, 54, 55, 56, 57, 58, 59, 60, 61, 62, 63, 64, 65, 66, 67, 68, 69, 70, 71, 72, 73, 74, 75, 76, 77, 78, 79, 80, 81, 82, 83, 84, 85, 86, 87, 88, 89, 90, 91, 92, 93, 94, 95, 96, 111, 112, 113, 114, 115, 116, 117, 106, 107, 108, 109, 110, 100, 101, 102, 103, 104, 105, 118, 119, 120] (by decide +kernel) (by decide +kernel)
set_option maxRecDepth 20000 in
theorem gX3_payFor_X3_percentOf : GoodIn wsX3_payFor (wsV RX3 126 RX3 yX3_percentOf wsX3_percentOf) := goodIn_app (goodIn_of _ (by decide +kernel)) ggX3_payFor_X3_percentOf
set_option maxRecDepth 20000 in
theorem ggX3_payFor_X3_amount : GoodIn wsX3_payFor wsX3_amount := goodIn_r _ [99] (by decide +kernel) (by decide +kernel)
set_option maxRecDepth 20000 in
theorem gX3_payFor_X3_amount : GoodIn wsX3_payFor (va_wsS RX3 201 yX3_amount wsX3_amount) := goodIn_app (goodIn_of _ (by decide +kernel)) ggX3_payFor_X3_amount
theorem dX3_payFor_0 : decode cX3_payFor 0 = .ok (.aload_n 0, 1) := by decide +kernel
theorem dX3_payFor_1 : decode cX3_payFor 1 = .ok (.aload_n 1, 1) := by decide +kernel
theorem dX3_payFor_2 : decode cX3_payFor 2 = .ok (.getfield 148, 3) := by decide +kernel
theorem dX3_payFor_5 : decode cX3_payFor 5 = .ok (.getfield 86, 3) := by decide +kernel
theorem dX3_payFor_8 : decode cX3_payFor 8 = .ok (.invokevirtual 198, 3) := by decide +kernel
theorem dX3_payFor_11 : decode cX3_payFor 11 = .ok (.istore_n 2, 1) := by decide +kernel
theorem dX3_payFor_12 : decode cX3_payFor 12 = .ok (.aload_n 1, 1) := by decide +kernel
theorem dX3_payFor_13 : decode cX3_payFor 13 = .ok (.invokevirtual 137, 3) := by decide +kernel
theorem dX3_payFor_16 : decode cX3_payFor 16 = .ok (.iconst 2, 1) := by decide +kernel
theorem dX3_payFor_17 : decode cX3_payFor 17 = .ok (.imul, 1) := by decide +kernel
theorem dX3_payFor_18 : decode cX3_payFor 18 = .ok (.iload_n 2, 1) := by decide +kernel
theorem dX3_payFor_19 : decode cX3_payFor 19 = .ok (.imul, 1) := by decide +kernel
theorem dX3_payFor_20 : decode cX3_payFor 20 = .ok (.istore_n 3, 1) := by decide +kernel
theorem dX3_payFor_21 : decode cX3_payFor 21 = .ok (.iconst 0, 1) := by decide +kernel
theorem dX3_payFor_22 : decode cX3_payFor 22 = .ok (.istore 4, 2) := by decide +kernel
theorem dX3_payFor_24 : decode cX3_payFor 24 = .ok (.iload 4, 2) := by decide +kernel
theorem dX3_payFor_26 : decode cX3_payFor 26 = .ok (.aload_n 1, 1) := by decide +kernel
theorem dX3_payFor_27 : decode cX3_payFor 27 = .ok (.invokevirtual 119, 3) := by decide +kernel
theorem dX3_payFor_30 : decode cX3_payFor 30 = .ok (.if_icmp .ge 23, 3) := by decide +kernel
theorem dX3_payFor_33 : decode cX3_payFor 33 = .ok (.iload_n 3, 1) := by decide +kernel
theorem dX3_payFor_34 : decode cX3_payFor 34 = .ok (.iload_n 2, 1) := by decide +kernel
theorem dX3_payFor_35 : decode cX3_payFor 35 = .ok (.aload_n 0, 1) := by decide +kernel
theorem dX3_payFor_36 : decode cX3_payFor 36 = .ok (.aload_n 1, 1) := by decide +kernel
theorem dX3_payFor_37 : decode cX3_payFor 37 = .ok (.iload 4, 2) := by decide +kernel
theorem dX3_payFor_39 : decode cX3_payFor 39 = .ok (.invokevirtual 126, 3) := by decide +kernel
theorem dX3_payFor_42 : decode cX3_payFor 42 = .ok (.invokestatic 201, 3) := by decide +kernel
theorem dX3_payFor_45 : decode cX3_payFor 45 = .ok (.iadd, 1) := by decide +kernel
theorem dX3_payFor_46 : decode cX3_payFor 46 = .ok (.istore_n 3, 1) := by decide +kernel
theorem dX3_payFor_47 : decode cX3_payFor 47 = .ok (.iinc 4 1, 3) := by decide +kernel
theorem dX3_payFor_50 : decode cX3_payFor 50 = .ok (.goto (-26), 3) := by decide +kernel
theorem dX3_payFor_53 : decode cX3_payFor 53 = .ok (.iload_n 3, 1) := by decide +kernel
theorem dX3_payFor_54 : decode cX3_payFor 54 = .ok (.ireturn, 1) := by decide +kernel
set_option maxRecDepth 20000 in
theorem ggX3_payByRule_X3_baseOf : GoodIn wsX3_payByRule wsX3_baseOf := goodIn_r _ [9, 10, 101, 102, 103, 104, 105] (by decide +kernel) (by decide +kernel)
set_option maxRecDepth 20000 in
theorem gX3_payByRule_X3_baseOf : GoodIn wsX3_payByRule (wsV RX3 198 RX3 yX3_baseOf wsX3_baseOf) := goodIn_app (goodIn_of _ (by decide +kernel)) ggX3_payByRule_X3_baseOf
set_option maxRecDepth 20000 in
theorem ggX3_payByRule_X1_paidLength : GoodIn wsX3_payByRule wsX1_paidLength := goodIn_r _ [15, 16, 17, 18, 19, 20, 21, 88, 89, 90, 91, 92] (by decide +kernel) (by decide +kernel)
set_option maxRecDepth 20000 in
theorem gX3_payByRule_X1_paidLength : GoodIn wsX3_payByRule (wsV RX3 119 RX1 yX1_paidLength wsX1_paidLength) := goodIn_app (goodIn_of _ (by decide +kernel)) ggX3_payByRule_X1_paidLength
set_option maxRecDepth 20000 in
theorem ggX3_payByRule_X3_decidingRule : GoodIn wsX3_payByRule wsX3_decidingRule := goodIn_r _ [25, 26, 27, 4, 1, 2, 28, 29, 30, 14, 31, 32, 33, 34, 35, 36, 37, 38, 39, 8, 40, 41, 42, 43, 44, 45, 46, 47, 48, 49, 50, 51, 52, 53, 54, 55, 56, 57, 58, 59, 60, 61, 62, 63, 64, 65, 66, 67, 68, 69, 70, 71, 72, 73, 74, 75, 76, 77, 78, 79, 80, 81, 82, 83, 84, 101, 102, 103, 104, 105, 94, 95, 96, 97, 98, 99, 100, 88, 89, 90, 91, 92, 93, 106, 107, 108] (by decide +kernel) (by decide +kernel)
set_option maxRecDepth 20000 in
theorem gX3_payByRule_X3_decidingRule : GoodIn wsX3_payByRule (wsV RX3 130 RX3 yX3_decidingRule wsX3_decidingRule) := goodIn_app (goodIn_of _ (by decide +kernel)) ggX3_payByRule_X3_decidingRule
set_option maxRecDepth 20000 in
theorem ggX3_payByRule_X3_amount : GoodIn wsX3_payByRule wsX3_amount := goodIn_r _ [87] (by decide +kernel) (by decide +kernel)
set_option maxRecDepth 20000 in
theorem gX3_payByRule_X3_amount : GoodIn wsX3_payByRule (va_wsS RX3 201 yX3_amount wsX3_amount) := goodIn_app (goodIn_of _ (by decide +kernel)) ggX3_payByRule_X3_amount
theorem dX3_payByRule_0 : decode cX3_payByRule 0 = .ok (.aload_n 0, 1) := by decide +kernel
theorem dX3_payByRule_1 : decode cX3_payByRule 1 = .ok (.aload_n 1, 1) := by decide +kernel
theorem dX3_payByRule_2 : decode cX3_payByRule 2 = .ok (.getfield 148, 3) := by decide +kernel
theorem dX3_payByRule_5 : decode cX3_payByRule 5 = .ok (.getfield 86, 3) := by decide +kernel
theorem dX3_payByRule_8 : decode cX3_payByRule 8 = .ok (.invokevirtual 198, 3) := by decide +kernel
theorem dX3_payByRule_11 : decode cX3_payByRule 11 = .ok (.istore_n 3, 1) := by decide +kernel
theorem dX3_payByRule_12 : decode cX3_payByRule 12 = .ok (.iconst 0, 1) := by decide +kernel
theorem dX3_payByRule_13 : decode cX3_payByRule 13 = .ok (.istore 4, 2) := by decide +kernel
theorem dX3_payByRule_15 : decode cX3_payByRule 15 = .ok (.iconst 0, 1) := by decide +kernel
theorem dX3_payByRule_16 : decode cX3_payByRule 16 = .ok (.istore 5, 2) := by decide +kernel
theorem dX3_payByRule_18 : decode cX3_payByRule 18 = .ok (.iload 5, 2) := by decide +kernel
theorem dX3_payByRule_20 : decode cX3_payByRule 20 = .ok (.aload_n 1, 1) := by decide +kernel
theorem dX3_payByRule_21 : decode cX3_payByRule 21 = .ok (.invokevirtual 119, 3) := by decide +kernel
theorem dX3_payByRule_24 : decode cX3_payByRule 24 = .ok (.if_icmp .ge 48, 3) := by decide +kernel
theorem dX3_payByRule_27 : decode cX3_payByRule 27 = .ok (.aload_n 0, 1) := by decide +kernel
theorem dX3_payByRule_28 : decode cX3_payByRule 28 = .ok (.aload_n 1, 1) := by decide +kernel
theorem dX3_payByRule_29 : decode cX3_payByRule 29 = .ok (.iload 5, 2) := by decide +kernel
theorem dX3_payByRule_31 : decode cX3_payByRule 31 = .ok (.invokevirtual 130, 3) := by decide +kernel
theorem dX3_payByRule_34 : decode cX3_payByRule 34 = .ok (.astore 6, 2) := by decide +kernel
theorem dX3_payByRule_36 : decode cX3_payByRule 36 = .ok (.aload 6, 2) := by decide +kernel
theorem dX3_payByRule_38 : decode cX3_payByRule 38 = .ok (.ifnull 28, 3) := by decide +kernel
theorem dX3_payByRule_41 : decode cX3_payByRule 41 = .ok (.aload 6, 2) := by decide +kernel
theorem dX3_payByRule_43 : decode cX3_payByRule 43 = .ok (.getfield 134, 3) := by decide +kernel
theorem dX3_payByRule_46 : decode cX3_payByRule 46 = .ok (.aload_n 2, 1) := by decide +kernel
theorem dX3_payByRule_47 : decode cX3_payByRule 47 = .ok (.getfield 134, 3) := by decide +kernel
theorem dX3_payByRule_50 : decode cX3_payByRule 50 = .ok (.if_icmp .ne 16, 3) := by decide +kernel
theorem dX3_payByRule_53 : decode cX3_payByRule 53 = .ok (.iload 4, 2) := by decide +kernel
theorem dX3_payByRule_55 : decode cX3_payByRule 55 = .ok (.iload_n 3, 1) := by decide +kernel
theorem dX3_payByRule_56 : decode cX3_payByRule 56 = .ok (.aload_n 2, 1) := by decide +kernel
theorem dX3_payByRule_57 : decode cX3_payByRule 57 = .ok (.getfield 191, 3) := by decide +kernel
theorem dX3_payByRule_60 : decode cX3_payByRule 60 = .ok (.invokestatic 201, 3) := by decide +kernel
theorem dX3_payByRule_63 : decode cX3_payByRule 63 = .ok (.iadd, 1) := by decide +kernel
theorem dX3_payByRule_64 : decode cX3_payByRule 64 = .ok (.istore 4, 2) := by decide +kernel
theorem dX3_payByRule_66 : decode cX3_payByRule 66 = .ok (.iinc 5 1, 3) := by decide +kernel
theorem dX3_payByRule_69 : decode cX3_payByRule 69 = .ok (.goto (-51), 3) := by decide +kernel
theorem dX3_payByRule_72 : decode cX3_payByRule 72 = .ok (.iload 4, 2) := by decide +kernel
theorem dX3_payByRule_74 : decode cX3_payByRule 74 = .ok (.ireturn, 1) := by decide +kernel
theorem dX3_amount_0 : decode cX3_amount 0 = .ok (.iload_n 0, 1) := by decide +kernel
theorem dX3_amount_1 : decode cX3_amount 1 = .ok (.iload_n 1, 1) := by decide +kernel
theorem dX3_amount_2 : decode cX3_amount 2 = .ok (.imul, 1) := by decide +kernel
theorem dX3_amount_3 : decode cX3_amount 3 = .ok (.bipush 100, 2) := by decide +kernel
theorem dX3_amount_5 : decode cX3_amount 5 = .ok (.idiv, 1) := by decide +kernel
theorem dX3_amount_6 : decode cX3_amount 6 = .ok (.ireturn, 1) := by decide +kernel
theorem dX3_baseOf_0 : decode cX3_baseOf 0 = .ok (.iload_n 1, 1) := by decide +kernel
theorem dX3_baseOf_1 : decode cX3_baseOf 1 = .ok (.ifCond .lt 21, 3) := by decide +kernel
theorem dX3_baseOf_4 : decode cX3_baseOf 4 = .ok (.iload_n 1, 1) := by decide +kernel
theorem dX3_baseOf_5 : decode cX3_baseOf 5 = .ok (.aload_n 0, 1) := by decide +kernel
theorem dX3_baseOf_6 : decode cX3_baseOf 6 = .ok (.getfield 9, 3) := by decide +kernel
theorem dX3_baseOf_9 : decode cX3_baseOf 9 = .ok (.arraylength, 1) := by decide +kernel
theorem dX3_baseOf_10 : decode cX3_baseOf 10 = .ok (.if_icmp .ge 12, 3) := by decide +kernel
theorem dX3_baseOf_13 : decode cX3_baseOf 13 = .ok (.aload_n 0, 1) := by decide +kernel
theorem dX3_baseOf_14 : decode cX3_baseOf 14 = .ok (.getfield 9, 3) := by decide +kernel
theorem dX3_baseOf_17 : decode cX3_baseOf 17 = .ok (.iload_n 1, 1) := by decide +kernel
theorem dX3_baseOf_18 : decode cX3_baseOf 18 = .ok (.iaload, 1) := by decide +kernel
theorem dX3_baseOf_19 : decode cX3_baseOf 19 = .ok (.goto 4, 3) := by decide +kernel
theorem dX3_baseOf_22 : decode cX3_baseOf 22 = .ok (.iconst 0, 1) := by decide +kernel
theorem dX3_baseOf_23 : decode cX3_baseOf 23 = .ok (.ireturn, 1) := by decide +kernel
theorem dX3_isHoliday_0 : decode cX3_isHoliday 0 = .ok (.iload_n 1, 1) := by decide +kernel
theorem dX3_isHoliday_1 : decode cX3_isHoliday 1 = .ok (.ifCond .lt 25, 3) := by decide +kernel
theorem dX3_isHoliday_4 : decode cX3_isHoliday 4 = .ok (.iload_n 1, 1) := by decide +kernel
theorem dX3_isHoliday_5 : decode cX3_isHoliday 5 = .ok (.aload_n 0, 1) := by decide +kernel
theorem dX3_isHoliday_6 : decode cX3_isHoliday 6 = .ok (.getfield 19, 3) := by decide +kernel
theorem dX3_isHoliday_9 : decode cX3_isHoliday 9 = .ok (.arraylength, 1) := by decide +kernel
theorem dX3_isHoliday_10 : decode cX3_isHoliday 10 = .ok (.if_icmp .ge 16, 3) := by decide +kernel
theorem dX3_isHoliday_13 : decode cX3_isHoliday 13 = .ok (.aload_n 0, 1) := by decide +kernel
theorem dX3_isHoliday_14 : decode cX3_isHoliday 14 = .ok (.getfield 19, 3) := by decide +kernel
theorem dX3_isHoliday_17 : decode cX3_isHoliday 17 = .ok (.iload_n 1, 1) := by decide +kernel
theorem dX3_isHoliday_18 : decode cX3_isHoliday 18 = .ok (.baload, 1) := by decide +kernel
theorem dX3_isHoliday_19 : decode cX3_isHoliday 19 = .ok (.ifCond .eq 7, 3) := by decide +kernel
theorem dX3_isHoliday_22 : decode cX3_isHoliday 22 = .ok (.iconst 1, 1) := by decide +kernel
theorem dX3_isHoliday_23 : decode cX3_isHoliday 23 = .ok (.goto 4, 3) := by decide +kernel
theorem dX3_isHoliday_26 : decode cX3_isHoliday 26 = .ok (.iconst 0, 1) := by decide +kernel
theorem dX3_isHoliday_27 : decode cX3_isHoliday 27 = .ok (.ireturn, 1) := by decide +kernel
set_option maxRecDepth 20000 in
theorem ggX3_overlapsAnother_X3_workedBetween : GoodIn wsX3_overlapsAnother wsX3_workedBetween := goodIn_r _ [5, 6, 7, 8, 9, 10, 11, 12, 13, 14, 15, 16, 17, 18, 19, 20, 21, 22, 23, 24, 25, 26, 27, 28, 29, 30, 31, 32, 33, 34, 35, 36, 37, 38, 39, 40, 41, 42, 43, 44, 45, 46, 47, 48, 49, 50, 51, 52, 53, 54, 55, 56, 57, 58, 59] (by decide +kernel) (by decide +kernel)
set_option maxRecDepth 20000 in
theorem gX3_overlapsAnother_X3_workedBetween : GoodIn wsX3_overlapsAnother (wsV RX3 204 RX3 yX3_workedBetween wsX3_workedBetween) := goodIn_app (goodIn_of _ (by decide +kernel)) ggX3_overlapsAnother_X3_workedBetween
theorem dX3_overlapsAnother_0 : decode cX3_overlapsAnother 0 = .ok (.aload_n 0, 1) := by decide +kernel
theorem dX3_overlapsAnother_1 : decode cX3_overlapsAnother 1 = .ok (.aload_n 1, 1) := by decide +kernel
theorem dX3_overlapsAnother_2 : decode cX3_overlapsAnother 2 = .ok (.iload_n 2, 1) := by decide +kernel
theorem dX3_overlapsAnother_3 : decode cX3_overlapsAnother 3 = .ok (.iload_n 3, 1) := by decide +kernel
theorem dX3_overlapsAnother_4 : decode cX3_overlapsAnother 4 = .ok (.invokevirtual 204, 3) := by decide +kernel
theorem dX3_overlapsAnother_7 : decode cX3_overlapsAnother 7 = .ok (.ifCond .le 7, 3) := by decide +kernel
theorem dX3_overlapsAnother_10 : decode cX3_overlapsAnother 10 = .ok (.iconst 1, 1) := by decide +kernel
theorem dX3_overlapsAnother_11 : decode cX3_overlapsAnother 11 = .ok (.goto 4, 3) := by decide +kernel
theorem dX3_overlapsAnother_14 : decode cX3_overlapsAnother 14 = .ok (.iconst 0, 1) := by decide +kernel
theorem dX3_overlapsAnother_15 : decode cX3_overlapsAnother 15 = .ok (.ireturn, 1) := by decide +kernel
set_option maxRecDepth 20000 in
theorem ggX3_workedInWeeks_X3_workedBetween : GoodIn wsX3_workedInWeeks wsX3_workedBetween := goodIn_r _ [5, 6, 7, 8, 9, 10, 11, 12, 13, 14, 15, 16, 17, 18, 19, 20, 21, 22, 23, 24, 25, 26, 27, 28, 29, 30, 31, 32, 33, 34, 35, 36, 37, 38, 39, 40, 41, 42, 43, 44, 45, 46, 47, 48, 49, 50, 51, 52, 53, 54, 55, 56, 57, 58, 59] (by decide +kernel) (by decide +kernel)
set_option maxRecDepth 20000 in
theorem gX3_workedInWeeks_X3_workedBetween : GoodIn wsX3_workedInWeeks (wsV RX3 204 RX3 yX3_workedBetween wsX3_workedBetween) := goodIn_app (goodIn_of _ (by decide +kernel)) ggX3_workedInWeeks_X3_workedBetween
theorem dX3_workedInWeeks_0 : decode cX3_workedInWeeks 0 = .ok (.aload_n 0, 1) := by decide +kernel
theorem dX3_workedInWeeks_1 : decode cX3_workedInWeeks 1 = .ok (.aload_n 1, 1) := by decide +kernel
theorem dX3_workedInWeeks_2 : decode cX3_workedInWeeks 2 = .ok (.iload_n 2, 1) := by decide +kernel
theorem dX3_workedInWeeks_3 : decode cX3_workedInWeeks 3 = .ok (.sipush 672, 3) := by decide +kernel
theorem dX3_workedInWeeks_6 : decode cX3_workedInWeeks 6 = .ok (.imul, 1) := by decide +kernel
theorem dX3_workedInWeeks_7 : decode cX3_workedInWeeks 7 = .ok (.iload_n 2, 1) := by decide +kernel
theorem dX3_workedInWeeks_8 : decode cX3_workedInWeeks 8 = .ok (.iload_n 3, 1) := by decide +kernel
theorem dX3_workedInWeeks_9 : decode cX3_workedInWeeks 9 = .ok (.iadd, 1) := by decide +kernel
theorem dX3_workedInWeeks_10 : decode cX3_workedInWeeks 10 = .ok (.sipush 672, 3) := by decide +kernel
theorem dX3_workedInWeeks_13 : decode cX3_workedInWeeks 13 = .ok (.imul, 1) := by decide +kernel
theorem dX3_workedInWeeks_14 : decode cX3_workedInWeeks 14 = .ok (.invokevirtual 204, 3) := by decide +kernel
theorem dX3_workedInWeeks_17 : decode cX3_workedInWeeks 17 = .ok (.ireturn, 1) := by decide +kernel
set_option maxRecDepth 20000 in
theorem ggX3_workedBetween_Jx4a65c_size_8abf5 : GoodIn wsX3_workedBetween wsJx4a65c_size_8abf5 := goodIn_r _ [9, 10, 52, 53, 54] (by decide +kernel) (by decide +kernel)
set_option maxRecDepth 20000 in
theorem gX3_workedBetween_Jx4a65c_size_8abf5 : GoodIn wsX3_workedBetween (wsV RX3 47 RJx4a65c yJx4a65c_size_8abf5 wsJx4a65c_size_8abf5) := goodIn_app (goodIn_of _ (by decide +kernel)) ggX3_workedBetween_Jx4a65c_size_8abf5
set_option maxRecDepth 20000 in
theorem ggX3_workedBetween_Jx4a65c_get_915e3 : GoodIn wsX3_workedBetween wsJx4a65c_get_915e3 := goodIn_r _ [14, 10, 15, 16, 17, 18, 19, 20, 21, 22, 23, 24, 25, 8, 26, 27, 52, 53, 54] (by decide +kernel) (by decide +kernel)
set_option maxRecDepth 20000 in
theorem gX3_workedBetween_Jx4a65c_get_915e3 : GoodIn wsX3_workedBetween (wsV RX3 140 RJx4a65c yJx4a65c_get_915e3 wsJx4a65c_get_915e3) := goodIn_app (goodIn_of _ (by decide +kernel)) ggX3_workedBetween_Jx4a65c_get_915e3
set_option maxRecDepth 20000 in
theorem ggX3_workedBetween_X1_ownBetween : GoodIn wsX3_workedBetween wsX1_ownBetween := goodIn_r _ [32, 33, 34, 35, 36, 37, 38, 39, 40, 41, 47, 48, 49, 50, 51] (by decide +kernel) (by decide +kernel)
set_option maxRecDepth 20000 in
theorem gX3_workedBetween_X1_ownBetween : GoodIn wsX3_workedBetween (wsV RX3 207 RX1 yX1_ownBetween wsX1_ownBetween) := goodIn_app (goodIn_of _ (by decide +kernel)) ggX3_workedBetween_X1_ownBetween
theorem dX3_workedBetween_0 : decode cX3_workedBetween 0 = .ok (.iconst 0, 1) := by decide +kernel
theorem dX3_workedBetween_1 : decode cX3_workedBetween 1 = .ok (.istore 4, 2) := by decide +kernel
theorem dX3_workedBetween_3 : decode cX3_workedBetween 3 = .ok (.iconst 0, 1) := by decide +kernel
theorem dX3_workedBetween_4 : decode cX3_workedBetween 4 = .ok (.istore 5, 2) := by decide +kernel
theorem dX3_workedBetween_6 : decode cX3_workedBetween 6 = .ok (.iload 5, 2) := by decide +kernel
theorem dX3_workedBetween_8 : decode cX3_workedBetween 8 = .ok (.aload_n 0, 1) := by decide +kernel
theorem dX3_workedBetween_9 : decode cX3_workedBetween 9 = .ok (.getfield 33, 3) := by decide +kernel
theorem dX3_workedBetween_12 : decode cX3_workedBetween 12 = .ok (.invokevirtual 47, 3) := by decide +kernel
theorem dX3_workedBetween_15 : decode cX3_workedBetween 15 = .ok (.if_icmp .ge 52, 3) := by decide +kernel
theorem dX3_workedBetween_18 : decode cX3_workedBetween 18 = .ok (.aload_n 0, 1) := by decide +kernel
theorem dX3_workedBetween_19 : decode cX3_workedBetween 19 = .ok (.getfield 33, 3) := by decide +kernel
theorem dX3_workedBetween_22 : decode cX3_workedBetween 22 = .ok (.iload 5, 2) := by decide +kernel
theorem dX3_workedBetween_24 : decode cX3_workedBetween 24 = .ok (.invokevirtual 140, 3) := by decide +kernel
theorem dX3_workedBetween_27 : decode cX3_workedBetween 27 = .ok (.checkcast 96, 3) := by decide +kernel
theorem dX3_workedBetween_30 : decode cX3_workedBetween 30 = .ok (.astore 6, 2) := by decide +kernel
theorem dX3_workedBetween_32 : decode cX3_workedBetween 32 = .ok (.aload 6, 2) := by decide +kernel
theorem dX3_workedBetween_34 : decode cX3_workedBetween 34 = .ok (.getfield 148, 3) := by decide +kernel
theorem dX3_workedBetween_37 : decode cX3_workedBetween 37 = .ok (.aload_n 1, 1) := by decide +kernel
theorem dX3_workedBetween_38 : decode cX3_workedBetween 38 = .ok (.if_acmp .ne 23, 3) := by decide +kernel
theorem dX3_workedBetween_41 : decode cX3_workedBetween 41 = .ok (.aload 6, 2) := by decide +kernel
theorem dX3_workedBetween_43 : decode cX3_workedBetween 43 = .ok (.getfield 113, 3) := by decide +kernel
theorem dX3_workedBetween_46 : decode cX3_workedBetween 46 = .ok (.ifCond .ne 15, 3) := by decide +kernel
theorem dX3_workedBetween_49 : decode cX3_workedBetween 49 = .ok (.iload 4, 2) := by decide +kernel
theorem dX3_workedBetween_51 : decode cX3_workedBetween 51 = .ok (.aload 6, 2) := by decide +kernel
theorem dX3_workedBetween_53 : decode cX3_workedBetween 53 = .ok (.iload_n 2, 1) := by decide +kernel
theorem dX3_workedBetween_54 : decode cX3_workedBetween 54 = .ok (.iload_n 3, 1) := by decide +kernel
theorem dX3_workedBetween_55 : decode cX3_workedBetween 55 = .ok (.invokevirtual 207, 3) := by decide +kernel
theorem dX3_workedBetween_58 : decode cX3_workedBetween 58 = .ok (.iadd, 1) := by decide +kernel
theorem dX3_workedBetween_59 : decode cX3_workedBetween 59 = .ok (.istore 4, 2) := by decide +kernel
theorem dX3_workedBetween_61 : decode cX3_workedBetween 61 = .ok (.iinc 5 1, 3) := by decide +kernel
theorem dX3_workedBetween_64 : decode cX3_workedBetween 64 = .ok (.goto (-58), 3) := by decide +kernel
theorem dX3_workedBetween_67 : decode cX3_workedBetween 67 = .ok (.iload 4, 2) := by decide +kernel
theorem dX3_workedBetween_69 : decode cX3_workedBetween 69 = .ok (.ireturn, 1) := by decide +kernel
theorem dJ9_max_7cf53_0 : decode cJ9_max_7cf53 0 = .ok (.iload_n 0, 1) := by decide +kernel
theorem dJ9_max_7cf53_1 : decode cJ9_max_7cf53 1 = .ok (.iload_n 1, 1) := by decide +kernel
theorem dJ9_max_7cf53_2 : decode cJ9_max_7cf53 2 = .ok (.if_icmp .lt 7, 3) := by decide +kernel
theorem dJ9_max_7cf53_5 : decode cJ9_max_7cf53 5 = .ok (.iload_n 0, 1) := by decide +kernel
theorem dJ9_max_7cf53_6 : decode cJ9_max_7cf53 6 = .ok (.goto 4, 3) := by decide +kernel
theorem dJ9_max_7cf53_9 : decode cJ9_max_7cf53 9 = .ok (.iload_n 1, 1) := by decide +kernel
theorem dJ9_max_7cf53_10 : decode cJ9_max_7cf53 10 = .ok (.ireturn, 1) := by decide +kernel
theorem dJ9_min_7cf53_0 : decode cJ9_min_7cf53 0 = .ok (.iload_n 0, 1) := by decide +kernel
theorem dJ9_min_7cf53_1 : decode cJ9_min_7cf53 1 = .ok (.iload_n 1, 1) := by decide +kernel
theorem dJ9_min_7cf53_2 : decode cJ9_min_7cf53 2 = .ok (.if_icmp .gt 7, 3) := by decide +kernel
theorem dJ9_min_7cf53_5 : decode cJ9_min_7cf53 5 = .ok (.iload_n 0, 1) := by decide +kernel
theorem dJ9_min_7cf53_6 : decode cJ9_min_7cf53 6 = .ok (.goto 4, 3) := by decide +kernel
theorem dJ9_min_7cf53_9 : decode cJ9_min_7cf53 9 = .ok (.iload_n 1, 1) := by decide +kernel
theorem dJ9_min_7cf53_10 : decode cJ9_min_7cf53 10 = .ok (.ireturn, 1) := by decide +kernel
theorem dJxa1e45_init_da8c8_0 : decode cJxa1e45_init_da8c8 0 = .ok (.aload_n 0, 1) := by decide +kernel
theorem dJxa1e45_init_da8c8_1 : decode cJxa1e45_init_da8c8 1 = .ok (.invokespecial 1, 3) := by decide +kernel
theorem dJxa1e45_init_da8c8_4 : decode cJxa1e45_init_da8c8 4 = .ok (.return_, 1) := by decide +kernel
set_option maxRecDepth 20000 in
theorem ggJxc12de_init_da8c8_Jxa1e45_init_da8c8 : GoodIn wsJxc12de_init_da8c8 wsJxa1e45_init_da8c8 := goodIn_r _ [5, 6, 7, 8] (by decide +kernel) (by decide +kernel)
set_option maxRecDepth 20000 in
theorem gJxc12de_init_da8c8_Jxa1e45_init_da8c8 : GoodIn wsJxc12de_init_da8c8 (wsJxa1e45_init_da8c8) := ggJxc12de_init_da8c8_Jxa1e45_init_da8c8
theorem dJxc12de_init_da8c8_0 : decode cJxc12de_init_da8c8 0 = .ok (.aload_n 0, 1) := by decide +kernel
theorem dJxc12de_init_da8c8_1 : decode cJxc12de_init_da8c8 1 = .ok (.invokespecial 1, 3) := by decide +kernel
theorem dJxc12de_init_da8c8_4 : decode cJxc12de_init_da8c8 4 = .ok (.aload_n 0, 1) := by decide +kernel
theorem dJxc12de_init_da8c8_5 : decode cJxc12de_init_da8c8 5 = .ok (.iconst 0, 1) := by decide +kernel
theorem dJxc12de_init_da8c8_6 : decode cJxc12de_init_da8c8 6 = .ok (.putfield 7, 3) := by decide +kernel
theorem dJxc12de_init_da8c8_9 : decode cJxc12de_init_da8c8 9 = .ok (.return_, 1) := by decide +kernel
set_option maxRecDepth 20000 in
theorem ggJx4a65c_init_da8c8_Jxc12de_init_da8c8 : GoodIn wsJx4a65c_init_da8c8 wsJxc12de_init_da8c8 := goodIn_r _ [6, 7, 8, 9, 10, 11, 12, 13, 14, 15, 16, 17] (by decide +kernel) (by decide +kernel)
set_option maxRecDepth 20000 in
theorem gJx4a65c_init_da8c8_Jxc12de_init_da8c8 : GoodIn wsJx4a65c_init_da8c8 (wsJxc12de_init_da8c8) := ggJx4a65c_init_da8c8_Jxc12de_init_da8c8
theorem dJx4a65c_init_da8c8_0 : decode cJx4a65c_init_da8c8 0 = .ok (.aload_n 0, 1) := by decide +kernel
theorem dJx4a65c_init_da8c8_1 : decode cJx4a65c_init_da8c8 1 = .ok (.invokespecial 1, 3) := by decide +kernel
theorem dJx4a65c_init_da8c8_4 : decode cJx4a65c_init_da8c8 4 = .ok (.aload_n 0, 1) := by decide +kernel
theorem dJx4a65c_init_da8c8_5 : decode cJx4a65c_init_da8c8 5 = .ok (.getstatic 39, 3) := by decide +kernel
theorem dJx4a65c_init_da8c8_8 : decode cJx4a65c_init_da8c8 8 = .ok (.putfield 9, 3) := by decide +kernel
theorem dJx4a65c_init_da8c8_11 : decode cJx4a65c_init_da8c8 11 = .ok (.return_, 1) := by decide +kernel
set_option maxRecDepth 20000 in
theorem ggJx4a65c_grow_92f84_J8_newLength_cabcc : GoodIn wsJx4a65c_grow_92f84 wsJ8_newLength_cabcc := goodIn_r _ [11, 12, 4, 5, 6, 13, 14, 15, 10, 16] (by decide +kernel) (by decide +kernel)
set_option maxRecDepth 20000 in
theorem gJx4a65c_grow_92f84_J8_newLength_cabcc : GoodIn wsJx4a65c_grow_92f84 (va_wsS RJx4a65c 73 yJ8_newLength_cabcc wsJ8_newLength_cabcc) := goodIn_app (goodIn_of _ (by decide +kernel)) ggJx4a65c_grow_92f84_J8_newLength_cabcc
set_option maxRecDepth 20000 in
theorem ggJx4a65c_grow_92f84_J7_copyOf_1904c : GoodIn wsJx4a65c_grow_92f84 wsJ7_copyOf_1904c := goodIn_r _ [20, 21, 22, 23, 24, 25, 26, 19, 27, 28, 29, 30, 31, 5, 32, 33, 34, 35, 36] (by decide +kernel) (by decide +kernel)
set_option maxRecDepth 20000 in
theorem gJx4a65c_grow_92f84_J7_copyOf_1904c : GoodIn wsJx4a65c_grow_92f84 (va_wsS RJx4a65c 66 yJ7_copyOf_1904c wsJ7_copyOf_1904c) := goodIn_app (goodIn_of _ (by decide +kernel)) ggJx4a65c_grow_92f84_J7_copyOf_1904c
theorem dJx4a65c_grow_92f84_0 : decode cJx4a65c_grow_92f84 0 = .ok (.aload_n 0, 1) := by decide +kernel
theorem dJx4a65c_grow_92f84_1 : decode cJx4a65c_grow_92f84 1 = .ok (.getfield 9, 3) := by decide +kernel
theorem dJx4a65c_grow_92f84_4 : decode cJx4a65c_grow_92f84 4 = .ok (.arraylength, 1) := by decide +kernel
theorem dJx4a65c_grow_92f84_5 : decode cJx4a65c_grow_92f84 5 = .ok (.istore_n 2, 1) := by decide +kernel
theorem dJx4a65c_grow_92f84_6 : decode cJx4a65c_grow_92f84 6 = .ok (.iload_n 2, 1) := by decide +kernel
theorem dJx4a65c_grow_92f84_7 : decode cJx4a65c_grow_92f84 7 = .ok (.ifCond .gt 13, 3) := by decide +kernel
theorem dJx4a65c_grow_92f84_10 : decode cJx4a65c_grow_92f84 10 = .ok (.aload_n 0, 1) := by decide +kernel
theorem dJx4a65c_grow_92f84_11 : decode cJx4a65c_grow_92f84 11 = .ok (.getfield 9, 3) := by decide +kernel
theorem dJx4a65c_grow_92f84_14 : decode cJx4a65c_grow_92f84 14 = .ok (.getstatic 39, 3) := by decide +kernel
theorem dJx4a65c_grow_92f84_17 : decode cJx4a65c_grow_92f84 17 = .ok (.if_acmp .eq 28, 3) := by decide +kernel
theorem dJx4a65c_grow_92f84_20 : decode cJx4a65c_grow_92f84 20 = .ok (.iload_n 2, 1) := by decide +kernel
theorem dJx4a65c_grow_92f84_21 : decode cJx4a65c_grow_92f84 21 = .ok (.iload_n 1, 1) := by decide +kernel
theorem dJx4a65c_grow_92f84_22 : decode cJx4a65c_grow_92f84 22 = .ok (.iload_n 2, 1) := by decide +kernel
theorem dJx4a65c_grow_92f84_23 : decode cJx4a65c_grow_92f84 23 = .ok (.isub, 1) := by decide +kernel
theorem dJx4a65c_grow_92f84_24 : decode cJx4a65c_grow_92f84 24 = .ok (.iload_n 2, 1) := by decide +kernel
theorem dJx4a65c_grow_92f84_25 : decode cJx4a65c_grow_92f84 25 = .ok (.iconst 1, 1) := by decide +kernel
theorem dJx4a65c_grow_92f84_26 : decode cJx4a65c_grow_92f84 26 = .ok (.ishr, 1) := by decide +kernel
theorem dJx4a65c_grow_92f84_27 : decode cJx4a65c_grow_92f84 27 = .ok (.invokestatic 73, 3) := by decide +kernel
theorem dJx4a65c_grow_92f84_30 : decode cJx4a65c_grow_92f84 30 = .ok (.istore_n 3, 1) := by decide +kernel
theorem dJx4a65c_grow_92f84_31 : decode cJx4a65c_grow_92f84 31 = .ok (.aload_n 0, 1) := by decide +kernel
theorem dJx4a65c_grow_92f84_32 : decode cJx4a65c_grow_92f84 32 = .ok (.aload_n 0, 1) := by decide +kernel
theorem dJx4a65c_grow_92f84_33 : decode cJx4a65c_grow_92f84 33 = .ok (.getfield 9, 3) := by decide +kernel
theorem dJx4a65c_grow_92f84_36 : decode cJx4a65c_grow_92f84 36 = .ok (.iload_n 3, 1) := by decide +kernel
theorem dJx4a65c_grow_92f84_37 : decode cJx4a65c_grow_92f84 37 = .ok (.invokestatic 66, 3) := by decide +kernel
theorem dJx4a65c_grow_92f84_40 : decode cJx4a65c_grow_92f84 40 = .ok (.dup_x1, 1) := by decide +kernel
theorem dJx4a65c_grow_92f84_41 : decode cJx4a65c_grow_92f84 41 = .ok (.putfield 9, 3) := by decide +kernel
theorem dJx4a65c_grow_92f84_44 : decode cJx4a65c_grow_92f84 44 = .ok (.areturn, 1) := by decide +kernel
theorem dJx4a65c_grow_92f84_45 : decode cJx4a65c_grow_92f84 45 = .ok (.aload_n 0, 1) := by decide +kernel
theorem dJx4a65c_grow_92f84_46 : decode cJx4a65c_grow_92f84 46 = .ok (.bipush 10, 2) := by decide +kernel
theorem dJx4a65c_grow_92f84_48 : decode cJx4a65c_grow_92f84 48 = .ok (.iload_n 1, 1) := by decide +kernel
theorem dJx4a65c_grow_92f84_49 : decode cJx4a65c_grow_92f84 49 = .ok (.invokestatic 79, 3) := by decide +kernel
theorem dJx4a65c_grow_92f84_52 : decode cJx4a65c_grow_92f84 52 = .ok (.anewarray 7, 3) := by decide +kernel
theorem dJx4a65c_grow_92f84_55 : decode cJx4a65c_grow_92f84 55 = .ok (.dup_x1, 1) := by decide +kernel
theorem dJx4a65c_grow_92f84_56 : decode cJx4a65c_grow_92f84 56 = .ok (.putfield 9, 3) := by decide +kernel
theorem dJx4a65c_grow_92f84_59 : decode cJx4a65c_grow_92f84 59 = .ok (.areturn, 1) := by decide +kernel
set_option maxRecDepth 20000 in
theorem ggJx4a65c_grow_d5877_Jx4a65c_grow_92f84 : GoodIn wsJx4a65c_grow_d5877 wsJx4a65c_grow_92f84 := goodIn_r _ [6, 7, 8, 9, 10, 11, 12, 13, 14, 15, 16, 17, 18, 19, 20, 21, 22, 23, 24, 25, 26, 27, 28, 29, 30, 31, 32, 33, 34, 35, 36, 37, 38, 39, 40, 41, 42, 43, 44, 45] (by decide +kernel) (by decide +kernel)
set_option maxRecDepth 20000 in
theorem gJx4a65c_grow_d5877_Jx4a65c_grow_92f84 : GoodIn wsJx4a65c_grow_d5877 (wsV RJx4a65c 69 RJx4a65c yJx4a65c_grow_92f84 wsJx4a65c_grow_92f84) := goodIn_app (goodIn_of _ (by decide +kernel)) ggJx4a65c_grow_d5877_Jx4a65c_grow_92f84
theorem dJx4a65c_grow_d5877_0 : decode cJx4a65c_grow_d5877 0 = .ok (.aload_n 0, 1) := by decide +kernel
theorem dJx4a65c_grow_d5877_1 : decode cJx4a65c_grow_d5877 1 = .ok (.aload_n 0, 1) := by decide +kernel
theorem dJx4a65c_grow_d5877_2 : decode cJx4a65c_grow_d5877 2 = .ok (.getfield 48, 3) := by decide +kernel
theorem dJx4a65c_grow_d5877_5 : decode cJx4a65c_grow_d5877 5 = .ok (.iconst 1, 1) := by decide +kernel
theorem dJx4a65c_grow_d5877_6 : decode cJx4a65c_grow_d5877 6 = .ok (.iadd, 1) := by decide +kernel
theorem dJx4a65c_grow_d5877_7 : decode cJx4a65c_grow_d5877 7 = .ok (.invokevirtual 69, 3) := by decide +kernel
theorem dJx4a65c_grow_d5877_10 : decode cJx4a65c_grow_d5877 10 = .ok (.areturn, 1) := by decide +kernel
theorem dJx4a65c_size_8abf5_0 : decode cJx4a65c_size_8abf5 0 = .ok (.aload_n 0, 1) := by decide +kernel
theorem dJx4a65c_size_8abf5_1 : decode cJx4a65c_size_8abf5 1 = .ok (.getfield 48, 3) := by decide +kernel
theorem dJx4a65c_size_8abf5_4 : decode cJx4a65c_size_8abf5 4 = .ok (.ireturn, 1) := by decide +kernel
theorem dJx4a65c_elementData_915e3_0 : decode cJx4a65c_elementData_915e3 0 = .ok (.aload_n 0, 1) := by decide +kernel
theorem dJx4a65c_elementData_915e3_1 : decode cJx4a65c_elementData_915e3 1 = .ok (.getfield 9, 3) := by decide +kernel
theorem dJx4a65c_elementData_915e3_4 : decode cJx4a65c_elementData_915e3 4 = .ok (.iload_n 1, 1) := by decide +kernel
theorem dJx4a65c_elementData_915e3_5 : decode cJx4a65c_elementData_915e3 5 = .ok (.aaload, 1) := by decide +kernel
theorem dJx4a65c_elementData_915e3_6 : decode cJx4a65c_elementData_915e3 6 = .ok (.areturn, 1) := by decide +kernel
set_option maxRecDepth 20000 in
theorem ggJx4a65c_get_915e3_J15_checkIndex_7cf53 : GoodIn wsJx4a65c_get_915e3 wsJ15_checkIndex_7cf53 := goodIn_r _ [5, 6, 7, 8, 9] (by decide +kernel) (by decide +kernel)
set_option maxRecDepth 20000 in
theorem gJx4a65c_get_915e3_J15_checkIndex_7cf53 : GoodIn wsJx4a65c_get_915e3 (va_wsS RJx4a65c 118 yJ15_checkIndex_7cf53 wsJ15_checkIndex_7cf53) := goodIn_app (goodIn_of _ (by decide +kernel)) ggJx4a65c_get_915e3_J15_checkIndex_7cf53
set_option maxRecDepth 20000 in
theorem ggJx4a65c_get_915e3_Jx4a65c_elementData_915e3 : GoodIn wsJx4a65c_get_915e3 wsJx4a65c_elementData_915e3 := goodIn_r _ [14, 15, 16, 17, 18] (by decide +kernel) (by decide +kernel)
set_option maxRecDepth 20000 in
theorem gJx4a65c_get_915e3_Jx4a65c_elementData_915e3 : GoodIn wsJx4a65c_get_915e3 (wsV RJx4a65c 123 RJx4a65c yJx4a65c_elementData_915e3 wsJx4a65c_elementData_915e3) := goodIn_app (goodIn_of _ (by decide +kernel)) ggJx4a65c_get_915e3_Jx4a65c_elementData_915e3
theorem dJx4a65c_get_915e3_0 : decode cJx4a65c_get_915e3 0 = .ok (.iload_n 1, 1) := by decide +kernel
theorem dJx4a65c_get_915e3_1 : decode cJx4a65c_get_915e3 1 = .ok (.aload_n 0, 1) := by decide +kernel
theorem dJx4a65c_get_915e3_2 : decode cJx4a65c_get_915e3 2 = .ok (.getfield 48, 3) := by decide +kernel
theorem dJx4a65c_get_915e3_5 : decode cJx4a65c_get_915e3 5 = .ok (.invokestatic 118, 3) := by decide +kernel
theorem dJx4a65c_get_915e3_8 : decode cJx4a65c_get_915e3 8 = .ok (.pop, 1) := by decide +kernel
theorem dJx4a65c_get_915e3_9 : decode cJx4a65c_get_915e3 9 = .ok (.aload_n 0, 1) := by decide +kernel
theorem dJx4a65c_get_915e3_10 : decode cJx4a65c_get_915e3 10 = .ok (.iload_n 1, 1) := by decide +kernel
theorem dJx4a65c_get_915e3_11 : decode cJx4a65c_get_915e3 11 = .ok (.invokevirtual 123, 3) := by decide +kernel
theorem dJx4a65c_get_915e3_14 : decode cJx4a65c_get_915e3 14 = .ok (.areturn, 1) := by decide +kernel
set_option maxRecDepth 20000 in
theorem ggJx4a65c_add_72be8_Jx4a65c_grow_d5877 : GoodIn wsJx4a65c_add_72be8 wsJx4a65c_grow_d5877 := goodIn_r _ [6, 1, 7, 8, 9, 5, 10, 11, 12, 13, 14, 15, 16, 17, 18, 19, 20, 21, 22, 23, 24, 25, 26, 27, 28, 29, 30, 31, 32, 33, 34, 35, 36, 37, 38, 39, 40, 41, 42, 43, 44, 45, 46, 47, 48, 49] (by decide +kernel) (by decide +kernel)
set_option maxRecDepth 20000 in
theorem gJx4a65c_add_72be8_Jx4a65c_grow_d5877 : GoodIn wsJx4a65c_add_72be8 (wsV RJx4a65c 129 RJx4a65c yJx4a65c_grow_d5877 wsJx4a65c_grow_d5877) := goodIn_app (goodIn_of _ (by decide +kernel)) ggJx4a65c_add_72be8_Jx4a65c_grow_d5877
theorem dJx4a65c_add_72be8_0 : decode cJx4a65c_add_72be8 0 = .ok (.iload_n 3, 1) := by decide +kernel
theorem dJx4a65c_add_72be8_1 : decode cJx4a65c_add_72be8 1 = .ok (.aload_n 2, 1) := by decide +kernel
theorem dJx4a65c_add_72be8_2 : decode cJx4a65c_add_72be8 2 = .ok (.arraylength, 1) := by decide +kernel
theorem dJx4a65c_add_72be8_3 : decode cJx4a65c_add_72be8 3 = .ok (.if_icmp .ne 8, 3) := by decide +kernel
theorem dJx4a65c_add_72be8_6 : decode cJx4a65c_add_72be8 6 = .ok (.aload_n 0, 1) := by decide +kernel
theorem dJx4a65c_add_72be8_7 : decode cJx4a65c_add_72be8 7 = .ok (.invokevirtual 129, 3) := by decide +kernel
theorem dJx4a65c_add_72be8_10 : decode cJx4a65c_add_72be8 10 = .ok (.astore_n 2, 1) := by decide +kernel
theorem dJx4a65c_add_72be8_11 : decode cJx4a65c_add_72be8 11 = .ok (.aload_n 2, 1) := by decide +kernel
theorem dJx4a65c_add_72be8_12 : decode cJx4a65c_add_72be8 12 = .ok (.iload_n 3, 1) := by decide +kernel
theorem dJx4a65c_add_72be8_13 : decode cJx4a65c_add_72be8 13 = .ok (.aload_n 1, 1) := by decide +kernel
theorem dJx4a65c_add_72be8_14 : decode cJx4a65c_add_72be8 14 = .ok (.aastore, 1) := by decide +kernel
theorem dJx4a65c_add_72be8_15 : decode cJx4a65c_add_72be8 15 = .ok (.aload_n 0, 1) := by decide +kernel
theorem dJx4a65c_add_72be8_16 : decode cJx4a65c_add_72be8 16 = .ok (.iload_n 3, 1) := by decide +kernel
theorem dJx4a65c_add_72be8_17 : decode cJx4a65c_add_72be8 17 = .ok (.iconst 1, 1) := by decide +kernel
theorem dJx4a65c_add_72be8_18 : decode cJx4a65c_add_72be8 18 = .ok (.iadd, 1) := by decide +kernel
theorem dJx4a65c_add_72be8_19 : decode cJx4a65c_add_72be8 19 = .ok (.putfield 48, 3) := by decide +kernel
theorem dJx4a65c_add_72be8_22 : decode cJx4a65c_add_72be8 22 = .ok (.return_, 1) := by decide +kernel
set_option maxRecDepth 20000 in
theorem ggJx4a65c_add_9ea2d_Jx4a65c_add_72be8 : GoodIn wsJx4a65c_add_9ea2d wsJx4a65c_add_72be8 := goodIn_r _ [9, 4, 10, 11, 12, 8, 13, 14, 15, 16, 17, 3, 18, 19, 20, 21, 22, 23, 24, 25, 26, 27, 28, 29, 30, 31, 32, 33, 34, 35, 36, 37, 38, 39, 40, 41, 42, 43, 44, 45, 46, 47, 48, 49, 50, 51, 52, 53, 54, 55] (by decide +kernel) (by decide +kernel)
set_option maxRecDepth 20000 in
theorem gJx4a65c_add_9ea2d_Jx4a65c_add_72be8 : GoodIn wsJx4a65c_add_9ea2d (wsV RJx4a65c 131 RJx4a65c yJx4a65c_add_72be8 wsJx4a65c_add_72be8) := goodIn_app (goodIn_of _ (by decide +kernel)) ggJx4a65c_add_9ea2d_Jx4a65c_add_72be8
theorem dJx4a65c_add_9ea2d_0 : decode cJx4a65c_add_9ea2d 0 = .ok (.aload_n 0, 1) := by decide +kernel
theorem dJx4a65c_add_9ea2d_1 : decode cJx4a65c_add_9ea2d 1 = .ok (.dup, 1) := by decide +kernel
theorem dJx4a65c_add_9ea2d_2 : decode cJx4a65c_add_9ea2d 2 = .ok (.getfield 63, 3) := by decide +kernel
theorem dJx4a65c_add_9ea2d_5 : decode cJx4a65c_add_9ea2d 5 = .ok (.iconst 1, 1) := by decide +kernel
theorem dJx4a65c_add_9ea2d_6 : decode cJx4a65c_add_9ea2d 6 = .ok (.iadd, 1) := by decide +kernel
theorem dJx4a65c_add_9ea2d_7 : decode cJx4a65c_add_9ea2d 7 = .ok (.putfield 63, 3) := by decide +kernel
theorem dJx4a65c_add_9ea2d_10 : decode cJx4a65c_add_9ea2d 10 = .ok (.aload_n 0, 1) := by decide +kernel
theorem dJx4a65c_add_9ea2d_11 : decode cJx4a65c_add_9ea2d 11 = .ok (.aload_n 1, 1) := by decide +kernel
theorem dJx4a65c_add_9ea2d_12 : decode cJx4a65c_add_9ea2d 12 = .ok (.aload_n 0, 1) := by decide +kernel
theorem dJx4a65c_add_9ea2d_13 : decode cJx4a65c_add_9ea2d 13 = .ok (.getfield 9, 3) := by decide +kernel
theorem dJx4a65c_add_9ea2d_16 : decode cJx4a65c_add_9ea2d 16 = .ok (.aload_n 0, 1) := by decide +kernel
theorem dJx4a65c_add_9ea2d_17 : decode cJx4a65c_add_9ea2d 17 = .ok (.getfield 48, 3) := by decide +kernel
theorem dJx4a65c_add_9ea2d_20 : decode cJx4a65c_add_9ea2d 20 = .ok (.invokevirtual 131, 3) := by decide +kernel
theorem dJx4a65c_add_9ea2d_23 : decode cJx4a65c_add_9ea2d 23 = .ok (.iconst 1, 1) := by decide +kernel
theorem dJx4a65c_add_9ea2d_24 : decode cJx4a65c_add_9ea2d 24 = .ok (.ireturn, 1) := by decide +kernel
theorem dJ7_fill_53178_0 : decode cJ7_fill_53178 0 = .ok (.iconst 0, 1) := by decide +kernel
theorem dJ7_fill_53178_1 : decode cJ7_fill_53178 1 = .ok (.istore_n 2, 1) := by decide +kernel
theorem dJ7_fill_53178_2 : decode cJ7_fill_53178 2 = .ok (.aload_n 0, 1) := by decide +kernel
theorem dJ7_fill_53178_3 : decode cJ7_fill_53178 3 = .ok (.arraylength, 1) := by decide +kernel
theorem dJ7_fill_53178_4 : decode cJ7_fill_53178 4 = .ok (.istore_n 3, 1) := by decide +kernel
theorem dJ7_fill_53178_5 : decode cJ7_fill_53178 5 = .ok (.iload_n 2, 1) := by decide +kernel
theorem dJ7_fill_53178_6 : decode cJ7_fill_53178 6 = .ok (.iload_n 3, 1) := by decide +kernel
theorem dJ7_fill_53178_7 : decode cJ7_fill_53178 7 = .ok (.if_icmp .ge 13, 3) := by decide +kernel
theorem dJ7_fill_53178_10 : decode cJ7_fill_53178 10 = .ok (.aload_n 0, 1) := by decide +kernel
theorem dJ7_fill_53178_11 : decode cJ7_fill_53178 11 = .ok (.iload_n 2, 1) := by decide +kernel
theorem dJ7_fill_53178_12 : decode cJ7_fill_53178 12 = .ok (.iload_n 1, 1) := by decide +kernel
theorem dJ7_fill_53178_13 : decode cJ7_fill_53178 13 = .ok (.iastore, 1) := by decide +kernel
theorem dJ7_fill_53178_14 : decode cJ7_fill_53178 14 = .ok (.iinc 2 1, 3) := by decide +kernel
theorem dJ7_fill_53178_17 : decode cJ7_fill_53178 17 = .ok (.goto (-12), 3) := by decide +kernel
theorem dJ7_fill_53178_20 : decode cJ7_fill_53178 20 = .ok (.return_, 1) := by decide +kernel
set_option maxRecDepth 20000 in
theorem ggJ7_copyOf_1904c_J7_copyOf_6403c : GoodIn wsJ7_copyOf_1904c wsJ7_copyOf_6403c := goodIn_r _ [8, 9, 10, 11, 12, 13, 14, 15, 16, 17, 18] (by decide +kernel) (by decide +kernel)
set_option maxRecDepth 20000 in
theorem gJ7_copyOf_1904c_J7_copyOf_6403c : GoodIn wsJ7_copyOf_1904c (va_wsS RJ7 300 yJ7_copyOf_6403c wsJ7_copyOf_6403c) := goodIn_app (goodIn_of _ (by decide +kernel)) ggJ7_copyOf_1904c_J7_copyOf_6403c
theorem dJ7_copyOf_1904c_0 : decode cJ7_copyOf_1904c 0 = .ok (.aload_n 0, 1) := by decide +kernel
theorem dJ7_copyOf_1904c_1 : decode cJ7_copyOf_1904c 1 = .ok (.iload_n 1, 1) := by decide +kernel
theorem dJ7_copyOf_1904c_2 : decode cJ7_copyOf_1904c 2 = .ok (.aload_n 0, 1) := by decide +kernel
theorem dJ7_copyOf_1904c_3 : decode cJ7_copyOf_1904c 3 = .ok (.invokevirtual 86, 3) := by decide +kernel
theorem dJ7_copyOf_1904c_6 : decode cJ7_copyOf_1904c 6 = .ok (.invokestatic 300, 3) := by decide +kernel
theorem dJ7_copyOf_1904c_9 : decode cJ7_copyOf_1904c 9 = .ok (.areturn, 1) := by decide +kernel
theorem dJ7_copyOf_6403c_0 : decode cJ7_copyOf_6403c 0 = .ok (.aload_n 2, 1) := by decide +kernel
theorem dJ7_copyOf_6403c_1 : decode cJ7_copyOf_6403c 1 = .ok (.ldc 110, 2) := by decide +kernel
theorem dJ7_copyOf_6403c_3 : decode cJ7_copyOf_6403c 3 = .ok (.if_acmp .ne 10, 3) := by decide +kernel
theorem dJ7_copyOf_6403c_6 : decode cJ7_copyOf_6403c 6 = .ok (.iload_n 1, 1) := by decide +kernel
theorem dJ7_copyOf_6403c_7 : decode cJ7_copyOf_6403c 7 = .ok (.anewarray 2, 3) := by decide +kernel
theorem dJ7_copyOf_6403c_10 : decode cJ7_copyOf_6403c 10 = .ok (.goto 14, 3) := by decide +kernel
theorem dJ7_copyOf_6403c_13 : decode cJ7_copyOf_6403c 13 = .ok (.aload_n 2, 1) := by decide +kernel
theorem dJ7_copyOf_6403c_14 : decode cJ7_copyOf_6403c 14 = .ok (.invokevirtual 90, 3) := by decide +kernel
theorem dJ7_copyOf_6403c_17 : decode cJ7_copyOf_6403c 17 = .ok (.iload_n 1, 1) := by decide +kernel
theorem dJ7_copyOf_6403c_18 : decode cJ7_copyOf_6403c 18 = .ok (.invokestatic 95, 3) := by decide +kernel
theorem dJ7_copyOf_6403c_21 : decode cJ7_copyOf_6403c 21 = .ok (.checkcast 110, 3) := by decide +kernel
theorem dJ7_copyOf_6403c_24 : decode cJ7_copyOf_6403c 24 = .ok (.astore_n 3, 1) := by decide +kernel
theorem dJ7_copyOf_6403c_25 : decode cJ7_copyOf_6403c 25 = .ok (.aload_n 0, 1) := by decide +kernel
theorem dJ7_copyOf_6403c_26 : decode cJ7_copyOf_6403c 26 = .ok (.iconst 0, 1) := by decide +kernel
theorem dJ7_copyOf_6403c_27 : decode cJ7_copyOf_6403c 27 = .ok (.aload_n 3, 1) := by decide +kernel
theorem dJ7_copyOf_6403c_28 : decode cJ7_copyOf_6403c 28 = .ok (.iconst 0, 1) := by decide +kernel
theorem dJ7_copyOf_6403c_29 : decode cJ7_copyOf_6403c 29 = .ok (.aload_n 0, 1) := by decide +kernel
theorem dJ7_copyOf_6403c_30 : decode cJ7_copyOf_6403c 30 = .ok (.arraylength, 1) := by decide +kernel
theorem dJ7_copyOf_6403c_31 : decode cJ7_copyOf_6403c 31 = .ok (.iload_n 1, 1) := by decide +kernel
theorem dJ7_copyOf_6403c_32 : decode cJ7_copyOf_6403c 32 = .ok (.invokestatic 304, 3) := by decide +kernel
theorem dJ7_copyOf_6403c_35 : decode cJ7_copyOf_6403c 35 = .ok (.invokestatic 150, 3) := by decide +kernel
theorem dJ7_copyOf_6403c_38 : decode cJ7_copyOf_6403c 38 = .ok (.aload_n 3, 1) := by decide +kernel
theorem dJ7_copyOf_6403c_39 : decode cJ7_copyOf_6403c 39 = .ok (.areturn, 1) := by decide +kernel
set_option maxRecDepth 20000 in
theorem ggJ15_checkIndex_7cf53_J3_checkIndex_8e157 : GoodIn wsJ15_checkIndex_7cf53 wsJ3_checkIndex_8e157 := goodIn_r _ [4] (by decide +kernel) (by decide +kernel)
set_option maxRecDepth 20000 in
theorem gJ15_checkIndex_7cf53_J3_checkIndex_8e157 : GoodIn wsJ15_checkIndex_7cf53 (va_wsS RJ15 105 yJ3_checkIndex_8e157 wsJ3_checkIndex_8e157) := goodIn_app (goodIn_of _ (by decide +kernel)) ggJ15_checkIndex_7cf53_J3_checkIndex_8e157
theorem dJ15_checkIndex_7cf53_0 : decode cJ15_checkIndex_7cf53 0 = .ok (.iload_n 0, 1) := by decide +kernel
theorem dJ15_checkIndex_7cf53_1 : decode cJ15_checkIndex_7cf53 1 = .ok (.iload_n 1, 1) := by decide +kernel
theorem dJ15_checkIndex_7cf53_2 : decode cJ15_checkIndex_7cf53 2 = .ok (.aconst_null, 1) := by decide +kernel
theorem dJ15_checkIndex_7cf53_3 : decode cJ15_checkIndex_7cf53 3 = .ok (.invokestatic 105, 3) := by decide +kernel
theorem dJ15_checkIndex_7cf53_6 : decode cJ15_checkIndex_7cf53 6 = .ok (.ireturn, 1) := by decide +kernel
set_option maxRecDepth 20000 in
theorem ggJ8_newLength_cabcc_J8_hugeLength_7cf53 : GoodIn wsJ8_newLength_cabcc wsJ8_hugeLength_7cf53 := goodIn_r _ [9, 5] (by decide +kernel) (by decide +kernel)
set_option maxRecDepth 20000 in
theorem gJ8_newLength_cabcc_J8_hugeLength_7cf53 : GoodIn wsJ8_newLength_cabcc (va_wsS RJ8 201 yJ8_hugeLength_7cf53 wsJ8_hugeLength_7cf53) := goodIn_app (goodIn_of _ (by decide +kernel)) ggJ8_newLength_cabcc_J8_hugeLength_7cf53
theorem dJ8_newLength_cabcc_0 : decode cJ8_newLength_cabcc 0 = .ok (.iload_n 0, 1) := by decide +kernel
theorem dJ8_newLength_cabcc_1 : decode cJ8_newLength_cabcc 1 = .ok (.iload_n 1, 1) := by decide +kernel
theorem dJ8_newLength_cabcc_2 : decode cJ8_newLength_cabcc 2 = .ok (.iload_n 2, 1) := by decide +kernel
theorem dJ8_newLength_cabcc_3 : decode cJ8_newLength_cabcc 3 = .ok (.invokestatic 194, 3) := by decide +kernel
theorem dJ8_newLength_cabcc_6 : decode cJ8_newLength_cabcc 6 = .ok (.iadd, 1) := by decide +kernel
theorem dJ8_newLength_cabcc_7 : decode cJ8_newLength_cabcc 7 = .ok (.istore_n 3, 1) := by decide +kernel
theorem dJ8_newLength_cabcc_8 : decode cJ8_newLength_cabcc 8 = .ok (.iconst 0, 1) := by decide +kernel
theorem dJ8_newLength_cabcc_9 : decode cJ8_newLength_cabcc 9 = .ok (.iload_n 3, 1) := by decide +kernel
theorem dJ8_newLength_cabcc_10 : decode cJ8_newLength_cabcc 10 = .ok (.if_icmp .ge 11, 3) := by decide +kernel
theorem dJ8_newLength_cabcc_13 : decode cJ8_newLength_cabcc 13 = .ok (.iload_n 3, 1) := by decide +kernel
theorem dJ8_newLength_cabcc_14 : decode cJ8_newLength_cabcc 14 = .ok (.ldc 200, 2) := by decide +kernel
theorem dJ8_newLength_cabcc_16 : decode cJ8_newLength_cabcc 16 = .ok (.if_icmp .gt 5, 3) := by decide +kernel
theorem dJ8_newLength_cabcc_19 : decode cJ8_newLength_cabcc 19 = .ok (.iload_n 3, 1) := by decide +kernel
theorem dJ8_newLength_cabcc_20 : decode cJ8_newLength_cabcc 20 = .ok (.ireturn, 1) := by decide +kernel
theorem dJ8_newLength_cabcc_21 : decode cJ8_newLength_cabcc 21 = .ok (.iload_n 0, 1) := by decide +kernel
theorem dJ8_newLength_cabcc_22 : decode cJ8_newLength_cabcc 22 = .ok (.iload_n 1, 1) := by decide +kernel
theorem dJ8_newLength_cabcc_23 : decode cJ8_newLength_cabcc 23 = .ok (.invokestatic 201, 3) := by decide +kernel
theorem dJ8_newLength_cabcc_26 : decode cJ8_newLength_cabcc 26 = .ok (.ireturn, 1) := by decide +kernel
theorem dJ8_hugeLength_7cf53_0 : decode cJ8_hugeLength_7cf53 0 = .ok (.iload_n 0, 1) := by decide +kernel
theorem dJ8_hugeLength_7cf53_1 : decode cJ8_hugeLength_7cf53 1 = .ok (.iload_n 1, 1) := by decide +kernel
theorem dJ8_hugeLength_7cf53_2 : decode cJ8_hugeLength_7cf53 2 = .ok (.iadd, 1) := by decide +kernel
theorem dJ8_hugeLength_7cf53_3 : decode cJ8_hugeLength_7cf53 3 = .ok (.istore_n 2, 1) := by decide +kernel
theorem dJ8_hugeLength_7cf53_4 : decode cJ8_hugeLength_7cf53 4 = .ok (.iload_n 2, 1) := by decide +kernel
theorem dJ8_hugeLength_7cf53_5 : decode cJ8_hugeLength_7cf53 5 = .ok (.ifCond .ge 44, 3) := by decide +kernel
theorem dJ8_hugeLength_7cf53_8 : decode cJ8_hugeLength_7cf53 8 = .ok (.new 204, 3) := by decide +kernel
theorem dJ8_hugeLength_7cf53_11 : decode cJ8_hugeLength_7cf53 11 = .ok (.dup, 1) := by decide +kernel
theorem dJ8_hugeLength_7cf53_12 : decode cJ8_hugeLength_7cf53 12 = .ok (.new 89, 3) := by decide +kernel
theorem dJ8_hugeLength_7cf53_15 : decode cJ8_hugeLength_7cf53 15 = .ok (.dup, 1) := by decide +kernel
theorem dJ8_hugeLength_7cf53_16 : decode cJ8_hugeLength_7cf53 16 = .ok (.invokespecial 91, 3) := by decide +kernel
theorem dJ8_hugeLength_7cf53_19 : decode cJ8_hugeLength_7cf53 19 = .ok (.ldc 206, 2) := by decide +kernel
theorem dJ8_hugeLength_7cf53_21 : decode cJ8_hugeLength_7cf53 21 = .ok (.invokevirtual 94, 3) := by decide +kernel
theorem dJ8_hugeLength_7cf53_24 : decode cJ8_hugeLength_7cf53 24 = .ok (.iload_n 0, 1) := by decide +kernel
theorem dJ8_hugeLength_7cf53_25 : decode cJ8_hugeLength_7cf53 25 = .ok (.invokevirtual 98, 3) := by decide +kernel
theorem dJ8_hugeLength_7cf53_28 : decode cJ8_hugeLength_7cf53 28 = .ok (.ldc 208, 2) := by decide +kernel
theorem dJ8_hugeLength_7cf53_30 : decode cJ8_hugeLength_7cf53 30 = .ok (.invokevirtual 94, 3) := by decide +kernel
theorem dJ8_hugeLength_7cf53_33 : decode cJ8_hugeLength_7cf53 33 = .ok (.iload_n 1, 1) := by decide +kernel
theorem dJ8_hugeLength_7cf53_34 : decode cJ8_hugeLength_7cf53 34 = .ok (.invokevirtual 98, 3) := by decide +kernel
theorem dJ8_hugeLength_7cf53_37 : decode cJ8_hugeLength_7cf53 37 = .ok (.ldc 210, 2) := by decide +kernel
theorem dJ8_hugeLength_7cf53_39 : decode cJ8_hugeLength_7cf53 39 = .ok (.invokevirtual 94, 3) := by decide +kernel
theorem dJ8_hugeLength_7cf53_42 : decode cJ8_hugeLength_7cf53 42 = .ok (.invokevirtual 101, 3) := by decide +kernel
theorem dJ8_hugeLength_7cf53_45 : decode cJ8_hugeLength_7cf53 45 = .ok (.invokespecial 212, 3) := by decide +kernel
theorem dJ8_hugeLength_7cf53_48 : decode cJ8_hugeLength_7cf53 48 = .ok (.athrow, 1) := by decide +kernel
theorem dJ8_hugeLength_7cf53_49 : decode cJ8_hugeLength_7cf53 49 = .ok (.iload_n 2, 1) := by decide +kernel
theorem dJ8_hugeLength_7cf53_50 : decode cJ8_hugeLength_7cf53 50 = .ok (.ldc 200, 2) := by decide +kernel
theorem dJ8_hugeLength_7cf53_52 : decode cJ8_hugeLength_7cf53 52 = .ok (.if_icmp .gt 6, 3) := by decide +kernel
theorem dJ8_hugeLength_7cf53_55 : decode cJ8_hugeLength_7cf53 55 = .ok (.ldc 200, 2) := by decide +kernel
theorem dJ8_hugeLength_7cf53_57 : decode cJ8_hugeLength_7cf53 57 = .ok (.ireturn, 1) := by decide +kernel
theorem dJ8_hugeLength_7cf53_58 : decode cJ8_hugeLength_7cf53 58 = .ok (.iload_n 2, 1) := by decide +kernel
theorem dJ8_hugeLength_7cf53_59 : decode cJ8_hugeLength_7cf53 59 = .ok (.ireturn, 1) := by decide +kernel
theorem dJ3_checkIndex_8e157_0 : decode cJ3_checkIndex_8e157 0 = .ok (.iload_n 0, 1) := by decide +kernel
theorem dJ3_checkIndex_8e157_1 : decode cJ3_checkIndex_8e157 1 = .ok (.ifCond .lt 8, 3) := by decide +kernel
theorem dJ3_checkIndex_8e157_4 : decode cJ3_checkIndex_8e157 4 = .ok (.iload_n 0, 1) := by decide +kernel
theorem dJ3_checkIndex_8e157_5 : decode cJ3_checkIndex_8e157 5 = .ok (.iload_n 1, 1) := by decide +kernel
theorem dJ3_checkIndex_8e157_6 : decode cJ3_checkIndex_8e157 6 = .ok (.if_icmp .lt 10, 3) := by decide +kernel
theorem dJ3_checkIndex_8e157_9 : decode cJ3_checkIndex_8e157 9 = .ok (.aload_n 2, 1) := by decide +kernel
theorem dJ3_checkIndex_8e157_10 : decode cJ3_checkIndex_8e157 10 = .ok (.iload_n 0, 1) := by decide +kernel
theorem dJ3_checkIndex_8e157_11 : decode cJ3_checkIndex_8e157 11 = .ok (.iload_n 1, 1) := by decide +kernel
theorem dJ3_checkIndex_8e157_12 : decode cJ3_checkIndex_8e157 12 = .ok (.invokestatic 95, 3) := by decide +kernel
theorem dJ3_checkIndex_8e157_15 : decode cJ3_checkIndex_8e157 15 = .ok (.athrow, 1) := by decide +kernel
theorem dJ3_checkIndex_8e157_16 : decode cJ3_checkIndex_8e157 16 = .ok (.iload_n 0, 1) := by decide +kernel
theorem dJ3_checkIndex_8e157_17 : decode cJ3_checkIndex_8e157 17 = .ok (.ireturn, 1) := by decide +kernel
end
section
set_option maxRecDepth 20000 in
theorem ggL_rule_X3_addRule : GoodIn wsL_rule wsX3_addRule := goodIn_ca (goodIn_ca (goodIn_r _ [7, 8, 9, 10, 11, 12, 13, 14, 15, 6, 16, 17, 18, 19, 20, 21, 22, 23, 24, 25, 26, 27, 28, 29, 30, 31, 32, 33, 34, 35, 36, 37, 38, 39, 40, 41, 42, 43, 44, 45, 46, 47, 48, 49, 50, 51, 52, 53, 54, 55, 56, 57, 58, 59, 60, 61, 62, 63, 64, 65, 66, 67, 68, 69, 70, 71, 72, 73, 74, 75, 76, 77, 78, 79, 80, 81, 82, 83, 84, 85, 86, 87, 88, 89, 90, 91, 92, 93, 94, 95, 96, 97, 98, 99, 100, 101, 102, 103, 104, 105, 106] (by decide +kernel) (by decide +kernel)) (goodIn_sub (fun _ h => List.mem_cons_of_mem _ (List.mem_append_left _ (List.mem_append_right _ h))) (by decide +kernel))) (goodIn_sub (fun _ h => List.mem_cons_of_mem _ (List.mem_append_right _ h)) (by decide +kernel))
set_option maxRecDepth 20000 in
theorem gL_rule_X3_addRule : GoodIn wsL_rule (wsV RL 7 RX3 yX3_addRule wsX3_addRule) := goodIn_app (goodIn_of _ (by decide +kernel)) ggL_rule_X3_addRule
theorem dL_rule_0 : decode cL_rule 0 = .ok (.aload_n 0, 1) := by decide +kernel
theorem dL_rule_1 : decode cL_rule 1 = .ok (.iload_n 1, 1) := by decide +kernel
theorem dL_rule_2 : decode cL_rule 2 = .ok (.iload_n 2, 1) := by decide +kernel
theorem dL_rule_3 : decode cL_rule 3 = .ok (.iload_n 3, 1) := by decide +kernel
theorem dL_rule_4 : decode cL_rule 4 = .ok (.iload 4, 2) := by decide +kernel
theorem dL_rule_6 : decode cL_rule 6 = .ok (.iload 5, 2) := by decide +kernel
theorem dL_rule_8 : decode cL_rule 8 = .ok (.invokevirtual 7, 3) := by decide +kernel
theorem dL_rule_11 : decode cL_rule 11 = .ok (.ireturn, 1) := by decide +kernel
theorem dL_rule_12 : decode cL_rule 12 = .ok (.astore 6, 2) := by decide +kernel
theorem dL_rule_14 : decode cL_rule 14 = .ok (.bipush (-72), 2) := by decide +kernel
theorem dL_rule_16 : decode cL_rule 16 = .ok (.ireturn, 1) := by decide +kernel
theorem dL_rule_17 : decode cL_rule 17 = .ok (.astore 6, 2) := by decide +kernel
theorem dL_rule_19 : decode cL_rule 19 = .ok (.bipush (-73), 2) := by decide +kernel
theorem dL_rule_21 : decode cL_rule 21 = .ok (.ireturn, 1) := by decide +kernel
set_option maxRecDepth 20000 in
theorem ggL_act_X3_setBase : GoodIn wsL_act wsX3_setBase := goodIn_ca (goodIn_r _ [8, 9, 10, 11, 12, 13, 7, 14, 299, 300, 301, 302, 303] (by decide +kernel) (by decide +kernel)) (goodIn_sub (fun _ h => List.mem_cons_of_mem _ (List.mem_append_left _ (List.mem_append_left _ (List.mem_append_right _ h)))) (by decide +kernel))
set_option maxRecDepth 20000 in
theorem gL_act_X3_setBase : GoodIn wsL_act (wsV RL 17 RX3 yX3_setBase wsX3_setBase) := goodIn_app (goodIn_of _ (by decide +kernel)) ggL_act_X3_setBase
set_option maxRecDepth 20000 in
theorem ggL_act_X3_setRule : GoodIn wsL_act wsX3_setRule := goodIn_ca (goodIn_r _ [18, 19, 20, 21, 22, 7, 23, 24, 25, 26, 27, 28, 29, 30, 31, 32, 33, 34, 35, 36, 37, 38, 39, 40, 41, 42, 43, 44, 45, 46, 47, 48, 49, 50, 304, 305, 306, 307, 308, 309, 310, 299, 300, 301, 302, 303, 311, 312, 313] (by decide +kernel) (by decide +kernel)) (goodIn_sub (fun _ h => List.mem_cons_of_mem _ (List.mem_append_left _ (List.mem_append_right _ h))) (by decide +kernel))
set_option maxRecDepth 20000 in
theorem gL_act_X3_setRule : GoodIn wsL_act (wsV RL 21 RX3 yX3_setRule wsX3_setRule) := goodIn_app (goodIn_of _ (by decide +kernel)) ggL_act_X3_setRule
set_option maxRecDepth 20000 in
theorem ggL_act_X3_setHoliday : GoodIn wsL_act wsX3_setHoliday := goodIn_ca (goodIn_r _ [54, 9, 10, 55, 299, 300, 301, 302, 303] (by decide +kernel) (by decide +kernel)) (goodIn_sub (fun _ h => List.mem_cons_of_mem _ (List.mem_append_left _ (List.mem_append_left _ (List.mem_append_right _ h)))) (by decide +kernel))
set_option maxRecDepth 20000 in
theorem gL_act_X3_setHoliday : GoodIn wsL_act (wsV RL 25 RX3 yX3_setHoliday wsX3_setHoliday) := goodIn_app (goodIn_of _ (by decide +kernel)) ggL_act_X3_setHoliday
set_option maxRecDepth 20000 in
theorem ggL_act_X3_addWorker : GoodIn wsL_act wsX3_addWorker := goodIn_ca (goodIn_ca (goodIn_r _ [59, 60, 61, 62, 63, 64, 65, 12, 13, 7, 14, 9, 10, 28, 29, 30, 31, 32, 33, 66, 67, 68, 69, 70, 71, 72, 73, 74, 75, 76, 77, 78, 50, 79, 80, 81, 82, 83, 84, 85, 86, 87, 88, 89, 90, 91, 92, 93, 94, 95, 96, 97, 98, 99, 100, 101, 102, 103, 104, 105, 106, 107, 108, 109, 110, 111, 112, 113, 114, 115, 116, 117, 118, 119, 120, 121, 122, 123, 124, 125, 299, 300, 301, 302, 303, 314, 311, 312, 313] (by decide +kernel) (by decide +kernel)) (goodIn_sub (fun _ h => List.mem_cons_of_mem _ (List.mem_append_right _ h)) (by decide +kernel))) (goodIn_sub (fun _ h => List.mem_cons_of_mem _ (List.mem_append_left _ (List.mem_append_left _ (List.mem_append_right _ h)))) (by decide +kernel))
set_option maxRecDepth 20000 in
theorem gL_act_X3_addWorker : GoodIn wsL_act (wsV RL 28 RX3 yX3_addWorker wsX3_addWorker) := goodIn_app (goodIn_of _ (by decide +kernel)) ggL_act_X3_addWorker
set_option maxRecDepth 20000 in
theorem ggL_act_X3_setRank : GoodIn wsL_act wsX3_setRank := goodIn_ca (goodIn_ca (goodIn_r _ [129, 130, 131, 132, 133, 7, 134, 24, 25, 62, 135, 28, 29, 30, 31, 32, 33, 34, 35, 36, 37, 38, 39, 40, 41, 42, 43, 44, 45, 46, 47, 48, 49, 50, 12, 13, 14, 9, 10, 314, 299, 300, 301, 302, 303, 311, 312, 313] (by decide +kernel) (by decide +kernel)) (goodIn_sub (fun _ h => List.mem_cons_of_mem _ (List.mem_append_left _ (List.mem_append_right _ h))) (by decide +kernel))) (goodIn_sub (fun _ h => List.mem_cons_of_mem _ (List.mem_append_left _ (List.mem_append_left _ (List.mem_append_right _ h)))) (by decide +kernel))
set_option maxRecDepth 20000 in
theorem gL_act_X3_setRank : GoodIn wsL_act (wsV RL 32 RX3 yX3_setRank wsX3_setRank) := goodIn_app (goodIn_of _ (by decide +kernel)) ggL_act_X3_setRank
set_option maxRecDepth 20000 in
theorem ggL_act_X3_addShift : GoodIn wsL_act wsX3_addShift := goodIn_ca (goodIn_ca (goodIn_ca (goodIn_r _ [139, 60, 61, 140, 141, 142, 143, 131, 132, 133, 7, 134, 24, 25, 62, 135, 28, 29, 30, 31, 32, 33, 34, 35, 36, 37, 38, 39, 40, 41, 42, 43, 44, 45, 46, 47, 48, 49, 50, 12, 13, 14, 9, 10, 144, 145, 146, 147, 148, 149, 150, 151, 152, 153, 154, 155, 156, 157, 158, 159, 160, 161, 120, 94, 121, 162, 93, 95, 163, 164, 165, 166, 70, 71, 167, 168, 169, 73, 74, 75, 76, 77, 78, 79, 80, 81, 82, 83, 84, 85, 86, 87, 88, 89, 90, 91, 92, 96, 97, 98, 99, 100, 101, 102, 103, 104, 105, 106, 107, 108, 109, 110, 111, 112, 113, 114, 115, 116, 117, 118, 119, 122, 123, 124, 125, 299, 300, 301, 302, 303, 315, 316, 317, 318, 319, 311, 312, 313] (by decide +kernel) (by decide +kernel)) (goodIn_sub (fun _ h => List.mem_cons_of_mem _ (List.mem_append_right _ h)) (by decide +kernel))) (goodIn_sub (fun _ h => List.mem_cons_of_mem _ (List.mem_append_left _ (List.mem_append_right _ h))) (by decide +kernel))) (goodIn_sub (fun _ h => List.mem_cons_of_mem _ (List.mem_append_left _ (List.mem_append_left _ (List.mem_append_right _ h)))) (by decide +kernel))
set_option maxRecDepth 20000 in
theorem gL_act_X3_addShift : GoodIn wsL_act (wsV RL 35 RX3 yX3_addShift wsX3_addShift) := goodIn_app (goodIn_of _ (by decide +kernel)) ggL_act_X3_addShift
set_option maxRecDepth 20000 in
theorem ggL_act_X3_cancel : GoodIn wsL_act wsX3_cancel := goodIn_ca (goodIn_ca (goodIn_r _ [173, 154, 174, 175, 176, 7, 177, 24, 25, 140, 152, 28, 29, 30, 31, 32, 33, 34, 35, 36, 37, 38, 39, 40, 41, 42, 43, 44, 45, 46, 47, 48, 49, 50, 178, 179, 180, 60, 61, 181, 182, 183, 184, 153, 130, 185, 186, 187, 188, 11, 189, 190, 191, 143, 192, 169, 168, 162, 93, 94, 95, 193, 194, 195, 196, 160, 197, 198, 199, 200, 201, 202, 203, 204, 205, 206, 207, 208, 209, 26, 27, 210, 211, 212, 213, 159, 214, 215, 216, 217, 218, 219, 220, 221, 55, 222, 223, 224, 225, 226, 227, 228, 229, 230, 231, 232, 233, 234, 235, 236, 237, 238, 239, 240, 241, 242, 243, 244, 315, 316, 317, 318, 319, 299, 300, 301, 302, 303, 311, 312, 313, 314, 304, 305, 306, 307, 308, 309, 310] (by decide +kernel) (by decide +kernel)) (goodIn_sub (fun _ h => List.mem_cons_of_mem _ (List.mem_append_left _ (List.mem_append_right _ h))) (by decide +kernel))) (goodIn_sub (fun _ h => List.mem_cons_of_mem _ (List.mem_append_right _ h)) (by decide +kernel))
set_option maxRecDepth 20000 in
theorem gL_act_X3_cancel : GoodIn wsL_act (wsV RL 39 RX3 yX3_cancel wsX3_cancel) := goodIn_app (goodIn_of _ (by decide +kernel)) ggL_act_X3_cancel
set_option maxRecDepth 20000 in
theorem ggL_act_X3_takeBreaks : GoodIn wsL_act wsX3_takeBreaks := goodIn_ca (goodIn_ca (goodIn_ca (goodIn_r _ [248, 249, 174, 175, 176, 7, 177, 24, 25, 140, 152, 28, 29, 30, 31, 32, 33, 34, 35, 36, 37, 38, 39, 40, 41, 42, 43, 44, 45, 46, 47, 48, 49, 50, 12, 13, 14, 9, 10, 178, 179, 180, 60, 61, 154, 315, 316, 317, 318, 319, 299, 300, 301, 302, 303, 311, 312, 313] (by decide +kernel) (by decide +kernel)) (goodIn_sub (fun _ h => List.mem_cons_of_mem _ (List.mem_append_left _ (List.mem_append_right _ h))) (by decide +kernel))) (goodIn_sub (fun _ h => List.mem_cons_of_mem _ (List.mem_append_left _ (List.mem_append_left _ (List.mem_append_right _ h)))) (by decide +kernel))) (goodIn_sub (fun _ h => List.mem_cons_of_mem _ (List.mem_append_right _ h)) (by decide +kernel))
set_option maxRecDepth 20000 in
theorem gL_act_X3_takeBreaks : GoodIn wsL_act (wsV RL 42 RX3 yX3_takeBreaks wsX3_takeBreaks) := goodIn_app (goodIn_of _ (by decide +kernel)) ggL_act_X3_takeBreaks
set_option maxRecDepth 20000 in
theorem ggL_act_X3_paidQuarters : GoodIn wsL_act wsX3_paidQuarters := goodIn_ca (goodIn_r _ [253, 174, 175, 176, 7, 177, 24, 25, 140, 152, 28, 29, 30, 31, 32, 33, 34, 35, 36, 37, 38, 39, 40, 41, 42, 43, 44, 45, 46, 47, 48, 49, 50, 197, 198, 199, 143, 200, 169, 160, 162, 93, 94, 95, 299, 300, 301, 302, 303, 311, 312, 313, 315, 316, 317, 318, 319] (by decide +kernel) (by decide +kernel)) (goodIn_sub (fun _ h => List.mem_cons_of_mem _ (List.mem_append_left _ (List.mem_append_right _ h))) (by decide +kernel))
set_option maxRecDepth 20000 in
theorem gL_act_X3_paidQuarters : GoodIn wsL_act (wsV RL 45 RX3 yX3_paidQuarters wsX3_paidQuarters) := goodIn_app (goodIn_of _ (by decide +kernel)) ggL_act_X3_paidQuarters
set_option maxRecDepth 20000 in
theorem ggL_act_X3_percentAt : GoodIn wsL_act wsX3_percentAt := goodIn_ca (goodIn_r _ [257, 174, 175, 176, 7, 177, 24, 25, 140, 152, 28, 29, 30, 31, 32, 33, 34, 35, 36, 37, 38, 39, 40, 41, 42, 43, 44, 45, 46, 47, 48, 49, 50, 258, 259, 260, 197, 198, 199, 143, 200, 169, 160, 162, 93, 94, 95, 201, 202, 203, 204, 205, 206, 207, 208, 209, 26, 27, 153, 130, 210, 211, 212, 213, 159, 214, 215, 216, 217, 218, 219, 220, 221, 55, 222, 223, 224, 225, 226, 227, 228, 229, 230, 231, 232, 233, 234, 235, 236, 237, 238, 239, 240, 241, 299, 300, 301, 302, 303, 311, 312, 313, 315, 316, 317, 318, 319, 304, 305, 306, 307, 308, 309, 310, 314] (by decide +kernel) (by decide +kernel)) (goodIn_sub (fun _ h => List.mem_cons_of_mem _ (List.mem_append_left _ (List.mem_append_right _ h))) (by decide +kernel))
set_option maxRecDepth 20000 in
theorem gL_act_X3_percentAt : GoodIn wsL_act (wsV RL 48 RX3 yX3_percentAt wsX3_percentAt) := goodIn_app (goodIn_of _ (by decide +kernel)) ggL_act_X3_percentAt
set_option maxRecDepth 20000 in
theorem ggL_act_X3_reasonAt : GoodIn wsL_act wsX3_reasonAt := goodIn_ca (goodIn_r _ [264, 265, 174, 175, 176, 7, 177, 24, 25, 140, 152, 28, 29, 30, 31, 32, 33, 34, 35, 36, 37, 38, 39, 40, 41, 42, 43, 44, 45, 46, 47, 48, 49, 50, 258, 259, 260, 197, 198, 199, 143, 200, 169, 160, 162, 93, 94, 95, 206, 207, 208, 209, 26, 27, 205, 153, 130, 210, 211, 212, 213, 159, 214, 215, 216, 217, 218, 219, 220, 221, 55, 222, 223, 224, 225, 226, 227, 228, 229, 230, 231, 232, 233, 234, 235, 236, 237, 238, 239, 240, 241, 304, 305, 306, 307, 308, 309, 310, 299, 300, 301, 302, 303, 311, 312, 313, 315, 316, 317, 318, 319, 314] (by decide +kernel) (by decide +kernel)) (goodIn_sub (fun _ h => List.mem_cons_of_mem _ (List.mem_append_left _ (List.mem_append_right _ h))) (by decide +kernel))
set_option maxRecDepth 20000 in
theorem gL_act_X3_reasonAt : GoodIn wsL_act (wsV RL 51 RX3 yX3_reasonAt wsX3_reasonAt) := goodIn_app (goodIn_of _ (by decide +kernel)) ggL_act_X3_reasonAt
set_option maxRecDepth 20000 in
theorem ggL_act_X3_missed : GoodIn wsL_act wsX3_missed := goodIn_ca (goodIn_r _ [269, 174, 175, 176, 7, 177, 24, 25, 140, 152, 28, 29, 30, 31, 32, 33, 34, 35, 36, 37, 38, 39, 40, 41, 42, 43, 44, 45, 46, 47, 48, 49, 50, 189, 190, 191, 143, 192, 169, 168, 162, 93, 94, 95, 193, 194, 195, 196, 160, 299, 300, 301, 302, 303, 311, 312, 313, 315, 316, 317, 318, 319] (by decide +kernel) (by decide +kernel)) (goodIn_sub (fun _ h => List.mem_cons_of_mem _ (List.mem_append_left _ (List.mem_append_right _ h))) (by decide +kernel))
set_option maxRecDepth 20000 in
theorem gL_act_X3_missed : GoodIn wsL_act (wsV RL 54 RX3 yX3_missed wsX3_missed) := goodIn_app (goodIn_of _ (by decide +kernel)) ggL_act_X3_missed
set_option maxRecDepth 20000 in
theorem ggL_act_X3_pay : GoodIn wsL_act wsX3_pay := goodIn_ca (goodIn_r _ [273, 174, 175, 176, 7, 177, 24, 25, 140, 152, 28, 29, 30, 31, 32, 33, 34, 35, 36, 37, 38, 39, 40, 41, 42, 43, 44, 45, 46, 47, 48, 49, 50, 181, 182, 183, 184, 153, 130, 185, 186, 187, 188, 11, 189, 190, 191, 143, 192, 169, 168, 162, 93, 94, 95, 193, 194, 195, 196, 160, 197, 198, 199, 200, 201, 202, 203, 204, 205, 206, 207, 208, 209, 26, 27, 210, 211, 212, 213, 159, 214, 215, 216, 217, 218, 219, 220, 221, 55, 222, 223, 224, 225, 226, 227, 228, 229, 230, 231, 232, 233, 234, 235, 236, 237, 238, 239, 240, 241, 242, 243, 244, 299, 300, 301, 302, 303, 311, 312, 313, 315, 316, 317, 318, 319, 314, 304, 305, 306, 307, 308, 309, 310] (by decide +kernel) (by decide +kernel)) (goodIn_sub (fun _ h => List.mem_cons_of_mem _ (List.mem_append_left _ (List.mem_append_right _ h))) (by decide +kernel))
set_option maxRecDepth 20000 in
theorem gL_act_X3_pay : GoodIn wsL_act (wsV RL 57 RX3 yX3_pay wsX3_pay) := goodIn_app (goodIn_of _ (by decide +kernel)) ggL_act_X3_pay
set_option maxRecDepth 20000 in
theorem ggL_act_X3_payOf : GoodIn wsL_act wsX3_payOf := goodIn_ca (goodIn_ca (goodIn_r _ [277, 140, 152, 153, 131, 132, 133, 7, 134, 24, 25, 62, 135, 28, 29, 30, 31, 32, 33, 34, 35, 36, 37, 38, 39, 40, 41, 42, 43, 44, 45, 46, 47, 48, 49, 50, 12, 13, 14, 9, 10, 210, 211, 212, 143, 213, 159, 181, 182, 183, 184, 130, 185, 186, 187, 188, 11, 189, 190, 191, 192, 169, 168, 162, 93, 94, 95, 193, 194, 195, 196, 160, 197, 198, 199, 200, 201, 202, 203, 204, 205, 206, 207, 208, 209, 26, 27, 214, 215, 216, 217, 218, 219, 220, 221, 55, 222, 223, 224, 225, 226, 227, 228, 229, 230, 231, 232, 233, 234, 235, 236, 237, 238, 239, 240, 241, 242, 243, 244, 299, 300, 301, 302, 303, 315, 316, 317, 318, 319, 311, 312, 313, 314, 304, 305, 306, 307, 308, 309, 310] (by decide +kernel) (by decide +kernel)) (goodIn_sub (fun _ h => List.mem_cons_of_mem _ (List.mem_append_left _ (List.mem_append_right _ h))) (by decide +kernel))) (goodIn_sub (fun _ h => List.mem_cons_of_mem _ (List.mem_append_left _ (List.mem_append_left _ (List.mem_append_right _ h)))) (by decide +kernel))
set_option maxRecDepth 20000 in
theorem gL_act_X3_payOf : GoodIn wsL_act (wsV RL 60 RX3 yX3_payOf wsX3_payOf) := goodIn_app (goodIn_of _ (by decide +kernel)) ggL_act_X3_payOf
set_option maxRecDepth 20000 in
theorem ggL_act_X3_paidBy : GoodIn wsL_act wsX3_paidBy := goodIn_ca (goodIn_r _ [281, 140, 152, 20, 21, 22, 7, 23, 24, 25, 26, 27, 28, 29, 30, 31, 32, 33, 34, 35, 36, 37, 38, 39, 40, 41, 42, 43, 44, 45, 46, 47, 48, 49, 50, 282, 283, 284, 285, 153, 130, 265, 205, 185, 186, 187, 188, 11, 197, 198, 199, 143, 200, 169, 160, 162, 93, 94, 95, 206, 207, 208, 209, 210, 211, 212, 213, 159, 214, 215, 216, 217, 218, 219, 220, 221, 55, 222, 223, 224, 225, 226, 227, 228, 229, 230, 231, 232, 233, 234, 235, 236, 237, 238, 239, 240, 241, 242, 243, 244, 299, 300, 301, 302, 303, 311, 312, 313, 315, 316, 317, 318, 319, 314, 304, 305, 306, 307, 308, 309, 310] (by decide +kernel) (by decide +kernel)) (goodIn_sub (fun _ h => List.mem_cons_of_mem _ (List.mem_append_left _ (List.mem_append_right _ h))) (by decide +kernel))
set_option maxRecDepth 20000 in
theorem gL_act_X3_paidBy : GoodIn wsL_act (wsV RL 64 RX3 yX3_paidBy wsX3_paidBy) := goodIn_app (goodIn_of _ (by decide +kernel)) ggL_act_X3_paidBy
set_option maxRecDepth 20000 in
theorem ggL_act_X3_worked : GoodIn wsL_act wsX3_worked := goodIn_ca (goodIn_ca (goodIn_r _ [289, 131, 132, 133, 7, 134, 24, 25, 62, 135, 28, 29, 30, 31, 32, 33, 34, 35, 36, 37, 38, 39, 40, 41, 42, 43, 44, 45, 46, 47, 48, 49, 50, 12, 13, 14, 9, 10, 290, 291, 292, 293, 148, 149, 150, 151, 140, 152, 153, 154, 155, 156, 157, 143, 158, 159, 160, 161, 120, 94, 121, 162, 93, 95, 299, 300, 301, 302, 303, 311, 312, 313, 315, 316, 317, 318, 319] (by decide +kernel) (by decide +kernel)) (goodIn_sub (fun _ h => List.mem_cons_of_mem _ (List.mem_append_left _ (List.mem_append_right _ h))) (by decide +kernel))) (goodIn_sub (fun _ h => List.mem_cons_of_mem _ (List.mem_append_left _ (List.mem_append_left _ (List.mem_append_right _ h)))) (by decide +kernel))
set_option maxRecDepth 20000 in
theorem gL_act_X3_worked : GoodIn wsL_act (wsV RL 67 RX3 yX3_worked wsX3_worked) := goodIn_app (goodIn_of _ (by decide +kernel)) ggL_act_X3_worked
set_option maxRecDepth 20000 in
theorem ggL_act_X3_excess : GoodIn wsL_act wsX3_excess := goodIn_ca (goodIn_ca (goodIn_r _ [297, 298, 93, 94, 95, 131, 132, 133, 7, 134, 24, 25, 62, 135, 28, 29, 30, 31, 32, 33, 34, 35, 36, 37, 38, 39, 40, 41, 42, 43, 44, 45, 46, 47, 48, 49, 50, 12, 13, 14, 9, 10, 290, 291, 292, 293, 148, 149, 150, 151, 140, 152, 153, 154, 155, 156, 157, 143, 158, 159, 160, 161, 120, 121, 162, 299, 300, 301, 302, 303, 311, 312, 313, 315, 316, 317, 318, 319] (by decide +kernel) (by decide +kernel)) (goodIn_sub (fun _ h => List.mem_cons_of_mem _ (List.mem_append_left _ (List.mem_append_right _ h))) (by decide +kernel))) (goodIn_sub (fun _ h => List.mem_cons_of_mem _ (List.mem_append_left _ (List.mem_append_left _ (List.mem_append_right _ h)))) (by decide +kernel))
set_option maxRecDepth 20000 in
theorem gL_act_X3_excess : GoodIn wsL_act (wsV RL 70 RX3 yX3_excess wsX3_excess) := goodIn_app (goodIn_of _ (by decide +kernel)) ggL_act_X3_excess
theorem dL_act_0 : decode cL_act 0 = .ok (.iload_n 1, 1) := by decide +kernel
theorem dL_act_1 : decode cL_act 1 = .ok (.ifCond .ne 12, 3) := by decide +kernel
theorem dL_act_4 : decode cL_act 4 = .ok (.aload_n 0, 1) := by decide +kernel
theorem dL_act_5 : decode cL_act 5 = .ok (.iload_n 2, 1) := by decide +kernel
theorem dL_act_6 : decode cL_act 6 = .ok (.iload_n 3, 1) := by decide +kernel
theorem dL_act_7 : decode cL_act 7 = .ok (.invokevirtual 17, 3) := by decide +kernel
theorem dL_act_10 : decode cL_act 10 = .ok (.goto 263, 3) := by decide +kernel
theorem dL_act_13 : decode cL_act 13 = .ok (.iload_n 1, 1) := by decide +kernel
theorem dL_act_14 : decode cL_act 14 = .ok (.iconst 1, 1) := by decide +kernel
theorem dL_act_15 : decode cL_act 15 = .ok (.if_icmp .ne 29, 3) := by decide +kernel
theorem dL_act_18 : decode cL_act 18 = .ok (.aload_n 0, 1) := by decide +kernel
theorem dL_act_19 : decode cL_act 19 = .ok (.iload_n 2, 1) := by decide +kernel
theorem dL_act_20 : decode cL_act 20 = .ok (.iload_n 3, 1) := by decide +kernel
theorem dL_act_21 : decode cL_act 21 = .ok (.iconst 1, 1) := by decide +kernel
theorem dL_act_22 : decode cL_act 22 = .ok (.if_icmp .ne 7, 3) := by decide +kernel
theorem dL_act_25 : decode cL_act 25 = .ok (.iconst 1, 1) := by decide +kernel
theorem dL_act_26 : decode cL_act 26 = .ok (.goto 4, 3) := by decide +kernel
theorem dL_act_29 : decode cL_act 29 = .ok (.iconst 0, 1) := by decide +kernel
theorem dL_act_30 : decode cL_act 30 = .ok (.invokevirtual 21, 3) := by decide +kernel
theorem dL_act_33 : decode cL_act 33 = .ok (.ifCond .eq 7, 3) := by decide +kernel
theorem dL_act_36 : decode cL_act 36 = .ok (.iconst 1, 1) := by decide +kernel
theorem dL_act_37 : decode cL_act 37 = .ok (.goto 236, 3) := by decide +kernel
theorem dL_act_40 : decode cL_act 40 = .ok (.iconst 0, 1) := by decide +kernel
theorem dL_act_41 : decode cL_act 41 = .ok (.goto 232, 3) := by decide +kernel
theorem dL_act_44 : decode cL_act 44 = .ok (.iload_n 1, 1) := by decide +kernel
theorem dL_act_45 : decode cL_act 45 = .ok (.iconst 2, 1) := by decide +kernel
theorem dL_act_46 : decode cL_act 46 = .ok (.if_icmp .ne 29, 3) := by decide +kernel
theorem dL_act_49 : decode cL_act 49 = .ok (.aload_n 0, 1) := by decide +kernel
theorem dL_act_50 : decode cL_act 50 = .ok (.iload_n 2, 1) := by decide +kernel
theorem dL_act_51 : decode cL_act 51 = .ok (.iload_n 3, 1) := by decide +kernel
theorem dL_act_52 : decode cL_act 52 = .ok (.iconst 1, 1) := by decide +kernel
theorem dL_act_53 : decode cL_act 53 = .ok (.if_icmp .ne 7, 3) := by decide +kernel
theorem dL_act_56 : decode cL_act 56 = .ok (.iconst 1, 1) := by decide +kernel
theorem dL_act_57 : decode cL_act 57 = .ok (.goto 4, 3) := by decide +kernel
theorem dL_act_60 : decode cL_act 60 = .ok (.iconst 0, 1) := by decide +kernel
theorem dL_act_61 : decode cL_act 61 = .ok (.invokevirtual 25, 3) := by decide +kernel
theorem dL_act_64 : decode cL_act 64 = .ok (.ifCond .eq 7, 3) := by decide +kernel
theorem dL_act_67 : decode cL_act 67 = .ok (.iconst 1, 1) := by decide +kernel
theorem dL_act_68 : decode cL_act 68 = .ok (.goto 205, 3) := by decide +kernel
theorem dL_act_71 : decode cL_act 71 = .ok (.iconst 0, 1) := by decide +kernel
theorem dL_act_72 : decode cL_act 72 = .ok (.goto 201, 3) := by decide +kernel
theorem dL_act_75 : decode cL_act 75 = .ok (.iload_n 1, 1) := by decide +kernel
theorem dL_act_76 : decode cL_act 76 = .ok (.iconst 3, 1) := by decide +kernel
theorem dL_act_77 : decode cL_act 77 = .ok (.if_icmp .ne 11, 3) := by decide +kernel
theorem dL_act_80 : decode cL_act 80 = .ok (.aload_n 0, 1) := by decide +kernel
theorem dL_act_81 : decode cL_act 81 = .ok (.iload_n 2, 1) := by decide +kernel
theorem dL_act_82 : decode cL_act 82 = .ok (.invokevirtual 28, 3) := by decide +kernel
theorem dL_act_85 : decode cL_act 85 = .ok (.goto 188, 3) := by decide +kernel
theorem dL_act_88 : decode cL_act 88 = .ok (.iload_n 1, 1) := by decide +kernel
theorem dL_act_89 : decode cL_act 89 = .ok (.iconst 4, 1) := by decide +kernel
theorem dL_act_90 : decode cL_act 90 = .ok (.if_icmp .ne 12, 3) := by decide +kernel
theorem dL_act_93 : decode cL_act 93 = .ok (.aload_n 0, 1) := by decide +kernel
theorem dL_act_94 : decode cL_act 94 = .ok (.iload_n 2, 1) := by decide +kernel
theorem dL_act_95 : decode cL_act 95 = .ok (.iload_n 3, 1) := by decide +kernel
theorem dL_act_96 : decode cL_act 96 = .ok (.invokevirtual 32, 3) := by decide +kernel
theorem dL_act_99 : decode cL_act 99 = .ok (.goto 174, 3) := by decide +kernel
theorem dL_act_102 : decode cL_act 102 = .ok (.iload_n 1, 1) := by decide +kernel
theorem dL_act_103 : decode cL_act 103 = .ok (.iconst 5, 1) := by decide +kernel
theorem dL_act_104 : decode cL_act 104 = .ok (.if_icmp .ne 16, 3) := by decide +kernel
theorem dL_act_107 : decode cL_act 107 = .ok (.aload_n 0, 1) := by decide +kernel
theorem dL_act_108 : decode cL_act 108 = .ok (.iload_n 2, 1) := by decide +kernel
theorem dL_act_109 : decode cL_act 109 = .ok (.iload_n 3, 1) := by decide +kernel
theorem dL_act_110 : decode cL_act 110 = .ok (.iload 4, 2) := by decide +kernel
theorem dL_act_112 : decode cL_act 112 = .ok (.iload 5, 2) := by decide +kernel
theorem dL_act_114 : decode cL_act 114 = .ok (.invokevirtual 35, 3) := by decide +kernel
theorem dL_act_117 : decode cL_act 117 = .ok (.goto 156, 3) := by decide +kernel
theorem dL_act_120 : decode cL_act 120 = .ok (.iload_n 1, 1) := by decide +kernel
theorem dL_act_121 : decode cL_act 121 = .ok (.bipush 6, 2) := by decide +kernel
theorem dL_act_123 : decode cL_act 123 = .ok (.if_icmp .ne 11, 3) := by decide +kernel
theorem dL_act_126 : decode cL_act 126 = .ok (.aload_n 0, 1) := by decide +kernel
theorem dL_act_127 : decode cL_act 127 = .ok (.iload_n 2, 1) := by decide +kernel
theorem dL_act_128 : decode cL_act 128 = .ok (.invokevirtual 39, 3) := by decide +kernel
theorem dL_act_131 : decode cL_act 131 = .ok (.goto 142, 3) := by decide +kernel
theorem dL_act_134 : decode cL_act 134 = .ok (.iload_n 1, 1) := by decide +kernel
theorem dL_act_135 : decode cL_act 135 = .ok (.bipush 7, 2) := by decide +kernel
theorem dL_act_137 : decode cL_act 137 = .ok (.if_icmp .ne 12, 3) := by decide +kernel
theorem dL_act_140 : decode cL_act 140 = .ok (.aload_n 0, 1) := by decide +kernel
theorem dL_act_141 : decode cL_act 141 = .ok (.iload_n 2, 1) := by decide +kernel
theorem dL_act_142 : decode cL_act 142 = .ok (.iload_n 3, 1) := by decide +kernel
theorem dL_act_143 : decode cL_act 143 = .ok (.invokevirtual 42, 3) := by decide +kernel
theorem dL_act_146 : decode cL_act 146 = .ok (.goto 127, 3) := by decide +kernel
theorem dL_act_149 : decode cL_act 149 = .ok (.iload_n 1, 1) := by decide +kernel
theorem dL_act_150 : decode cL_act 150 = .ok (.bipush 8, 2) := by decide +kernel
theorem dL_act_152 : decode cL_act 152 = .ok (.if_icmp .ne 11, 3) := by decide +kernel
theorem dL_act_155 : decode cL_act 155 = .ok (.aload_n 0, 1) := by decide +kernel
theorem dL_act_156 : decode cL_act 156 = .ok (.iload_n 2, 1) := by decide +kernel
theorem dL_act_157 : decode cL_act 157 = .ok (.invokevirtual 45, 3) := by decide +kernel
theorem dL_act_160 : decode cL_act 160 = .ok (.goto 113, 3) := by decide +kernel
theorem dL_act_163 : decode cL_act 163 = .ok (.iload_n 1, 1) := by decide +kernel
theorem dL_act_164 : decode cL_act 164 = .ok (.bipush 9, 2) := by decide +kernel
theorem dL_act_166 : decode cL_act 166 = .ok (.if_icmp .ne 12, 3) := by decide +kernel
theorem dL_act_169 : decode cL_act 169 = .ok (.aload_n 0, 1) := by decide +kernel
theorem dL_act_170 : decode cL_act 170 = .ok (.iload_n 2, 1) := by decide +kernel
theorem dL_act_171 : decode cL_act 171 = .ok (.iload_n 3, 1) := by decide +kernel
theorem dL_act_172 : decode cL_act 172 = .ok (.invokevirtual 48, 3) := by decide +kernel
theorem dL_act_175 : decode cL_act 175 = .ok (.goto 98, 3) := by decide +kernel
theorem dL_act_178 : decode cL_act 178 = .ok (.iload_n 1, 1) := by decide +kernel
theorem dL_act_179 : decode cL_act 179 = .ok (.bipush 10, 2) := by decide +kernel
theorem dL_act_181 : decode cL_act 181 = .ok (.if_icmp .ne 12, 3) := by decide +kernel
theorem dL_act_184 : decode cL_act 184 = .ok (.aload_n 0, 1) := by decide +kernel
theorem dL_act_185 : decode cL_act 185 = .ok (.iload_n 2, 1) := by decide +kernel
theorem dL_act_186 : decode cL_act 186 = .ok (.iload_n 3, 1) := by decide +kernel
theorem dL_act_187 : decode cL_act 187 = .ok (.invokevirtual 51, 3) := by decide +kernel
theorem dL_act_190 : decode cL_act 190 = .ok (.goto 83, 3) := by decide +kernel
theorem dL_act_193 : decode cL_act 193 = .ok (.iload_n 1, 1) := by decide +kernel
theorem dL_act_194 : decode cL_act 194 = .ok (.bipush 11, 2) := by decide +kernel
theorem dL_act_196 : decode cL_act 196 = .ok (.if_icmp .ne 11, 3) := by decide +kernel
theorem dL_act_199 : decode cL_act 199 = .ok (.aload_n 0, 1) := by decide +kernel
theorem dL_act_200 : decode cL_act 200 = .ok (.iload_n 2, 1) := by decide +kernel
theorem dL_act_201 : decode cL_act 201 = .ok (.invokevirtual 54, 3) := by decide +kernel
theorem dL_act_204 : decode cL_act 204 = .ok (.goto 69, 3) := by decide +kernel
theorem dL_act_207 : decode cL_act 207 = .ok (.iload_n 1, 1) := by decide +kernel
theorem dL_act_208 : decode cL_act 208 = .ok (.bipush 12, 2) := by decide +kernel
theorem dL_act_210 : decode cL_act 210 = .ok (.if_icmp .ne 11, 3) := by decide +kernel
theorem dL_act_213 : decode cL_act 213 = .ok (.aload_n 0, 1) := by decide +kernel
theorem dL_act_214 : decode cL_act 214 = .ok (.iload_n 2, 1) := by decide +kernel
theorem dL_act_215 : decode cL_act 215 = .ok (.invokevirtual 57, 3) := by decide +kernel
theorem dL_act_218 : decode cL_act 218 = .ok (.goto 55, 3) := by decide +kernel
theorem dL_act_221 : decode cL_act 221 = .ok (.iload_n 1, 1) := by decide +kernel
theorem dL_act_222 : decode cL_act 222 = .ok (.bipush 13, 2) := by decide +kernel
theorem dL_act_224 : decode cL_act 224 = .ok (.if_icmp .ne 14, 3) := by decide +kernel
theorem dL_act_227 : decode cL_act 227 = .ok (.aload_n 0, 1) := by decide +kernel
theorem dL_act_228 : decode cL_act 228 = .ok (.iload_n 2, 1) := by decide +kernel
theorem dL_act_229 : decode cL_act 229 = .ok (.iload_n 3, 1) := by decide +kernel
theorem dL_act_230 : decode cL_act 230 = .ok (.iload 4, 2) := by decide +kernel
theorem dL_act_232 : decode cL_act 232 = .ok (.invokevirtual 60, 3) := by decide +kernel
theorem dL_act_235 : decode cL_act 235 = .ok (.goto 38, 3) := by decide +kernel
theorem dL_act_238 : decode cL_act 238 = .ok (.iload_n 1, 1) := by decide +kernel
theorem dL_act_239 : decode cL_act 239 = .ok (.bipush 14, 2) := by decide +kernel
theorem dL_act_241 : decode cL_act 241 = .ok (.if_icmp .ne 11, 3) := by decide +kernel
theorem dL_act_244 : decode cL_act 244 = .ok (.aload_n 0, 1) := by decide +kernel
theorem dL_act_245 : decode cL_act 245 = .ok (.iload_n 2, 1) := by decide +kernel
theorem dL_act_246 : decode cL_act 246 = .ok (.invokevirtual 64, 3) := by decide +kernel
theorem dL_act_249 : decode cL_act 249 = .ok (.goto 24, 3) := by decide +kernel
theorem dL_act_252 : decode cL_act 252 = .ok (.iload_n 1, 1) := by decide +kernel
theorem dL_act_253 : decode cL_act 253 = .ok (.bipush 15, 2) := by decide +kernel
theorem dL_act_255 : decode cL_act 255 = .ok (.if_icmp .ne 12, 3) := by decide +kernel
theorem dL_act_258 : decode cL_act 258 = .ok (.aload_n 0, 1) := by decide +kernel
theorem dL_act_259 : decode cL_act 259 = .ok (.iload_n 2, 1) := by decide +kernel
theorem dL_act_260 : decode cL_act 260 = .ok (.iload_n 3, 1) := by decide +kernel
theorem dL_act_261 : decode cL_act 261 = .ok (.invokevirtual 67, 3) := by decide +kernel
theorem dL_act_264 : decode cL_act 264 = .ok (.goto 9, 3) := by decide +kernel
theorem dL_act_267 : decode cL_act 267 = .ok (.aload_n 0, 1) := by decide +kernel
theorem dL_act_268 : decode cL_act 268 = .ok (.iload_n 2, 1) := by decide +kernel
theorem dL_act_269 : decode cL_act 269 = .ok (.iload_n 3, 1) := by decide +kernel
theorem dL_act_270 : decode cL_act 270 = .ok (.invokevirtual 70, 3) := by decide +kernel
theorem dL_act_273 : decode cL_act 273 = .ok (.ireturn, 1) := by decide +kernel
theorem dL_act_274 : decode cL_act 274 = .ok (.astore 6, 2) := by decide +kernel
theorem dL_act_276 : decode cL_act 276 = .ok (.bipush (-71), 2) := by decide +kernel
theorem dL_act_278 : decode cL_act 278 = .ok (.ireturn, 1) := by decide +kernel
theorem dL_act_279 : decode cL_act 279 = .ok (.astore 6, 2) := by decide +kernel
theorem dL_act_281 : decode cL_act 281 = .ok (.bipush (-72), 2) := by decide +kernel
theorem dL_act_283 : decode cL_act 283 = .ok (.ireturn, 1) := by decide +kernel
theorem dL_act_284 : decode cL_act 284 = .ok (.astore 6, 2) := by decide +kernel
theorem dL_act_286 : decode cL_act 286 = .ok (.bipush (-73), 2) := by decide +kernel
theorem dL_act_288 : decode cL_act 288 = .ok (.ireturn, 1) := by decide +kernel
set_option maxRecDepth 20000 in
theorem ggL_refuses_X3_shifts : GoodIn wsL_refuses wsX3_shifts := goodIn_r _ [6, 7, 8, 9, 10, 11, 12, 13, 323, 324, 325, 326, 327, 328, 329, 330] (by decide +kernel) (by decide +kernel)
set_option maxRecDepth 20000 in
theorem gL_refuses_X3_shifts : GoodIn wsL_refuses (wsV RL 75 RX3 yX3_shifts wsX3_shifts) := goodIn_app (goodIn_of _ (by decide +kernel)) ggL_refuses_X3_shifts
set_option maxRecDepth 20000 in
theorem ggL_refuses_X3_payOf : GoodIn wsL_refuses wsX3_payOf := goodIn_ca (goodIn_ca (goodIn_r _ [17, 7, 18, 19, 20, 21, 22, 5, 23, 24, 25, 26, 27, 8, 9, 10, 11, 12, 13, 28, 29, 30, 31, 32, 33, 34, 35, 36, 37, 38, 39, 40, 41, 42, 43, 44, 45, 46, 47, 48, 49, 50, 51, 52, 53, 54, 55, 56, 57, 58, 59, 60, 61, 62, 63, 64, 65, 66, 67, 68, 69, 70, 71, 72, 73, 74, 75, 76, 77, 78, 79, 80, 81, 82, 83, 84, 85, 86, 87, 88, 89, 90, 91, 92, 93, 94, 95, 96, 97, 98, 99, 100, 101, 102, 103, 104, 105, 106, 107, 108, 109, 110, 111, 112, 113, 114, 115, 116, 117, 118, 119, 120, 121, 122, 123, 124, 125, 126, 127, 323, 324, 325, 326, 327, 331, 332, 333, 334, 335, 328, 329, 330, 336, 337, 338, 339, 340, 341, 342, 343] (by decide +kernel) (by decide +kernel)) (goodIn_sub (fun _ h => List.mem_cons_of_mem _ (List.mem_append_left _ (List.mem_append_left _ (List.mem_append_right _ h)))) (by decide +kernel))) (goodIn_sub (fun _ h => List.mem_cons_of_mem _ (List.mem_append_left _ (List.mem_append_right _ h))) (by decide +kernel))
set_option maxRecDepth 20000 in
theorem gL_refuses_X3_payOf : GoodIn wsL_refuses (wsV RL 60 RX3 yX3_payOf wsX3_payOf) := goodIn_app (goodIn_of _ (by decide +kernel)) ggL_refuses_X3_payOf
set_option maxRecDepth 20000 in
theorem ggL_refuses_X3_worked : GoodIn wsL_refuses wsX3_worked := goodIn_ca (goodIn_ca (goodIn_r _ [131, 20, 21, 22, 5, 23, 24, 25, 26, 27, 8, 9, 10, 11, 12, 13, 28, 29, 30, 31, 32, 33, 34, 35, 36, 37, 38, 39, 40, 41, 42, 43, 44, 45, 46, 47, 48, 49, 132, 133, 134, 135, 136, 137, 138, 139, 7, 18, 19, 140, 141, 142, 143, 53, 144, 55, 80, 145, 146, 74, 147, 72, 73, 75, 323, 324, 325, 326, 327, 328, 329, 330, 331, 332, 333, 334, 335] (by decide +kernel) (by decide +kernel)) (goodIn_sub (fun _ h => List.mem_cons_of_mem _ (List.mem_append_left _ (List.mem_append_left _ (List.mem_append_right _ h)))) (by decide +kernel))) (goodIn_sub (fun _ h => List.mem_cons_of_mem _ (List.mem_append_left _ (List.mem_append_right _ h))) (by decide +kernel))
set_option maxRecDepth 20000 in
theorem gL_refuses_X3_worked : GoodIn wsL_refuses (wsV RL 67 RX3 yX3_worked wsX3_worked) := goodIn_app (goodIn_of _ (by decide +kernel)) ggL_refuses_X3_worked
set_option maxRecDepth 20000 in
theorem ggL_refuses_L_act : GoodIn wsL_refuses wsL_act := goodIn_ca (goodIn_ca (goodIn_ca (goodIn_r _ [151, 152, 153, 154, 155, 156, 157, 5, 158, 48, 49, 65, 45, 46, 47, 159, 160, 161, 162, 163, 164, 165, 166, 167, 24, 25, 94, 95, 8, 9, 10, 11, 12, 13, 28, 29, 30, 31, 32, 33, 34, 35, 36, 37, 38, 39, 40, 41, 42, 43, 44, 168, 169, 170, 171, 104, 172, 173, 174, 175, 176, 177, 26, 178, 179, 180, 181, 182, 183, 184, 185, 186, 187, 188, 189, 190, 191, 192, 193, 194, 195, 196, 197, 198, 199, 200, 201, 202, 203, 204, 205, 206, 207, 73, 74, 75, 208, 209, 210, 211, 212, 213, 214, 215, 216, 217, 218, 219, 220, 221, 222, 223, 224, 225, 226, 227, 228, 229, 230, 231, 146, 147, 232, 233, 234, 235, 236, 237, 238, 239, 60, 20, 21, 22, 23, 27, 240, 241, 242, 243, 7, 244, 245, 53, 246, 247, 248, 249, 136, 137, 138, 139, 18, 19, 140, 141, 142, 143, 144, 55, 80, 145, 72, 250, 251, 252, 253, 254, 71, 70, 255, 256, 257, 258, 259, 260, 261, 262, 263, 264, 265, 56, 57, 58, 59, 61, 62, 63, 64, 66, 67, 68, 69, 76, 77, 78, 79, 81, 82, 83, 84, 85, 86, 87, 88, 89, 90, 91, 92, 93, 50, 51, 52, 54, 96, 97, 98, 99, 100, 101, 102, 103, 105, 106, 107, 108, 109, 110, 111, 112, 113, 114, 115, 116, 117, 118, 119, 120, 121, 122, 123, 124, 125, 126, 127, 266, 267, 268, 269, 270, 271, 272, 273, 274, 275, 276, 277, 278, 279, 280, 281, 282, 283, 284, 285, 286, 287, 288, 289, 290, 291, 292, 293, 294, 14, 15, 16, 17, 295, 296, 297, 298, 299, 300, 301, 302, 128, 129, 130, 131, 132, 133, 134, 135, 303, 304, 305, 306, 307, 323, 324, 325, 326, 327, 337, 338, 339, 340, 341, 342, 343, 328, 329, 330, 336, 331, 332, 333, 334, 335] (by decide +kernel) (by decide +kernel)) (goodIn_sub (fun _ h => List.mem_cons_of_mem _ (List.mem_append_left _ (List.mem_append_right _ h))) (by decide +kernel))) (goodIn_sub (fun _ h => List.mem_cons_of_mem _ (List.mem_append_left _ (List.mem_append_left _ (List.mem_append_right _ h)))) (by decide +kernel))) (goodIn_sub (fun _ h => List.mem_cons_of_mem _ (List.mem_append_right _ h)) (by decide +kernel))
set_option maxRecDepth 20000 in
theorem gL_refuses_L_act : GoodIn wsL_refuses (va_wsS RL 80 yL_act wsL_act) := goodIn_app (goodIn_of _ (by decide +kernel)) ggL_refuses_L_act
set_option maxRecDepth 20000 in
theorem ggL_refuses_L_rule : GoodIn wsL_refuses wsL_rule := goodIn_ca (goodIn_ca (goodIn_r _ [310, 153, 154, 311, 312, 313, 5, 314, 176, 177, 94, 315, 316, 111, 45, 46, 47, 48, 49, 8, 9, 10, 11, 12, 13, 317, 318, 319, 320, 185, 186, 321, 124, 115, 116, 114, 322, 113, 188, 189, 190, 191, 192, 193, 44, 194, 195, 196, 197, 198, 199, 200, 201, 202, 203, 204, 205, 206, 207, 73, 74, 75, 208, 209, 210, 211, 212, 213, 214, 215, 216, 217, 218, 219, 220, 221, 222, 223, 224, 225, 226, 227, 228, 229, 230, 231, 146, 147, 232, 233, 234, 235, 323, 324, 325, 326, 327, 337, 338, 339, 340, 341, 342, 343, 328, 329, 330] (by decide +kernel) (by decide +kernel)) (goodIn_sub (fun _ h => List.mem_cons_of_mem _ (List.mem_append_right _ h)) (by decide +kernel))) (goodIn_sub (fun _ h => List.mem_cons_of_mem _ (List.mem_append_left _ (List.mem_append_right _ h))) (by decide +kernel))
set_option maxRecDepth 20000 in
theorem gL_refuses_L_rule : GoodIn wsL_refuses (va_wsS RL 86 yL_rule wsL_rule) := goodIn_app (goodIn_of _ (by decide +kernel)) ggL_refuses_L_rule
set_option maxRecDepth 20000 in
theorem ggL_at_X3_percentAt : GoodIn wsL_at wsX3_percentAt := goodIn_ca (goodIn_r _ [5, 6, 7, 8, 4, 9, 10, 11, 12, 13, 14, 15, 16, 17, 18, 19, 20, 21, 22, 23, 24, 25, 26, 27, 28, 29, 30, 31, 32, 33, 34, 35, 36, 37, 38, 39, 40, 41, 42, 43, 44, 45, 46, 47, 48, 49, 50, 51, 52, 53, 54, 55, 56, 57, 58, 59, 60, 61, 62, 63, 64, 65, 66, 67, 68, 69, 70, 71, 72, 73, 74, 75, 76, 77, 78, 79, 80, 81, 82, 83, 84, 85, 86, 87, 88, 89, 90, 91, 92, 93, 94, 95, 96, 97, 103, 104, 105, 106, 107, 108, 109, 110, 111, 112, 113, 114, 115, 116, 117, 118, 119, 120, 121, 122, 123] (by decide +kernel) (by decide +kernel)) (goodIn_sub (fun _ h => List.mem_cons_of_mem _ (List.mem_append_right _ h)) (by decide +kernel))
set_option maxRecDepth 20000 in
theorem gL_at_X3_percentAt : GoodIn wsL_at (wsV RL 48 RX3 yX3_percentAt wsX3_percentAt) := goodIn_app (goodIn_of _ (by decide +kernel)) ggL_at_X3_percentAt
set_option maxRecDepth 20000 in
theorem ggL_at_X3_reasonAt : GoodIn wsL_at wsX3_reasonAt := goodIn_ca (goodIn_r _ [101, 102, 6, 7, 8, 4, 9, 10, 11, 12, 13, 14, 15, 16, 17, 18, 19, 20, 21, 22, 23, 24, 25, 26, 27, 28, 29, 30, 31, 32, 33, 34, 35, 36, 37, 38, 39, 40, 41, 42, 43, 44, 45, 46, 47, 48, 49, 50, 56, 57, 58, 59, 60, 61, 55, 62, 63, 64, 65, 66, 67, 68, 69, 70, 71, 72, 73, 74, 75, 76, 77, 78, 79, 80, 81, 82, 83, 84, 85, 86, 87, 88, 89, 90, 91, 92, 93, 94, 95, 96, 97, 116, 117, 118, 119, 120, 121, 122, 103, 104, 105, 106, 107, 108, 109, 110, 111, 112, 113, 114, 115, 123] (by decide +kernel) (by decide +kernel)) (goodIn_sub (fun _ h => List.mem_cons_of_mem _ (List.mem_append_right _ h)) (by decide +kernel))
set_option maxRecDepth 20000 in
theorem gL_at_X3_reasonAt : GoodIn wsL_at (wsV RL 51 RX3 yX3_reasonAt wsX3_reasonAt) := goodIn_app (goodIn_of _ (by decide +kernel)) ggL_at_X3_reasonAt
theorem dL_at_0 : decode cL_at 0 = .ok (.aload_n 0, 1) := by decide +kernel
theorem dL_at_1 : decode cL_at 1 = .ok (.iload_n 1, 1) := by decide +kernel
theorem dL_at_2 : decode cL_at 2 = .ok (.iload_n 2, 1) := by decide +kernel
theorem dL_at_3 : decode cL_at 3 = .ok (.invokevirtual 48, 3) := by decide +kernel
theorem dL_at_6 : decode cL_at 6 = .ok (.iload_n 3, 1) := by decide +kernel
theorem dL_at_7 : decode cL_at 7 = .ok (.if_icmp .ne 18, 3) := by decide +kernel
theorem dL_at_10 : decode cL_at 10 = .ok (.aload_n 0, 1) := by decide +kernel
theorem dL_at_11 : decode cL_at 11 = .ok (.iload_n 1, 1) := by decide +kernel
theorem dL_at_12 : decode cL_at 12 = .ok (.iload_n 2, 1) := by decide +kernel
theorem dL_at_13 : decode cL_at 13 = .ok (.invokevirtual 51, 3) := by decide +kernel
theorem dL_at_16 : decode cL_at 16 = .ok (.iload 4, 2) := by decide +kernel
theorem dL_at_18 : decode cL_at 18 = .ok (.if_icmp .ne 7, 3) := by decide +kernel
theorem dL_at_21 : decode cL_at 21 = .ok (.iconst 1, 1) := by decide +kernel
theorem dL_at_22 : decode cL_at 22 = .ok (.goto 4, 3) := by decide +kernel
theorem dL_at_25 : decode cL_at 25 = .ok (.iconst 0, 1) := by decide +kernel
theorem dL_at_26 : decode cL_at 26 = .ok (.ireturn, 1) := by decide +kernel
set_option maxRecDepth 20000 in
theorem ggL_pays_X3_init : GoodIn wsL_pays wsX3_init := goodIn_r _ [6, 7, 8, 9, 10, 11, 12, 13, 14, 15, 16, 17, 18, 19, 20, 21, 22, 23, 24, 25, 26, 27, 28, 29, 30, 31, 32, 33, 34, 35, 36, 37, 38, 355, 356, 357, 358, 359, 360, 361, 362] (by decide +kernel) (by decide +kernel)
set_option maxRecDepth 20000 in
theorem gL_pays_X3_init : GoodIn wsL_pays (wsX3_init) := ggL_pays_X3_init
set_option maxRecDepth 20000 in
theorem ggL_pays_X3_shifts : GoodIn wsL_pays wsX3_shifts := goodIn_r _ [42, 19, 43, 44, 45, 16, 46, 47, 355, 356, 357, 358, 359, 360, 361, 362] (by decide +kernel) (by decide +kernel)
set_option maxRecDepth 20000 in
theorem gL_pays_X3_shifts : GoodIn wsL_pays (wsV RL 75 RX3 yX3_shifts wsX3_shifts) := goodIn_app (goodIn_of _ (by decide +kernel)) ggL_pays_X3_shifts
set_option maxRecDepth 20000 in
theorem ggL_pays_L_act : GoodIn wsL_pays wsL_act := goodIn_ca (goodIn_ca (goodIn_ca (goodIn_r _ [51, 52, 53, 54, 55, 56, 57, 3, 58, 59, 60, 11, 61, 62, 63, 64, 65, 66, 67, 68, 69, 70, 71, 72, 73, 74, 17, 75, 43, 44, 45, 16, 46, 47, 76, 77, 78, 79, 80, 81, 82, 83, 84, 85, 86, 87, 88, 89, 90, 91, 28, 92, 93, 94, 95, 13, 96, 97, 98, 99, 100, 101, 18, 102, 103, 104, 105, 106, 107, 108, 8, 9, 109, 110, 111, 112, 113, 114, 115, 116, 117, 118, 119, 120, 121, 122, 123, 124, 125, 126, 127, 27, 128, 129, 130, 131, 132, 133, 134, 135, 136, 137, 138, 139, 140, 141, 142, 143, 22, 144, 145, 146, 147, 148, 149, 150, 151, 152, 153, 154, 155, 156, 157, 158, 159, 160, 161, 162, 163, 164, 165, 166, 167, 168, 169, 170, 171, 172, 173, 174, 19, 175, 176, 177, 178, 179, 180, 181, 182, 183, 184, 185, 186, 187, 188, 189, 190, 191, 192, 193, 194, 195, 196, 197, 198, 199, 200, 201, 202, 203, 204, 205, 206, 207, 208, 209, 210, 211, 212, 213, 214, 215, 216, 217, 218, 219, 220, 221, 222, 223, 224, 225, 226, 227, 228, 229, 230, 231, 232, 233, 234, 235, 236, 237, 238, 239, 240, 241, 242, 243, 244, 245, 246, 247, 248, 249, 250, 251, 252, 253, 254, 255, 256, 257, 258, 259, 260, 261, 262, 263, 264, 265, 266, 267, 268, 269, 270, 271, 272, 273, 274, 275, 276, 277, 278, 279, 280, 281, 282, 283, 284, 285, 286, 287, 288, 289, 290, 291, 292, 293, 294, 295, 296, 297, 298, 299, 300, 301, 302, 303, 304, 305, 306, 307, 308, 309, 310, 311, 312, 313, 314, 315, 316, 317, 318, 319, 320, 321, 322, 323, 324, 325, 326, 327, 328, 329, 330, 331, 332, 355, 356, 357, 358, 359, 363, 364, 365, 366, 367, 368, 369, 360, 361, 362, 370, 371, 372, 373, 374, 375] (by decide +kernel) (by decide +kernel)) (goodIn_sub (fun _ h => List.mem_cons_of_mem _ (List.mem_append_left _ (List.mem_append_left _ (List.mem_append_right _ h)))) (by decide +kernel))) (goodIn_sub (fun _ h => List.mem_cons_of_mem _ (List.mem_append_left _ (List.mem_append_right _ h))) (by decide +kernel))) (goodIn_sub (fun _ h => List.mem_cons_of_mem _ (List.mem_append_right _ h)) (by decide +kernel))
set_option maxRecDepth 20000 in
theorem gL_pays_L_act : GoodIn wsL_pays (va_wsS RL 80 yL_act wsL_act) := goodIn_app (goodIn_of _ (by decide +kernel)) ggL_pays_L_act
set_option maxRecDepth 20000 in
theorem ggL_pays_X3_addWorker : GoodIn wsL_pays wsX3_addWorker := goodIn_ca (goodIn_ca (goodIn_r _ [99, 100, 101, 18, 102, 103, 104, 61, 62, 3, 63, 59, 60, 43, 44, 45, 16, 46, 47, 105, 106, 107, 108, 8, 9, 109, 110, 111, 112, 113, 114, 115, 28, 116, 117, 118, 119, 120, 121, 122, 123, 124, 125, 126, 127, 27, 128, 129, 130, 131, 132, 133, 134, 135, 136, 137, 138, 139, 140, 141, 142, 143, 22, 144, 145, 146, 147, 148, 149, 150, 151, 152, 153, 154, 155, 156, 157, 158, 159, 160, 355, 356, 357, 358, 359, 370, 360, 361, 362] (by decide +kernel) (by decide +kernel)) (goodIn_sub (fun _ h => List.mem_cons_of_mem _ (List.mem_append_right _ h)) (by decide +kernel))) (goodIn_sub (fun _ h => List.mem_cons_of_mem _ (List.mem_append_left _ (List.mem_append_left _ (List.mem_append_right _ h)))) (by decide +kernel))
set_option maxRecDepth 20000 in
theorem gL_pays_X3_addWorker : GoodIn wsL_pays (wsV RL 28 RX3 yX3_addWorker wsX3_addWorker) := goodIn_app (goodIn_of _ (by decide +kernel)) ggL_pays_X3_addWorker
set_option maxRecDepth 20000 in
theorem ggL_pays_X3_addRule : GoodIn wsL_pays wsX3_addRule := goodIn_ca (goodIn_ca (goodIn_r _ [343, 100, 101, 17, 344, 345, 262, 61, 62, 3, 63, 59, 60, 43, 44, 45, 16, 46, 47, 346, 347, 348, 349, 8, 9, 350, 275, 266, 267, 265, 351, 264, 110, 111, 112, 113, 114, 115, 28, 116, 117, 118, 119, 120, 121, 122, 123, 124, 125, 126, 127, 27, 128, 129, 130, 131, 132, 133, 134, 135, 136, 137, 138, 139, 140, 141, 142, 143, 22, 144, 145, 146, 147, 148, 149, 150, 151, 152, 153, 154, 155, 156, 157, 158, 159, 160, 355, 356, 357, 358, 359, 363, 364, 365, 366, 367, 368, 369, 360, 361, 362] (by decide +kernel) (by decide +kernel)) (goodIn_sub (fun _ h => List.mem_cons_of_mem _ (List.mem_append_right _ h)) (by decide +kernel))) (goodIn_sub (fun _ h => List.mem_cons_of_mem _ (List.mem_append_left _ (List.mem_append_left _ (List.mem_append_right _ h)))) (by decide +kernel))
set_option maxRecDepth 20000 in
theorem gL_pays_X3_addRule : GoodIn wsL_pays (wsV RL 7 RX3 yX3_addRule wsX3_addRule) := goodIn_app (goodIn_of _ (by decide +kernel)) ggL_pays_X3_addRule
set_option maxRecDepth 20000 in
theorem ggL_pays_X3_addShift : GoodIn wsL_pays wsX3_addShift := goodIn_ca (goodIn_ca (goodIn_ca (goodIn_r _ [174, 100, 101, 19, 175, 176, 177, 166, 167, 168, 3, 169, 73, 74, 18, 170, 43, 44, 45, 16, 46, 47, 76, 77, 78, 79, 80, 81, 82, 83, 84, 85, 86, 87, 88, 89, 90, 91, 28, 61, 62, 63, 59, 60, 178, 179, 180, 181, 182, 183, 184, 185, 186, 187, 188, 189, 190, 191, 192, 193, 194, 195, 155, 130, 156, 196, 129, 131, 197, 198, 199, 200, 8, 9, 201, 202, 203, 110, 111, 112, 113, 114, 115, 116, 117, 118, 119, 120, 121, 122, 123, 124, 125, 126, 127, 27, 128, 132, 133, 134, 135, 136, 137, 138, 139, 140, 141, 142, 143, 22, 144, 145, 146, 147, 148, 149, 150, 151, 152, 153, 154, 157, 158, 159, 160, 355, 356, 357, 358, 359, 371, 372, 373, 374, 375, 360, 361, 362] (by decide +kernel) (by decide +kernel)) (goodIn_sub (fun _ h => List.mem_cons_of_mem _ (List.mem_append_right _ h)) (by decide +kernel))) (goodIn_sub (fun _ h => List.mem_cons_of_mem _ (List.mem_append_left _ (List.mem_append_right _ h))) (by decide +kernel))) (goodIn_sub (fun _ h => List.mem_cons_of_mem _ (List.mem_append_left _ (List.mem_append_left _ (List.mem_append_right _ h)))) (by decide +kernel))
set_option maxRecDepth 20000 in
theorem gL_pays_X3_addShift : GoodIn wsL_pays (wsV RL 35 RX3 yX3_addShift wsX3_addShift) := goodIn_app (goodIn_of _ (by decide +kernel)) ggL_pays_X3_addShift
set_option maxRecDepth 20000 in
theorem ggL_pays_X3_paidQuarters : GoodIn wsL_pays wsX3_paidQuarters := goodIn_ca (goodIn_r _ [287, 208, 209, 210, 3, 211, 73, 74, 19, 186, 43, 44, 45, 16, 46, 47, 76, 77, 78, 79, 80, 81, 82, 83, 84, 85, 86, 87, 88, 89, 90, 91, 28, 231, 232, 233, 177, 234, 203, 194, 196, 129, 130, 131, 355, 356, 357, 358, 359, 360, 361, 362, 371, 372, 373, 374, 375] (by decide +kernel) (by decide +kernel)) (goodIn_sub (fun _ h => List.mem_cons_of_mem _ (List.mem_append_left _ (List.mem_append_right _ h))) (by decide +kernel))
set_option maxRecDepth 20000 in
theorem gL_pays_X3_paidQuarters : GoodIn wsL_pays (wsV RL 45 RX3 yX3_paidQuarters wsX3_paidQuarters) := goodIn_app (goodIn_of _ (by decide +kernel)) ggL_pays_X3_paidQuarters
set_option maxRecDepth 20000 in
theorem ggL_pays_L_at : GoodIn wsL_pays wsL_at := goodIn_ca (goodIn_r _ [354, 288, 289, 290, 3, 291, 208, 209, 210, 211, 73, 74, 19, 186, 43, 44, 45, 16, 46, 47, 76, 77, 78, 79, 80, 81, 82, 83, 84, 85, 86, 87, 88, 89, 90, 91, 28, 292, 293, 294, 231, 232, 233, 177, 234, 203, 194, 196, 129, 130, 131, 235, 236, 237, 238, 239, 240, 241, 242, 243, 17, 75, 187, 165, 244, 245, 246, 247, 193, 248, 249, 250, 251, 252, 253, 254, 255, 13, 256, 257, 258, 259, 260, 261, 262, 263, 264, 265, 266, 267, 268, 269, 270, 271, 272, 273, 274, 275, 295, 296, 297, 298, 299, 355, 356, 357, 358, 359, 360, 361, 362, 371, 372, 373, 374, 375, 363, 364, 365, 366, 367, 368, 369, 370] (by decide +kernel) (by decide +kernel)) (goodIn_sub (fun _ h => List.mem_cons_of_mem _ (List.mem_append_left _ (List.mem_append_right _ h))) (by decide +kernel))
set_option maxRecDepth 20000 in
theorem gL_pays_L_at : GoodIn wsL_pays (va_wsS RL 94 yL_at wsL_at) := goodIn_app (goodIn_of _ (by decide +kernel)) ggL_pays_L_at
set_option maxRecDepth 20000 in
theorem ggL_pays_X3_pay : GoodIn wsL_pays wsX3_pay := goodIn_ca (goodIn_r _ [307, 208, 209, 210, 3, 211, 73, 74, 19, 186, 43, 44, 45, 16, 46, 47, 76, 77, 78, 79, 80, 81, 82, 83, 84, 85, 86, 87, 88, 89, 90, 91, 28, 215, 216, 217, 218, 187, 165, 219, 220, 221, 222, 11, 223, 224, 225, 177, 226, 203, 202, 196, 129, 130, 131, 227, 228, 229, 230, 194, 231, 232, 233, 234, 235, 236, 237, 238, 239, 240, 241, 242, 243, 17, 75, 244, 245, 246, 247, 193, 248, 249, 250, 251, 252, 253, 254, 255, 13, 256, 257, 258, 259, 260, 261, 262, 263, 264, 265, 266, 267, 268, 269, 270, 271, 272, 273, 274, 275, 276, 277, 278, 355, 356, 357, 358, 359, 360, 361, 362, 371, 372, 373, 374, 375, 370, 363, 364, 365, 366, 367, 368, 369] (by decide +kernel) (by decide +kernel)) (goodIn_sub (fun _ h => List.mem_cons_of_mem _ (List.mem_append_left _ (List.mem_append_right _ h))) (by decide +kernel))
set_option maxRecDepth 20000 in
theorem gL_pays_X3_pay : GoodIn wsL_pays (wsV RL 57 RX3 yX3_pay wsX3_pay) := goodIn_app (goodIn_of _ (by decide +kernel)) ggL_pays_X3_pay
set_option maxRecDepth 20000 in
theorem ggL_pays_X3_missed : GoodIn wsL_pays wsX3_missed := goodIn_ca (goodIn_r _ [303, 208, 209, 210, 3, 211, 73, 74, 19, 186, 43, 44, 45, 16, 46, 47, 76, 77, 78, 79, 80, 81, 82, 83, 84, 85, 86, 87, 88, 89, 90, 91, 28, 223, 224, 225, 177, 226, 203, 202, 196, 129, 130, 131, 227, 228, 229, 230, 194, 355, 356, 357, 358, 359, 360, 361, 362, 371, 372, 373, 374, 375] (by decide +kernel) (by decide +kernel)) (goodIn_sub (fun _ h => List.mem_cons_of_mem _ (List.mem_append_left _ (List.mem_append_right _ h))) (by decide +kernel))
set_option maxRecDepth 20000 in
theorem gL_pays_X3_missed : GoodIn wsL_pays (wsV RL 54 RX3 yX3_missed wsX3_missed) := goodIn_app (goodIn_of _ (by decide +kernel)) ggL_pays_X3_missed
set_option maxRecDepth 20000 in
theorem ggL_pays_X3_paidBy : GoodIn wsL_pays wsX3_paidBy := goodIn_ca (goodIn_r _ [315, 19, 186, 69, 70, 71, 3, 72, 73, 74, 17, 75, 43, 44, 45, 16, 46, 47, 76, 77, 78, 79, 80, 81, 82, 83, 84, 85, 86, 87, 88, 89, 90, 91, 28, 316, 317, 318, 319, 187, 165, 299, 239, 219, 220, 221, 222, 11, 231, 232, 233, 177, 234, 203, 194, 196, 129, 130, 131, 240, 241, 242, 243, 244, 245, 246, 247, 193, 248, 249, 250, 251, 252, 253, 254, 255, 13, 256, 257, 258, 259, 260, 261, 262, 263, 264, 265, 266, 267, 268, 269, 270, 271, 272, 273, 274, 275, 276, 277, 278, 355, 356, 357, 358, 359, 360, 361, 362, 371, 372, 373, 374, 375, 370, 363, 364, 365, 366, 367, 368, 369] (by decide +kernel) (by decide +kernel)) (goodIn_sub (fun _ h => List.mem_cons_of_mem _ (List.mem_append_left _ (List.mem_append_right _ h))) (by decide +kernel))
set_option maxRecDepth 20000 in
theorem gL_pays_X3_paidBy : GoodIn wsL_pays (wsV RL 64 RX3 yX3_paidBy wsX3_paidBy) := goodIn_app (goodIn_of _ (by decide +kernel)) ggL_pays_X3_paidBy
set_option maxRecDepth 20000 in
theorem ggL_pays_X3_setHoliday : GoodIn wsL_pays wsX3_setHoliday := goodIn_ca (goodIn_r _ [95, 59, 60, 13, 355, 356, 357, 358, 359] (by decide +kernel) (by decide +kernel)) (goodIn_sub (fun _ h => List.mem_cons_of_mem _ (List.mem_append_left _ (List.mem_append_left _ (List.mem_append_right _ h)))) (by decide +kernel))
set_option maxRecDepth 20000 in
theorem gL_pays_X3_setHoliday : GoodIn wsL_pays (wsV RL 25 RX3 yX3_setHoliday wsX3_setHoliday) := goodIn_app (goodIn_of _ (by decide +kernel)) ggL_pays_X3_setHoliday
set_option maxRecDepth 20000 in
theorem ggL_pays_X3_setRank : GoodIn wsL_pays wsX3_setRank := goodIn_ca (goodIn_ca (goodIn_r _ [164, 165, 166, 167, 168, 3, 169, 73, 74, 18, 170, 43, 44, 45, 16, 46, 47, 76, 77, 78, 79, 80, 81, 82, 83, 84, 85, 86, 87, 88, 89, 90, 91, 28, 61, 62, 63, 59, 60, 370, 355, 356, 357, 358, 359, 360, 361, 362] (by decide +kernel) (by decide +kernel)) (goodIn_sub (fun _ h => List.mem_cons_of_mem _ (List.mem_append_left _ (List.mem_append_right _ h))) (by decide +kernel))) (goodIn_sub (fun _ h => List.mem_cons_of_mem _ (List.mem_append_left _ (List.mem_append_left _ (List.mem_append_right _ h)))) (by decide +kernel))
set_option maxRecDepth 20000 in
theorem gL_pays_X3_setRank : GoodIn wsL_pays (wsV RL 32 RX3 yX3_setRank wsX3_setRank) := goodIn_app (goodIn_of _ (by decide +kernel)) ggL_pays_X3_setRank
set_option maxRecDepth 20000 in
theorem ggL_pays_X3_takeBreaks : GoodIn wsL_pays wsX3_takeBreaks := goodIn_ca (goodIn_ca (goodIn_ca (goodIn_r _ [282, 283, 208, 209, 210, 3, 211, 73, 74, 19, 186, 43, 44, 45, 16, 46, 47, 76, 77, 78, 79, 80, 81, 82, 83, 84, 85, 86, 87, 88, 89, 90, 91, 28, 61, 62, 63, 59, 60, 212, 213, 214, 100, 101, 188, 371, 372, 373, 374, 375, 355, 356, 357, 358, 359, 360, 361, 362] (by decide +kernel) (by decide +kernel)) (goodIn_sub (fun _ h => List.mem_cons_of_mem _ (List.mem_append_left _ (List.mem_append_right _ h))) (by decide +kernel))) (goodIn_sub (fun _ h => List.mem_cons_of_mem _ (List.mem_append_left _ (List.mem_append_left _ (List.mem_append_right _ h)))) (by decide +kernel))) (goodIn_sub (fun _ h => List.mem_cons_of_mem _ (List.mem_append_right _ h)) (by decide +kernel))
set_option maxRecDepth 20000 in
theorem gL_pays_X3_takeBreaks : GoodIn wsL_pays (wsV RL 42 RX3 yX3_takeBreaks wsX3_takeBreaks) := goodIn_app (goodIn_of _ (by decide +kernel)) ggL_pays_X3_takeBreaks
set_option maxRecDepth 20000 in
theorem ggL_pays_X3_setRule : GoodIn wsL_pays wsX3_setRule := goodIn_ca (goodIn_r _ [67, 68, 69, 70, 71, 3, 72, 73, 74, 17, 75, 43, 44, 45, 16, 46, 47, 76, 77, 78, 79, 80, 81, 82, 83, 84, 85, 86, 87, 88, 89, 90, 91, 28, 363, 364, 365, 366, 367, 368, 369, 355, 356, 357, 358, 359, 360, 361, 362] (by decide +kernel) (by decide +kernel)) (goodIn_sub (fun _ h => List.mem_cons_of_mem _ (List.mem_append_left _ (List.mem_append_right _ h))) (by decide +kernel))
set_option maxRecDepth 20000 in
theorem gL_pays_X3_setRule : GoodIn wsL_pays (wsV RL 21 RX3 yX3_setRule wsX3_setRule) := goodIn_app (goodIn_of _ (by decide +kernel)) ggL_pays_X3_setRule
set_option maxRecDepth 20000 in
theorem ggL_pays_X3_payOf : GoodIn wsL_pays wsX3_payOf := goodIn_ca (goodIn_ca (goodIn_r _ [311, 19, 186, 187, 166, 167, 168, 3, 169, 73, 74, 18, 170, 43, 44, 45, 16, 46, 47, 76, 77, 78, 79, 80, 81, 82, 83, 84, 85, 86, 87, 88, 89, 90, 91, 28, 61, 62, 63, 59, 60, 244, 245, 246, 177, 247, 193, 215, 216, 217, 218, 165, 219, 220, 221, 222, 11, 223, 224, 225, 226, 203, 202, 196, 129, 130, 131, 227, 228, 229, 230, 194, 231, 232, 233, 234, 235, 236, 237, 238, 239, 240, 241, 242, 243, 17, 75, 248, 249, 250, 251, 252, 253, 254, 255, 13, 256, 257, 258, 259, 260, 261, 262, 263, 264, 265, 266, 267, 268, 269, 270, 271, 272, 273, 274, 275, 276, 277, 278, 355, 356, 357, 358, 359, 371, 372, 373, 374, 375, 360, 361, 362, 370, 363, 364, 365, 366, 367, 368, 369] (by decide +kernel) (by decide +kernel)) (goodIn_sub (fun _ h => List.mem_cons_of_mem _ (List.mem_append_left _ (List.mem_append_right _ h))) (by decide +kernel))) (goodIn_sub (fun _ h => List.mem_cons_of_mem _ (List.mem_append_left _ (List.mem_append_left _ (List.mem_append_right _ h)))) (by decide +kernel))
set_option maxRecDepth 20000 in
theorem gL_pays_X3_payOf : GoodIn wsL_pays (wsV RL 60 RX3 yX3_payOf wsX3_payOf) := goodIn_app (goodIn_of _ (by decide +kernel)) ggL_pays_X3_payOf
set_option maxRecDepth 20000 in
theorem ggL_pays_X3_worked : GoodIn wsL_pays wsX3_worked := goodIn_ca (goodIn_ca (goodIn_r _ [323, 166, 167, 168, 3, 169, 73, 74, 18, 170, 43, 44, 45, 16, 46, 47, 76, 77, 78, 79, 80, 81, 82, 83, 84, 85, 86, 87, 88, 89, 90, 91, 28, 61, 62, 63, 59, 60, 324, 325, 326, 327, 182, 183, 184, 185, 19, 186, 187, 188, 189, 190, 191, 177, 192, 193, 194, 195, 155, 130, 156, 196, 129, 131, 355, 356, 357, 358, 359, 360, 361, 362, 371, 372, 373, 374, 375] (by decide +kernel) (by decide +kernel)) (goodIn_sub (fun _ h => List.mem_cons_of_mem _ (List.mem_append_left _ (List.mem_append_right _ h))) (by decide +kernel))) (goodIn_sub (fun _ h => List.mem_cons_of_mem _ (List.mem_append_left _ (List.mem_append_left _ (List.mem_append_right _ h)))) (by decide +kernel))
set_option maxRecDepth 20000 in
theorem gL_pays_X3_worked : GoodIn wsL_pays (wsV RL 67 RX3 yX3_worked wsX3_worked) := goodIn_app (goodIn_of _ (by decide +kernel)) ggL_pays_X3_worked
set_option maxRecDepth 20000 in
theorem ggL_pays_X3_setBase : GoodIn wsL_pays wsX3_setBase := goodIn_ca (goodIn_r _ [58, 59, 60, 11, 61, 62, 3, 63, 355, 356, 357, 358, 359] (by decide +kernel) (by decide +kernel)) (goodIn_sub (fun _ h => List.mem_cons_of_mem _ (List.mem_append_left _ (List.mem_append_left _ (List.mem_append_right _ h)))) (by decide +kernel))
set_option maxRecDepth 20000 in
theorem gL_pays_X3_setBase : GoodIn wsL_pays (wsV RL 17 RX3 yX3_setBase wsX3_setBase) := goodIn_app (goodIn_of _ (by decide +kernel)) ggL_pays_X3_setBase
set_option maxRecDepth 20000 in
theorem ggL_pays_X3_cancel : GoodIn wsL_pays wsX3_cancel := goodIn_ca (goodIn_ca (goodIn_r _ [207, 188, 208, 209, 210, 3, 211, 73, 74, 19, 186, 43, 44, 45, 16, 46, 47, 76, 77, 78, 79, 80, 81, 82, 83, 84, 85, 86, 87, 88, 89, 90, 91, 28, 212, 213, 214, 100, 101, 215, 216, 217, 218, 187, 165, 219, 220, 221, 222, 11, 223, 224, 225, 177, 226, 203, 202, 196, 129, 130, 131, 227, 228, 229, 230, 194, 231, 232, 233, 234, 235, 236, 237, 238, 239, 240, 241, 242, 243, 17, 75, 244, 245, 246, 247, 193, 248, 249, 250, 251, 252, 253, 254, 255, 13, 256, 257, 258, 259, 260, 261, 262, 263, 264, 265, 266, 267, 268, 269, 270, 271, 272, 273, 274, 275, 276, 277, 278, 371, 372, 373, 374, 375, 355, 356, 357, 358, 359, 360, 361, 362, 370, 363, 364, 365, 366, 367, 368, 369] (by decide +kernel) (by decide +kernel)) (goodIn_sub (fun _ h => List.mem_cons_of_mem _ (List.mem_append_left _ (List.mem_append_right _ h))) (by decide +kernel))) (goodIn_sub (fun _ h => List.mem_cons_of_mem _ (List.mem_append_right _ h)) (by decide +kernel))
set_option maxRecDepth 20000 in
theorem gL_pays_X3_cancel : GoodIn wsL_pays (wsV RL 39 RX3 yX3_cancel wsX3_cancel) := goodIn_app (goodIn_of _ (by decide +kernel)) ggL_pays_X3_cancel
set_option maxRecDepth 20000 in
theorem ggL_hours_X3_init : GoodIn wsL_hours wsX3_init := goodIn_r _ [7, 8, 9, 10, 11, 12, 13, 14, 15, 16, 17, 18, 19, 20, 21, 22, 23, 24, 25, 26, 27, 28, 29, 30, 31, 32, 33, 34, 35, 36, 37, 38, 39, 359, 360, 361, 362, 363, 364, 365, 366] (by decide +kernel) (by decide +kernel)
set_option maxRecDepth 20000 in
theorem gL_hours_X3_init : GoodIn wsL_hours (wsX3_init) := ggL_hours_X3_init
set_option maxRecDepth 20000 in
theorem ggL_hours_X3_addWorker : GoodIn wsL_hours wsX3_addWorker := goodIn_ca (goodIn_ca (goodIn_r _ [43, 44, 45, 19, 46, 47, 48, 49, 50, 3, 51, 52, 53, 54, 55, 56, 17, 57, 58, 59, 60, 61, 62, 9, 10, 63, 64, 65, 66, 67, 68, 69, 29, 70, 71, 72, 73, 74, 75, 76, 77, 78, 79, 80, 81, 28, 82, 83, 84, 85, 86, 87, 88, 89, 90, 91, 92, 93, 94, 95, 96, 97, 23, 98, 99, 100, 101, 102, 103, 104, 105, 106, 107, 108, 109, 110, 111, 112, 113, 114, 359, 360, 361, 362, 363, 367, 364, 365, 366] (by decide +kernel) (by decide +kernel)) (goodIn_sub (fun _ h => List.mem_cons_of_mem _ (List.mem_append_left _ (List.mem_append_left _ (List.mem_append_right _ h)))) (by decide +kernel))) (goodIn_sub (fun _ h => List.mem_cons_of_mem _ (List.mem_append_left _ (List.mem_append_right _ h))) (by decide +kernel))
set_option maxRecDepth 20000 in
theorem gL_hours_X3_addWorker : GoodIn wsL_hours (wsV RL 28 RX3 yX3_addWorker wsX3_addWorker) := goodIn_app (goodIn_of _ (by decide +kernel)) ggL_hours_X3_addWorker
set_option maxRecDepth 20000 in
theorem ggL_hours_X3_addShift : GoodIn wsL_hours wsX3_addShift := goodIn_ca (goodIn_ca (goodIn_ca (goodIn_r _ [118, 44, 45, 20, 119, 120, 121, 122, 123, 124, 3, 125, 126, 127, 19, 128, 54, 55, 56, 17, 57, 58, 129, 130, 131, 132, 133, 134, 135, 136, 137, 138, 139, 140, 141, 142, 143, 144, 29, 49, 50, 51, 52, 53, 145, 146, 147, 148, 149, 150, 151, 152, 153, 154, 155, 156, 157, 158, 159, 160, 161, 162, 109, 84, 110, 163, 83, 85, 164, 165, 166, 167, 9, 10, 168, 169, 170, 64, 65, 66, 67, 68, 69, 70, 71, 72, 73, 74, 75, 76, 77, 78, 79, 80, 81, 28, 82, 86, 87, 88, 89, 90, 91, 92, 93, 94, 95, 96, 97, 23, 98, 99, 100, 101, 102, 103, 104, 105, 106, 107, 108, 111, 112, 113, 114, 359, 360, 361, 362, 363, 368, 369, 370, 371, 372, 364, 365, 366] (by decide +kernel) (by decide +kernel)) (goodIn_sub (fun _ h => List.mem_cons_of_mem _ (List.mem_append_left _ (List.mem_append_left _ (List.mem_append_right _ h)))) (by decide +kernel))) (goodIn_sub (fun _ h => List.mem_cons_of_mem _ (List.mem_append_right _ h)) (by decide +kernel))) (goodIn_sub (fun _ h => List.mem_cons_of_mem _ (List.mem_append_left _ (List.mem_append_right _ h))) (by decide +kernel))
set_option maxRecDepth 20000 in
theorem gL_hours_X3_addShift : GoodIn wsL_hours (wsV RL 35 RX3 yX3_addShift wsX3_addShift) := goodIn_app (goodIn_of _ (by decide +kernel)) ggL_hours_X3_addShift
set_option maxRecDepth 20000 in
theorem ggL_hours_L_act : GoodIn wsL_hours wsL_act := goodIn_ca (goodIn_ca (goodIn_ca (goodIn_r _ [174, 175, 176, 177, 178, 179, 180, 3, 181, 52, 53, 12, 49, 50, 51, 182, 183, 184, 185, 186, 187, 188, 189, 190, 126, 127, 18, 191, 54, 55, 56, 17, 57, 58, 129, 130, 131, 132, 133, 134, 135, 136, 137, 138, 139, 140, 141, 142, 143, 144, 29, 192, 193, 194, 195, 14, 40, 41, 42, 43, 44, 45, 19, 46, 47, 48, 59, 60, 61, 62, 9, 10, 63, 64, 65, 66, 67, 68, 69, 70, 71, 72, 73, 74, 75, 76, 77, 78, 79, 80, 81, 28, 82, 83, 84, 85, 86, 87, 88, 89, 90, 91, 92, 93, 94, 95, 96, 97, 23, 98, 99, 100, 101, 102, 103, 104, 105, 106, 107, 108, 109, 110, 111, 112, 113, 114, 196, 197, 198, 199, 200, 122, 123, 124, 125, 128, 115, 116, 117, 118, 20, 119, 120, 121, 145, 146, 147, 148, 149, 150, 151, 152, 153, 154, 155, 156, 157, 158, 159, 160, 161, 162, 163, 164, 165, 166, 167, 168, 169, 170, 201, 202, 203, 204, 205, 206, 207, 208, 209, 210, 211, 212, 213, 214, 215, 216, 217, 218, 219, 220, 221, 222, 223, 224, 225, 226, 227, 228, 229, 230, 231, 232, 233, 234, 235, 236, 237, 238, 239, 240, 241, 242, 243, 244, 245, 246, 247, 248, 249, 250, 251, 252, 253, 254, 255, 256, 257, 258, 259, 260, 261, 262, 263, 264, 265, 266, 267, 268, 269, 270, 271, 272, 273, 274, 275, 276, 277, 278, 279, 280, 281, 282, 283, 284, 285, 286, 287, 288, 289, 290, 291, 292, 293, 294, 295, 296, 297, 298, 299, 300, 301, 302, 303, 304, 305, 306, 307, 308, 309, 310, 311, 312, 313, 314, 315, 316, 317, 318, 319, 320, 321, 322, 323, 324, 325, 326, 327, 328, 329, 359, 360, 361, 362, 363, 373, 374, 375, 376, 377, 378, 379, 364, 365, 366, 367, 368, 369, 370, 371, 372] (by decide +kernel) (by decide +kernel)) (goodIn_sub (fun _ h => List.mem_cons_of_mem _ (List.mem_append_left _ (List.mem_append_right _ h))) (by decide +kernel))) (goodIn_sub (fun _ h => List.mem_cons_of_mem _ (List.mem_append_right _ h)) (by decide +kernel))) (goodIn_sub (fun _ h => List.mem_cons_of_mem _ (List.mem_append_left _ (List.mem_append_left _ (List.mem_append_right _ h)))) (by decide +kernel))
set_option maxRecDepth 20000 in
theorem gL_hours_L_act : GoodIn wsL_hours (va_wsS RL 80 yL_act wsL_act) := goodIn_app (goodIn_of _ (by decide +kernel)) ggL_hours_L_act
set_option maxRecDepth 20000 in
theorem ggL_hours_X3_worked : GoodIn wsL_hours wsX3_worked := goodIn_ca (goodIn_ca (goodIn_r _ [320, 122, 123, 124, 3, 125, 126, 127, 19, 128, 54, 55, 56, 17, 57, 58, 129, 130, 131, 132, 133, 134, 135, 136, 137, 138, 139, 140, 141, 142, 143, 144, 29, 49, 50, 51, 52, 53, 321, 322, 323, 324, 149, 150, 151, 152, 20, 153, 154, 155, 156, 157, 158, 121, 159, 160, 161, 162, 109, 84, 110, 163, 83, 85, 359, 360, 361, 362, 363, 364, 365, 366, 368, 369, 370, 371, 372] (by decide +kernel) (by decide +kernel)) (goodIn_sub (fun _ h => List.mem_cons_of_mem _ (List.mem_append_right _ h)) (by decide +kernel))) (goodIn_sub (fun _ h => List.mem_cons_of_mem _ (List.mem_append_left _ (List.mem_append_right _ h))) (by decide +kernel))
set_option maxRecDepth 20000 in
theorem gL_hours_X3_worked : GoodIn wsL_hours (wsV RL 67 RX3 yX3_worked wsX3_worked) := goodIn_app (goodIn_of _ (by decide +kernel)) ggL_hours_X3_worked
set_option maxRecDepth 20000 in
theorem ggL_hours_X3_excess : GoodIn wsL_hours wsX3_excess := goodIn_ca (goodIn_ca (goodIn_r _ [328, 329, 83, 84, 85, 122, 123, 124, 3, 125, 126, 127, 19, 128, 54, 55, 56, 17, 57, 58, 129, 130, 131, 132, 133, 134, 135, 136, 137, 138, 139, 140, 141, 142, 143, 144, 29, 49, 50, 51, 52, 53, 321, 322, 323, 324, 149, 150, 151, 152, 20, 153, 154, 155, 156, 157, 158, 121, 159, 160, 161, 162, 109, 110, 163, 359, 360, 361, 362, 363, 364, 365, 366, 368, 369, 370, 371, 372] (by decide +kernel) (by decide +kernel)) (goodIn_sub (fun _ h => List.mem_cons_of_mem _ (List.mem_append_right _ h)) (by decide +kernel))) (goodIn_sub (fun _ h => List.mem_cons_of_mem _ (List.mem_append_left _ (List.mem_append_right _ h))) (by decide +kernel))
set_option maxRecDepth 20000 in
theorem gL_hours_X3_excess : GoodIn wsL_hours (wsV RL 70 RX3 yX3_excess wsX3_excess) := goodIn_app (goodIn_of _ (by decide +kernel)) ggL_hours_X3_excess
set_option maxRecDepth 20000 in
theorem ggL_hours_X3_cancel : GoodIn wsL_hours wsX3_cancel := goodIn_ca (goodIn_ca (goodIn_r _ [204, 155, 205, 206, 207, 3, 208, 126, 127, 20, 153, 54, 55, 56, 17, 57, 58, 129, 130, 131, 132, 133, 134, 135, 136, 137, 138, 139, 140, 141, 142, 143, 144, 29, 209, 210, 211, 44, 45, 212, 213, 214, 215, 154, 200, 216, 217, 218, 219, 12, 220, 221, 222, 121, 223, 170, 169, 163, 83, 84, 85, 224, 225, 226, 227, 161, 228, 229, 230, 231, 232, 233, 234, 235, 236, 237, 238, 239, 240, 18, 191, 241, 242, 243, 244, 160, 245, 246, 247, 248, 249, 250, 251, 252, 14, 253, 254, 255, 256, 257, 258, 259, 260, 261, 262, 263, 264, 265, 266, 267, 268, 269, 270, 271, 272, 273, 274, 275, 368, 369, 370, 371, 372, 359, 360, 361, 362, 363, 364, 365, 366, 367, 373, 374, 375, 376, 377, 378, 379] (by decide +kernel) (by decide +kernel)) (goodIn_sub (fun _ h => List.mem_cons_of_mem _ (List.mem_append_right _ h)) (by decide +kernel))) (goodIn_sub (fun _ h => List.mem_cons_of_mem _ (List.mem_append_left _ (List.mem_append_left _ (List.mem_append_right _ h)))) (by decide +kernel))
set_option maxRecDepth 20000 in
theorem gL_hours_X3_cancel : GoodIn wsL_hours (wsV RL 39 RX3 yX3_cancel wsX3_cancel) := goodIn_app (goodIn_of _ (by decide +kernel)) ggL_hours_X3_cancel
set_option maxRecDepth 20000 in
theorem ggL_hours_X3_pay : GoodIn wsL_hours wsX3_pay := goodIn_ca (goodIn_r _ [304, 205, 206, 207, 3, 208, 126, 127, 20, 153, 54, 55, 56, 17, 57, 58, 129, 130, 131, 132, 133, 134, 135, 136, 137, 138, 139, 140, 141, 142, 143, 144, 29, 212, 213, 214, 215, 154, 200, 216, 217, 218, 219, 12, 220, 221, 222, 121, 223, 170, 169, 163, 83, 84, 85, 224, 225, 226, 227, 161, 228, 229, 230, 231, 232, 233, 234, 235, 236, 237, 238, 239, 240, 18, 191, 241, 242, 243, 244, 160, 245, 246, 247, 248, 249, 250, 251, 252, 14, 253, 254, 255, 256, 257, 258, 259, 260, 261, 262, 263, 264, 265, 266, 267, 268, 269, 270, 271, 272, 273, 274, 275, 359, 360, 361, 362, 363, 364, 365, 366, 368, 369, 370, 371, 372, 367, 373, 374, 375, 376, 377, 378, 379] (by decide +kernel) (by decide +kernel)) (goodIn_sub (fun _ h => List.mem_cons_of_mem _ (List.mem_append_right _ h)) (by decide +kernel))
set_option maxRecDepth 20000 in
theorem gL_hours_X3_pay : GoodIn wsL_hours (wsV RL 57 RX3 yX3_pay wsX3_pay) := goodIn_app (goodIn_of _ (by decide +kernel)) ggL_hours_X3_pay
set_option maxRecDepth 20000 in
theorem ggL_hours_X3_setHoliday : GoodIn wsL_hours wsX3_setHoliday := goodIn_ca (goodIn_r _ [195, 52, 53, 14, 359, 360, 361, 362, 363] (by decide +kernel) (by decide +kernel)) (goodIn_sub (fun _ h => List.mem_cons_of_mem _ (List.mem_append_left _ (List.mem_append_right _ h))) (by decide +kernel))
set_option maxRecDepth 20000 in
theorem gL_hours_X3_setHoliday : GoodIn wsL_hours (wsV RL 25 RX3 yX3_setHoliday wsX3_setHoliday) := goodIn_app (goodIn_of _ (by decide +kernel)) ggL_hours_X3_setHoliday
set_option maxRecDepth 20000 in
theorem ggL_most_L_act : GoodIn wsL_most wsL_act := goodIn_ca (goodIn_ca (goodIn_ca (goodIn_r _ [4, 5, 6, 7, 8, 9, 10, 11, 12, 13, 14, 15, 16, 17, 18, 19, 20, 21, 22, 23, 24, 25, 26, 27, 28, 29, 30, 31, 32, 33, 34, 35, 36, 37, 38, 39, 40, 41, 42, 43, 44, 45, 46, 47, 48, 49, 50, 51, 52, 53, 54, 55, 56, 57, 58, 59, 60, 61, 62, 63, 64, 65, 66, 67, 68, 69, 70, 71, 72, 73, 74, 75, 76, 77, 78, 79, 80, 81, 82, 83, 84, 85, 86, 87, 88, 89, 90, 91, 92, 93, 94, 95, 96, 97, 98, 99, 100, 101, 102, 103, 104, 105, 106, 107, 108, 109, 110, 111, 112, 113, 114, 115, 116, 117, 118, 119, 120, 121, 122, 123, 124, 125, 126, 127, 128, 129, 130, 131, 132, 133, 134, 135, 136, 137, 138, 139, 140, 141, 142, 143, 144, 145, 146, 147, 148, 149, 150, 151, 152, 153, 154, 155, 156, 157, 158, 159, 160, 161, 162, 163, 164, 165, 166, 167, 168, 169, 170, 171, 172, 173, 174, 175, 176, 177, 178, 179, 180, 181, 182, 183, 184, 185, 186, 187, 188, 189, 190, 191, 192, 193, 194, 195, 196, 197, 198, 199, 200, 201, 202, 203, 204, 205, 206, 207, 208, 209, 210, 211, 212, 213, 214, 215, 216, 217, 218, 219, 220, 221, 222, 223, 224, 225, 226, 227, 228, 229, 230, 231, 232, 233, 234, 235, 236, 237, 238, 239, 240, 241, 242, 243, 244, 245, 246, 247, 248, 249, 250, 251, 252, 253, 254, 255, 256, 257, 258, 259, 260, 261, 262, 263, 264, 265, 266, 267, 268, 269, 270, 271, 272, 273, 274, 275, 276, 277, 278, 279, 280, 281, 282, 283, 284, 285, 286, 287, 288, 289, 290, 291, 292, 293, 294, 295, 296, 297, 298, 299, 300, 301, 302, 329, 330, 331, 332, 333, 334, 335, 336, 337, 338, 339, 340, 341, 342, 343, 344, 345, 346, 347, 348, 349] (by decide +kernel) (by decide +kernel)) (goodIn_sub (fun _ h => List.mem_cons_of_mem _ (List.mem_append_left _ (List.mem_append_left _ (List.mem_append_right _ h)))) (by decide +kernel))) (goodIn_sub (fun _ h => List.mem_cons_of_mem _ (List.mem_append_left _ (List.mem_append_right _ h))) (by decide +kernel))) (goodIn_sub (fun _ h => List.mem_cons_of_mem _ (List.mem_append_right _ h)) (by decide +kernel))
set_option maxRecDepth 20000 in
theorem gL_most_L_act : GoodIn wsL_most (va_wsS RL 80 yL_act wsL_act) := goodIn_app (goodIn_of _ (by decide +kernel)) ggL_most_L_act
set_option maxRecDepth 20000 in
theorem ggL_most_L_rule : GoodIn wsL_most wsL_rule := goodIn_ca (goodIn_ca (goodIn_r _ [305, 6, 7, 306, 307, 308, 11, 309, 64, 65, 30, 310, 311, 232, 16, 17, 18, 13, 14, 32, 33, 34, 35, 36, 37, 312, 313, 314, 315, 74, 75, 316, 245, 236, 237, 235, 317, 234, 77, 78, 79, 80, 81, 82, 54, 83, 84, 85, 86, 87, 88, 89, 90, 91, 92, 93, 94, 95, 96, 97, 98, 99, 100, 101, 102, 103, 104, 105, 106, 107, 108, 109, 110, 111, 112, 113, 114, 115, 116, 117, 118, 119, 120, 121, 122, 123, 124, 125, 126, 127, 128, 129, 329, 330, 331, 332, 333, 334, 335, 336, 337, 338, 339, 340, 341, 342, 343] (by decide +kernel) (by decide +kernel)) (goodIn_sub (fun _ h => List.mem_cons_of_mem _ (List.mem_append_right _ h)) (by decide +kernel))) (goodIn_sub (fun _ h => List.mem_cons_of_mem _ (List.mem_append_left _ (List.mem_append_left _ (List.mem_append_right _ h)))) (by decide +kernel))
set_option maxRecDepth 20000 in
theorem gL_most_L_rule : GoodIn wsL_most (va_wsS RL 86 yL_rule wsL_rule) := goodIn_app (goodIn_of _ (by decide +kernel)) ggL_most_L_rule
set_option maxRecDepth 20000 in
theorem ggL_most_X3_paidBy : GoodIn wsL_most wsX3_paidBy := goodIn_ca (goodIn_r _ [285, 144, 156, 24, 25, 26, 11, 27, 28, 29, 30, 31, 32, 33, 34, 35, 36, 37, 38, 39, 40, 41, 42, 43, 44, 45, 46, 47, 48, 49, 50, 51, 52, 53, 54, 286, 287, 288, 289, 157, 134, 269, 209, 189, 190, 191, 192, 15, 201, 202, 203, 147, 204, 173, 164, 166, 97, 98, 99, 210, 211, 212, 213, 214, 215, 216, 217, 163, 218, 219, 220, 221, 222, 223, 224, 225, 59, 226, 227, 228, 229, 230, 231, 232, 233, 234, 235, 236, 237, 238, 239, 240, 241, 242, 243, 244, 245, 246, 247, 248, 329, 330, 331, 332, 333, 341, 342, 343, 345, 346, 347, 348, 349, 344, 334, 335, 336, 337, 338, 339, 340] (by decide +kernel) (by decide +kernel)) (goodIn_sub (fun _ h => List.mem_cons_of_mem _ (List.mem_append_left _ (List.mem_append_right _ h))) (by decide +kernel))
set_option maxRecDepth 20000 in
theorem gL_most_X3_paidBy : GoodIn wsL_most (wsV RL 64 RX3 yX3_paidBy wsX3_paidBy) := goodIn_app (goodIn_of _ (by decide +kernel)) ggL_most_X3_paidBy
set_option maxRecDepth 20000 in
theorem ggL_most_L_at : GoodIn wsL_most wsL_at := goodIn_ca (goodIn_r _ [320, 258, 259, 260, 11, 261, 178, 179, 180, 181, 28, 29, 144, 156, 32, 33, 34, 35, 36, 37, 38, 39, 40, 41, 42, 43, 44, 45, 46, 47, 48, 49, 50, 51, 52, 53, 54, 262, 263, 264, 201, 202, 203, 147, 204, 173, 164, 166, 97, 98, 99, 205, 206, 207, 208, 209, 210, 211, 212, 213, 30, 31, 157, 134, 214, 215, 216, 217, 163, 218, 219, 220, 221, 222, 223, 224, 225, 59, 226, 227, 228, 229, 230, 231, 232, 233, 234, 235, 236, 237, 238, 239, 240, 241, 242, 243, 244, 245, 265, 266, 267, 268, 269, 329, 330, 331, 332, 333, 341, 342, 343, 345, 346, 347, 348, 349, 334, 335, 336, 337, 338, 339, 340, 344] (by decide +kernel) (by decide +kernel)) (goodIn_sub (fun _ h => List.mem_cons_of_mem _ (List.mem_append_left _ (List.mem_append_right _ h))) (by decide +kernel))
set_option maxRecDepth 20000 in
theorem gL_most_L_at : GoodIn wsL_most (va_wsS RL 94 yL_at wsL_at) := goodIn_app (goodIn_of _ (by decide +kernel)) ggL_most_L_at
theorem dL_most_0 : decode cL_most 0 = .ok (.bipush 76, 2) := by decide +kernel
theorem dL_most_2 : decode cL_most 2 = .ok (.istore_n 1, 1) := by decide +kernel
theorem dL_most_3 : decode cL_most 3 = .ok (.iload_n 1, 1) := by decide +kernel
theorem dL_most_4 : decode cL_most 4 = .ok (.bipush 81, 2) := by decide +kernel
theorem dL_most_6 : decode cL_most 6 = .ok (.if_icmp .ge 35, 3) := by decide +kernel
theorem dL_most_9 : decode cL_most 9 = .ok (.aload_n 0, 1) := by decide +kernel
theorem dL_most_10 : decode cL_most 10 = .ok (.iconst 5, 1) := by decide +kernel
theorem dL_most_11 : decode cL_most 11 = .ok (.iconst 0, 1) := by decide +kernel
theorem dL_most_12 : decode cL_most 12 = .ok (.iconst 1, 1) := by decide +kernel
theorem dL_most_13 : decode cL_most 13 = .ok (.iload_n 1, 1) := by decide +kernel
theorem dL_most_14 : decode cL_most 14 = .ok (.iconst 1, 1) := by decide +kernel
theorem dL_most_15 : decode cL_most 15 = .ok (.invokestatic 80, 3) := by decide +kernel
theorem dL_most_18 : decode cL_most 18 = .ok (.iload_n 1, 1) := by decide +kernel
theorem dL_most_19 : decode cL_most 19 = .ok (.bipush 80, 2) := by decide +kernel
theorem dL_most_21 : decode cL_most 21 = .ok (.if_icmp .ge 7, 3) := by decide +kernel
theorem dL_most_24 : decode cL_most 24 = .ok (.iload_n 1, 1) := by decide +kernel
theorem dL_most_25 : decode cL_most 25 = .ok (.goto 5, 3) := by decide +kernel
theorem dL_most_28 : decode cL_most 28 = .ok (.bipush (-73), 2) := by decide +kernel
theorem dL_most_30 : decode cL_most 30 = .ok (.if_icmp .eq 5, 3) := by decide +kernel
theorem dL_most_33 : decode cL_most 33 = .ok (.iconst 0, 1) := by decide +kernel
theorem dL_most_34 : decode cL_most 34 = .ok (.ireturn, 1) := by decide +kernel
theorem dL_most_35 : decode cL_most 35 = .ok (.iinc 1 1, 3) := by decide +kernel
theorem dL_most_38 : decode cL_most 38 = .ok (.goto (-35), 3) := by decide +kernel
theorem dL_most_41 : decode cL_most 41 = .ok (.iconst 1, 1) := by decide +kernel
theorem dL_most_42 : decode cL_most 42 = .ok (.istore_n 1, 1) := by decide +kernel
theorem dL_most_43 : decode cL_most 43 = .ok (.iload_n 1, 1) := by decide +kernel
theorem dL_most_44 : decode cL_most 44 = .ok (.bipush 13, 2) := by decide +kernel
theorem dL_most_46 : decode cL_most 46 = .ok (.if_icmp .ge 37, 3) := by decide +kernel
theorem dL_most_49 : decode cL_most 49 = .ok (.aload_n 0, 1) := by decide +kernel
theorem dL_most_50 : decode cL_most 50 = .ok (.iconst 3, 1) := by decide +kernel
theorem dL_most_51 : decode cL_most 51 = .ok (.iload_n 1, 1) := by decide +kernel
theorem dL_most_52 : decode cL_most 52 = .ok (.iconst 4, 1) := by decide +kernel
theorem dL_most_53 : decode cL_most 53 = .ok (.irem, 1) := by decide +kernel
theorem dL_most_54 : decode cL_most 54 = .ok (.iconst 0, 1) := by decide +kernel
theorem dL_most_55 : decode cL_most 55 = .ok (.iconst 0, 1) := by decide +kernel
theorem dL_most_56 : decode cL_most 56 = .ok (.iconst 0, 1) := by decide +kernel
theorem dL_most_57 : decode cL_most 57 = .ok (.invokestatic 80, 3) := by decide +kernel
theorem dL_most_60 : decode cL_most 60 = .ok (.iload_n 1, 1) := by decide +kernel
theorem dL_most_61 : decode cL_most 61 = .ok (.bipush 12, 2) := by decide +kernel
theorem dL_most_63 : decode cL_most 63 = .ok (.if_icmp .ge 7, 3) := by decide +kernel
theorem dL_most_66 : decode cL_most 66 = .ok (.iload_n 1, 1) := by decide +kernel
theorem dL_most_67 : decode cL_most 67 = .ok (.goto 5, 3) := by decide +kernel
theorem dL_most_70 : decode cL_most 70 = .ok (.bipush (-73), 2) := by decide +kernel
theorem dL_most_72 : decode cL_most 72 = .ok (.if_icmp .eq 5, 3) := by decide +kernel
theorem dL_most_75 : decode cL_most 75 = .ok (.iconst 0, 1) := by decide +kernel
theorem dL_most_76 : decode cL_most 76 = .ok (.ireturn, 1) := by decide +kernel
theorem dL_most_77 : decode cL_most 77 = .ok (.iinc 1 1, 3) := by decide +kernel
theorem dL_most_80 : decode cL_most 80 = .ok (.goto (-37), 3) := by decide +kernel
theorem dL_most_83 : decode cL_most 83 = .ok (.iconst 0, 1) := by decide +kernel
theorem dL_most_84 : decode cL_most 84 = .ok (.istore_n 1, 1) := by decide +kernel
theorem dL_most_85 : decode cL_most 85 = .ok (.iload_n 1, 1) := by decide +kernel
theorem dL_most_86 : decode cL_most 86 = .ok (.bipush 17, 2) := by decide +kernel
theorem dL_most_88 : decode cL_most 88 = .ok (.if_icmp .ge 41, 3) := by decide +kernel
theorem dL_most_91 : decode cL_most 91 = .ok (.aload_n 0, 1) := by decide +kernel
theorem dL_most_92 : decode cL_most 92 = .ok (.bipush 127, 2) := by decide +kernel
theorem dL_most_94 : decode cL_most 94 = .ok (.iconst 0, 1) := by decide +kernel
theorem dL_most_95 : decode cL_most 95 = .ok (.bipush 96, 2) := by decide +kernel
theorem dL_most_97 : decode cL_most 97 = .ok (.bipush 8, 2) := by decide +kernel
theorem dL_most_99 : decode cL_most 99 = .ok (.bipush 100, 2) := by decide +kernel
theorem dL_most_101 : decode cL_most 101 = .ok (.iload_n 1, 1) := by decide +kernel
theorem dL_most_102 : decode cL_most 102 = .ok (.iadd, 1) := by decide +kernel
theorem dL_most_103 : decode cL_most 103 = .ok (.invokestatic 86, 3) := by decide +kernel
theorem dL_most_106 : decode cL_most 106 = .ok (.iload_n 1, 1) := by decide +kernel
theorem dL_most_107 : decode cL_most 107 = .ok (.bipush 16, 2) := by decide +kernel
theorem dL_most_109 : decode cL_most 109 = .ok (.if_icmp .ge 7, 3) := by decide +kernel
theorem dL_most_112 : decode cL_most 112 = .ok (.iload_n 1, 1) := by decide +kernel
theorem dL_most_113 : decode cL_most 113 = .ok (.goto 5, 3) := by decide +kernel
theorem dL_most_116 : decode cL_most 116 = .ok (.bipush (-73), 2) := by decide +kernel
theorem dL_most_118 : decode cL_most 118 = .ok (.if_icmp .eq 5, 3) := by decide +kernel
theorem dL_most_121 : decode cL_most 121 = .ok (.iconst 0, 1) := by decide +kernel
theorem dL_most_122 : decode cL_most 122 = .ok (.ireturn, 1) := by decide +kernel
theorem dL_most_123 : decode cL_most 123 = .ok (.iinc 1 1, 3) := by decide +kernel
theorem dL_most_126 : decode cL_most 126 = .ok (.goto (-41), 3) := by decide +kernel
theorem dL_most_129 : decode cL_most 129 = .ok (.aload_n 0, 1) := by decide +kernel
theorem dL_most_130 : decode cL_most 130 = .ok (.bipush 14, 2) := by decide +kernel
theorem dL_most_132 : decode cL_most 132 = .ok (.invokevirtual 64, 3) := by decide +kernel
theorem dL_most_135 : decode cL_most 135 = .ok (.ifCond .ne 31, 3) := by decide +kernel
theorem dL_most_138 : decode cL_most 138 = .ok (.aload_n 0, 1) := by decide +kernel
theorem dL_most_139 : decode cL_most 139 = .ok (.iconst 0, 1) := by decide +kernel
theorem dL_most_140 : decode cL_most 140 = .ok (.iconst 0, 1) := by decide +kernel
theorem dL_most_141 : decode cL_most 141 = .ok (.bipush 115, 2) := by decide +kernel
theorem dL_most_143 : decode cL_most 143 = .ok (.bipush 15, 2) := by decide +kernel
theorem dL_most_145 : decode cL_most 145 = .ok (.invokestatic 94, 3) := by decide +kernel
theorem dL_most_148 : decode cL_most 148 = .ok (.ifCond .eq 18, 3) := by decide +kernel
theorem dL_most_151 : decode cL_most 151 = .ok (.aload_n 0, 1) := by decide +kernel
theorem dL_most_152 : decode cL_most 152 = .ok (.bipush 16, 2) := by decide +kernel
theorem dL_most_154 : decode cL_most 154 = .ok (.bipush 12, 2) := by decide +kernel
theorem dL_most_156 : decode cL_most 156 = .ok (.invokestatic 90, 3) := by decide +kernel
theorem dL_most_159 : decode cL_most 159 = .ok (.ifCond .eq 7, 3) := by decide +kernel
theorem dL_most_162 : decode cL_most 162 = .ok (.iconst 1, 1) := by decide +kernel
theorem dL_most_163 : decode cL_most 163 = .ok (.goto 4, 3) := by decide +kernel
theorem dL_most_166 : decode cL_most 166 = .ok (.iconst 0, 1) := by decide +kernel
theorem dL_most_167 : decode cL_most 167 = .ok (.ireturn, 1) := by decide +kernel
set_option maxRecDepth 20000 in
theorem ggL_law_X3_init : GoodIn wsL_law wsX3_init := goodIn_r _ [9, 10, 11, 12, 13, 14, 15, 16, 17, 18, 19, 20, 21, 22, 23, 24, 25, 26, 27, 28, 29, 30, 31, 32, 33, 34, 35, 36, 37, 38, 39, 40, 41, 364, 365, 366, 367, 368, 369, 370, 371] (by decide +kernel) (by decide +kernel)
set_option maxRecDepth 20000 in
theorem gL_law_X3_init : GoodIn wsL_law (wsX3_init) := ggL_law_X3_init
set_option maxRecDepth 20000 in
theorem ggL_law_X3_addWorker : GoodIn wsL_law wsX3_addWorker := goodIn_ca (goodIn_ca (goodIn_r _ [101, 102, 103, 21, 104, 105, 106, 63, 64, 2, 65, 61, 62, 46, 47, 48, 19, 49, 50, 107, 108, 109, 110, 11, 12, 111, 112, 113, 114, 115, 116, 117, 31, 118, 119, 120, 121, 122, 123, 124, 125, 126, 127, 128, 129, 30, 130, 131, 132, 133, 134, 135, 136, 137, 138, 139, 140, 141, 142, 143, 144, 145, 25, 146, 147, 148, 149, 150, 151, 152, 153, 154, 155, 156, 157, 158, 159, 160, 161, 162, 364, 365, 366, 367, 368, 379, 369, 370, 371] (by decide +kernel) (by decide +kernel)) (goodIn_sub (fun _ h => List.mem_append_right _ h) (by decide +kernel))) (goodIn_sub (fun _ h => List.mem_append_left _ (List.mem_append_left _ (List.mem_append_right _ h))) (by decide +kernel))
set_option maxRecDepth 20000 in
theorem gL_law_X3_addWorker : GoodIn wsL_law (wsV RL 28 RX3 yX3_addWorker wsX3_addWorker) := goodIn_app (goodIn_of _ (by decide +kernel)) ggL_law_X3_addWorker
set_option maxRecDepth 20000 in
theorem ggL_law_L_rule : GoodIn wsL_law wsL_rule := goodIn_ca (goodIn_ca (goodIn_r _ [341, 55, 56, 342, 343, 344, 2, 345, 102, 103, 20, 346, 347, 264, 63, 64, 65, 61, 62, 46, 47, 48, 19, 49, 50, 348, 349, 350, 351, 11, 12, 352, 277, 268, 269, 267, 353, 266, 112, 113, 114, 115, 116, 117, 31, 118, 119, 120, 121, 122, 123, 124, 125, 126, 127, 128, 129, 30, 130, 131, 132, 133, 134, 135, 136, 137, 138, 139, 140, 141, 142, 143, 144, 145, 25, 146, 147, 148, 149, 150, 151, 152, 153, 154, 155, 156, 157, 158, 159, 160, 161, 162, 364, 365, 366, 367, 368, 372, 373, 374, 375, 376, 377, 378, 369, 370, 371] (by decide +kernel) (by decide +kernel)) (goodIn_sub (fun _ h => List.mem_append_right _ h) (by decide +kernel))) (goodIn_sub (fun _ h => List.mem_append_left _ (List.mem_append_left _ (List.mem_append_right _ h))) (by decide +kernel))
set_option maxRecDepth 20000 in
theorem gL_law_L_rule : GoodIn wsL_law (va_wsS RL 86 yL_rule wsL_rule) := goodIn_app (goodIn_of _ (by decide +kernel)) ggL_law_L_rule
set_option maxRecDepth 20000 in
theorem ggL_law_X3_addShift : GoodIn wsL_law wsX3_addShift := goodIn_ca (goodIn_ca (goodIn_ca (goodIn_r _ [176, 102, 103, 22, 177, 178, 179, 168, 169, 170, 2, 171, 75, 76, 21, 172, 46, 47, 48, 19, 49, 50, 78, 79, 80, 81, 82, 83, 84, 85, 86, 87, 88, 89, 90, 91, 92, 93, 31, 63, 64, 65, 61, 62, 180, 181, 182, 183, 184, 185, 186, 187, 188, 189, 190, 191, 192, 193, 194, 195, 196, 197, 157, 132, 158, 198, 131, 133, 199, 200, 201, 202, 11, 12, 203, 204, 205, 112, 113, 114, 115, 116, 117, 118, 119, 120, 121, 122, 123, 124, 125, 126, 127, 128, 129, 30, 130, 134, 135, 136, 137, 138, 139, 140, 141, 142, 143, 144, 145, 25, 146, 147, 148, 149, 150, 151, 152, 153, 154, 155, 156, 159, 160, 161, 162, 364, 365, 366, 367, 368, 380, 381, 382, 383, 384, 369, 370, 371] (by decide +kernel) (by decide +kernel)) (goodIn_sub (fun _ h => List.mem_append_right _ h) (by decide +kernel))) (goodIn_sub (fun _ h => List.mem_append_left _ (List.mem_append_right _ h)) (by decide +kernel))) (goodIn_sub (fun _ h => List.mem_append_left _ (List.mem_append_left _ (List.mem_append_right _ h))) (by decide +kernel))
set_option maxRecDepth 20000 in
theorem gL_law_X3_addShift : GoodIn wsL_law (wsV RL 35 RX3 yX3_addShift wsX3_addShift) := goodIn_app (goodIn_of _ (by decide +kernel)) ggL_law_X3_addShift
set_option maxRecDepth 20000 in
theorem ggL_law_X3_paidQuarters : GoodIn wsL_law wsX3_paidQuarters := goodIn_ca (goodIn_r _ [289, 210, 211, 212, 2, 213, 75, 76, 22, 188, 46, 47, 48, 19, 49, 50, 78, 79, 80, 81, 82, 83, 84, 85, 86, 87, 88, 89, 90, 91, 92, 93, 31, 233, 234, 235, 179, 236, 205, 196, 198, 131, 132, 133, 364, 365, 366, 367, 368, 369, 370, 371, 380, 381, 382, 383, 384] (by decide +kernel) (by decide +kernel)) (goodIn_sub (fun _ h => List.mem_append_left _ (List.mem_append_right _ h)) (by decide +kernel))
set_option maxRecDepth 20000 in
theorem gL_law_X3_paidQuarters : GoodIn wsL_law (wsV RL 45 RX3 yX3_paidQuarters wsX3_paidQuarters) := goodIn_app (goodIn_of _ (by decide +kernel)) ggL_law_X3_paidQuarters
set_option maxRecDepth 20000 in
theorem ggL_law_X3_pay : GoodIn wsL_law wsX3_pay := goodIn_ca (goodIn_r _ [309, 210, 211, 212, 2, 213, 75, 76, 22, 188, 46, 47, 48, 19, 49, 50, 78, 79, 80, 81, 82, 83, 84, 85, 86, 87, 88, 89, 90, 91, 92, 93, 31, 217, 218, 219, 220, 189, 167, 221, 222, 223, 224, 14, 225, 226, 227, 179, 228, 205, 204, 198, 131, 132, 133, 229, 230, 231, 232, 196, 233, 234, 235, 236, 237, 238, 239, 240, 241, 242, 243, 244, 245, 20, 77, 246, 247, 248, 249, 195, 250, 251, 252, 253, 254, 255, 256, 257, 16, 258, 259, 260, 261, 262, 263, 264, 265, 266, 267, 268, 269, 270, 271, 272, 273, 274, 275, 276, 277, 278, 279, 280, 364, 365, 366, 367, 368, 369, 370, 371, 380, 381, 382, 383, 384, 379, 372, 373, 374, 375, 376, 377, 378] (by decide +kernel) (by decide +kernel)) (goodIn_sub (fun _ h => List.mem_append_left _ (List.mem_append_right _ h)) (by decide +kernel))
set_option maxRecDepth 20000 in
theorem gL_law_X3_pay : GoodIn wsL_law (wsV RL 57 RX3 yX3_pay wsX3_pay) := goodIn_app (goodIn_of _ (by decide +kernel)) ggL_law_X3_pay
theorem dL_law_0 : decode cL_law 0 = .ok (.invokestatic 103, 3) := by decide +kernel
theorem dL_law_3 : decode cL_law 3 = .ok (.ifCond .eq 9, 3) := by decide +kernel
theorem dL_law_6 : decode cL_law 6 = .ok (.invokestatic 107, 3) := by decide +kernel
theorem dL_law_9 : decode cL_law 9 = .ok (.ifCond .ne 5, 3) := by decide +kernel
theorem dL_law_12 : decode cL_law 12 = .ok (.iconst 0, 1) := by decide +kernel
theorem dL_law_13 : decode cL_law 13 = .ok (.ireturn, 1) := by decide +kernel
theorem dL_law_14 : decode cL_law 14 = .ok (.new 8, 3) := by decide +kernel
theorem dL_law_17 : decode cL_law 17 = .ok (.dup, 1) := by decide +kernel
theorem dL_law_18 : decode cL_law 18 = .ok (.invokespecial 89, 3) := by decide +kernel
theorem dL_law_21 : decode cL_law 21 = .ok (.astore_n 1, 1) := by decide +kernel
theorem dL_law_22 : decode cL_law 22 = .ok (.aload_n 1, 1) := by decide +kernel
theorem dL_law_23 : decode cL_law 23 = .ok (.iconst 1, 1) := by decide +kernel
theorem dL_law_24 : decode cL_law 24 = .ok (.invokevirtual 28, 3) := by decide +kernel
theorem dL_law_27 : decode cL_law 27 = .ok (.ifCond .eq 5, 3) := by decide +kernel
theorem dL_law_30 : decode cL_law 30 = .ok (.iconst 0, 1) := by decide +kernel
theorem dL_law_31 : decode cL_law 31 = .ok (.ireturn, 1) := by decide +kernel
theorem dL_law_32 : decode cL_law 32 = .ok (.iconst 0, 1) := by decide +kernel
theorem dL_law_33 : decode cL_law 33 = .ok (.istore_n 2, 1) := by decide +kernel
theorem dL_law_34 : decode cL_law 34 = .ok (.iload_n 2, 1) := by decide +kernel
theorem dL_law_35 : decode cL_law 35 = .ok (.bipush 16, 2) := by decide +kernel
theorem dL_law_37 : decode cL_law 37 = .ok (.if_icmp .ge 153, 3) := by decide +kernel
theorem dL_law_40 : decode cL_law 40 = .ok (.aload_n 0, 1) := by decide +kernel
theorem dL_law_41 : decode cL_law 41 = .ok (.arraylength, 1) := by decide +kernel
theorem dL_law_42 : decode cL_law 42 = .ok (.ifCond .ne 10, 3) := by decide +kernel
theorem dL_law_45 : decode cL_law 45 = .ok (.bipush 29, 2) := by decide +kernel
theorem dL_law_47 : decode cL_law 47 = .ok (.iload_n 2, 1) := by decide +kernel
theorem dL_law_48 : decode cL_law 48 = .ok (.imul, 1) := by decide +kernel
theorem dL_law_49 : decode cL_law 49 = .ok (.goto 12, 3) := by decide +kernel
theorem dL_law_52 : decode cL_law 52 = .ok (.aload_n 0, 1) := by decide +kernel
theorem dL_law_53 : decode cL_law 53 = .ok (.iload_n 2, 1) := by decide +kernel
theorem dL_law_54 : decode cL_law 54 = .ok (.aload_n 0, 1) := by decide +kernel
theorem dL_law_55 : decode cL_law 55 = .ok (.arraylength, 1) := by decide +kernel
theorem dL_law_56 : decode cL_law 56 = .ok (.irem, 1) := by decide +kernel
theorem dL_law_57 : decode cL_law 57 = .ok (.iaload, 1) := by decide +kernel
theorem dL_law_58 : decode cL_law 58 = .ok (.bipush 8, 2) := by decide +kernel
theorem dL_law_60 : decode cL_law 60 = .ok (.iushr, 1) := by decide +kernel
theorem dL_law_61 : decode cL_law 61 = .ok (.istore_n 3, 1) := by decide +kernel
theorem dL_law_62 : decode cL_law 62 = .ok (.iload_n 3, 1) := by decide +kernel
theorem dL_law_63 : decode cL_law 63 = .ok (.bipush 96, 2) := by decide +kernel
theorem dL_law_65 : decode cL_law 65 = .ok (.irem, 1) := by decide +kernel
theorem dL_law_66 : decode cL_law 66 = .ok (.istore 4, 2) := by decide +kernel
theorem dL_law_68 : decode cL_law 68 = .ok (.aload_n 1, 1) := by decide +kernel
theorem dL_law_69 : decode cL_law 69 = .ok (.iload_n 3, 1) := by decide +kernel
theorem dL_law_70 : decode cL_law 70 = .ok (.sipush 128, 3) := by decide +kernel
theorem dL_law_73 : decode cL_law 73 = .ok (.irem, 1) := by decide +kernel
theorem dL_law_74 : decode cL_law 74 = .ok (.iload 4, 2) := by decide +kernel
theorem dL_law_76 : decode cL_law 76 = .ok (.iload 4, 2) := by decide +kernel
theorem dL_law_78 : decode cL_law 78 = .ok (.iconst 1, 1) := by decide +kernel
theorem dL_law_79 : decode cL_law 79 = .ok (.iadd, 1) := by decide +kernel
theorem dL_law_80 : decode cL_law 80 = .ok (.iload_n 3, 1) := by decide +kernel
theorem dL_law_81 : decode cL_law 81 = .ok (.bipush 96, 2) := by decide +kernel
theorem dL_law_83 : decode cL_law 83 = .ok (.idiv, 1) := by decide +kernel
theorem dL_law_84 : decode cL_law 84 = .ok (.bipush 96, 2) := by decide +kernel
theorem dL_law_86 : decode cL_law 86 = .ok (.iload 4, 2) := by decide +kernel
theorem dL_law_88 : decode cL_law 88 = .ok (.isub, 1) := by decide +kernel
theorem dL_law_89 : decode cL_law 89 = .ok (.irem, 1) := by decide +kernel
theorem dL_law_90 : decode cL_law 90 = .ok (.iadd, 1) := by decide +kernel
theorem dL_law_91 : decode cL_law 91 = .ok (.iconst 1, 1) := by decide +kernel
theorem dL_law_92 : decode cL_law 92 = .ok (.iload_n 3, 1) := by decide +kernel
theorem dL_law_93 : decode cL_law 93 = .ok (.bipush 15, 2) := by decide +kernel
theorem dL_law_95 : decode cL_law 95 = .ok (.irem, 1) := by decide +kernel
theorem dL_law_96 : decode cL_law 96 = .ok (.iadd, 1) := by decide +kernel
theorem dL_law_97 : decode cL_law 97 = .ok (.bipush 100, 2) := by decide +kernel
theorem dL_law_99 : decode cL_law 99 = .ok (.iload_n 3, 1) := by decide +kernel
theorem dL_law_100 : decode cL_law 100 = .ok (.sipush 301, 3) := by decide +kernel
theorem dL_law_103 : decode cL_law 103 = .ok (.irem, 1) := by decide +kernel
theorem dL_law_104 : decode cL_law 104 = .ok (.iadd, 1) := by decide +kernel
theorem dL_law_105 : decode cL_law 105 = .ok (.invokestatic 86, 3) := by decide +kernel
theorem dL_law_108 : decode cL_law 108 = .ok (.iload_n 2, 1) := by decide +kernel
theorem dL_law_109 : decode cL_law 109 = .ok (.if_icmp .ne 73, 3) := by decide +kernel
theorem dL_law_112 : decode cL_law 112 = .ok (.aload_n 1, 1) := by decide +kernel
theorem dL_law_113 : decode cL_law 113 = .ok (.iconst 0, 1) := by decide +kernel
theorem dL_law_114 : decode cL_law 114 = .ok (.iconst 3, 1) := by decide +kernel
theorem dL_law_115 : decode cL_law 115 = .ok (.iload_n 2, 1) := by decide +kernel
theorem dL_law_116 : decode cL_law 116 = .ok (.imul, 1) := by decide +kernel
theorem dL_law_117 : decode cL_law 117 = .ok (.iload_n 3, 1) := by decide +kernel
theorem dL_law_118 : decode cL_law 118 = .ok (.iconst 2, 1) := by decide +kernel
theorem dL_law_119 : decode cL_law 119 = .ok (.irem, 1) := by decide +kernel
theorem dL_law_120 : decode cL_law 120 = .ok (.iadd, 1) := by decide +kernel
theorem dL_law_121 : decode cL_law 121 = .ok (.iload_n 3, 1) := by decide +kernel
theorem dL_law_122 : decode cL_law 122 = .ok (.bipush 96, 2) := by decide +kernel
theorem dL_law_124 : decode cL_law 124 = .ok (.irem, 1) := by decide +kernel
theorem dL_law_125 : decode cL_law 125 = .ok (.iconst 1, 1) := by decide +kernel
theorem dL_law_126 : decode cL_law 126 = .ok (.iload_n 3, 1) := by decide +kernel
theorem dL_law_127 : decode cL_law 127 = .ok (.bipush 64, 2) := by decide +kernel
theorem dL_law_129 : decode cL_law 129 = .ok (.irem, 1) := by decide +kernel
theorem dL_law_130 : decode cL_law 130 = .ok (.iadd, 1) := by decide +kernel
theorem dL_law_131 : decode cL_law 131 = .ok (.invokevirtual 35, 3) := by decide +kernel
theorem dL_law_134 : decode cL_law 134 = .ok (.iload_n 2, 1) := by decide +kernel
theorem dL_law_135 : decode cL_law 135 = .ok (.if_icmp .ne 47, 3) := by decide +kernel
theorem dL_law_138 : decode cL_law 138 = .ok (.aload_n 1, 1) := by decide +kernel
theorem dL_law_139 : decode cL_law 139 = .ok (.iload_n 2, 1) := by decide +kernel
theorem dL_law_140 : decode cL_law 140 = .ok (.invokevirtual 45, 3) := by decide +kernel
theorem dL_law_143 : decode cL_law 143 = .ok (.bipush 12, 2) := by decide +kernel
theorem dL_law_145 : decode cL_law 145 = .ok (.if_icmp .lt 37, 3) := by decide +kernel
theorem dL_law_148 : decode cL_law 148 = .ok (.aload_n 1, 1) := by decide +kernel
theorem dL_law_149 : decode cL_law 149 = .ok (.iload_n 2, 1) := by decide +kernel
theorem dL_law_150 : decode cL_law 150 = .ok (.invokevirtual 57, 3) := by decide +kernel
theorem dL_law_153 : decode cL_law 153 = .ok (.sipush 500, 3) := by decide +kernel
theorem dL_law_156 : decode cL_law 156 = .ok (.aload_n 1, 1) := by decide +kernel
theorem dL_law_157 : decode cL_law 157 = .ok (.iload_n 2, 1) := by decide +kernel
theorem dL_law_158 : decode cL_law 158 = .ok (.invokevirtual 45, 3) := by decide +kernel
theorem dL_law_161 : decode cL_law 161 = .ok (.imul, 1) := by decide +kernel
theorem dL_law_162 : decode cL_law 162 = .ok (.if_icmp .lt 20, 3) := by decide +kernel
theorem dL_law_165 : decode cL_law 165 = .ok (.iload_n 2, 1) := by decide +kernel
theorem dL_law_166 : decode cL_law 166 = .ok (.iconst 5, 1) := by decide +kernel
theorem dL_law_167 : decode cL_law 167 = .ok (.irem, 1) := by decide +kernel
theorem dL_law_168 : decode cL_law 168 = .ok (.ifCond .ne 16, 3) := by decide +kernel
theorem dL_law_171 : decode cL_law 171 = .ok (.aload_n 1, 1) := by decide +kernel
theorem dL_law_172 : decode cL_law 172 = .ok (.iload_n 2, 1) := by decide +kernel
theorem dL_law_173 : decode cL_law 173 = .ok (.iconst 1, 1) := by decide +kernel
theorem dL_law_174 : decode cL_law 174 = .ok (.iadd, 1) := by decide +kernel
theorem dL_law_175 : decode cL_law 175 = .ok (.iconst 1, 1) := by decide +kernel
theorem dL_law_176 : decode cL_law 176 = .ok (.invokestatic 90, 3) := by decide +kernel
theorem dL_law_179 : decode cL_law 179 = .ok (.ifCond .ne 5, 3) := by decide +kernel
theorem dL_law_182 : decode cL_law 182 = .ok (.iconst 0, 1) := by decide +kernel
theorem dL_law_183 : decode cL_law 183 = .ok (.ireturn, 1) := by decide +kernel
theorem dL_law_184 : decode cL_law 184 = .ok (.iinc 2 1, 3) := by decide +kernel
theorem dL_law_187 : decode cL_law 187 = .ok (.goto (-153), 3) := by decide +kernel
theorem dL_law_190 : decode cL_law 190 = .ok (.iconst 1, 1) := by decide +kernel
theorem dL_law_191 : decode cL_law 191 = .ok (.ireturn, 1) := by decide +kernel
abbrev vwCl : List vw_C := [(RJx4a65c, TJx4a65c, 3), (RX0, TX0, 7), (RX1, TX1, 5), (RX2, TX2, 1), (RX3, TX3, 5)]
end
section
theorem goodIn_c1 {big a : List Cond} {c : Cond} (hc : c ∈ big) (hg : goodWord c = true) (ha : GoodIn big a) : GoodIn big (c :: a) := fun w h => (List.mem_cons.mp h).elim (fun e => by rw [e]; exact ⟨hc, good_of_word hg⟩) (ha w)
set_option maxRecDepth 100000 in
theorem ggL_pays_L_refuses : GoodIn wsL_pays wsL_refuses := goodIn_ca (goodIn_ca (goodIn_ca (goodIn_c1 (List.mem_of_getElem? (i := 335) rfl) (by decide +kernel) (goodIn_app (goodIn_app (goodIn_app (goodIn_app (goodIn_app (goodIn_app (goodIn_r wsL_refuses_r1 [336, 39, 40, 41, 3, 42, 19, 43, 44, 45, 16, 46, 47, 308, 309, 310, 311, 186, 187, 166, 167, 168, 169, 73] (by decide +kernel) (by decide +kernel)) (goodIn_app (goodIn_r wsL_refuses_r2 [74, 18, 170, 76, 77, 78, 79, 80, 81, 82, 83, 84, 85, 86, 87, 88, 89, 90, 91, 28, 61, 62, 63, 59] (by decide +kernel) (by decide +kernel)) (goodIn_app (goodIn_r wsL_refuses_r3 [60, 244, 245, 246, 177, 247, 193, 215, 216, 217, 218, 165, 219, 220, 221, 222, 11, 223, 224, 225, 226, 203, 202, 196] (by decide +kernel) (by decide +kernel)) (goodIn_app (goodIn_r wsL_refuses_r4 [129, 130, 131, 227, 228, 229, 230, 194, 231, 232, 233, 234, 235, 236, 237, 238, 239, 240, 241, 242, 243, 17, 75, 248] (by decide +kernel) (by decide +kernel)) (goodIn_app (goodIn_r wsL_refuses_r5 [249, 250, 251, 252, 253, 254, 255, 13, 256, 257, 258, 259, 260, 261, 262, 263, 264, 265, 266, 267, 268, 269, 270, 271] (by decide +kernel) (by decide +kernel)) (goodIn_app (goodIn_r wsL_refuses_r6 [272, 273, 274, 275, 276, 277, 278, 320, 321, 322, 323, 324, 325, 326, 327, 182, 183, 184, 185, 188, 189, 190, 191, 192] (by decide +kernel) (by decide +kernel)) (goodIn_app (goodIn_r wsL_refuses_r7 [195, 155, 156, 48, 49, 50, 51, 52, 53, 54, 55, 56, 57, 58, 64, 65, 66, 67, 68, 69, 70, 71, 72, 92] (by decide +kernel) (by decide +kernel)) (goodIn_app (goodIn_r wsL_refuses_r8 [93, 94, 95, 96, 97, 98, 99, 100, 101, 102, 103, 104, 105, 106, 107, 108, 8, 9, 109, 110, 111, 112, 113, 114] (by decide +kernel) (by decide +kernel)) (goodIn_app (goodIn_r wsL_refuses_r9 [115, 116, 117, 118, 119, 120, 121, 122, 123, 124, 125, 126, 127, 27, 128, 132, 133, 134, 135, 136, 137, 138, 139, 140] (by decide +kernel) (by decide +kernel)) (goodIn_app (goodIn_r wsL_refuses_r10 [141, 142, 143, 22, 144, 145, 146, 147, 148, 149, 150, 151, 152, 153, 154, 157, 158, 159, 160, 161, 162, 163, 164, 171] (by decide +kernel) (by decide +kernel)) (goodIn_app (goodIn_r wsL_refuses_r11 [172, 173, 174, 175, 176, 178, 179, 180, 181, 197, 198, 199, 200, 201, 204, 205, 206, 207, 208, 209, 210, 211, 212, 213] (by decide +kernel) (by decide +kernel)) (goodIn_app (goodIn_r wsL_refuses_r12 [214, 279, 280, 281, 282, 283, 284, 285, 286, 287, 288, 289, 290, 291, 292, 293, 294, 295, 296, 297, 298, 299, 300, 301] (by decide +kernel) (by decide +kernel)) (goodIn_app (goodIn_r wsL_refuses_r13 [302, 303, 304, 305, 306, 307, 312, 313, 314, 315, 316, 317, 318, 319, 328, 329, 330, 331, 332, 337, 338, 339, 340, 341] (by decide +kernel) (by decide +kernel)) (goodIn_r wsL_refuses_r14 [342, 343, 344, 345, 346, 347, 348, 349, 350, 351] (by decide +kernel) (by decide +kernel))))))))))))))) (goodIn_r wsX30 [355, 356, 357, 358, 359] (by decide +kernel) (by decide +kernel))) (goodIn_r wsJx4a65c0 [360, 361, 362] (by decide +kernel) (by decide +kernel))) (goodIn_r wsX10 [371, 372, 373, 374, 375] (by decide +kernel) (by decide +kernel))) (goodIn_r wsX20 [370] (by decide +kernel) (by decide +kernel))) (goodIn_r wsX00 [363, 364, 365, 366, 367, 368, 369] (by decide +kernel) (by decide +kernel)))) (goodIn_sub (fun _ h => List.mem_cons_of_mem _ (List.mem_append_left _ (List.mem_append_right _ h))) (by decide +kernel))) (goodIn_sub (fun _ h => List.mem_cons_of_mem _ (List.mem_append_left _ (List.mem_append_left _ (List.mem_append_right _ h)))) (by decide +kernel))) (goodIn_sub (fun _ h => List.mem_cons_of_mem _ (List.mem_append_right _ h)) (by decide +kernel))
set_option maxRecDepth 100000 in
theorem gL_pays_L_refuses : GoodIn wsL_pays (va_wsS RL 90 yL_refuses wsL_refuses) := goodIn_app (goodIn_of _ (by decide +kernel)) ggL_pays_L_refuses
set_option maxRecDepth 100000 in
theorem ggL_hours_L_refuses : GoodIn wsL_hours wsL_refuses := goodIn_ca (goodIn_ca (goodIn_ca (goodIn_c1 (List.mem_of_getElem? (i := 332) rfl) (by decide +kernel) (goodIn_app (goodIn_app (goodIn_app (goodIn_app (goodIn_app (goodIn_app (goodIn_r wsL_refuses_r1 [333, 334, 335, 336, 3, 337, 20, 54, 55, 56, 17, 57, 58, 305, 306, 307, 308, 153, 154, 122, 123, 124, 125, 126] (by decide +kernel) (by decide +kernel)) (goodIn_app (goodIn_r wsL_refuses_r2 [127, 19, 128, 129, 130, 131, 132, 133, 134, 135, 136, 137, 138, 139, 140, 141, 142, 143, 144, 29, 49, 50, 51, 52] (by decide +kernel) (by decide +kernel)) (goodIn_app (goodIn_r wsL_refuses_r3 [53, 241, 242, 243, 121, 244, 160, 212, 213, 214, 215, 200, 216, 217, 218, 219, 12, 220, 221, 222, 223, 170, 169, 163] (by decide +kernel) (by decide +kernel)) (goodIn_app (goodIn_r wsL_refuses_r4 [83, 84, 85, 224, 225, 226, 227, 161, 228, 229, 230, 231, 232, 233, 234, 235, 236, 237, 238, 239, 240, 18, 191, 245] (by decide +kernel) (by decide +kernel)) (goodIn_app (goodIn_r wsL_refuses_r5 [246, 247, 248, 249, 250, 251, 252, 14, 253, 254, 255, 256, 257, 258, 259, 260, 261, 262, 263, 264, 265, 266, 267, 268] (by decide +kernel) (by decide +kernel)) (goodIn_app (goodIn_r wsL_refuses_r6 [269, 270, 271, 272, 273, 274, 275, 317, 318, 319, 320, 321, 322, 323, 324, 149, 150, 151, 152, 155, 156, 157, 158, 159] (by decide +kernel) (by decide +kernel)) (goodIn_app (goodIn_r wsL_refuses_r7 [162, 109, 110, 171, 172, 173, 174, 175, 176, 177, 178, 179, 180, 181, 182, 183, 184, 185, 186, 187, 188, 189, 190, 192] (by decide +kernel) (by decide +kernel)) (goodIn_app (goodIn_r wsL_refuses_r8 [193, 194, 195, 40, 41, 42, 43, 44, 45, 46, 47, 48, 59, 60, 61, 62, 9, 10, 63, 64, 65, 66, 67, 68] (by decide +kernel) (by decide +kernel)) (goodIn_app (goodIn_r wsL_refuses_r9 [69, 70, 71, 72, 73, 74, 75, 76, 77, 78, 79, 80, 81, 28, 82, 86, 87, 88, 89, 90, 91, 92, 93, 94] (by decide +kernel) (by decide +kernel)) (goodIn_app (goodIn_r wsL_refuses_r10 [95, 96, 97, 23, 98, 99, 100, 101, 102, 103, 104, 105, 106, 107, 108, 111, 112, 113, 114, 196, 197, 198, 199, 115] (by decide +kernel) (by decide +kernel)) (goodIn_app (goodIn_r wsL_refuses_r11 [116, 117, 118, 119, 120, 145, 146, 147, 148, 164, 165, 166, 167, 168, 201, 202, 203, 204, 205, 206, 207, 208, 209, 210] (by decide +kernel) (by decide +kernel)) (goodIn_app (goodIn_r wsL_refuses_r12 [211, 276, 277, 278, 279, 280, 281, 282, 283, 284, 285, 286, 287, 288, 289, 290, 291, 292, 293, 294, 295, 296, 297, 298] (by decide +kernel) (by decide +kernel)) (goodIn_app (goodIn_r wsL_refuses_r13 [299, 300, 301, 302, 303, 304, 309, 310, 311, 312, 313, 314, 315, 316, 325, 326, 327, 328, 329, 338, 339, 340, 341, 342] (by decide +kernel) (by decide +kernel)) (goodIn_r wsL_refuses_r14 [343, 344, 345, 346, 347, 348, 349, 350, 351, 352] (by decide +kernel) (by decide +kernel))))))))))))))) (goodIn_r wsX30 [359, 360, 361, 362, 363] (by decide +kernel) (by decide +kernel))) (goodIn_r wsJx4a65c0 [364, 365, 366] (by decide +kernel) (by decide +kernel))) (goodIn_r wsX10 [368, 369, 370, 371, 372] (by decide +kernel) (by decide +kernel))) (goodIn_r wsX20 [367] (by decide +kernel) (by decide +kernel))) (goodIn_r wsX00 [373, 374, 375, 376, 377, 378, 379] (by decide +kernel) (by decide +kernel)))) (goodIn_sub (fun _ h => List.mem_cons_of_mem _ (List.mem_append_right _ h)) (by decide +kernel))) (goodIn_sub (fun _ h => List.mem_cons_of_mem _ (List.mem_append_left _ (List.mem_append_right _ h))) (by decide +kernel))) (goodIn_sub (fun _ h => List.mem_cons_of_mem _ (List.mem_append_left _ (List.mem_append_left _ (List.mem_append_right _ h)))) (by decide +kernel))
set_option maxRecDepth 100000 in
theorem gL_hours_L_refuses : GoodIn wsL_hours (va_wsS RL 90 yL_refuses wsL_refuses) := goodIn_app (goodIn_of _ (by decide +kernel)) ggL_hours_L_refuses
set_option maxRecDepth 100000 in
theorem ggL_hours_L_most : GoodIn wsL_hours wsL_most := goodIn_ca (goodIn_ca (goodIn_ca (goodIn_c1 (List.mem_of_getElem? (i := 355) rfl) (by decide +kernel) (goodIn_app (goodIn_app (goodIn_app (goodIn_app (goodIn_app (goodIn_app (goodIn_r wsL_most_r1 [171, 172, 173, 174, 175, 176, 177, 178, 179, 180, 3, 181, 52, 53, 12, 49, 50, 51, 182, 183, 184, 185, 186, 187] (by decide +kernel) (by decide +kernel)) (goodIn_app (goodIn_r wsL_most_r2 [188, 189, 190, 126, 127, 18, 191, 54, 55, 56, 17, 57, 58, 129, 130, 131, 132, 133, 134, 135, 136, 137, 138, 139] (by decide +kernel) (by decide +kernel)) (goodIn_app (goodIn_r wsL_most_r3 [140, 141, 142, 143, 144, 29, 192, 193, 194, 195, 14, 40, 41, 42, 43, 44, 45, 19, 46, 47, 48, 59, 60, 61] (by decide +kernel) (by decide +kernel)) (goodIn_app (goodIn_r wsL_most_r4 [62, 9, 10, 63, 64, 65, 66, 67, 68, 69, 70, 71, 72, 73, 74, 75, 76, 77, 78, 79, 80, 81, 28, 82] (by decide +kernel) (by decide +kernel)) (goodIn_app (goodIn_r wsL_most_r5 [83, 84, 85, 86, 87, 88, 89, 90, 91, 92, 93, 94, 95, 96, 97, 23, 98, 99, 100, 101, 102, 103, 104, 105] (by decide +kernel) (by decide +kernel)) (goodIn_app (goodIn_r wsL_most_r6 [106, 107, 108, 109, 110, 111, 112, 113, 114, 196, 197, 198, 199, 200, 122, 123, 124, 125, 128, 115, 116, 117, 118, 20] (by decide +kernel) (by decide +kernel)) (goodIn_app (goodIn_r wsL_most_r7 [119, 120, 121, 145, 146, 147, 148, 149, 150, 151, 152, 153, 154, 155, 156, 157, 158, 159, 160, 161, 162, 163, 164, 165] (by decide +kernel) (by decide +kernel)) (goodIn_app (goodIn_r wsL_most_r8 [166, 167, 168, 169, 170, 201, 202, 203, 204, 205, 206, 207, 208, 209, 210, 211, 212, 213, 214, 215, 216, 217, 218, 219] (by decide +kernel) (by decide +kernel)) (goodIn_app (goodIn_r wsL_most_r9 [220, 221, 222, 223, 224, 225, 226, 227, 228, 229, 230, 231, 232, 233, 234, 235, 236, 237, 238, 239, 240, 241, 242, 243] (by decide +kernel) (by decide +kernel)) (goodIn_app (goodIn_r wsL_most_r10 [244, 245, 246, 247, 248, 249, 250, 251, 252, 253, 254, 255, 256, 257, 258, 259, 260, 261, 262, 263, 264, 265, 266, 267] (by decide +kernel) (by decide +kernel)) (goodIn_app (goodIn_r wsL_most_r11 [268, 269, 270, 271, 272, 273, 274, 275, 276, 277, 278, 279, 280, 281, 282, 283, 284, 285, 286, 287, 288, 289, 290, 291] (by decide +kernel) (by decide +kernel)) (goodIn_app (goodIn_r wsL_most_r12 [292, 293, 294, 295, 296, 297, 298, 299, 300, 301, 302, 303, 304, 305, 306, 307, 308, 309, 310, 311, 312, 313, 314, 315] (by decide +kernel) (by decide +kernel)) (goodIn_app (goodIn_r wsL_most_r13 [316, 317, 318, 319, 320, 321, 322, 323, 324, 325, 326, 327, 328, 329, 338, 339, 340, 341, 342, 343, 344, 345, 346, 347] (by decide +kernel) (by decide +kernel)) (goodIn_c1 (List.mem_of_getElem? (i := 348) (by decide +kernel)) (by decide +kernel) (goodIn_c1 (List.mem_of_getElem? (i := 349) (by decide +kernel)) (by decide +kernel) (goodIn_c1 (List.mem_of_getElem? (i := 350) (by decide +kernel)) (by decide +kernel) (goodIn_c1 (List.mem_of_getElem? (i := 351) (by decide +kernel)) (by decide +kernel) (goodIn_c1 (List.mem_of_getElem? (i := 352) (by decide +kernel)) (by decide +kernel) (goodIn_c1 (List.mem_of_getElem? (i := 356) (by decide +kernel)) (by decide +kernel) (goodIn_c1 (List.mem_of_getElem? (i := 357) (by decide +kernel)) (by decide +kernel) (goodIn_c1 (List.mem_of_getElem? (i := 358) (by decide +kernel)) (by decide +kernel) (goodIn_c1 (List.mem_of_getElem? (i := 330) (by decide +kernel)) (by decide +kernel) (goodIn_c1 (List.mem_of_getElem? (i := 331) (by decide +kernel)) (by decide +kernel) (goodIn_c1 (List.mem_of_getElem? (i := 332) rfl) (by decide +kernel) (goodIn_c1 (List.mem_of_getElem? (i := 333) (by decide +kernel)) (by decide +kernel) (goodIn_c1 (List.mem_of_getElem? (i := 334) (by decide +kernel)) (by decide +kernel) (goodIn_c1 (List.mem_of_getElem? (i := 335) (by decide +kernel)) (by decide +kernel) (goodIn_c1 (List.mem_of_getElem? (i := 336) (by decide +kernel)) (by decide +kernel) (goodIn_c1 (List.mem_of_getElem? (i := 337) (by decide +kernel)) (by decide +kernel) (fun _ h => absurd h List.not_mem_nil)))))))))))))))))))))))))))))) (goodIn_r wsX30 [359, 360, 361, 362, 363] (by decide +kernel) (by decide +kernel))) (goodIn_r wsX00 [373, 374, 375, 376, 377, 378, 379] (by decide +kernel) (by decide +kernel))) (goodIn_r wsJx4a65c0 [364, 365, 366] (by decide +kernel) (by decide +kernel))) (goodIn_r wsX20 [367] (by decide +kernel) (by decide +kernel))) (goodIn_r wsX10 [368, 369, 370, 371, 372] (by decide +kernel) (by decide +kernel)))) (goodIn_sub (fun _ h => List.mem_cons_of_mem _ (List.mem_append_left _ (List.mem_append_right _ h))) (by decide +kernel))) (goodIn_sub (fun _ h => List.mem_cons_of_mem _ (List.mem_append_right _ h)) (by decide +kernel))) (goodIn_sub (fun _ h => List.mem_cons_of_mem _ (List.mem_append_left _ (List.mem_append_left _ (List.mem_append_right _ h)))) (by decide +kernel))
set_option maxRecDepth 100000 in
theorem gL_hours_L_most : GoodIn wsL_hours (va_wsS RL 99 yL_most wsL_most) := goodIn_app (goodIn_of _ (by decide +kernel)) ggL_hours_L_most
set_option maxRecDepth 100000 in
theorem ggL_most_L_refuses : GoodIn wsL_most wsL_refuses := goodIn_ca (goodIn_ca (goodIn_ca (goodIn_c1 (List.mem_of_getElem? (i := 323) rfl) (by decide +kernel) (goodIn_app (goodIn_app (goodIn_app (goodIn_app (goodIn_app (goodIn_app (goodIn_r wsL_refuses_r1 [324, 325, 326, 327, 11, 328, 144, 32, 33, 34, 35, 36, 37, 278, 279, 280, 281, 156, 157, 135, 136, 137, 138, 28] (by decide +kernel) (by decide +kernel)) (goodIn_app (goodIn_r wsL_refuses_r2 [29, 66, 139, 38, 39, 40, 41, 42, 43, 44, 45, 46, 47, 48, 49, 50, 51, 52, 53, 54, 16, 17, 18, 13] (by decide +kernel) (by decide +kernel)) (goodIn_app (goodIn_r wsL_refuses_r3 [14, 214, 215, 216, 147, 217, 163, 185, 186, 187, 188, 134, 189, 190, 191, 192, 15, 193, 194, 195, 196, 173, 172, 166] (by decide +kernel) (by decide +kernel)) (goodIn_app (goodIn_r wsL_refuses_r4 [97, 98, 99, 197, 198, 199, 200, 164, 201, 202, 203, 204, 205, 206, 207, 208, 209, 210, 211, 212, 213, 30, 31, 218] (by decide +kernel) (by decide +kernel)) (goodIn_app (goodIn_r wsL_refuses_r5 [219, 220, 221, 222, 223, 224, 225, 59, 226, 227, 228, 229, 230, 231, 232, 233, 234, 235, 236, 237, 238, 239, 240, 241] (by decide +kernel) (by decide +kernel)) (goodIn_app (goodIn_r wsL_refuses_r6 [242, 243, 244, 245, 246, 247, 248, 290, 291, 292, 293, 294, 295, 296, 297, 152, 153, 154, 155, 158, 159, 160, 161, 162] (by decide +kernel) (by decide +kernel)) (goodIn_app (goodIn_r wsL_refuses_r7 [165, 124, 125, 1, 2, 3, 4, 5, 6, 7, 8, 9, 10, 12, 19, 20, 21, 22, 23, 24, 25, 26, 27, 55] (by decide +kernel) (by decide +kernel)) (goodIn_app (goodIn_r wsL_refuses_r8 [56, 57, 58, 60, 61, 62, 63, 64, 65, 67, 68, 69, 70, 71, 72, 73, 74, 75, 76, 77, 78, 79, 80, 81] (by decide +kernel) (by decide +kernel)) (goodIn_app (goodIn_r wsL_refuses_r9 [82, 83, 84, 85, 86, 87, 88, 89, 90, 91, 92, 93, 94, 95, 96, 100, 101, 102, 103, 104, 105, 106, 107, 108] (by decide +kernel) (by decide +kernel)) (goodIn_app (goodIn_r wsL_refuses_r10 [109, 110, 111, 112, 113, 114, 115, 116, 117, 118, 119, 120, 121, 122, 123, 126, 127, 128, 129, 130, 131, 132, 133, 140] (by decide +kernel) (by decide +kernel)) (goodIn_app (goodIn_r wsL_refuses_r11 [141, 142, 143, 145, 146, 148, 149, 150, 151, 167, 168, 169, 170, 171, 174, 175, 176, 177, 178, 179, 180, 181, 182, 183] (by decide +kernel) (by decide +kernel)) (goodIn_app (goodIn_r wsL_refuses_r12 [184, 249, 250, 251, 252, 253, 254, 255, 256, 257, 258, 259, 260, 261, 262, 263, 264, 265, 266, 267, 268, 269, 270, 271] (by decide +kernel) (by decide +kernel)) (goodIn_app (goodIn_r wsL_refuses_r13 [272, 273, 274, 275, 276, 277, 282, 283, 284, 285, 286, 287, 288, 289, 298, 299, 300, 301, 302, 303, 304, 305, 306, 307] (by decide +kernel) (by decide +kernel)) (goodIn_r wsL_refuses_r14 [308, 309, 310, 311, 312, 313, 314, 315, 316, 317] (by decide +kernel) (by decide +kernel))))))))))))))) (goodIn_r wsX30 [329, 330, 331, 332, 333] (by decide +kernel) (by decide +kernel))) (goodIn_r wsJx4a65c0 [341, 342, 343] (by decide +kernel) (by decide +kernel))) (goodIn_r wsX10 [345, 346, 347, 348, 349] (by decide +kernel) (by decide +kernel))) (goodIn_r wsX20 [344] (by decide +kernel) (by decide +kernel))) (goodIn_r wsX00 [334, 335, 336, 337, 338, 339, 340] (by decide +kernel) (by decide +kernel)))) (goodIn_sub (fun _ h => List.mem_cons_of_mem _ (List.mem_append_left _ (List.mem_append_right _ h))) (by decide +kernel))) (goodIn_sub (fun _ h => List.mem_cons_of_mem _ (List.mem_append_left _ (List.mem_append_left _ (List.mem_append_right _ h)))) (by decide +kernel))) (goodIn_sub (fun _ h => List.mem_cons_of_mem _ (List.mem_append_right _ h)) (by decide +kernel))
set_option maxRecDepth 100000 in
theorem gL_most_L_refuses : GoodIn wsL_most (va_wsS RL 90 yL_refuses wsL_refuses) := goodIn_app (goodIn_of _ (by decide +kernel)) ggL_most_L_refuses
set_option maxRecDepth 100000 in
theorem ggL_law_L_pays : GoodIn wsL_law wsL_pays := goodIn_ca (goodIn_ca (goodIn_ca (goodIn_c1 (List.mem_of_getElem? (i := 6) rfl) (by decide +kernel) (goodIn_app (goodIn_app (goodIn_app (goodIn_app (goodIn_app (goodIn_app (goodIn_r wsL_pays_r1 [0, 1, 2, 7, 8, 9, 10, 11, 12, 13, 14, 15, 16, 17, 18, 19, 20, 21, 22, 23, 24, 25, 26, 27] (by decide +kernel) (by decide +kernel)) (goodIn_app (goodIn_r wsL_pays_r2 [28, 29, 30, 31, 32, 33, 34, 35, 36, 37, 38, 39, 40, 41, 42, 43, 44, 45, 46, 47, 48, 49, 50, 51] (by decide +kernel) (by decide +kernel)) (goodIn_app (goodIn_r wsL_pays_r3 [52, 5, 53, 54, 55, 56, 57, 58, 59, 60, 61, 62, 63, 64, 65, 66, 67, 68, 69, 70, 71, 72, 73, 74] (by decide +kernel) (by decide +kernel)) (goodIn_app (goodIn_r wsL_pays_r4 [75, 76, 77, 78, 79, 80, 81, 82, 83, 84, 85, 86, 87, 88, 89, 90, 91, 92, 93, 94, 95, 96, 97, 98] (by decide +kernel) (by decide +kernel)) (goodIn_app (goodIn_r wsL_pays_r5 [99, 100, 101, 102, 103, 104, 105, 106, 107, 108, 109, 110, 111, 112, 113, 114, 115, 116, 117, 118, 119, 120, 121, 122] (by decide +kernel) (by decide +kernel)) (goodIn_app (goodIn_r wsL_pays_r6 [123, 124, 125, 126, 127, 128, 129, 130, 131, 132, 133, 134, 135, 136, 137, 138, 139, 140, 141, 142, 143, 144, 145, 146] (by decide +kernel) (by decide +kernel)) (goodIn_app (goodIn_r wsL_pays_r7 [147, 148, 149, 150, 151, 152, 153, 154, 155, 156, 157, 158, 159, 160, 161, 162, 163, 164, 165, 166, 167, 168, 169, 170] (by decide +kernel) (by decide +kernel)) (goodIn_app (goodIn_r wsL_pays_r8 [171, 172, 173, 174, 175, 176, 177, 178, 179, 180, 181, 182, 183, 184, 185, 186, 187, 188, 189, 190, 191, 192, 193, 194] (by decide +kernel) (by decide +kernel)) (goodIn_app (goodIn_r wsL_pays_r9 [195, 196, 197, 198, 199, 200, 201, 202, 203, 204, 205, 206, 207, 208, 209, 210, 211, 212, 213, 214, 215, 216, 217, 218] (by decide +kernel) (by decide +kernel)) (goodIn_app (goodIn_r wsL_pays_r10 [219, 220, 221, 222, 223, 224, 225, 226, 227, 228, 229, 230, 231, 232, 233, 234, 235, 236, 237, 238, 239, 240, 241, 242] (by decide +kernel) (by decide +kernel)) (goodIn_app (goodIn_r wsL_pays_r11 [243, 244, 245, 246, 247, 248, 249, 250, 251, 252, 253, 254, 255, 256, 257, 258, 259, 260, 261, 262, 263, 264, 265, 266] (by decide +kernel) (by decide +kernel)) (goodIn_app (goodIn_r wsL_pays_r12 [267, 268, 269, 270, 271, 272, 273, 274, 275, 276, 277, 278, 279, 280, 281, 282, 283, 284, 285, 286, 287, 288, 289, 290] (by decide +kernel) (by decide +kernel)) (goodIn_app (goodIn_r wsL_pays_r13 [291, 292, 293, 294, 295, 296, 297, 298, 299, 300, 301, 302, 303, 304, 305, 306, 307, 308, 309, 310, 311, 312, 313, 314] (by decide +kernel) (by decide +kernel)) (goodIn_app (goodIn_c1 (List.mem_of_getElem? (i := 315) (by decide +kernel)) (by decide +kernel) (goodIn_c1 (List.mem_of_getElem? (i := 316) (by decide +kernel)) (by decide +kernel) (goodIn_c1 (List.mem_of_getElem? (i := 317) (by decide +kernel)) (by decide +kernel) (goodIn_c1 (List.mem_of_getElem? (i := 318) (by decide +kernel)) (by decide +kernel) (goodIn_c1 (List.mem_of_getElem? (i := 319) (by decide +kernel)) (by decide +kernel) (goodIn_c1 (List.mem_of_getElem? (i := 320) (by decide +kernel)) (by decide +kernel) (goodIn_c1 (List.mem_of_getElem? (i := 321) (by decide +kernel)) (by decide +kernel) (goodIn_c1 (List.mem_of_getElem? (i := 322) (by decide +kernel)) (by decide +kernel) (goodIn_c1 (List.mem_of_getElem? (i := 323) (by decide +kernel)) (by decide +kernel) (goodIn_c1 (List.mem_of_getElem? (i := 324) (by decide +kernel)) (by decide +kernel) (goodIn_c1 (List.mem_of_getElem? (i := 325) (by decide +kernel)) (by decide +kernel) (goodIn_c1 (List.mem_of_getElem? (i := 326) (by decide +kernel)) (by decide +kernel) (goodIn_c1 (List.mem_of_getElem? (i := 327) (by decide +kernel)) (by decide +kernel) (goodIn_c1 (List.mem_of_getElem? (i := 328) (by decide +kernel)) (by decide +kernel) (goodIn_c1 (List.mem_of_getElem? (i := 329) (by decide +kernel)) (by decide +kernel) (goodIn_c1 (List.mem_of_getElem? (i := 330) (by decide +kernel)) (by decide +kernel) (goodIn_c1 (List.mem_of_getElem? (i := 331) (by decide +kernel)) (by decide +kernel) (goodIn_c1 (List.mem_of_getElem? (i := 332) (by decide +kernel)) (by decide +kernel) (goodIn_c1 (List.mem_of_getElem? (i := 333) (by decide +kernel)) (by decide +kernel) (goodIn_c1 (List.mem_of_getElem? (i := 334) (by decide +kernel)) (by decide +kernel) (goodIn_c1 (List.mem_of_getElem? (i := 335) (by decide +kernel)) (by decide +kernel) (goodIn_c1 (List.mem_of_getElem? (i := 336) (by decide +kernel)) (by decide +kernel) (goodIn_c1 (List.mem_of_getElem? (i := 337) rfl) (by decide +kernel) (goodIn_c1 (List.mem_of_getElem? (i := 338) (by decide +kernel)) (by decide +kernel) (fun _ h => absurd h List.not_mem_nil))))))))))))))))))))))))) (goodIn_r wsL_pays_r15 [339, 340, 341, 342, 343, 344, 345, 346, 347, 348, 349, 350, 351, 352, 353, 354, 355, 356] (by decide +kernel) (by decide +kernel)))))))))))))))) (goodIn_r wsX30 [364, 365, 366, 367, 368] (by decide +kernel) (by decide +kernel))) (goodIn_r wsJx4a65c0 [369, 370, 371] (by decide +kernel) (by decide +kernel))) (goodIn_r wsX00 [372, 373, 374, 375, 376, 377, 378] (by decide +kernel) (by decide +kernel))) (goodIn_r wsX20 [379] (by decide +kernel) (by decide +kernel))) (goodIn_r wsX10 [380, 381, 382, 383, 384] (by decide +kernel) (by decide +kernel)))) (goodIn_sub (fun _ h => List.mem_append_left _ (List.mem_append_left _ (List.mem_append_right _ h))) (by decide +kernel))) (goodIn_sub (fun _ h => List.mem_append_left _ (List.mem_append_right _ h)) (by decide +kernel))) (goodIn_sub (fun _ h => List.mem_append_right _ h) (by decide +kernel))
set_option maxRecDepth 100000 in
theorem gL_law_L_pays : GoodIn wsL_law (va_wsS RL 103 yL_pays wsL_pays) := goodIn_app (goodIn_of _ (by decide +kernel)) ggL_law_L_pays
set_option maxRecDepth 100000 in
theorem ggL_law_L_hours : GoodIn wsL_law wsL_hours := goodIn_ca (goodIn_ca (goodIn_ca (goodIn_c1 (List.mem_of_getElem? (i := 359) rfl) (by decide +kernel) (goodIn_app (goodIn_app (goodIn_app (goodIn_app (goodIn_app (goodIn_app (goodIn_r wsL_hours_r1 [0, 1, 2, 360, 7, 8, 9, 10, 11, 12, 13, 14, 15, 16, 17, 18, 19, 20, 21, 22, 23, 24, 25, 26] (by decide +kernel) (by decide +kernel)) (goodIn_app (goodIn_r wsL_hours_r2 [27, 28, 29, 30, 31, 32, 33, 34, 35, 36, 37, 38, 39, 40, 41, 98, 99, 100, 101, 102, 103, 104, 105, 106] (by decide +kernel) (by decide +kernel)) (goodIn_app (goodIn_r wsL_hours_r3 [63, 64, 65, 61, 62, 46, 47, 48, 49, 50, 107, 108, 109, 110, 111, 112, 113, 114, 115, 116, 117, 118, 119, 120] (by decide +kernel) (by decide +kernel)) (goodIn_app (goodIn_r wsL_hours_r4 [121, 122, 123, 124, 125, 126, 127, 128, 129, 130, 131, 132, 133, 134, 135, 136, 137, 138, 139, 140, 141, 142, 143, 144] (by decide +kernel) (by decide +kernel)) (goodIn_app (goodIn_r wsL_hours_r5 [145, 146, 147, 148, 149, 150, 151, 152, 153, 154, 155, 156, 157, 158, 159, 160, 161, 162, 173, 174, 175, 176, 177, 178] (by decide +kernel) (by decide +kernel)) (goodIn_app (goodIn_r wsL_hours_r6 [179, 168, 169, 170, 171, 75, 76, 172, 78, 79, 80, 81, 82, 83, 84, 85, 86, 87, 88, 89, 90, 91, 92, 93] (by decide +kernel) (by decide +kernel)) (goodIn_app (goodIn_r wsL_hours_r7 [180, 181, 182, 183, 184, 185, 186, 187, 188, 189, 190, 191, 192, 193, 194, 195, 196, 197, 198, 199, 200, 201, 202, 203] (by decide +kernel) (by decide +kernel)) (goodIn_app (goodIn_r wsL_hours_r8 [204, 205, 51, 52, 5, 53, 54, 55, 56, 57, 58, 59, 60, 66, 67, 68, 69, 70, 71, 72, 73, 74, 77, 94] (by decide +kernel) (by decide +kernel)) (goodIn_app (goodIn_r wsL_hours_r9 [95, 96, 97, 163, 164, 165, 166, 167, 206, 207, 208, 209, 210, 211, 212, 213, 214, 215, 216, 217, 218, 219, 220, 221] (by decide +kernel) (by decide +kernel)) (goodIn_app (goodIn_r wsL_hours_r10 [222, 223, 224, 225, 226, 227, 228, 229, 230, 231, 232, 233, 234, 235, 236, 237, 238, 239, 240, 241, 242, 243, 244, 245] (by decide +kernel) (by decide +kernel)) (goodIn_app (goodIn_r wsL_hours_r11 [246, 247, 248, 249, 250, 251, 252, 253, 254, 255, 256, 257, 258, 259, 260, 261, 262, 263, 264, 265, 266, 267, 268, 269] (by decide +kernel) (by decide +kernel)) (goodIn_app (goodIn_r wsL_hours_r12 [270, 271, 272, 273, 274, 275, 276, 277, 278, 279, 280, 281, 282, 283, 284, 285, 286, 287, 288, 289, 290, 291, 292, 293] (by decide +kernel) (by decide +kernel)) (goodIn_app (goodIn_r wsL_hours_r13 [294, 295, 296, 297, 298, 299, 300, 301, 302, 303, 304, 305, 306, 307, 308, 309, 310, 311, 312, 313, 314, 315, 316, 317] (by decide +kernel) (by decide +kernel)) (goodIn_app (goodIn_c1 (List.mem_of_getElem? (i := 318) (by decide +kernel)) (by decide +kernel) (goodIn_c1 (List.mem_of_getElem? (i := 319) (by decide +kernel)) (by decide +kernel) (goodIn_c1 (List.mem_of_getElem? (i := 320) (by decide +kernel)) (by decide +kernel) (goodIn_c1 (List.mem_of_getElem? (i := 321) (by decide +kernel)) (by decide +kernel) (goodIn_c1 (List.mem_of_getElem? (i := 322) (by decide +kernel)) (by decide +kernel) (goodIn_c1 (List.mem_of_getElem? (i := 323) (by decide +kernel)) (by decide +kernel) (goodIn_c1 (List.mem_of_getElem? (i := 324) (by decide +kernel)) (by decide +kernel) (goodIn_c1 (List.mem_of_getElem? (i := 325) (by decide +kernel)) (by decide +kernel) (goodIn_c1 (List.mem_of_getElem? (i := 326) (by decide +kernel)) (by decide +kernel) (goodIn_c1 (List.mem_of_getElem? (i := 327) (by decide +kernel)) (by decide +kernel) (goodIn_c1 (List.mem_of_getElem? (i := 328) (by decide +kernel)) (by decide +kernel) (goodIn_c1 (List.mem_of_getElem? (i := 329) (by decide +kernel)) (by decide +kernel) (goodIn_c1 (List.mem_of_getElem? (i := 330) (by decide +kernel)) (by decide +kernel) (goodIn_c1 (List.mem_of_getElem? (i := 331) (by decide +kernel)) (by decide +kernel) (goodIn_c1 (List.mem_of_getElem? (i := 332) (by decide +kernel)) (by decide +kernel) (goodIn_c1 (List.mem_of_getElem? (i := 333) (by decide +kernel)) (by decide +kernel) (goodIn_c1 (List.mem_of_getElem? (i := 334) (by decide +kernel)) (by decide +kernel) (goodIn_c1 (List.mem_of_getElem? (i := 335) (by decide +kernel)) (by decide +kernel) (goodIn_c1 (List.mem_of_getElem? (i := 336) (by decide +kernel)) (by decide +kernel) (goodIn_c1 (List.mem_of_getElem? (i := 337) rfl) (by decide +kernel) (goodIn_c1 (List.mem_of_getElem? (i := 338) (by decide +kernel)) (by decide +kernel) (goodIn_c1 (List.mem_of_getElem? (i := 42) (by decide +kernel)) (by decide +kernel) (goodIn_c1 (List.mem_of_getElem? (i := 43) (by decide +kernel)) (by decide +kernel) (goodIn_c1 (List.mem_of_getElem? (i := 44) (by decide +kernel)) (by decide +kernel) (fun _ h => absurd h List.not_mem_nil))))))))))))))))))))))))) (goodIn_c1 (List.mem_of_getElem? (i := 45) (by decide +kernel)) (by decide +kernel) (goodIn_c1 (List.mem_of_getElem? (i := 339) (by decide +kernel)) (by decide +kernel) (goodIn_c1 (List.mem_of_getElem? (i := 340) (by decide +kernel)) (by decide +kernel) (goodIn_c1 (List.mem_of_getElem? (i := 341) (by decide +kernel)) (by decide +kernel) (goodIn_c1 (List.mem_of_getElem? (i := 342) (by decide +kernel)) (by decide +kernel) (goodIn_c1 (List.mem_of_getElem? (i := 343) (by decide +kernel)) (by decide +kernel) (goodIn_c1 (List.mem_of_getElem? (i := 344) (by decide +kernel)) (by decide +kernel) (goodIn_c1 (List.mem_of_getElem? (i := 345) (by decide +kernel)) (by decide +kernel) (goodIn_c1 (List.mem_of_getElem? (i := 346) (by decide +kernel)) (by decide +kernel) (goodIn_c1 (List.mem_of_getElem? (i := 347) (by decide +kernel)) (by decide +kernel) (goodIn_c1 (List.mem_of_getElem? (i := 348) (by decide +kernel)) (by decide +kernel) (goodIn_c1 (List.mem_of_getElem? (i := 349) (by decide +kernel)) (by decide +kernel) (goodIn_c1 (List.mem_of_getElem? (i := 350) (by decide +kernel)) (by decide +kernel) (goodIn_c1 (List.mem_of_getElem? (i := 351) (by decide +kernel)) (by decide +kernel) (goodIn_c1 (List.mem_of_getElem? (i := 352) (by decide +kernel)) (by decide +kernel) (goodIn_c1 (List.mem_of_getElem? (i := 353) (by decide +kernel)) (by decide +kernel) (goodIn_c1 (List.mem_of_getElem? (i := 361) (by decide +kernel)) (by decide +kernel) (goodIn_c1 (List.mem_of_getElem? (i := 362) (by decide +kernel)) (by decide +kernel) (goodIn_c1 (List.mem_of_getElem? (i := 363) rfl) (by decide +kernel) (goodIn_c1 (List.mem_of_getElem? (i := 354) (by decide +kernel)) (by decide +kernel) (goodIn_c1 (List.mem_of_getElem? (i := 355) (by decide +kernel)) (by decide +kernel) (goodIn_c1 (List.mem_of_getElem? (i := 356) (by decide +kernel)) (by decide +kernel) (fun _ h => absurd h List.not_mem_nil))))))))))))))))))))))))))))))))))))) (goodIn_r wsX30 [364, 365, 366, 367, 368] (by decide +kernel) (by decide +kernel))) (goodIn_r wsJx4a65c0 [369, 370, 371] (by decide +kernel) (by decide +kernel))) (goodIn_r wsX20 [379] (by decide +kernel) (by decide +kernel))) (goodIn_r wsX10 [380, 381, 382, 383, 384] (by decide +kernel) (by decide +kernel))) (goodIn_r wsX00 [372, 373, 374, 375, 376, 377, 378] (by decide +kernel) (by decide +kernel)))) (goodIn_sub (fun _ h => List.mem_append_right _ h) (by decide +kernel))) (goodIn_sub (fun _ h => List.mem_append_left _ (List.mem_append_left _ (List.mem_append_right _ h))) (by decide +kernel))) (goodIn_sub (fun _ h => List.mem_append_left _ (List.mem_append_right _ h)) (by decide +kernel))
set_option maxRecDepth 100000 in
theorem gL_law_L_hours : GoodIn wsL_law (va_wsS RL 107 yL_hours wsL_hours) := goodIn_app (goodIn_of _ (by decide +kernel)) ggL_law_L_hours
set_option maxRecDepth 100000 in
theorem ggL_law_L_refuses : GoodIn wsL_law wsL_refuses := goodIn_ca (goodIn_ca (goodIn_ca (goodIn_c1 (List.mem_of_getElem? (i := 337) rfl) (by decide +kernel) (goodIn_app (goodIn_app (goodIn_app (goodIn_app (goodIn_app (goodIn_app (goodIn_r wsL_refuses_r1 [338, 42, 43, 44, 2, 45, 22, 46, 47, 48, 19, 49, 50, 310, 311, 312, 313, 188, 189, 168, 169, 170, 171, 75] (by decide +kernel) (by decide +kernel)) (goodIn_app (goodIn_r wsL_refuses_r2 [76, 21, 172, 78, 79, 80, 81, 82, 83, 84, 85, 86, 87, 88, 89, 90, 91, 92, 93, 31, 63, 64, 65, 61] (by decide +kernel) (by decide +kernel)) (goodIn_app (goodIn_r wsL_refuses_r3 [62, 246, 247, 248, 179, 249, 195, 217, 218, 219, 220, 167, 221, 222, 223, 224, 14, 225, 226, 227, 228, 205, 204, 198] (by decide +kernel) (by decide +kernel)) (goodIn_app (goodIn_r wsL_refuses_r4 [131, 132, 133, 229, 230, 231, 232, 196, 233, 234, 235, 236, 237, 238, 239, 240, 241, 242, 243, 244, 245, 20, 77, 250] (by decide +kernel) (by decide +kernel)) (goodIn_app (goodIn_r wsL_refuses_r5 [251, 252, 253, 254, 255, 256, 257, 16, 258, 259, 260, 261, 262, 263, 264, 265, 266, 267, 268, 269, 270, 271, 272, 273] (by decide +kernel) (by decide +kernel)) (goodIn_app (goodIn_r wsL_refuses_r6 [274, 275, 276, 277, 278, 279, 280, 322, 323, 324, 325, 326, 327, 328, 329, 184, 185, 186, 187, 190, 191, 192, 193, 194] (by decide +kernel) (by decide +kernel)) (goodIn_app (goodIn_r wsL_refuses_r7 [197, 157, 158, 51, 52, 5, 53, 54, 55, 56, 57, 58, 59, 60, 66, 67, 68, 69, 70, 71, 72, 73, 74, 94] (by decide +kernel) (by decide +kernel)) (goodIn_app (goodIn_r wsL_refuses_r8 [95, 96, 97, 98, 99, 100, 101, 102, 103, 104, 105, 106, 107, 108, 109, 110, 11, 12, 111, 112, 113, 114, 115, 116] (by decide +kernel) (by decide +kernel)) (goodIn_app (goodIn_r wsL_refuses_r9 [117, 118, 119, 120, 121, 122, 123, 124, 125, 126, 127, 128, 129, 30, 130, 134, 135, 136, 137, 138, 139, 140, 141, 142] (by decide +kernel) (by decide +kernel)) (goodIn_app (goodIn_r wsL_refuses_r10 [143, 144, 145, 25, 146, 147, 148, 149, 150, 151, 152, 153, 154, 155, 156, 159, 160, 161, 162, 163, 164, 165, 166, 173] (by decide +kernel) (by decide +kernel)) (goodIn_app (goodIn_r wsL_refuses_r11 [174, 175, 176, 177, 178, 180, 181, 182, 183, 199, 200, 201, 202, 203, 206, 207, 208, 209, 210, 211, 212, 213, 214, 215] (by decide +kernel) (by decide +kernel)) (goodIn_app (goodIn_r wsL_refuses_r12 [216, 281, 282, 283, 284, 285, 286, 287, 288, 289, 290, 291, 292, 293, 294, 295, 296, 297, 298, 299, 300, 301, 302, 303] (by decide +kernel) (by decide +kernel)) (goodIn_app (goodIn_r wsL_refuses_r13 [304, 305, 306, 307, 308, 309, 314, 315, 316, 317, 318, 319, 320, 321, 330, 331, 332, 333, 334, 339, 340, 341, 342, 343] (by decide +kernel) (by decide +kernel)) (goodIn_r wsL_refuses_r14 [344, 345, 346, 347, 348, 349, 350, 351, 352, 353] (by decide +kernel) (by decide +kernel))))))))))))))) (goodIn_r wsX30 [364, 365, 366, 367, 368] (by decide +kernel) (by decide +kernel))) (goodIn_r wsJx4a65c0 [369, 370, 371] (by decide +kernel) (by decide +kernel))) (goodIn_r wsX10 [380, 381, 382, 383, 384] (by decide +kernel) (by decide +kernel))) (goodIn_r wsX20 [379] (by decide +kernel) (by decide +kernel))) (goodIn_r wsX00 [372, 373, 374, 375, 376, 377, 378] (by decide +kernel) (by decide +kernel)))) (goodIn_sub (fun _ h => List.mem_append_left _ (List.mem_append_right _ h)) (by decide +kernel))) (goodIn_sub (fun _ h => List.mem_append_left _ (List.mem_append_left _ (List.mem_append_right _ h))) (by decide +kernel))) (goodIn_sub (fun _ h => List.mem_append_right _ h) (by decide +kernel))
set_option maxRecDepth 100000 in
theorem gL_law_L_refuses : GoodIn wsL_law (va_wsS RL 90 yL_refuses wsL_refuses) := goodIn_app (goodIn_of _ (by decide +kernel)) ggL_law_L_refuses
end
