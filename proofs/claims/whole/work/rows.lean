section
-- ===== PART A: goes FIRST, ahead of the names: the tables' words, and 'selects' of the private methods out of them =====
/-- a private method of a class that the tables say can be made, by its rows of tables_1 -/
def lw_okq (q : MethodName × Nat) : Prop := (q.1.cls ≠ "java/lang/invoke/MethodHandle" ∧ q.1.cls ≠ "java/lang/invoke/VarHandle") ∧ Cond.instantiable q.1.cls q.2 ∈ tables_1 ∧ Cond.privateMethod q.1 ∈ tables_1 ∧ Cond.instanceMethod q.1 ∈ tables_1
theorem lw_p0 : lw_okq (⟨"java/lang/Throwable", "fillInStackTrace", "(I)Ljava/lang/Throwable;"⟩, 6) := ⟨⟨by decide +kernel, by decide +kernel⟩, List.mem_of_getElem? (i := 131) (by decide +kernel), List.mem_of_getElem? (i := 129) (by decide +kernel), List.mem_of_getElem? (i := 130) (by decide +kernel)⟩
theorem lw_p1 : lw_okq (⟨"java/util/ArrayList", "add", "(Ljava/lang/Object;[Ljava/lang/Object;I)V"⟩, 3) := ⟨⟨by decide +kernel, by decide +kernel⟩, List.mem_of_getElem? (i := 33) (by decide +kernel), List.mem_of_getElem? (i := 224) (by decide +kernel), List.mem_of_getElem? (i := 225) (by decide +kernel)⟩
theorem lw_p2 : lw_okq (⟨"java/util/ArrayList", "grow", "()[Ljava/lang/Object;"⟩, 3) := ⟨⟨by decide +kernel, by decide +kernel⟩, List.mem_of_getElem? (i := 33) (by decide +kernel), List.mem_of_getElem? (i := 228) (by decide +kernel), List.mem_of_getElem? (i := 229) (by decide +kernel)⟩
theorem lw_p3 : lw_okq (⟨"java/util/ArrayList", "grow", "(I)[Ljava/lang/Object;"⟩, 3) := ⟨⟨by decide +kernel, by decide +kernel⟩, List.mem_of_getElem? (i := 33) (by decide +kernel), List.mem_of_getElem? (i := 232) (by decide +kernel), List.mem_of_getElem? (i := 233) (by decide +kernel)⟩
theorem lw_p4 : lw_okq (⟨"RosterPay", "findRule", "(I)LRosterPay$Rule;"⟩, 5) := ⟨⟨by decide +kernel, by decide +kernel⟩, List.mem_of_getElem? (i := 22) (by decide +kernel), List.mem_of_getElem? (i := 284) (by decide +kernel), List.mem_of_getElem? (i := 285) (by decide +kernel)⟩
theorem lw_p5 : lw_okq (⟨"RosterPay", "findWorker", "(I)LRosterPay$Worker;"⟩, 5) := ⟨⟨by decide +kernel, by decide +kernel⟩, List.mem_of_getElem? (i := 22) (by decide +kernel), List.mem_of_getElem? (i := 352) (by decide +kernel), List.mem_of_getElem? (i := 353) (by decide +kernel)⟩
theorem lw_p6 : lw_okq (⟨"RosterPay", "overlapsAnother", "(LRosterPay$Worker;II)Z"⟩, 5) := ⟨⟨by decide +kernel, by decide +kernel⟩, List.mem_of_getElem? (i := 22) (by decide +kernel), List.mem_of_getElem? (i := 364) (by decide +kernel), List.mem_of_getElem? (i := 365) (by decide +kernel)⟩
theorem lw_p7 : lw_okq (⟨"RosterPay", "workedBetween", "(LRosterPay$Worker;II)I"⟩, 5) := ⟨⟨by decide +kernel, by decide +kernel⟩, List.mem_of_getElem? (i := 22) (by decide +kernel), List.mem_of_getElem? (i := 368) (by decide +kernel), List.mem_of_getElem? (i := 369) (by decide +kernel)⟩
theorem lw_p8 : lw_okq (⟨"RosterPay", "findShift", "(I)LRosterPay$Shift;"⟩, 5) := ⟨⟨by decide +kernel, by decide +kernel⟩, List.mem_of_getElem? (i := 22) (by decide +kernel), List.mem_of_getElem? (i := 411) (by decide +kernel), List.mem_of_getElem? (i := 412) (by decide +kernel)⟩
theorem lw_p9 : lw_okq (⟨"RosterPay", "payFor", "(LRosterPay$Shift;)I"⟩, 5) := ⟨⟨by decide +kernel, by decide +kernel⟩, List.mem_of_getElem? (i := 22) (by decide +kernel), List.mem_of_getElem? (i := 420) (by decide +kernel), List.mem_of_getElem? (i := 421) (by decide +kernel)⟩
theorem lw_p10 : lw_okq (⟨"RosterPay", "baseOf", "(I)I"⟩, 5) := ⟨⟨by decide +kernel, by decide +kernel⟩, List.mem_of_getElem? (i := 22) (by decide +kernel), List.mem_of_getElem? (i := 424) (by decide +kernel), List.mem_of_getElem? (i := 425) (by decide +kernel)⟩
theorem lw_p11 : lw_okq (⟨"RosterPay$Shift", "breaksOwed", "()I"⟩, 5) := ⟨⟨by decide +kernel, by decide +kernel⟩, List.mem_of_getElem? (i := 379) (by decide +kernel), List.mem_of_getElem? (i := 432) (by decide +kernel), List.mem_of_getElem? (i := 433) (by decide +kernel)⟩
theorem lw_p12 : lw_okq (⟨"RosterPay", "percentOf", "(LRosterPay$Shift;I)I"⟩, 5) := ⟨⟨by decide +kernel, by decide +kernel⟩, List.mem_of_getElem? (i := 22) (by decide +kernel), List.mem_of_getElem? (i := 440) (by decide +kernel), List.mem_of_getElem? (i := 441) (by decide +kernel)⟩
theorem lw_p13 : lw_okq (⟨"RosterPay", "decidingRule", "(LRosterPay$Shift;I)LRosterPay$Rule;"⟩, 5) := ⟨⟨by decide +kernel, by decide +kernel⟩, List.mem_of_getElem? (i := 22) (by decide +kernel), List.mem_of_getElem? (i := 444) (by decide +kernel), List.mem_of_getElem? (i := 445) (by decide +kernel)⟩
theorem lw_p14 : lw_okq (⟨"RosterPay", "isHoliday", "(I)Z"⟩, 5) := ⟨⟨by decide +kernel, by decide +kernel⟩, List.mem_of_getElem? (i := 22) (by decide +kernel), List.mem_of_getElem? (i := 456) (by decide +kernel), List.mem_of_getElem? (i := 457) (by decide +kernel)⟩
theorem lw_p15 : lw_okq (⟨"RosterPay$Rule", "isForDay", "(IZ)Z"⟩, 7) := ⟨⟨by decide +kernel, by decide +kernel⟩, List.mem_of_getElem? (i := 189) (by decide +kernel), List.mem_of_getElem? (i := 470) (by decide +kernel), List.mem_of_getElem? (i := 471) (by decide +kernel)⟩
def lw_privs_1 : List (MethodName × Nat) := [(⟨"java/lang/Throwable", "fillInStackTrace", "(I)Ljava/lang/Throwable;"⟩, 6), (⟨"java/util/ArrayList", "add", "(Ljava/lang/Object;[Ljava/lang/Object;I)V"⟩, 3), (⟨"java/util/ArrayList", "grow", "()[Ljava/lang/Object;"⟩, 3), (⟨"java/util/ArrayList", "grow", "(I)[Ljava/lang/Object;"⟩, 3), (⟨"RosterPay", "findRule", "(I)LRosterPay$Rule;"⟩, 5), (⟨"RosterPay", "findWorker", "(I)LRosterPay$Worker;"⟩, 5), (⟨"RosterPay", "overlapsAnother", "(LRosterPay$Worker;II)Z"⟩, 5), (⟨"RosterPay", "workedBetween", "(LRosterPay$Worker;II)I"⟩, 5), (⟨"RosterPay", "findShift", "(I)LRosterPay$Shift;"⟩, 5), (⟨"RosterPay", "payFor", "(LRosterPay$Shift;)I"⟩, 5), (⟨"RosterPay", "baseOf", "(I)I"⟩, 5), (⟨"RosterPay$Shift", "breaksOwed", "()I"⟩, 5), (⟨"RosterPay", "percentOf", "(LRosterPay$Shift;I)I"⟩, 5), (⟨"RosterPay", "decidingRule", "(LRosterPay$Shift;I)LRosterPay$Rule;"⟩, 5), (⟨"RosterPay", "isHoliday", "(I)Z"⟩, 5), (⟨"RosterPay$Rule", "isForDay", "(IZ)Z"⟩, 7)]
theorem lw_r1 : ∀ q ∈ lw_privs_1, lw_okq q := List.forall_mem_cons.mpr ⟨lw_p0, List.forall_mem_cons.mpr ⟨lw_p1, List.forall_mem_cons.mpr ⟨lw_p2, List.forall_mem_cons.mpr ⟨lw_p3, List.forall_mem_cons.mpr ⟨lw_p4, List.forall_mem_cons.mpr ⟨lw_p5, List.forall_mem_cons.mpr ⟨lw_p6, List.forall_mem_cons.mpr ⟨lw_p7, List.forall_mem_cons.mpr ⟨lw_p8, List.forall_mem_cons.mpr ⟨lw_p9, List.forall_mem_cons.mpr ⟨lw_p10, List.forall_mem_cons.mpr ⟨lw_p11, List.forall_mem_cons.mpr ⟨lw_p12, List.forall_mem_cons.mpr ⟨lw_p13, List.forall_mem_cons.mpr ⟨lw_p14, List.forall_mem_cons.mpr ⟨lw_p15, fun _ h => absurd h List.not_mem_nil⟩⟩⟩⟩⟩⟩⟩⟩⟩⟩⟩⟩⟩⟩⟩⟩
theorem lw_p16 : lw_okq (⟨"RosterPay", "payByRule", "(LRosterPay$Shift;LRosterPay$Rule;)I"⟩, 5) := ⟨⟨by decide +kernel, by decide +kernel⟩, List.mem_of_getElem? (i := 22) (by decide +kernel), List.mem_of_getElem? (i := 537) (by decide +kernel), List.mem_of_getElem? (i := 538) (by decide +kernel)⟩
theorem lw_p17 : lw_okq (⟨"RosterPay", "workedInWeeks", "(LRosterPay$Worker;II)I"⟩, 5) := ⟨⟨by decide +kernel, by decide +kernel⟩, List.mem_of_getElem? (i := 22) (by decide +kernel), List.mem_of_getElem? (i := 548) (by decide +kernel), List.mem_of_getElem? (i := 549) (by decide +kernel)⟩
theorem lw_p18 : lw_okq (⟨"RosterPayModel", "isWorker", "(I)Z"⟩, 18) := ⟨⟨by decide +kernel, by decide +kernel⟩, List.mem_of_getElem? (i := 560) (by decide +kernel), List.mem_of_getElem? (i := 652) (by decide +kernel), List.mem_of_getElem? (i := 653) (by decide +kernel)⟩
theorem lw_p19 : lw_okq (⟨"RosterPayModel", "isShift", "(I)Z"⟩, 18) := ⟨⟨by decide +kernel, by decide +kernel⟩, List.mem_of_getElem? (i := 560) (by decide +kernel), List.mem_of_getElem? (i := 664) (by decide +kernel), List.mem_of_getElem? (i := 665) (by decide +kernel)⟩
theorem lw_p20 : lw_okq (⟨"RosterPayModel", "payed", "(I)I"⟩, 18) := ⟨⟨by decide +kernel, by decide +kernel⟩, List.mem_of_getElem? (i := 560) (by decide +kernel), List.mem_of_getElem? (i := 668) (by decide +kernel), List.mem_of_getElem? (i := 669) (by decide +kernel)⟩
theorem lw_p21 : lw_okq (⟨"RosterPayModel", "lacks", "(I)I"⟩, 18) := ⟨⟨by decide +kernel, by decide +kernel⟩, List.mem_of_getElem? (i := 560) (by decide +kernel), List.mem_of_getElem? (i := 672) (by decide +kernel), List.mem_of_getElem? (i := 673) (by decide +kernel)⟩
theorem lw_p22 : lw_okq (⟨"RosterPayModel", "paid", "(I)I"⟩, 18) := ⟨⟨by decide +kernel, by decide +kernel⟩, List.mem_of_getElem? (i := 560) (by decide +kernel), List.mem_of_getElem? (i := 676) (by decide +kernel), List.mem_of_getElem? (i := 677) (by decide +kernel)⟩
theorem lw_p23 : lw_okq (⟨"RosterPayModel", "amount", "(II)I"⟩, 18) := ⟨⟨by decide +kernel, by decide +kernel⟩, List.mem_of_getElem? (i := 560) (by decide +kernel), List.mem_of_getElem? (i := 680) (by decide +kernel), List.mem_of_getElem? (i := 681) (by decide +kernel)⟩
theorem lw_p24 : lw_okq (⟨"RosterPayModel", "percented", "(II)I"⟩, 18) := ⟨⟨by decide +kernel, by decide +kernel⟩, List.mem_of_getElem? (i := 560) (by decide +kernel), List.mem_of_getElem? (i := 684) (by decide +kernel), List.mem_of_getElem? (i := 685) (by decide +kernel)⟩
theorem lw_p25 : lw_okq (⟨"RosterPayModel", "applies", "(III)Z"⟩, 18) := ⟨⟨by decide +kernel, by decide +kernel⟩, List.mem_of_getElem? (i := 560) (by decide +kernel), List.mem_of_getElem? (i := 691) (by decide +kernel), List.mem_of_getElem? (i := 692) (by decide +kernel)⟩
theorem lw_p26 : lw_okq (⟨"RosterPayModel", "isQuarter", "(II)Z"⟩, 18) := ⟨⟨by decide +kernel, by decide +kernel⟩, List.mem_of_getElem? (i := 560) (by decide +kernel), List.mem_of_getElem? (i := 711) (by decide +kernel), List.mem_of_getElem? (i := 712) (by decide +kernel)⟩
theorem lw_p27 : lw_okq (⟨"RosterPayModel", "reasoned", "(II)I"⟩, 18) := ⟨⟨by decide +kernel, by decide +kernel⟩, List.mem_of_getElem? (i := 560) (by decide +kernel), List.mem_of_getElem? (i := 719) (by decide +kernel), List.mem_of_getElem? (i := 720) (by decide +kernel)⟩
theorem lw_p28 : lw_okq (⟨"RosterPayModel", "hours", "(III)I"⟩, 18) := ⟨⟨by decide +kernel, by decide +kernel⟩, List.mem_of_getElem? (i := 560) (by decide +kernel), List.mem_of_getElem? (i := 743) (by decide +kernel), List.mem_of_getElem? (i := 744) (by decide +kernel)⟩
def lw_privs_2 : List (MethodName × Nat) := [(⟨"RosterPay", "payByRule", "(LRosterPay$Shift;LRosterPay$Rule;)I"⟩, 5), (⟨"RosterPay", "workedInWeeks", "(LRosterPay$Worker;II)I"⟩, 5), (⟨"RosterPayModel", "isWorker", "(I)Z"⟩, 18), (⟨"RosterPayModel", "isShift", "(I)Z"⟩, 18), (⟨"RosterPayModel", "payed", "(I)I"⟩, 18), (⟨"RosterPayModel", "lacks", "(I)I"⟩, 18), (⟨"RosterPayModel", "paid", "(I)I"⟩, 18), (⟨"RosterPayModel", "amount", "(II)I"⟩, 18), (⟨"RosterPayModel", "percented", "(II)I"⟩, 18), (⟨"RosterPayModel", "applies", "(III)Z"⟩, 18), (⟨"RosterPayModel", "isQuarter", "(II)Z"⟩, 18), (⟨"RosterPayModel", "reasoned", "(II)I"⟩, 18), (⟨"RosterPayModel", "hours", "(III)I"⟩, 18)]
theorem lw_r2 : ∀ q ∈ lw_privs_2, lw_okq q := List.forall_mem_cons.mpr ⟨lw_p16, List.forall_mem_cons.mpr ⟨lw_p17, List.forall_mem_cons.mpr ⟨lw_p18, List.forall_mem_cons.mpr ⟨lw_p19, List.forall_mem_cons.mpr ⟨lw_p20, List.forall_mem_cons.mpr ⟨lw_p21, List.forall_mem_cons.mpr ⟨lw_p22, List.forall_mem_cons.mpr ⟨lw_p23, List.forall_mem_cons.mpr ⟨lw_p24, List.forall_mem_cons.mpr ⟨lw_p25, List.forall_mem_cons.mpr ⟨lw_p26, List.forall_mem_cons.mpr ⟨lw_p27, List.forall_mem_cons.mpr ⟨lw_p28, fun _ h => absurd h List.not_mem_nil⟩⟩⟩⟩⟩⟩⟩⟩⟩⟩⟩⟩⟩
def lw_privs : List (MethodName × Nat) := lw_privs_1 ++ (lw_privs_2)
def lw_tbl : List Cond := k2_sels lw_privs ++ tables_1
theorem lw_privs_ok : ∀ q ∈ lw_privs, lw_okq q := by
  show ∀ q ∈ lw_privs_1 ++ (lw_privs_2), lw_okq q
  exact List.forall_mem_append.mpr ⟨lw_r1, lw_r2⟩
-- ===== end of PART A; then your names; then what follows =====
end
section
/-! ===== BEGIN words of one list among another's, by their places ===== -/
theorem goodIn_r {big : List Cond} (ws : List Cond) (ps : List Nat) (hp : ws = ps.filterMap (fun i => big[i]?)) (h : ws.all goodWord = true) : GoodIn big ws := by
  intro w hw
  have h1 := List.all_eq_true.mp h w hw
  rw [hp] at hw
  obtain ⟨i, -, hi⟩ := List.mem_filterMap.mp hw
  have hm : w ∈ big := by first | exact List.mem_of_getElem? hi | exact List.getElem?_mem hi
  exact ⟨hm, good_of_word h1⟩
theorem goodIn_app {big a b : List Cond} (ha : GoodIn big a) (hb : GoodIn big b) : GoodIn big (a ++ b) := fun w h => (List.mem_append.mp h).elim (ha w) (hb w)
theorem goodIn_ca {big a b : List Cond} {c : Cond} (ha : GoodIn big (c :: a)) (hb : GoodIn big b) : GoodIn big (c :: (a ++ b)) := fun w h => (List.mem_cons.mp h).elim (fun e => ha w (List.mem_cons.mpr (Or.inl e))) (fun h => (List.mem_append.mp h).elim (fun h => ha w (List.mem_cons.mpr (Or.inr h))) (hb w))
theorem goodIn_sub {big ws : List Cond} (hm : ∀ w ∈ ws, w ∈ big) (h : ws.all goodWord = true) : GoodIn big ws := fun w hw => ⟨hm w hw, good_of_word (List.all_eq_true.mp h w hw)⟩
/-! ===== END ===== -/

/-! ===== BEGIN exceptions that leave a method, and their catching by the caller (launches without stack traces) ===== -/
section VXA
/-! The laws vx_back, vx_callV, vx_callS, vx_callSW, vx_throw0, vx_throwS follow proofs of the library, with one case more: JvmDerived/Free/Laws.lean (Back.of_free), Shelf42/LK1.lean (callV, callS), Shelf/KitTraced.lean (throwNew0V, throwNewS). -/
/-- where a method has thrown q: the class by its name, the cell, what was written, the world -/
def vx_T (XC : String → State → State → Prop) (st : State) (q : Addr) (t : State) (mc ms : Nat) (free : Addr → Prop) : Prop :=
  ∃ (E : String) (ce : Cell) (L : List Loc), XC E st t ∧ t.heap[q]? = some ce ∧ ce.vm = .none ∧ st.vm.findClass E = some ce.cls ∧ st.WarmedH t.vm ∧ st.sameButNew ({ t with vm := st.vm } : State) L mc ms ∧ ∀ z ∈ L, free z.base
def vx_Q (Qc : Array Value → State → Outcome → State → Prop) (XC : String → State → State → Prop) (mc ms : Nat) (free : Addr → Prop) : Array Value → State → Outcome → State → Prop := fun a st o t =>
  (Qc a st o t ∧ ∃ L, FrameEnd st o t L mc ms ∧ ∀ q ∈ L, free q.base) ∨ ∃ q, o = .threw q ∧ vx_T XC st q t mc ms free
/-- a callee that returns or throws -/
def vx_Met (l : Launch) (y : MethodName) (ws : List Cond) (rm : Room) (Pc : Array Value → State → Prop) (Qc : Array Value → State → Outcome → State → Prop) (XC : String → State → State → Prop) (mc ms : Nat) (free : Addr → Prop) : Prop :=
  MetFree l y (headSpec ws rm) Pc (fun _ _ _ _ _ => True) (vx_Q Qc XC mc ms free)
def vx_Post (XC : String → State → State → Prop) (mc ms : Nat) (free : Addr → Prop) : Pt → Array Value → Addr → Pt → Prop := fun A a q B =>
  ∃ (g : JFrame) (mk : MethodId) (t : State) (L : List Loc) (E : String) (ce : Cell), B.U.heap = t.heap ∧ B.U.vm = t.vm ∧ XC E (A.U.calling g mk a) t ∧ t.heap[q]? = some ce ∧ ce.vm = .none ∧ A.U.vm.findClass E = some ce.cls ∧ B.locs = A.locs ++ L ∧ (∀ z ∈ L, free z.base) ∧ B.cells = A.cells + mc ∧ B.slots = A.slots + ms
def vx_Back (l : Launch) (R : Room) (p : Program) (e : Env) (below : List Frame) (s : State) (sargs : Array Value) (y : MethodName) (len W9 : Nat)
    (Pre : Pt → Array Value → Prop) (Post : Pt → Array Value → Option Value → Pt → Prop) (PostX : Pt → Array Value → Addr → Pt → Prop) : Prop :=
  ∀ (m : MethodId) (meth : Method) (c : Code) (A : Pt) (g : JFrame) (ig : Instr) (mk : MethodId) (a : Array Value),
    Stand p l e R s m sargs below meth c A.U A.locs A.cells A.slots → g.method = m → g.locals.size = c.maxLocals → decode c.code g.pc = .ok (ig, len) →
    2 * g.monitorRoom + (g.stack.map fun v => v.category).sum ≤ W9 → A.U.methodNamed? y = some mk → Pre A a →
    (∃ (v : Option Value) (B : Pt), Stand p l e R s m sargs below meth c B.U B.locs B.cells B.slots ∧ Post A a v B ∧
      Steps p.tables e below (doInvoke e (A.U.setTop g) [] mk a).1 (B.U.setTop { g with pc := g.pc + len, stack := v.toList ++ g.stack })) ∨
    (∃ (q : Addr) (B : Pt), Stand p l e R s m sargs below meth c B.U B.locs B.cells B.slots ∧ PostX A a q B ∧
      Steps p.tables e below (doInvoke e (A.U.setTop g) [] mk a).1 ((B.U.setTop g).pushFrame (.throwing q)))
section Payer
variable {l : Launch} {R : Room} {p : Program} {e : Env} {below : List Frame} {s : State} {sargs : Array Value} {y : MethodName} {len W9 : Nat}
theorem vx_back {ws : List Cond} {rm : Room} {Pc : Array Value → State → Prop} {Qc : Array Value → State → Outcome → State → Prop} {XC : String → State → State → Prop} {mc ms : Nat} {free : Addr → Prop} {bytes : ByteArray} {maxL : Nat} {ret : Option FieldType}
    (hM : vx_Met l y ws rm Pc Qc XC mc ms free) (hblind : FrameBlind Pc) (hrc : rm.cells = mc) (hrs : rm.slots = ms)
    (hframes : rm.frames + 1 ≤ R.frames) (hlocals : W9 + (maxL + 11) + rm.locals ≤ R.locals)
    (hws : ∀ w ∈ ws, ∀ a' U, s.WarmedH U.vm → w.before a' U = true) (hcode : Cond.code y bytes maxL ret ∈ ws) (hinit : ∀ a' U, s.WarmedH U.vm → (Cond.initialized y.cls).before a' U = true) :
    vx_Back l R p e below s sargs y len W9 (PreOf R mc ms Pc) (PostOf Qc mc ms free) (vx_Post XC mc ms free) := by
  intro m meth c A g ig mk a X hg hsize hdg hW hn hp
  have h1 : (headSpec ws rm).pre.before a A.U = true := atoms_intro fun w hw => hws w hw _ _ X.warmed
  have h2 : (Cond.code y bytes maxL ret).before a A.U = true := hws _ hcode _ _ X.warmed
  have h3 : (Cond.initialized y.cls).before a A.U = true := hinit _ _ X.warmed
  have h4 : A.cells + (headSpec ws rm).room.cells ≤ R.cells := by rw [show (headSpec ws rm).room.cells = mc from hrc]; exact hp.1
  have h5 : A.slots + (headSpec ws rm).room.slots ≤ R.slots := by rw [show (headSpec ws rm).room.slots = ms from hrs]; exact hp.2.1
  have hPc : Pc a (A.U.calling g mk a) := hblind _ _ _ _ hp.2.2
  obtain ⟨U, Ls, c0, s0⟩ := A
  dsimp only [Pt.U, Pt.locs, Pt.cells, Pt.slots] at h1 h2 h3 h4 h5 X hn hPc ⊢
  obtain ⟨methY, cY, hmY, hcY, -, hlY, -, -, -, -⟩ := Cond.code_spec hn h2
  obtain ⟨kY, hkY, -⟩ := className_of_methodNamed hn
  have hinitY : kY.init = .initialized := Cond.initialized_spec (findClass_of_methodNamed hn) hkY h3
  have h : At U g.method c below := by rw [hg]; exact X.here
  have hlocals9 : W9 + (maxL + 11) + (headSpec ws rm).room.locals ≤ R.locals := hlocals
  have happ : (headSpec ws rm).appliesLoose y e.platform (U.calling g mk a) = true :=
    Spec.appliesLoose_calling (g := g) h hdg hn hkY hinitY
      (X.room_calling (g := g) (R' := (headSpec ws rm).room) hsize hmY hcY hframes (by rw [hlY]; omega) h4 h5) h1
  obtain ⟨mid, hmid⟩ := h.above
  have hfr : (U.setTop g).frames = (.java g :: mid) ++ below := by rw [State.frames_setTop' g h.top, hmid]; rfl
  obtain ⟨o, s₂, hsteps, -, hend, hq⟩ := Steps.callFree hM p X.admits X.cas X.clock (acts := []) hfr happ hPc trivial
  have hq' : vx_Q Qc XC mc ms free a (U.calling g mk a) o s₂ := hq
  rw [State.frames_setTop' g h.top] at hend
  obtain ⟨g₀, hg0⟩ := Option.isSome_iff_exists.mp h.top
  obtain ⟨r, hr⟩ := State.topJava?_eq_some.mp hg0
  have hr' : (({ U with heap := s₂.heap, slotsUsed := s₂.slotsUsed } : State).setVm s₂.vm).frames = .java g₀ :: r := hr
  rcases hq' with ⟨hqc, L, hfe, hL⟩ | ⟨q, rfl, E, ce, L, hx, hce, hcv, hcl, hW₂, hsm, hL⟩
  · obtain ⟨⟨v, rfl⟩, hW₂, e2, q2, q3, q4, q5, q6⟩ := id hfe
    have e3 : s₂ = ({ (U.calling g mk a).setFrames s₂.frames with heap := s₂.heap, slotsUsed := s₂.slotsUsed } : State).setVm s₂.vm := by
      have : s₂ = ({ s₂ with vm := (U.calling g mk a).vm } : State).setVm s₂.vm := rfl
      rw [e2] at this
      exact this
    obtain ⟨c₂, i₂, len₂, hc₂, hd₂, hf₂⟩ := hend
    have hW' : U.WarmedH s₂.vm := hW₂
    have hcc : c₂ = c := by
      have h1 : s₂.code? g.method = U.code? g.method := by
        rw [State.code?_eq, State.code?_eq, hW'.alike.method?]
      exact Option.some.inj (hc₂.symm.trans (h1.trans h.code))
    subst hcc
    have hlen : len₂ = len := by rw [hdg] at hd₂; cases hd₂; rfl
    subst hlen
    have hs₂ : s₂ = (({ U with heap := s₂.heap, slotsUsed := s₂.slotsUsed } : State).setVm s₂.vm).setTop { g with pc := g.pc + len₂, stack := v.toList ++ g.stack } := by
      refine e3.trans ?_
      rw [hf₂, State.calling_eq h.top, State.setFrames_setFrames, State.setTop_of_frames _ hr', hr]
      rfl
    have hsame : U.sameButNew ({ U with heap := s₂.heap, slotsUsed := s₂.slotsUsed } : State) L mc ms := by
      refine ⟨?_, q2, q3, q4, q5, q6⟩
      obtain ⟨t, ht, -⟩ := State.frames_cons hr
      show ({ U with heap := s₂.heap, slotsUsed := s₂.slotsUsed } : State) = { U.setFrames U.frames with heap := s₂.heap, slotsUsed := s₂.slotsUsed }
      rw [State.setFrames_self ht]
    subst hg
    refine Or.inl ⟨v, ⟨(({ U with heap := s₂.heap, slotsUsed := s₂.slotsUsed } : State).setVm s₂.vm), Ls ++ L, c0 + mc, s0 + ms⟩,
      ⟨X.admits, X.cas, X.clock, X.frames, X.room, X.hears, X.method, X.code, (X.here.setHeapUsed s₂.heap s₂.slotsUsed).setVm hW'.alike, X.tail, State.WarmedH.trans X.warmed hW', X.limits, X.bytes, X.same.trans (hsame.setVm s.vm)⟩,
      ⟨g, mk, s₂, L, rfl, rfl, hqc, rfl, hL, rfl, rfl⟩, ?_⟩
    show Steps p.tables e below _ ((({ U with heap := s₂.heap, slotsUsed := s₂.slotsUsed } : State).setVm s₂.vm).setTop { g with pc := g.pc + len₂, stack := v.toList ++ g.stack })
    rw [← hs₂]
    exact hsteps
  · obtain ⟨e2, q2, q3, q4, q5, q6⟩ := id hsm
    have e3 : s₂ = ({ (U.calling g mk a).setFrames s₂.frames with heap := s₂.heap, slotsUsed := s₂.slotsUsed } : State).setVm s₂.vm := by
      have : s₂ = ({ s₂ with vm := (U.calling g mk a).vm } : State).setVm s₂.vm := rfl
      rw [e2] at this
      exact this
    have hf₂ : s₂.frames = .throwing q :: .java g :: U.frames.tail := hend
    have hW' : U.WarmedH s₂.vm := hW₂
    have hs₂ : s₂ = ((({ U with heap := s₂.heap, slotsUsed := s₂.slotsUsed } : State).setVm s₂.vm).setTop g).pushFrame (.throwing q) := by
      refine e3.trans ?_
      rw [hf₂, State.calling_eq h.top, State.setFrames_setFrames, State.pushFrame, State.frames_setTop _ hr', State.setTop_of_frames _ hr', State.setFrames_setFrames, hr]
      rfl
    have hsame : U.sameButNew ({ U with heap := s₂.heap, slotsUsed := s₂.slotsUsed } : State) L mc ms := by
      refine ⟨?_, q2, q3, q4, q5, q6⟩
      obtain ⟨t, ht, -⟩ := State.frames_cons hr
      show ({ U with heap := s₂.heap, slotsUsed := s₂.slotsUsed } : State) = { U.setFrames U.frames with heap := s₂.heap, slotsUsed := s₂.slotsUsed }
      rw [State.setFrames_self ht]
    subst hg
    refine Or.inr ⟨q, ⟨(({ U with heap := s₂.heap, slotsUsed := s₂.slotsUsed } : State).setVm s₂.vm), Ls ++ L, c0 + mc, s0 + ms⟩,
      ⟨X.admits, X.cas, X.clock, X.frames, X.room, X.hears, X.method, X.code, (X.here.setHeapUsed s₂.heap s₂.slotsUsed).setVm hW'.alike, X.tail, State.WarmedH.trans X.warmed hW', X.limits, X.bytes, X.same.trans (hsame.setVm s.vm)⟩,
      ⟨g, mk, s₂, L, E, ce, rfl, rfl, hx, hce, hcv, hcl, rfl, hL, rfl, rfl⟩, ?_⟩
    show Steps p.tables e below _ (((({ U with heap := s₂.heap, slotsUsed := s₂.slotsUsed } : State).setVm s₂.vm).setTop g).pushFrame (.throwing q))
    rw [← hs₂]
    exact hsteps
end Payer
section Calls
variable {p : Program} {l : Launch} {e : Env} {R : Room} {s : State} {m : MethodId} {args : Array Value} {below : List Frame} {meth : Method} {c : Code} {T : State} {locs : List Loc} {cells slots : Nat}
theorem vx_callV (X : Stand p l e R s m args below meth c T locs cells slots) (hexec : p.tables.exec = Jvm.exec) {own C : String} {index : Nat} {y : MethodName} {bytes : ByteArray} {maxL : Nat} {ret : Option FieldType}
    (hown : s.vm.findClass own = some m.cls) (hlink : (Cond.methodLink own index y).before args s = true) (hinst : (Cond.instanceMethod y).before args s = true) (hsel : (Cond.selects C y y).before args s = true)
    (hcode : (Cond.code y bytes maxL ret).before args s = true) (hy : y.cls ≠ "java/lang/invoke/MethodHandle" ∧ y.cls ≠ "java/lang/invoke/VarHandle")
    {W9 : Nat} {Pre : Pt → Array Value → Prop} {Post : Pt → Array Value → Option Value → Pt → Prop} {PostX : Pt → Array Value → Addr → Pt → Prop} (hK : vx_Back l R p e below s args y 3 W9 Pre Post PostX)
    {b : Addr} {cellB : Cell} (hcell : T.heap[b]? = some cellB) (hobj : cellB.vm.isStatics = false) (hcls : s.vm.findClass C = some cellB.cls)
    {g : JFrame} (hg : g.method = m) (hsize : g.locals.size = c.maxLocals) {argsL rest : List Value} (hlen : ∀ sig, parseMethodDescriptor y.desc = some sig → argsL.length = sig.parameters.length)
    (hstack : g.stack = argsL.reverse ++ .ref b :: rest) (hW : 2 * g.monitorRoom + (rest.map fun v => v.category).sum ≤ W9) (hdg : decode c.code g.pc = .ok (.invokevirtual index, 3))
    (hpre : ∀ vm₁, s.WarmedH vm₁ → Pre ⟨T.setVm vm₁, locs, cells, slots⟩ (Value.ref b :: argsL).toArray) :
    (∃ (v : Option Value) (vm₁ : Vm) (B : Pt), s.WarmedH vm₁ ∧ Stand p l e R s m args below meth c B.U B.locs B.cells B.slots ∧ Post ⟨T.setVm vm₁, locs, cells, slots⟩ (Value.ref b :: argsL).toArray v B ∧
      ∀ target, Steps p.tables e below (B.U.setTop { g with pc := g.pc + 3, stack := v.toList ++ rest }) target → Steps p.tables e below (T.setTop g) target) ∨
    (∃ (q : Addr) (vm₁ : Vm) (B : Pt), s.WarmedH vm₁ ∧ Stand p l e R s m args below meth c B.U B.locs B.cells B.slots ∧ PostX ⟨T.setVm vm₁, locs, cells, slots⟩ (Value.ref b :: argsL).toArray q B ∧
      Steps p.tables e below (T.setTop g) ((B.U.setTop { g with stack := rest }).pushFrame (.throwing q))) := by
  obtain ⟨mk, methM, hnamed, hmethM, hstM, habM⟩ := Cond.instanceMethod_spec hinst
  obtain ⟨methM', cM, hmethM', -, -, -, -, -, -, hsigM⟩ := Cond.code_spec hnamed hcode
  cases hmethM.symm.trans hmethM'
  obtain ⟨c2, r2, m2, q1, q2, q3, q4, kP, hkP, hkPi⟩ := Cond.selects_spec hsel
  cases hcls.symm.trans q1
  cases (State.methodFound?_of_named hnamed hy).symm.trans q2
  cases hnamed.symm.trans q3
  have hselP : selectMethod e.platform s.vm cellB.cls mk = .method mk := by rw [Launch.admits_selectMethod X.admits]; exact q4
  obtain ⟨vm₁, X₁, hstep₁⟩ := X.invokevirtual hexec hown hlink hnamed hmethM hstM hkP hkPi hy (a := b) (cell := cellB) hcell
    (fun z h => by rw [h] at hobj; cases hobj) hselP hmethM habM hkP hkPi (g := g) hg (argsL := argsL) (rest := rest) (hlen _ hsigM) hstack hdg
  rcases hK m meth c ⟨T.setVm vm₁, locs, cells, slots⟩ { g with stack := rest } (.invokevirtual index) mk (Value.ref b :: argsL).toArray X₁ hg hsize hdg hW (X₁.named hnamed) (hpre vm₁ X₁.warmed) with ⟨v, B, X', hpost, hsteps⟩ | ⟨q, B, X', hpost, hsteps⟩
  · exact Or.inl ⟨v, vm₁, B, X₁.warmed, X', hpost, fun target h => hstep₁ _ fun acts => by rw [doInvoke_state]; exact hsteps.trans h⟩
  · exact Or.inr ⟨q, vm₁, B, X₁.warmed, X', hpost, hstep₁ _ fun acts => by rw [doInvoke_state]; exact hsteps⟩
theorem vx_callS (X : Stand p l e R s m args below meth c T locs cells slots) (hexec : p.tables.exec = Jvm.exec) {own : String} {index : Nat} {y : MethodName} {bytes : ByteArray} {maxL : Nat} {ret : Option FieldType}
    (hown : s.vm.findClass own = some m.cls) (hlink : (Cond.methodLink own index y).before args s = true) (hstat : (Cond.static y).before args s = true) (hinit : (Cond.initialized y.cls).before args s = true)
    (hcode : (Cond.code y bytes maxL ret).before args s = true) (hy : y.cls ≠ "java/lang/invoke/MethodHandle" ∧ y.cls ≠ "java/lang/invoke/VarHandle")
    {W9 : Nat} {Pre : Pt → Array Value → Prop} {Post : Pt → Array Value → Option Value → Pt → Prop} {PostX : Pt → Array Value → Addr → Pt → Prop} (hK : vx_Back l R p e below s args y 3 W9 Pre Post PostX)
    {g : JFrame} (hg : g.method = m) (hsize : g.locals.size = c.maxLocals) {argsL rest : List Value} (hlen : ∀ sig, parseMethodDescriptor y.desc = some sig → argsL.length = sig.parameters.length)
    (hstack : g.stack = argsL.reverse ++ rest) (hW : 2 * g.monitorRoom + (rest.map fun v => v.category).sum ≤ W9) (hdg : decode c.code g.pc = .ok (.invokestatic index, 3))
    (hpre : ∀ vm₁, s.WarmedH vm₁ → Pre ⟨T.setVm vm₁, locs, cells, slots⟩ argsL.toArray) :
    (∃ (v : Option Value) (vm₁ : Vm) (B : Pt), s.WarmedH vm₁ ∧ Stand p l e R s m args below meth c B.U B.locs B.cells B.slots ∧ Post ⟨T.setVm vm₁, locs, cells, slots⟩ argsL.toArray v B ∧
      ∀ target, Steps p.tables e below (B.U.setTop { g with pc := g.pc + 3, stack := v.toList ++ rest }) target → Steps p.tables e below (T.setTop g) target) ∨
    (∃ (q : Addr) (vm₁ : Vm) (B : Pt), s.WarmedH vm₁ ∧ Stand p l e R s m args below meth c B.U B.locs B.cells B.slots ∧ PostX ⟨T.setVm vm₁, locs, cells, slots⟩ argsL.toArray q B ∧
      Steps p.tables e below (T.setTop g) ((B.U.setTop { g with stack := rest }).pushFrame (.throwing q))) := by
  obtain ⟨mk, hnamed⟩ := Cond.code_named hcode
  obtain ⟨methM, cM, hmethM, -, -, -, -, -, -, hsigM⟩ := Cond.code_spec hnamed hcode
  have hstatic : methM.isStatic = true := Cond.static_spec hnamed hmethM hstat
  obtain ⟨kP, hkP, -⟩ := className_of_methodNamed hnamed
  have hinitP : kP.init = .initialized := Cond.initialized_spec (findClass_of_methodNamed hnamed) hkP hinit
  obtain ⟨vm₁, X₁, hstep₁⟩ := X.invokestatic hexec hown hlink hnamed hmethM hstatic hkP hinitP hy (g := g) hg (argsL := argsL) (rest := rest) (hlen _ hsigM) hstack hdg
  rcases hK m meth c ⟨T.setVm vm₁, locs, cells, slots⟩ { g with stack := rest } (.invokestatic index) mk argsL.toArray X₁ hg hsize hdg hW (X₁.named hnamed) (hpre vm₁ X₁.warmed) with ⟨v, B, X', hpost, hsteps⟩ | ⟨q, B, X', hpost, hsteps⟩
  · exact Or.inl ⟨v, vm₁, B, X₁.warmed, X', hpost, fun target h => hstep₁ _ fun acts => by rw [doInvoke_state]; exact hsteps.trans h⟩
  · exact Or.inr ⟨q, vm₁, B, X₁.warmed, X', hpost, hstep₁ _ fun acts => by rw [doInvoke_state]; exact hsteps⟩
end Calls
theorem vx_cls {s : State} {T : State} {vm₁ : Vm} {E : String} {k : ClassId} (hW : s.WarmedH vm₁) (h : (T.setVm vm₁).vm.findClass E = some k) : s.vm.findClass E = some k := by
  have h1 : vm₁.findClass E = some k := h
  rw [hW.alike.findClass] at h1
  exact h1
/-- the method's frame g, with q thrown over it -/
def vx_W (p : Program) (l : Launch) (e : Env) (R : Room) (s : State) (m : MethodId) (args : Array Value) (below : List Frame) (meth : Method) (c : Code) (H : Heap) (locs : List Loc) (cells slots : Nat) (Q : State → Prop) (g : JFrame) (q : Addr) : Prop :=
  ∀ T : State, T.heap = H → Stand p l e R s m args below meth c T locs cells slots → ∃ t, Steps p.tables e below ((T.setTop g).pushFrame (.throwing q)) t ∧ Q t
def vx_Run (p : Program) (l : Launch) (e : Env) (R : Room) (s : State) (m : MethodId) (args : Array Value) (below : List Frame) (meth : Method) (c : Code) (H : Heap) (locs : List Loc) (cells slots mc ms : Nat) (g : JFrame) (rest : List Value) (Qa : State → Outcome → State → Prop) (XC : String → State → State → Prop) (free : Addr → Prop) : Prop :=
  ∀ T : State, T.heap = H → Stand p l e R s m args below meth c T locs cells slots →
    (∃ (v : Option Value) (st₀ t T' : State) (L : List Loc), st₀.heap = H ∧ Stand p l e R s m args below meth c T' (locs ++ L) (cells + mc) (slots + ms) ∧ (∀ q ∈ L, free q.base) ∧ T'.heap = t.heap ∧ T'.vm = t.vm ∧ Qa st₀ (.returned v) t ∧
      Goes p e below T g T' { g with pc := g.pc + 3, stack := v.toList ++ rest }) ∨
    (∃ (q : Addr) (st₀ t T' : State) (L : List Loc) (E : String) (ce : Cell), st₀.heap = H ∧ Stand p l e R s m args below meth c T' (locs ++ L) (cells + mc) (slots + ms) ∧ (∀ z ∈ L, free z.base) ∧ T'.heap = t.heap ∧ T'.vm = t.vm ∧ XC E st₀ t ∧ t.heap[q]? = some ce ∧ ce.vm = .none ∧ s.vm.findClass E = some ce.cls ∧
      Steps p.tables e below (T.setTop g) ((T'.setTop { g with stack := rest }).pushFrame (.throwing q)))
def vx_X {S : Type} (px : S → Prop) (B : String → S → State → Prop) (A : Nat → Prop) : String → State → State → Prop := fun E st t => ∃ u : S, px u ∧ B E u t ∧ va_F A st t
section Runs
variable {p : Program} {l : Launch} {e : Env} {R : Room} {s : State} {m : MethodId} {args : Array Value} {below : List Frame} {meth : Method} {c : Code} {H : Heap} {locs : List Loc} {cells slots : Nat}
variable {y : MethodName} {bytes cc : ByteArray} {maxL nL mc ms n index : Nat} {ret : Option FieldType} {ws : List Cond} {rm : Room} {Pc : Array Value → State → Prop} {Qc : Array Value → State → Outcome → State → Prop} {XC : String → State → State → Prop} {free : Addr → Prop} {Ts : List Cond} {own C : String} {b : Addr} {As rest : List Value} {g : JFrame}
theorem vx_callBack (cb : CallB R s args own index y bytes maxL ret ws rm mc ms n) (hM : vx_Met l y ws rm Pc Qc XC mc ms free) (hbl : FrameBlind Pc) : vx_Back l R p e below s args y 3 8 (PreOf R mc ms Pc) (PostOf Qc mc ms free) (vx_Post XC mc ms free) := by
  obtain ⟨hrc, hrs, hfr, hlo, hws, hcw, -, hini, -⟩ := cb
  exact vx_back (bytes := bytes) (maxL := maxL) (ret := ret) hM hbl hrc hrs hfr hlo hws hcw (fun a' U hW => word_at hW (Or.inl (by first | rfl | simp [Cond.onTables, Cond.keeps, Cond.steady])) hini)
theorem vx_runV (S : CallFix p m c cc nL s args Ts own) (hM : vx_Met l y ws rm Pc Qc XC mc ms free) (cw : CallW R s args own C index y bytes maxL ret ws rm mc ms n) (hp : PreV s H C b Pc As)
    (hg : g.method = m) (hn : As.length = n) (hsize : g.locals.size = nL) (hstack : g.stack = As.reverse ++ .ref b :: rest) (hW : 2 * g.monitorRoom + (rest.map fun v => v.category).sum ≤ 8) (hdg : decode cc g.pc = .ok (.invokevirtual index, 3)) (hf : cells + mc ≤ R.cells ∧ slots + ms ≤ R.slots) :
    vx_Run p l e R s m args below meth c H locs cells slots mc ms g rest (Qc (Value.ref b :: As).toArray) XC free := by
  have hK : vx_Back l R p e below s args y 3 8 (PreOf R mc ms Pc) (PostOf Qc mc ms free) (vx_Post XC mc ms free) := vx_callBack cw.1 hM hp.1
  obtain ⟨⟨-, -, -, -, -, -, hcode, -, hy, hlen, hl⟩, hin, hse⟩ := cw
  obtain ⟨hx, hb, hml, ho, -⟩ := S
  obtain ⟨-, ⟨cellB, hcB, hoB, hclB⟩, hPc⟩ := hp
  intro T hT X
  rcases vx_callV X hx (C := C) (bytes := bytes) (maxL := maxL) (ret := ret) ho hl hin hse hcode hy hK (by rw [hT]; exact hcB) hoB hclB hg (hsize.trans hml.symm) (argsL := As) (rest := rest) (fun sig h => hn.trans (hlen sig h)) hstack hW (by rw [hb]; exact hdg)
    (fun vm₁ hW₁ => ⟨hf.1, hf.2, hPc (T.setVm vm₁) hT hW₁⟩) with ⟨v, vm₁, ⟨U', l2, c2, s2⟩, hW₁, X', ⟨g', mk, t, L, e1, e2, hq, h1, hL, h2, h3⟩, st⟩ | ⟨q, vm₁, ⟨U', l2, c2, s2⟩, hW₁, X', ⟨g', mk, t, L, E, ce, e1, e2, hq, hce, hcv, hcl, h1, hL, h2, h3⟩, st⟩
  · dsimp only [Pt.U, Pt.locs, Pt.cells, Pt.slots] at X' e1 e2 h1 h2 h3 st
    subst h1; subst h2; subst h3
    exact Or.inl ⟨v, (T.setVm vm₁).calling g' mk (Value.ref b :: As).toArray, t, U', L, hT, X', hL, e1, e2, hq, st⟩
  · dsimp only [Pt.U, Pt.locs, Pt.cells, Pt.slots] at X' e1 e2 h1 h2 h3 st hcl
    subst h1; subst h2; subst h3
    exact Or.inr ⟨q, (T.setVm vm₁).calling g' mk (Value.ref b :: As).toArray, t, U', L, E, ce, hT, X', hL, e1, e2, hq, hce, hcv, vx_cls hW₁ hcl, st⟩
theorem vx_runS (S : CallFix p m c cc nL s args Ts own) (hM : vx_Met l y ws rm Pc Qc XC mc ms free) (cw : CallB R s args own index y bytes maxL ret ws rm mc ms n ∧ (Cond.static y).before args s = true) (hp : PreS s H Pc As)
    (hg : g.method = m) (hn : As.length = n) (hsize : g.locals.size = nL) (hstack : g.stack = As.reverse ++ rest) (hW : 2 * g.monitorRoom + (rest.map fun v => v.category).sum ≤ 8) (hdg : decode cc g.pc = .ok (.invokestatic index, 3)) (hf : cells + mc ≤ R.cells ∧ slots + ms ≤ R.slots) :
    vx_Run p l e R s m args below meth c H locs cells slots mc ms g rest (Qc As.toArray) XC free := by
  have hK : vx_Back l R p e below s args y 3 8 (PreOf R mc ms Pc) (PostOf Qc mc ms free) (vx_Post XC mc ms free) := vx_callBack cw.1 hM hp.1
  obtain ⟨⟨-, -, -, -, -, -, hcode, hini, hy, hlen, hl⟩, hstt⟩ := cw
  obtain ⟨hx, hb, hml, ho, -⟩ := S
  intro T hT X
  rcases vx_callS X hx (bytes := bytes) (maxL := maxL) (ret := ret) ho hl hstt hini hcode hy hK hg (hsize.trans hml.symm) (argsL := As) (rest := rest) (fun sig h => hn.trans (hlen sig h)) hstack hW (by rw [hb]; exact hdg)
    (fun vm₁ hW₁ => ⟨hf.1, hf.2, hp.2 (T.setVm vm₁) hT hW₁⟩) with ⟨v, vm₁, ⟨U', l2, c2, s2⟩, hW₁, X', ⟨g', mk, t, L, e1, e2, hq, h1, hL, h2, h3⟩, st⟩ | ⟨q, vm₁, ⟨U', l2, c2, s2⟩, hW₁, X', ⟨g', mk, t, L, E, ce, e1, e2, hq, hce, hcv, hcl, h1, hL, h2, h3⟩, st⟩
  · dsimp only [Pt.U, Pt.locs, Pt.cells, Pt.slots] at X' e1 e2 h1 h2 h3 st
    subst h1; subst h2; subst h3
    exact Or.inl ⟨v, (T.setVm vm₁).calling g' mk As.toArray, t, U', L, hT, X', hL, e1, e2, hq, st⟩
  · dsimp only [Pt.U, Pt.locs, Pt.cells, Pt.slots] at X' e1 e2 h1 h2 h3 st hcl
    subst h1; subst h2; subst h3
    exact Or.inr ⟨q, (T.setVm vm₁).calling g' mk As.toArray, t, U', L, E, ce, hT, X', hL, e1, e2, hq, hce, hcv, vx_cls hW₁ hcl, st⟩
end Runs
section Rows
variable {p : Program} {l : Launch} {e : Env} {R : Room} {s : State} {m : MethodId} {args : Array Value} {below : List Frame} {meth : Method} {c : Code} {H : Heap} {locs : List Loc} {cells slots : Nat} {Q : State → Prop}
variable {mc ms : Nat} {free : Addr → Prop} {A0 A1 : Nat → Prop} {H0 : Heap} {a : Array Value} {pc : Nat} {ls : Array Slot} {st0 rest : List Value}
theorem vx_keep {st₀ t T' : State} {L : List Loc} (h0 : st₀.heap = H) (e1 : T'.heap = t.heap) (hS : va_S A0 H0 H locs) (hA : ∀ q, q < H.size → A1 q → A0 q) (hf : ∀ q, free q → A0 q) (hL : ∀ q ∈ L, free q.base) (hF : va_F A1 st₀ t) :
    H.size ≤ T'.heap.size ∧ (∀ q : Nat, q < H.size → ¬ A1 q → T'.heap[q]? = H[q]?) ∧ va_S A0 H0 T'.heap (locs ++ L) := by
  obtain ⟨hz, hk⟩ := hF
  rw [h0] at hz hk
  exact ⟨by rw [e1]; exact hz, fun q h1 h2 => by rw [e1]; exact hk q h1 h2,
    ⟨Nat.le_trans hS.1 (by rw [e1]; exact hz), fun q h1 h2 => by rw [e1, hk q (Nat.lt_of_lt_of_le h1 hS.1) (fun z => h2 (hA q (Nat.lt_of_lt_of_le h1 hS.1) z))]; exact hS.2.1 q h1 h2, fun q hq => by
      rcases List.mem_append.mp hq with h | h
      · exact hS.2.2 q h
      · exact hf _ (hL q h)⟩⟩
theorem vx_calli {S SX : Type} {post : Int32 → S → Prop} {px : SX → Prop} {B : S → State → Prop} {BX : String → SX → State → Prop} {AX : Nat → Prop} (hr : vx_Run p l e R s m args below meth c H locs cells slots mc ms (F0 m pc ls st0) rest (va_Qi post B A1 a) (vx_X px BX AX) free) (hS : va_S A0 H0 H locs) (hA : ∀ q, q < H.size → A1 q → A0 q) (hf : ∀ q, free q → A0 q) (hAX : ∀ q, q < H.size → AX q → A0 q)
    (kx : ∀ (E : String) (ce : Cell) (q9 : Addr) (u : SX) (t : State) (H1 : Heap) (locs1 : List Loc), t.heap = H1 → s.vm.Alike t.vm → px u → BX E u t → H.size ≤ H1.size → (∀ q : Nat, q < H.size → ¬ AX q → H1[q]? = H[q]?) → va_S A0 H0 H1 locs1 → H1[q9]? = some ce → ce.vm = .none → s.vm.findClass E = some ce.cls → vx_W p l e R s m args below meth c H1 locs1 (cells + mc) (slots + ms) Q (F0 m pc ls rest) q9)
    (kk : ∀ (r : Int32) (u : S) (t : State) (H1 : Heap) (locs1 : List Loc), t.heap = H1 → s.vm.Alike t.vm → post r u → B u t → H.size ≤ H1.size → (∀ q : Nat, q < H.size → ¬ A1 q → H1[q]? = H[q]?) → va_S A0 H0 H1 locs1 → W p l e R s m args below meth c H1 locs1 (cells + mc) (slots + ms) Q (F0 m (pc + 3) ls (.int r :: rest))) : W p l e R s m args below meth c H locs cells slots Q (F0 m pc ls st0) := by
  intro T hT X
  rcases hr T hT X with ⟨v, st₀, t, T', L, h0, X', hL, e1, e2, ⟨⟨r, u, hv, hp, hb⟩, hF⟩, st⟩ | ⟨q, st₀, t, T', L, E, ce, h0, X', hL, e1, e2, ⟨u, hp, hb, hF⟩, hce, hcv, hcl, st⟩
  · cases hv
    obtain ⟨k1, k2, k3⟩ := vx_keep h0 e1 hS hA hf hL hF
    obtain ⟨t2, a1, b1⟩ := kk r u t T'.heap (locs ++ L) e1.symm (by rw [← e2]; exact X'.warmed.alike) hp hb k1 k2 k3 T' rfl X'
    exact ⟨t2, st t2 a1, b1⟩
  · obtain ⟨k1, k2, k3⟩ := vx_keep h0 e1 hS hAX hf hL hF
    obtain ⟨t2, a1, b1⟩ := kx E ce q u t T'.heap (locs ++ L) e1.symm (by rw [← e2]; exact X'.warmed.alike) hp hb k1 k2 k3 (by rw [e1]; exact hce) hcv hcl T' rfl X'
    exact ⟨t2, st.trans a1, b1⟩
theorem vx_calll {S SX : Type} {post : Int64 → S → Prop} {px : SX → Prop} {B : S → State → Prop} {BX : String → SX → State → Prop} {AX : Nat → Prop} (hr : vx_Run p l e R s m args below meth c H locs cells slots mc ms (F0 m pc ls st0) rest (va_Ql post B A1 a) (vx_X px BX AX) free) (hS : va_S A0 H0 H locs) (hA : ∀ q, q < H.size → A1 q → A0 q) (hf : ∀ q, free q → A0 q) (hAX : ∀ q, q < H.size → AX q → A0 q)
    (kx : ∀ (E : String) (ce : Cell) (q9 : Addr) (u : SX) (t : State) (H1 : Heap) (locs1 : List Loc), t.heap = H1 → s.vm.Alike t.vm → px u → BX E u t → H.size ≤ H1.size → (∀ q : Nat, q < H.size → ¬ AX q → H1[q]? = H[q]?) → va_S A0 H0 H1 locs1 → H1[q9]? = some ce → ce.vm = .none → s.vm.findClass E = some ce.cls → vx_W p l e R s m args below meth c H1 locs1 (cells + mc) (slots + ms) Q (F0 m pc ls rest) q9)
    (kk : ∀ (r : Int64) (u : S) (t : State) (H1 : Heap) (locs1 : List Loc), t.heap = H1 → s.vm.Alike t.vm → post r u → B u t → H.size ≤ H1.size → (∀ q : Nat, q < H.size → ¬ A1 q → H1[q]? = H[q]?) → va_S A0 H0 H1 locs1 → W p l e R s m args below meth c H1 locs1 (cells + mc) (slots + ms) Q (F0 m (pc + 3) ls (.long r :: rest))) : W p l e R s m args below meth c H locs cells slots Q (F0 m pc ls st0) := by
  intro T hT X
  rcases hr T hT X with ⟨v, st₀, t, T', L, h0, X', hL, e1, e2, ⟨⟨r, u, hv, hp, hb⟩, hF⟩, st⟩ | ⟨q, st₀, t, T', L, E, ce, h0, X', hL, e1, e2, ⟨u, hp, hb, hF⟩, hce, hcv, hcl, st⟩
  · cases hv
    obtain ⟨k1, k2, k3⟩ := vx_keep h0 e1 hS hA hf hL hF
    obtain ⟨t2, a1, b1⟩ := kk r u t T'.heap (locs ++ L) e1.symm (by rw [← e2]; exact X'.warmed.alike) hp hb k1 k2 k3 T' rfl X'
    exact ⟨t2, st t2 a1, b1⟩
  · obtain ⟨k1, k2, k3⟩ := vx_keep h0 e1 hS hAX hf hL hF
    obtain ⟨t2, a1, b1⟩ := kx E ce q u t T'.heap (locs ++ L) e1.symm (by rw [← e2]; exact X'.warmed.alike) hp hb k1 k2 k3 (by rw [e1]; exact hce) hcv hcl T' rfl X'
    exact ⟨t2, st.trans a1, b1⟩
theorem vx_callf {S SX : Type} {post : UInt32 → S → Prop} {px : SX → Prop} {B : S → State → Prop} {BX : String → SX → State → Prop} {AX : Nat → Prop} (hr : vx_Run p l e R s m args below meth c H locs cells slots mc ms (F0 m pc ls st0) rest (va_Qf post B A1 a) (vx_X px BX AX) free) (hS : va_S A0 H0 H locs) (hA : ∀ q, q < H.size → A1 q → A0 q) (hf : ∀ q, free q → A0 q) (hAX : ∀ q, q < H.size → AX q → A0 q)
    (kx : ∀ (E : String) (ce : Cell) (q9 : Addr) (u : SX) (t : State) (H1 : Heap) (locs1 : List Loc), t.heap = H1 → s.vm.Alike t.vm → px u → BX E u t → H.size ≤ H1.size → (∀ q : Nat, q < H.size → ¬ AX q → H1[q]? = H[q]?) → va_S A0 H0 H1 locs1 → H1[q9]? = some ce → ce.vm = .none → s.vm.findClass E = some ce.cls → vx_W p l e R s m args below meth c H1 locs1 (cells + mc) (slots + ms) Q (F0 m pc ls rest) q9)
    (kk : ∀ (r : UInt32) (u : S) (t : State) (H1 : Heap) (locs1 : List Loc), t.heap = H1 → s.vm.Alike t.vm → post r u → B u t → H.size ≤ H1.size → (∀ q : Nat, q < H.size → ¬ A1 q → H1[q]? = H[q]?) → va_S A0 H0 H1 locs1 → W p l e R s m args below meth c H1 locs1 (cells + mc) (slots + ms) Q (F0 m (pc + 3) ls (.float r :: rest))) : W p l e R s m args below meth c H locs cells slots Q (F0 m pc ls st0) := by
  intro T hT X
  rcases hr T hT X with ⟨v, st₀, t, T', L, h0, X', hL, e1, e2, ⟨⟨r, u, hv, hp, hb⟩, hF⟩, st⟩ | ⟨q, st₀, t, T', L, E, ce, h0, X', hL, e1, e2, ⟨u, hp, hb, hF⟩, hce, hcv, hcl, st⟩
  · cases hv
    obtain ⟨k1, k2, k3⟩ := vx_keep h0 e1 hS hA hf hL hF
    obtain ⟨t2, a1, b1⟩ := kk r u t T'.heap (locs ++ L) e1.symm (by rw [← e2]; exact X'.warmed.alike) hp hb k1 k2 k3 T' rfl X'
    exact ⟨t2, st t2 a1, b1⟩
  · obtain ⟨k1, k2, k3⟩ := vx_keep h0 e1 hS hAX hf hL hF
    obtain ⟨t2, a1, b1⟩ := kx E ce q u t T'.heap (locs ++ L) e1.symm (by rw [← e2]; exact X'.warmed.alike) hp hb k1 k2 k3 (by rw [e1]; exact hce) hcv hcl T' rfl X'
    exact ⟨t2, st.trans a1, b1⟩
theorem vx_calld {S SX : Type} {post : UInt64 → S → Prop} {px : SX → Prop} {B : S → State → Prop} {BX : String → SX → State → Prop} {AX : Nat → Prop} (hr : vx_Run p l e R s m args below meth c H locs cells slots mc ms (F0 m pc ls st0) rest (va_Qd post B A1 a) (vx_X px BX AX) free) (hS : va_S A0 H0 H locs) (hA : ∀ q, q < H.size → A1 q → A0 q) (hf : ∀ q, free q → A0 q) (hAX : ∀ q, q < H.size → AX q → A0 q)
    (kx : ∀ (E : String) (ce : Cell) (q9 : Addr) (u : SX) (t : State) (H1 : Heap) (locs1 : List Loc), t.heap = H1 → s.vm.Alike t.vm → px u → BX E u t → H.size ≤ H1.size → (∀ q : Nat, q < H.size → ¬ AX q → H1[q]? = H[q]?) → va_S A0 H0 H1 locs1 → H1[q9]? = some ce → ce.vm = .none → s.vm.findClass E = some ce.cls → vx_W p l e R s m args below meth c H1 locs1 (cells + mc) (slots + ms) Q (F0 m pc ls rest) q9)
    (kk : ∀ (r : UInt64) (u : S) (t : State) (H1 : Heap) (locs1 : List Loc), t.heap = H1 → s.vm.Alike t.vm → post r u → B u t → H.size ≤ H1.size → (∀ q : Nat, q < H.size → ¬ A1 q → H1[q]? = H[q]?) → va_S A0 H0 H1 locs1 → W p l e R s m args below meth c H1 locs1 (cells + mc) (slots + ms) Q (F0 m (pc + 3) ls (.double r :: rest))) : W p l e R s m args below meth c H locs cells slots Q (F0 m pc ls st0) := by
  intro T hT X
  rcases hr T hT X with ⟨v, st₀, t, T', L, h0, X', hL, e1, e2, ⟨⟨r, u, hv, hp, hb⟩, hF⟩, st⟩ | ⟨q, st₀, t, T', L, E, ce, h0, X', hL, e1, e2, ⟨u, hp, hb, hF⟩, hce, hcv, hcl, st⟩
  · cases hv
    obtain ⟨k1, k2, k3⟩ := vx_keep h0 e1 hS hA hf hL hF
    obtain ⟨t2, a1, b1⟩ := kk r u t T'.heap (locs ++ L) e1.symm (by rw [← e2]; exact X'.warmed.alike) hp hb k1 k2 k3 T' rfl X'
    exact ⟨t2, st t2 a1, b1⟩
  · obtain ⟨k1, k2, k3⟩ := vx_keep h0 e1 hS hAX hf hL hF
    obtain ⟨t2, a1, b1⟩ := kx E ce q u t T'.heap (locs ++ L) e1.symm (by rw [← e2]; exact X'.warmed.alike) hp hb k1 k2 k3 (by rw [e1]; exact hce) hcv hcl T' rfl X'
    exact ⟨t2, st.trans a1, b1⟩
theorem vx_callv {S SX : Type} {post : S → Prop} {px : SX → Prop} {B : S → State → Prop} {BX : String → SX → State → Prop} {AX : Nat → Prop} (hr : vx_Run p l e R s m args below meth c H locs cells slots mc ms (F0 m pc ls st0) rest (va_Qv post B A1 a) (vx_X px BX AX) free) (hS : va_S A0 H0 H locs) (hA : ∀ q, q < H.size → A1 q → A0 q) (hf : ∀ q, free q → A0 q) (hAX : ∀ q, q < H.size → AX q → A0 q)
    (kx : ∀ (E : String) (ce : Cell) (q9 : Addr) (u : SX) (t : State) (H1 : Heap) (locs1 : List Loc), t.heap = H1 → s.vm.Alike t.vm → px u → BX E u t → H.size ≤ H1.size → (∀ q : Nat, q < H.size → ¬ AX q → H1[q]? = H[q]?) → va_S A0 H0 H1 locs1 → H1[q9]? = some ce → ce.vm = .none → s.vm.findClass E = some ce.cls → vx_W p l e R s m args below meth c H1 locs1 (cells + mc) (slots + ms) Q (F0 m pc ls rest) q9)
    (kk : ∀ (u : S) (t : State) (H1 : Heap) (locs1 : List Loc), t.heap = H1 → s.vm.Alike t.vm → post u → B u t → H.size ≤ H1.size → (∀ q : Nat, q < H.size → ¬ A1 q → H1[q]? = H[q]?) → va_S A0 H0 H1 locs1 → W p l e R s m args below meth c H1 locs1 (cells + mc) (slots + ms) Q (F0 m (pc + 3) ls (rest))) : W p l e R s m args below meth c H locs cells slots Q (F0 m pc ls st0) := by
  intro T hT X
  rcases hr T hT X with ⟨v, st₀, t, T', L, h0, X', hL, e1, e2, ⟨⟨u, hv, hp, hb⟩, hF⟩, st⟩ | ⟨q, st₀, t, T', L, E, ce, h0, X', hL, e1, e2, ⟨u, hp, hb, hF⟩, hce, hcv, hcl, st⟩
  · cases hv
    obtain ⟨k1, k2, k3⟩ := vx_keep h0 e1 hS hA hf hL hF
    obtain ⟨t2, a1, b1⟩ := kk u t T'.heap (locs ++ L) e1.symm (by rw [← e2]; exact X'.warmed.alike) hp hb k1 k2 k3 T' rfl X'
    exact ⟨t2, st t2 a1, b1⟩
  · obtain ⟨k1, k2, k3⟩ := vx_keep h0 e1 hS hAX hf hL hF
    obtain ⟨t2, a1, b1⟩ := kx E ce q u t T'.heap (locs ++ L) e1.symm (by rw [← e2]; exact X'.warmed.alike) hp hb k1 k2 k3 (by rw [e1]; exact hce) hcv hcl T' rfl X'
    exact ⟨t2, st.trans a1, b1⟩
/-- caught by the row x of this method's table; the rows ahead don't take it -/
theorem vx_catch {own name : String} {E : String} {ce : Cell} {q : Addr} (hown : s.vm.findClass own = some m.cls) (pre : List ExceptionTableEntry) (x : ExceptionTableEntry) (suf : List ExceptionTableEntry) (hsplit : c.exceptionTable.toList = pre ++ x :: suf)
    (hpass : ∀ z ∈ pre, covers z pc = false ∨ (z.catchType ≠ 0 ∧ ∃ nm : String, (Cond.classLink own z.catchType nm).before args s = true ∧ va_Nc E nm s)) (hx : covers x pc = true) (h0 : x.catchType ≠ 0)
    (hlink : (Cond.classLink own x.catchType name).before args s = true) (hcast : (Cond.castable E name).before args s = true) (hcell : H[q]? = some ce) (hv : ce.vm = .none) (hcl : s.vm.findClass E = some ce.cls)
    (kk : W p l e R s m args below meth c H locs cells slots Q (F0 m x.handlerPc ls [.ref q])) : vx_W p l e R s m args below meth c H locs cells slots Q (F0 m pc ls rest) q := by
  intro T hT X
  have hpl : e.platform.magicAccessors = ({} : Platform).magicAccessors := by rw [X.admits.platform]
  obtain ⟨c3, c4, hc3, hc4, hasg⟩ := Cond.castable_spec hcast
  cases Option.some.inj (hc3.symm.trans hcl)
  obtain ⟨c5, hc5, hcl5⟩ := Cond.classLink_spec hown hlink e.platform hpl
  cases Option.some.inj (hc4.symm.trans hc5)
  obtain ⟨vm', X', st⟩ := X.thenCaughtThrough q (g := F0 m pc ls rest) rfl (Steps.refl _) (by rw [hT]; exact hcell) (by rw [hv]; rfl) (by obtain ⟨k9, h9, -⟩ := Vm.findClass_spec hcl; exact ⟨k9, h9⟩) pre x suf hsplit
    (fun z hz => by
      rcases hpass z hz with h | ⟨hz0, nm, hl1, hn1⟩
      · exact Or.inl h
      · obtain ⟨c6, hc6, hcl6⟩ := Cond.classLink_spec hown hl1 e.platform hpl
        obtain ⟨a8, b8, h1, h2, h3⟩ := hn1
        cases Option.some.inj (h1.symm.trans hcl)
        cases Option.some.inj (h2.symm.trans hc6)
        exact Or.inr ⟨hz0, _, hcl6, h3⟩) hx (Or.inr ⟨h0, c4, hcl5, hasg⟩)
  obtain ⟨t, a1, b1⟩ := kk (T.setVm vm') hT X'
  exact ⟨t, st.trans a1, b1⟩
end Rows
section Ends
variable {p : Program} {l : Launch} {e : Env} {R : Room} {s : State} {m : MethodId} {args : Array Value} {below : List Frame} {meth : Method} {c : Code} {H : Heap} {locs : List Loc} {cells slots : Nat} {Q : State → Prop}
variable {mc ms : Nat} {free : Addr → Prop} {A0 A1 : Nat → Prop} {H0 : Heap} {a : Array Value} {ls : Array Slot} {st0 rest : List Value}
variable {Qc : Array Value → State → Outcome → State → Prop} {XC : String → State → State → Prop}
/-- what a body that may throw owes at its end -/
def vx_MQ (below : List Frame) (Qc : Array Value → State → Outcome → State → Prop) (XC : String → State → State → Prop) (a : Array Value) (s : State) (mc ms : Nat) (free : Addr → Prop) : State → Prop := fun t =>
  ∃ o, t.status = .running ∧ Ended t below o ∧ vx_Q Qc XC mc ms free a s o t
theorem vx_ret {g : JFrame} {mc ms : Nat} (k : W p l e R s m args below meth c H locs cells slots (MQ below Qc args s mc ms free) g) : W p l e R s m args below meth c H locs cells slots (vx_MQ below Qc XC args s mc ms free) g := by
  intro T hT X
  obtain ⟨t, a1, o, b1, b2, b3, b4⟩ := k T hT X
  exact ⟨t, a1, o, b1, b2, Or.inl ⟨b3, b4⟩⟩
/-- not caught here: it goes on to the caller -/
theorem vx_widen {g : JFrame} {q : Addr} {k n : Nat} (h1 : cells ≤ k) (h2 : slots ≤ n) (kk : vx_W p l e R s m args below meth c H locs k n Q g q) : vx_W p l e R s m args below meth c H locs cells slots Q g q := fun T hT X => kk T hT (stand_widen X h1 h2)
theorem vx_out {pc : Nat} {E : String} {ce : Cell} {q : Addr} {mc ms : Nat} (hout : ∀ x ∈ c.exceptionTable.toList, covers x pc = false) (hlocks : meth.locks = false) (hcell : H[q]? = some ce) (hv : ce.vm = .none) (hcl : s.vm.findClass E = some ce.cls)
    (hx : ∀ t : State, t.heap = H → s.vm.Alike t.vm → XC E s t) (hf : ∀ z ∈ locs, free z.base) (hc : cells ≤ mc) (hs : slots ≤ ms) :
    vx_W p l e R s m args below meth c H locs cells slots (vx_MQ below Qc XC args s mc ms free) (F0 m pc ls rest) q := by
  intro T hT X
  obtain ⟨st1, hrun, hend, hW, hsm⟩ := X.leaveThrown q (g := F0 m pc ls rest) rfl rfl rfl hout hlocks
  have hcell9 : (T.setFrames (.throwing q :: below)).heap[q]? = some ce := by
    show T.heap[q]? = some ce
    rw [hT]; exact hcell
  exact ⟨_, st1, .threw q, hrun, hend, Or.inr ⟨q, rfl, E, ce, locs, hx _ hT hW.alike, hcell9, hv, hcl, hW, hsm.mono hc hs, hf⟩⟩
theorem vx_frame {U : State} {k n : Nat} (h : s.sameButNew ({ U with vm := s.vm } : State) locs k n) : s.heap.size ≤ U.heap.size ∧ ∀ q : Nat, q < s.heap.size → (∀ z ∈ locs, z.base ≠ q) → U.heap[q]? = s.heap[q]? := by
  obtain ⟨-, h2, -, -, -, h6⟩ := h
  refine ⟨h2, fun q hq hz => ?_⟩
  obtain ⟨c9, e1, e2, e3, e4⟩ := h6 q _ (Array.getElem?_eq_getElem hq)
  have hs : c9.slots = (s.heap[q]).slots := Array.ext_getElem? fun i => e4 i fun hm => hz _ hm rfl
  have h9 : c9 = s.heap[q] := by
    rw [hs] at e2
    exact e2
  have e5 : U.heap[q]? = some c9 := e1
  rw [e5, h9, Array.getElem?_eq_getElem hq]
/-- the words of a throw but the four that speak of the heap -/
def vx_no (w : Cond) : Bool := decide (w ≠ .isRef (.static Bundle.tN "UNASSIGNED_STACK" Bundle.steD)) && decide (w ≠ .isRef (.static Bundle.tN "SUPPRESSED_SENTINEL" Bundle.listD)) && decide (w ≠ .laysStatic Bundle.tN "UNASSIGNED_STACK" Bundle.steD) && decide (w ≠ .laysStatic Bundle.tN "SUPPRESSED_SENTINEL" Bundle.listD)
def vx_at0 (own : String) (ic : Nat) (X : String) (names : List String) : List Cond := (Bundle.ownAtoms0 own ic X names).filter vx_no
def vx_atS (own : String) (ic : Nat) (X : String) (names : List String) : List Cond := (Bundle.ownAtoms own ic X names).filter vx_no
/-- a word that the tables alone decide, or a good one -/
def vx_ot (w : Cond) : Bool := w.onTables || goodWord w
theorem vx_ot_at {args a' : Array Value} {s U : State} {w : Cond} (hW : s.WarmedH U.vm) (hvm : s.vm = U.vm) (hg : vx_ot w = true) (h : w.before args s = true) : w.before a' U = true := by
  simp only [vx_ot, Bool.or_eq_true] at hg
  rcases hg with hg | hg
  · exact va_tabs hg hvm h
  · exact word_at hW (good_of_word hg) h
/-- a list's words: the good ones out of the method's own list, the others by premises of their own -/
theorem vx_hat {args : Array Value} {s : State} {L B : List Cond} (h1 : ∀ w ∈ L.filter goodWord, w.before args s = true) (h2 : ∀ w ∈ L.filter (fun w => !goodWord w), w ∈ B) (h3 : ∀ w ∈ B, w.before args s = true) : ∀ w ∈ L, w.before args s = true := by
  intro w hw
  by_cases g : goodWord w = true
  · exact h1 w (List.mem_filter.mpr ⟨hw, g⟩)
  · refine h3 w (h2 w (List.mem_filter.mpr ⟨hw, ?_⟩))
    show (!goodWord w) = true
    cases hgw : goodWord w
    · rfl
    · exact absurd hgw g
theorem vx_c {args : Array Value} {s : State} {w : Cond} {B : List Cond} (h : w.before args s = true) (t : ∀ w ∈ B, w.before args s = true) : ∀ w' ∈ w :: B, w'.before args s = true := fun w' h' => (List.mem_cons.mp h').elim (fun e => by rw [e]; exact h) (t w')
theorem vx_n {args : Array Value} {s : State} : ∀ w ∈ ([] : List Cond), w.before args s = true := fun _ h => nomatch h
theorem vx_own {args : Array Value} {s : State} {L : List Cond} (h1 : ∀ w ∈ L.filter vx_no, w.before args s = true)
    (hU : (Cond.isRef (.static Bundle.tN "UNASSIGNED_STACK" Bundle.steD)).before args s = true) (hN : (Cond.isRef (.static Bundle.tN "SUPPRESSED_SENTINEL" Bundle.listD)).before args s = true)
    (lU : (Cond.laysStatic Bundle.tN "UNASSIGNED_STACK" Bundle.steD).before args s = true) (lN : (Cond.laysStatic Bundle.tN "SUPPRESSED_SENTINEL" Bundle.listD).before args s = true) : ∀ w ∈ L, w.before args s = true := by
  intro w hw
  by_cases e1 : w = .isRef (.static Bundle.tN "UNASSIGNED_STACK" Bundle.steD)
  · rw [e1]; exact hU
  · by_cases e2 : w = .isRef (.static Bundle.tN "SUPPRESSED_SENTINEL" Bundle.listD)
    · rw [e2]; exact hN
    · by_cases e3 : w = .laysStatic Bundle.tN "UNASSIGNED_STACK" Bundle.steD
      · rw [e3]; exact lU
      · by_cases e4 : w = .laysStatic Bundle.tN "SUPPRESSED_SENTINEL" Bundle.listD
        · rw [e4]; exact lN
        · exact h1 w (List.mem_filter.mpr ⟨hw, by unfold vx_no; rw [decide_eq_true e1, decide_eq_true e2, decide_eq_true e3, decide_eq_true e4]; rfl⟩)
/-- where a static field lies, its class's statics cell in H -/
def vx_L (C n d : String) (A : Nat → Prop) (U : State) (H : Heap) : Prop := ∃ (c : ClassId) (k : Class) (i : Nat) (f : Field) (a : Nat) (cell : Cell), U.vm.findClass C = some c ∧ U.fieldFound? C n d = some (c, k, i, f) ∧ f.isStatic = true ∧ k.statics = some a ∧ H[a]? = some cell ∧ cell.vm.isStatics = true ∧ cell.cls = c ∧ f.slot < cell.slots.size ∧ k.staticTypes[f.slot]? = some f.type ∧ ¬ A a
theorem vx_L.moved {C n d : String} {A : Nat → Prop} {u U : State} {H : Heap} (hvm : u.vm.Alike U.vm) (h : vx_L C n d A u H) : vx_L C n d A U H := by
  obtain ⟨c, k, i, f, a, cell, h1, h2, h3, h4, h5, h6, h7, h8, h9, h10⟩ := h
  obtain ⟨k', hi', he⟩ := State.fieldFound?_setVm hvm h2
  exact ⟨c, k', i, f, a, cell, by rw [hvm.findClass]; exact h1, hi', h3, by rw [he]; exact h4, h5, h6, h7, h8, by rw [he]; exact h9, h10⟩
theorem vx_L.kept {C n d : String} {A : Nat → Prop} {U : State} {H H1 : Heap} (h : vx_L C n d A U H) (hq : ∀ a : Nat, a < H.size → ¬ A a → H1[a]? = H[a]?) : vx_L C n d A U H1 := by
  obtain ⟨c, k, i, f, a, cell, h1, h2, h3, h4, h5, h6, h7, h8, h9, h10⟩ := h
  exact ⟨c, k, i, f, a, cell, h1, h2, h3, h4, by rw [hq a (Array.getElem?_eq_some_iff.mp h5).1 h10]; exact h5, h6, h7, h8, h9, h10⟩
theorem vx_L.narrow {C n d : String} {A B : Nat → Prop} {U : State} {H : Heap} (h : vx_L C n d A U H) (hAB : ∀ q, B q → A q) : vx_L C n d B U H := by
  obtain ⟨c, k, i, f, a, cell, h1, h2, h3, h4, h5, h6, h7, h8, h9, h10⟩ := h
  exact ⟨c, k, i, f, a, cell, h1, h2, h3, h4, h5, h6, h7, h8, h9, fun z => h10 (hAB _ z)⟩
theorem vx_L.word {C n d : String} {A : Nat → Prop} {s : State} {args : Array Value} (h : vx_L C n d A s s.heap) : (Cond.laysStatic C n d).before args s = true := by
  obtain ⟨c, k, i, f, a, cell, h1, h2, h3, h4, h5, h6, h7, h8, h9, -⟩ := h
  show (Cond.laysStatic C n d).holds args s none s [] = true
  exact Cond.laysStatic_of h1 h2 h3 h4 h5 h6 h7 h8 h9
/-- .. and what it holds: null or some reference -/
def vx_Zq (C n d : String) (A : Nat → Prop) (U : State) (H : Heap) : Prop := va_Zq C n d A U H ∧ vx_L C n d A U H
theorem vx_Zq.moved {C n d : String} {A : Nat → Prop} {u U : State} {H : Heap} (hvm : u.vm.Alike U.vm) (h : vx_Zq C n d A u H) : vx_Zq C n d A U H := ⟨va_Zq.moved hvm h.1, vx_L.moved hvm h.2⟩
theorem vx_Zq.kept {C n d : String} {A : Nat → Prop} {U : State} {H H1 : Heap} (h : vx_Zq C n d A U H) (hq : ∀ a : Nat, a < H.size → ¬ A a → H1[a]? = H[a]?) : vx_Zq C n d A U H1 := ⟨va_Zq.kept h.1 hq, vx_L.kept h.2 hq⟩
theorem vx_Zq.narrow {C n d : String} {A B : Nat → Prop} {U : State} {H : Heap} (h : vx_Zq C n d A U H) (hAB : ∀ q, B q → A q) : vx_Zq C n d B U H := ⟨va_Zq.narrow h.1 hAB, vx_L.narrow h.2 hAB⟩
theorem vx_Zqof {args : Array Value} {s : State} {C n d : String} {A : Nat → Prop} (hl : (Cond.laysStatic C n d).before args s = true) (hini : (Cond.initialized C).before args s = true) (h : (Cond.isRef (.static C n d)).before args s = true) (hA : ∀ a : Nat, a < s.heap.size → ¬ A a) : vx_Zq C n d A s s.heap := by
  refine ⟨va_Zqof hl hini h hA, ?_⟩
  obtain ⟨c, k, i, f, a, cell, h1, h2, h3, h4, h5, h6, h7, h8, h9⟩ := Cond.laysStatic_spec hl
  exact ⟨c, k, i, f, a, cell, h1, h2, h3, h4, h5, h6, h7, h8, h9, hA a (Array.getElem?_eq_some_iff.mp h5).1⟩
theorem vx_isRef {C n d : String} {v : Value} {A : Nat → Prop} {s : State} {args : Array Value} (h : va_Z C n d v A s s.heap) (hv : v.isRef = true) : (Cond.isRef (.static C n d)).before args s = true := by
  obtain ⟨cf, kf, fi, f, a, cell, h1, h2, h3, h4, h5, h6, h7, -⟩ := h
  have he : (Term.static C n d).eval args s none [] s = some v := by
    simp [Term.eval, State.fieldNamed?, h1, h2, h4, h5, h6, h7]
  simp only [Cond.before, Cond.holds, Cond.value, he]
  cases v <;> simp_all [Value.isRef]
theorem vx_isRefq {C n d : String} {A : Nat → Prop} {s : State} {args : Array Value} (h : va_Zq C n d A s s.heap) : (Cond.isRef (.static C n d)).before args s = true := by
  rcases h with h | ⟨t, h⟩
  · exact vx_isRef h rfl
  · exact vx_isRef h rfl
/-- the same frame, seen from here: as if the method were called anew in this heap -/
theorem vx_rebase {T : State} (X : Stand p l e R s m args below meth c T locs cells slots) {R' : Room} (hf : R'.frames ≤ R.frames) (hl : R'.locals ≤ R.locals) (hc : cells + R'.cells ≤ R.cells) (hs : slots + R'.slots ≤ R.slots) :
    Stand p l e R' ((T.setVm s.vm).setFrames (.invoking m args :: below)) m args below meth c T [] 0 0 := by
  have htop : (T.setVm s.vm).topJava?.isSome := X.here.top
  have hF : ((T.setVm s.vm).setFrames (.invoking m args :: below)).frames = .invoking m args :: below := State.frames_setFrames _ (State.cur_lt_of_top htop)
  obtain ⟨g₀, hg0⟩ := Option.isSome_iff_exists.mp htop
  obtain ⟨r, hr⟩ := State.topJava?_eq_some.mp hg0
  have hl9 : e.platform.stackLimits (T.setVm s.vm).me = e.platform.stackLimits s.me := X.limits
  have hb9 : (T.setVm s.vm).me.stackBytes = s.me.stackBytes := X.bytes
  refine ⟨X.admits, X.cas, X.clock, hF, ?_, X.hears, X.method, X.code, X.here, X.tail, X.warmed, ?_, ?_, ?_⟩
  · have h := X.room
    have hU : ((T.setVm s.vm).setFrames (.invoking m args :: below)).localsInUse = s.localsInUse := by
      rw [State.localsInUse_invoking hF (meth := meth) (c := c) X.method X.code, State.localsInUse_invoking X.frames X.method X.code]
    simp only [State.hasRoom, Bool.and_eq_true, decide_eq_true_eq] at h ⊢
    obtain ⟨⟨⟨⟨h1, h2, h3, h4, h5, h6⟩, h7⟩, h8⟩, h9⟩ := h
    rw [X.frames, List.length_cons] at h2 h3
    have q1 := X.heapSize
    have q2 := X.used
    simp only [hF, hU, List.length_cons, State.stackLimits_setFrames, State.stackBytes_setFrames, hl9, hb9]
    refine ⟨⟨⟨⟨by omega, by omega, by omega, by omega, by omega, h6⟩, ?_⟩, ?_⟩, X.book⟩
    · show T.heap.size + R'.cells ≤ e.platform.maxCells
      omega
    · show T.slotsUsed + R'.slots ≤ e.platform.maxSlots
      omega
  · rw [State.stackLimits_setFrames]; rfl
  · rw [State.stackBytes_setFrames]; rfl
  · refine ⟨?_, Nat.le_refl _, Nat.le_refl _, ?_, ?_, fun a c9 h9 => ⟨c9, h9, rfl, rfl, fun _ _ => rfl⟩⟩
    · obtain ⟨t, ht, -⟩ := State.frames_cons hr
      show T.setVm s.vm = { ((T.setVm s.vm).setFrames (.invoking m args :: below)).setFrames (T.setVm s.vm).frames with heap := T.heap, slotsUsed := T.slotsUsed }
      rw [State.setFrames_setFrames, State.setFrames_self ht]
      rfl
    · show T.slotsUsed = T.slotsUsed + ((T.heap.toList.drop T.heap.size).map (·.slots.size)).sum
      rw [List.drop_eq_nil_of_le (Nat.le_of_eq Array.length_toList)]
      rfl
    · show ((T.heap.toList.drop T.heap.size).map (·.slots.size)).sum ≤ 0
      rw [List.drop_eq_nil_of_le (Nat.le_of_eq Array.length_toList)]
      exact Nat.le_refl _
/-- 'throw new E()': new; dup; invokespecial; athrow -/
theorem vx_throw0 {cc : ByteArray} {pc : Nat} (hexec : p.tables.exec = Jvm.exec) (hb : c.code = cc) (hl : l.stackTraces = false) {own cls : String} {names : List String} {ik ic mc ms : Nat} {A : Nat → Prop}
    (hown : s.vm.findClass own = some m.cls) (hcls : Bundle.fit cls = true) (hnames : ∀ n ∈ names, Bundle.fit n = true)
    (hk : (Cond.classLink own ik cls).before args s = true) (hini : (Cond.initialized cls).before args s = true) (hat : ∀ w ∈ vx_at0 own ic cls names, w.before args s = true)
    (hgood : ∀ w ∈ Cond.classLink own ik cls :: Cond.initialized cls :: vx_at0 own ic cls names, vx_ot w = true)
    (hU : vx_Zq Bundle.tN "UNASSIGNED_STACK" Bundle.steD A s s.heap) (hN : vx_Zq Bundle.tN "SUPPRESSED_SENTINEL" Bundle.listD A s s.heap) (hS : va_S A s.heap H locs) (hsize : ls.size = c.maxLocals)
    (d0 : decode cc pc = .ok (.new ik, 3)) (d3 : decode cc (pc + 3) = .ok (.dup, 1)) (d4 : decode cc (pc + 4) = .ok (.invokespecial ic, 3)) (d7 : decode cc (pc + 7) = .ok (.athrow, 1))
    (hout : ∀ x ∈ c.exceptionTable.toList, covers x (pc + 7) = false)
    (hRframes : names.length + 3 < R.frames) (hRlocals : (rest.map fun v => v.category).sum + (13 * (names.length + 1) + 42) ≤ R.locals) (hRcells : cells + 1 ≤ R.cells) (hRslots : slots + 6 ≤ R.slots) (hlocks : meth.locks = false)
    (hx : ∀ t : State, s.vm.Alike t.vm → H.size ≤ t.heap.size → (∀ q : Nat, q < H.size → t.heap[q]? = H[q]?) → XC cls s t)
    (hf : ∀ z ∈ locs, free z.base) (hc : cells + 1 ≤ mc) (hs : slots + 6 ≤ ms) :
    W p l e R s m args below meth c H locs cells slots (vx_MQ below Qc XC args s mc ms free) (F0 m pc ls rest) := by
  intro T hT X
  have htr : e.platform.stackTraces = false := (show e.platform.stackTraces = l.stackTraces by rw [X.admits.platform]).trans hl
  have Y := vx_rebase X (R' := { frames := R.frames, locals := R.locals, cells := 1, slots := 6 }) (Nat.le_refl _) (Nat.le_refl _) hRcells hRslots
  obtain ⟨s', hA⟩ : ∃ z, z = (T.setVm s.vm).setFrames (.invoking m args :: below) := ⟨_, rfl⟩
  rw [← hA] at Y
  have hvm : s'.vm = s.vm := by rw [hA]; rfl
  have hhp : s'.heap = H := by rw [hA]; exact hT
  have hW0 : s.WarmedH s'.vm := by rw [hvm]; exact State.WarmedH.refl s
  have hat' : ∀ w ∈ vx_at0 own ic cls names, w.before args s' = true := fun w hw => vx_ot_at hW0 hvm.symm (hgood w (List.mem_cons_of_mem _ (List.mem_cons_of_mem _ hw))) (hat w hw)
  have hk' : (Cond.classLink own ik cls).before args s' = true := vx_ot_at hW0 hvm.symm (hgood _ List.mem_cons_self) hk
  have hini' : (Cond.initialized cls).before args s' = true := vx_ot_at hW0 hvm.symm (hgood _ (List.mem_cons_of_mem _ List.mem_cons_self)) hini
  have hU' : vx_Zq Bundle.tN "UNASSIGNED_STACK" Bundle.steD A s' s'.heap := by rw [hhp]; exact vx_Zq.moved hW0.alike (hU.kept hS.2.1)
  have hN' : vx_Zq Bundle.tN "SUPPRESSED_SENTINEL" Bundle.listD A s' s'.heap := by rw [hhp]; exact vx_Zq.moved hW0.alike (hN.kept hS.2.1)
  have h : ∀ w ∈ Bundle.ownAtoms0 own ic cls names, w.before args s' = true := vx_own hat' (vx_isRefq hU'.1) (vx_isRefq hN'.1) hU'.2.word hN'.2.word
  have hown' : s'.vm.findClass own = some m.cls := by rw [hvm]; exact hown
  have hins : (Cond.instantiable cls 6).before args s' = true := h _ (by simp [Bundle.ownAtoms0])
  obtain ⟨vm₁, cX, kX, hfX, hkX, -, -, X₁, st1⟩ := Y.newCold hexec (own := own) (C := cls) (index := ik) (n := 6) hown' hk' hins hini'
    (g := F0 m pc ls rest) rfl (by rw [hb]; exact d0) (Nat.le_refl _) (Nat.le_refl _)
  generalize hT1 : (T.setVm vm₁).pushCell { cls := cX, slots := kX.instanceTypes.map defaultValue, vm := .none } = T1 at X₁ st1
  have hcat : (Value.ref T.heap.size).category = 1 := rfl
  have hcellA : T1.heap[T.heap.size]? = some (freshCell cX kX) := by rw [← hT1]; exact State.heap_pushCell_size _ _
  have d3' : decode c.code (pc + 3) = .ok (.dup, 1) := by rw [hb]; exact d3
  obtain ⟨U, hsteps, hrun, hend, hW, hsame, ce, hce, hO⟩ := X₁.ctorThrow0 hexec htr (own := own) (cls := cls) (names := names) (ic := ic) hown' hcls hnames h (fun x hx => nomatch hx) hfX hkX hcellA (by rw [hhp, hT]; exact Nat.le_refl _)
    (g := { method := m, pc := pc + 4, locals := ls, stack := .ref T.heap.size :: .ref T.heap.size :: rest, locked := none }) rfl hsize rfl rfl (rest := rest) rfl
    (by rw [hb]; exact d4) (by rw [hb]; exact d7) hout hRframes (by simp only [List.map_cons, List.sum_cons, hcat]; omega) hlocks
  obtain ⟨f1, f2⟩ := vx_frame hsame
  rw [hhp] at f1 f2
  have hWs : s.WarmedH U.vm := State.WarmedH.trans hW0 hW
  have hcl : s.vm.findClass cls = some ce.cls := by
    have h9 := hO.cls
    rw [hvm] at h9
    exact h9
  have hall : s.sameButNew ({ U with vm := s.vm } : State) locs mc ms := by
    subst hA
    obtain ⟨e1, e2⟩ := hsame
    rw [State.setFrames_setFrames] at e1
    have h2 : (T.setVm s.vm).sameButNew ({ U with vm := s.vm } : State) [] (0 + 1) (0 + 6) := ⟨e1, e2⟩
    have h3 := X.same.trans h2
    rw [List.append_nil] at h3
    exact h3.mono hc hs
  refine ⟨U, ?_, .threw T.heap.size, hrun, hend, Or.inr ⟨T.heap.size, rfl, cls, ce, locs, hx U hWs.alike f1 (fun q hq => f2 q hq (fun z hz => nomatch hz)), hce, hO.vm, hcl, hWs, hall, hf⟩⟩
  refine st1 _ ?_
  show Steps p.tables e below (T1.setTop { method := m, pc := pc + 3, locals := ls, stack := .ref T.heap.size :: rest, locked := none }) _
  jvm_step X₁.here [X₁.here.top, hexec, d3', Value.category]
  exact hsteps
/-- 'throw new E("text")': new; dup; ldc; invokespecial; athrow -/
theorem vx_throwS {cc : ByteArray} {pc : Nat} (hexec : p.tables.exec = Jvm.exec) (hb : c.code = cc) (hl : l.stackTraces = false) {own cls text : String} {names : List String} {ik is ic mc ms sa : Nat} {A : Nat → Prop}
    (hown : s.vm.findClass own = some m.cls) (hcls : Bundle.fit cls = true) (hnames : ∀ n ∈ names, Bundle.fit n = true)
    (hk : (Cond.classLink own ik cls).before args s = true) (hini : (Cond.initialized cls).before args s = true) (hstr : vk_R own is text sa s) (hat : ∀ w ∈ vx_atS own ic cls names, w.before args s = true)
    (hgood : ∀ w ∈ Cond.classLink own ik cls :: Cond.initialized cls :: vx_atS own ic cls names, vx_ot w = true)
    (hU : vx_Zq Bundle.tN "UNASSIGNED_STACK" Bundle.steD A s s.heap) (hN : vx_Zq Bundle.tN "SUPPRESSED_SENTINEL" Bundle.listD A s s.heap) (hS : va_S A s.heap H locs) (hsize : ls.size = c.maxLocals)
    (d0 : decode cc pc = .ok (.new ik, 3)) (d3 : decode cc (pc + 3) = .ok (.dup, 1)) (d4 : decode cc (pc + 4) = .ok (.ldc is, 2)) (d6 : decode cc (pc + 6) = .ok (.invokespecial ic, 3)) (d9 : decode cc (pc + 9) = .ok (.athrow, 1))
    (hout : ∀ x ∈ c.exceptionTable.toList, covers x (pc + 9) = false)
    (hRframes : names.length + 3 < R.frames) (hRlocals : (rest.map fun v => v.category).sum + (13 * (names.length + 1) + 43) ≤ R.locals) (hRcells : cells + 1 ≤ R.cells) (hRslots : slots + 6 ≤ R.slots) (hlocks : meth.locks = false)
    (hx : ∀ t : State, s.vm.Alike t.vm → H.size ≤ t.heap.size → (∀ q : Nat, q < H.size → t.heap[q]? = H[q]?) → XC cls s t)
    (hf : ∀ z ∈ locs, free z.base) (hc : cells + 1 ≤ mc) (hs : slots + 6 ≤ ms) :
    W p l e R s m args below meth c H locs cells slots (vx_MQ below Qc XC args s mc ms free) (F0 m pc ls rest) := by
  intro T hT X
  have htr : e.platform.stackTraces = false := (show e.platform.stackTraces = l.stackTraces by rw [X.admits.platform]).trans hl
  have Y := vx_rebase X (R' := { frames := R.frames, locals := R.locals, cells := 1, slots := 6 }) (Nat.le_refl _) (Nat.le_refl _) hRcells hRslots
  obtain ⟨s', hA⟩ : ∃ z, z = (T.setVm s.vm).setFrames (.invoking m args :: below) := ⟨_, rfl⟩
  rw [← hA] at Y
  have hvm : s'.vm = s.vm := by rw [hA]; rfl
  have hhp : s'.heap = H := by rw [hA]; exact hT
  have hW0 : s.WarmedH s'.vm := by rw [hvm]; exact State.WarmedH.refl s
  have hat' : ∀ w ∈ vx_atS own ic cls names, w.before args s' = true := fun w hw => vx_ot_at hW0 hvm.symm (hgood w (List.mem_cons_of_mem _ (List.mem_cons_of_mem _ hw))) (hat w hw)
  have hk' : (Cond.classLink own ik cls).before args s' = true := vx_ot_at hW0 hvm.symm (hgood _ List.mem_cons_self) hk
  have hini' : (Cond.initialized cls).before args s' = true := vx_ot_at hW0 hvm.symm (hgood _ (List.mem_cons_of_mem _ List.mem_cons_self)) hini
  have hU' : vx_Zq Bundle.tN "UNASSIGNED_STACK" Bundle.steD A s' s'.heap := by rw [hhp]; exact vx_Zq.moved hW0.alike (hU.kept hS.2.1)
  have hN' : vx_Zq Bundle.tN "SUPPRESSED_SENTINEL" Bundle.listD A s' s'.heap := by rw [hhp]; exact vx_Zq.moved hW0.alike (hN.kept hS.2.1)
  have h : ∀ w ∈ Bundle.ownAtoms own ic cls names, w.before args s' = true := vx_own hat' (vx_isRefq hU'.1) (vx_isRefq hN'.1) hU'.2.word hN'.2.word
  have hown' : s'.vm.findClass own = some m.cls := by rw [hvm]; exact hown
  have hins : (Cond.instantiable cls 6).before args s' = true := h _ (by simp [Bundle.ownAtoms])
  obtain ⟨vm₁, cX, kX, hfX, hkX, -, -, X₁, st1⟩ := Y.newCold hexec (own := own) (C := cls) (index := ik) (n := 6) hown' hk' hins hini'
    (g := F0 m pc ls rest) rfl (by rw [hb]; exact d0) (Nat.le_refl _) (Nat.le_refl _)
  generalize hT1 : (T.setVm vm₁).pushCell { cls := cX, slots := kX.instanceTypes.map defaultValue, vm := .none } = T1 at X₁ st1
  have hcat : (Value.ref T.heap.size).category = 1 := rfl
  have hcellA : T1.heap[T.heap.size]? = some (freshCell cX kX) := by rw [← hT1]; exact State.heap_pushCell_size _ _
  have d3' : decode c.code (pc + 3) = .ok (.dup, 1) := by rw [hb]; exact d3
  have d4' : decode c.code (pc + 4) = .ok (.ldc is, 2) := by rw [hb]; exact d4
  have hstr' : vk_R own is text sa s' := vk_R.warm hW0 hstr
  obtain ⟨U, hsteps, hrun, hend, hW, hsame, ce, hce, hO⟩ := X₁.ctorThrowS hexec htr (own := own) (cls := cls) (names := names) (ic := ic) hown' hcls hnames h (fun x hx => nomatch hx) hfX hkX hcellA (by rw [hhp, hT]; exact Nat.le_refl _) (msg := .ref sa) rfl
    (g := { method := m, pc := pc + 6, locals := ls, stack := .ref sa :: .ref T.heap.size :: .ref T.heap.size :: rest, locked := none }) rfl hsize rfl rfl (rest := rest) rfl
    (by rw [hb]; exact d6) (by rw [hb]; exact d9) hout hRframes (by simp only [List.map_cons, List.sum_cons, hcat]; omega) hlocks
  obtain ⟨f1, f2⟩ := vx_frame hsame
  rw [hhp] at f1 f2
  have hWs : s.WarmedH U.vm := State.WarmedH.trans hW0 hW
  have hcl : s.vm.findClass cls = some ce.cls := by
    have h9 := hO.cls
    rw [hvm] at h9
    exact h9
  have hall : s.sameButNew ({ U with vm := s.vm } : State) locs mc ms := by
    subst hA
    obtain ⟨e1, e2⟩ := hsame
    rw [State.setFrames_setFrames] at e1
    have h2 : (T.setVm s.vm).sameButNew ({ U with vm := s.vm } : State) [] (0 + 1) (0 + 6) := ⟨e1, e2⟩
    have h3 := X.same.trans h2
    rw [List.append_nil] at h3
    exact h3.mono hc hs
  refine ⟨U, ?_, .threw T.heap.size, hrun, hend, Or.inr ⟨T.heap.size, rfl, cls, ce, locs, hx U hWs.alike f1 (fun q hq => f2 q hq (fun z hz => nomatch hz)), hce, hO.vm, hcl, hWs, hall, hf⟩⟩
  refine st1 _ ?_
  show Steps p.tables e below (T1.setTop { method := m, pc := pc + 3, locals := ls, stack := .ref T.heap.size :: rest, locked := none }) _
  jvm_step X₁.here [X₁.here.top, hexec, d3', Value.category]
  exact X₁.ldcString hexec (own := own) (text := text) (index := is) (a := sa) hown' hstr'.1 hstr'.2
    (g := { method := m, pc := pc + 4, locals := ls, stack := .ref T.heap.size :: .ref T.heap.size :: rest, locked := none }) rfl d4' _ hsteps
/-- 'throw new E("text")', the text by a wide index -/
theorem vx_throwSW {cc : ByteArray} {pc : Nat} (hexec : p.tables.exec = Jvm.exec) (hb : c.code = cc) (hl : l.stackTraces = false) {own cls text : String} {names : List String} {ik is ic mc ms sa : Nat} {A : Nat → Prop}
    (hown : s.vm.findClass own = some m.cls) (hcls : Bundle.fit cls = true) (hnames : ∀ n ∈ names, Bundle.fit n = true)
    (hk : (Cond.classLink own ik cls).before args s = true) (hini : (Cond.initialized cls).before args s = true) (hstr : vk_R own is text sa s) (hat : ∀ w ∈ vx_atS own ic cls names, w.before args s = true)
    (hgood : ∀ w ∈ Cond.classLink own ik cls :: Cond.initialized cls :: vx_atS own ic cls names, vx_ot w = true)
    (hU : vx_Zq Bundle.tN "UNASSIGNED_STACK" Bundle.steD A s s.heap) (hN : vx_Zq Bundle.tN "SUPPRESSED_SENTINEL" Bundle.listD A s s.heap) (hS : va_S A s.heap H locs) (hsize : ls.size = c.maxLocals)
    (d0 : decode cc pc = .ok (.new ik, 3)) (d3 : decode cc (pc + 3) = .ok (.dup, 1)) (d4 : decode cc (pc + 4) = .ok (.ldc_w is, 3)) (d7 : decode cc (pc + 7) = .ok (.invokespecial ic, 3)) (d10 : decode cc (pc + 10) = .ok (.athrow, 1))
    (hout : ∀ x ∈ c.exceptionTable.toList, covers x (pc + 10) = false)
    (hRframes : names.length + 3 < R.frames) (hRlocals : (rest.map fun v => v.category).sum + (13 * (names.length + 1) + 43) ≤ R.locals) (hRcells : cells + 1 ≤ R.cells) (hRslots : slots + 6 ≤ R.slots) (hlocks : meth.locks = false)
    (hx : ∀ t : State, s.vm.Alike t.vm → H.size ≤ t.heap.size → (∀ q : Nat, q < H.size → t.heap[q]? = H[q]?) → XC cls s t)
    (hf : ∀ z ∈ locs, free z.base) (hc : cells + 1 ≤ mc) (hs : slots + 6 ≤ ms) :
    W p l e R s m args below meth c H locs cells slots (vx_MQ below Qc XC args s mc ms free) (F0 m pc ls rest) := by
  intro T hT X
  have htr : e.platform.stackTraces = false := (show e.platform.stackTraces = l.stackTraces by rw [X.admits.platform]).trans hl
  have Y := vx_rebase X (R' := { frames := R.frames, locals := R.locals, cells := 1, slots := 6 }) (Nat.le_refl _) (Nat.le_refl _) hRcells hRslots
  obtain ⟨s', hA⟩ : ∃ z, z = (T.setVm s.vm).setFrames (.invoking m args :: below) := ⟨_, rfl⟩
  rw [← hA] at Y
  have hvm : s'.vm = s.vm := by rw [hA]; rfl
  have hhp : s'.heap = H := by rw [hA]; exact hT
  have hW0 : s.WarmedH s'.vm := by rw [hvm]; exact State.WarmedH.refl s
  have hat' : ∀ w ∈ vx_atS own ic cls names, w.before args s' = true := fun w hw => vx_ot_at hW0 hvm.symm (hgood w (List.mem_cons_of_mem _ (List.mem_cons_of_mem _ hw))) (hat w hw)
  have hk' : (Cond.classLink own ik cls).before args s' = true := vx_ot_at hW0 hvm.symm (hgood _ List.mem_cons_self) hk
  have hini' : (Cond.initialized cls).before args s' = true := vx_ot_at hW0 hvm.symm (hgood _ (List.mem_cons_of_mem _ List.mem_cons_self)) hini
  have hU' : vx_Zq Bundle.tN "UNASSIGNED_STACK" Bundle.steD A s' s'.heap := by rw [hhp]; exact vx_Zq.moved hW0.alike (hU.kept hS.2.1)
  have hN' : vx_Zq Bundle.tN "SUPPRESSED_SENTINEL" Bundle.listD A s' s'.heap := by rw [hhp]; exact vx_Zq.moved hW0.alike (hN.kept hS.2.1)
  have h : ∀ w ∈ Bundle.ownAtoms own ic cls names, w.before args s' = true := vx_own hat' (vx_isRefq hU'.1) (vx_isRefq hN'.1) hU'.2.word hN'.2.word
  have hown' : s'.vm.findClass own = some m.cls := by rw [hvm]; exact hown
  have hins : (Cond.instantiable cls 6).before args s' = true := h _ (by simp [Bundle.ownAtoms])
  obtain ⟨vm₁, cX, kX, hfX, hkX, -, -, X₁, st1⟩ := Y.newCold hexec (own := own) (C := cls) (index := ik) (n := 6) hown' hk' hins hini'
    (g := F0 m pc ls rest) rfl (by rw [hb]; exact d0) (Nat.le_refl _) (Nat.le_refl _)
  generalize hT1 : (T.setVm vm₁).pushCell { cls := cX, slots := kX.instanceTypes.map defaultValue, vm := .none } = T1 at X₁ st1
  have hcat : (Value.ref T.heap.size).category = 1 := rfl
  have hcellA : T1.heap[T.heap.size]? = some (freshCell cX kX) := by rw [← hT1]; exact State.heap_pushCell_size _ _
  have d3' : decode c.code (pc + 3) = .ok (.dup, 1) := by rw [hb]; exact d3
  have d4' : decode c.code (pc + 4) = .ok (.ldc_w is, 3) := by rw [hb]; exact d4
  have hstr' : vk_R own is text sa s' := vk_R.warm hW0 hstr
  obtain ⟨U, hsteps, hrun, hend, hW, hsame, ce, hce, hO⟩ := X₁.ctorThrowS hexec htr (own := own) (cls := cls) (names := names) (ic := ic) hown' hcls hnames h (fun x hx => nomatch hx) hfX hkX hcellA (by rw [hhp, hT]; exact Nat.le_refl _) (msg := .ref sa) rfl
    (g := { method := m, pc := pc + 7, locals := ls, stack := .ref sa :: .ref T.heap.size :: .ref T.heap.size :: rest, locked := none }) rfl hsize rfl rfl (rest := rest) rfl
    (by rw [hb]; exact d7) (by rw [hb]; exact d10) hout hRframes (by simp only [List.map_cons, List.sum_cons, hcat]; omega) hlocks
  obtain ⟨f1, f2⟩ := vx_frame hsame
  rw [hhp] at f1 f2
  have hWs : s.WarmedH U.vm := State.WarmedH.trans hW0 hW
  have hcl : s.vm.findClass cls = some ce.cls := by
    have h9 := hO.cls
    rw [hvm] at h9
    exact h9
  have hall : s.sameButNew ({ U with vm := s.vm } : State) locs mc ms := by
    subst hA
    obtain ⟨e1, e2⟩ := hsame
    rw [State.setFrames_setFrames] at e1
    have h2 : (T.setVm s.vm).sameButNew ({ U with vm := s.vm } : State) [] (0 + 1) (0 + 6) := ⟨e1, e2⟩
    have h3 := X.same.trans h2
    rw [List.append_nil] at h3
    exact h3.mono hc hs
  refine ⟨U, ?_, .threw T.heap.size, hrun, hend, Or.inr ⟨T.heap.size, rfl, cls, ce, locs, hx U hWs.alike f1 (fun q hq => f2 q hq (fun z hz => nomatch hz)), hce, hO.vm, hcl, hWs, hall, hf⟩⟩
  refine st1 _ ?_
  show Steps p.tables e below (T1.setTop { method := m, pc := pc + 3, locals := ls, stack := .ref T.heap.size :: rest, locked := none }) _
  jvm_step X₁.here [X₁.here.top, hexec, d3', Value.category]
  exact X₁.ldcStringW hexec (own := own) (text := text) (index := is) (a := sa) hown' hstr'.1 hstr'.2
    (g := { method := m, pc := pc + 4, locals := ls, stack := .ref T.heap.size :: .ref T.heap.size :: rest, locked := none }) rfl d4' _ hsteps
end Ends
section Bodies
variable {l : Launch}
theorem vx_ofW {y : MethodName} {ws ws' : List Cond} {rm : Room} {Pc : Array Value → State → Prop} {Qc : Array Value → State → Outcome → State → Prop} {XC : String → State → State → Prop} {mc ms : Nat} {free : Addr → Prop} {cc : ByteArray} {maxL : Nat} {ret : Option FieldType}
    (hy : plainName y.cls = true) (hw : ws = Cond.code y cc maxL ret :: ws')
    (body : ∀ p e s m args below meth c s₁, BodyLoose p l y (headSpec ws rm) cc maxL ret e s m args below meth c s₁ → c.maxLocals = maxL → (∀ x ∈ c.exceptionTable.toList, False) → Pc args s →
      W p l e (headSpec ws rm).room s m args below meth c s.heap [] 0 0 (vx_MQ below Qc XC args s mc ms free) (entryFrame m args maxL)) : vx_Met l y ws rm Pc Qc XC mc ms free := by
  refine MetFree.of_bodyS (code := cc) (maxLocals := maxL) (ret := ret) hy ?_ ?_
  · intro args s m h hn
    obtain ⟨meth, c, h1, h2, h3, h4, h5, h6, -, -⟩ := Cond.code_spec hn (atoms_spec (ws := ws) h _ (by rw [hw]; exact List.mem_cons_self))
    exact ⟨meth, c, h1, h2, h3, h4, h5, h6⟩
  · intro p e s m args below meth c s₁ B hml hP _
    have hh0 : s₁.heap = s.heap := by rw [B.state]; rfl
    have ht : ∀ x ∈ c.exceptionTable.toList, False := by
      obtain ⟨meth9, c9, h1, h2, -, -, -, -, h7, -⟩ := Cond.code_spec B.named (atoms_spec (ws := ws) B.pre _ (by rw [hw]; exact List.mem_cons_self))
      cases Option.some.inj (h1.symm.trans B.method)
      cases Option.some.inj (h2.symm.trans (Stand.of_body B).code)
      intro x hx
      rw [Array.isEmpty_iff.mp h7] at hx
      cases hx
    obtain ⟨t, a1, o, b1, b2, b3⟩ := body p e s m args below meth c s₁ B hml ht hP s₁ hh0 (Stand.of_body B)
    exact ⟨t, o, a1, b1, b2, b3⟩
/-- the table of a body with handlers -/
theorem vx_table {p : Program} {x y : MethodName} {S : Spec} {cc bytes : ByteArray} {maxL maxL' : Nat} {ret ret' : Option FieldType} {e : Env} {s s₁ : State} {m : MethodId} {args : Array Value} {below : List Frame} {meth : Method} {c : Code} {hh : List (Nat × Nat × Nat × Nat)}
    (B : BodyLoose p l y S cc maxL ret e s m args below meth c s₁) (h : (Cond.codeWith y bytes maxL' ret' hh).before args s = true) : c.exceptionTable.toList = tableOf hh := by
  obtain ⟨m9, meth9, c9, hn9, h1, h2, -, -, h6, -⟩ := Cond.codeWith_spec h
  cases Option.some.inj (hn9.symm.trans B.named)
  cases Option.some.inj (h1.symm.trans B.method)
  cases Option.some.inj (h2.symm.trans (Stand.of_body B).code)
  rw [← h6, table_eq]
end Bodies
end VXA
/-! ===== END ===== -/
/-! ===== BEGIN a static call of a method with an exception table ===== -/
section VXS
variable {p : Program} {l : Launch} {e : Env} {R : Room} {s : State} {m : MethodId} {args : Array Value} {below : List Frame} {meth : Method} {c : Code} {T : State} {H : Heap} {locs : List Loc} {cells slots : Nat}
abbrev vx_CSW (R : Room) (s : State) (args : Array Value) (own : String) (index : Nat) (y : MethodName) (bytes : ByteArray) (maxL : Nat) (ret : Option FieldType) (hh : List (Nat × Nat × Nat × Nat)) (ws : List Cond) (rm : Room) (mc ms n : Nat) : Prop :=
  (rm.cells = mc ∧ rm.slots = ms ∧ rm.frames + 1 ≤ R.frames ∧ 8 + (maxL + 11) + rm.locals ≤ R.locals ∧ (∀ w ∈ ws, ∀ (a' : Array Value) (U : State), s.WarmedH U.vm → w.before a' U = true) ∧ Cond.codeWith y bytes maxL ret hh ∈ ws) ∧
  (Cond.codeWith y bytes maxL ret hh).before args s = true ∧ (Cond.initialized y.cls).before args s = true ∧ (y.cls ≠ "java/lang/invoke/MethodHandle" ∧ y.cls ≠ "java/lang/invoke/VarHandle") ∧
  (∀ sig, parseMethodDescriptor y.desc = some sig → n = sig.parameters.length) ∧ (Cond.methodLink own index y).before args s = true ∧ (Cond.static y).before args s = true
theorem vx_cwSW {own : String} {index maxL mc ms : Nat} {y : MethodName} {bytes : ByteArray} {ret : Option FieldType} {hh : List (Nat × Nat × Nat × Nat)} {Ts ws ws' : List Cond} {rm : Room} (n : Nat) (ht : ∀ w ∈ Ts, w.before args s = true) (hT : GoodIn Ts (va_wsS own index y ws)) (hw : ws = Cond.codeWith y bytes maxL ret hh :: ws') (hrc : rm.cells = mc) (hrs : rm.slots = ms)
    (hd : y.cls ≠ "java/lang/invoke/MethodHandle" ∧ y.cls ≠ "java/lang/invoke/VarHandle" ∧ (parseMethodDescriptor y.desc).map (fun d => d.parameters.length) = some n) (hR : rm.frames + 1 ≤ R.frames ∧ 8 + (maxL + 11) + rm.locals ≤ R.locals) :
    vx_CSW R s args own index y bytes maxL ret hh ws rm mc ms n := by
  have ok : ∀ w ∈ va_wsS own index y ws, w.before args s = true := fun w h => ht w (hT w h).1
  have hG : GoodIn Ts ws := fun w h => hT w (by unfold va_wsS; exact List.mem_append_right _ h)
  have hc : Cond.codeWith y bytes maxL ret hh ∈ ws := by rw [hw]; exact List.mem_cons_self
  refine ⟨⟨hrc, hrs, hR.1, hR.2, pay_in ht hG, hc⟩, ht _ (hG _ hc).1, ok _ (by simp [va_wsS]), ⟨hd.1, hd.2.1⟩, fun sig h => ?_, ok _ (by simp [va_wsS]), ok _ (by simp [va_wsS])⟩
  have h2 := hd.2.2
  rw [h] at h2
  exact (Option.some.inj h2).symm
theorem vx_callSW (X : Stand p l e R s m args below meth c T locs cells slots) (hexec : p.tables.exec = Jvm.exec) {own : String} {index : Nat} {y : MethodName} {bytes : ByteArray} {maxL : Nat} {ret : Option FieldType} {hh : List (Nat × Nat × Nat × Nat)}
    (hown : s.vm.findClass own = some m.cls) (hlink : (Cond.methodLink own index y).before args s = true) (hstat : (Cond.static y).before args s = true) (hinit : (Cond.initialized y.cls).before args s = true)
    (hcode : (Cond.codeWith y bytes maxL ret hh).before args s = true) (hy : y.cls ≠ "java/lang/invoke/MethodHandle" ∧ y.cls ≠ "java/lang/invoke/VarHandle")
    {W9 : Nat} {Pre : Pt → Array Value → Prop} {Post : Pt → Array Value → Option Value → Pt → Prop} (hK : Back l R p e below s args y 3 W9 Pre Post)
    {g : JFrame} (hg : g.method = m) (hsize : g.locals.size = c.maxLocals) {argsL rest : List Value} (hlen : ∀ sig, parseMethodDescriptor y.desc = some sig → argsL.length = sig.parameters.length)
    (hstack : g.stack = argsL.reverse ++ rest) (hW : 2 * g.monitorRoom + (rest.map fun v => v.category).sum ≤ W9) (hdg : decode c.code g.pc = .ok (.invokestatic index, 3))
    (hpre : ∀ vm₁, s.WarmedH vm₁ → Pre ⟨T.setVm vm₁, locs, cells, slots⟩ argsL.toArray) :
    ∃ (v : Option Value) (vm₁ : Vm) (B : Pt), s.WarmedH vm₁ ∧ Stand p l e R s m args below meth c B.U B.locs B.cells B.slots ∧ Post ⟨T.setVm vm₁, locs, cells, slots⟩ argsL.toArray v B ∧
      ∀ target, Steps p.tables e below (B.U.setTop { g with pc := g.pc + 3, stack := v.toList ++ rest }) target → Steps p.tables e below (T.setTop g) target := by
  obtain ⟨mk, methM, cM, hnamed, hmethM, -, -, -, -, -, -, hsigM⟩ := Cond.codeWith_spec hcode
  have hstatic : methM.isStatic = true := Cond.static_spec hnamed hmethM hstat
  obtain ⟨kP, hkP, -⟩ := className_of_methodNamed hnamed
  have hinitP : kP.init = .initialized := Cond.initialized_spec (findClass_of_methodNamed hnamed) hkP hinit
  obtain ⟨vm₁, X₁, hstep₁⟩ := X.invokestatic hexec hown hlink hnamed hmethM hstatic hkP hinitP hy (g := g) hg (argsL := argsL) (rest := rest) (hlen _ hsigM) hstack hdg
  obtain ⟨v, B, X', hpost, hsteps⟩ := hK m meth c ⟨T.setVm vm₁, locs, cells, slots⟩ { g with stack := rest } (.invokestatic index) mk argsL.toArray X₁ hg hsize hdg hW (X₁.named hnamed) (hpre vm₁ X₁.warmed)
  exact ⟨v, vm₁, B, X₁.warmed, X', hpost, fun target h => hstep₁ _ fun acts => by rw [doInvoke_state]; exact hsteps.trans h⟩
theorem vx_runSW {y : MethodName} {bytes cc : ByteArray} {maxL nL mc ms n index : Nat} {ret : Option FieldType} {hh : List (Nat × Nat × Nat × Nat)} {ws : List Cond} {rm : Room} {Pc : Array Value → State → Prop} {Qc : Array Value → State → Outcome → State → Prop} {free : Addr → Prop} {Ts : List Cond} {own : String} {As rest : List Value} {g : JFrame}
    (S : CallFix p m c cc nL s args Ts own) (hM : Met l y ws rm Pc Qc mc ms free) (cw : vx_CSW R s args own index y bytes maxL ret hh ws rm mc ms n) (hp : PreS s H Pc As)
    (hg : g.method = m) (hn : As.length = n) (hsize : g.locals.size = nL) (hstack : g.stack = As.reverse ++ rest) (hW : 2 * g.monitorRoom + (rest.map fun v => v.category).sum ≤ 8) (hdg : decode cc g.pc = .ok (.invokestatic index, 3)) (hf : cells + mc ≤ R.cells ∧ slots + ms ≤ R.slots) :
    va_Run p l e R s m args below meth c H locs cells slots mc ms g rest (Qc As.toArray) (free) := by
  obtain ⟨⟨hrc, hrs, hfr, hlo, hws, hcw⟩, hcode, hini, hy, hlen, hl, hstt⟩ := cw
  have hK : Back l R p e below s args y 3 8 (PreOf R mc ms Pc) (PostOf Qc mc ms free) := va_backW (hh := hh) (bytes := bytes) (maxL := maxL) (ret := ret) hM hp.1 hrc hrs hfr hlo hws hcw (fun a' U hW => word_at hW (Or.inl (by first | rfl | simp [Cond.onTables, Cond.keeps, Cond.steady])) hini)
  obtain ⟨hx, hb, hml, ho, -⟩ := S
  intro T hT X
  obtain ⟨v, vm₁, ⟨U', l2, c2, s2⟩, hW₁, X', ⟨g', mk, t, L, e1, e2, hq, h1, hL, h2, h3⟩, st⟩ := vx_callSW X hx (hh := hh) (bytes := bytes) (maxL := maxL) (ret := ret) ho hl hstt hini hcode hy hK hg (hsize.trans hml.symm) (argsL := As) (rest := rest) (fun sig h => hn.trans (hlen sig h)) hstack hW (by rw [hb]; exact hdg)
    (fun vm₁ hW₁ => ⟨hf.1, hf.2, hp.2 (T.setVm vm₁) hT hW₁⟩)
  dsimp only [Pt.U, Pt.locs, Pt.cells, Pt.slots] at X' e1 e2 h1 h2 h3 st
  subst h1; subst h2; subst h3
  exact ⟨v, (T.setVm vm₁).calling g' mk As.toArray, t, U', L, hT, X', hL, e1, e2, hq, st⟩
/-- not caught here, past rows that name other classes: it goes on to the caller -/
theorem vx_outP {p : Program} {l : Launch} {e : Env} {R : Room} {s : State} {m : MethodId} {args : Array Value} {below : List Frame} {meth : Method} {c : Code} {H : Heap} {locs : List Loc} {cells slots : Nat} {free : Addr → Prop} {ls : Array Slot} {rest : List Value} {Qc : Array Value → State → Outcome → State → Prop} {XC : String → State → State → Prop}
    {pc : Nat} {own E : String} {ce : Cell} {q : Addr} {mc ms : Nat} (hown : s.vm.findClass own = some m.cls) (hlocks : meth.locks = false)
    (hpass : ∀ z ∈ c.exceptionTable.toList, covers z pc = false ∨ (z.catchType ≠ 0 ∧ ∃ nm : String, (Cond.classLink own z.catchType nm).before args s = true ∧ va_Nc E nm s)) (hcell : H[q]? = some ce) (hv : ce.vm = .none) (hcl : s.vm.findClass E = some ce.cls)
    (hx : ∀ t : State, t.heap = H → s.vm.Alike t.vm → XC E s t) (hf : ∀ z ∈ locs, free z.base) (hc : cells ≤ mc) (hs : slots ≤ ms) :
    vx_W p l e R s m args below meth c H locs cells slots (vx_MQ below Qc XC args s mc ms free) (F0 m pc ls rest) q := by
  intro T hT X
  have hpl : e.platform.magicAccessors = ({} : Platform).magicAccessors := by rw [X.admits.platform]
  obtain ⟨vm', hW', X', st⟩ := X.outThrough hlocks q (g := F0 m pc ls rest) rfl rfl rfl (cell := ce) (by rw [hT]; exact hcell) (by rw [hv]; rfl)
    (by obtain ⟨k9, h9, -⟩ := Vm.findClass_spec hcl; exact ⟨k9, h9⟩) (fun z hz => by
      rcases hpass z hz with h | ⟨hz0, nm, hl1, hn1⟩
      · exact Or.inl h
      · obtain ⟨c6, hc6, hcl6⟩ := Cond.classLink_spec hown hl1 e.platform hpl
        obtain ⟨a8, b8, h1, h2, h3⟩ := hn1
        cases Option.some.inj (h1.symm.trans hcl)
        cases Option.some.inj (h2.symm.trans hc6)
        exact Or.inr ⟨hz0, _, hcl6, h3⟩)
  obtain ⟨g₀, hfr⟩ := X'.frames_eq
  have hcell9 : ((T.setVm vm').setFrames (.throwing q :: below)).heap[q]? = some ce := by
    show T.heap[q]? = some ce
    rw [hT]; exact hcell
  have hend : Ended ((T.setVm vm').setFrames (.throwing q :: below)) below (.threw q) := State.frames_setFrames _ (State.cur_lt_of_frames hfr)
  refine ⟨(T.setVm vm').setFrames (.throwing q :: below), ?_, .threw q, X'.here.running, hend, Or.inr ⟨q, rfl, E, ce, locs, hx _ hT (X'.ends _).1.alike, hcell9, hv, hcl, (X'.ends _).1, (X'.ends _).2.mono hc hs, hf⟩⟩
  rw [X.pushThrowing_eq]
  exact st
/-- a thing of a world lies in the heap -/
theorem vx_lt {D : va_G} {cl : List vw_C} {ws : va_W} {H1 : Heap} (h : va_P D cl ws H1) {k : Nat} {q : Nat × va_E} (hk : ws[k]? = some q) : q.1 < H1.size := (h k q hk).lt
end VXS
/-! ===== END ===== -/
/-! ===== BEGIN methods with a table of their own: called by a name, returning or throwing ===== -/
section VXH
/-! vx_backW, vx_callVX, vx_callSX, vx_callVW, vx_runVW, vx_runVX, vx_runSX, vx_ofWH follow the same proofs as their sisters above (Free/Laws.lean, Shelf42/LK1.lean); vx_outP calls Shelf42/NT130.lean (outThrough). -/
section
variable {l : Launch} {R : Room} {p : Program} {e : Env} {below : List Frame} {s : State} {sargs : Array Value} {y : MethodName} {len W9 : Nat}
theorem vx_backW {ws : List Cond} {rm : Room} {Pc : Array Value → State → Prop} {Qc : Array Value → State → Outcome → State → Prop} {XC : String → State → State → Prop} {mc ms : Nat} {free : Addr → Prop} {bytes : ByteArray} {maxL : Nat} {ret : Option FieldType} {hh : List (Nat × Nat × Nat × Nat)}
    (hM : vx_Met l y ws rm Pc Qc XC mc ms free) (hblind : FrameBlind Pc) (hrc : rm.cells = mc) (hrs : rm.slots = ms)
    (hframes : rm.frames + 1 ≤ R.frames) (hlocals : W9 + (maxL + 11) + rm.locals ≤ R.locals)
    (hws : ∀ w ∈ ws, ∀ a' U, s.WarmedH U.vm → w.before a' U = true) (hcode : Cond.codeWith y bytes maxL ret hh ∈ ws) (hinit : ∀ a' U, s.WarmedH U.vm → (Cond.initialized y.cls).before a' U = true) :
    vx_Back l R p e below s sargs y len W9 (PreOf R mc ms Pc) (PostOf Qc mc ms free) (vx_Post XC mc ms free) := by
  intro m meth c A g ig mk a X hg hsize hdg hW hn hp
  have h1 : (headSpec ws rm).pre.before a A.U = true := atoms_intro fun w hw => hws w hw _ _ X.warmed
  have h2 : (Cond.codeWith y bytes maxL ret hh).before a A.U = true := hws _ hcode _ _ X.warmed
  have h3 : (Cond.initialized y.cls).before a A.U = true := hinit _ _ X.warmed
  have h4 : A.cells + (headSpec ws rm).room.cells ≤ R.cells := by rw [show (headSpec ws rm).room.cells = mc from hrc]; exact hp.1
  have h5 : A.slots + (headSpec ws rm).room.slots ≤ R.slots := by rw [show (headSpec ws rm).room.slots = ms from hrs]; exact hp.2.1
  have hPc : Pc a (A.U.calling g mk a) := hblind _ _ _ _ hp.2.2
  obtain ⟨U, Ls, c0, s0⟩ := A
  dsimp only [Pt.U, Pt.locs, Pt.cells, Pt.slots] at h1 h2 h3 h4 h5 X hn hPc ⊢
  obtain ⟨m9, methY, cY, hn9, hmY, hcY, -, hlY, -⟩ := Cond.codeWith_spec h2
  cases Option.some.inj (hn9.symm.trans hn)
  obtain ⟨kY, hkY, -⟩ := className_of_methodNamed hn
  have hinitY : kY.init = .initialized := Cond.initialized_spec (findClass_of_methodNamed hn) hkY h3
  have h : At U g.method c below := by rw [hg]; exact X.here
  have hlocals9 : W9 + (maxL + 11) + (headSpec ws rm).room.locals ≤ R.locals := hlocals
  have happ : (headSpec ws rm).appliesLoose y e.platform (U.calling g mk a) = true :=
    Spec.appliesLoose_calling (g := g) h hdg hn hkY hinitY
      (X.room_calling (g := g) (R' := (headSpec ws rm).room) hsize hmY hcY hframes (by rw [hlY]; omega) h4 h5) h1
  obtain ⟨mid, hmid⟩ := h.above
  have hfr : (U.setTop g).frames = (.java g :: mid) ++ below := by rw [State.frames_setTop' g h.top, hmid]; rfl
  obtain ⟨o, s₂, hsteps, -, hend, hq⟩ := Steps.callFree hM p X.admits X.cas X.clock (acts := []) hfr happ hPc trivial
  have hq' : vx_Q Qc XC mc ms free a (U.calling g mk a) o s₂ := hq
  rw [State.frames_setTop' g h.top] at hend
  obtain ⟨g₀, hg0⟩ := Option.isSome_iff_exists.mp h.top
  obtain ⟨r, hr⟩ := State.topJava?_eq_some.mp hg0
  have hr' : (({ U with heap := s₂.heap, slotsUsed := s₂.slotsUsed } : State).setVm s₂.vm).frames = .java g₀ :: r := hr
  rcases hq' with ⟨hqc, L, hfe, hL⟩ | ⟨q, rfl, E, ce, L, hx, hce, hcv, hcl, hW₂, hsm, hL⟩
  · obtain ⟨⟨v, rfl⟩, hW₂, e2, q2, q3, q4, q5, q6⟩ := id hfe
    have e3 : s₂ = ({ (U.calling g mk a).setFrames s₂.frames with heap := s₂.heap, slotsUsed := s₂.slotsUsed } : State).setVm s₂.vm := by
      have : s₂ = ({ s₂ with vm := (U.calling g mk a).vm } : State).setVm s₂.vm := rfl
      rw [e2] at this
      exact this
    obtain ⟨c₂, i₂, len₂, hc₂, hd₂, hf₂⟩ := hend
    have hW' : U.WarmedH s₂.vm := hW₂
    have hcc : c₂ = c := by
      have h1 : s₂.code? g.method = U.code? g.method := by
        rw [State.code?_eq, State.code?_eq, hW'.alike.method?]
      exact Option.some.inj (hc₂.symm.trans (h1.trans h.code))
    subst hcc
    have hlen : len₂ = len := by rw [hdg] at hd₂; cases hd₂; rfl
    subst hlen
    have hs₂ : s₂ = (({ U with heap := s₂.heap, slotsUsed := s₂.slotsUsed } : State).setVm s₂.vm).setTop { g with pc := g.pc + len₂, stack := v.toList ++ g.stack } := by
      refine e3.trans ?_
      rw [hf₂, State.calling_eq h.top, State.setFrames_setFrames, State.setTop_of_frames _ hr', hr]
      rfl
    have hsame : U.sameButNew ({ U with heap := s₂.heap, slotsUsed := s₂.slotsUsed } : State) L mc ms := by
      refine ⟨?_, q2, q3, q4, q5, q6⟩
      obtain ⟨t, ht, -⟩ := State.frames_cons hr
      show ({ U with heap := s₂.heap, slotsUsed := s₂.slotsUsed } : State) = { U.setFrames U.frames with heap := s₂.heap, slotsUsed := s₂.slotsUsed }
      rw [State.setFrames_self ht]
    subst hg
    refine Or.inl ⟨v, ⟨(({ U with heap := s₂.heap, slotsUsed := s₂.slotsUsed } : State).setVm s₂.vm), Ls ++ L, c0 + mc, s0 + ms⟩,
      ⟨X.admits, X.cas, X.clock, X.frames, X.room, X.hears, X.method, X.code, (X.here.setHeapUsed s₂.heap s₂.slotsUsed).setVm hW'.alike, X.tail, State.WarmedH.trans X.warmed hW', X.limits, X.bytes, X.same.trans (hsame.setVm s.vm)⟩,
      ⟨g, mk, s₂, L, rfl, rfl, hqc, rfl, hL, rfl, rfl⟩, ?_⟩
    show Steps p.tables e below _ ((({ U with heap := s₂.heap, slotsUsed := s₂.slotsUsed } : State).setVm s₂.vm).setTop { g with pc := g.pc + len₂, stack := v.toList ++ g.stack })
    rw [← hs₂]
    exact hsteps
  · obtain ⟨e2, q2, q3, q4, q5, q6⟩ := id hsm
    have e3 : s₂ = ({ (U.calling g mk a).setFrames s₂.frames with heap := s₂.heap, slotsUsed := s₂.slotsUsed } : State).setVm s₂.vm := by
      have : s₂ = ({ s₂ with vm := (U.calling g mk a).vm } : State).setVm s₂.vm := rfl
      rw [e2] at this
      exact this
    have hf₂ : s₂.frames = .throwing q :: .java g :: U.frames.tail := hend
    have hW' : U.WarmedH s₂.vm := hW₂
    have hs₂ : s₂ = ((({ U with heap := s₂.heap, slotsUsed := s₂.slotsUsed } : State).setVm s₂.vm).setTop g).pushFrame (.throwing q) := by
      refine e3.trans ?_
      rw [hf₂, State.calling_eq h.top, State.setFrames_setFrames, State.pushFrame, State.frames_setTop _ hr', State.setTop_of_frames _ hr', State.setFrames_setFrames, hr]
      rfl
    have hsame : U.sameButNew ({ U with heap := s₂.heap, slotsUsed := s₂.slotsUsed } : State) L mc ms := by
      refine ⟨?_, q2, q3, q4, q5, q6⟩
      obtain ⟨t, ht, -⟩ := State.frames_cons hr
      show ({ U with heap := s₂.heap, slotsUsed := s₂.slotsUsed } : State) = { U.setFrames U.frames with heap := s₂.heap, slotsUsed := s₂.slotsUsed }
      rw [State.setFrames_self ht]
    subst hg
    refine Or.inr ⟨q, ⟨(({ U with heap := s₂.heap, slotsUsed := s₂.slotsUsed } : State).setVm s₂.vm), Ls ++ L, c0 + mc, s0 + ms⟩,
      ⟨X.admits, X.cas, X.clock, X.frames, X.room, X.hears, X.method, X.code, (X.here.setHeapUsed s₂.heap s₂.slotsUsed).setVm hW'.alike, X.tail, State.WarmedH.trans X.warmed hW', X.limits, X.bytes, X.same.trans (hsame.setVm s.vm)⟩,
      ⟨g, mk, s₂, L, E, ce, rfl, rfl, hx, hce, hcv, hcl, rfl, hL, rfl, rfl⟩, ?_⟩
    show Steps p.tables e below _ (((({ U with heap := s₂.heap, slotsUsed := s₂.slotsUsed } : State).setVm s₂.vm).setTop g).pushFrame (.throwing q))
    rw [← hs₂]
    exact hsteps
end
variable {p : Program} {l : Launch} {e : Env} {R : Room} {s : State} {m : MethodId} {args : Array Value} {below : List Frame} {meth : Method} {c : Code} {T : State} {H : Heap} {locs : List Loc} {cells slots : Nat}
theorem vx_callVX (X : Stand p l e R s m args below meth c T locs cells slots) (hexec : p.tables.exec = Jvm.exec) {own C : String} {index : Nat} {y : MethodName} {bytes : ByteArray} {maxL : Nat} {ret : Option FieldType} {hh : List (Nat × Nat × Nat × Nat)}
    (hown : s.vm.findClass own = some m.cls) (hlink : (Cond.methodLink own index y).before args s = true) (hinst : (Cond.instanceMethod y).before args s = true) (hsel : (Cond.selects C y y).before args s = true)
    (hcode : (Cond.codeWith y bytes maxL ret hh).before args s = true) (hy : y.cls ≠ "java/lang/invoke/MethodHandle" ∧ y.cls ≠ "java/lang/invoke/VarHandle")
    {W9 : Nat} {Pre : Pt → Array Value → Prop} {Post : Pt → Array Value → Option Value → Pt → Prop} {PostX : Pt → Array Value → Addr → Pt → Prop} (hK : vx_Back l R p e below s args y 3 W9 Pre Post PostX)
    {b : Addr} {cellB : Cell} (hcell : T.heap[b]? = some cellB) (hobj : cellB.vm.isStatics = false) (hcls : s.vm.findClass C = some cellB.cls)
    {g : JFrame} (hg : g.method = m) (hsize : g.locals.size = c.maxLocals) {argsL rest : List Value} (hlen : ∀ sig, parseMethodDescriptor y.desc = some sig → argsL.length = sig.parameters.length)
    (hstack : g.stack = argsL.reverse ++ .ref b :: rest) (hW : 2 * g.monitorRoom + (rest.map fun v => v.category).sum ≤ W9) (hdg : decode c.code g.pc = .ok (.invokevirtual index, 3))
    (hpre : ∀ vm₁, s.WarmedH vm₁ → Pre ⟨T.setVm vm₁, locs, cells, slots⟩ (Value.ref b :: argsL).toArray) :
    (∃ (v : Option Value) (vm₁ : Vm) (B : Pt), s.WarmedH vm₁ ∧ Stand p l e R s m args below meth c B.U B.locs B.cells B.slots ∧ Post ⟨T.setVm vm₁, locs, cells, slots⟩ (Value.ref b :: argsL).toArray v B ∧
      ∀ target, Steps p.tables e below (B.U.setTop { g with pc := g.pc + 3, stack := v.toList ++ rest }) target → Steps p.tables e below (T.setTop g) target) ∨
    (∃ (q : Addr) (vm₁ : Vm) (B : Pt), s.WarmedH vm₁ ∧ Stand p l e R s m args below meth c B.U B.locs B.cells B.slots ∧ PostX ⟨T.setVm vm₁, locs, cells, slots⟩ (Value.ref b :: argsL).toArray q B ∧
      Steps p.tables e below (T.setTop g) ((B.U.setTop { g with stack := rest }).pushFrame (.throwing q))) := by
  obtain ⟨mk, methM, hnamed, hmethM, hstM, habM⟩ := Cond.instanceMethod_spec hinst
  obtain ⟨m8, methM', cM, hn8, hmethM', -, -, -, -, -, -, hsigM⟩ := Cond.codeWith_spec hcode
  cases Option.some.inj (hn8.symm.trans hnamed)
  cases hmethM.symm.trans hmethM'
  obtain ⟨c2, r2, m2, q1, q2, q3, q4, kP, hkP, hkPi⟩ := Cond.selects_spec hsel
  cases hcls.symm.trans q1
  cases (State.methodFound?_of_named hnamed hy).symm.trans q2
  cases hnamed.symm.trans q3
  have hselP : selectMethod e.platform s.vm cellB.cls mk = .method mk := by rw [Launch.admits_selectMethod X.admits]; exact q4
  obtain ⟨vm₁, X₁, hstep₁⟩ := X.invokevirtual hexec hown hlink hnamed hmethM hstM hkP hkPi hy (a := b) (cell := cellB) hcell
    (fun z h => by rw [h] at hobj; cases hobj) hselP hmethM habM hkP hkPi (g := g) hg (argsL := argsL) (rest := rest) (hlen _ hsigM) hstack hdg
  rcases hK m meth c ⟨T.setVm vm₁, locs, cells, slots⟩ { g with stack := rest } (.invokevirtual index) mk (Value.ref b :: argsL).toArray X₁ hg hsize hdg hW (X₁.named hnamed) (hpre vm₁ X₁.warmed) with ⟨v, B, X', hpost, hsteps⟩ | ⟨q, B, X', hpost, hsteps⟩
  · exact Or.inl ⟨v, vm₁, B, X₁.warmed, X', hpost, fun target h => hstep₁ _ fun acts => by rw [doInvoke_state]; exact hsteps.trans h⟩
  · exact Or.inr ⟨q, vm₁, B, X₁.warmed, X', hpost, hstep₁ _ fun acts => by rw [doInvoke_state]; exact hsteps⟩
theorem vx_callSX (X : Stand p l e R s m args below meth c T locs cells slots) (hexec : p.tables.exec = Jvm.exec) {own : String} {index : Nat} {y : MethodName} {bytes : ByteArray} {maxL : Nat} {ret : Option FieldType} {hh : List (Nat × Nat × Nat × Nat)}
    (hown : s.vm.findClass own = some m.cls) (hlink : (Cond.methodLink own index y).before args s = true) (hstat : (Cond.static y).before args s = true) (hinit : (Cond.initialized y.cls).before args s = true)
    (hcode : (Cond.codeWith y bytes maxL ret hh).before args s = true) (hy : y.cls ≠ "java/lang/invoke/MethodHandle" ∧ y.cls ≠ "java/lang/invoke/VarHandle")
    {W9 : Nat} {Pre : Pt → Array Value → Prop} {Post : Pt → Array Value → Option Value → Pt → Prop} {PostX : Pt → Array Value → Addr → Pt → Prop} (hK : vx_Back l R p e below s args y 3 W9 Pre Post PostX)
    {g : JFrame} (hg : g.method = m) (hsize : g.locals.size = c.maxLocals) {argsL rest : List Value} (hlen : ∀ sig, parseMethodDescriptor y.desc = some sig → argsL.length = sig.parameters.length)
    (hstack : g.stack = argsL.reverse ++ rest) (hW : 2 * g.monitorRoom + (rest.map fun v => v.category).sum ≤ W9) (hdg : decode c.code g.pc = .ok (.invokestatic index, 3))
    (hpre : ∀ vm₁, s.WarmedH vm₁ → Pre ⟨T.setVm vm₁, locs, cells, slots⟩ argsL.toArray) :
    (∃ (v : Option Value) (vm₁ : Vm) (B : Pt), s.WarmedH vm₁ ∧ Stand p l e R s m args below meth c B.U B.locs B.cells B.slots ∧ Post ⟨T.setVm vm₁, locs, cells, slots⟩ argsL.toArray v B ∧
      ∀ target, Steps p.tables e below (B.U.setTop { g with pc := g.pc + 3, stack := v.toList ++ rest }) target → Steps p.tables e below (T.setTop g) target) ∨
    (∃ (q : Addr) (vm₁ : Vm) (B : Pt), s.WarmedH vm₁ ∧ Stand p l e R s m args below meth c B.U B.locs B.cells B.slots ∧ PostX ⟨T.setVm vm₁, locs, cells, slots⟩ argsL.toArray q B ∧
      Steps p.tables e below (T.setTop g) ((B.U.setTop { g with stack := rest }).pushFrame (.throwing q))) := by
  obtain ⟨mk, methM, cM, hnamed, hmethM, -, -, -, -, -, -, hsigM⟩ := Cond.codeWith_spec hcode
  have hstatic : methM.isStatic = true := Cond.static_spec hnamed hmethM hstat
  obtain ⟨kP, hkP, -⟩ := className_of_methodNamed hnamed
  have hinitP : kP.init = .initialized := Cond.initialized_spec (findClass_of_methodNamed hnamed) hkP hinit
  obtain ⟨vm₁, X₁, hstep₁⟩ := X.invokestatic hexec hown hlink hnamed hmethM hstatic hkP hinitP hy (g := g) hg (argsL := argsL) (rest := rest) (hlen _ hsigM) hstack hdg
  rcases hK m meth c ⟨T.setVm vm₁, locs, cells, slots⟩ { g with stack := rest } (.invokestatic index) mk argsL.toArray X₁ hg hsize hdg hW (X₁.named hnamed) (hpre vm₁ X₁.warmed) with ⟨v, B, X', hpost, hsteps⟩ | ⟨q, B, X', hpost, hsteps⟩
  · exact Or.inl ⟨v, vm₁, B, X₁.warmed, X', hpost, fun target h => hstep₁ _ fun acts => by rw [doInvoke_state]; exact hsteps.trans h⟩
  · exact Or.inr ⟨q, vm₁, B, X₁.warmed, X', hpost, hstep₁ _ fun acts => by rw [doInvoke_state]; exact hsteps⟩
theorem vx_callVW (X : Stand p l e R s m args below meth c T locs cells slots) (hexec : p.tables.exec = Jvm.exec) {own C : String} {index : Nat} {y : MethodName} {bytes : ByteArray} {maxL : Nat} {ret : Option FieldType} {hh : List (Nat × Nat × Nat × Nat)}
    (hown : s.vm.findClass own = some m.cls) (hlink : (Cond.methodLink own index y).before args s = true) (hinst : (Cond.instanceMethod y).before args s = true) (hsel : (Cond.selects C y y).before args s = true)
    (hcode : (Cond.codeWith y bytes maxL ret hh).before args s = true) (hy : y.cls ≠ "java/lang/invoke/MethodHandle" ∧ y.cls ≠ "java/lang/invoke/VarHandle")
    {W9 : Nat} {Pre : Pt → Array Value → Prop} {Post : Pt → Array Value → Option Value → Pt → Prop} (hK : Back l R p e below s args y 3 W9 Pre Post)
    {b : Addr} {cellB : Cell} (hcell : T.heap[b]? = some cellB) (hobj : cellB.vm.isStatics = false) (hcls : s.vm.findClass C = some cellB.cls)
    {g : JFrame} (hg : g.method = m) (hsize : g.locals.size = c.maxLocals) {argsL rest : List Value} (hlen : ∀ sig, parseMethodDescriptor y.desc = some sig → argsL.length = sig.parameters.length)
    (hstack : g.stack = argsL.reverse ++ .ref b :: rest) (hW : 2 * g.monitorRoom + (rest.map fun v => v.category).sum ≤ W9) (hdg : decode c.code g.pc = .ok (.invokevirtual index, 3))
    (hpre : ∀ vm₁, s.WarmedH vm₁ → Pre ⟨T.setVm vm₁, locs, cells, slots⟩ (Value.ref b :: argsL).toArray) :
    ∃ (v : Option Value) (vm₁ : Vm) (B : Pt), s.WarmedH vm₁ ∧ Stand p l e R s m args below meth c B.U B.locs B.cells B.slots ∧ Post ⟨T.setVm vm₁, locs, cells, slots⟩ (Value.ref b :: argsL).toArray v B ∧
      ∀ target, Steps p.tables e below (B.U.setTop { g with pc := g.pc + 3, stack := v.toList ++ rest }) target → Steps p.tables e below (T.setTop g) target := by
  obtain ⟨mk, methM, hnamed, hmethM, hstM, habM⟩ := Cond.instanceMethod_spec hinst
  obtain ⟨m8, methM', cM, hn8, hmethM', -, -, -, -, -, -, hsigM⟩ := Cond.codeWith_spec hcode
  cases Option.some.inj (hn8.symm.trans hnamed)
  cases hmethM.symm.trans hmethM'
  obtain ⟨c2, r2, m2, q1, q2, q3, q4, kP, hkP, hkPi⟩ := Cond.selects_spec hsel
  cases hcls.symm.trans q1
  cases (State.methodFound?_of_named hnamed hy).symm.trans q2
  cases hnamed.symm.trans q3
  have hselP : selectMethod e.platform s.vm cellB.cls mk = .method mk := by rw [Launch.admits_selectMethod X.admits]; exact q4
  obtain ⟨vm₁, X₁, hstep₁⟩ := X.invokevirtual hexec hown hlink hnamed hmethM hstM hkP hkPi hy (a := b) (cell := cellB) hcell
    (fun z h => by rw [h] at hobj; cases hobj) hselP hmethM habM hkP hkPi (g := g) hg (argsL := argsL) (rest := rest) (hlen _ hsigM) hstack hdg
  obtain ⟨v, B, X', hpost, hsteps⟩ := hK m meth c ⟨T.setVm vm₁, locs, cells, slots⟩ { g with stack := rest } (.invokevirtual index) mk (Value.ref b :: argsL).toArray X₁ hg hsize hdg hW (X₁.named hnamed) (hpre vm₁ X₁.warmed)
  exact ⟨v, vm₁, B, X₁.warmed, X', hpost, fun target h => hstep₁ _ fun acts => by rw [doInvoke_state]; exact hsteps.trans h⟩
abbrev vx_CVW (R : Room) (s : State) (args : Array Value) (own C : String) (index : Nat) (y : MethodName) (bytes : ByteArray) (maxL : Nat) (ret : Option FieldType) (hh : List (Nat × Nat × Nat × Nat)) (ws : List Cond) (rm : Room) (mc ms n : Nat) : Prop :=
  (rm.cells = mc ∧ rm.slots = ms ∧ rm.frames + 1 ≤ R.frames ∧ 8 + (maxL + 11) + rm.locals ≤ R.locals ∧ (∀ w ∈ ws, ∀ (a' : Array Value) (U : State), s.WarmedH U.vm → w.before a' U = true) ∧ Cond.codeWith y bytes maxL ret hh ∈ ws) ∧
  (Cond.codeWith y bytes maxL ret hh).before args s = true ∧ (Cond.initialized y.cls).before args s = true ∧ (y.cls ≠ "java/lang/invoke/MethodHandle" ∧ y.cls ≠ "java/lang/invoke/VarHandle") ∧
  (∀ sig, parseMethodDescriptor y.desc = some sig → n = sig.parameters.length) ∧ (Cond.methodLink own index y).before args s = true ∧ (Cond.instanceMethod y).before args s = true ∧ (Cond.selects C y y).before args s = true
theorem vx_cwVW {own C : String} {index maxL mc ms : Nat} {y : MethodName} {bytes : ByteArray} {ret : Option FieldType} {hh : List (Nat × Nat × Nat × Nat)} {Ts ws ws' : List Cond} {rm : Room} (n : Nat) (ht : ∀ w ∈ Ts, w.before args s = true) (hT : GoodIn Ts (wsV own index C y ws)) (hw : ws = Cond.codeWith y bytes maxL ret hh :: ws') (hrc : rm.cells = mc) (hrs : rm.slots = ms)
    (hd : y.cls = C ∧ y.cls ≠ "java/lang/invoke/MethodHandle" ∧ y.cls ≠ "java/lang/invoke/VarHandle" ∧ (parseMethodDescriptor y.desc).map (fun d => d.parameters.length) = some n) (hR : rm.frames + 1 ≤ R.frames ∧ 8 + (maxL + 11) + rm.locals ≤ R.locals) :
    vx_CVW R s args own C index y bytes maxL ret hh ws rm mc ms n := by
  obtain ⟨hC, hd⟩ := hd
  subst hC
  have ok : ∀ w ∈ wsV own index y.cls y ws, w.before args s = true := fun w h => ht w (hT w h).1
  have hG : GoodIn Ts ws := fun w h => hT w (by unfold wsV; exact List.mem_append_right _ h)
  have hc : Cond.codeWith y bytes maxL ret hh ∈ ws := by rw [hw]; exact List.mem_cons_self
  refine ⟨⟨hrc, hrs, hR.1, hR.2, pay_in ht hG, hc⟩, ht _ (hG _ hc).1, ok _ (by simp [wsV]), ⟨hd.1, hd.2.1⟩, fun sig h => ?_, ok _ (by simp [wsV]), ok _ (by simp [wsV]), ok _ (by simp [wsV])⟩
  have h2 := hd.2.2
  rw [h] at h2
  exact (Option.some.inj h2).symm
theorem vx_runVW {y : MethodName} {bytes cc : ByteArray} {maxL nL mc ms n index : Nat} {ret : Option FieldType} {hh : List (Nat × Nat × Nat × Nat)} {ws : List Cond} {rm : Room} {Pc : Array Value → State → Prop} {Qc : Array Value → State → Outcome → State → Prop} {free : Addr → Prop} {Ts : List Cond} {own C : String} {b : Addr} {As rest : List Value} {g : JFrame}
    (S : CallFix p m c cc nL s args Ts own) (hM : Met l y ws rm Pc Qc mc ms free) (cw : vx_CVW R s args own C index y bytes maxL ret hh ws rm mc ms n) (hp : PreV s H C b Pc As)
    (hg : g.method = m) (hn : As.length = n) (hsize : g.locals.size = nL) (hstack : g.stack = As.reverse ++ .ref b :: rest) (hW : 2 * g.monitorRoom + (rest.map fun v => v.category).sum ≤ 8) (hdg : decode cc g.pc = .ok (.invokevirtual index, 3)) (hf : cells + mc ≤ R.cells ∧ slots + ms ≤ R.slots) :
    va_Run p l e R s m args below meth c H locs cells slots mc ms g rest (Qc (Value.ref b :: As).toArray) free := by
  obtain ⟨⟨hrc, hrs, hfr, hlo, hws, hcw⟩, hcode, hini, hy, hlen, hl, hin, hse⟩ := cw
  have hK : Back l R p e below s args y 3 8 (PreOf R mc ms Pc) (PostOf Qc mc ms free) := va_backW (hh := hh) (bytes := bytes) (maxL := maxL) (ret := ret) hM hp.1 hrc hrs hfr hlo hws hcw (fun a' U hW => word_at hW (Or.inl (by first | rfl | simp [Cond.onTables, Cond.keeps, Cond.steady])) hini)
  obtain ⟨hx, hb, hml, ho, -⟩ := S
  obtain ⟨-, ⟨cellB, hcB, hoB, hclB⟩, hPc⟩ := hp
  intro T hT X
  obtain ⟨v, vm₁, ⟨U', l2, c2, s2⟩, hW₁, X', ⟨g', mk, t, L, e1, e2, hq, h1, hL, h2, h3⟩, st⟩ := vx_callVW X hx (C := C) (hh := hh) (bytes := bytes) (maxL := maxL) (ret := ret) ho hl hin hse hcode hy hK (by rw [hT]; exact hcB) hoB hclB hg (hsize.trans hml.symm) (argsL := As) (rest := rest) (fun sig h => hn.trans (hlen sig h)) hstack hW (by rw [hb]; exact hdg)
    (fun vm₁ hW₁ => ⟨hf.1, hf.2, hPc (T.setVm vm₁) hT hW₁⟩)
  dsimp only [Pt.U, Pt.locs, Pt.cells, Pt.slots] at X' e1 e2 h1 h2 h3 st
  subst h1; subst h2; subst h3
  exact ⟨v, (T.setVm vm₁).calling g' mk (Value.ref b :: As).toArray, t, U', L, hT, X', hL, e1, e2, hq, st⟩
section
variable {y : MethodName} {bytes cc : ByteArray} {maxL nL mc ms n index : Nat} {ret : Option FieldType} {ws : List Cond} {rm : Room} {Pc : Array Value → State → Prop} {Qc : Array Value → State → Outcome → State → Prop} {XC : String → State → State → Prop} {free : Addr → Prop} {Ts : List Cond} {own C : String} {b : Addr} {As rest : List Value} {g : JFrame}
theorem vx_runVX {hh : List (Nat × Nat × Nat × Nat)} (S : CallFix p m c cc nL s args Ts own) (hM : vx_Met l y ws rm Pc Qc XC mc ms free) (cw : vx_CVW R s args own C index y bytes maxL ret hh ws rm mc ms n) (hp : PreV s H C b Pc As)
    (hg : g.method = m) (hn : As.length = n) (hsize : g.locals.size = nL) (hstack : g.stack = As.reverse ++ .ref b :: rest) (hW : 2 * g.monitorRoom + (rest.map fun v => v.category).sum ≤ 8) (hdg : decode cc g.pc = .ok (.invokevirtual index, 3)) (hf : cells + mc ≤ R.cells ∧ slots + ms ≤ R.slots) :
    vx_Run p l e R s m args below meth c H locs cells slots mc ms g rest (Qc (Value.ref b :: As).toArray) XC free := by
  obtain ⟨⟨hrc, hrs, hfr, hlo, hws, hcw⟩, hcode, hini, hy, hlen, hl, hin, hse⟩ := cw
  have hK : vx_Back l R p e below s args y 3 8 (PreOf R mc ms Pc) (PostOf Qc mc ms free) (vx_Post XC mc ms free) := vx_backW (hh := hh) (bytes := bytes) (maxL := maxL) (ret := ret) hM hp.1 hrc hrs hfr hlo hws hcw (fun a' U hW => word_at hW (Or.inl (by first | rfl | simp [Cond.onTables, Cond.keeps, Cond.steady])) hini)
  obtain ⟨hx, hb, hml, ho, -⟩ := S
  obtain ⟨-, ⟨cellB, hcB, hoB, hclB⟩, hPc⟩ := hp
  intro T hT X
  rcases vx_callVX X hx (C := C) (hh := hh) (bytes := bytes) (maxL := maxL) (ret := ret) ho hl hin hse hcode hy hK (by rw [hT]; exact hcB) hoB hclB hg (hsize.trans hml.symm) (argsL := As) (rest := rest) (fun sig h => hn.trans (hlen sig h)) hstack hW (by rw [hb]; exact hdg)
    (fun vm₁ hW₁ => ⟨hf.1, hf.2, hPc (T.setVm vm₁) hT hW₁⟩) with ⟨v, vm₁, ⟨U', l2, c2, s2⟩, hW₁, X', ⟨g', mk, t, L, e1, e2, hq, h1, hL, h2, h3⟩, st⟩ | ⟨q, vm₁, ⟨U', l2, c2, s2⟩, hW₁, X', ⟨g', mk, t, L, E, ce, e1, e2, hq, hce, hcv, hcl, h1, hL, h2, h3⟩, st⟩
  · dsimp only [Pt.U, Pt.locs, Pt.cells, Pt.slots] at X' e1 e2 h1 h2 h3 st
    subst h1; subst h2; subst h3
    exact Or.inl ⟨v, (T.setVm vm₁).calling g' mk (Value.ref b :: As).toArray, t, U', L, hT, X', hL, e1, e2, hq, st⟩
  · dsimp only [Pt.U, Pt.locs, Pt.cells, Pt.slots] at X' e1 e2 h1 h2 h3 st hcl
    subst h1; subst h2; subst h3
    exact Or.inr ⟨q, (T.setVm vm₁).calling g' mk (Value.ref b :: As).toArray, t, U', L, E, ce, hT, X', hL, e1, e2, hq, hce, hcv, vx_cls hW₁ hcl, st⟩
theorem vx_runSX {hh : List (Nat × Nat × Nat × Nat)} (S : CallFix p m c cc nL s args Ts own) (hM : vx_Met l y ws rm Pc Qc XC mc ms free) (cw : vx_CSW R s args own index y bytes maxL ret hh ws rm mc ms n) (hp : PreS s H Pc As)
    (hg : g.method = m) (hn : As.length = n) (hsize : g.locals.size = nL) (hstack : g.stack = As.reverse ++ rest) (hW : 2 * g.monitorRoom + (rest.map fun v => v.category).sum ≤ 8) (hdg : decode cc g.pc = .ok (.invokestatic index, 3)) (hf : cells + mc ≤ R.cells ∧ slots + ms ≤ R.slots) :
    vx_Run p l e R s m args below meth c H locs cells slots mc ms g rest (Qc As.toArray) XC free := by
  obtain ⟨⟨hrc, hrs, hfr, hlo, hws, hcw⟩, hcode, hini, hy, hlen, hl, hstt⟩ := cw
  have hK : vx_Back l R p e below s args y 3 8 (PreOf R mc ms Pc) (PostOf Qc mc ms free) (vx_Post XC mc ms free) := vx_backW (hh := hh) (bytes := bytes) (maxL := maxL) (ret := ret) hM hp.1 hrc hrs hfr hlo hws hcw (fun a' U hW => word_at hW (Or.inl (by first | rfl | simp [Cond.onTables, Cond.keeps, Cond.steady])) hini)
  obtain ⟨hx, hb, hml, ho, -⟩ := S
  intro T hT X
  rcases vx_callSX X hx (hh := hh) (bytes := bytes) (maxL := maxL) (ret := ret) ho hl hstt hini hcode hy hK hg (hsize.trans hml.symm) (argsL := As) (rest := rest) (fun sig h => hn.trans (hlen sig h)) hstack hW (by rw [hb]; exact hdg)
    (fun vm₁ hW₁ => ⟨hf.1, hf.2, hp.2 (T.setVm vm₁) hT hW₁⟩) with ⟨v, vm₁, ⟨U', l2, c2, s2⟩, hW₁, X', ⟨g', mk, t, L, e1, e2, hq, h1, hL, h2, h3⟩, st⟩ | ⟨q, vm₁, ⟨U', l2, c2, s2⟩, hW₁, X', ⟨g', mk, t, L, E, ce, e1, e2, hq, hce, hcv, hcl, h1, hL, h2, h3⟩, st⟩
  · dsimp only [Pt.U, Pt.locs, Pt.cells, Pt.slots] at X' e1 e2 h1 h2 h3 st
    subst h1; subst h2; subst h3
    exact Or.inl ⟨v, (T.setVm vm₁).calling g' mk As.toArray, t, U', L, hT, X', hL, e1, e2, hq, st⟩
  · dsimp only [Pt.U, Pt.locs, Pt.cells, Pt.slots] at X' e1 e2 h1 h2 h3 st hcl
    subst h1; subst h2; subst h3
    exact Or.inr ⟨q, (T.setVm vm₁).calling g' mk As.toArray, t, U', L, E, ce, hT, X', hL, e1, e2, hq, hce, hcv, vx_cls hW₁ hcl, st⟩
end
end VXH
theorem vx_ofWH {l : Launch} {y : MethodName} {ws ws' : List Cond} {rm : Room} {Pc : Array Value → State → Prop} {Qc : Array Value → State → Outcome → State → Prop} {XC : String → State → State → Prop} {mc ms : Nat} {free : Addr → Prop} {cc : ByteArray} {maxL : Nat} {ret : Option FieldType} {hh : List (Nat × Nat × Nat × Nat)}
    (hy : plainName y.cls = true) (hw : ws = Cond.codeWith y cc maxL ret hh :: ws')
    (body : ∀ p e s m args below meth c s₁, BodyLoose p l y (headSpec ws rm) cc maxL ret e s m args below meth c s₁ → c.maxLocals = maxL → Pc args s →
      W p l e (headSpec ws rm).room s m args below meth c s.heap [] 0 0 (vx_MQ below Qc XC args s mc ms free) (entryFrame m args maxL)) : vx_Met l y ws rm Pc Qc XC mc ms free := by
  refine MetFree.of_bodyS (code := cc) (maxLocals := maxL) (ret := ret) hy ?_ ?_
  · intro args s m h hn
    obtain ⟨m9, meth, c, hn9, h1, h2, h3, h4, -, h5, h6, -⟩ := Cond.codeWith_spec (atoms_spec (ws := ws) h _ (by rw [hw]; exact List.mem_cons_self))
    cases hn.symm.trans hn9
    exact ⟨meth, c, h1, h2, h3, h4, h5, h6⟩
  · intro p e s m args below meth c s₁ B hml hP _
    have hh0 : s₁.heap = s.heap := by rw [B.state]; rfl
    obtain ⟨t, a1, o, b1, b2, b3⟩ := body p e s m args below meth c s₁ B hml hP s₁ hh0 (Stand.of_body B)
    exact ⟨t, o, a1, b1, b2, b3⟩
/-! ===== END ===== -/
end
section
/-! ===== BEGIN printed: names, fields, word lists, decode rows ===== -/
def RX0 : String := "RosterPay$Rule"
def TX0 : u_T := fun k => match k with
  | 0 => ("RosterPay$Rule", "number", "I", true)
  | 1 => ("RosterPay$Rule", "weekdays", "I", true)
  | 2 => ("RosterPay$Rule", "from", "I", true)
  | 3 => ("RosterPay$Rule", "to", "I", true)
  | 4 => ("RosterPay$Rule", "ranks", "I", true)
  | 5 => ("RosterPay$Rule", "percent", "I", true)
  | _ => ("RosterPay$Rule", "isOn", "Z", false)
def tyX0 : Nat → FieldType := fun k => match k with
  | 0 => .int
  | 1 => .int
  | 2 => .int
  | 3 => .int
  | 4 => .int
  | 5 => .int
  | _ => .boolean
abbrev wsX00 : List Cond := u_ws RX0 TX0 7
theorem nmX0 : ∀ a, a < 7 → ∀ b, b < 7 → a ≠ b → (TX0 a).2.1 ≠ (TX0 b).2.1 := by decide +kernel
theorem tyX0_ok : ∀ k, k < 7 → parseFieldDescriptor (TX0 k).2.2.1 = some (tyX0 k) := by decide +kernel
abbrev cX0_init : ByteArray := prog_2_method_1_code
def yX0_init : MethodName := ⟨RX0, "<init>", "(IIIIII)V"⟩
abbrev cX0_appliesTo : ByteArray := prog_2_method_2_code
def yX0_appliesTo : MethodName := ⟨RX0, "appliesTo", "(IIIZ)Z"⟩
abbrev cX0_isForDay : ByteArray := prog_2_method_3_code
def yX0_isForDay : MethodName := ⟨RX0, "isForDay", "(IZ)Z"⟩
abbrev cX0_hasBit : ByteArray := prog_2_method_4_code
def yX0_hasBit : MethodName := ⟨RX0, "hasBit", "(II)Z"⟩
def RX1 : String := "RosterPay$Shift"
def TX1 : u_T := fun k => match k with
  | 0 => ("RosterPay$Shift", "worker", "LRosterPay$Worker;", true)
  | 1 => ("RosterPay$Shift", "start", "I", true)
  | 2 => ("RosterPay$Shift", "quarters", "I", true)
  | 3 => ("RosterPay$Shift", "breaksTaken", "I", false)
  | _ => ("RosterPay$Shift", "isCancelled", "Z", false)
def tyX1 : Nat → FieldType := fun k => match k with
  | 0 => .object "RosterPay$Worker"
  | 1 => .int
  | 2 => .int
  | 3 => .int
  | _ => .boolean
abbrev wsX10 : List Cond := u_ws RX1 TX1 5
theorem nmX1 : ∀ a, a < 5 → ∀ b, b < 5 → a ≠ b → (TX1 a).2.1 ≠ (TX1 b).2.1 := by decide +kernel
theorem tyX1_ok : ∀ k, k < 5 → parseFieldDescriptor (TX1 k).2.2.1 = some (tyX1 k) := by decide +kernel
abbrev cX1_init : ByteArray := prog_3_method_1_code
def yX1_init : MethodName := ⟨RX1, "<init>", "(LRosterPay$Worker;II)V"⟩
abbrev cX1_paidLength : ByteArray := prog_3_method_2_code
def yX1_paidLength : MethodName := ⟨RX1, "paidLength", "()I"⟩
abbrev cX1_dayOf : ByteArray := prog_3_method_3_code
def yX1_dayOf : MethodName := ⟨RX1, "dayOf", "(I)I"⟩
abbrev cX1_quarterOfDay : ByteArray := prog_3_method_4_code
def yX1_quarterOfDay : MethodName := ⟨RX1, "quarterOfDay", "(I)I"⟩
abbrev cX1_breaksMissed : ByteArray := prog_3_method_5_code
def yX1_breaksMissed : MethodName := ⟨RX1, "breaksMissed", "()I"⟩
abbrev cX1_breaksOwed : ByteArray := prog_3_method_6_code
def yX1_breaksOwed : MethodName := ⟨RX1, "breaksOwed", "()I"⟩
abbrev cX1_ownBetween : ByteArray := prog_3_method_7_code
def yX1_ownBetween : MethodName := ⟨RX1, "ownBetween", "(II)I"⟩
def RX2 : String := "RosterPay$Worker"
def TX2 : u_T := fun k => match k with
  | _ => ("RosterPay$Worker", "rank", "I", false)
def tyX2 : Nat → FieldType := fun k => match k with
  | _ => .int
abbrev wsX20 : List Cond := u_ws RX2 TX2 1
theorem nmX2 : ∀ a, a < 1 → ∀ b, b < 1 → a ≠ b → (TX2 a).2.1 ≠ (TX2 b).2.1 := by decide +kernel
theorem tyX2_ok : ∀ k, k < 1 → parseFieldDescriptor (TX2 k).2.2.1 = some (tyX2 k) := by decide +kernel
abbrev cX2_init : ByteArray := prog_4_method_1_code
def yX2_init : MethodName := ⟨RX2, "<init>", "(I)V"⟩
def RX3 : String := "RosterPay"
def TX3 : u_T := fun k => match k with
  | 0 => ("RosterPay", "bases", "[I", true)
  | 1 => ("RosterPay", "holidays", "[Z", true)
  | 2 => ("RosterPay", "rules", "Ljava/util/ArrayList;", true)
  | 3 => ("RosterPay", "workers", "Ljava/util/ArrayList;", true)
  | _ => ("RosterPay", "roster", "Ljava/util/ArrayList;", true)
def tyX3 : Nat → FieldType := fun k => match k with
  | 0 => .array .int
  | 1 => .array .boolean
  | 2 => .object "java/util/ArrayList"
  | 3 => .object "java/util/ArrayList"
  | _ => .object "java/util/ArrayList"
abbrev wsX30 : List Cond := u_ws RX3 TX3 5
theorem nmX3 : ∀ a, a < 5 → ∀ b, b < 5 → a ≠ b → (TX3 a).2.1 ≠ (TX3 b).2.1 := by decide +kernel
theorem tyX3_ok : ∀ k, k < 5 → parseFieldDescriptor (TX3 k).2.2.1 = some (tyX3 k) := by decide +kernel
abbrev cX3_init : ByteArray := prog_1_method_1_code
def yX3_init : MethodName := ⟨RX3, "<init>", "()V"⟩
abbrev cX3_setBase : ByteArray := prog_1_method_2_code
def yX3_setBase : MethodName := ⟨RX3, "setBase", "(II)I"⟩
abbrev cX3_addRule : ByteArray := prog_1_method_3_code
def yX3_addRule : MethodName := ⟨RX3, "addRule", "(IIIII)I"⟩
abbrev cX3_setRule : ByteArray := prog_1_method_4_code
def yX3_setRule : MethodName := ⟨RX3, "setRule", "(IZ)Z"⟩
abbrev cX3_setHoliday : ByteArray := prog_1_method_5_code
def yX3_setHoliday : MethodName := ⟨RX3, "setHoliday", "(IZ)Z"⟩
abbrev cX3_addWorker : ByteArray := prog_1_method_6_code
def yX3_addWorker : MethodName := ⟨RX3, "addWorker", "(I)I"⟩
abbrev cX3_setRank : ByteArray := prog_1_method_7_code
def yX3_setRank : MethodName := ⟨RX3, "setRank", "(II)I"⟩
abbrev cX3_addShift : ByteArray := prog_1_method_8_code
def yX3_addShift : MethodName := ⟨RX3, "addShift", "(IIII)I"⟩
abbrev cX3_cancel : ByteArray := prog_1_method_9_code
def yX3_cancel : MethodName := ⟨RX3, "cancel", "(I)I"⟩
abbrev cX3_takeBreaks : ByteArray := prog_1_method_10_code
def yX3_takeBreaks : MethodName := ⟨RX3, "takeBreaks", "(II)I"⟩
abbrev cX3_shifts : ByteArray := prog_1_method_11_code
def yX3_shifts : MethodName := ⟨RX3, "shifts", "()I"⟩
abbrev cX3_paidQuarters : ByteArray := prog_1_method_12_code
def yX3_paidQuarters : MethodName := ⟨RX3, "paidQuarters", "(I)I"⟩
abbrev cX3_percentAt : ByteArray := prog_1_method_13_code
def yX3_percentAt : MethodName := ⟨RX3, "percentAt", "(II)I"⟩
abbrev cX3_reasonAt : ByteArray := prog_1_method_14_code
def yX3_reasonAt : MethodName := ⟨RX3, "reasonAt", "(II)I"⟩
abbrev cX3_missed : ByteArray := prog_1_method_15_code
def yX3_missed : MethodName := ⟨RX3, "missed", "(I)I"⟩
abbrev cX3_pay : ByteArray := prog_1_method_16_code
def yX3_pay : MethodName := ⟨RX3, "pay", "(I)I"⟩
abbrev cX3_payOf : ByteArray := prog_1_method_17_code
def yX3_payOf : MethodName := ⟨RX3, "payOf", "(III)I"⟩
abbrev cX3_paidBy : ByteArray := prog_1_method_18_code
def yX3_paidBy : MethodName := ⟨RX3, "paidBy", "(I)I"⟩
abbrev cX3_worked : ByteArray := prog_1_method_19_code
def yX3_worked : MethodName := ⟨RX3, "worked", "(II)I"⟩
abbrev cX3_excess : ByteArray := prog_1_method_20_code
def yX3_excess : MethodName := ⟨RX3, "excess", "(II)I"⟩
abbrev cX3_checkArgument : ByteArray := prog_1_method_21_code
def yX3_checkArgument : MethodName := ⟨RX3, "checkArgument", "(III)V"⟩
abbrev cX3_checkNotCancelled : ByteArray := prog_1_method_22_code
def yX3_checkNotCancelled : MethodName := ⟨RX3, "checkNotCancelled", "(LRosterPay$Shift;)V"⟩
abbrev cX3_checkPaidQuarter : ByteArray := prog_1_method_23_code
def yX3_checkPaidQuarter : MethodName := ⟨RX3, "checkPaidQuarter", "(LRosterPay$Shift;I)V"⟩
abbrev cX3_findRule : ByteArray := prog_1_method_24_code
def yX3_findRule : MethodName := ⟨RX3, "findRule", "(I)LRosterPay$Rule;"⟩
abbrev cX3_findWorker : ByteArray := prog_1_method_25_code
def yX3_findWorker : MethodName := ⟨RX3, "findWorker", "(I)LRosterPay$Worker;"⟩
abbrev cX3_findShift : ByteArray := prog_1_method_26_code
def yX3_findShift : MethodName := ⟨RX3, "findShift", "(I)LRosterPay$Shift;"⟩
abbrev cX3_overtimePercent : ByteArray := prog_1_method_27_code
def yX3_overtimePercent : MethodName := ⟨RX3, "overtimePercent", "(I)I"⟩
abbrev cX3_decidingRule : ByteArray := prog_1_method_28_code
def yX3_decidingRule : MethodName := ⟨RX3, "decidingRule", "(LRosterPay$Shift;I)LRosterPay$Rule;"⟩
abbrev cX3_percentOf : ByteArray := prog_1_method_29_code
def yX3_percentOf : MethodName := ⟨RX3, "percentOf", "(LRosterPay$Shift;I)I"⟩
abbrev cX3_payFor : ByteArray := prog_1_method_30_code
def yX3_payFor : MethodName := ⟨RX3, "payFor", "(LRosterPay$Shift;)I"⟩
abbrev cX3_payByRule : ByteArray := prog_1_method_31_code
def yX3_payByRule : MethodName := ⟨RX3, "payByRule", "(LRosterPay$Shift;LRosterPay$Rule;)I"⟩
abbrev cX3_amount : ByteArray := prog_1_method_32_code
def yX3_amount : MethodName := ⟨RX3, "amount", "(II)I"⟩
abbrev cX3_baseOf : ByteArray := prog_1_method_33_code
def yX3_baseOf : MethodName := ⟨RX3, "baseOf", "(I)I"⟩
abbrev cX3_isHoliday : ByteArray := prog_1_method_34_code
def yX3_isHoliday : MethodName := ⟨RX3, "isHoliday", "(I)Z"⟩
abbrev cX3_overlapsAnother : ByteArray := prog_1_method_35_code
def yX3_overlapsAnother : MethodName := ⟨RX3, "overlapsAnother", "(LRosterPay$Worker;II)Z"⟩
abbrev cX3_workedInWeeks : ByteArray := prog_1_method_36_code
def yX3_workedInWeeks : MethodName := ⟨RX3, "workedInWeeks", "(LRosterPay$Worker;II)I"⟩
abbrev cX3_workedBetween : ByteArray := prog_1_method_37_code
def yX3_workedBetween : MethodName := ⟨RX3, "workedBetween", "(LRosterPay$Worker;II)I"⟩
def RX4 : String := "RosterPayModel"
def TX4 : u_T := fun k => match k with
  | 0 => ("RosterPayModel", "base", "[I", true)
  | 1 => ("RosterPayModel", "rules", "I", false)
  | 2 => ("RosterPayModel", "weekdays", "[I", true)
  | 3 => ("RosterPayModel", "from", "[I", true)
  | 4 => ("RosterPayModel", "to", "[I", true)
  | 5 => ("RosterPayModel", "ranks", "[I", true)
  | 6 => ("RosterPayModel", "percent", "[I", true)
  | 7 => ("RosterPayModel", "off", "[Z", true)
  | 8 => ("RosterPayModel", "holiday", "[Z", true)
  | 9 => ("RosterPayModel", "workers", "I", false)
  | 10 => ("RosterPayModel", "rank", "[I", true)
  | 11 => ("RosterPayModel", "shifts", "I", false)
  | 12 => ("RosterPayModel", "by", "[I", true)
  | 13 => ("RosterPayModel", "start", "[I", true)
  | 14 => ("RosterPayModel", "length", "[I", true)
  | 15 => ("RosterPayModel", "taken", "[I", true)
  | 16 => ("RosterPayModel", "gone", "[Z", true)
  | _ => ("RosterPayModel", "thrown", "I", false)
def tyX4 : Nat → FieldType := fun k => match k with
  | 0 => .array .int
  | 1 => .int
  | 2 => .array .int
  | 3 => .array .int
  | 4 => .array .int
  | 5 => .array .int
  | 6 => .array .int
  | 7 => .array .boolean
  | 8 => .array .boolean
  | 9 => .int
  | 10 => .array .int
  | 11 => .int
  | 12 => .array .int
  | 13 => .array .int
  | 14 => .array .int
  | 15 => .array .int
  | 16 => .array .boolean
  | _ => .int
abbrev wsX40 : List Cond := u_ws RX4 TX4 18
theorem nmX4 : ∀ a, a < 18 → ∀ b, b < 18 → a ≠ b → (TX4 a).2.1 ≠ (TX4 b).2.1 := by decide +kernel
theorem tyX4_ok : ∀ k, k < 18 → parseFieldDescriptor (TX4 k).2.2.1 = some (tyX4 k) := by decide +kernel
abbrev cX4_init : ByteArray := prog_6_method_1_code
def yX4_init : MethodName := ⟨RX4, "<init>", "()V"⟩
abbrev cX4_thrown : ByteArray := prog_6_method_2_code
def yX4_thrown : MethodName := ⟨RX4, "thrown", "()I"⟩
abbrev cX4_isIn : ByteArray := prog_6_method_3_code
def yX4_isIn : MethodName := ⟨RX4, "isIn", "(III)Z"⟩
abbrev cX4_setBase : ByteArray := prog_6_method_4_code
def yX4_setBase : MethodName := ⟨RX4, "setBase", "(II)I"⟩
abbrev cX4_addRule : ByteArray := prog_6_method_5_code
def yX4_addRule : MethodName := ⟨RX4, "addRule", "(IIIII)I"⟩
abbrev cX4_setRule : ByteArray := prog_6_method_6_code
def yX4_setRule : MethodName := ⟨RX4, "setRule", "(IZ)Z"⟩
abbrev cX4_setHoliday : ByteArray := prog_6_method_7_code
def yX4_setHoliday : MethodName := ⟨RX4, "setHoliday", "(IZ)Z"⟩
abbrev cX4_applies : ByteArray := prog_6_method_8_code
def yX4_applies : MethodName := ⟨RX4, "applies", "(III)Z"⟩
abbrev cX4_isWorker : ByteArray := prog_6_method_9_code
def yX4_isWorker : MethodName := ⟨RX4, "isWorker", "(I)Z"⟩
abbrev cX4_isShift : ByteArray := prog_6_method_10_code
def yX4_isShift : MethodName := ⟨RX4, "isShift", "(I)Z"⟩
abbrev cX4_addWorker : ByteArray := prog_6_method_11_code
def yX4_addWorker : MethodName := ⟨RX4, "addWorker", "(I)I"⟩
abbrev cX4_setRank : ByteArray := prog_6_method_12_code
def yX4_setRank : MethodName := ⟨RX4, "setRank", "(II)I"⟩
abbrev cX4_addShift : ByteArray := prog_6_method_13_code
def yX4_addShift : MethodName := ⟨RX4, "addShift", "(IIII)I"⟩
abbrev cX4_cancel : ByteArray := prog_6_method_14_code
def yX4_cancel : MethodName := ⟨RX4, "cancel", "(I)I"⟩
abbrev cX4_takeBreaks : ByteArray := prog_6_method_15_code
def yX4_takeBreaks : MethodName := ⟨RX4, "takeBreaks", "(II)I"⟩
abbrev cX4_shifts : ByteArray := prog_6_method_16_code
def yX4_shifts : MethodName := ⟨RX4, "shifts", "()I"⟩
abbrev cX4_paid : ByteArray := prog_6_method_17_code
def yX4_paid : MethodName := ⟨RX4, "paid", "(I)I"⟩
abbrev cX4_overtime : ByteArray := prog_6_method_18_code
def yX4_overtime : MethodName := ⟨RX4, "overtime", "(I)I"⟩
abbrev cX4_percented : ByteArray := prog_6_method_19_code
def yX4_percented : MethodName := ⟨RX4, "percented", "(II)I"⟩
abbrev cX4_reasoned : ByteArray := prog_6_method_20_code
def yX4_reasoned : MethodName := ⟨RX4, "reasoned", "(II)I"⟩
abbrev cX4_lacks : ByteArray := prog_6_method_21_code
def yX4_lacks : MethodName := ⟨RX4, "lacks", "(I)I"⟩
abbrev cX4_amount : ByteArray := prog_6_method_22_code
def yX4_amount : MethodName := ⟨RX4, "amount", "(II)I"⟩
abbrev cX4_payed : ByteArray := prog_6_method_23_code
def yX4_payed : MethodName := ⟨RX4, "payed", "(I)I"⟩
abbrev cX4_paidQuarters : ByteArray := prog_6_method_24_code
def yX4_paidQuarters : MethodName := ⟨RX4, "paidQuarters", "(I)I"⟩
abbrev cX4_isQuarter : ByteArray := prog_6_method_25_code
def yX4_isQuarter : MethodName := ⟨RX4, "isQuarter", "(II)Z"⟩
abbrev cX4_percentAt : ByteArray := prog_6_method_26_code
def yX4_percentAt : MethodName := ⟨RX4, "percentAt", "(II)I"⟩
abbrev cX4_reasonAt : ByteArray := prog_6_method_27_code
def yX4_reasonAt : MethodName := ⟨RX4, "reasonAt", "(II)I"⟩
abbrev cX4_missed : ByteArray := prog_6_method_28_code
def yX4_missed : MethodName := ⟨RX4, "missed", "(I)I"⟩
abbrev cX4_pay : ByteArray := prog_6_method_29_code
def yX4_pay : MethodName := ⟨RX4, "pay", "(I)I"⟩
abbrev cX4_payOf : ByteArray := prog_6_method_30_code
def yX4_payOf : MethodName := ⟨RX4, "payOf", "(III)I"⟩
abbrev cX4_paidBy : ByteArray := prog_6_method_31_code
def yX4_paidBy : MethodName := ⟨RX4, "paidBy", "(I)I"⟩
abbrev cX4_hours : ByteArray := prog_6_method_32_code
def yX4_hours : MethodName := ⟨RX4, "hours", "(III)I"⟩
abbrev cX4_worked : ByteArray := prog_6_method_33_code
def yX4_worked : MethodName := ⟨RX4, "worked", "(II)I"⟩
abbrev cX4_excess : ByteArray := prog_6_method_34_code
def yX4_excess : MethodName := ⟨RX4, "excess", "(II)I"⟩
def RJx145de : String := "java/io/Serializable"
def TJx145de : u_T := fun k => match k with
  | _ => ("", "", "", false)
def tyJx145de : Nat → FieldType := fun k => match k with
  | _ => .int
abbrev wsJx145de0 : List Cond := u_ws RJx145de TJx145de 0
theorem nmJx145de : ∀ a, a < 0 → ∀ b, b < 0 → a ≠ b → (TJx145de a).2.1 ≠ (TJx145de b).2.1 := by decide +kernel
theorem tyJx145de_ok : ∀ k, k < 0 → parseFieldDescriptor (TJx145de k).2.2.1 = some (tyJx145de k) := by decide +kernel
def RJx8e188 : String := "java/lang/Cloneable"
def TJx8e188 : u_T := fun k => match k with
  | _ => ("", "", "", false)
def tyJx8e188 : Nat → FieldType := fun k => match k with
  | _ => .int
abbrev wsJx8e1880 : List Cond := u_ws RJx8e188 TJx8e188 0
theorem nmJx8e188 : ∀ a, a < 0 → ∀ b, b < 0 → a ≠ b → (TJx8e188 a).2.1 ≠ (TJx8e188 b).2.1 := by decide +kernel
theorem tyJx8e188_ok : ∀ k, k < 0 → parseFieldDescriptor (TJx8e188 k).2.2.1 = some (tyJx8e188 k) := by decide +kernel
def RJxab1ab : String := "java/lang/Iterable"
def TJxab1ab : u_T := fun k => match k with
  | _ => ("", "", "", false)
def tyJxab1ab : Nat → FieldType := fun k => match k with
  | _ => .int
abbrev wsJxab1ab0 : List Cond := u_ws RJxab1ab TJxab1ab 0
theorem nmJxab1ab : ∀ a, a < 0 → ∀ b, b < 0 → a ≠ b → (TJxab1ab a).2.1 ≠ (TJxab1ab b).2.1 := by decide +kernel
theorem tyJxab1ab_ok : ∀ k, k < 0 → parseFieldDescriptor (TJxab1ab k).2.2.1 = some (tyJxab1ab k) := by decide +kernel
def RJ9 : String := "java/lang/Math"
def TJ9 : u_T := fun k => match k with
  | _ => ("", "", "", false)
def tyJ9 : Nat → FieldType := fun k => match k with
  | _ => .int
abbrev wsJ90 : List Cond := u_ws RJ9 TJ9 0
theorem nmJ9 : ∀ a, a < 0 → ∀ b, b < 0 → a ≠ b → (TJ9 a).2.1 ≠ (TJ9 b).2.1 := by decide +kernel
theorem tyJ9_ok : ∀ k, k < 0 → parseFieldDescriptor (TJ9 k).2.2.1 = some (tyJ9 k) := by decide +kernel
abbrev cJ9_max_7cf53 : ByteArray := prog_14_method_65_code
def yJ9_max_7cf53 : MethodName := ⟨RJ9, "max", "(II)I"⟩
abbrev cJ9_min_7cf53 : ByteArray := prog_14_method_69_code
def yJ9_min_7cf53 : MethodName := ⟨RJ9, "min", "(II)I"⟩
def RJ0 : String := "java/lang/String"
def TJ0 : u_T := fun k => match k with
  | _ => ("", "", "", false)
def tyJ0 : Nat → FieldType := fun k => match k with
  | _ => .int
abbrev wsJ00 : List Cond := u_ws RJ0 TJ0 0
theorem nmJ0 : ∀ a, a < 0 → ∀ b, b < 0 → a ≠ b → (TJ0 a).2.1 ≠ (TJ0 b).2.1 := by decide +kernel
theorem tyJ0_ok : ∀ k, k < 0 → parseFieldDescriptor (TJ0 k).2.2.1 = some (tyJ0 k) := by decide +kernel
def RJ10 : String := "java/lang/System"
def TJ10 : u_T := fun k => match k with
  | _ => ("", "", "", false)
def tyJ10 : Nat → FieldType := fun k => match k with
  | _ => .int
abbrev wsJ100 : List Cond := u_ws RJ10 TJ10 0
theorem nmJ10 : ∀ a, a < 0 → ∀ b, b < 0 → a ≠ b → (TJ10 a).2.1 ≠ (TJ10 b).2.1 := by decide +kernel
theorem tyJ10_ok : ∀ k, k < 0 → parseFieldDescriptor (TJ10 k).2.2.1 = some (tyJ10 k) := by decide +kernel
def RJxa1e45 : String := "java/util/AbstractCollection"
def TJxa1e45 : u_T := fun k => match k with
  | _ => ("", "", "", false)
def tyJxa1e45 : Nat → FieldType := fun k => match k with
  | _ => .int
abbrev wsJxa1e450 : List Cond := u_ws RJxa1e45 TJxa1e45 0
theorem nmJxa1e45 : ∀ a, a < 0 → ∀ b, b < 0 → a ≠ b → (TJxa1e45 a).2.1 ≠ (TJxa1e45 b).2.1 := by decide +kernel
theorem tyJxa1e45_ok : ∀ k, k < 0 → parseFieldDescriptor (TJxa1e45 k).2.2.1 = some (tyJxa1e45 k) := by decide +kernel
abbrev cJxa1e45_init_da8c8 : ByteArray := prog_19_method_1_code
def yJxa1e45_init_da8c8 : MethodName := ⟨RJxa1e45, "<init>", "()V"⟩
def RJxc12de : String := "java/util/AbstractList"
def TJxc12de : u_T := fun k => match k with
  | _ => ("", "", "", false)
def tyJxc12de : Nat → FieldType := fun k => match k with
  | _ => .int
abbrev wsJxc12de0 : List Cond := u_ws RJxc12de TJxc12de 0
theorem nmJxc12de : ∀ a, a < 0 → ∀ b, b < 0 → a ≠ b → (TJxc12de a).2.1 ≠ (TJxc12de b).2.1 := by decide +kernel
theorem tyJxc12de_ok : ∀ k, k < 0 → parseFieldDescriptor (TJxc12de k).2.2.1 = some (tyJxc12de k) := by decide +kernel
abbrev cJxc12de_init_da8c8 : ByteArray := prog_20_method_1_code
def yJxc12de_init_da8c8 : MethodName := ⟨RJxc12de, "<init>", "()V"⟩
def RJx4a65c : String := "java/util/ArrayList"
def TJx4a65c : u_T := fun k => match k with
  | 0 => ("java/util/AbstractList", "modCount", "I", false)
  | 1 => ("java/util/ArrayList", "elementData", "[Ljava/lang/Object;", false)
  | _ => ("java/util/ArrayList", "size", "I", false)
def tyJx4a65c : Nat → FieldType := fun k => match k with
  | 0 => .int
  | 1 => .array (.object "java/lang/Object")
  | _ => .int
abbrev wsJx4a65c0 : List Cond := u_ws RJx4a65c TJx4a65c 3
theorem nmJx4a65c : ∀ a, a < 3 → ∀ b, b < 3 → a ≠ b → (TJx4a65c a).2.1 ≠ (TJx4a65c b).2.1 := by decide +kernel
theorem tyJx4a65c_ok : ∀ k, k < 3 → parseFieldDescriptor (TJx4a65c k).2.2.1 = some (tyJx4a65c k) := by decide +kernel
abbrev cJx4a65c_init_da8c8 : ByteArray := prog_21_method_2_code
def yJx4a65c_init_da8c8 : MethodName := ⟨RJx4a65c, "<init>", "()V"⟩
abbrev cJx4a65c_grow_92f84 : ByteArray := prog_21_method_6_code
def yJx4a65c_grow_92f84 : MethodName := ⟨RJx4a65c, "grow", "(I)[Ljava/lang/Object;"⟩
abbrev cJx4a65c_grow_d5877 : ByteArray := prog_21_method_7_code
def yJx4a65c_grow_d5877 : MethodName := ⟨RJx4a65c, "grow", "()[Ljava/lang/Object;"⟩
abbrev cJx4a65c_size_8abf5 : ByteArray := prog_21_method_8_code
def yJx4a65c_size_8abf5 : MethodName := ⟨RJx4a65c, "size", "()I"⟩
abbrev cJx4a65c_elementData_915e3 : ByteArray := prog_21_method_18_code
def yJx4a65c_elementData_915e3 : MethodName := ⟨RJx4a65c, "elementData", "(I)Ljava/lang/Object;"⟩
abbrev cJx4a65c_get_915e3 : ByteArray := prog_21_method_20_code
def yJx4a65c_get_915e3 : MethodName := ⟨RJx4a65c, "get", "(I)Ljava/lang/Object;"⟩
abbrev cJx4a65c_add_72be8 : ByteArray := prog_21_method_24_code
def yJx4a65c_add_72be8 : MethodName := ⟨RJx4a65c, "add", "(Ljava/lang/Object;[Ljava/lang/Object;I)V"⟩
abbrev cJx4a65c_add_9ea2d : ByteArray := prog_21_method_25_code
def yJx4a65c_add_9ea2d : MethodName := ⟨RJx4a65c, "add", "(Ljava/lang/Object;)Z"⟩
def RJ7 : String := "java/util/Arrays"
def TJ7 : u_T := fun k => match k with
  | _ => ("", "", "", false)
def tyJ7 : Nat → FieldType := fun k => match k with
  | _ => .int
abbrev wsJ70 : List Cond := u_ws RJ7 TJ7 0
theorem nmJ7 : ∀ a, a < 0 → ∀ b, b < 0 → a ≠ b → (TJ7 a).2.1 ≠ (TJ7 b).2.1 := by decide +kernel
theorem tyJ7_ok : ∀ k, k < 0 → parseFieldDescriptor (TJ7 k).2.2.1 = some (tyJ7 k) := by decide +kernel
abbrev cJ7_fill_53178 : ByteArray := prog_22_method_103_code
def yJ7_fill_53178 : MethodName := ⟨RJ7, "fill", "([II)V"⟩
abbrev cJ7_copyOf_1904c : ByteArray := prog_22_method_119_code
def yJ7_copyOf_1904c : MethodName := ⟨RJ7, "copyOf", "([Ljava/lang/Object;I)[Ljava/lang/Object;"⟩
abbrev cJ7_copyOf_6403c : ByteArray := prog_22_method_120_code
def yJ7_copyOf_6403c : MethodName := ⟨RJ7, "copyOf", "([Ljava/lang/Object;ILjava/lang/Class;)[Ljava/lang/Object;"⟩
def RJx5ef63 : String := "java/util/Collection"
def TJx5ef63 : u_T := fun k => match k with
  | _ => ("", "", "", false)
def tyJx5ef63 : Nat → FieldType := fun k => match k with
  | _ => .int
abbrev wsJx5ef630 : List Cond := u_ws RJx5ef63 TJx5ef63 0
theorem nmJx5ef63 : ∀ a, a < 0 → ∀ b, b < 0 → a ≠ b → (TJx5ef63 a).2.1 ≠ (TJx5ef63 b).2.1 := by decide +kernel
theorem tyJx5ef63_ok : ∀ k, k < 0 → parseFieldDescriptor (TJx5ef63 k).2.2.1 = some (tyJx5ef63 k) := by decide +kernel
def RJxbd725 : String := "java/util/List"
def TJxbd725 : u_T := fun k => match k with
  | _ => ("", "", "", false)
def tyJxbd725 : Nat → FieldType := fun k => match k with
  | _ => .int
abbrev wsJxbd7250 : List Cond := u_ws RJxbd725 TJxbd725 0
theorem nmJxbd725 : ∀ a, a < 0 → ∀ b, b < 0 → a ≠ b → (TJxbd725 a).2.1 ≠ (TJxbd725 b).2.1 := by decide +kernel
theorem tyJxbd725_ok : ∀ k, k < 0 → parseFieldDescriptor (TJxbd725 k).2.2.1 = some (tyJxbd725 k) := by decide +kernel
def RJ15 : String := "java/util/Objects"
def TJ15 : u_T := fun k => match k with
  | _ => ("", "", "", false)
def tyJ15 : Nat → FieldType := fun k => match k with
  | _ => .int
abbrev wsJ150 : List Cond := u_ws RJ15 TJ15 0
theorem nmJ15 : ∀ a, a < 0 → ∀ b, b < 0 → a ≠ b → (TJ15 a).2.1 ≠ (TJ15 b).2.1 := by decide +kernel
theorem tyJ15_ok : ∀ k, k < 0 → parseFieldDescriptor (TJ15 k).2.2.1 = some (tyJ15 k) := by decide +kernel
abbrev cJ15_checkIndex_7cf53 : ByteArray := prog_25_method_17_code
def yJ15_checkIndex_7cf53 : MethodName := ⟨RJ15, "checkIndex", "(II)I"⟩
def RJxf0a74 : String := "java/util/RandomAccess"
def TJxf0a74 : u_T := fun k => match k with
  | _ => ("", "", "", false)
def tyJxf0a74 : Nat → FieldType := fun k => match k with
  | _ => .int
abbrev wsJxf0a740 : List Cond := u_ws RJxf0a74 TJxf0a74 0
theorem nmJxf0a74 : ∀ a, a < 0 → ∀ b, b < 0 → a ≠ b → (TJxf0a74 a).2.1 ≠ (TJxf0a74 b).2.1 := by decide +kernel
theorem tyJxf0a74_ok : ∀ k, k < 0 → parseFieldDescriptor (TJxf0a74 k).2.2.1 = some (tyJxf0a74 k) := by decide +kernel
def RJxa66e6 : String := "java/util/SequencedCollection"
def TJxa66e6 : u_T := fun k => match k with
  | _ => ("", "", "", false)
def tyJxa66e6 : Nat → FieldType := fun k => match k with
  | _ => .int
abbrev wsJxa66e60 : List Cond := u_ws RJxa66e6 TJxa66e6 0
theorem nmJxa66e6 : ∀ a, a < 0 → ∀ b, b < 0 → a ≠ b → (TJxa66e6 a).2.1 ≠ (TJxa66e6 b).2.1 := by decide +kernel
theorem tyJxa66e6_ok : ∀ k, k < 0 → parseFieldDescriptor (TJxa66e6 k).2.2.1 = some (tyJxa66e6 k) := by decide +kernel
def RJ8 : String := "jdk/internal/util/ArraysSupport"
def TJ8 : u_T := fun k => match k with
  | _ => ("", "", "", false)
def tyJ8 : Nat → FieldType := fun k => match k with
  | _ => .int
abbrev wsJ80 : List Cond := u_ws RJ8 TJ8 0
theorem nmJ8 : ∀ a, a < 0 → ∀ b, b < 0 → a ≠ b → (TJ8 a).2.1 ≠ (TJ8 b).2.1 := by decide +kernel
theorem tyJ8_ok : ∀ k, k < 0 → parseFieldDescriptor (TJ8 k).2.2.1 = some (tyJ8 k) := by decide +kernel
abbrev cJ8_newLength_cabcc : ByteArray := prog_28_method_27_code
def yJ8_newLength_cabcc : MethodName := ⟨RJ8, "newLength", "(III)I"⟩
abbrev cJ8_hugeLength_7cf53 : ByteArray := prog_28_method_28_code
def yJ8_hugeLength_7cf53 : MethodName := ⟨RJ8, "hugeLength", "(II)I"⟩
def RJ3 : String := "jdk/internal/util/Preconditions"
def TJ3 : u_T := fun k => match k with
  | _ => ("", "", "", false)
def tyJ3 : Nat → FieldType := fun k => match k with
  | _ => .int
abbrev wsJ30 : List Cond := u_ws RJ3 TJ3 0
theorem nmJ3 : ∀ a, a < 0 → ∀ b, b < 0 → a ≠ b → (TJ3 a).2.1 ≠ (TJ3 b).2.1 := by decide +kernel
theorem tyJ3_ok : ∀ k, k < 0 → parseFieldDescriptor (TJ3 k).2.2.1 = some (tyJ3 k) := by decide +kernel
abbrev cJ3_checkIndex_8e157 : ByteArray := prog_29_method_11_code
def yJ3_checkIndex_8e157 : MethodName := ⟨RJ3, "checkIndex", "(IILjava/util/function/BiFunction;)I"⟩
def RL : String := "RosterPayLaw"
abbrev cL_setBase : ByteArray := method_3_code
def yL_setBase : MethodName := ⟨RL, "setBase", "(LRosterPay;II[J)I"⟩
abbrev cL_addRule : ByteArray := method_4_code
def yL_addRule : MethodName := ⟨RL, "addRule", "(LRosterPay;IIIII[J)I"⟩
abbrev cL_setRule : ByteArray := method_5_code
def yL_setRule : MethodName := ⟨RL, "setRule", "(LRosterPay;IZ[J)I"⟩
abbrev cL_setHoliday : ByteArray := method_6_code
def yL_setHoliday : MethodName := ⟨RL, "setHoliday", "(LRosterPay;IZ[J)I"⟩
abbrev cL_addWorker : ByteArray := method_7_code
def yL_addWorker : MethodName := ⟨RL, "addWorker", "(LRosterPay;I[J)I"⟩
abbrev cL_setRank : ByteArray := method_8_code
def yL_setRank : MethodName := ⟨RL, "setRank", "(LRosterPay;II[J)I"⟩
abbrev cL_addShift : ByteArray := method_9_code
def yL_addShift : MethodName := ⟨RL, "addShift", "(LRosterPay;IIII[J)I"⟩
abbrev cL_cancel : ByteArray := method_10_code
def yL_cancel : MethodName := ⟨RL, "cancel", "(LRosterPay;I[J)I"⟩
abbrev cL_takeBreaks : ByteArray := method_11_code
def yL_takeBreaks : MethodName := ⟨RL, "takeBreaks", "(LRosterPay;II[J)I"⟩
abbrev cL_paidQuarters : ByteArray := method_12_code
def yL_paidQuarters : MethodName := ⟨RL, "paidQuarters", "(LRosterPay;I[J)I"⟩
abbrev cL_percentAt : ByteArray := method_13_code
def yL_percentAt : MethodName := ⟨RL, "percentAt", "(LRosterPay;II[J)I"⟩
abbrev cL_reasonAt : ByteArray := method_14_code
def yL_reasonAt : MethodName := ⟨RL, "reasonAt", "(LRosterPay;II[J)I"⟩
abbrev cL_missed : ByteArray := method_15_code
def yL_missed : MethodName := ⟨RL, "missed", "(LRosterPay;I[J)I"⟩
abbrev cL_pay : ByteArray := method_16_code
def yL_pay : MethodName := ⟨RL, "pay", "(LRosterPay;I[J)I"⟩
abbrev cL_payOf : ByteArray := method_17_code
def yL_payOf : MethodName := ⟨RL, "payOf", "(LRosterPay;III[J)I"⟩
abbrev cL_paidBy : ByteArray := method_18_code
def yL_paidBy : MethodName := ⟨RL, "paidBy", "(LRosterPay;I[J)I"⟩
abbrev cL_worked : ByteArray := method_19_code
def yL_worked : MethodName := ⟨RL, "worked", "(LRosterPay;II[J)I"⟩
abbrev cL_excess : ByteArray := method_20_code
def yL_excess : MethodName := ⟨RL, "excess", "(LRosterPay;II[J)I"⟩
abbrev cL_law : ByteArray := code
def yL_law : MethodName := ⟨RL, "law", "([I)Z"⟩
def wsX0_init : List Cond := .code yX0_init cX0_init 7 none :: ([.methodLink RX0 3 objectInit, .instanceMethod objectInit, .code objectInit ⟨#[0xb1]⟩ 1 none, .fieldLink RX0 9 "RosterPay$Rule" "number" "I", .fieldLink RX0 15 "RosterPay$Rule" "weekdays" "I", .fieldLink RX0 18 "RosterPay$Rule" "from" "I", .fieldLink RX0 21 "RosterPay$Rule" "to" "I", .fieldLink RX0 24 "RosterPay$Rule" "ranks" "I", .fieldLink RX0 27 "RosterPay$Rule" "percent" "I", .fieldLink RX0 30 "RosterPay$Rule" "isOn" "Z"] ++ wsX00)
def wsX0_hasBit : List Cond := .code yX0_hasBit cX0_hasBit 2 (some .boolean) :: ([])
def wsX0_isForDay : List Cond := .code yX0_isForDay cX0_isForDay 3 (some .boolean) :: ([.fieldLink RX0 15 "RosterPay$Rule" "weekdays" "I", .methodLink RX0 34 yX0_hasBit, .static yX0_hasBit, .initialized RX0, .code yX0_hasBit cX0_hasBit 2 (some .boolean)] ++ wsX00)
def wsX0_appliesTo : List Cond := .code yX0_appliesTo cX0_appliesTo 5 (some .boolean) :: ([.fieldLink RX0 30 "RosterPay$Rule" "isOn" "Z", .fieldLink RX0 24 "RosterPay$Rule" "ranks" "I", .fieldLink RX0 18 "RosterPay$Rule" "from" "I", .fieldLink RX0 21 "RosterPay$Rule" "to" "I", .methodLink RX0 34 yX0_hasBit, .static yX0_hasBit, .initialized RX0, .code yX0_hasBit cX0_hasBit 2 (some .boolean), .methodLink RX0 38 yX0_isForDay, .instanceMethod yX0_isForDay, .selects RX0 yX0_isForDay yX0_isForDay, .code yX0_isForDay cX0_isForDay 3 (some .boolean), .fieldLink RX0 15 "RosterPay$Rule" "weekdays" "I"] ++ wsX00)
def wsX1_init : List Cond := .code yX1_init cX1_init 4 none :: ([.methodLink RX1 3 objectInit, .instanceMethod objectInit, .code objectInit ⟨#[0xb1]⟩ 1 none, .fieldLink RX1 9 "RosterPay$Shift" "worker" "LRosterPay$Worker;", .fieldLink RX1 15 "RosterPay$Shift" "start" "I", .fieldLink RX1 19 "RosterPay$Shift" "quarters" "I", .fieldLink RX1 22 "RosterPay$Shift" "breaksTaken" "I", .fieldLink RX1 25 "RosterPay$Shift" "isCancelled" "Z"] ++ wsX10)
def wsX1_paidLength : List Cond := .code yX1_paidLength cX1_paidLength 1 (some .int) :: ([.fieldLink RX1 25 "RosterPay$Shift" "isCancelled" "Z", .fieldLink RX1 19 "RosterPay$Shift" "quarters" "I", .methodLink RX1 29 Lib.Math.max.name, .static Lib.Math.max.name, .initialized "java/lang/Math", .code Lib.Math.max.name Lib.Math.max.code 2 (some .int)] ++ wsX10)
def wsX1_dayOf : List Cond := .code yX1_dayOf cX1_dayOf 2 (some .int) :: ([.fieldLink RX1 15 "RosterPay$Shift" "start" "I"] ++ wsX10)
def wsX1_quarterOfDay : List Cond := .code yX1_quarterOfDay cX1_quarterOfDay 2 (some .int) :: ([.fieldLink RX1 15 "RosterPay$Shift" "start" "I"] ++ wsX10)
def wsX1_breaksOwed : List Cond := .code yX1_breaksOwed cX1_breaksOwed 1 (some .int) :: ([.fieldLink RX1 19 "RosterPay$Shift" "quarters" "I"] ++ wsX10)
def wsX1_breaksMissed : List Cond := .code yX1_breaksMissed cX1_breaksMissed 1 (some .int) :: ([.fieldLink RX1 25 "RosterPay$Shift" "isCancelled" "Z", .fieldLink RX1 22 "RosterPay$Shift" "breaksTaken" "I", .methodLink RX1 29 Lib.Math.max.name, .static Lib.Math.max.name, .initialized "java/lang/Math", .code Lib.Math.max.name Lib.Math.max.code 2 (some .int), .methodLink RX1 35 yX1_breaksOwed, .instanceMethod yX1_breaksOwed, .selects RX1 yX1_breaksOwed yX1_breaksOwed, .initialized RX1, .code yX1_breaksOwed cX1_breaksOwed 1 (some .int), .fieldLink RX1 19 "RosterPay$Shift" "quarters" "I"] ++ wsX10)
def wsX1_ownBetween : List Cond := .code yX1_ownBetween cX1_ownBetween 3 (some .int) :: ([.fieldLink RX1 15 "RosterPay$Shift" "start" "I", .fieldLink RX1 19 "RosterPay$Shift" "quarters" "I", .methodLink RX1 39 Lib.Math.min.name, .static Lib.Math.min.name, .initialized "java/lang/Math", .code Lib.Math.min.name Lib.Math.min.code 2 (some .int), .methodLink RX1 29 Lib.Math.max.name, .static Lib.Math.max.name, .code Lib.Math.max.name Lib.Math.max.code 2 (some .int)] ++ wsX10)
def wsX2_init : List Cond := .code yX2_init cX2_init 2 none :: ([.methodLink RX2 1 objectInit, .instanceMethod objectInit, .code objectInit ⟨#[0xb1]⟩ 1 none, .fieldLink RX2 7 "RosterPay$Worker" "rank" "I"] ++ wsX20)
def wsJ7_fill_53178 : List Cond := .code yJ7_fill_53178 cJ7_fill_53178 4 none :: ([])
def wsJxa1e45_init_da8c8 : List Cond := .code yJxa1e45_init_da8c8 cJxa1e45_init_da8c8 1 none :: ([.methodLink RJxa1e45 1 objectInit, .instanceMethod objectInit, .code objectInit ⟨#[0xb1]⟩ 1 none])
def wsJxc12de_init_da8c8 : List Cond := .code yJxc12de_init_da8c8 cJxc12de_init_da8c8 1 none :: ([.fieldLink RJxc12de 7 "java/util/AbstractList" "modCount" "I", .methodLink RJxc12de 1 yJxa1e45_init_da8c8, .instanceMethod yJxa1e45_init_da8c8, .initialized RJxa1e45, .code yJxa1e45_init_da8c8 cJxa1e45_init_da8c8 1 none, .methodLink RJxa1e45 1 objectInit, .instanceMethod objectInit, .code objectInit ⟨#[0xb1]⟩ 1 none] ++ wsJx4a65c0)
def wsJx4a65c_init_da8c8 : List Cond := .code yJx4a65c_init_da8c8 cJx4a65c_init_da8c8 1 none :: ([.fieldLink RJx4a65c 39 "java/util/ArrayList" "DEFAULTCAPACITY_EMPTY_ELEMENTDATA" "[Ljava/lang/Object;", .fieldLink RJx4a65c 9 "java/util/ArrayList" "elementData" "[Ljava/lang/Object;", .methodLink RJx4a65c 1 yJxc12de_init_da8c8, .instanceMethod yJxc12de_init_da8c8, .initialized RJxc12de, .code yJxc12de_init_da8c8 cJxc12de_init_da8c8 1 none, .fieldLink RJxc12de 7 "java/util/AbstractList" "modCount" "I", .methodLink RJxc12de 1 yJxa1e45_init_da8c8, .instanceMethod yJxa1e45_init_da8c8, .initialized RJxa1e45, .code yJxa1e45_init_da8c8 cJxa1e45_init_da8c8 1 none, .methodLink RJxa1e45 1 objectInit, .instanceMethod objectInit, .code objectInit ⟨#[0xb1]⟩ 1 none] ++ wsJx4a65c0)
def wsX3_init_r1 : List Cond := [Cond.methodLink RX3 3 objectInit, Cond.instanceMethod objectInit, Cond.code objectInit ⟨#[0xb1]⟩ 1 none, Cond.arrayClass .int, Cond.fieldLink RX3 9 "RosterPay" "bases" "[I", Cond.arrayClass .boolean, Cond.fieldLink RX3 19 "RosterPay" "holidays" "[Z", Cond.classLink RX3 23 RJx4a65c, Cond.instantiable RJx4a65c 3, Cond.initialized RJx4a65c, Cond.fieldLink RX3 26 "RosterPay" "rules" "Ljava/util/ArrayList;", Cond.fieldLink RX3 30 "RosterPay" "workers" "Ljava/util/ArrayList;", Cond.fieldLink RX3 33 "RosterPay" "roster" "Ljava/util/ArrayList;", Cond.methodLink RX3 13 yJ7_fill_53178, Cond.static yJ7_fill_53178, Cond.initialized RJ7, Cond.code yJ7_fill_53178 cJ7_fill_53178 4 none, Cond.methodLink RX3 25 yJx4a65c_init_da8c8, Cond.instanceMethod yJx4a65c_init_da8c8, Cond.code yJx4a65c_init_da8c8 cJx4a65c_init_da8c8 1 none, Cond.fieldLink RJx4a65c 39 "java/util/ArrayList" "DEFAULTCAPACITY_EMPTY_ELEMENTDATA" "[Ljava/lang/Object;", Cond.fieldLink RJx4a65c 9 "java/util/ArrayList" "elementData" "[Ljava/lang/Object;", Cond.methodLink RJx4a65c 1 yJxc12de_init_da8c8, Cond.instanceMethod yJxc12de_init_da8c8]
def wsX3_init_r2 : List Cond := [Cond.initialized RJxc12de, Cond.code yJxc12de_init_da8c8 cJxc12de_init_da8c8 1 none, Cond.fieldLink RJxc12de 7 "java/util/AbstractList" "modCount" "I", Cond.methodLink RJxc12de 1 yJxa1e45_init_da8c8, Cond.instanceMethod yJxa1e45_init_da8c8, Cond.initialized RJxa1e45, Cond.code yJxa1e45_init_da8c8 cJxa1e45_init_da8c8 1 none, Cond.methodLink RJxa1e45 1 objectInit]
def wsX3_init : List Cond := .code yX3_init cX3_init 1 none :: ((wsX3_init_r1 ++ wsX3_init_r2) ++ wsX30 ++ wsJx4a65c0)
def wsX3_checkArgument : List Cond := .code yX3_checkArgument cX3_checkArgument 3 none :: ([.classLink RX3 36 "java/lang/IllegalArgumentException", .initialized "java/lang/IllegalArgumentException"] ++ (vx_atS RX3 40 "java/lang/IllegalArgumentException" ["java/lang/RuntimeException", "java/lang/Exception"]).filter goodWord)
def wsX3_setBase : List Cond := .code yX3_setBase cX3_setBase 4 (some .int) :: ([.classLink RX3 36 "java/lang/IllegalArgumentException", .initialized "java/lang/IllegalArgumentException", .fieldLink RX3 9 "RosterPay" "bases" "[I", .methodLink RX3 43 yX3_checkArgument, .static yX3_checkArgument, .initialized RX3, .code yX3_checkArgument cX3_checkArgument 3 none] ++ wsX30 ++ (vx_atS RX3 40 "java/lang/IllegalArgumentException" ["java/lang/RuntimeException", "java/lang/Exception"]).filter goodWord)
def wsJx4a65c_size_8abf5 : List Cond := .code yJx4a65c_size_8abf5 cJx4a65c_size_8abf5 1 (some .int) :: ([.fieldLink RJx4a65c 48 "java/util/ArrayList" "size" "I"] ++ wsJx4a65c0)
def wsJ8_hugeLength_7cf53 : List Cond := .code yJ8_hugeLength_7cf53 cJ8_hugeLength_7cf53 3 (some .int) :: ([.constant RJ8 200 (2147483639)])
def wsJ8_newLength_cabcc : List Cond := .code yJ8_newLength_cabcc cJ8_newLength_cabcc 4 (some .int) :: ([.methodLink RJ8 194 Lib.Math.max.name, .static Lib.Math.max.name, .initialized "java/lang/Math", .code Lib.Math.max.name Lib.Math.max.code 2 (some .int), .constant RJ8 200 (2147483639), .methodLink RJ8 201 yJ8_hugeLength_7cf53, .static yJ8_hugeLength_7cf53, .initialized RJ8, .code yJ8_hugeLength_7cf53 cJ8_hugeLength_7cf53 3 (some .int)])
def wsJ7_copyOf_6403c : List Cond := .code yJ7_copyOf_6403c cJ7_copyOf_6403c 4 (some (.array (.object "java/lang/Object"))) :: ([.classLink RJ7 110 "[Ljava/lang/Object;", .classLink RJ7 2 "java/lang/Object", .methodLink RJ7 304 Lib.Math.min.name, .static Lib.Math.min.name, .initialized "java/lang/Math", .code Lib.Math.min.name Lib.Math.min.code 2 (some .int), .methodLink RJ7 150 arraycopyName, .native arraycopyName, .static arraycopyName, .initialized "java/lang/System"])
def wsJ7_copyOf_1904c : List Cond := .code yJ7_copyOf_1904c cJ7_copyOf_1904c 2 (some (.array (.object "java/lang/Object"))) :: ([.methodLink RJ7 86 ⟨"java/lang/Object", "getClass", "()Ljava/lang/Class;"⟩, .selects "[Ljava/lang/Object;" ⟨"java/lang/Object", "getClass", "()Ljava/lang/Class;"⟩ ⟨"java/lang/Object", "getClass", "()Ljava/lang/Class;"⟩, .instanceMethod ⟨"java/lang/Object", "getClass", "()Ljava/lang/Class;"⟩, .native ⟨"java/lang/Object", "getClass", "()Ljava/lang/Class;"⟩, .methodLink RJ7 300 yJ7_copyOf_6403c, .static yJ7_copyOf_6403c, .initialized RJ7, .code yJ7_copyOf_6403c cJ7_copyOf_6403c 4 (some (.array (.object "java/lang/Object"))), .classLink RJ7 110 "[Ljava/lang/Object;", .classLink RJ7 2 "java/lang/Object", .methodLink RJ7 304 Lib.Math.min.name, .static Lib.Math.min.name, .initialized "java/lang/Math", .code Lib.Math.min.name Lib.Math.min.code 2 (some .int), .methodLink RJ7 150 arraycopyName, .native arraycopyName, .static arraycopyName, .initialized "java/lang/System"])
def wsJx4a65c_grow_92f84_r1 : List Cond := [Cond.fieldLink RJx4a65c 9 "java/util/ArrayList" "elementData" "[Ljava/lang/Object;", Cond.fieldLink RJx4a65c 39 "java/util/ArrayList" "DEFAULTCAPACITY_EMPTY_ELEMENTDATA" "[Ljava/lang/Object;", Cond.methodLink RJx4a65c 79 Lib.Math.max.name, Cond.static Lib.Math.max.name, Cond.initialized "java/lang/Math", Cond.code Lib.Math.max.name Lib.Math.max.code 2 (some .int), Cond.classLink RJx4a65c 7 "java/lang/Object", Cond.methodLink RJx4a65c 73 yJ8_newLength_cabcc, Cond.static yJ8_newLength_cabcc, Cond.initialized RJ8, Cond.code yJ8_newLength_cabcc cJ8_newLength_cabcc 4 (some .int), Cond.methodLink RJ8 194 Lib.Math.max.name, Cond.constant RJ8 200 (2147483639), Cond.methodLink RJ8 201 yJ8_hugeLength_7cf53, Cond.static yJ8_hugeLength_7cf53, Cond.code yJ8_hugeLength_7cf53 cJ8_hugeLength_7cf53 3 (some .int), Cond.methodLink RJx4a65c 66 yJ7_copyOf_1904c, Cond.static yJ7_copyOf_1904c, Cond.initialized RJ7, Cond.code yJ7_copyOf_1904c cJ7_copyOf_1904c 2 (some (.array (.object "java/lang/Object"))), Cond.methodLink RJ7 86 ⟨"java/lang/Object", "getClass", "()Ljava/lang/Class;"⟩, Cond.selects "[Ljava/lang/Object;" ⟨"java/lang/Object", "getClass", "()Ljava/lang/Class;"⟩ ⟨"java/lang/Object", "getClass", "()Ljava/lang/Class;"⟩, Cond.instanceMethod ⟨"java/lang/Object", "getClass", "()Ljava/lang/Class;"⟩, Cond.native ⟨"java/lang/Object", "getClass", "()Ljava/lang/Class;"⟩]
def wsJx4a65c_grow_92f84_r2 : List Cond := [Cond.methodLink RJ7 300 yJ7_copyOf_6403c, Cond.static yJ7_copyOf_6403c, Cond.code yJ7_copyOf_6403c cJ7_copyOf_6403c 4 (some (.array (.object "java/lang/Object"))), Cond.classLink RJ7 110 "[Ljava/lang/Object;", Cond.classLink RJ7 2 "java/lang/Object", Cond.methodLink RJ7 304 Lib.Math.min.name, Cond.static Lib.Math.min.name, Cond.code Lib.Math.min.name Lib.Math.min.code 2 (some .int), Cond.methodLink RJ7 150 arraycopyName, Cond.native arraycopyName, Cond.static arraycopyName, Cond.initialized "java/lang/System"]
def wsJx4a65c_grow_92f84 : List Cond := .code yJx4a65c_grow_92f84 cJx4a65c_grow_92f84 4 (some (.array (.object "java/lang/Object"))) :: ((wsJx4a65c_grow_92f84_r1 ++ wsJx4a65c_grow_92f84_r2) ++ wsJx4a65c0)
def wsJx4a65c_grow_d5877_r1 : List Cond := [Cond.fieldLink RJx4a65c 48 "java/util/ArrayList" "size" "I", Cond.methodLink RJx4a65c 69 yJx4a65c_grow_92f84, Cond.instanceMethod yJx4a65c_grow_92f84, Cond.selects RJx4a65c yJx4a65c_grow_92f84 yJx4a65c_grow_92f84, Cond.initialized RJx4a65c, Cond.code yJx4a65c_grow_92f84 cJx4a65c_grow_92f84 4 (some (.array (.object "java/lang/Object"))), Cond.fieldLink RJx4a65c 9 "java/util/ArrayList" "elementData" "[Ljava/lang/Object;", Cond.fieldLink RJx4a65c 39 "java/util/ArrayList" "DEFAULTCAPACITY_EMPTY_ELEMENTDATA" "[Ljava/lang/Object;", Cond.methodLink RJx4a65c 79 Lib.Math.max.name, Cond.static Lib.Math.max.name, Cond.initialized "java/lang/Math", Cond.code Lib.Math.max.name Lib.Math.max.code 2 (some .int), Cond.classLink RJx4a65c 7 "java/lang/Object", Cond.methodLink RJx4a65c 73 yJ8_newLength_cabcc, Cond.static yJ8_newLength_cabcc, Cond.initialized RJ8, Cond.code yJ8_newLength_cabcc cJ8_newLength_cabcc 4 (some .int), Cond.methodLink RJ8 194 Lib.Math.max.name, Cond.constant RJ8 200 (2147483639), Cond.methodLink RJ8 201 yJ8_hugeLength_7cf53, Cond.static yJ8_hugeLength_7cf53, Cond.code yJ8_hugeLength_7cf53 cJ8_hugeLength_7cf53 3 (some .int), Cond.methodLink RJx4a65c 66 yJ7_copyOf_1904c, Cond.static yJ7_copyOf_1904c]
def wsJx4a65c_grow_d5877_r2 : List Cond := [Cond.initialized RJ7, Cond.code yJ7_copyOf_1904c cJ7_copyOf_1904c 2 (some (.array (.object "java/lang/Object"))), Cond.methodLink RJ7 86 ⟨"java/lang/Object", "getClass", "()Ljava/lang/Class;"⟩, Cond.selects "[Ljava/lang/Object;" ⟨"java/lang/Object", "getClass", "()Ljava/lang/Class;"⟩ ⟨"java/lang/Object", "getClass", "()Ljava/lang/Class;"⟩, Cond.instanceMethod ⟨"java/lang/Object", "getClass", "()Ljava/lang/Class;"⟩, Cond.native ⟨"java/lang/Object", "getClass", "()Ljava/lang/Class;"⟩, Cond.methodLink RJ7 300 yJ7_copyOf_6403c, Cond.static yJ7_copyOf_6403c, Cond.code yJ7_copyOf_6403c cJ7_copyOf_6403c 4 (some (.array (.object "java/lang/Object"))), Cond.classLink RJ7 110 "[Ljava/lang/Object;", Cond.classLink RJ7 2 "java/lang/Object", Cond.methodLink RJ7 304 Lib.Math.min.name, Cond.static Lib.Math.min.name, Cond.code Lib.Math.min.name Lib.Math.min.code 2 (some .int), Cond.methodLink RJ7 150 arraycopyName, Cond.native arraycopyName, Cond.static arraycopyName, Cond.initialized "java/lang/System"]
def wsJx4a65c_grow_d5877 : List Cond := .code yJx4a65c_grow_d5877 cJx4a65c_grow_d5877 1 (some (.array (.object "java/lang/Object"))) :: ((wsJx4a65c_grow_d5877_r1 ++ wsJx4a65c_grow_d5877_r2) ++ wsJx4a65c0)
def wsJx4a65c_add_72be8_r1 : List Cond := [Cond.fieldLink RJx4a65c 48 "java/util/ArrayList" "size" "I", Cond.methodLink RJx4a65c 129 yJx4a65c_grow_d5877, Cond.instanceMethod yJx4a65c_grow_d5877, Cond.selects RJx4a65c yJx4a65c_grow_d5877 yJx4a65c_grow_d5877, Cond.initialized RJx4a65c, Cond.code yJx4a65c_grow_d5877 cJx4a65c_grow_d5877 1 (some (.array (.object "java/lang/Object"))), Cond.methodLink RJx4a65c 69 yJx4a65c_grow_92f84, Cond.instanceMethod yJx4a65c_grow_92f84, Cond.selects RJx4a65c yJx4a65c_grow_92f84 yJx4a65c_grow_92f84, Cond.code yJx4a65c_grow_92f84 cJx4a65c_grow_92f84 4 (some (.array (.object "java/lang/Object"))), Cond.fieldLink RJx4a65c 9 "java/util/ArrayList" "elementData" "[Ljava/lang/Object;", Cond.fieldLink RJx4a65c 39 "java/util/ArrayList" "DEFAULTCAPACITY_EMPTY_ELEMENTDATA" "[Ljava/lang/Object;", Cond.methodLink RJx4a65c 79 Lib.Math.max.name, Cond.static Lib.Math.max.name, Cond.initialized "java/lang/Math", Cond.code Lib.Math.max.name Lib.Math.max.code 2 (some .int), Cond.classLink RJx4a65c 7 "java/lang/Object", Cond.methodLink RJx4a65c 73 yJ8_newLength_cabcc, Cond.static yJ8_newLength_cabcc, Cond.initialized RJ8, Cond.code yJ8_newLength_cabcc cJ8_newLength_cabcc 4 (some .int), Cond.methodLink RJ8 194 Lib.Math.max.name, Cond.constant RJ8 200 (2147483639), Cond.methodLink RJ8 201 yJ8_hugeLength_7cf53]
def wsJx4a65c_add_72be8_r2 : List Cond := [Cond.static yJ8_hugeLength_7cf53, Cond.code yJ8_hugeLength_7cf53 cJ8_hugeLength_7cf53 3 (some .int), Cond.methodLink RJx4a65c 66 yJ7_copyOf_1904c, Cond.static yJ7_copyOf_1904c, Cond.initialized RJ7, Cond.code yJ7_copyOf_1904c cJ7_copyOf_1904c 2 (some (.array (.object "java/lang/Object"))), Cond.methodLink RJ7 86 ⟨"java/lang/Object", "getClass", "()Ljava/lang/Class;"⟩, Cond.selects "[Ljava/lang/Object;" ⟨"java/lang/Object", "getClass", "()Ljava/lang/Class;"⟩ ⟨"java/lang/Object", "getClass", "()Ljava/lang/Class;"⟩, Cond.instanceMethod ⟨"java/lang/Object", "getClass", "()Ljava/lang/Class;"⟩, Cond.native ⟨"java/lang/Object", "getClass", "()Ljava/lang/Class;"⟩, Cond.methodLink RJ7 300 yJ7_copyOf_6403c, Cond.static yJ7_copyOf_6403c, Cond.code yJ7_copyOf_6403c cJ7_copyOf_6403c 4 (some (.array (.object "java/lang/Object"))), Cond.classLink RJ7 110 "[Ljava/lang/Object;", Cond.classLink RJ7 2 "java/lang/Object", Cond.methodLink RJ7 304 Lib.Math.min.name, Cond.static Lib.Math.min.name, Cond.code Lib.Math.min.name Lib.Math.min.code 2 (some .int), Cond.methodLink RJ7 150 arraycopyName, Cond.native arraycopyName, Cond.static arraycopyName, Cond.initialized "java/lang/System"]
def wsJx4a65c_add_72be8 : List Cond := .code yJx4a65c_add_72be8 cJx4a65c_add_72be8 4 none :: ((wsJx4a65c_add_72be8_r1 ++ wsJx4a65c_add_72be8_r2) ++ wsJx4a65c0)
def wsJx4a65c_add_9ea2d_r1 : List Cond := [Cond.fieldLink RJx4a65c 63 "java/util/ArrayList" "modCount" "I", Cond.sameField "java/util/ArrayList" "java/util/AbstractList" "modCount" "I", Cond.fieldLink RJx4a65c 9 "java/util/ArrayList" "elementData" "[Ljava/lang/Object;", Cond.fieldLink RJx4a65c 48 "java/util/ArrayList" "size" "I", Cond.methodLink RJx4a65c 131 yJx4a65c_add_72be8, Cond.instanceMethod yJx4a65c_add_72be8, Cond.selects RJx4a65c yJx4a65c_add_72be8 yJx4a65c_add_72be8, Cond.initialized RJx4a65c, Cond.code yJx4a65c_add_72be8 cJx4a65c_add_72be8 4 none, Cond.methodLink RJx4a65c 129 yJx4a65c_grow_d5877, Cond.instanceMethod yJx4a65c_grow_d5877, Cond.selects RJx4a65c yJx4a65c_grow_d5877 yJx4a65c_grow_d5877, Cond.code yJx4a65c_grow_d5877 cJx4a65c_grow_d5877 1 (some (.array (.object "java/lang/Object"))), Cond.methodLink RJx4a65c 69 yJx4a65c_grow_92f84, Cond.instanceMethod yJx4a65c_grow_92f84, Cond.selects RJx4a65c yJx4a65c_grow_92f84 yJx4a65c_grow_92f84, Cond.code yJx4a65c_grow_92f84 cJx4a65c_grow_92f84 4 (some (.array (.object "java/lang/Object"))), Cond.fieldLink RJx4a65c 39 "java/util/ArrayList" "DEFAULTCAPACITY_EMPTY_ELEMENTDATA" "[Ljava/lang/Object;", Cond.methodLink RJx4a65c 79 Lib.Math.max.name, Cond.static Lib.Math.max.name, Cond.initialized "java/lang/Math", Cond.code Lib.Math.max.name Lib.Math.max.code 2 (some .int), Cond.classLink RJx4a65c 7 "java/lang/Object", Cond.methodLink RJx4a65c 73 yJ8_newLength_cabcc]
def wsJx4a65c_add_9ea2d_r2 : List Cond := [Cond.static yJ8_newLength_cabcc, Cond.initialized RJ8, Cond.code yJ8_newLength_cabcc cJ8_newLength_cabcc 4 (some .int), Cond.methodLink RJ8 194 Lib.Math.max.name, Cond.constant RJ8 200 (2147483639), Cond.methodLink RJ8 201 yJ8_hugeLength_7cf53, Cond.static yJ8_hugeLength_7cf53, Cond.code yJ8_hugeLength_7cf53 cJ8_hugeLength_7cf53 3 (some .int), Cond.methodLink RJx4a65c 66 yJ7_copyOf_1904c, Cond.static yJ7_copyOf_1904c, Cond.initialized RJ7, Cond.code yJ7_copyOf_1904c cJ7_copyOf_1904c 2 (some (.array (.object "java/lang/Object"))), Cond.methodLink RJ7 86 ⟨"java/lang/Object", "getClass", "()Ljava/lang/Class;"⟩, Cond.selects "[Ljava/lang/Object;" ⟨"java/lang/Object", "getClass", "()Ljava/lang/Class;"⟩ ⟨"java/lang/Object", "getClass", "()Ljava/lang/Class;"⟩, Cond.instanceMethod ⟨"java/lang/Object", "getClass", "()Ljava/lang/Class;"⟩, Cond.native ⟨"java/lang/Object", "getClass", "()Ljava/lang/Class;"⟩, Cond.methodLink RJ7 300 yJ7_copyOf_6403c, Cond.static yJ7_copyOf_6403c, Cond.code yJ7_copyOf_6403c cJ7_copyOf_6403c 4 (some (.array (.object "java/lang/Object"))), Cond.classLink RJ7 110 "[Ljava/lang/Object;", Cond.classLink RJ7 2 "java/lang/Object", Cond.methodLink RJ7 304 Lib.Math.min.name, Cond.static Lib.Math.min.name, Cond.code Lib.Math.min.name Lib.Math.min.code 2 (some .int)]
def wsJx4a65c_add_9ea2d_r3 : List Cond := [Cond.methodLink RJ7 150 arraycopyName, Cond.native arraycopyName, Cond.static arraycopyName, Cond.initialized "java/lang/System"]
def wsJx4a65c_add_9ea2d : List Cond := .code yJx4a65c_add_9ea2d cJx4a65c_add_9ea2d 2 (some .boolean) :: ((wsJx4a65c_add_9ea2d_r1 ++ (wsJx4a65c_add_9ea2d_r2 ++ wsJx4a65c_add_9ea2d_r3)) ++ wsJx4a65c0)
def wsX3_addRule_r1 : List Cond := [Cond.classLink RX3 51 "java/lang/IllegalStateException", Cond.initialized "java/lang/IllegalStateException", Cond.fieldLink RX3 26 "RosterPay" "rules" "Ljava/util/ArrayList;", Cond.classLink RX3 56 RX0, Cond.instantiable RX0 7, Cond.initialized RX0, Cond.methodLink RX3 43 yX3_checkArgument, Cond.static yX3_checkArgument, Cond.initialized RX3, Cond.code yX3_checkArgument cX3_checkArgument 3 none, Cond.classLink RX3 36 "java/lang/IllegalArgumentException", Cond.initialized "java/lang/IllegalArgumentException", Cond.methodLink RX3 47 yJx4a65c_size_8abf5, Cond.instanceMethod yJx4a65c_size_8abf5, Cond.selects RJx4a65c yJx4a65c_size_8abf5 yJx4a65c_size_8abf5, Cond.initialized RJx4a65c, Cond.code yJx4a65c_size_8abf5 cJx4a65c_size_8abf5 1 (some .int), Cond.fieldLink RJx4a65c 48 "java/util/ArrayList" "size" "I", Cond.methodLink RX3 58 yX0_init, Cond.instanceMethod yX0_init, Cond.code yX0_init cX0_init 7 none, Cond.methodLink RX0 3 objectInit, Cond.instanceMethod objectInit, Cond.code objectInit ⟨#[0xb1]⟩ 1 none]
def wsX3_addRule_r2 : List Cond := [Cond.fieldLink RX0 9 "RosterPay$Rule" "number" "I", Cond.fieldLink RX0 15 "RosterPay$Rule" "weekdays" "I", Cond.fieldLink RX0 18 "RosterPay$Rule" "from" "I", Cond.fieldLink RX0 21 "RosterPay$Rule" "to" "I", Cond.fieldLink RX0 24 "RosterPay$Rule" "ranks" "I", Cond.fieldLink RX0 27 "RosterPay$Rule" "percent" "I", Cond.fieldLink RX0 30 "RosterPay$Rule" "isOn" "Z", Cond.methodLink RX3 61 yJx4a65c_add_9ea2d, Cond.instanceMethod yJx4a65c_add_9ea2d, Cond.selects RJx4a65c yJx4a65c_add_9ea2d yJx4a65c_add_9ea2d, Cond.code yJx4a65c_add_9ea2d cJx4a65c_add_9ea2d 2 (some .boolean), Cond.fieldLink RJx4a65c 63 "java/util/ArrayList" "modCount" "I", Cond.sameField "java/util/ArrayList" "java/util/AbstractList" "modCount" "I", Cond.fieldLink RJx4a65c 9 "java/util/ArrayList" "elementData" "[Ljava/lang/Object;", Cond.methodLink RJx4a65c 131 yJx4a65c_add_72be8, Cond.instanceMethod yJx4a65c_add_72be8, Cond.selects RJx4a65c yJx4a65c_add_72be8 yJx4a65c_add_72be8, Cond.code yJx4a65c_add_72be8 cJx4a65c_add_72be8 4 none, Cond.methodLink RJx4a65c 129 yJx4a65c_grow_d5877, Cond.instanceMethod yJx4a65c_grow_d5877, Cond.selects RJx4a65c yJx4a65c_grow_d5877 yJx4a65c_grow_d5877, Cond.code yJx4a65c_grow_d5877 cJx4a65c_grow_d5877 1 (some (.array (.object "java/lang/Object"))), Cond.methodLink RJx4a65c 69 yJx4a65c_grow_92f84, Cond.instanceMethod yJx4a65c_grow_92f84]
def wsX3_addRule_r3 : List Cond := [Cond.selects RJx4a65c yJx4a65c_grow_92f84 yJx4a65c_grow_92f84, Cond.code yJx4a65c_grow_92f84 cJx4a65c_grow_92f84 4 (some (.array (.object "java/lang/Object"))), Cond.fieldLink RJx4a65c 39 "java/util/ArrayList" "DEFAULTCAPACITY_EMPTY_ELEMENTDATA" "[Ljava/lang/Object;", Cond.methodLink RJx4a65c 79 Lib.Math.max.name, Cond.static Lib.Math.max.name, Cond.initialized "java/lang/Math", Cond.code Lib.Math.max.name Lib.Math.max.code 2 (some .int), Cond.classLink RJx4a65c 7 "java/lang/Object", Cond.methodLink RJx4a65c 73 yJ8_newLength_cabcc, Cond.static yJ8_newLength_cabcc, Cond.initialized RJ8, Cond.code yJ8_newLength_cabcc cJ8_newLength_cabcc 4 (some .int), Cond.methodLink RJ8 194 Lib.Math.max.name, Cond.constant RJ8 200 (2147483639), Cond.methodLink RJ8 201 yJ8_hugeLength_7cf53, Cond.static yJ8_hugeLength_7cf53, Cond.code yJ8_hugeLength_7cf53 cJ8_hugeLength_7cf53 3 (some .int), Cond.methodLink RJx4a65c 66 yJ7_copyOf_1904c, Cond.static yJ7_copyOf_1904c, Cond.initialized RJ7, Cond.code yJ7_copyOf_1904c cJ7_copyOf_1904c 2 (some (.array (.object "java/lang/Object"))), Cond.methodLink RJ7 86 ⟨"java/lang/Object", "getClass", "()Ljava/lang/Class;"⟩, Cond.selects "[Ljava/lang/Object;" ⟨"java/lang/Object", "getClass", "()Ljava/lang/Class;"⟩ ⟨"java/lang/Object", "getClass", "()Ljava/lang/Class;"⟩, Cond.instanceMethod ⟨"java/lang/Object", "getClass", "()Ljava/lang/Class;"⟩]
def wsX3_addRule_r4 : List Cond := [Cond.native ⟨"java/lang/Object", "getClass", "()Ljava/lang/Class;"⟩, Cond.methodLink RJ7 300 yJ7_copyOf_6403c, Cond.static yJ7_copyOf_6403c, Cond.code yJ7_copyOf_6403c cJ7_copyOf_6403c 4 (some (.array (.object "java/lang/Object"))), Cond.classLink RJ7 110 "[Ljava/lang/Object;", Cond.classLink RJ7 2 "java/lang/Object", Cond.methodLink RJ7 304 Lib.Math.min.name, Cond.static Lib.Math.min.name, Cond.code Lib.Math.min.name Lib.Math.min.code 2 (some .int), Cond.methodLink RJ7 150 arraycopyName, Cond.native arraycopyName, Cond.static arraycopyName, Cond.initialized "java/lang/System"]
def wsX3_addRule : List Cond := .code yX3_addRule cX3_addRule 7 (some .int) :: ((wsX3_addRule_r1 ++ (wsX3_addRule_r2 ++ (wsX3_addRule_r3 ++ wsX3_addRule_r4))) ++ wsX30 ++ wsX00 ++ wsJx4a65c0 ++ (vx_atS RX3 55 "java/lang/IllegalStateException" ["java/lang/RuntimeException", "java/lang/Exception"]).filter goodWord ++ (vx_atS RX3 40 "java/lang/IllegalArgumentException" ["java/lang/RuntimeException", "java/lang/Exception"]).filter goodWord)
def wsJ3_checkIndex_8e157 : List Cond := .code yJ3_checkIndex_8e157 cJ3_checkIndex_8e157 3 (some .int) :: ([])
def wsJ15_checkIndex_7cf53 : List Cond := .code yJ15_checkIndex_7cf53 cJ15_checkIndex_7cf53 2 (some .int) :: ([.methodLink RJ15 105 yJ3_checkIndex_8e157, .static yJ3_checkIndex_8e157, .initialized RJ3, .code yJ3_checkIndex_8e157 cJ3_checkIndex_8e157 3 (some .int)])
def wsJx4a65c_elementData_915e3 : List Cond := .code yJx4a65c_elementData_915e3 cJx4a65c_elementData_915e3 2 (some (.object "java/lang/Object")) :: ([.fieldLink RJx4a65c 9 "java/util/ArrayList" "elementData" "[Ljava/lang/Object;"] ++ wsJx4a65c0)
def wsJx4a65c_get_915e3 : List Cond := .code yJx4a65c_get_915e3 cJx4a65c_get_915e3 2 (some (.object "java/lang/Object")) :: ([.fieldLink RJx4a65c 48 "java/util/ArrayList" "size" "I", .methodLink RJx4a65c 118 yJ15_checkIndex_7cf53, .static yJ15_checkIndex_7cf53, .initialized RJ15, .code yJ15_checkIndex_7cf53 cJ15_checkIndex_7cf53 2 (some .int), .methodLink RJ15 105 yJ3_checkIndex_8e157, .static yJ3_checkIndex_8e157, .initialized RJ3, .code yJ3_checkIndex_8e157 cJ3_checkIndex_8e157 3 (some .int), .methodLink RJx4a65c 123 yJx4a65c_elementData_915e3, .instanceMethod yJx4a65c_elementData_915e3, .selects RJx4a65c yJx4a65c_elementData_915e3 yJx4a65c_elementData_915e3, .initialized RJx4a65c, .code yJx4a65c_elementData_915e3 cJx4a65c_elementData_915e3 2 (some (.object "java/lang/Object")), .fieldLink RJx4a65c 9 "java/util/ArrayList" "elementData" "[Ljava/lang/Object;"] ++ wsJx4a65c0)
def wsX3_findRule_r1 : List Cond := [Cond.classLink RX3 170 "java/lang/IndexOutOfBoundsException", Cond.initialized "java/lang/IndexOutOfBoundsException", Cond.fieldLink RX3 26 "RosterPay" "rules" "Ljava/util/ArrayList;", Cond.classLink RX3 56 "RosterPay$Rule", Cond.methodLink RX3 47 yJx4a65c_size_8abf5, Cond.instanceMethod yJx4a65c_size_8abf5, Cond.selects RJx4a65c yJx4a65c_size_8abf5 yJx4a65c_size_8abf5, Cond.initialized RJx4a65c, Cond.code yJx4a65c_size_8abf5 cJx4a65c_size_8abf5 1 (some .int), Cond.fieldLink RJx4a65c 48 "java/util/ArrayList" "size" "I", Cond.methodLink RX3 140 yJx4a65c_get_915e3, Cond.instanceMethod yJx4a65c_get_915e3, Cond.selects RJx4a65c yJx4a65c_get_915e3 yJx4a65c_get_915e3, Cond.code yJx4a65c_get_915e3 cJx4a65c_get_915e3 2 (some (.object "java/lang/Object")), Cond.methodLink RJx4a65c 118 yJ15_checkIndex_7cf53, Cond.static yJ15_checkIndex_7cf53, Cond.initialized RJ15, Cond.code yJ15_checkIndex_7cf53 cJ15_checkIndex_7cf53 2 (some .int), Cond.methodLink RJ15 105 yJ3_checkIndex_8e157, Cond.static yJ3_checkIndex_8e157, Cond.initialized RJ3, Cond.code yJ3_checkIndex_8e157 cJ3_checkIndex_8e157 3 (some .int), Cond.methodLink RJx4a65c 123 yJx4a65c_elementData_915e3, Cond.instanceMethod yJx4a65c_elementData_915e3]
def wsX3_findRule_r2 : List Cond := [Cond.selects RJx4a65c yJx4a65c_elementData_915e3 yJx4a65c_elementData_915e3, Cond.code yJx4a65c_elementData_915e3 cJx4a65c_elementData_915e3 2 (some (.object "java/lang/Object")), Cond.fieldLink RJx4a65c 9 "java/util/ArrayList" "elementData" "[Ljava/lang/Object;"]
def wsX3_findRule : List Cond := .code yX3_findRule cX3_findRule 2 (some (.object "RosterPay$Rule")) :: ((wsX3_findRule_r1 ++ wsX3_findRule_r2) ++ wsX30 ++ wsJx4a65c0 ++ (vx_atS RX3 174 "java/lang/IndexOutOfBoundsException" ["java/lang/RuntimeException", "java/lang/Exception"]).filter goodWord)
def wsX3_setRule_r1 : List Cond := [Cond.fieldLink RX3 69 "RosterPay$Rule" "isOn" "Z", Cond.methodLink RX3 65 yX3_findRule, Cond.instanceMethod yX3_findRule, Cond.selects RX3 yX3_findRule yX3_findRule, Cond.initialized RX3, Cond.code yX3_findRule cX3_findRule 2 (some (.object "RosterPay$Rule")), Cond.classLink RX3 170 "java/lang/IndexOutOfBoundsException", Cond.initialized "java/lang/IndexOutOfBoundsException", Cond.fieldLink RX3 26 "RosterPay" "rules" "Ljava/util/ArrayList;", Cond.classLink RX3 56 "RosterPay$Rule", Cond.methodLink RX3 47 yJx4a65c_size_8abf5, Cond.instanceMethod yJx4a65c_size_8abf5, Cond.selects RJx4a65c yJx4a65c_size_8abf5 yJx4a65c_size_8abf5, Cond.initialized RJx4a65c, Cond.code yJx4a65c_size_8abf5 cJx4a65c_size_8abf5 1 (some .int), Cond.fieldLink RJx4a65c 48 "java/util/ArrayList" "size" "I", Cond.methodLink RX3 140 yJx4a65c_get_915e3, Cond.instanceMethod yJx4a65c_get_915e3, Cond.selects RJx4a65c yJx4a65c_get_915e3 yJx4a65c_get_915e3, Cond.code yJx4a65c_get_915e3 cJx4a65c_get_915e3 2 (some (.object "java/lang/Object")), Cond.methodLink RJx4a65c 118 yJ15_checkIndex_7cf53, Cond.static yJ15_checkIndex_7cf53, Cond.initialized RJ15, Cond.code yJ15_checkIndex_7cf53 cJ15_checkIndex_7cf53 2 (some .int)]
def wsX3_setRule_r2 : List Cond := [Cond.methodLink RJ15 105 yJ3_checkIndex_8e157, Cond.static yJ3_checkIndex_8e157, Cond.initialized RJ3, Cond.code yJ3_checkIndex_8e157 cJ3_checkIndex_8e157 3 (some .int), Cond.methodLink RJx4a65c 123 yJx4a65c_elementData_915e3, Cond.instanceMethod yJx4a65c_elementData_915e3, Cond.selects RJx4a65c yJx4a65c_elementData_915e3 yJx4a65c_elementData_915e3, Cond.code yJx4a65c_elementData_915e3 cJx4a65c_elementData_915e3 2 (some (.object "java/lang/Object")), Cond.fieldLink RJx4a65c 9 "java/util/ArrayList" "elementData" "[Ljava/lang/Object;"]
def wsX3_setRule : List Cond := .code yX3_setRule cX3_setRule 5 (some .boolean) :: ((wsX3_setRule_r1 ++ wsX3_setRule_r2) ++ wsX00 ++ wsX30 ++ wsJx4a65c0 ++ (vx_atS RX3 174 "java/lang/IndexOutOfBoundsException" ["java/lang/RuntimeException", "java/lang/Exception"]).filter goodWord)
def wsX3_setHoliday : List Cond := .code yX3_setHoliday cX3_setHoliday 4 (some .boolean) :: ([.classLink RX3 36 "java/lang/IllegalArgumentException", .initialized "java/lang/IllegalArgumentException", .fieldLink RX3 19 "RosterPay" "holidays" "[Z"] ++ wsX30 ++ (vx_atS RX3 40 "java/lang/IllegalArgumentException" ["java/lang/RuntimeException", "java/lang/Exception"]).filter goodWord)
def wsX3_addWorker_r1 : List Cond := [Cond.classLink RX3 51 "java/lang/IllegalStateException", Cond.initialized "java/lang/IllegalStateException", Cond.fieldLink RX3 30 "RosterPay" "workers" "Ljava/util/ArrayList;", Cond.classLink RX3 77 RX2, Cond.instantiable RX2 1, Cond.initialized RX2, Cond.methodLink RX3 43 yX3_checkArgument, Cond.static yX3_checkArgument, Cond.initialized RX3, Cond.code yX3_checkArgument cX3_checkArgument 3 none, Cond.classLink RX3 36 "java/lang/IllegalArgumentException", Cond.initialized "java/lang/IllegalArgumentException", Cond.methodLink RX3 47 yJx4a65c_size_8abf5, Cond.instanceMethod yJx4a65c_size_8abf5, Cond.selects RJx4a65c yJx4a65c_size_8abf5 yJx4a65c_size_8abf5, Cond.initialized RJx4a65c, Cond.code yJx4a65c_size_8abf5 cJx4a65c_size_8abf5 1 (some .int), Cond.fieldLink RJx4a65c 48 "java/util/ArrayList" "size" "I", Cond.methodLink RX3 79 yX2_init, Cond.instanceMethod yX2_init, Cond.code yX2_init cX2_init 2 none, Cond.methodLink RX2 1 objectInit, Cond.instanceMethod objectInit, Cond.code objectInit ⟨#[0xb1]⟩ 1 none]
def wsX3_addWorker_r2 : List Cond := [Cond.fieldLink RX2 7 "RosterPay$Worker" "rank" "I", Cond.methodLink RX3 61 yJx4a65c_add_9ea2d, Cond.instanceMethod yJx4a65c_add_9ea2d, Cond.selects RJx4a65c yJx4a65c_add_9ea2d yJx4a65c_add_9ea2d, Cond.code yJx4a65c_add_9ea2d cJx4a65c_add_9ea2d 2 (some .boolean), Cond.fieldLink RJx4a65c 63 "java/util/ArrayList" "modCount" "I", Cond.sameField "java/util/ArrayList" "java/util/AbstractList" "modCount" "I", Cond.fieldLink RJx4a65c 9 "java/util/ArrayList" "elementData" "[Ljava/lang/Object;", Cond.methodLink RJx4a65c 131 yJx4a65c_add_72be8, Cond.instanceMethod yJx4a65c_add_72be8, Cond.selects RJx4a65c yJx4a65c_add_72be8 yJx4a65c_add_72be8, Cond.code yJx4a65c_add_72be8 cJx4a65c_add_72be8 4 none, Cond.methodLink RJx4a65c 129 yJx4a65c_grow_d5877, Cond.instanceMethod yJx4a65c_grow_d5877, Cond.selects RJx4a65c yJx4a65c_grow_d5877 yJx4a65c_grow_d5877, Cond.code yJx4a65c_grow_d5877 cJx4a65c_grow_d5877 1 (some (.array (.object "java/lang/Object"))), Cond.methodLink RJx4a65c 69 yJx4a65c_grow_92f84, Cond.instanceMethod yJx4a65c_grow_92f84, Cond.selects RJx4a65c yJx4a65c_grow_92f84 yJx4a65c_grow_92f84, Cond.code yJx4a65c_grow_92f84 cJx4a65c_grow_92f84 4 (some (.array (.object "java/lang/Object"))), Cond.fieldLink RJx4a65c 39 "java/util/ArrayList" "DEFAULTCAPACITY_EMPTY_ELEMENTDATA" "[Ljava/lang/Object;", Cond.methodLink RJx4a65c 79 Lib.Math.max.name, Cond.static Lib.Math.max.name, Cond.initialized "java/lang/Math"]
def wsX3_addWorker_r3 : List Cond := [Cond.code Lib.Math.max.name Lib.Math.max.code 2 (some .int), Cond.classLink RJx4a65c 7 "java/lang/Object", Cond.methodLink RJx4a65c 73 yJ8_newLength_cabcc, Cond.static yJ8_newLength_cabcc, Cond.initialized RJ8, Cond.code yJ8_newLength_cabcc cJ8_newLength_cabcc 4 (some .int), Cond.methodLink RJ8 194 Lib.Math.max.name, Cond.constant RJ8 200 (2147483639), Cond.methodLink RJ8 201 yJ8_hugeLength_7cf53, Cond.static yJ8_hugeLength_7cf53, Cond.code yJ8_hugeLength_7cf53 cJ8_hugeLength_7cf53 3 (some .int), Cond.methodLink RJx4a65c 66 yJ7_copyOf_1904c, Cond.static yJ7_copyOf_1904c, Cond.initialized RJ7, Cond.code yJ7_copyOf_1904c cJ7_copyOf_1904c 2 (some (.array (.object "java/lang/Object"))), Cond.methodLink RJ7 86 ⟨"java/lang/Object", "getClass", "()Ljava/lang/Class;"⟩, Cond.selects "[Ljava/lang/Object;" ⟨"java/lang/Object", "getClass", "()Ljava/lang/Class;"⟩ ⟨"java/lang/Object", "getClass", "()Ljava/lang/Class;"⟩, Cond.instanceMethod ⟨"java/lang/Object", "getClass", "()Ljava/lang/Class;"⟩, Cond.native ⟨"java/lang/Object", "getClass", "()Ljava/lang/Class;"⟩, Cond.methodLink RJ7 300 yJ7_copyOf_6403c, Cond.static yJ7_copyOf_6403c, Cond.code yJ7_copyOf_6403c cJ7_copyOf_6403c 4 (some (.array (.object "java/lang/Object"))), Cond.classLink RJ7 110 "[Ljava/lang/Object;", Cond.classLink RJ7 2 "java/lang/Object"]
def wsX3_addWorker_r4 : List Cond := [Cond.methodLink RJ7 304 Lib.Math.min.name, Cond.static Lib.Math.min.name, Cond.code Lib.Math.min.name Lib.Math.min.code 2 (some .int), Cond.methodLink RJ7 150 arraycopyName, Cond.native arraycopyName, Cond.static arraycopyName, Cond.initialized "java/lang/System"]
def wsX3_addWorker : List Cond := .code yX3_addWorker cX3_addWorker 3 (some .int) :: ((wsX3_addWorker_r1 ++ (wsX3_addWorker_r2 ++ (wsX3_addWorker_r3 ++ wsX3_addWorker_r4))) ++ wsX30 ++ wsX20 ++ wsJx4a65c0 ++ (vx_atS RX3 55 "java/lang/IllegalStateException" ["java/lang/RuntimeException", "java/lang/Exception"]).filter goodWord ++ (vx_atS RX3 40 "java/lang/IllegalArgumentException" ["java/lang/RuntimeException", "java/lang/Exception"]).filter goodWord)
def wsX3_findWorker_r1 : List Cond := [Cond.classLink RX3 170 "java/lang/IndexOutOfBoundsException", Cond.initialized "java/lang/IndexOutOfBoundsException", Cond.fieldLink RX3 30 "RosterPay" "workers" "Ljava/util/ArrayList;", Cond.classLink RX3 77 "RosterPay$Worker", Cond.methodLink RX3 47 yJx4a65c_size_8abf5, Cond.instanceMethod yJx4a65c_size_8abf5, Cond.selects RJx4a65c yJx4a65c_size_8abf5 yJx4a65c_size_8abf5, Cond.initialized RJx4a65c, Cond.code yJx4a65c_size_8abf5 cJx4a65c_size_8abf5 1 (some .int), Cond.fieldLink RJx4a65c 48 "java/util/ArrayList" "size" "I", Cond.methodLink RX3 140 yJx4a65c_get_915e3, Cond.instanceMethod yJx4a65c_get_915e3, Cond.selects RJx4a65c yJx4a65c_get_915e3 yJx4a65c_get_915e3, Cond.code yJx4a65c_get_915e3 cJx4a65c_get_915e3 2 (some (.object "java/lang/Object")), Cond.methodLink RJx4a65c 118 yJ15_checkIndex_7cf53, Cond.static yJ15_checkIndex_7cf53, Cond.initialized RJ15, Cond.code yJ15_checkIndex_7cf53 cJ15_checkIndex_7cf53 2 (some .int), Cond.methodLink RJ15 105 yJ3_checkIndex_8e157, Cond.static yJ3_checkIndex_8e157, Cond.initialized RJ3, Cond.code yJ3_checkIndex_8e157 cJ3_checkIndex_8e157 3 (some .int), Cond.methodLink RJx4a65c 123 yJx4a65c_elementData_915e3, Cond.instanceMethod yJx4a65c_elementData_915e3]
def wsX3_findWorker_r2 : List Cond := [Cond.selects RJx4a65c yJx4a65c_elementData_915e3 yJx4a65c_elementData_915e3, Cond.code yJx4a65c_elementData_915e3 cJx4a65c_elementData_915e3 2 (some (.object "java/lang/Object")), Cond.fieldLink RJx4a65c 9 "java/util/ArrayList" "elementData" "[Ljava/lang/Object;"]
def wsX3_findWorker : List Cond := .code yX3_findWorker cX3_findWorker 2 (some (.object "RosterPay$Worker")) :: ((wsX3_findWorker_r1 ++ wsX3_findWorker_r2) ++ wsX30 ++ wsJx4a65c0 ++ (vx_atS RX3 174 "java/lang/IndexOutOfBoundsException" ["java/lang/RuntimeException", "java/lang/Exception"]).filter goodWord)
def wsX3_setRank_r1 : List Cond := [Cond.fieldLink RX3 86 "RosterPay$Worker" "rank" "I", Cond.methodLink RX3 82 yX3_findWorker, Cond.instanceMethod yX3_findWorker, Cond.selects RX3 yX3_findWorker yX3_findWorker, Cond.initialized RX3, Cond.code yX3_findWorker cX3_findWorker 2 (some (.object "RosterPay$Worker")), Cond.classLink RX3 170 "java/lang/IndexOutOfBoundsException", Cond.initialized "java/lang/IndexOutOfBoundsException", Cond.fieldLink RX3 30 "RosterPay" "workers" "Ljava/util/ArrayList;", Cond.classLink RX3 77 "RosterPay$Worker", Cond.methodLink RX3 47 yJx4a65c_size_8abf5, Cond.instanceMethod yJx4a65c_size_8abf5, Cond.selects RJx4a65c yJx4a65c_size_8abf5 yJx4a65c_size_8abf5, Cond.initialized RJx4a65c, Cond.code yJx4a65c_size_8abf5 cJx4a65c_size_8abf5 1 (some .int), Cond.fieldLink RJx4a65c 48 "java/util/ArrayList" "size" "I", Cond.methodLink RX3 140 yJx4a65c_get_915e3, Cond.instanceMethod yJx4a65c_get_915e3, Cond.selects RJx4a65c yJx4a65c_get_915e3 yJx4a65c_get_915e3, Cond.code yJx4a65c_get_915e3 cJx4a65c_get_915e3 2 (some (.object "java/lang/Object")), Cond.methodLink RJx4a65c 118 yJ15_checkIndex_7cf53, Cond.static yJ15_checkIndex_7cf53, Cond.initialized RJ15, Cond.code yJ15_checkIndex_7cf53 cJ15_checkIndex_7cf53 2 (some .int)]
def wsX3_setRank_r2 : List Cond := [Cond.methodLink RJ15 105 yJ3_checkIndex_8e157, Cond.static yJ3_checkIndex_8e157, Cond.initialized RJ3, Cond.code yJ3_checkIndex_8e157 cJ3_checkIndex_8e157 3 (some .int), Cond.methodLink RJx4a65c 123 yJx4a65c_elementData_915e3, Cond.instanceMethod yJx4a65c_elementData_915e3, Cond.selects RJx4a65c yJx4a65c_elementData_915e3 yJx4a65c_elementData_915e3, Cond.code yJx4a65c_elementData_915e3 cJx4a65c_elementData_915e3 2 (some (.object "java/lang/Object")), Cond.fieldLink RJx4a65c 9 "java/util/ArrayList" "elementData" "[Ljava/lang/Object;", Cond.methodLink RX3 43 yX3_checkArgument, Cond.static yX3_checkArgument, Cond.code yX3_checkArgument cX3_checkArgument 3 none, Cond.classLink RX3 36 "java/lang/IllegalArgumentException", Cond.initialized "java/lang/IllegalArgumentException"]
def wsX3_setRank : List Cond := .code yX3_setRank cX3_setRank 5 (some .int) :: ((wsX3_setRank_r1 ++ wsX3_setRank_r2) ++ wsX20 ++ wsX30 ++ wsJx4a65c0 ++ (vx_atS RX3 174 "java/lang/IndexOutOfBoundsException" ["java/lang/RuntimeException", "java/lang/Exception"]).filter goodWord ++ (vx_atS RX3 40 "java/lang/IllegalArgumentException" ["java/lang/RuntimeException", "java/lang/Exception"]).filter goodWord)
def wsX3_workedBetween_r1 : List Cond := [Cond.fieldLink RX3 33 "RosterPay" "roster" "Ljava/util/ArrayList;", Cond.classLink RX3 96 "RosterPay$Shift", Cond.fieldLink RX3 148 "RosterPay$Shift" "worker" "LRosterPay$Worker;", Cond.fieldLink RX3 113 "RosterPay$Shift" "isCancelled" "Z", Cond.methodLink RX3 47 yJx4a65c_size_8abf5, Cond.instanceMethod yJx4a65c_size_8abf5, Cond.selects RJx4a65c yJx4a65c_size_8abf5 yJx4a65c_size_8abf5, Cond.initialized RJx4a65c, Cond.code yJx4a65c_size_8abf5 cJx4a65c_size_8abf5 1 (some .int), Cond.fieldLink RJx4a65c 48 "java/util/ArrayList" "size" "I", Cond.methodLink RX3 140 yJx4a65c_get_915e3, Cond.instanceMethod yJx4a65c_get_915e3, Cond.selects RJx4a65c yJx4a65c_get_915e3 yJx4a65c_get_915e3, Cond.code yJx4a65c_get_915e3 cJx4a65c_get_915e3 2 (some (.object "java/lang/Object")), Cond.methodLink RJx4a65c 118 yJ15_checkIndex_7cf53, Cond.static yJ15_checkIndex_7cf53, Cond.initialized RJ15, Cond.code yJ15_checkIndex_7cf53 cJ15_checkIndex_7cf53 2 (some .int), Cond.methodLink RJ15 105 yJ3_checkIndex_8e157, Cond.static yJ3_checkIndex_8e157, Cond.initialized RJ3, Cond.code yJ3_checkIndex_8e157 cJ3_checkIndex_8e157 3 (some .int), Cond.methodLink RJx4a65c 123 yJx4a65c_elementData_915e3, Cond.instanceMethod yJx4a65c_elementData_915e3]
def wsX3_workedBetween_r2 : List Cond := [Cond.selects RJx4a65c yJx4a65c_elementData_915e3 yJx4a65c_elementData_915e3, Cond.code yJx4a65c_elementData_915e3 cJx4a65c_elementData_915e3 2 (some (.object "java/lang/Object")), Cond.fieldLink RJx4a65c 9 "java/util/ArrayList" "elementData" "[Ljava/lang/Object;", Cond.methodLink RX3 207 yX1_ownBetween, Cond.instanceMethod yX1_ownBetween, Cond.selects RX1 yX1_ownBetween yX1_ownBetween, Cond.initialized RX1, Cond.code yX1_ownBetween cX1_ownBetween 3 (some .int), Cond.fieldLink RX1 15 "RosterPay$Shift" "start" "I", Cond.fieldLink RX1 19 "RosterPay$Shift" "quarters" "I", Cond.methodLink RX1 39 Lib.Math.min.name, Cond.static Lib.Math.min.name, Cond.initialized "java/lang/Math", Cond.code Lib.Math.min.name Lib.Math.min.code 2 (some .int), Cond.methodLink RX1 29 Lib.Math.max.name, Cond.static Lib.Math.max.name, Cond.code Lib.Math.max.name Lib.Math.max.code 2 (some .int)]
def wsX3_workedBetween : List Cond := .code yX3_workedBetween cX3_workedBetween 7 (some .int) :: ((wsX3_workedBetween_r1 ++ wsX3_workedBetween_r2) ++ wsX30 ++ wsX10 ++ wsJx4a65c0)
def wsX3_overlapsAnother_r1 : List Cond := [Cond.methodLink RX3 204 yX3_workedBetween, Cond.instanceMethod yX3_workedBetween, Cond.selects RX3 yX3_workedBetween yX3_workedBetween, Cond.initialized RX3, Cond.code yX3_workedBetween cX3_workedBetween 7 (some .int), Cond.fieldLink RX3 33 "RosterPay" "roster" "Ljava/util/ArrayList;", Cond.classLink RX3 96 "RosterPay$Shift", Cond.fieldLink RX3 148 "RosterPay$Shift" "worker" "LRosterPay$Worker;", Cond.fieldLink RX3 113 "RosterPay$Shift" "isCancelled" "Z", Cond.methodLink RX3 47 yJx4a65c_size_8abf5, Cond.instanceMethod yJx4a65c_size_8abf5, Cond.selects RJx4a65c yJx4a65c_size_8abf5 yJx4a65c_size_8abf5, Cond.initialized RJx4a65c, Cond.code yJx4a65c_size_8abf5 cJx4a65c_size_8abf5 1 (some .int), Cond.fieldLink RJx4a65c 48 "java/util/ArrayList" "size" "I", Cond.methodLink RX3 140 yJx4a65c_get_915e3, Cond.instanceMethod yJx4a65c_get_915e3, Cond.selects RJx4a65c yJx4a65c_get_915e3 yJx4a65c_get_915e3, Cond.code yJx4a65c_get_915e3 cJx4a65c_get_915e3 2 (some (.object "java/lang/Object")), Cond.methodLink RJx4a65c 118 yJ15_checkIndex_7cf53, Cond.static yJ15_checkIndex_7cf53, Cond.initialized RJ15, Cond.code yJ15_checkIndex_7cf53 cJ15_checkIndex_7cf53 2 (some .int), Cond.methodLink RJ15 105 yJ3_checkIndex_8e157]
def wsX3_overlapsAnother_r2 : List Cond := [Cond.static yJ3_checkIndex_8e157, Cond.initialized RJ3, Cond.code yJ3_checkIndex_8e157 cJ3_checkIndex_8e157 3 (some .int), Cond.methodLink RJx4a65c 123 yJx4a65c_elementData_915e3, Cond.instanceMethod yJx4a65c_elementData_915e3, Cond.selects RJx4a65c yJx4a65c_elementData_915e3 yJx4a65c_elementData_915e3, Cond.code yJx4a65c_elementData_915e3 cJx4a65c_elementData_915e3 2 (some (.object "java/lang/Object")), Cond.fieldLink RJx4a65c 9 "java/util/ArrayList" "elementData" "[Ljava/lang/Object;", Cond.methodLink RX3 207 yX1_ownBetween, Cond.instanceMethod yX1_ownBetween, Cond.selects RX1 yX1_ownBetween yX1_ownBetween, Cond.initialized RX1, Cond.code yX1_ownBetween cX1_ownBetween 3 (some .int), Cond.fieldLink RX1 15 "RosterPay$Shift" "start" "I", Cond.fieldLink RX1 19 "RosterPay$Shift" "quarters" "I", Cond.methodLink RX1 39 Lib.Math.min.name, Cond.static Lib.Math.min.name, Cond.initialized "java/lang/Math", Cond.code Lib.Math.min.name Lib.Math.min.code 2 (some .int), Cond.methodLink RX1 29 Lib.Math.max.name, Cond.static Lib.Math.max.name, Cond.code Lib.Math.max.name Lib.Math.max.code 2 (some .int)]
def wsX3_overlapsAnother : List Cond := .code yX3_overlapsAnother cX3_overlapsAnother 4 (some .boolean) :: ((wsX3_overlapsAnother_r1 ++ wsX3_overlapsAnother_r2) ++ wsX30 ++ wsX10 ++ wsJx4a65c0)
def wsX3_addShift_r1 : List Cond := [Cond.classLink RX3 51 "java/lang/IllegalStateException", Cond.initialized "java/lang/IllegalStateException", Cond.fieldLink RX3 33 "RosterPay" "roster" "Ljava/util/ArrayList;", Cond.classLink RX3 96 RX1, Cond.instantiable RX1 5, Cond.initialized RX1, Cond.methodLink RX3 82 yX3_findWorker, Cond.instanceMethod yX3_findWorker, Cond.selects RX3 yX3_findWorker yX3_findWorker, Cond.initialized RX3, Cond.code yX3_findWorker cX3_findWorker 2 (some (.object "RosterPay$Worker")), Cond.classLink RX3 170 "java/lang/IndexOutOfBoundsException", Cond.initialized "java/lang/IndexOutOfBoundsException", Cond.fieldLink RX3 30 "RosterPay" "workers" "Ljava/util/ArrayList;", Cond.classLink RX3 77 "RosterPay$Worker", Cond.methodLink RX3 47 yJx4a65c_size_8abf5, Cond.instanceMethod yJx4a65c_size_8abf5, Cond.selects RJx4a65c yJx4a65c_size_8abf5 yJx4a65c_size_8abf5, Cond.initialized RJx4a65c, Cond.code yJx4a65c_size_8abf5 cJx4a65c_size_8abf5 1 (some .int), Cond.fieldLink RJx4a65c 48 "java/util/ArrayList" "size" "I", Cond.methodLink RX3 140 yJx4a65c_get_915e3, Cond.instanceMethod yJx4a65c_get_915e3, Cond.selects RJx4a65c yJx4a65c_get_915e3 yJx4a65c_get_915e3]
def wsX3_addShift_r2 : List Cond := [Cond.code yJx4a65c_get_915e3 cJx4a65c_get_915e3 2 (some (.object "java/lang/Object")), Cond.methodLink RJx4a65c 118 yJ15_checkIndex_7cf53, Cond.static yJ15_checkIndex_7cf53, Cond.initialized RJ15, Cond.code yJ15_checkIndex_7cf53 cJ15_checkIndex_7cf53 2 (some .int), Cond.methodLink RJ15 105 yJ3_checkIndex_8e157, Cond.static yJ3_checkIndex_8e157, Cond.initialized RJ3, Cond.code yJ3_checkIndex_8e157 cJ3_checkIndex_8e157 3 (some .int), Cond.methodLink RJx4a65c 123 yJx4a65c_elementData_915e3, Cond.instanceMethod yJx4a65c_elementData_915e3, Cond.selects RJx4a65c yJx4a65c_elementData_915e3 yJx4a65c_elementData_915e3, Cond.code yJx4a65c_elementData_915e3 cJx4a65c_elementData_915e3 2 (some (.object "java/lang/Object")), Cond.fieldLink RJx4a65c 9 "java/util/ArrayList" "elementData" "[Ljava/lang/Object;", Cond.methodLink RX3 43 yX3_checkArgument, Cond.static yX3_checkArgument, Cond.code yX3_checkArgument cX3_checkArgument 3 none, Cond.classLink RX3 36 "java/lang/IllegalArgumentException", Cond.initialized "java/lang/IllegalArgumentException", Cond.methodLink RX3 90 yX3_overlapsAnother, Cond.instanceMethod yX3_overlapsAnother, Cond.selects RX3 yX3_overlapsAnother yX3_overlapsAnother, Cond.code yX3_overlapsAnother cX3_overlapsAnother 4 (some .boolean), Cond.methodLink RX3 204 yX3_workedBetween]
def wsX3_addShift_r3 : List Cond := [Cond.instanceMethod yX3_workedBetween, Cond.selects RX3 yX3_workedBetween yX3_workedBetween, Cond.code yX3_workedBetween cX3_workedBetween 7 (some .int), Cond.classLink RX3 96 "RosterPay$Shift", Cond.fieldLink RX3 148 "RosterPay$Shift" "worker" "LRosterPay$Worker;", Cond.fieldLink RX3 113 "RosterPay$Shift" "isCancelled" "Z", Cond.methodLink RX3 207 yX1_ownBetween, Cond.instanceMethod yX1_ownBetween, Cond.selects RX1 yX1_ownBetween yX1_ownBetween, Cond.code yX1_ownBetween cX1_ownBetween 3 (some .int), Cond.fieldLink RX1 15 "RosterPay$Shift" "start" "I", Cond.fieldLink RX1 19 "RosterPay$Shift" "quarters" "I", Cond.methodLink RX1 39 Lib.Math.min.name, Cond.static Lib.Math.min.name, Cond.initialized "java/lang/Math", Cond.code Lib.Math.min.name Lib.Math.min.code 2 (some .int), Cond.methodLink RX1 29 Lib.Math.max.name, Cond.static Lib.Math.max.name, Cond.code Lib.Math.max.name Lib.Math.max.code 2 (some .int), Cond.methodLink RX3 98 yX1_init, Cond.instanceMethod yX1_init, Cond.code yX1_init cX1_init 4 none, Cond.methodLink RX1 3 objectInit, Cond.instanceMethod objectInit]
def wsX3_addShift_r4 : List Cond := [Cond.code objectInit ⟨#[0xb1]⟩ 1 none, Cond.fieldLink RX1 9 "RosterPay$Shift" "worker" "LRosterPay$Worker;", Cond.fieldLink RX1 22 "RosterPay$Shift" "breaksTaken" "I", Cond.fieldLink RX1 25 "RosterPay$Shift" "isCancelled" "Z", Cond.methodLink RX3 61 yJx4a65c_add_9ea2d, Cond.instanceMethod yJx4a65c_add_9ea2d, Cond.selects RJx4a65c yJx4a65c_add_9ea2d yJx4a65c_add_9ea2d, Cond.code yJx4a65c_add_9ea2d cJx4a65c_add_9ea2d 2 (some .boolean), Cond.fieldLink RJx4a65c 63 "java/util/ArrayList" "modCount" "I", Cond.sameField "java/util/ArrayList" "java/util/AbstractList" "modCount" "I", Cond.methodLink RJx4a65c 131 yJx4a65c_add_72be8, Cond.instanceMethod yJx4a65c_add_72be8, Cond.selects RJx4a65c yJx4a65c_add_72be8 yJx4a65c_add_72be8, Cond.code yJx4a65c_add_72be8 cJx4a65c_add_72be8 4 none, Cond.methodLink RJx4a65c 129 yJx4a65c_grow_d5877, Cond.instanceMethod yJx4a65c_grow_d5877, Cond.selects RJx4a65c yJx4a65c_grow_d5877 yJx4a65c_grow_d5877, Cond.code yJx4a65c_grow_d5877 cJx4a65c_grow_d5877 1 (some (.array (.object "java/lang/Object"))), Cond.methodLink RJx4a65c 69 yJx4a65c_grow_92f84, Cond.instanceMethod yJx4a65c_grow_92f84, Cond.selects RJx4a65c yJx4a65c_grow_92f84 yJx4a65c_grow_92f84, Cond.code yJx4a65c_grow_92f84 cJx4a65c_grow_92f84 4 (some (.array (.object "java/lang/Object"))), Cond.fieldLink RJx4a65c 39 "java/util/ArrayList" "DEFAULTCAPACITY_EMPTY_ELEMENTDATA" "[Ljava/lang/Object;", Cond.methodLink RJx4a65c 79 Lib.Math.max.name]
def wsX3_addShift_r5 : List Cond := [Cond.classLink RJx4a65c 7 "java/lang/Object", Cond.methodLink RJx4a65c 73 yJ8_newLength_cabcc, Cond.static yJ8_newLength_cabcc, Cond.initialized RJ8, Cond.code yJ8_newLength_cabcc cJ8_newLength_cabcc 4 (some .int), Cond.methodLink RJ8 194 Lib.Math.max.name, Cond.constant RJ8 200 (2147483639), Cond.methodLink RJ8 201 yJ8_hugeLength_7cf53, Cond.static yJ8_hugeLength_7cf53, Cond.code yJ8_hugeLength_7cf53 cJ8_hugeLength_7cf53 3 (some .int), Cond.methodLink RJx4a65c 66 yJ7_copyOf_1904c, Cond.static yJ7_copyOf_1904c, Cond.initialized RJ7, Cond.code yJ7_copyOf_1904c cJ7_copyOf_1904c 2 (some (.array (.object "java/lang/Object"))), Cond.methodLink RJ7 86 ⟨"java/lang/Object", "getClass", "()Ljava/lang/Class;"⟩, Cond.selects "[Ljava/lang/Object;" ⟨"java/lang/Object", "getClass", "()Ljava/lang/Class;"⟩ ⟨"java/lang/Object", "getClass", "()Ljava/lang/Class;"⟩, Cond.instanceMethod ⟨"java/lang/Object", "getClass", "()Ljava/lang/Class;"⟩, Cond.native ⟨"java/lang/Object", "getClass", "()Ljava/lang/Class;"⟩, Cond.methodLink RJ7 300 yJ7_copyOf_6403c, Cond.static yJ7_copyOf_6403c, Cond.code yJ7_copyOf_6403c cJ7_copyOf_6403c 4 (some (.array (.object "java/lang/Object"))), Cond.classLink RJ7 110 "[Ljava/lang/Object;", Cond.classLink RJ7 2 "java/lang/Object", Cond.methodLink RJ7 304 Lib.Math.min.name]
def wsX3_addShift_r6 : List Cond := [Cond.methodLink RJ7 150 arraycopyName, Cond.native arraycopyName, Cond.static arraycopyName, Cond.initialized "java/lang/System"]
def wsX3_addShift : List Cond := .code yX3_addShift cX3_addShift 8 (some .int) :: ((wsX3_addShift_r1 ++ (wsX3_addShift_r2 ++ (wsX3_addShift_r3 ++ (wsX3_addShift_r4 ++ (wsX3_addShift_r5 ++ wsX3_addShift_r6))))) ++ wsX30 ++ wsX10 ++ wsJx4a65c0 ++ (vx_atS RX3 55 "java/lang/IllegalStateException" ["java/lang/RuntimeException", "java/lang/Exception"]).filter goodWord ++ (vx_atS RX3 174 "java/lang/IndexOutOfBoundsException" ["java/lang/RuntimeException", "java/lang/Exception"]).filter goodWord ++ (vx_atS RX3 40 "java/lang/IllegalArgumentException" ["java/lang/RuntimeException", "java/lang/Exception"]).filter goodWord)
def wsX3_findShift_r1 : List Cond := [Cond.classLink RX3 170 "java/lang/IndexOutOfBoundsException", Cond.initialized "java/lang/IndexOutOfBoundsException", Cond.fieldLink RX3 33 "RosterPay" "roster" "Ljava/util/ArrayList;", Cond.classLink RX3 96 "RosterPay$Shift", Cond.methodLink RX3 47 yJx4a65c_size_8abf5, Cond.instanceMethod yJx4a65c_size_8abf5, Cond.selects RJx4a65c yJx4a65c_size_8abf5 yJx4a65c_size_8abf5, Cond.initialized RJx4a65c, Cond.code yJx4a65c_size_8abf5 cJx4a65c_size_8abf5 1 (some .int), Cond.fieldLink RJx4a65c 48 "java/util/ArrayList" "size" "I", Cond.methodLink RX3 140 yJx4a65c_get_915e3, Cond.instanceMethod yJx4a65c_get_915e3, Cond.selects RJx4a65c yJx4a65c_get_915e3 yJx4a65c_get_915e3, Cond.code yJx4a65c_get_915e3 cJx4a65c_get_915e3 2 (some (.object "java/lang/Object")), Cond.methodLink RJx4a65c 118 yJ15_checkIndex_7cf53, Cond.static yJ15_checkIndex_7cf53, Cond.initialized RJ15, Cond.code yJ15_checkIndex_7cf53 cJ15_checkIndex_7cf53 2 (some .int), Cond.methodLink RJ15 105 yJ3_checkIndex_8e157, Cond.static yJ3_checkIndex_8e157, Cond.initialized RJ3, Cond.code yJ3_checkIndex_8e157 cJ3_checkIndex_8e157 3 (some .int), Cond.methodLink RJx4a65c 123 yJx4a65c_elementData_915e3, Cond.instanceMethod yJx4a65c_elementData_915e3]
def wsX3_findShift_r2 : List Cond := [Cond.selects RJx4a65c yJx4a65c_elementData_915e3 yJx4a65c_elementData_915e3, Cond.code yJx4a65c_elementData_915e3 cJx4a65c_elementData_915e3 2 (some (.object "java/lang/Object")), Cond.fieldLink RJx4a65c 9 "java/util/ArrayList" "elementData" "[Ljava/lang/Object;"]
def wsX3_findShift : List Cond := .code yX3_findShift cX3_findShift 2 (some (.object "RosterPay$Shift")) :: ((wsX3_findShift_r1 ++ wsX3_findShift_r2) ++ wsX30 ++ wsJx4a65c0 ++ (vx_atS RX3 174 "java/lang/IndexOutOfBoundsException" ["java/lang/RuntimeException", "java/lang/Exception"]).filter goodWord)
def wsX3_checkNotCancelled : List Cond := .code yX3_checkNotCancelled cX3_checkNotCancelled 1 none :: ([.classLink RX3 51 "java/lang/IllegalStateException", .initialized "java/lang/IllegalStateException", .fieldLink RX3 113 "RosterPay$Shift" "isCancelled" "Z"] ++ wsX10 ++ (vx_atS RX3 55 "java/lang/IllegalStateException" ["java/lang/RuntimeException", "java/lang/Exception"]).filter goodWord)
def wsX3_baseOf : List Cond := .code yX3_baseOf cX3_baseOf 2 (some .int) :: ([.fieldLink RX3 9 "RosterPay" "bases" "[I"] ++ wsX30)
def wsX3_isHoliday : List Cond := .code yX3_isHoliday cX3_isHoliday 2 (some .boolean) :: ([.fieldLink RX3 19 "RosterPay" "holidays" "[Z"] ++ wsX30)
def wsX3_overtimePercent : List Cond := .code yX3_overtimePercent cX3_overtimePercent 1 (some .int) :: ([])
def wsX3_decidingRule_r1 : List Cond := [Cond.fieldLink RX3 26 "RosterPay" "rules" "Ljava/util/ArrayList;", Cond.classLink RX3 56 "RosterPay$Rule", Cond.fieldLink RX3 191 "RosterPay$Rule" "percent" "I", Cond.fieldLink RX3 148 "RosterPay$Shift" "worker" "LRosterPay$Worker;", Cond.fieldLink RX3 86 "RosterPay$Worker" "rank" "I", Cond.methodLink RX3 144 yX1_dayOf, Cond.instanceMethod yX1_dayOf, Cond.selects RX1 yX1_dayOf yX1_dayOf, Cond.initialized RX1, Cond.code yX1_dayOf cX1_dayOf 2 (some .int), Cond.fieldLink RX1 15 "RosterPay$Shift" "start" "I", Cond.methodLink RX3 181 yX1_quarterOfDay, Cond.instanceMethod yX1_quarterOfDay, Cond.selects RX1 yX1_quarterOfDay yX1_quarterOfDay, Cond.code yX1_quarterOfDay cX1_quarterOfDay 2 (some .int), Cond.methodLink RX3 184 yX3_isHoliday, Cond.instanceMethod yX3_isHoliday, Cond.selects RX3 yX3_isHoliday yX3_isHoliday, Cond.initialized RX3, Cond.code yX3_isHoliday cX3_isHoliday 2 (some .boolean), Cond.fieldLink RX3 19 "RosterPay" "holidays" "[Z", Cond.methodLink RX3 188 yX3_overtimePercent, Cond.static yX3_overtimePercent, Cond.code yX3_overtimePercent cX3_overtimePercent 1 (some .int)]
def wsX3_decidingRule_r2 : List Cond := [Cond.methodLink RX3 47 yJx4a65c_size_8abf5, Cond.instanceMethod yJx4a65c_size_8abf5, Cond.selects RJx4a65c yJx4a65c_size_8abf5 yJx4a65c_size_8abf5, Cond.initialized RJx4a65c, Cond.code yJx4a65c_size_8abf5 cJx4a65c_size_8abf5 1 (some .int), Cond.fieldLink RJx4a65c 48 "java/util/ArrayList" "size" "I", Cond.methodLink RX3 140 yJx4a65c_get_915e3, Cond.instanceMethod yJx4a65c_get_915e3, Cond.selects RJx4a65c yJx4a65c_get_915e3 yJx4a65c_get_915e3, Cond.code yJx4a65c_get_915e3 cJx4a65c_get_915e3 2 (some (.object "java/lang/Object")), Cond.methodLink RJx4a65c 118 yJ15_checkIndex_7cf53, Cond.static yJ15_checkIndex_7cf53, Cond.initialized RJ15, Cond.code yJ15_checkIndex_7cf53 cJ15_checkIndex_7cf53 2 (some .int), Cond.methodLink RJ15 105 yJ3_checkIndex_8e157, Cond.static yJ3_checkIndex_8e157, Cond.initialized RJ3, Cond.code yJ3_checkIndex_8e157 cJ3_checkIndex_8e157 3 (some .int), Cond.methodLink RJx4a65c 123 yJx4a65c_elementData_915e3, Cond.instanceMethod yJx4a65c_elementData_915e3, Cond.selects RJx4a65c yJx4a65c_elementData_915e3 yJx4a65c_elementData_915e3, Cond.code yJx4a65c_elementData_915e3 cJx4a65c_elementData_915e3 2 (some (.object "java/lang/Object")), Cond.fieldLink RJx4a65c 9 "java/util/ArrayList" "elementData" "[Ljava/lang/Object;", Cond.methodLink RX3 194 yX0_appliesTo]
def wsX3_decidingRule_r3 : List Cond := [Cond.instanceMethod yX0_appliesTo, Cond.selects RX0 yX0_appliesTo yX0_appliesTo, Cond.initialized RX0, Cond.code yX0_appliesTo cX0_appliesTo 5 (some .boolean), Cond.fieldLink RX0 30 "RosterPay$Rule" "isOn" "Z", Cond.fieldLink RX0 24 "RosterPay$Rule" "ranks" "I", Cond.fieldLink RX0 18 "RosterPay$Rule" "from" "I", Cond.fieldLink RX0 21 "RosterPay$Rule" "to" "I", Cond.methodLink RX0 34 yX0_hasBit, Cond.static yX0_hasBit, Cond.code yX0_hasBit cX0_hasBit 2 (some .boolean), Cond.methodLink RX0 38 yX0_isForDay, Cond.instanceMethod yX0_isForDay, Cond.selects RX0 yX0_isForDay yX0_isForDay, Cond.code yX0_isForDay cX0_isForDay 3 (some .boolean), Cond.fieldLink RX0 15 "RosterPay$Rule" "weekdays" "I"]
def wsX3_decidingRule : List Cond := .code yX3_decidingRule cX3_decidingRule 11 (some (.object "RosterPay$Rule")) :: ((wsX3_decidingRule_r1 ++ (wsX3_decidingRule_r2 ++ wsX3_decidingRule_r3)) ++ wsX30 ++ wsX00 ++ wsX10 ++ wsX20 ++ wsJx4a65c0)
def wsX3_percentOf_r1 : List Cond := [Cond.fieldLink RX3 191 "RosterPay$Rule" "percent" "I", Cond.methodLink RX3 130 yX3_decidingRule, Cond.instanceMethod yX3_decidingRule, Cond.selects RX3 yX3_decidingRule yX3_decidingRule, Cond.initialized RX3, Cond.code yX3_decidingRule cX3_decidingRule 11 (some (.object "RosterPay$Rule")), Cond.fieldLink RX3 26 "RosterPay" "rules" "Ljava/util/ArrayList;", Cond.classLink RX3 56 "RosterPay$Rule", Cond.fieldLink RX3 148 "RosterPay$Shift" "worker" "LRosterPay$Worker;", Cond.fieldLink RX3 86 "RosterPay$Worker" "rank" "I", Cond.methodLink RX3 144 yX1_dayOf, Cond.instanceMethod yX1_dayOf, Cond.selects RX1 yX1_dayOf yX1_dayOf, Cond.initialized RX1, Cond.code yX1_dayOf cX1_dayOf 2 (some .int), Cond.fieldLink RX1 15 "RosterPay$Shift" "start" "I", Cond.methodLink RX3 181 yX1_quarterOfDay, Cond.instanceMethod yX1_quarterOfDay, Cond.selects RX1 yX1_quarterOfDay yX1_quarterOfDay, Cond.code yX1_quarterOfDay cX1_quarterOfDay 2 (some .int), Cond.methodLink RX3 184 yX3_isHoliday, Cond.instanceMethod yX3_isHoliday, Cond.selects RX3 yX3_isHoliday yX3_isHoliday, Cond.code yX3_isHoliday cX3_isHoliday 2 (some .boolean)]
def wsX3_percentOf_r2 : List Cond := [Cond.fieldLink RX3 19 "RosterPay" "holidays" "[Z", Cond.methodLink RX3 188 yX3_overtimePercent, Cond.static yX3_overtimePercent, Cond.code yX3_overtimePercent cX3_overtimePercent 1 (some .int), Cond.methodLink RX3 47 yJx4a65c_size_8abf5, Cond.instanceMethod yJx4a65c_size_8abf5, Cond.selects RJx4a65c yJx4a65c_size_8abf5 yJx4a65c_size_8abf5, Cond.initialized RJx4a65c, Cond.code yJx4a65c_size_8abf5 cJx4a65c_size_8abf5 1 (some .int), Cond.fieldLink RJx4a65c 48 "java/util/ArrayList" "size" "I", Cond.methodLink RX3 140 yJx4a65c_get_915e3, Cond.instanceMethod yJx4a65c_get_915e3, Cond.selects RJx4a65c yJx4a65c_get_915e3 yJx4a65c_get_915e3, Cond.code yJx4a65c_get_915e3 cJx4a65c_get_915e3 2 (some (.object "java/lang/Object")), Cond.methodLink RJx4a65c 118 yJ15_checkIndex_7cf53, Cond.static yJ15_checkIndex_7cf53, Cond.initialized RJ15, Cond.code yJ15_checkIndex_7cf53 cJ15_checkIndex_7cf53 2 (some .int), Cond.methodLink RJ15 105 yJ3_checkIndex_8e157, Cond.static yJ3_checkIndex_8e157, Cond.initialized RJ3, Cond.code yJ3_checkIndex_8e157 cJ3_checkIndex_8e157 3 (some .int), Cond.methodLink RJx4a65c 123 yJx4a65c_elementData_915e3, Cond.instanceMethod yJx4a65c_elementData_915e3]
def wsX3_percentOf_r3 : List Cond := [Cond.selects RJx4a65c yJx4a65c_elementData_915e3 yJx4a65c_elementData_915e3, Cond.code yJx4a65c_elementData_915e3 cJx4a65c_elementData_915e3 2 (some (.object "java/lang/Object")), Cond.fieldLink RJx4a65c 9 "java/util/ArrayList" "elementData" "[Ljava/lang/Object;", Cond.methodLink RX3 194 yX0_appliesTo, Cond.instanceMethod yX0_appliesTo, Cond.selects RX0 yX0_appliesTo yX0_appliesTo, Cond.initialized RX0, Cond.code yX0_appliesTo cX0_appliesTo 5 (some .boolean), Cond.fieldLink RX0 30 "RosterPay$Rule" "isOn" "Z", Cond.fieldLink RX0 24 "RosterPay$Rule" "ranks" "I", Cond.fieldLink RX0 18 "RosterPay$Rule" "from" "I", Cond.fieldLink RX0 21 "RosterPay$Rule" "to" "I", Cond.methodLink RX0 34 yX0_hasBit, Cond.static yX0_hasBit, Cond.code yX0_hasBit cX0_hasBit 2 (some .boolean), Cond.methodLink RX0 38 yX0_isForDay, Cond.instanceMethod yX0_isForDay, Cond.selects RX0 yX0_isForDay yX0_isForDay, Cond.code yX0_isForDay cX0_isForDay 3 (some .boolean), Cond.fieldLink RX0 15 "RosterPay$Rule" "weekdays" "I"]
def wsX3_percentOf : List Cond := .code yX3_percentOf cX3_percentOf 4 (some .int) :: ((wsX3_percentOf_r1 ++ (wsX3_percentOf_r2 ++ wsX3_percentOf_r3)) ++ wsX00 ++ wsX30 ++ wsX10 ++ wsX20 ++ wsJx4a65c0)
def wsX3_amount : List Cond := .code yX3_amount cX3_amount 2 (some .int) :: ([])
def wsX3_payFor_r1 : List Cond := [Cond.fieldLink RX3 148 "RosterPay$Shift" "worker" "LRosterPay$Worker;", Cond.fieldLink RX3 86 "RosterPay$Worker" "rank" "I", Cond.methodLink RX3 198 yX3_baseOf, Cond.instanceMethod yX3_baseOf, Cond.selects RX3 yX3_baseOf yX3_baseOf, Cond.initialized RX3, Cond.code yX3_baseOf cX3_baseOf 2 (some .int), Cond.fieldLink RX3 9 "RosterPay" "bases" "[I", Cond.methodLink RX3 137 yX1_breaksMissed, Cond.instanceMethod yX1_breaksMissed, Cond.selects RX1 yX1_breaksMissed yX1_breaksMissed, Cond.initialized RX1, Cond.code yX1_breaksMissed cX1_breaksMissed 1 (some .int), Cond.fieldLink RX1 25 "RosterPay$Shift" "isCancelled" "Z", Cond.fieldLink RX1 22 "RosterPay$Shift" "breaksTaken" "I", Cond.methodLink RX1 29 Lib.Math.max.name, Cond.static Lib.Math.max.name, Cond.initialized "java/lang/Math", Cond.code Lib.Math.max.name Lib.Math.max.code 2 (some .int), Cond.methodLink RX1 35 yX1_breaksOwed, Cond.instanceMethod yX1_breaksOwed, Cond.selects RX1 yX1_breaksOwed yX1_breaksOwed, Cond.code yX1_breaksOwed cX1_breaksOwed 1 (some .int), Cond.fieldLink RX1 19 "RosterPay$Shift" "quarters" "I"]
def wsX3_payFor_r2 : List Cond := [Cond.methodLink RX3 119 yX1_paidLength, Cond.instanceMethod yX1_paidLength, Cond.selects RX1 yX1_paidLength yX1_paidLength, Cond.code yX1_paidLength cX1_paidLength 1 (some .int), Cond.methodLink RX3 126 yX3_percentOf, Cond.instanceMethod yX3_percentOf, Cond.selects RX3 yX3_percentOf yX3_percentOf, Cond.code yX3_percentOf cX3_percentOf 4 (some .int), Cond.fieldLink RX3 191 "RosterPay$Rule" "percent" "I", Cond.methodLink RX3 130 yX3_decidingRule, Cond.instanceMethod yX3_decidingRule, Cond.selects RX3 yX3_decidingRule yX3_decidingRule, Cond.code yX3_decidingRule cX3_decidingRule 11 (some (.object "RosterPay$Rule")), Cond.fieldLink RX3 26 "RosterPay" "rules" "Ljava/util/ArrayList;", Cond.classLink RX3 56 "RosterPay$Rule", Cond.methodLink RX3 144 yX1_dayOf, Cond.instanceMethod yX1_dayOf, Cond.selects RX1 yX1_dayOf yX1_dayOf, Cond.code yX1_dayOf cX1_dayOf 2 (some .int), Cond.fieldLink RX1 15 "RosterPay$Shift" "start" "I", Cond.methodLink RX3 181 yX1_quarterOfDay, Cond.instanceMethod yX1_quarterOfDay, Cond.selects RX1 yX1_quarterOfDay yX1_quarterOfDay, Cond.code yX1_quarterOfDay cX1_quarterOfDay 2 (some .int)]
def wsX3_payFor_r3 : List Cond := [Cond.methodLink RX3 184 yX3_isHoliday, Cond.instanceMethod yX3_isHoliday, Cond.selects RX3 yX3_isHoliday yX3_isHoliday, Cond.code yX3_isHoliday cX3_isHoliday 2 (some .boolean), Cond.fieldLink RX3 19 "RosterPay" "holidays" "[Z", Cond.methodLink RX3 188 yX3_overtimePercent, Cond.static yX3_overtimePercent, Cond.code yX3_overtimePercent cX3_overtimePercent 1 (some .int), Cond.methodLink RX3 47 yJx4a65c_size_8abf5, Cond.instanceMethod yJx4a65c_size_8abf5, Cond.selects RJx4a65c yJx4a65c_size_8abf5 yJx4a65c_size_8abf5, Cond.initialized RJx4a65c, Cond.code yJx4a65c_size_8abf5 cJx4a65c_size_8abf5 1 (some .int), Cond.fieldLink RJx4a65c 48 "java/util/ArrayList" "size" "I", Cond.methodLink RX3 140 yJx4a65c_get_915e3, Cond.instanceMethod yJx4a65c_get_915e3, Cond.selects RJx4a65c yJx4a65c_get_915e3 yJx4a65c_get_915e3, Cond.code yJx4a65c_get_915e3 cJx4a65c_get_915e3 2 (some (.object "java/lang/Object")), Cond.methodLink RJx4a65c 118 yJ15_checkIndex_7cf53, Cond.static yJ15_checkIndex_7cf53, Cond.initialized RJ15, Cond.code yJ15_checkIndex_7cf53 cJ15_checkIndex_7cf53 2 (some .int), Cond.methodLink RJ15 105 yJ3_checkIndex_8e157, Cond.static yJ3_checkIndex_8e157]
def wsX3_payFor_r4 : List Cond := [Cond.initialized RJ3, Cond.code yJ3_checkIndex_8e157 cJ3_checkIndex_8e157 3 (some .int), Cond.methodLink RJx4a65c 123 yJx4a65c_elementData_915e3, Cond.instanceMethod yJx4a65c_elementData_915e3, Cond.selects RJx4a65c yJx4a65c_elementData_915e3 yJx4a65c_elementData_915e3, Cond.code yJx4a65c_elementData_915e3 cJx4a65c_elementData_915e3 2 (some (.object "java/lang/Object")), Cond.fieldLink RJx4a65c 9 "java/util/ArrayList" "elementData" "[Ljava/lang/Object;", Cond.methodLink RX3 194 yX0_appliesTo, Cond.instanceMethod yX0_appliesTo, Cond.selects RX0 yX0_appliesTo yX0_appliesTo, Cond.initialized RX0, Cond.code yX0_appliesTo cX0_appliesTo 5 (some .boolean), Cond.fieldLink RX0 30 "RosterPay$Rule" "isOn" "Z", Cond.fieldLink RX0 24 "RosterPay$Rule" "ranks" "I", Cond.fieldLink RX0 18 "RosterPay$Rule" "from" "I", Cond.fieldLink RX0 21 "RosterPay$Rule" "to" "I", Cond.methodLink RX0 34 yX0_hasBit, Cond.static yX0_hasBit, Cond.code yX0_hasBit cX0_hasBit 2 (some .boolean), Cond.methodLink RX0 38 yX0_isForDay, Cond.instanceMethod yX0_isForDay, Cond.selects RX0 yX0_isForDay yX0_isForDay, Cond.code yX0_isForDay cX0_isForDay 3 (some .boolean), Cond.fieldLink RX0 15 "RosterPay$Rule" "weekdays" "I"]
def wsX3_payFor_r5 : List Cond := [Cond.methodLink RX3 201 yX3_amount, Cond.static yX3_amount, Cond.code yX3_amount cX3_amount 2 (some .int)]
def wsX3_payFor : List Cond := .code yX3_payFor cX3_payFor 5 (some .int) :: ((wsX3_payFor_r1 ++ (wsX3_payFor_r2 ++ (wsX3_payFor_r3 ++ (wsX3_payFor_r4 ++ wsX3_payFor_r5)))) ++ wsX10 ++ wsX20 ++ wsX30 ++ wsX00 ++ wsJx4a65c0)
def wsX3_cancel_r1 : List Cond := [Cond.fieldLink RX3 113 "RosterPay$Shift" "isCancelled" "Z", Cond.methodLink RX3 101 yX3_findShift, Cond.instanceMethod yX3_findShift, Cond.selects RX3 yX3_findShift yX3_findShift, Cond.initialized RX3, Cond.code yX3_findShift cX3_findShift 2 (some (.object "RosterPay$Shift")), Cond.classLink RX3 170 "java/lang/IndexOutOfBoundsException", Cond.initialized "java/lang/IndexOutOfBoundsException", Cond.fieldLink RX3 33 "RosterPay" "roster" "Ljava/util/ArrayList;", Cond.classLink RX3 96 "RosterPay$Shift", Cond.methodLink RX3 47 yJx4a65c_size_8abf5, Cond.instanceMethod yJx4a65c_size_8abf5, Cond.selects RJx4a65c yJx4a65c_size_8abf5 yJx4a65c_size_8abf5, Cond.initialized RJx4a65c, Cond.code yJx4a65c_size_8abf5 cJx4a65c_size_8abf5 1 (some .int), Cond.fieldLink RJx4a65c 48 "java/util/ArrayList" "size" "I", Cond.methodLink RX3 140 yJx4a65c_get_915e3, Cond.instanceMethod yJx4a65c_get_915e3, Cond.selects RJx4a65c yJx4a65c_get_915e3 yJx4a65c_get_915e3, Cond.code yJx4a65c_get_915e3 cJx4a65c_get_915e3 2 (some (.object "java/lang/Object")), Cond.methodLink RJx4a65c 118 yJ15_checkIndex_7cf53, Cond.static yJ15_checkIndex_7cf53, Cond.initialized RJ15, Cond.code yJ15_checkIndex_7cf53 cJ15_checkIndex_7cf53 2 (some .int)]
def wsX3_cancel_r2 : List Cond := [Cond.methodLink RJ15 105 yJ3_checkIndex_8e157, Cond.static yJ3_checkIndex_8e157, Cond.initialized RJ3, Cond.code yJ3_checkIndex_8e157 cJ3_checkIndex_8e157 3 (some .int), Cond.methodLink RJx4a65c 123 yJx4a65c_elementData_915e3, Cond.instanceMethod yJx4a65c_elementData_915e3, Cond.selects RJx4a65c yJx4a65c_elementData_915e3 yJx4a65c_elementData_915e3, Cond.code yJx4a65c_elementData_915e3 cJx4a65c_elementData_915e3 2 (some (.object "java/lang/Object")), Cond.fieldLink RJx4a65c 9 "java/util/ArrayList" "elementData" "[Ljava/lang/Object;", Cond.methodLink RX3 105 yX3_checkNotCancelled, Cond.static yX3_checkNotCancelled, Cond.code yX3_checkNotCancelled cX3_checkNotCancelled 1 none, Cond.classLink RX3 51 "java/lang/IllegalStateException", Cond.initialized "java/lang/IllegalStateException", Cond.methodLink RX3 109 yX3_payFor, Cond.instanceMethod yX3_payFor, Cond.selects RX3 yX3_payFor yX3_payFor, Cond.code yX3_payFor cX3_payFor 5 (some .int), Cond.fieldLink RX3 148 "RosterPay$Shift" "worker" "LRosterPay$Worker;", Cond.fieldLink RX3 86 "RosterPay$Worker" "rank" "I", Cond.methodLink RX3 198 yX3_baseOf, Cond.instanceMethod yX3_baseOf, Cond.selects RX3 yX3_baseOf yX3_baseOf, Cond.code yX3_baseOf cX3_baseOf 2 (some .int)]
def wsX3_cancel_r3 : List Cond := [Cond.fieldLink RX3 9 "RosterPay" "bases" "[I", Cond.methodLink RX3 137 yX1_breaksMissed, Cond.instanceMethod yX1_breaksMissed, Cond.selects RX1 yX1_breaksMissed yX1_breaksMissed, Cond.initialized RX1, Cond.code yX1_breaksMissed cX1_breaksMissed 1 (some .int), Cond.fieldLink RX1 25 "RosterPay$Shift" "isCancelled" "Z", Cond.fieldLink RX1 22 "RosterPay$Shift" "breaksTaken" "I", Cond.methodLink RX1 29 Lib.Math.max.name, Cond.static Lib.Math.max.name, Cond.initialized "java/lang/Math", Cond.code Lib.Math.max.name Lib.Math.max.code 2 (some .int), Cond.methodLink RX1 35 yX1_breaksOwed, Cond.instanceMethod yX1_breaksOwed, Cond.selects RX1 yX1_breaksOwed yX1_breaksOwed, Cond.code yX1_breaksOwed cX1_breaksOwed 1 (some .int), Cond.fieldLink RX1 19 "RosterPay$Shift" "quarters" "I", Cond.methodLink RX3 119 yX1_paidLength, Cond.instanceMethod yX1_paidLength, Cond.selects RX1 yX1_paidLength yX1_paidLength, Cond.code yX1_paidLength cX1_paidLength 1 (some .int), Cond.methodLink RX3 126 yX3_percentOf, Cond.instanceMethod yX3_percentOf, Cond.selects RX3 yX3_percentOf yX3_percentOf]
def wsX3_cancel_r4 : List Cond := [Cond.code yX3_percentOf cX3_percentOf 4 (some .int), Cond.fieldLink RX3 191 "RosterPay$Rule" "percent" "I", Cond.methodLink RX3 130 yX3_decidingRule, Cond.instanceMethod yX3_decidingRule, Cond.selects RX3 yX3_decidingRule yX3_decidingRule, Cond.code yX3_decidingRule cX3_decidingRule 11 (some (.object "RosterPay$Rule")), Cond.fieldLink RX3 26 "RosterPay" "rules" "Ljava/util/ArrayList;", Cond.classLink RX3 56 "RosterPay$Rule", Cond.methodLink RX3 144 yX1_dayOf, Cond.instanceMethod yX1_dayOf, Cond.selects RX1 yX1_dayOf yX1_dayOf, Cond.code yX1_dayOf cX1_dayOf 2 (some .int), Cond.fieldLink RX1 15 "RosterPay$Shift" "start" "I", Cond.methodLink RX3 181 yX1_quarterOfDay, Cond.instanceMethod yX1_quarterOfDay, Cond.selects RX1 yX1_quarterOfDay yX1_quarterOfDay, Cond.code yX1_quarterOfDay cX1_quarterOfDay 2 (some .int), Cond.methodLink RX3 184 yX3_isHoliday, Cond.instanceMethod yX3_isHoliday, Cond.selects RX3 yX3_isHoliday yX3_isHoliday, Cond.code yX3_isHoliday cX3_isHoliday 2 (some .boolean), Cond.fieldLink RX3 19 "RosterPay" "holidays" "[Z", Cond.methodLink RX3 188 yX3_overtimePercent, Cond.static yX3_overtimePercent]
def wsX3_cancel_r5 : List Cond := [Cond.code yX3_overtimePercent cX3_overtimePercent 1 (some .int), Cond.methodLink RX3 194 yX0_appliesTo, Cond.instanceMethod yX0_appliesTo, Cond.selects RX0 yX0_appliesTo yX0_appliesTo, Cond.initialized RX0, Cond.code yX0_appliesTo cX0_appliesTo 5 (some .boolean), Cond.fieldLink RX0 30 "RosterPay$Rule" "isOn" "Z", Cond.fieldLink RX0 24 "RosterPay$Rule" "ranks" "I", Cond.fieldLink RX0 18 "RosterPay$Rule" "from" "I", Cond.fieldLink RX0 21 "RosterPay$Rule" "to" "I", Cond.methodLink RX0 34 yX0_hasBit, Cond.static yX0_hasBit, Cond.code yX0_hasBit cX0_hasBit 2 (some .boolean), Cond.methodLink RX0 38 yX0_isForDay, Cond.instanceMethod yX0_isForDay, Cond.selects RX0 yX0_isForDay yX0_isForDay, Cond.code yX0_isForDay cX0_isForDay 3 (some .boolean), Cond.fieldLink RX0 15 "RosterPay$Rule" "weekdays" "I", Cond.methodLink RX3 201 yX3_amount, Cond.static yX3_amount, Cond.code yX3_amount cX3_amount 2 (some .int)]
def wsX3_cancel : List Cond := .code yX3_cancel cX3_cancel 4 (some .int) :: ((wsX3_cancel_r1 ++ (wsX3_cancel_r2 ++ (wsX3_cancel_r3 ++ (wsX3_cancel_r4 ++ wsX3_cancel_r5)))) ++ wsX10 ++ wsX30 ++ wsJx4a65c0 ++ wsX20 ++ wsX00 ++ (vx_atS RX3 174 "java/lang/IndexOutOfBoundsException" ["java/lang/RuntimeException", "java/lang/Exception"]).filter goodWord ++ (vx_atS RX3 55 "java/lang/IllegalStateException" ["java/lang/RuntimeException", "java/lang/Exception"]).filter goodWord)
def wsX3_takeBreaks_r1 : List Cond := [Cond.fieldLink RX3 116 "RosterPay$Shift" "breaksTaken" "I", Cond.methodLink RX3 101 yX3_findShift, Cond.instanceMethod yX3_findShift, Cond.selects RX3 yX3_findShift yX3_findShift, Cond.initialized RX3, Cond.code yX3_findShift cX3_findShift 2 (some (.object "RosterPay$Shift")), Cond.classLink RX3 170 "java/lang/IndexOutOfBoundsException", Cond.initialized "java/lang/IndexOutOfBoundsException", Cond.fieldLink RX3 33 "RosterPay" "roster" "Ljava/util/ArrayList;", Cond.classLink RX3 96 "RosterPay$Shift", Cond.methodLink RX3 47 yJx4a65c_size_8abf5, Cond.instanceMethod yJx4a65c_size_8abf5, Cond.selects RJx4a65c yJx4a65c_size_8abf5 yJx4a65c_size_8abf5, Cond.initialized RJx4a65c, Cond.code yJx4a65c_size_8abf5 cJx4a65c_size_8abf5 1 (some .int), Cond.fieldLink RJx4a65c 48 "java/util/ArrayList" "size" "I", Cond.methodLink RX3 140 yJx4a65c_get_915e3, Cond.instanceMethod yJx4a65c_get_915e3, Cond.selects RJx4a65c yJx4a65c_get_915e3 yJx4a65c_get_915e3, Cond.code yJx4a65c_get_915e3 cJx4a65c_get_915e3 2 (some (.object "java/lang/Object")), Cond.methodLink RJx4a65c 118 yJ15_checkIndex_7cf53, Cond.static yJ15_checkIndex_7cf53, Cond.initialized RJ15, Cond.code yJ15_checkIndex_7cf53 cJ15_checkIndex_7cf53 2 (some .int)]
def wsX3_takeBreaks_r2 : List Cond := [Cond.methodLink RJ15 105 yJ3_checkIndex_8e157, Cond.static yJ3_checkIndex_8e157, Cond.initialized RJ3, Cond.code yJ3_checkIndex_8e157 cJ3_checkIndex_8e157 3 (some .int), Cond.methodLink RJx4a65c 123 yJx4a65c_elementData_915e3, Cond.instanceMethod yJx4a65c_elementData_915e3, Cond.selects RJx4a65c yJx4a65c_elementData_915e3 yJx4a65c_elementData_915e3, Cond.code yJx4a65c_elementData_915e3 cJx4a65c_elementData_915e3 2 (some (.object "java/lang/Object")), Cond.fieldLink RJx4a65c 9 "java/util/ArrayList" "elementData" "[Ljava/lang/Object;", Cond.methodLink RX3 43 yX3_checkArgument, Cond.static yX3_checkArgument, Cond.code yX3_checkArgument cX3_checkArgument 3 none, Cond.classLink RX3 36 "java/lang/IllegalArgumentException", Cond.initialized "java/lang/IllegalArgumentException", Cond.methodLink RX3 105 yX3_checkNotCancelled, Cond.static yX3_checkNotCancelled, Cond.code yX3_checkNotCancelled cX3_checkNotCancelled 1 none, Cond.classLink RX3 51 "java/lang/IllegalStateException", Cond.initialized "java/lang/IllegalStateException", Cond.fieldLink RX3 113 "RosterPay$Shift" "isCancelled" "Z"]
def wsX3_takeBreaks : List Cond := .code yX3_takeBreaks cX3_takeBreaks 5 (some .int) :: ((wsX3_takeBreaks_r1 ++ wsX3_takeBreaks_r2) ++ wsX10 ++ wsX30 ++ wsJx4a65c0 ++ (vx_atS RX3 174 "java/lang/IndexOutOfBoundsException" ["java/lang/RuntimeException", "java/lang/Exception"]).filter goodWord ++ (vx_atS RX3 40 "java/lang/IllegalArgumentException" ["java/lang/RuntimeException", "java/lang/Exception"]).filter goodWord ++ (vx_atS RX3 55 "java/lang/IllegalStateException" ["java/lang/RuntimeException", "java/lang/Exception"]).filter goodWord)
def wsX3_shifts : List Cond := .code yX3_shifts cX3_shifts 1 (some .int) :: ([.fieldLink RX3 33 "RosterPay" "roster" "Ljava/util/ArrayList;", .methodLink RX3 47 yJx4a65c_size_8abf5, .instanceMethod yJx4a65c_size_8abf5, .selects RJx4a65c yJx4a65c_size_8abf5 yJx4a65c_size_8abf5, .initialized RJx4a65c, .code yJx4a65c_size_8abf5 cJx4a65c_size_8abf5 1 (some .int), .fieldLink RJx4a65c 48 "java/util/ArrayList" "size" "I"] ++ wsX30 ++ wsJx4a65c0)
def wsX3_paidQuarters_r1 : List Cond := [Cond.methodLink RX3 101 yX3_findShift, Cond.instanceMethod yX3_findShift, Cond.selects RX3 yX3_findShift yX3_findShift, Cond.initialized RX3, Cond.code yX3_findShift cX3_findShift 2 (some (.object "RosterPay$Shift")), Cond.classLink RX3 170 "java/lang/IndexOutOfBoundsException", Cond.initialized "java/lang/IndexOutOfBoundsException", Cond.fieldLink RX3 33 "RosterPay" "roster" "Ljava/util/ArrayList;", Cond.classLink RX3 96 "RosterPay$Shift", Cond.methodLink RX3 47 yJx4a65c_size_8abf5, Cond.instanceMethod yJx4a65c_size_8abf5, Cond.selects RJx4a65c yJx4a65c_size_8abf5 yJx4a65c_size_8abf5, Cond.initialized RJx4a65c, Cond.code yJx4a65c_size_8abf5 cJx4a65c_size_8abf5 1 (some .int), Cond.fieldLink RJx4a65c 48 "java/util/ArrayList" "size" "I", Cond.methodLink RX3 140 yJx4a65c_get_915e3, Cond.instanceMethod yJx4a65c_get_915e3, Cond.selects RJx4a65c yJx4a65c_get_915e3 yJx4a65c_get_915e3, Cond.code yJx4a65c_get_915e3 cJx4a65c_get_915e3 2 (some (.object "java/lang/Object")), Cond.methodLink RJx4a65c 118 yJ15_checkIndex_7cf53, Cond.static yJ15_checkIndex_7cf53, Cond.initialized RJ15, Cond.code yJ15_checkIndex_7cf53 cJ15_checkIndex_7cf53 2 (some .int), Cond.methodLink RJ15 105 yJ3_checkIndex_8e157]
def wsX3_paidQuarters_r2 : List Cond := [Cond.static yJ3_checkIndex_8e157, Cond.initialized RJ3, Cond.code yJ3_checkIndex_8e157 cJ3_checkIndex_8e157 3 (some .int), Cond.methodLink RJx4a65c 123 yJx4a65c_elementData_915e3, Cond.instanceMethod yJx4a65c_elementData_915e3, Cond.selects RJx4a65c yJx4a65c_elementData_915e3 yJx4a65c_elementData_915e3, Cond.code yJx4a65c_elementData_915e3 cJx4a65c_elementData_915e3 2 (some (.object "java/lang/Object")), Cond.fieldLink RJx4a65c 9 "java/util/ArrayList" "elementData" "[Ljava/lang/Object;", Cond.methodLink RX3 119 yX1_paidLength, Cond.instanceMethod yX1_paidLength, Cond.selects RX1 yX1_paidLength yX1_paidLength, Cond.initialized RX1, Cond.code yX1_paidLength cX1_paidLength 1 (some .int), Cond.fieldLink RX1 25 "RosterPay$Shift" "isCancelled" "Z", Cond.fieldLink RX1 19 "RosterPay$Shift" "quarters" "I", Cond.methodLink RX1 29 Lib.Math.max.name, Cond.static Lib.Math.max.name, Cond.initialized "java/lang/Math", Cond.code Lib.Math.max.name Lib.Math.max.code 2 (some .int)]
def wsX3_paidQuarters : List Cond := .code yX3_paidQuarters cX3_paidQuarters 2 (some .int) :: ((wsX3_paidQuarters_r1 ++ wsX3_paidQuarters_r2) ++ wsX30 ++ wsJx4a65c0 ++ wsX10 ++ (vx_atS RX3 174 "java/lang/IndexOutOfBoundsException" ["java/lang/RuntimeException", "java/lang/Exception"]).filter goodWord)
def wsX3_checkPaidQuarter : List Cond := .code yX3_checkPaidQuarter cX3_checkPaidQuarter 2 none :: ([.classLink RX3 170 "java/lang/IndexOutOfBoundsException", .initialized "java/lang/IndexOutOfBoundsException", .methodLink RX3 119 yX1_paidLength, .instanceMethod yX1_paidLength, .selects RX1 yX1_paidLength yX1_paidLength, .initialized RX1, .code yX1_paidLength cX1_paidLength 1 (some .int), .fieldLink RX1 25 "RosterPay$Shift" "isCancelled" "Z", .fieldLink RX1 19 "RosterPay$Shift" "quarters" "I", .methodLink RX1 29 Lib.Math.max.name, .static Lib.Math.max.name, .initialized "java/lang/Math", .code Lib.Math.max.name Lib.Math.max.code 2 (some .int)] ++ wsX10 ++ (vx_atS RX3 174 "java/lang/IndexOutOfBoundsException" ["java/lang/RuntimeException", "java/lang/Exception"]).filter goodWord)
def wsX3_percentAt_r1 : List Cond := [Cond.methodLink RX3 101 yX3_findShift, Cond.instanceMethod yX3_findShift, Cond.selects RX3 yX3_findShift yX3_findShift, Cond.initialized RX3, Cond.code yX3_findShift cX3_findShift 2 (some (.object "RosterPay$Shift")), Cond.classLink RX3 170 "java/lang/IndexOutOfBoundsException", Cond.initialized "java/lang/IndexOutOfBoundsException", Cond.fieldLink RX3 33 "RosterPay" "roster" "Ljava/util/ArrayList;", Cond.classLink RX3 96 "RosterPay$Shift", Cond.methodLink RX3 47 yJx4a65c_size_8abf5, Cond.instanceMethod yJx4a65c_size_8abf5, Cond.selects RJx4a65c yJx4a65c_size_8abf5 yJx4a65c_size_8abf5, Cond.initialized RJx4a65c, Cond.code yJx4a65c_size_8abf5 cJx4a65c_size_8abf5 1 (some .int), Cond.fieldLink RJx4a65c 48 "java/util/ArrayList" "size" "I", Cond.methodLink RX3 140 yJx4a65c_get_915e3, Cond.instanceMethod yJx4a65c_get_915e3, Cond.selects RJx4a65c yJx4a65c_get_915e3 yJx4a65c_get_915e3, Cond.code yJx4a65c_get_915e3 cJx4a65c_get_915e3 2 (some (.object "java/lang/Object")), Cond.methodLink RJx4a65c 118 yJ15_checkIndex_7cf53, Cond.static yJ15_checkIndex_7cf53, Cond.initialized RJ15, Cond.code yJ15_checkIndex_7cf53 cJ15_checkIndex_7cf53 2 (some .int), Cond.methodLink RJ15 105 yJ3_checkIndex_8e157]
def wsX3_percentAt_r2 : List Cond := [Cond.static yJ3_checkIndex_8e157, Cond.initialized RJ3, Cond.code yJ3_checkIndex_8e157 cJ3_checkIndex_8e157 3 (some .int), Cond.methodLink RJx4a65c 123 yJx4a65c_elementData_915e3, Cond.instanceMethod yJx4a65c_elementData_915e3, Cond.selects RJx4a65c yJx4a65c_elementData_915e3 yJx4a65c_elementData_915e3, Cond.code yJx4a65c_elementData_915e3 cJx4a65c_elementData_915e3 2 (some (.object "java/lang/Object")), Cond.fieldLink RJx4a65c 9 "java/util/ArrayList" "elementData" "[Ljava/lang/Object;", Cond.methodLink RX3 122 yX3_checkPaidQuarter, Cond.static yX3_checkPaidQuarter, Cond.code yX3_checkPaidQuarter cX3_checkPaidQuarter 2 none, Cond.methodLink RX3 119 yX1_paidLength, Cond.instanceMethod yX1_paidLength, Cond.selects RX1 yX1_paidLength yX1_paidLength, Cond.initialized RX1, Cond.code yX1_paidLength cX1_paidLength 1 (some .int), Cond.fieldLink RX1 25 "RosterPay$Shift" "isCancelled" "Z", Cond.fieldLink RX1 19 "RosterPay$Shift" "quarters" "I", Cond.methodLink RX1 29 Lib.Math.max.name, Cond.static Lib.Math.max.name, Cond.initialized "java/lang/Math", Cond.code Lib.Math.max.name Lib.Math.max.code 2 (some .int), Cond.methodLink RX3 126 yX3_percentOf, Cond.instanceMethod yX3_percentOf]
def wsX3_percentAt_r3 : List Cond := [Cond.selects RX3 yX3_percentOf yX3_percentOf, Cond.code yX3_percentOf cX3_percentOf 4 (some .int), Cond.fieldLink RX3 191 "RosterPay$Rule" "percent" "I", Cond.methodLink RX3 130 yX3_decidingRule, Cond.instanceMethod yX3_decidingRule, Cond.selects RX3 yX3_decidingRule yX3_decidingRule, Cond.code yX3_decidingRule cX3_decidingRule 11 (some (.object "RosterPay$Rule")), Cond.fieldLink RX3 26 "RosterPay" "rules" "Ljava/util/ArrayList;", Cond.classLink RX3 56 "RosterPay$Rule", Cond.fieldLink RX3 148 "RosterPay$Shift" "worker" "LRosterPay$Worker;", Cond.fieldLink RX3 86 "RosterPay$Worker" "rank" "I", Cond.methodLink RX3 144 yX1_dayOf, Cond.instanceMethod yX1_dayOf, Cond.selects RX1 yX1_dayOf yX1_dayOf, Cond.code yX1_dayOf cX1_dayOf 2 (some .int), Cond.fieldLink RX1 15 "RosterPay$Shift" "start" "I", Cond.methodLink RX3 181 yX1_quarterOfDay, Cond.instanceMethod yX1_quarterOfDay, Cond.selects RX1 yX1_quarterOfDay yX1_quarterOfDay, Cond.code yX1_quarterOfDay cX1_quarterOfDay 2 (some .int), Cond.methodLink RX3 184 yX3_isHoliday, Cond.instanceMethod yX3_isHoliday, Cond.selects RX3 yX3_isHoliday yX3_isHoliday, Cond.code yX3_isHoliday cX3_isHoliday 2 (some .boolean)]
def wsX3_percentAt_r4 : List Cond := [Cond.fieldLink RX3 19 "RosterPay" "holidays" "[Z", Cond.methodLink RX3 188 yX3_overtimePercent, Cond.static yX3_overtimePercent, Cond.code yX3_overtimePercent cX3_overtimePercent 1 (some .int), Cond.methodLink RX3 194 yX0_appliesTo, Cond.instanceMethod yX0_appliesTo, Cond.selects RX0 yX0_appliesTo yX0_appliesTo, Cond.initialized RX0, Cond.code yX0_appliesTo cX0_appliesTo 5 (some .boolean), Cond.fieldLink RX0 30 "RosterPay$Rule" "isOn" "Z", Cond.fieldLink RX0 24 "RosterPay$Rule" "ranks" "I", Cond.fieldLink RX0 18 "RosterPay$Rule" "from" "I", Cond.fieldLink RX0 21 "RosterPay$Rule" "to" "I", Cond.methodLink RX0 34 yX0_hasBit, Cond.static yX0_hasBit, Cond.code yX0_hasBit cX0_hasBit 2 (some .boolean), Cond.methodLink RX0 38 yX0_isForDay, Cond.instanceMethod yX0_isForDay, Cond.selects RX0 yX0_isForDay yX0_isForDay, Cond.code yX0_isForDay cX0_isForDay 3 (some .boolean), Cond.fieldLink RX0 15 "RosterPay$Rule" "weekdays" "I"]
def wsX3_percentAt : List Cond := .code yX3_percentAt cX3_percentAt 4 (some .int) :: ((wsX3_percentAt_r1 ++ (wsX3_percentAt_r2 ++ (wsX3_percentAt_r3 ++ wsX3_percentAt_r4))) ++ wsX30 ++ wsJx4a65c0 ++ wsX10 ++ wsX00 ++ wsX20 ++ (vx_atS RX3 174 "java/lang/IndexOutOfBoundsException" ["java/lang/RuntimeException", "java/lang/Exception"]).filter goodWord)
def wsX3_reasonAt_r1 : List Cond := [Cond.fieldLink RX3 134 "RosterPay$Rule" "number" "I", Cond.methodLink RX3 101 yX3_findShift, Cond.instanceMethod yX3_findShift, Cond.selects RX3 yX3_findShift yX3_findShift, Cond.initialized RX3, Cond.code yX3_findShift cX3_findShift 2 (some (.object "RosterPay$Shift")), Cond.classLink RX3 170 "java/lang/IndexOutOfBoundsException", Cond.initialized "java/lang/IndexOutOfBoundsException", Cond.fieldLink RX3 33 "RosterPay" "roster" "Ljava/util/ArrayList;", Cond.classLink RX3 96 "RosterPay$Shift", Cond.methodLink RX3 47 yJx4a65c_size_8abf5, Cond.instanceMethod yJx4a65c_size_8abf5, Cond.selects RJx4a65c yJx4a65c_size_8abf5 yJx4a65c_size_8abf5, Cond.initialized RJx4a65c, Cond.code yJx4a65c_size_8abf5 cJx4a65c_size_8abf5 1 (some .int), Cond.fieldLink RJx4a65c 48 "java/util/ArrayList" "size" "I", Cond.methodLink RX3 140 yJx4a65c_get_915e3, Cond.instanceMethod yJx4a65c_get_915e3, Cond.selects RJx4a65c yJx4a65c_get_915e3 yJx4a65c_get_915e3, Cond.code yJx4a65c_get_915e3 cJx4a65c_get_915e3 2 (some (.object "java/lang/Object")), Cond.methodLink RJx4a65c 118 yJ15_checkIndex_7cf53, Cond.static yJ15_checkIndex_7cf53, Cond.initialized RJ15, Cond.code yJ15_checkIndex_7cf53 cJ15_checkIndex_7cf53 2 (some .int)]
def wsX3_reasonAt_r2 : List Cond := [Cond.methodLink RJ15 105 yJ3_checkIndex_8e157, Cond.static yJ3_checkIndex_8e157, Cond.initialized RJ3, Cond.code yJ3_checkIndex_8e157 cJ3_checkIndex_8e157 3 (some .int), Cond.methodLink RJx4a65c 123 yJx4a65c_elementData_915e3, Cond.instanceMethod yJx4a65c_elementData_915e3, Cond.selects RJx4a65c yJx4a65c_elementData_915e3 yJx4a65c_elementData_915e3, Cond.code yJx4a65c_elementData_915e3 cJx4a65c_elementData_915e3 2 (some (.object "java/lang/Object")), Cond.fieldLink RJx4a65c 9 "java/util/ArrayList" "elementData" "[Ljava/lang/Object;", Cond.methodLink RX3 122 yX3_checkPaidQuarter, Cond.static yX3_checkPaidQuarter, Cond.code yX3_checkPaidQuarter cX3_checkPaidQuarter 2 none, Cond.methodLink RX3 119 yX1_paidLength, Cond.instanceMethod yX1_paidLength, Cond.selects RX1 yX1_paidLength yX1_paidLength, Cond.initialized RX1, Cond.code yX1_paidLength cX1_paidLength 1 (some .int), Cond.fieldLink RX1 25 "RosterPay$Shift" "isCancelled" "Z", Cond.fieldLink RX1 19 "RosterPay$Shift" "quarters" "I", Cond.methodLink RX1 29 Lib.Math.max.name, Cond.static Lib.Math.max.name, Cond.initialized "java/lang/Math", Cond.code Lib.Math.max.name Lib.Math.max.code 2 (some .int), Cond.methodLink RX3 130 yX3_decidingRule]
def wsX3_reasonAt_r3 : List Cond := [Cond.instanceMethod yX3_decidingRule, Cond.selects RX3 yX3_decidingRule yX3_decidingRule, Cond.code yX3_decidingRule cX3_decidingRule 11 (some (.object "RosterPay$Rule")), Cond.fieldLink RX3 26 "RosterPay" "rules" "Ljava/util/ArrayList;", Cond.classLink RX3 56 "RosterPay$Rule", Cond.fieldLink RX3 191 "RosterPay$Rule" "percent" "I", Cond.fieldLink RX3 148 "RosterPay$Shift" "worker" "LRosterPay$Worker;", Cond.fieldLink RX3 86 "RosterPay$Worker" "rank" "I", Cond.methodLink RX3 144 yX1_dayOf, Cond.instanceMethod yX1_dayOf, Cond.selects RX1 yX1_dayOf yX1_dayOf, Cond.code yX1_dayOf cX1_dayOf 2 (some .int), Cond.fieldLink RX1 15 "RosterPay$Shift" "start" "I", Cond.methodLink RX3 181 yX1_quarterOfDay, Cond.instanceMethod yX1_quarterOfDay, Cond.selects RX1 yX1_quarterOfDay yX1_quarterOfDay, Cond.code yX1_quarterOfDay cX1_quarterOfDay 2 (some .int), Cond.methodLink RX3 184 yX3_isHoliday, Cond.instanceMethod yX3_isHoliday, Cond.selects RX3 yX3_isHoliday yX3_isHoliday, Cond.code yX3_isHoliday cX3_isHoliday 2 (some .boolean), Cond.fieldLink RX3 19 "RosterPay" "holidays" "[Z", Cond.methodLink RX3 188 yX3_overtimePercent, Cond.static yX3_overtimePercent]
def wsX3_reasonAt_r4 : List Cond := [Cond.code yX3_overtimePercent cX3_overtimePercent 1 (some .int), Cond.methodLink RX3 194 yX0_appliesTo, Cond.instanceMethod yX0_appliesTo, Cond.selects RX0 yX0_appliesTo yX0_appliesTo, Cond.initialized RX0, Cond.code yX0_appliesTo cX0_appliesTo 5 (some .boolean), Cond.fieldLink RX0 30 "RosterPay$Rule" "isOn" "Z", Cond.fieldLink RX0 24 "RosterPay$Rule" "ranks" "I", Cond.fieldLink RX0 18 "RosterPay$Rule" "from" "I", Cond.fieldLink RX0 21 "RosterPay$Rule" "to" "I", Cond.methodLink RX0 34 yX0_hasBit, Cond.static yX0_hasBit, Cond.code yX0_hasBit cX0_hasBit 2 (some .boolean), Cond.methodLink RX0 38 yX0_isForDay, Cond.instanceMethod yX0_isForDay, Cond.selects RX0 yX0_isForDay yX0_isForDay, Cond.code yX0_isForDay cX0_isForDay 3 (some .boolean), Cond.fieldLink RX0 15 "RosterPay$Rule" "weekdays" "I"]
def wsX3_reasonAt : List Cond := .code yX3_reasonAt cX3_reasonAt 5 (some .int) :: ((wsX3_reasonAt_r1 ++ (wsX3_reasonAt_r2 ++ (wsX3_reasonAt_r3 ++ wsX3_reasonAt_r4))) ++ wsX00 ++ wsX30 ++ wsJx4a65c0 ++ wsX10 ++ wsX20 ++ (vx_atS RX3 174 "java/lang/IndexOutOfBoundsException" ["java/lang/RuntimeException", "java/lang/Exception"]).filter goodWord)
def wsX3_missed_r1 : List Cond := [Cond.methodLink RX3 101 yX3_findShift, Cond.instanceMethod yX3_findShift, Cond.selects RX3 yX3_findShift yX3_findShift, Cond.initialized RX3, Cond.code yX3_findShift cX3_findShift 2 (some (.object "RosterPay$Shift")), Cond.classLink RX3 170 "java/lang/IndexOutOfBoundsException", Cond.initialized "java/lang/IndexOutOfBoundsException", Cond.fieldLink RX3 33 "RosterPay" "roster" "Ljava/util/ArrayList;", Cond.classLink RX3 96 "RosterPay$Shift", Cond.methodLink RX3 47 yJx4a65c_size_8abf5, Cond.instanceMethod yJx4a65c_size_8abf5, Cond.selects RJx4a65c yJx4a65c_size_8abf5 yJx4a65c_size_8abf5, Cond.initialized RJx4a65c, Cond.code yJx4a65c_size_8abf5 cJx4a65c_size_8abf5 1 (some .int), Cond.fieldLink RJx4a65c 48 "java/util/ArrayList" "size" "I", Cond.methodLink RX3 140 yJx4a65c_get_915e3, Cond.instanceMethod yJx4a65c_get_915e3, Cond.selects RJx4a65c yJx4a65c_get_915e3 yJx4a65c_get_915e3, Cond.code yJx4a65c_get_915e3 cJx4a65c_get_915e3 2 (some (.object "java/lang/Object")), Cond.methodLink RJx4a65c 118 yJ15_checkIndex_7cf53, Cond.static yJ15_checkIndex_7cf53, Cond.initialized RJ15, Cond.code yJ15_checkIndex_7cf53 cJ15_checkIndex_7cf53 2 (some .int), Cond.methodLink RJ15 105 yJ3_checkIndex_8e157]
def wsX3_missed_r2 : List Cond := [Cond.static yJ3_checkIndex_8e157, Cond.initialized RJ3, Cond.code yJ3_checkIndex_8e157 cJ3_checkIndex_8e157 3 (some .int), Cond.methodLink RJx4a65c 123 yJx4a65c_elementData_915e3, Cond.instanceMethod yJx4a65c_elementData_915e3, Cond.selects RJx4a65c yJx4a65c_elementData_915e3 yJx4a65c_elementData_915e3, Cond.code yJx4a65c_elementData_915e3 cJx4a65c_elementData_915e3 2 (some (.object "java/lang/Object")), Cond.fieldLink RJx4a65c 9 "java/util/ArrayList" "elementData" "[Ljava/lang/Object;", Cond.methodLink RX3 137 yX1_breaksMissed, Cond.instanceMethod yX1_breaksMissed, Cond.selects RX1 yX1_breaksMissed yX1_breaksMissed, Cond.initialized RX1, Cond.code yX1_breaksMissed cX1_breaksMissed 1 (some .int), Cond.fieldLink RX1 25 "RosterPay$Shift" "isCancelled" "Z", Cond.fieldLink RX1 22 "RosterPay$Shift" "breaksTaken" "I", Cond.methodLink RX1 29 Lib.Math.max.name, Cond.static Lib.Math.max.name, Cond.initialized "java/lang/Math", Cond.code Lib.Math.max.name Lib.Math.max.code 2 (some .int), Cond.methodLink RX1 35 yX1_breaksOwed, Cond.instanceMethod yX1_breaksOwed, Cond.selects RX1 yX1_breaksOwed yX1_breaksOwed, Cond.code yX1_breaksOwed cX1_breaksOwed 1 (some .int), Cond.fieldLink RX1 19 "RosterPay$Shift" "quarters" "I"]
def wsX3_missed : List Cond := .code yX3_missed cX3_missed 2 (some .int) :: ((wsX3_missed_r1 ++ wsX3_missed_r2) ++ wsX30 ++ wsJx4a65c0 ++ wsX10 ++ (vx_atS RX3 174 "java/lang/IndexOutOfBoundsException" ["java/lang/RuntimeException", "java/lang/Exception"]).filter goodWord)
def wsX3_pay_r1 : List Cond := [Cond.methodLink RX3 101 yX3_findShift, Cond.instanceMethod yX3_findShift, Cond.selects RX3 yX3_findShift yX3_findShift, Cond.initialized RX3, Cond.code yX3_findShift cX3_findShift 2 (some (.object "RosterPay$Shift")), Cond.classLink RX3 170 "java/lang/IndexOutOfBoundsException", Cond.initialized "java/lang/IndexOutOfBoundsException", Cond.fieldLink RX3 33 "RosterPay" "roster" "Ljava/util/ArrayList;", Cond.classLink RX3 96 "RosterPay$Shift", Cond.methodLink RX3 47 yJx4a65c_size_8abf5, Cond.instanceMethod yJx4a65c_size_8abf5, Cond.selects RJx4a65c yJx4a65c_size_8abf5 yJx4a65c_size_8abf5, Cond.initialized RJx4a65c, Cond.code yJx4a65c_size_8abf5 cJx4a65c_size_8abf5 1 (some .int), Cond.fieldLink RJx4a65c 48 "java/util/ArrayList" "size" "I", Cond.methodLink RX3 140 yJx4a65c_get_915e3, Cond.instanceMethod yJx4a65c_get_915e3, Cond.selects RJx4a65c yJx4a65c_get_915e3 yJx4a65c_get_915e3, Cond.code yJx4a65c_get_915e3 cJx4a65c_get_915e3 2 (some (.object "java/lang/Object")), Cond.methodLink RJx4a65c 118 yJ15_checkIndex_7cf53, Cond.static yJ15_checkIndex_7cf53, Cond.initialized RJ15, Cond.code yJ15_checkIndex_7cf53 cJ15_checkIndex_7cf53 2 (some .int), Cond.methodLink RJ15 105 yJ3_checkIndex_8e157]
def wsX3_pay_r2 : List Cond := [Cond.static yJ3_checkIndex_8e157, Cond.initialized RJ3, Cond.code yJ3_checkIndex_8e157 cJ3_checkIndex_8e157 3 (some .int), Cond.methodLink RJx4a65c 123 yJx4a65c_elementData_915e3, Cond.instanceMethod yJx4a65c_elementData_915e3, Cond.selects RJx4a65c yJx4a65c_elementData_915e3 yJx4a65c_elementData_915e3, Cond.code yJx4a65c_elementData_915e3 cJx4a65c_elementData_915e3 2 (some (.object "java/lang/Object")), Cond.fieldLink RJx4a65c 9 "java/util/ArrayList" "elementData" "[Ljava/lang/Object;", Cond.methodLink RX3 109 yX3_payFor, Cond.instanceMethod yX3_payFor, Cond.selects RX3 yX3_payFor yX3_payFor, Cond.code yX3_payFor cX3_payFor 5 (some .int), Cond.fieldLink RX3 148 "RosterPay$Shift" "worker" "LRosterPay$Worker;", Cond.fieldLink RX3 86 "RosterPay$Worker" "rank" "I", Cond.methodLink RX3 198 yX3_baseOf, Cond.instanceMethod yX3_baseOf, Cond.selects RX3 yX3_baseOf yX3_baseOf, Cond.code yX3_baseOf cX3_baseOf 2 (some .int), Cond.fieldLink RX3 9 "RosterPay" "bases" "[I", Cond.methodLink RX3 137 yX1_breaksMissed, Cond.instanceMethod yX1_breaksMissed, Cond.selects RX1 yX1_breaksMissed yX1_breaksMissed, Cond.initialized RX1, Cond.code yX1_breaksMissed cX1_breaksMissed 1 (some .int)]
def wsX3_pay_r3 : List Cond := [Cond.fieldLink RX1 25 "RosterPay$Shift" "isCancelled" "Z", Cond.fieldLink RX1 22 "RosterPay$Shift" "breaksTaken" "I", Cond.methodLink RX1 29 Lib.Math.max.name, Cond.static Lib.Math.max.name, Cond.initialized "java/lang/Math", Cond.code Lib.Math.max.name Lib.Math.max.code 2 (some .int), Cond.methodLink RX1 35 yX1_breaksOwed, Cond.instanceMethod yX1_breaksOwed, Cond.selects RX1 yX1_breaksOwed yX1_breaksOwed, Cond.code yX1_breaksOwed cX1_breaksOwed 1 (some .int), Cond.fieldLink RX1 19 "RosterPay$Shift" "quarters" "I", Cond.methodLink RX3 119 yX1_paidLength, Cond.instanceMethod yX1_paidLength, Cond.selects RX1 yX1_paidLength yX1_paidLength, Cond.code yX1_paidLength cX1_paidLength 1 (some .int), Cond.methodLink RX3 126 yX3_percentOf, Cond.instanceMethod yX3_percentOf, Cond.selects RX3 yX3_percentOf yX3_percentOf, Cond.code yX3_percentOf cX3_percentOf 4 (some .int), Cond.fieldLink RX3 191 "RosterPay$Rule" "percent" "I", Cond.methodLink RX3 130 yX3_decidingRule, Cond.instanceMethod yX3_decidingRule, Cond.selects RX3 yX3_decidingRule yX3_decidingRule, Cond.code yX3_decidingRule cX3_decidingRule 11 (some (.object "RosterPay$Rule"))]
def wsX3_pay_r4 : List Cond := [Cond.fieldLink RX3 26 "RosterPay" "rules" "Ljava/util/ArrayList;", Cond.classLink RX3 56 "RosterPay$Rule", Cond.methodLink RX3 144 yX1_dayOf, Cond.instanceMethod yX1_dayOf, Cond.selects RX1 yX1_dayOf yX1_dayOf, Cond.code yX1_dayOf cX1_dayOf 2 (some .int), Cond.fieldLink RX1 15 "RosterPay$Shift" "start" "I", Cond.methodLink RX3 181 yX1_quarterOfDay, Cond.instanceMethod yX1_quarterOfDay, Cond.selects RX1 yX1_quarterOfDay yX1_quarterOfDay, Cond.code yX1_quarterOfDay cX1_quarterOfDay 2 (some .int), Cond.methodLink RX3 184 yX3_isHoliday, Cond.instanceMethod yX3_isHoliday, Cond.selects RX3 yX3_isHoliday yX3_isHoliday, Cond.code yX3_isHoliday cX3_isHoliday 2 (some .boolean), Cond.fieldLink RX3 19 "RosterPay" "holidays" "[Z", Cond.methodLink RX3 188 yX3_overtimePercent, Cond.static yX3_overtimePercent, Cond.code yX3_overtimePercent cX3_overtimePercent 1 (some .int), Cond.methodLink RX3 194 yX0_appliesTo, Cond.instanceMethod yX0_appliesTo, Cond.selects RX0 yX0_appliesTo yX0_appliesTo, Cond.initialized RX0, Cond.code yX0_appliesTo cX0_appliesTo 5 (some .boolean)]
def wsX3_pay_r5 : List Cond := [Cond.fieldLink RX0 30 "RosterPay$Rule" "isOn" "Z", Cond.fieldLink RX0 24 "RosterPay$Rule" "ranks" "I", Cond.fieldLink RX0 18 "RosterPay$Rule" "from" "I", Cond.fieldLink RX0 21 "RosterPay$Rule" "to" "I", Cond.methodLink RX0 34 yX0_hasBit, Cond.static yX0_hasBit, Cond.code yX0_hasBit cX0_hasBit 2 (some .boolean), Cond.methodLink RX0 38 yX0_isForDay, Cond.instanceMethod yX0_isForDay, Cond.selects RX0 yX0_isForDay yX0_isForDay, Cond.code yX0_isForDay cX0_isForDay 3 (some .boolean), Cond.fieldLink RX0 15 "RosterPay$Rule" "weekdays" "I", Cond.methodLink RX3 201 yX3_amount, Cond.static yX3_amount, Cond.code yX3_amount cX3_amount 2 (some .int)]
def wsX3_pay : List Cond := .code yX3_pay cX3_pay 2 (some .int) :: ((wsX3_pay_r1 ++ (wsX3_pay_r2 ++ (wsX3_pay_r3 ++ (wsX3_pay_r4 ++ wsX3_pay_r5)))) ++ wsX30 ++ wsJx4a65c0 ++ wsX10 ++ wsX20 ++ wsX00 ++ (vx_atS RX3 174 "java/lang/IndexOutOfBoundsException" ["java/lang/RuntimeException", "java/lang/Exception"]).filter goodWord)
def wsX3_payOf_r1 : List Cond := [Cond.fieldLink RX3 33 "RosterPay" "roster" "Ljava/util/ArrayList;", Cond.classLink RX3 96 "RosterPay$Shift", Cond.fieldLink RX3 148 "RosterPay$Shift" "worker" "LRosterPay$Worker;", Cond.methodLink RX3 82 yX3_findWorker, Cond.instanceMethod yX3_findWorker, Cond.selects RX3 yX3_findWorker yX3_findWorker, Cond.initialized RX3, Cond.code yX3_findWorker cX3_findWorker 2 (some (.object "RosterPay$Worker")), Cond.classLink RX3 170 "java/lang/IndexOutOfBoundsException", Cond.initialized "java/lang/IndexOutOfBoundsException", Cond.fieldLink RX3 30 "RosterPay" "workers" "Ljava/util/ArrayList;", Cond.classLink RX3 77 "RosterPay$Worker", Cond.methodLink RX3 47 yJx4a65c_size_8abf5, Cond.instanceMethod yJx4a65c_size_8abf5, Cond.selects RJx4a65c yJx4a65c_size_8abf5 yJx4a65c_size_8abf5, Cond.initialized RJx4a65c, Cond.code yJx4a65c_size_8abf5 cJx4a65c_size_8abf5 1 (some .int), Cond.fieldLink RJx4a65c 48 "java/util/ArrayList" "size" "I", Cond.methodLink RX3 140 yJx4a65c_get_915e3, Cond.instanceMethod yJx4a65c_get_915e3, Cond.selects RJx4a65c yJx4a65c_get_915e3 yJx4a65c_get_915e3, Cond.code yJx4a65c_get_915e3 cJx4a65c_get_915e3 2 (some (.object "java/lang/Object")), Cond.methodLink RJx4a65c 118 yJ15_checkIndex_7cf53, Cond.static yJ15_checkIndex_7cf53]
def wsX3_payOf_r2 : List Cond := [Cond.initialized RJ15, Cond.code yJ15_checkIndex_7cf53 cJ15_checkIndex_7cf53 2 (some .int), Cond.methodLink RJ15 105 yJ3_checkIndex_8e157, Cond.static yJ3_checkIndex_8e157, Cond.initialized RJ3, Cond.code yJ3_checkIndex_8e157 cJ3_checkIndex_8e157 3 (some .int), Cond.methodLink RJx4a65c 123 yJx4a65c_elementData_915e3, Cond.instanceMethod yJx4a65c_elementData_915e3, Cond.selects RJx4a65c yJx4a65c_elementData_915e3 yJx4a65c_elementData_915e3, Cond.code yJx4a65c_elementData_915e3 cJx4a65c_elementData_915e3 2 (some (.object "java/lang/Object")), Cond.fieldLink RJx4a65c 9 "java/util/ArrayList" "elementData" "[Ljava/lang/Object;", Cond.methodLink RX3 43 yX3_checkArgument, Cond.static yX3_checkArgument, Cond.code yX3_checkArgument cX3_checkArgument 3 none, Cond.classLink RX3 36 "java/lang/IllegalArgumentException", Cond.initialized "java/lang/IllegalArgumentException", Cond.methodLink RX3 144 yX1_dayOf, Cond.instanceMethod yX1_dayOf, Cond.selects RX1 yX1_dayOf yX1_dayOf, Cond.initialized RX1, Cond.code yX1_dayOf cX1_dayOf 2 (some .int), Cond.fieldLink RX1 15 "RosterPay$Shift" "start" "I", Cond.methodLink RX3 109 yX3_payFor, Cond.instanceMethod yX3_payFor]
def wsX3_payOf_r3 : List Cond := [Cond.selects RX3 yX3_payFor yX3_payFor, Cond.code yX3_payFor cX3_payFor 5 (some .int), Cond.fieldLink RX3 86 "RosterPay$Worker" "rank" "I", Cond.methodLink RX3 198 yX3_baseOf, Cond.instanceMethod yX3_baseOf, Cond.selects RX3 yX3_baseOf yX3_baseOf, Cond.code yX3_baseOf cX3_baseOf 2 (some .int), Cond.fieldLink RX3 9 "RosterPay" "bases" "[I", Cond.methodLink RX3 137 yX1_breaksMissed, Cond.instanceMethod yX1_breaksMissed, Cond.selects RX1 yX1_breaksMissed yX1_breaksMissed, Cond.code yX1_breaksMissed cX1_breaksMissed 1 (some .int), Cond.fieldLink RX1 25 "RosterPay$Shift" "isCancelled" "Z", Cond.fieldLink RX1 22 "RosterPay$Shift" "breaksTaken" "I", Cond.methodLink RX1 29 Lib.Math.max.name, Cond.static Lib.Math.max.name, Cond.initialized "java/lang/Math", Cond.code Lib.Math.max.name Lib.Math.max.code 2 (some .int), Cond.methodLink RX1 35 yX1_breaksOwed, Cond.instanceMethod yX1_breaksOwed, Cond.selects RX1 yX1_breaksOwed yX1_breaksOwed, Cond.code yX1_breaksOwed cX1_breaksOwed 1 (some .int), Cond.fieldLink RX1 19 "RosterPay$Shift" "quarters" "I", Cond.methodLink RX3 119 yX1_paidLength]
def wsX3_payOf_r4 : List Cond := [Cond.instanceMethod yX1_paidLength, Cond.selects RX1 yX1_paidLength yX1_paidLength, Cond.code yX1_paidLength cX1_paidLength 1 (some .int), Cond.methodLink RX3 126 yX3_percentOf, Cond.instanceMethod yX3_percentOf, Cond.selects RX3 yX3_percentOf yX3_percentOf, Cond.code yX3_percentOf cX3_percentOf 4 (some .int), Cond.fieldLink RX3 191 "RosterPay$Rule" "percent" "I", Cond.methodLink RX3 130 yX3_decidingRule, Cond.instanceMethod yX3_decidingRule, Cond.selects RX3 yX3_decidingRule yX3_decidingRule, Cond.code yX3_decidingRule cX3_decidingRule 11 (some (.object "RosterPay$Rule")), Cond.fieldLink RX3 26 "RosterPay" "rules" "Ljava/util/ArrayList;", Cond.classLink RX3 56 "RosterPay$Rule", Cond.methodLink RX3 181 yX1_quarterOfDay, Cond.instanceMethod yX1_quarterOfDay, Cond.selects RX1 yX1_quarterOfDay yX1_quarterOfDay, Cond.code yX1_quarterOfDay cX1_quarterOfDay 2 (some .int), Cond.methodLink RX3 184 yX3_isHoliday, Cond.instanceMethod yX3_isHoliday, Cond.selects RX3 yX3_isHoliday yX3_isHoliday, Cond.code yX3_isHoliday cX3_isHoliday 2 (some .boolean), Cond.fieldLink RX3 19 "RosterPay" "holidays" "[Z", Cond.methodLink RX3 188 yX3_overtimePercent]
def wsX3_payOf_r5 : List Cond := [Cond.static yX3_overtimePercent, Cond.code yX3_overtimePercent cX3_overtimePercent 1 (some .int), Cond.methodLink RX3 194 yX0_appliesTo, Cond.instanceMethod yX0_appliesTo, Cond.selects RX0 yX0_appliesTo yX0_appliesTo, Cond.initialized RX0, Cond.code yX0_appliesTo cX0_appliesTo 5 (some .boolean), Cond.fieldLink RX0 30 "RosterPay$Rule" "isOn" "Z", Cond.fieldLink RX0 24 "RosterPay$Rule" "ranks" "I", Cond.fieldLink RX0 18 "RosterPay$Rule" "from" "I", Cond.fieldLink RX0 21 "RosterPay$Rule" "to" "I", Cond.methodLink RX0 34 yX0_hasBit, Cond.static yX0_hasBit, Cond.code yX0_hasBit cX0_hasBit 2 (some .boolean), Cond.methodLink RX0 38 yX0_isForDay, Cond.instanceMethod yX0_isForDay, Cond.selects RX0 yX0_isForDay yX0_isForDay, Cond.code yX0_isForDay cX0_isForDay 3 (some .boolean), Cond.fieldLink RX0 15 "RosterPay$Rule" "weekdays" "I", Cond.methodLink RX3 201 yX3_amount, Cond.static yX3_amount, Cond.code yX3_amount cX3_amount 2 (some .int)]
def wsX3_payOf : List Cond := .code yX3_payOf cX3_payOf 9 (some .int) :: ((wsX3_payOf_r1 ++ (wsX3_payOf_r2 ++ (wsX3_payOf_r3 ++ (wsX3_payOf_r4 ++ wsX3_payOf_r5)))) ++ wsX30 ++ wsX10 ++ wsJx4a65c0 ++ wsX20 ++ wsX00 ++ (vx_atS RX3 174 "java/lang/IndexOutOfBoundsException" ["java/lang/RuntimeException", "java/lang/Exception"]).filter goodWord ++ (vx_atS RX3 40 "java/lang/IllegalArgumentException" ["java/lang/RuntimeException", "java/lang/Exception"]).filter goodWord)
def wsX3_payByRule_r1 : List Cond := [Cond.fieldLink RX3 148 "RosterPay$Shift" "worker" "LRosterPay$Worker;", Cond.fieldLink RX3 86 "RosterPay$Worker" "rank" "I", Cond.fieldLink RX3 134 "RosterPay$Rule" "number" "I", Cond.fieldLink RX3 191 "RosterPay$Rule" "percent" "I", Cond.methodLink RX3 198 yX3_baseOf, Cond.instanceMethod yX3_baseOf, Cond.selects RX3 yX3_baseOf yX3_baseOf, Cond.initialized RX3, Cond.code yX3_baseOf cX3_baseOf 2 (some .int), Cond.fieldLink RX3 9 "RosterPay" "bases" "[I", Cond.methodLink RX3 119 yX1_paidLength, Cond.instanceMethod yX1_paidLength, Cond.selects RX1 yX1_paidLength yX1_paidLength, Cond.initialized RX1, Cond.code yX1_paidLength cX1_paidLength 1 (some .int), Cond.fieldLink RX1 25 "RosterPay$Shift" "isCancelled" "Z", Cond.fieldLink RX1 19 "RosterPay$Shift" "quarters" "I", Cond.methodLink RX1 29 Lib.Math.max.name, Cond.static Lib.Math.max.name, Cond.initialized "java/lang/Math", Cond.code Lib.Math.max.name Lib.Math.max.code 2 (some .int), Cond.methodLink RX3 130 yX3_decidingRule, Cond.instanceMethod yX3_decidingRule, Cond.selects RX3 yX3_decidingRule yX3_decidingRule]
def wsX3_payByRule_r2 : List Cond := [Cond.code yX3_decidingRule cX3_decidingRule 11 (some (.object "RosterPay$Rule")), Cond.fieldLink RX3 26 "RosterPay" "rules" "Ljava/util/ArrayList;", Cond.classLink RX3 56 "RosterPay$Rule", Cond.methodLink RX3 144 yX1_dayOf, Cond.instanceMethod yX1_dayOf, Cond.selects RX1 yX1_dayOf yX1_dayOf, Cond.code yX1_dayOf cX1_dayOf 2 (some .int), Cond.fieldLink RX1 15 "RosterPay$Shift" "start" "I", Cond.methodLink RX3 181 yX1_quarterOfDay, Cond.instanceMethod yX1_quarterOfDay, Cond.selects RX1 yX1_quarterOfDay yX1_quarterOfDay, Cond.code yX1_quarterOfDay cX1_quarterOfDay 2 (some .int), Cond.methodLink RX3 184 yX3_isHoliday, Cond.instanceMethod yX3_isHoliday, Cond.selects RX3 yX3_isHoliday yX3_isHoliday, Cond.code yX3_isHoliday cX3_isHoliday 2 (some .boolean), Cond.fieldLink RX3 19 "RosterPay" "holidays" "[Z", Cond.methodLink RX3 188 yX3_overtimePercent, Cond.static yX3_overtimePercent, Cond.code yX3_overtimePercent cX3_overtimePercent 1 (some .int), Cond.methodLink RX3 47 yJx4a65c_size_8abf5, Cond.instanceMethod yJx4a65c_size_8abf5, Cond.selects RJx4a65c yJx4a65c_size_8abf5 yJx4a65c_size_8abf5, Cond.initialized RJx4a65c]
def wsX3_payByRule_r3 : List Cond := [Cond.code yJx4a65c_size_8abf5 cJx4a65c_size_8abf5 1 (some .int), Cond.fieldLink RJx4a65c 48 "java/util/ArrayList" "size" "I", Cond.methodLink RX3 140 yJx4a65c_get_915e3, Cond.instanceMethod yJx4a65c_get_915e3, Cond.selects RJx4a65c yJx4a65c_get_915e3 yJx4a65c_get_915e3, Cond.code yJx4a65c_get_915e3 cJx4a65c_get_915e3 2 (some (.object "java/lang/Object")), Cond.methodLink RJx4a65c 118 yJ15_checkIndex_7cf53, Cond.static yJ15_checkIndex_7cf53, Cond.initialized RJ15, Cond.code yJ15_checkIndex_7cf53 cJ15_checkIndex_7cf53 2 (some .int), Cond.methodLink RJ15 105 yJ3_checkIndex_8e157, Cond.static yJ3_checkIndex_8e157, Cond.initialized RJ3, Cond.code yJ3_checkIndex_8e157 cJ3_checkIndex_8e157 3 (some .int), Cond.methodLink RJx4a65c 123 yJx4a65c_elementData_915e3, Cond.instanceMethod yJx4a65c_elementData_915e3, Cond.selects RJx4a65c yJx4a65c_elementData_915e3 yJx4a65c_elementData_915e3, Cond.code yJx4a65c_elementData_915e3 cJx4a65c_elementData_915e3 2 (some (.object "java/lang/Object")), Cond.fieldLink RJx4a65c 9 "java/util/ArrayList" "elementData" "[Ljava/lang/Object;", Cond.methodLink RX3 194 yX0_appliesTo, Cond.instanceMethod yX0_appliesTo, Cond.selects RX0 yX0_appliesTo yX0_appliesTo, Cond.initialized RX0, Cond.code yX0_appliesTo cX0_appliesTo 5 (some .boolean)]
def wsX3_payByRule_r4 : List Cond := [Cond.fieldLink RX0 30 "RosterPay$Rule" "isOn" "Z", Cond.fieldLink RX0 24 "RosterPay$Rule" "ranks" "I", Cond.fieldLink RX0 18 "RosterPay$Rule" "from" "I", Cond.fieldLink RX0 21 "RosterPay$Rule" "to" "I", Cond.methodLink RX0 34 yX0_hasBit, Cond.static yX0_hasBit, Cond.code yX0_hasBit cX0_hasBit 2 (some .boolean), Cond.methodLink RX0 38 yX0_isForDay, Cond.instanceMethod yX0_isForDay, Cond.selects RX0 yX0_isForDay yX0_isForDay, Cond.code yX0_isForDay cX0_isForDay 3 (some .boolean), Cond.fieldLink RX0 15 "RosterPay$Rule" "weekdays" "I", Cond.methodLink RX3 201 yX3_amount, Cond.static yX3_amount, Cond.code yX3_amount cX3_amount 2 (some .int)]
def wsX3_payByRule : List Cond := .code yX3_payByRule cX3_payByRule 7 (some .int) :: ((wsX3_payByRule_r1 ++ (wsX3_payByRule_r2 ++ (wsX3_payByRule_r3 ++ wsX3_payByRule_r4))) ++ wsX10 ++ wsX20 ++ wsX00 ++ wsX30 ++ wsJx4a65c0)
def wsX3_paidBy_r1 : List Cond := [Cond.fieldLink RX3 33 "RosterPay" "roster" "Ljava/util/ArrayList;", Cond.classLink RX3 96 "RosterPay$Shift", Cond.methodLink RX3 65 yX3_findRule, Cond.instanceMethod yX3_findRule, Cond.selects RX3 yX3_findRule yX3_findRule, Cond.initialized RX3, Cond.code yX3_findRule cX3_findRule 2 (some (.object "RosterPay$Rule")), Cond.classLink RX3 170 "java/lang/IndexOutOfBoundsException", Cond.initialized "java/lang/IndexOutOfBoundsException", Cond.fieldLink RX3 26 "RosterPay" "rules" "Ljava/util/ArrayList;", Cond.classLink RX3 56 "RosterPay$Rule", Cond.methodLink RX3 47 yJx4a65c_size_8abf5, Cond.instanceMethod yJx4a65c_size_8abf5, Cond.selects RJx4a65c yJx4a65c_size_8abf5 yJx4a65c_size_8abf5, Cond.initialized RJx4a65c, Cond.code yJx4a65c_size_8abf5 cJx4a65c_size_8abf5 1 (some .int), Cond.fieldLink RJx4a65c 48 "java/util/ArrayList" "size" "I", Cond.methodLink RX3 140 yJx4a65c_get_915e3, Cond.instanceMethod yJx4a65c_get_915e3, Cond.selects RJx4a65c yJx4a65c_get_915e3 yJx4a65c_get_915e3, Cond.code yJx4a65c_get_915e3 cJx4a65c_get_915e3 2 (some (.object "java/lang/Object")), Cond.methodLink RJx4a65c 118 yJ15_checkIndex_7cf53, Cond.static yJ15_checkIndex_7cf53, Cond.initialized RJ15]
def wsX3_paidBy_r2 : List Cond := [Cond.code yJ15_checkIndex_7cf53 cJ15_checkIndex_7cf53 2 (some .int), Cond.methodLink RJ15 105 yJ3_checkIndex_8e157, Cond.static yJ3_checkIndex_8e157, Cond.initialized RJ3, Cond.code yJ3_checkIndex_8e157 cJ3_checkIndex_8e157 3 (some .int), Cond.methodLink RJx4a65c 123 yJx4a65c_elementData_915e3, Cond.instanceMethod yJx4a65c_elementData_915e3, Cond.selects RJx4a65c yJx4a65c_elementData_915e3 yJx4a65c_elementData_915e3, Cond.code yJx4a65c_elementData_915e3 cJx4a65c_elementData_915e3 2 (some (.object "java/lang/Object")), Cond.fieldLink RJx4a65c 9 "java/util/ArrayList" "elementData" "[Ljava/lang/Object;", Cond.methodLink RX3 152 yX3_payByRule, Cond.instanceMethod yX3_payByRule, Cond.selects RX3 yX3_payByRule yX3_payByRule, Cond.code yX3_payByRule cX3_payByRule 7 (some .int), Cond.fieldLink RX3 148 "RosterPay$Shift" "worker" "LRosterPay$Worker;", Cond.fieldLink RX3 86 "RosterPay$Worker" "rank" "I", Cond.fieldLink RX3 134 "RosterPay$Rule" "number" "I", Cond.fieldLink RX3 191 "RosterPay$Rule" "percent" "I", Cond.methodLink RX3 198 yX3_baseOf, Cond.instanceMethod yX3_baseOf, Cond.selects RX3 yX3_baseOf yX3_baseOf, Cond.code yX3_baseOf cX3_baseOf 2 (some .int), Cond.fieldLink RX3 9 "RosterPay" "bases" "[I", Cond.methodLink RX3 119 yX1_paidLength]
def wsX3_paidBy_r3 : List Cond := [Cond.instanceMethod yX1_paidLength, Cond.selects RX1 yX1_paidLength yX1_paidLength, Cond.initialized RX1, Cond.code yX1_paidLength cX1_paidLength 1 (some .int), Cond.fieldLink RX1 25 "RosterPay$Shift" "isCancelled" "Z", Cond.fieldLink RX1 19 "RosterPay$Shift" "quarters" "I", Cond.methodLink RX1 29 Lib.Math.max.name, Cond.static Lib.Math.max.name, Cond.initialized "java/lang/Math", Cond.code Lib.Math.max.name Lib.Math.max.code 2 (some .int), Cond.methodLink RX3 130 yX3_decidingRule, Cond.instanceMethod yX3_decidingRule, Cond.selects RX3 yX3_decidingRule yX3_decidingRule, Cond.code yX3_decidingRule cX3_decidingRule 11 (some (.object "RosterPay$Rule")), Cond.methodLink RX3 144 yX1_dayOf, Cond.instanceMethod yX1_dayOf, Cond.selects RX1 yX1_dayOf yX1_dayOf, Cond.code yX1_dayOf cX1_dayOf 2 (some .int), Cond.fieldLink RX1 15 "RosterPay$Shift" "start" "I", Cond.methodLink RX3 181 yX1_quarterOfDay, Cond.instanceMethod yX1_quarterOfDay, Cond.selects RX1 yX1_quarterOfDay yX1_quarterOfDay, Cond.code yX1_quarterOfDay cX1_quarterOfDay 2 (some .int), Cond.methodLink RX3 184 yX3_isHoliday]
def wsX3_paidBy_r4 : List Cond := [Cond.instanceMethod yX3_isHoliday, Cond.selects RX3 yX3_isHoliday yX3_isHoliday, Cond.code yX3_isHoliday cX3_isHoliday 2 (some .boolean), Cond.fieldLink RX3 19 "RosterPay" "holidays" "[Z", Cond.methodLink RX3 188 yX3_overtimePercent, Cond.static yX3_overtimePercent, Cond.code yX3_overtimePercent cX3_overtimePercent 1 (some .int), Cond.methodLink RX3 194 yX0_appliesTo, Cond.instanceMethod yX0_appliesTo, Cond.selects RX0 yX0_appliesTo yX0_appliesTo, Cond.initialized RX0, Cond.code yX0_appliesTo cX0_appliesTo 5 (some .boolean), Cond.fieldLink RX0 30 "RosterPay$Rule" "isOn" "Z", Cond.fieldLink RX0 24 "RosterPay$Rule" "ranks" "I", Cond.fieldLink RX0 18 "RosterPay$Rule" "from" "I", Cond.fieldLink RX0 21 "RosterPay$Rule" "to" "I", Cond.methodLink RX0 34 yX0_hasBit, Cond.static yX0_hasBit, Cond.code yX0_hasBit cX0_hasBit 2 (some .boolean), Cond.methodLink RX0 38 yX0_isForDay, Cond.instanceMethod yX0_isForDay, Cond.selects RX0 yX0_isForDay yX0_isForDay, Cond.code yX0_isForDay cX0_isForDay 3 (some .boolean), Cond.fieldLink RX0 15 "RosterPay$Rule" "weekdays" "I"]
def wsX3_paidBy_r5 : List Cond := [Cond.methodLink RX3 201 yX3_amount, Cond.static yX3_amount, Cond.code yX3_amount cX3_amount 2 (some .int)]
def wsX3_paidBy : List Cond := .code yX3_paidBy cX3_paidBy 5 (some .int) :: ((wsX3_paidBy_r1 ++ (wsX3_paidBy_r2 ++ (wsX3_paidBy_r3 ++ (wsX3_paidBy_r4 ++ wsX3_paidBy_r5)))) ++ wsX30 ++ wsJx4a65c0 ++ wsX10 ++ wsX20 ++ wsX00 ++ (vx_atS RX3 174 "java/lang/IndexOutOfBoundsException" ["java/lang/RuntimeException", "java/lang/Exception"]).filter goodWord)
def wsX3_workedInWeeks_r1 : List Cond := [Cond.methodLink RX3 204 yX3_workedBetween, Cond.instanceMethod yX3_workedBetween, Cond.selects RX3 yX3_workedBetween yX3_workedBetween, Cond.initialized RX3, Cond.code yX3_workedBetween cX3_workedBetween 7 (some .int), Cond.fieldLink RX3 33 "RosterPay" "roster" "Ljava/util/ArrayList;", Cond.classLink RX3 96 "RosterPay$Shift", Cond.fieldLink RX3 148 "RosterPay$Shift" "worker" "LRosterPay$Worker;", Cond.fieldLink RX3 113 "RosterPay$Shift" "isCancelled" "Z", Cond.methodLink RX3 47 yJx4a65c_size_8abf5, Cond.instanceMethod yJx4a65c_size_8abf5, Cond.selects RJx4a65c yJx4a65c_size_8abf5 yJx4a65c_size_8abf5, Cond.initialized RJx4a65c, Cond.code yJx4a65c_size_8abf5 cJx4a65c_size_8abf5 1 (some .int), Cond.fieldLink RJx4a65c 48 "java/util/ArrayList" "size" "I", Cond.methodLink RX3 140 yJx4a65c_get_915e3, Cond.instanceMethod yJx4a65c_get_915e3, Cond.selects RJx4a65c yJx4a65c_get_915e3 yJx4a65c_get_915e3, Cond.code yJx4a65c_get_915e3 cJx4a65c_get_915e3 2 (some (.object "java/lang/Object")), Cond.methodLink RJx4a65c 118 yJ15_checkIndex_7cf53, Cond.static yJ15_checkIndex_7cf53, Cond.initialized RJ15, Cond.code yJ15_checkIndex_7cf53 cJ15_checkIndex_7cf53 2 (some .int), Cond.methodLink RJ15 105 yJ3_checkIndex_8e157]
def wsX3_workedInWeeks_r2 : List Cond := [Cond.static yJ3_checkIndex_8e157, Cond.initialized RJ3, Cond.code yJ3_checkIndex_8e157 cJ3_checkIndex_8e157 3 (some .int), Cond.methodLink RJx4a65c 123 yJx4a65c_elementData_915e3, Cond.instanceMethod yJx4a65c_elementData_915e3, Cond.selects RJx4a65c yJx4a65c_elementData_915e3 yJx4a65c_elementData_915e3, Cond.code yJx4a65c_elementData_915e3 cJx4a65c_elementData_915e3 2 (some (.object "java/lang/Object")), Cond.fieldLink RJx4a65c 9 "java/util/ArrayList" "elementData" "[Ljava/lang/Object;", Cond.methodLink RX3 207 yX1_ownBetween, Cond.instanceMethod yX1_ownBetween, Cond.selects RX1 yX1_ownBetween yX1_ownBetween, Cond.initialized RX1, Cond.code yX1_ownBetween cX1_ownBetween 3 (some .int), Cond.fieldLink RX1 15 "RosterPay$Shift" "start" "I", Cond.fieldLink RX1 19 "RosterPay$Shift" "quarters" "I", Cond.methodLink RX1 39 Lib.Math.min.name, Cond.static Lib.Math.min.name, Cond.initialized "java/lang/Math", Cond.code Lib.Math.min.name Lib.Math.min.code 2 (some .int), Cond.methodLink RX1 29 Lib.Math.max.name, Cond.static Lib.Math.max.name, Cond.code Lib.Math.max.name Lib.Math.max.code 2 (some .int)]
def wsX3_workedInWeeks : List Cond := .code yX3_workedInWeeks cX3_workedInWeeks 4 (some .int) :: ((wsX3_workedInWeeks_r1 ++ wsX3_workedInWeeks_r2) ++ wsX30 ++ wsX10 ++ wsJx4a65c0)
def wsX3_worked_r1 : List Cond := [Cond.methodLink RX3 82 yX3_findWorker, Cond.instanceMethod yX3_findWorker, Cond.selects RX3 yX3_findWorker yX3_findWorker, Cond.initialized RX3, Cond.code yX3_findWorker cX3_findWorker 2 (some (.object "RosterPay$Worker")), Cond.classLink RX3 170 "java/lang/IndexOutOfBoundsException", Cond.initialized "java/lang/IndexOutOfBoundsException", Cond.fieldLink RX3 30 "RosterPay" "workers" "Ljava/util/ArrayList;", Cond.classLink RX3 77 "RosterPay$Worker", Cond.methodLink RX3 47 yJx4a65c_size_8abf5, Cond.instanceMethod yJx4a65c_size_8abf5, Cond.selects RJx4a65c yJx4a65c_size_8abf5 yJx4a65c_size_8abf5, Cond.initialized RJx4a65c, Cond.code yJx4a65c_size_8abf5 cJx4a65c_size_8abf5 1 (some .int), Cond.fieldLink RJx4a65c 48 "java/util/ArrayList" "size" "I", Cond.methodLink RX3 140 yJx4a65c_get_915e3, Cond.instanceMethod yJx4a65c_get_915e3, Cond.selects RJx4a65c yJx4a65c_get_915e3 yJx4a65c_get_915e3, Cond.code yJx4a65c_get_915e3 cJx4a65c_get_915e3 2 (some (.object "java/lang/Object")), Cond.methodLink RJx4a65c 118 yJ15_checkIndex_7cf53, Cond.static yJ15_checkIndex_7cf53, Cond.initialized RJ15, Cond.code yJ15_checkIndex_7cf53 cJ15_checkIndex_7cf53 2 (some .int), Cond.methodLink RJ15 105 yJ3_checkIndex_8e157]
def wsX3_worked_r2 : List Cond := [Cond.static yJ3_checkIndex_8e157, Cond.initialized RJ3, Cond.code yJ3_checkIndex_8e157 cJ3_checkIndex_8e157 3 (some .int), Cond.methodLink RJx4a65c 123 yJx4a65c_elementData_915e3, Cond.instanceMethod yJx4a65c_elementData_915e3, Cond.selects RJx4a65c yJx4a65c_elementData_915e3 yJx4a65c_elementData_915e3, Cond.code yJx4a65c_elementData_915e3 cJx4a65c_elementData_915e3 2 (some (.object "java/lang/Object")), Cond.fieldLink RJx4a65c 9 "java/util/ArrayList" "elementData" "[Ljava/lang/Object;", Cond.methodLink RX3 43 yX3_checkArgument, Cond.static yX3_checkArgument, Cond.code yX3_checkArgument cX3_checkArgument 3 none, Cond.classLink RX3 36 "java/lang/IllegalArgumentException", Cond.initialized "java/lang/IllegalArgumentException", Cond.methodLink RX3 156 yX3_workedInWeeks, Cond.instanceMethod yX3_workedInWeeks, Cond.selects RX3 yX3_workedInWeeks yX3_workedInWeeks, Cond.code yX3_workedInWeeks cX3_workedInWeeks 4 (some .int), Cond.methodLink RX3 204 yX3_workedBetween, Cond.instanceMethod yX3_workedBetween, Cond.selects RX3 yX3_workedBetween yX3_workedBetween, Cond.code yX3_workedBetween cX3_workedBetween 7 (some .int), Cond.fieldLink RX3 33 "RosterPay" "roster" "Ljava/util/ArrayList;", Cond.classLink RX3 96 "RosterPay$Shift", Cond.fieldLink RX3 148 "RosterPay$Shift" "worker" "LRosterPay$Worker;"]
def wsX3_worked_r3 : List Cond := [Cond.fieldLink RX3 113 "RosterPay$Shift" "isCancelled" "Z", Cond.methodLink RX3 207 yX1_ownBetween, Cond.instanceMethod yX1_ownBetween, Cond.selects RX1 yX1_ownBetween yX1_ownBetween, Cond.initialized RX1, Cond.code yX1_ownBetween cX1_ownBetween 3 (some .int), Cond.fieldLink RX1 15 "RosterPay$Shift" "start" "I", Cond.fieldLink RX1 19 "RosterPay$Shift" "quarters" "I", Cond.methodLink RX1 39 Lib.Math.min.name, Cond.static Lib.Math.min.name, Cond.initialized "java/lang/Math", Cond.code Lib.Math.min.name Lib.Math.min.code 2 (some .int), Cond.methodLink RX1 29 Lib.Math.max.name, Cond.static Lib.Math.max.name, Cond.code Lib.Math.max.name Lib.Math.max.code 2 (some .int)]
def wsX3_worked : List Cond := .code yX3_worked cX3_worked 4 (some .int) :: ((wsX3_worked_r1 ++ (wsX3_worked_r2 ++ wsX3_worked_r3)) ++ wsX30 ++ wsJx4a65c0 ++ wsX10 ++ (vx_atS RX3 174 "java/lang/IndexOutOfBoundsException" ["java/lang/RuntimeException", "java/lang/Exception"]).filter goodWord ++ (vx_atS RX3 40 "java/lang/IllegalArgumentException" ["java/lang/RuntimeException", "java/lang/Exception"]).filter goodWord)
def wsX3_excess_r1 : List Cond := [Cond.methodLink RX3 160 Lib.Math.max.name, Cond.static Lib.Math.max.name, Cond.initialized "java/lang/Math", Cond.code Lib.Math.max.name Lib.Math.max.code 2 (some .int), Cond.methodLink RX3 82 yX3_findWorker, Cond.instanceMethod yX3_findWorker, Cond.selects RX3 yX3_findWorker yX3_findWorker, Cond.initialized RX3, Cond.code yX3_findWorker cX3_findWorker 2 (some (.object "RosterPay$Worker")), Cond.classLink RX3 170 "java/lang/IndexOutOfBoundsException", Cond.initialized "java/lang/IndexOutOfBoundsException", Cond.fieldLink RX3 30 "RosterPay" "workers" "Ljava/util/ArrayList;", Cond.classLink RX3 77 "RosterPay$Worker", Cond.methodLink RX3 47 yJx4a65c_size_8abf5, Cond.instanceMethod yJx4a65c_size_8abf5, Cond.selects RJx4a65c yJx4a65c_size_8abf5 yJx4a65c_size_8abf5, Cond.initialized RJx4a65c, Cond.code yJx4a65c_size_8abf5 cJx4a65c_size_8abf5 1 (some .int), Cond.fieldLink RJx4a65c 48 "java/util/ArrayList" "size" "I", Cond.methodLink RX3 140 yJx4a65c_get_915e3, Cond.instanceMethod yJx4a65c_get_915e3, Cond.selects RJx4a65c yJx4a65c_get_915e3 yJx4a65c_get_915e3, Cond.code yJx4a65c_get_915e3 cJx4a65c_get_915e3 2 (some (.object "java/lang/Object")), Cond.methodLink RJx4a65c 118 yJ15_checkIndex_7cf53]
def wsX3_excess_r2 : List Cond := [Cond.static yJ15_checkIndex_7cf53, Cond.initialized RJ15, Cond.code yJ15_checkIndex_7cf53 cJ15_checkIndex_7cf53 2 (some .int), Cond.methodLink RJ15 105 yJ3_checkIndex_8e157, Cond.static yJ3_checkIndex_8e157, Cond.initialized RJ3, Cond.code yJ3_checkIndex_8e157 cJ3_checkIndex_8e157 3 (some .int), Cond.methodLink RJx4a65c 123 yJx4a65c_elementData_915e3, Cond.instanceMethod yJx4a65c_elementData_915e3, Cond.selects RJx4a65c yJx4a65c_elementData_915e3 yJx4a65c_elementData_915e3, Cond.code yJx4a65c_elementData_915e3 cJx4a65c_elementData_915e3 2 (some (.object "java/lang/Object")), Cond.fieldLink RJx4a65c 9 "java/util/ArrayList" "elementData" "[Ljava/lang/Object;", Cond.methodLink RX3 43 yX3_checkArgument, Cond.static yX3_checkArgument, Cond.code yX3_checkArgument cX3_checkArgument 3 none, Cond.classLink RX3 36 "java/lang/IllegalArgumentException", Cond.initialized "java/lang/IllegalArgumentException", Cond.methodLink RX3 156 yX3_workedInWeeks, Cond.instanceMethod yX3_workedInWeeks, Cond.selects RX3 yX3_workedInWeeks yX3_workedInWeeks, Cond.code yX3_workedInWeeks cX3_workedInWeeks 4 (some .int), Cond.methodLink RX3 204 yX3_workedBetween, Cond.instanceMethod yX3_workedBetween, Cond.selects RX3 yX3_workedBetween yX3_workedBetween]
def wsX3_excess_r3 : List Cond := [Cond.code yX3_workedBetween cX3_workedBetween 7 (some .int), Cond.fieldLink RX3 33 "RosterPay" "roster" "Ljava/util/ArrayList;", Cond.classLink RX3 96 "RosterPay$Shift", Cond.fieldLink RX3 148 "RosterPay$Shift" "worker" "LRosterPay$Worker;", Cond.fieldLink RX3 113 "RosterPay$Shift" "isCancelled" "Z", Cond.methodLink RX3 207 yX1_ownBetween, Cond.instanceMethod yX1_ownBetween, Cond.selects RX1 yX1_ownBetween yX1_ownBetween, Cond.initialized RX1, Cond.code yX1_ownBetween cX1_ownBetween 3 (some .int), Cond.fieldLink RX1 15 "RosterPay$Shift" "start" "I", Cond.fieldLink RX1 19 "RosterPay$Shift" "quarters" "I", Cond.methodLink RX1 39 Lib.Math.min.name, Cond.static Lib.Math.min.name, Cond.code Lib.Math.min.name Lib.Math.min.code 2 (some .int), Cond.methodLink RX1 29 Lib.Math.max.name]
def wsX3_excess : List Cond := .code yX3_excess cX3_excess 5 (some .int) :: ((wsX3_excess_r1 ++ (wsX3_excess_r2 ++ wsX3_excess_r3)) ++ wsX30 ++ wsJx4a65c0 ++ wsX10 ++ (vx_atS RX3 174 "java/lang/IndexOutOfBoundsException" ["java/lang/RuntimeException", "java/lang/Exception"]).filter goodWord ++ (vx_atS RX3 40 "java/lang/IllegalArgumentException" ["java/lang/RuntimeException", "java/lang/Exception"]).filter goodWord)
def wsX4_init : List Cond := .code yX4_init cX4_init 2 none :: ([.methodLink RX4 1 objectInit, .instanceMethod objectInit, .code objectInit ⟨#[0xb1]⟩ 1 none, .arrayClass .int, .fieldLink RX4 7 "RosterPayModel" "base" "[I", .fieldLink RX4 13 "RosterPayModel" "weekdays" "[I", .fieldLink RX4 16 "RosterPayModel" "from" "[I", .fieldLink RX4 19 "RosterPayModel" "to" "[I", .fieldLink RX4 22 "RosterPayModel" "ranks" "[I", .fieldLink RX4 25 "RosterPayModel" "percent" "[I", .arrayClass .boolean, .fieldLink RX4 28 "RosterPayModel" "off" "[Z", .fieldLink RX4 32 "RosterPayModel" "holiday" "[Z", .fieldLink RX4 35 "RosterPayModel" "rank" "[I", .fieldLink RX4 38 "RosterPayModel" "by" "[I", .fieldLink RX4 41 "RosterPayModel" "start" "[I", .fieldLink RX4 44 "RosterPayModel" "length" "[I", .fieldLink RX4 47 "RosterPayModel" "taken" "[I", .fieldLink RX4 50 "RosterPayModel" "gone" "[Z"] ++ wsX40)
def wsX4_thrown : List Cond := .code yX4_thrown cX4_thrown 1 (some .int) :: ([.fieldLink RX4 53 "RosterPayModel" "thrown" "I"] ++ wsX40)
def wsX4_isIn : List Cond := .code yX4_isIn cX4_isIn 3 (some .boolean) :: ([])
def wsX4_setBase : List Cond := .code yX4_setBase cX4_setBase 4 (some .int) :: ([.fieldLink RX4 53 "RosterPayModel" "thrown" "I", .fieldLink RX4 7 "RosterPayModel" "base" "[I", .methodLink RX4 57 yX4_isIn, .static yX4_isIn, .initialized RX4, .code yX4_isIn cX4_isIn 3 (some .boolean)] ++ wsX40)
def wsX4_addRule : List Cond := .code yX4_addRule cX4_addRule 7 (some .int) :: ([.fieldLink RX4 61 "RosterPayModel" "rules" "I", .fieldLink RX4 53 "RosterPayModel" "thrown" "I", .fieldLink RX4 13 "RosterPayModel" "weekdays" "[I", .fieldLink RX4 16 "RosterPayModel" "from" "[I", .fieldLink RX4 19 "RosterPayModel" "to" "[I", .fieldLink RX4 22 "RosterPayModel" "ranks" "[I", .fieldLink RX4 25 "RosterPayModel" "percent" "[I", .methodLink RX4 57 yX4_isIn, .static yX4_isIn, .initialized RX4, .code yX4_isIn cX4_isIn 3 (some .boolean)] ++ wsX40)
def wsX4_setRule : List Cond := .code yX4_setRule cX4_setRule 4 (some .boolean) :: ([.fieldLink RX4 61 "RosterPayModel" "rules" "I", .fieldLink RX4 53 "RosterPayModel" "thrown" "I", .fieldLink RX4 28 "RosterPayModel" "off" "[Z", .methodLink RX4 57 yX4_isIn, .static yX4_isIn, .initialized RX4, .code yX4_isIn cX4_isIn 3 (some .boolean)] ++ wsX40)
def wsX4_setHoliday : List Cond := .code yX4_setHoliday cX4_setHoliday 4 (some .boolean) :: ([.fieldLink RX4 53 "RosterPayModel" "thrown" "I", .fieldLink RX4 32 "RosterPayModel" "holiday" "[Z", .methodLink RX4 57 yX4_isIn, .static yX4_isIn, .initialized RX4, .code yX4_isIn cX4_isIn 3 (some .boolean)] ++ wsX40)
def wsX4_applies : List Cond := .code yX4_applies cX4_applies 7 (some .boolean) :: ([.fieldLink RX4 13 "RosterPayModel" "weekdays" "[I", .fieldLink RX4 32 "RosterPayModel" "holiday" "[Z", .fieldLink RX4 28 "RosterPayModel" "off" "[Z", .fieldLink RX4 22 "RosterPayModel" "ranks" "[I", .fieldLink RX4 16 "RosterPayModel" "from" "[I", .fieldLink RX4 19 "RosterPayModel" "to" "[I"] ++ wsX40)
def wsX4_isWorker : List Cond := .code yX4_isWorker cX4_isWorker 2 (some .boolean) :: ([.fieldLink RX4 64 "RosterPayModel" "workers" "I", .methodLink RX4 57 yX4_isIn, .static yX4_isIn, .initialized RX4, .code yX4_isIn cX4_isIn 3 (some .boolean)] ++ wsX40)
def wsX4_isShift : List Cond := .code yX4_isShift cX4_isShift 2 (some .boolean) :: ([.fieldLink RX4 67 "RosterPayModel" "shifts" "I", .fieldLink RX4 53 "RosterPayModel" "thrown" "I", .methodLink RX4 57 yX4_isIn, .static yX4_isIn, .initialized RX4, .code yX4_isIn cX4_isIn 3 (some .boolean)] ++ wsX40)
def wsX4_addWorker : List Cond := .code yX4_addWorker cX4_addWorker 2 (some .int) :: ([.fieldLink RX4 64 "RosterPayModel" "workers" "I", .fieldLink RX4 53 "RosterPayModel" "thrown" "I", .fieldLink RX4 35 "RosterPayModel" "rank" "[I", .methodLink RX4 57 yX4_isIn, .static yX4_isIn, .initialized RX4, .code yX4_isIn cX4_isIn 3 (some .boolean)] ++ wsX40)
def wsX4_setRank : List Cond := .code yX4_setRank cX4_setRank 4 (some .int) :: ([.fieldLink RX4 53 "RosterPayModel" "thrown" "I", .fieldLink RX4 35 "RosterPayModel" "rank" "[I", .methodLink RX4 70 yX4_isWorker, .instanceMethod yX4_isWorker, .selects RX4 yX4_isWorker yX4_isWorker, .initialized RX4, .code yX4_isWorker cX4_isWorker 2 (some .boolean), .fieldLink RX4 64 "RosterPayModel" "workers" "I", .methodLink RX4 57 yX4_isIn, .static yX4_isIn, .code yX4_isIn cX4_isIn 3 (some .boolean)] ++ wsX40)
def wsX4_addShift : List Cond := .code yX4_addShift cX4_addShift 9 (some .int) :: ([.fieldLink RX4 53 "RosterPayModel" "thrown" "I", .fieldLink RX4 67 "RosterPayModel" "shifts" "I", .fieldLink RX4 50 "RosterPayModel" "gone" "[Z", .fieldLink RX4 38 "RosterPayModel" "by" "[I", .fieldLink RX4 41 "RosterPayModel" "start" "[I", .fieldLink RX4 44 "RosterPayModel" "length" "[I", .methodLink RX4 57 yX4_isIn, .static yX4_isIn, .initialized RX4, .code yX4_isIn cX4_isIn 3 (some .boolean), .methodLink RX4 70 yX4_isWorker, .instanceMethod yX4_isWorker, .selects RX4 yX4_isWorker yX4_isWorker, .code yX4_isWorker cX4_isWorker 2 (some .boolean), .fieldLink RX4 64 "RosterPayModel" "workers" "I"] ++ wsX40)
def wsX4_lacks : List Cond := .code yX4_lacks cX4_lacks 3 (some .int) :: ([.fieldLink RX4 44 "RosterPayModel" "length" "[I", .fieldLink RX4 50 "RosterPayModel" "gone" "[Z", .fieldLink RX4 47 "RosterPayModel" "taken" "[I"] ++ wsX40)
def wsX4_paid : List Cond := .code yX4_paid cX4_paid 2 (some .int) :: ([.fieldLink RX4 50 "RosterPayModel" "gone" "[Z", .fieldLink RX4 44 "RosterPayModel" "length" "[I"] ++ wsX40)
def wsX4_overtime : List Cond := .code yX4_overtime cX4_overtime 1 (some .int) :: ([])
def wsX4_percented : List Cond := .code yX4_percented cX4_percented 6 (some .int) :: ([.fieldLink RX4 61 "RosterPayModel" "rules" "I", .fieldLink RX4 25 "RosterPayModel" "percent" "[I", .fieldLink RX4 41 "RosterPayModel" "start" "[I", .fieldLink RX4 35 "RosterPayModel" "rank" "[I", .fieldLink RX4 38 "RosterPayModel" "by" "[I", .methodLink RX4 81 yX4_overtime, .static yX4_overtime, .initialized RX4, .code yX4_overtime cX4_overtime 1 (some .int), .methodLink RX4 84 yX4_applies, .instanceMethod yX4_applies, .selects RX4 yX4_applies yX4_applies, .code yX4_applies cX4_applies 7 (some .boolean), .fieldLink RX4 13 "RosterPayModel" "weekdays" "[I", .fieldLink RX4 32 "RosterPayModel" "holiday" "[Z", .fieldLink RX4 28 "RosterPayModel" "off" "[Z", .fieldLink RX4 22 "RosterPayModel" "ranks" "[I", .fieldLink RX4 16 "RosterPayModel" "from" "[I", .fieldLink RX4 19 "RosterPayModel" "to" "[I"] ++ wsX40)
def wsX4_amount : List Cond := .code yX4_amount cX4_amount 3 (some .int) :: ([.fieldLink RX4 7 "RosterPayModel" "base" "[I", .fieldLink RX4 35 "RosterPayModel" "rank" "[I", .fieldLink RX4 38 "RosterPayModel" "by" "[I", .methodLink RX4 87 yX4_percented, .instanceMethod yX4_percented, .selects RX4 yX4_percented yX4_percented, .initialized RX4, .code yX4_percented cX4_percented 6 (some .int), .fieldLink RX4 61 "RosterPayModel" "rules" "I", .fieldLink RX4 25 "RosterPayModel" "percent" "[I", .fieldLink RX4 41 "RosterPayModel" "start" "[I", .methodLink RX4 81 yX4_overtime, .static yX4_overtime, .code yX4_overtime cX4_overtime 1 (some .int), .methodLink RX4 84 yX4_applies, .instanceMethod yX4_applies, .selects RX4 yX4_applies yX4_applies, .code yX4_applies cX4_applies 7 (some .boolean), .fieldLink RX4 13 "RosterPayModel" "weekdays" "[I", .fieldLink RX4 32 "RosterPayModel" "holiday" "[Z", .fieldLink RX4 28 "RosterPayModel" "off" "[Z", .fieldLink RX4 22 "RosterPayModel" "ranks" "[I", .fieldLink RX4 16 "RosterPayModel" "from" "[I", .fieldLink RX4 19 "RosterPayModel" "to" "[I"] ++ wsX40)
def wsX4_payed_r1 : List Cond := [Cond.fieldLink RX4 7 "RosterPayModel" "base" "[I", Cond.fieldLink RX4 35 "RosterPayModel" "rank" "[I", Cond.fieldLink RX4 38 "RosterPayModel" "by" "[I", Cond.methodLink RX4 91 yX4_lacks, Cond.instanceMethod yX4_lacks, Cond.selects RX4 yX4_lacks yX4_lacks, Cond.initialized RX4, Cond.code yX4_lacks cX4_lacks 3 (some .int), Cond.fieldLink RX4 44 "RosterPayModel" "length" "[I", Cond.fieldLink RX4 50 "RosterPayModel" "gone" "[Z", Cond.fieldLink RX4 47 "RosterPayModel" "taken" "[I", Cond.methodLink RX4 94 yX4_paid, Cond.instanceMethod yX4_paid, Cond.selects RX4 yX4_paid yX4_paid, Cond.code yX4_paid cX4_paid 2 (some .int), Cond.methodLink RX4 97 yX4_amount, Cond.instanceMethod yX4_amount, Cond.selects RX4 yX4_amount yX4_amount, Cond.code yX4_amount cX4_amount 3 (some .int), Cond.methodLink RX4 87 yX4_percented, Cond.instanceMethod yX4_percented, Cond.selects RX4 yX4_percented yX4_percented, Cond.code yX4_percented cX4_percented 6 (some .int), Cond.fieldLink RX4 61 "RosterPayModel" "rules" "I"]
def wsX4_payed_r2 : List Cond := [Cond.fieldLink RX4 25 "RosterPayModel" "percent" "[I", Cond.fieldLink RX4 41 "RosterPayModel" "start" "[I", Cond.methodLink RX4 81 yX4_overtime, Cond.static yX4_overtime, Cond.code yX4_overtime cX4_overtime 1 (some .int), Cond.methodLink RX4 84 yX4_applies, Cond.instanceMethod yX4_applies, Cond.selects RX4 yX4_applies yX4_applies, Cond.code yX4_applies cX4_applies 7 (some .boolean), Cond.fieldLink RX4 13 "RosterPayModel" "weekdays" "[I", Cond.fieldLink RX4 32 "RosterPayModel" "holiday" "[Z", Cond.fieldLink RX4 28 "RosterPayModel" "off" "[Z", Cond.fieldLink RX4 22 "RosterPayModel" "ranks" "[I", Cond.fieldLink RX4 16 "RosterPayModel" "from" "[I", Cond.fieldLink RX4 19 "RosterPayModel" "to" "[I"]
def wsX4_payed : List Cond := .code yX4_payed cX4_payed 4 (some .int) :: ((wsX4_payed_r1 ++ wsX4_payed_r2) ++ wsX40)
def wsX4_cancel_r1 : List Cond := [Cond.fieldLink RX4 50 "RosterPayModel" "gone" "[Z", Cond.fieldLink RX4 53 "RosterPayModel" "thrown" "I", Cond.methodLink RX4 74 yX4_isShift, Cond.instanceMethod yX4_isShift, Cond.selects RX4 yX4_isShift yX4_isShift, Cond.initialized RX4, Cond.code yX4_isShift cX4_isShift 2 (some .boolean), Cond.fieldLink RX4 67 "RosterPayModel" "shifts" "I", Cond.methodLink RX4 57 yX4_isIn, Cond.static yX4_isIn, Cond.code yX4_isIn cX4_isIn 3 (some .boolean), Cond.methodLink RX4 77 yX4_payed, Cond.instanceMethod yX4_payed, Cond.selects RX4 yX4_payed yX4_payed, Cond.code yX4_payed cX4_payed 4 (some .int), Cond.fieldLink RX4 7 "RosterPayModel" "base" "[I", Cond.fieldLink RX4 35 "RosterPayModel" "rank" "[I", Cond.fieldLink RX4 38 "RosterPayModel" "by" "[I", Cond.methodLink RX4 91 yX4_lacks, Cond.instanceMethod yX4_lacks, Cond.selects RX4 yX4_lacks yX4_lacks, Cond.code yX4_lacks cX4_lacks 3 (some .int), Cond.fieldLink RX4 44 "RosterPayModel" "length" "[I", Cond.fieldLink RX4 47 "RosterPayModel" "taken" "[I"]
def wsX4_cancel_r2 : List Cond := [Cond.methodLink RX4 94 yX4_paid, Cond.instanceMethod yX4_paid, Cond.selects RX4 yX4_paid yX4_paid, Cond.code yX4_paid cX4_paid 2 (some .int), Cond.methodLink RX4 97 yX4_amount, Cond.instanceMethod yX4_amount, Cond.selects RX4 yX4_amount yX4_amount, Cond.code yX4_amount cX4_amount 3 (some .int), Cond.methodLink RX4 87 yX4_percented, Cond.instanceMethod yX4_percented, Cond.selects RX4 yX4_percented yX4_percented, Cond.code yX4_percented cX4_percented 6 (some .int), Cond.fieldLink RX4 61 "RosterPayModel" "rules" "I", Cond.fieldLink RX4 25 "RosterPayModel" "percent" "[I", Cond.fieldLink RX4 41 "RosterPayModel" "start" "[I", Cond.methodLink RX4 81 yX4_overtime, Cond.static yX4_overtime, Cond.code yX4_overtime cX4_overtime 1 (some .int), Cond.methodLink RX4 84 yX4_applies, Cond.instanceMethod yX4_applies, Cond.selects RX4 yX4_applies yX4_applies, Cond.code yX4_applies cX4_applies 7 (some .boolean), Cond.fieldLink RX4 13 "RosterPayModel" "weekdays" "[I", Cond.fieldLink RX4 32 "RosterPayModel" "holiday" "[Z"]
def wsX4_cancel_r3 : List Cond := [Cond.fieldLink RX4 28 "RosterPayModel" "off" "[Z", Cond.fieldLink RX4 22 "RosterPayModel" "ranks" "[I", Cond.fieldLink RX4 16 "RosterPayModel" "from" "[I", Cond.fieldLink RX4 19 "RosterPayModel" "to" "[I"]
def wsX4_cancel : List Cond := .code yX4_cancel cX4_cancel 3 (some .int) :: ((wsX4_cancel_r1 ++ (wsX4_cancel_r2 ++ wsX4_cancel_r3)) ++ wsX40)
def wsX4_takeBreaks : List Cond := .code yX4_takeBreaks cX4_takeBreaks 4 (some .int) :: ([.fieldLink RX4 50 "RosterPayModel" "gone" "[Z", .fieldLink RX4 53 "RosterPayModel" "thrown" "I", .fieldLink RX4 47 "RosterPayModel" "taken" "[I", .methodLink RX4 74 yX4_isShift, .instanceMethod yX4_isShift, .selects RX4 yX4_isShift yX4_isShift, .initialized RX4, .code yX4_isShift cX4_isShift 2 (some .boolean), .fieldLink RX4 67 "RosterPayModel" "shifts" "I", .methodLink RX4 57 yX4_isIn, .static yX4_isIn, .code yX4_isIn cX4_isIn 3 (some .boolean)] ++ wsX40)
def wsX4_shifts : List Cond := .code yX4_shifts cX4_shifts 1 (some .int) :: ([.fieldLink RX4 53 "RosterPayModel" "thrown" "I", .fieldLink RX4 67 "RosterPayModel" "shifts" "I"] ++ wsX40)
def wsX4_reasoned : List Cond := .code yX4_reasoned cX4_reasoned 5 (some .int) :: ([.fieldLink RX4 61 "RosterPayModel" "rules" "I", .fieldLink RX4 25 "RosterPayModel" "percent" "[I", .fieldLink RX4 41 "RosterPayModel" "start" "[I", .fieldLink RX4 35 "RosterPayModel" "rank" "[I", .fieldLink RX4 38 "RosterPayModel" "by" "[I", .methodLink RX4 87 yX4_percented, .instanceMethod yX4_percented, .selects RX4 yX4_percented yX4_percented, .initialized RX4, .code yX4_percented cX4_percented 6 (some .int), .methodLink RX4 81 yX4_overtime, .static yX4_overtime, .code yX4_overtime cX4_overtime 1 (some .int), .methodLink RX4 84 yX4_applies, .instanceMethod yX4_applies, .selects RX4 yX4_applies yX4_applies, .code yX4_applies cX4_applies 7 (some .boolean), .fieldLink RX4 13 "RosterPayModel" "weekdays" "[I", .fieldLink RX4 32 "RosterPayModel" "holiday" "[Z", .fieldLink RX4 28 "RosterPayModel" "off" "[Z", .fieldLink RX4 22 "RosterPayModel" "ranks" "[I", .fieldLink RX4 16 "RosterPayModel" "from" "[I", .fieldLink RX4 19 "RosterPayModel" "to" "[I"] ++ wsX40)
def wsX4_paidQuarters : List Cond := .code yX4_paidQuarters cX4_paidQuarters 2 (some .int) :: ([.methodLink RX4 74 yX4_isShift, .instanceMethod yX4_isShift, .selects RX4 yX4_isShift yX4_isShift, .initialized RX4, .code yX4_isShift cX4_isShift 2 (some .boolean), .fieldLink RX4 67 "RosterPayModel" "shifts" "I", .fieldLink RX4 53 "RosterPayModel" "thrown" "I", .methodLink RX4 57 yX4_isIn, .static yX4_isIn, .code yX4_isIn cX4_isIn 3 (some .boolean), .methodLink RX4 94 yX4_paid, .instanceMethod yX4_paid, .selects RX4 yX4_paid yX4_paid, .code yX4_paid cX4_paid 2 (some .int), .fieldLink RX4 50 "RosterPayModel" "gone" "[Z", .fieldLink RX4 44 "RosterPayModel" "length" "[I"] ++ wsX40)
def wsX4_isQuarter : List Cond := .code yX4_isQuarter cX4_isQuarter 4 (some .boolean) :: ([.fieldLink RX4 53 "RosterPayModel" "thrown" "I", .methodLink RX4 74 yX4_isShift, .instanceMethod yX4_isShift, .selects RX4 yX4_isShift yX4_isShift, .initialized RX4, .code yX4_isShift cX4_isShift 2 (some .boolean), .fieldLink RX4 67 "RosterPayModel" "shifts" "I", .methodLink RX4 57 yX4_isIn, .static yX4_isIn, .code yX4_isIn cX4_isIn 3 (some .boolean), .methodLink RX4 94 yX4_paid, .instanceMethod yX4_paid, .selects RX4 yX4_paid yX4_paid, .code yX4_paid cX4_paid 2 (some .int), .fieldLink RX4 50 "RosterPayModel" "gone" "[Z", .fieldLink RX4 44 "RosterPayModel" "length" "[I"] ++ wsX40)
def wsX4_percentAt_r1 : List Cond := [Cond.methodLink RX4 100 yX4_isQuarter, Cond.instanceMethod yX4_isQuarter, Cond.selects RX4 yX4_isQuarter yX4_isQuarter, Cond.initialized RX4, Cond.code yX4_isQuarter cX4_isQuarter 4 (some .boolean), Cond.fieldLink RX4 53 "RosterPayModel" "thrown" "I", Cond.methodLink RX4 74 yX4_isShift, Cond.instanceMethod yX4_isShift, Cond.selects RX4 yX4_isShift yX4_isShift, Cond.code yX4_isShift cX4_isShift 2 (some .boolean), Cond.fieldLink RX4 67 "RosterPayModel" "shifts" "I", Cond.methodLink RX4 57 yX4_isIn, Cond.static yX4_isIn, Cond.code yX4_isIn cX4_isIn 3 (some .boolean), Cond.methodLink RX4 94 yX4_paid, Cond.instanceMethod yX4_paid, Cond.selects RX4 yX4_paid yX4_paid, Cond.code yX4_paid cX4_paid 2 (some .int), Cond.fieldLink RX4 50 "RosterPayModel" "gone" "[Z", Cond.fieldLink RX4 44 "RosterPayModel" "length" "[I", Cond.methodLink RX4 87 yX4_percented, Cond.instanceMethod yX4_percented, Cond.selects RX4 yX4_percented yX4_percented, Cond.code yX4_percented cX4_percented 6 (some .int)]
def wsX4_percentAt_r2 : List Cond := [Cond.fieldLink RX4 61 "RosterPayModel" "rules" "I", Cond.fieldLink RX4 25 "RosterPayModel" "percent" "[I", Cond.fieldLink RX4 41 "RosterPayModel" "start" "[I", Cond.fieldLink RX4 35 "RosterPayModel" "rank" "[I", Cond.fieldLink RX4 38 "RosterPayModel" "by" "[I", Cond.methodLink RX4 81 yX4_overtime, Cond.static yX4_overtime, Cond.code yX4_overtime cX4_overtime 1 (some .int), Cond.methodLink RX4 84 yX4_applies, Cond.instanceMethod yX4_applies, Cond.selects RX4 yX4_applies yX4_applies, Cond.code yX4_applies cX4_applies 7 (some .boolean), Cond.fieldLink RX4 13 "RosterPayModel" "weekdays" "[I", Cond.fieldLink RX4 32 "RosterPayModel" "holiday" "[Z", Cond.fieldLink RX4 28 "RosterPayModel" "off" "[Z", Cond.fieldLink RX4 22 "RosterPayModel" "ranks" "[I", Cond.fieldLink RX4 16 "RosterPayModel" "from" "[I", Cond.fieldLink RX4 19 "RosterPayModel" "to" "[I"]
def wsX4_percentAt : List Cond := .code yX4_percentAt cX4_percentAt 3 (some .int) :: ((wsX4_percentAt_r1 ++ wsX4_percentAt_r2) ++ wsX40)
def wsX4_reasonAt_r1 : List Cond := [Cond.methodLink RX4 100 yX4_isQuarter, Cond.instanceMethod yX4_isQuarter, Cond.selects RX4 yX4_isQuarter yX4_isQuarter, Cond.initialized RX4, Cond.code yX4_isQuarter cX4_isQuarter 4 (some .boolean), Cond.fieldLink RX4 53 "RosterPayModel" "thrown" "I", Cond.methodLink RX4 74 yX4_isShift, Cond.instanceMethod yX4_isShift, Cond.selects RX4 yX4_isShift yX4_isShift, Cond.code yX4_isShift cX4_isShift 2 (some .boolean), Cond.fieldLink RX4 67 "RosterPayModel" "shifts" "I", Cond.methodLink RX4 57 yX4_isIn, Cond.static yX4_isIn, Cond.code yX4_isIn cX4_isIn 3 (some .boolean), Cond.methodLink RX4 94 yX4_paid, Cond.instanceMethod yX4_paid, Cond.selects RX4 yX4_paid yX4_paid, Cond.code yX4_paid cX4_paid 2 (some .int), Cond.fieldLink RX4 50 "RosterPayModel" "gone" "[Z", Cond.fieldLink RX4 44 "RosterPayModel" "length" "[I", Cond.methodLink RX4 104 yX4_reasoned, Cond.instanceMethod yX4_reasoned, Cond.selects RX4 yX4_reasoned yX4_reasoned, Cond.code yX4_reasoned cX4_reasoned 5 (some .int)]
def wsX4_reasonAt_r2 : List Cond := [Cond.fieldLink RX4 61 "RosterPayModel" "rules" "I", Cond.fieldLink RX4 25 "RosterPayModel" "percent" "[I", Cond.fieldLink RX4 41 "RosterPayModel" "start" "[I", Cond.fieldLink RX4 35 "RosterPayModel" "rank" "[I", Cond.fieldLink RX4 38 "RosterPayModel" "by" "[I", Cond.methodLink RX4 87 yX4_percented, Cond.instanceMethod yX4_percented, Cond.selects RX4 yX4_percented yX4_percented, Cond.code yX4_percented cX4_percented 6 (some .int), Cond.methodLink RX4 81 yX4_overtime, Cond.static yX4_overtime, Cond.code yX4_overtime cX4_overtime 1 (some .int), Cond.methodLink RX4 84 yX4_applies, Cond.instanceMethod yX4_applies, Cond.selects RX4 yX4_applies yX4_applies, Cond.code yX4_applies cX4_applies 7 (some .boolean), Cond.fieldLink RX4 13 "RosterPayModel" "weekdays" "[I", Cond.fieldLink RX4 32 "RosterPayModel" "holiday" "[Z", Cond.fieldLink RX4 28 "RosterPayModel" "off" "[Z", Cond.fieldLink RX4 22 "RosterPayModel" "ranks" "[I", Cond.fieldLink RX4 16 "RosterPayModel" "from" "[I", Cond.fieldLink RX4 19 "RosterPayModel" "to" "[I"]
def wsX4_reasonAt : List Cond := .code yX4_reasonAt cX4_reasonAt 3 (some .int) :: ((wsX4_reasonAt_r1 ++ wsX4_reasonAt_r2) ++ wsX40)
def wsX4_missed : List Cond := .code yX4_missed cX4_missed 2 (some .int) :: ([.methodLink RX4 74 yX4_isShift, .instanceMethod yX4_isShift, .selects RX4 yX4_isShift yX4_isShift, .initialized RX4, .code yX4_isShift cX4_isShift 2 (some .boolean), .fieldLink RX4 67 "RosterPayModel" "shifts" "I", .fieldLink RX4 53 "RosterPayModel" "thrown" "I", .methodLink RX4 57 yX4_isIn, .static yX4_isIn, .code yX4_isIn cX4_isIn 3 (some .boolean), .methodLink RX4 91 yX4_lacks, .instanceMethod yX4_lacks, .selects RX4 yX4_lacks yX4_lacks, .code yX4_lacks cX4_lacks 3 (some .int), .fieldLink RX4 44 "RosterPayModel" "length" "[I", .fieldLink RX4 50 "RosterPayModel" "gone" "[Z", .fieldLink RX4 47 "RosterPayModel" "taken" "[I"] ++ wsX40)
def wsX4_pay_r1 : List Cond := [Cond.methodLink RX4 74 yX4_isShift, Cond.instanceMethod yX4_isShift, Cond.selects RX4 yX4_isShift yX4_isShift, Cond.initialized RX4, Cond.code yX4_isShift cX4_isShift 2 (some .boolean), Cond.fieldLink RX4 67 "RosterPayModel" "shifts" "I", Cond.fieldLink RX4 53 "RosterPayModel" "thrown" "I", Cond.methodLink RX4 57 yX4_isIn, Cond.static yX4_isIn, Cond.code yX4_isIn cX4_isIn 3 (some .boolean), Cond.methodLink RX4 77 yX4_payed, Cond.instanceMethod yX4_payed, Cond.selects RX4 yX4_payed yX4_payed, Cond.code yX4_payed cX4_payed 4 (some .int), Cond.fieldLink RX4 7 "RosterPayModel" "base" "[I", Cond.fieldLink RX4 35 "RosterPayModel" "rank" "[I", Cond.fieldLink RX4 38 "RosterPayModel" "by" "[I", Cond.methodLink RX4 91 yX4_lacks, Cond.instanceMethod yX4_lacks, Cond.selects RX4 yX4_lacks yX4_lacks, Cond.code yX4_lacks cX4_lacks 3 (some .int), Cond.fieldLink RX4 44 "RosterPayModel" "length" "[I", Cond.fieldLink RX4 50 "RosterPayModel" "gone" "[Z", Cond.fieldLink RX4 47 "RosterPayModel" "taken" "[I"]
def wsX4_pay_r2 : List Cond := [Cond.methodLink RX4 94 yX4_paid, Cond.instanceMethod yX4_paid, Cond.selects RX4 yX4_paid yX4_paid, Cond.code yX4_paid cX4_paid 2 (some .int), Cond.methodLink RX4 97 yX4_amount, Cond.instanceMethod yX4_amount, Cond.selects RX4 yX4_amount yX4_amount, Cond.code yX4_amount cX4_amount 3 (some .int), Cond.methodLink RX4 87 yX4_percented, Cond.instanceMethod yX4_percented, Cond.selects RX4 yX4_percented yX4_percented, Cond.code yX4_percented cX4_percented 6 (some .int), Cond.fieldLink RX4 61 "RosterPayModel" "rules" "I", Cond.fieldLink RX4 25 "RosterPayModel" "percent" "[I", Cond.fieldLink RX4 41 "RosterPayModel" "start" "[I", Cond.methodLink RX4 81 yX4_overtime, Cond.static yX4_overtime, Cond.code yX4_overtime cX4_overtime 1 (some .int), Cond.methodLink RX4 84 yX4_applies, Cond.instanceMethod yX4_applies, Cond.selects RX4 yX4_applies yX4_applies, Cond.code yX4_applies cX4_applies 7 (some .boolean), Cond.fieldLink RX4 13 "RosterPayModel" "weekdays" "[I", Cond.fieldLink RX4 32 "RosterPayModel" "holiday" "[Z"]
def wsX4_pay_r3 : List Cond := [Cond.fieldLink RX4 28 "RosterPayModel" "off" "[Z", Cond.fieldLink RX4 22 "RosterPayModel" "ranks" "[I", Cond.fieldLink RX4 16 "RosterPayModel" "from" "[I", Cond.fieldLink RX4 19 "RosterPayModel" "to" "[I"]
def wsX4_pay : List Cond := .code yX4_pay cX4_pay 2 (some .int) :: ((wsX4_pay_r1 ++ (wsX4_pay_r2 ++ wsX4_pay_r3)) ++ wsX40)
def wsX4_payOf_r1 : List Cond := [Cond.fieldLink RX4 53 "RosterPayModel" "thrown" "I", Cond.fieldLink RX4 67 "RosterPayModel" "shifts" "I", Cond.fieldLink RX4 38 "RosterPayModel" "by" "[I", Cond.fieldLink RX4 41 "RosterPayModel" "start" "[I", Cond.methodLink RX4 70 yX4_isWorker, Cond.instanceMethod yX4_isWorker, Cond.selects RX4 yX4_isWorker yX4_isWorker, Cond.initialized RX4, Cond.code yX4_isWorker cX4_isWorker 2 (some .boolean), Cond.fieldLink RX4 64 "RosterPayModel" "workers" "I", Cond.methodLink RX4 57 yX4_isIn, Cond.static yX4_isIn, Cond.code yX4_isIn cX4_isIn 3 (some .boolean), Cond.methodLink RX4 77 yX4_payed, Cond.instanceMethod yX4_payed, Cond.selects RX4 yX4_payed yX4_payed, Cond.code yX4_payed cX4_payed 4 (some .int), Cond.fieldLink RX4 7 "RosterPayModel" "base" "[I", Cond.fieldLink RX4 35 "RosterPayModel" "rank" "[I", Cond.methodLink RX4 91 yX4_lacks, Cond.instanceMethod yX4_lacks, Cond.selects RX4 yX4_lacks yX4_lacks, Cond.code yX4_lacks cX4_lacks 3 (some .int), Cond.fieldLink RX4 44 "RosterPayModel" "length" "[I"]
def wsX4_payOf_r2 : List Cond := [Cond.fieldLink RX4 50 "RosterPayModel" "gone" "[Z", Cond.fieldLink RX4 47 "RosterPayModel" "taken" "[I", Cond.methodLink RX4 94 yX4_paid, Cond.instanceMethod yX4_paid, Cond.selects RX4 yX4_paid yX4_paid, Cond.code yX4_paid cX4_paid 2 (some .int), Cond.methodLink RX4 97 yX4_amount, Cond.instanceMethod yX4_amount, Cond.selects RX4 yX4_amount yX4_amount, Cond.code yX4_amount cX4_amount 3 (some .int), Cond.methodLink RX4 87 yX4_percented, Cond.instanceMethod yX4_percented, Cond.selects RX4 yX4_percented yX4_percented, Cond.code yX4_percented cX4_percented 6 (some .int), Cond.fieldLink RX4 61 "RosterPayModel" "rules" "I", Cond.fieldLink RX4 25 "RosterPayModel" "percent" "[I", Cond.methodLink RX4 81 yX4_overtime, Cond.static yX4_overtime, Cond.code yX4_overtime cX4_overtime 1 (some .int), Cond.methodLink RX4 84 yX4_applies, Cond.instanceMethod yX4_applies, Cond.selects RX4 yX4_applies yX4_applies, Cond.code yX4_applies cX4_applies 7 (some .boolean), Cond.fieldLink RX4 13 "RosterPayModel" "weekdays" "[I"]
def wsX4_payOf_r3 : List Cond := [Cond.fieldLink RX4 32 "RosterPayModel" "holiday" "[Z", Cond.fieldLink RX4 28 "RosterPayModel" "off" "[Z", Cond.fieldLink RX4 22 "RosterPayModel" "ranks" "[I", Cond.fieldLink RX4 16 "RosterPayModel" "from" "[I", Cond.fieldLink RX4 19 "RosterPayModel" "to" "[I"]
def wsX4_payOf : List Cond := .code yX4_payOf cX4_payOf 6 (some .int) :: ((wsX4_payOf_r1 ++ (wsX4_payOf_r2 ++ wsX4_payOf_r3)) ++ wsX40)
def wsX4_paidBy_r1 : List Cond := [Cond.fieldLink RX4 61 "RosterPayModel" "rules" "I", Cond.fieldLink RX4 53 "RosterPayModel" "thrown" "I", Cond.fieldLink RX4 67 "RosterPayModel" "shifts" "I", Cond.methodLink RX4 57 yX4_isIn, Cond.static yX4_isIn, Cond.initialized RX4, Cond.code yX4_isIn cX4_isIn 3 (some .boolean), Cond.methodLink RX4 94 yX4_paid, Cond.instanceMethod yX4_paid, Cond.selects RX4 yX4_paid yX4_paid, Cond.code yX4_paid cX4_paid 2 (some .int), Cond.fieldLink RX4 50 "RosterPayModel" "gone" "[Z", Cond.fieldLink RX4 44 "RosterPayModel" "length" "[I", Cond.methodLink RX4 104 yX4_reasoned, Cond.instanceMethod yX4_reasoned, Cond.selects RX4 yX4_reasoned yX4_reasoned, Cond.code yX4_reasoned cX4_reasoned 5 (some .int), Cond.fieldLink RX4 25 "RosterPayModel" "percent" "[I", Cond.fieldLink RX4 41 "RosterPayModel" "start" "[I", Cond.fieldLink RX4 35 "RosterPayModel" "rank" "[I", Cond.fieldLink RX4 38 "RosterPayModel" "by" "[I", Cond.methodLink RX4 87 yX4_percented, Cond.instanceMethod yX4_percented, Cond.selects RX4 yX4_percented yX4_percented]
def wsX4_paidBy_r2 : List Cond := [Cond.code yX4_percented cX4_percented 6 (some .int), Cond.methodLink RX4 81 yX4_overtime, Cond.static yX4_overtime, Cond.code yX4_overtime cX4_overtime 1 (some .int), Cond.methodLink RX4 84 yX4_applies, Cond.instanceMethod yX4_applies, Cond.selects RX4 yX4_applies yX4_applies, Cond.code yX4_applies cX4_applies 7 (some .boolean), Cond.fieldLink RX4 13 "RosterPayModel" "weekdays" "[I", Cond.fieldLink RX4 32 "RosterPayModel" "holiday" "[Z", Cond.fieldLink RX4 28 "RosterPayModel" "off" "[Z", Cond.fieldLink RX4 22 "RosterPayModel" "ranks" "[I", Cond.fieldLink RX4 16 "RosterPayModel" "from" "[I", Cond.fieldLink RX4 19 "RosterPayModel" "to" "[I", Cond.methodLink RX4 97 yX4_amount, Cond.instanceMethod yX4_amount, Cond.selects RX4 yX4_amount yX4_amount, Cond.code yX4_amount cX4_amount 3 (some .int), Cond.fieldLink RX4 7 "RosterPayModel" "base" "[I"]
def wsX4_paidBy : List Cond := .code yX4_paidBy cX4_paidBy 5 (some .int) :: ((wsX4_paidBy_r1 ++ wsX4_paidBy_r2) ++ wsX40)
def wsX4_hours : List Cond := .code yX4_hours cX4_hours 10 (some .int) :: ([.fieldLink RX4 67 "RosterPayModel" "shifts" "I", .fieldLink RX4 41 "RosterPayModel" "start" "[I", .fieldLink RX4 44 "RosterPayModel" "length" "[I", .fieldLink RX4 50 "RosterPayModel" "gone" "[Z", .fieldLink RX4 38 "RosterPayModel" "by" "[I"] ++ wsX40)
def wsX4_worked : List Cond := .code yX4_worked cX4_worked 3 (some .int) :: ([.fieldLink RX4 53 "RosterPayModel" "thrown" "I", .methodLink RX4 70 yX4_isWorker, .instanceMethod yX4_isWorker, .selects RX4 yX4_isWorker yX4_isWorker, .initialized RX4, .code yX4_isWorker cX4_isWorker 2 (some .boolean), .fieldLink RX4 64 "RosterPayModel" "workers" "I", .methodLink RX4 57 yX4_isIn, .static yX4_isIn, .code yX4_isIn cX4_isIn 3 (some .boolean), .methodLink RX4 107 yX4_hours, .instanceMethod yX4_hours, .selects RX4 yX4_hours yX4_hours, .code yX4_hours cX4_hours 10 (some .int), .fieldLink RX4 67 "RosterPayModel" "shifts" "I", .fieldLink RX4 41 "RosterPayModel" "start" "[I", .fieldLink RX4 44 "RosterPayModel" "length" "[I", .fieldLink RX4 50 "RosterPayModel" "gone" "[Z", .fieldLink RX4 38 "RosterPayModel" "by" "[I"] ++ wsX40)
def wsX4_excess : List Cond := .code yX4_excess cX4_excess 4 (some .int) :: ([.fieldLink RX4 53 "RosterPayModel" "thrown" "I", .methodLink RX4 70 yX4_isWorker, .instanceMethod yX4_isWorker, .selects RX4 yX4_isWorker yX4_isWorker, .initialized RX4, .code yX4_isWorker cX4_isWorker 2 (some .boolean), .fieldLink RX4 64 "RosterPayModel" "workers" "I", .methodLink RX4 57 yX4_isIn, .static yX4_isIn, .code yX4_isIn cX4_isIn 3 (some .boolean), .methodLink RX4 107 yX4_hours, .instanceMethod yX4_hours, .selects RX4 yX4_hours yX4_hours, .code yX4_hours cX4_hours 10 (some .int), .fieldLink RX4 67 "RosterPayModel" "shifts" "I", .fieldLink RX4 41 "RosterPayModel" "start" "[I", .fieldLink RX4 44 "RosterPayModel" "length" "[I", .fieldLink RX4 50 "RosterPayModel" "gone" "[Z", .fieldLink RX4 38 "RosterPayModel" "by" "[I"] ++ wsX40)
def wsJ9_max_7cf53 : List Cond := .code yJ9_max_7cf53 cJ9_max_7cf53 2 (some .int) :: ([])
def wsJ9_min_7cf53 : List Cond := .code yJ9_min_7cf53 cJ9_min_7cf53 2 (some .int) :: ([])
def wsL_setBase : List Cond := .codeWith yL_setBase cL_setBase 5 (some .int) [(0, 10, 13, 13)] :: ([.classLink RL 13 "java/lang/IllegalArgumentException", .methodLink RL 7 yX3_setBase, .instanceMethod yX3_setBase, .selects RX3 yX3_setBase yX3_setBase, .initialized RX3, .code yX3_setBase cX3_setBase 4 (some .int), .classLink RX3 36 "java/lang/IllegalArgumentException", .initialized "java/lang/IllegalArgumentException", .fieldLink RX3 9 "RosterPay" "bases" "[I", .methodLink RX3 43 yX3_checkArgument, .static yX3_checkArgument, .code yX3_checkArgument cX3_checkArgument 3 none] ++ wsX30 ++ (vx_atS RX3 40 "java/lang/IllegalArgumentException" ["java/lang/RuntimeException", "java/lang/Exception"]).filter goodWord)
def wsL_addRule_r1 : List Cond := [Cond.classLink RL 13 "java/lang/IllegalArgumentException", Cond.classLink RL 19 "java/lang/IllegalStateException", Cond.methodLink RL 15 yX3_addRule, Cond.instanceMethod yX3_addRule, Cond.selects RX3 yX3_addRule yX3_addRule, Cond.initialized RX3, Cond.code yX3_addRule cX3_addRule 7 (some .int), Cond.classLink RX3 51 "java/lang/IllegalStateException", Cond.initialized "java/lang/IllegalStateException", Cond.fieldLink RX3 26 "RosterPay" "rules" "Ljava/util/ArrayList;", Cond.classLink RX3 56 RX0, Cond.instantiable RX0 7, Cond.initialized RX0, Cond.methodLink RX3 43 yX3_checkArgument, Cond.static yX3_checkArgument, Cond.code yX3_checkArgument cX3_checkArgument 3 none, Cond.classLink RX3 36 "java/lang/IllegalArgumentException", Cond.initialized "java/lang/IllegalArgumentException", Cond.methodLink RX3 47 yJx4a65c_size_8abf5, Cond.instanceMethod yJx4a65c_size_8abf5, Cond.selects RJx4a65c yJx4a65c_size_8abf5 yJx4a65c_size_8abf5, Cond.initialized RJx4a65c, Cond.code yJx4a65c_size_8abf5 cJx4a65c_size_8abf5 1 (some .int), Cond.fieldLink RJx4a65c 48 "java/util/ArrayList" "size" "I"]
def wsL_addRule_r2 : List Cond := [Cond.methodLink RX3 58 yX0_init, Cond.instanceMethod yX0_init, Cond.code yX0_init cX0_init 7 none, Cond.methodLink RX0 3 objectInit, Cond.instanceMethod objectInit, Cond.code objectInit ⟨#[0xb1]⟩ 1 none, Cond.fieldLink RX0 9 "RosterPay$Rule" "number" "I", Cond.fieldLink RX0 15 "RosterPay$Rule" "weekdays" "I", Cond.fieldLink RX0 18 "RosterPay$Rule" "from" "I", Cond.fieldLink RX0 21 "RosterPay$Rule" "to" "I", Cond.fieldLink RX0 24 "RosterPay$Rule" "ranks" "I", Cond.fieldLink RX0 27 "RosterPay$Rule" "percent" "I", Cond.fieldLink RX0 30 "RosterPay$Rule" "isOn" "Z", Cond.methodLink RX3 61 yJx4a65c_add_9ea2d, Cond.instanceMethod yJx4a65c_add_9ea2d, Cond.selects RJx4a65c yJx4a65c_add_9ea2d yJx4a65c_add_9ea2d, Cond.code yJx4a65c_add_9ea2d cJx4a65c_add_9ea2d 2 (some .boolean), Cond.fieldLink RJx4a65c 63 "java/util/ArrayList" "modCount" "I", Cond.sameField "java/util/ArrayList" "java/util/AbstractList" "modCount" "I", Cond.fieldLink RJx4a65c 9 "java/util/ArrayList" "elementData" "[Ljava/lang/Object;", Cond.methodLink RJx4a65c 131 yJx4a65c_add_72be8, Cond.instanceMethod yJx4a65c_add_72be8, Cond.selects RJx4a65c yJx4a65c_add_72be8 yJx4a65c_add_72be8, Cond.code yJx4a65c_add_72be8 cJx4a65c_add_72be8 4 none]
def wsL_addRule_r3 : List Cond := [Cond.methodLink RJx4a65c 129 yJx4a65c_grow_d5877, Cond.instanceMethod yJx4a65c_grow_d5877, Cond.selects RJx4a65c yJx4a65c_grow_d5877 yJx4a65c_grow_d5877, Cond.code yJx4a65c_grow_d5877 cJx4a65c_grow_d5877 1 (some (.array (.object "java/lang/Object"))), Cond.methodLink RJx4a65c 69 yJx4a65c_grow_92f84, Cond.instanceMethod yJx4a65c_grow_92f84, Cond.selects RJx4a65c yJx4a65c_grow_92f84 yJx4a65c_grow_92f84, Cond.code yJx4a65c_grow_92f84 cJx4a65c_grow_92f84 4 (some (.array (.object "java/lang/Object"))), Cond.fieldLink RJx4a65c 39 "java/util/ArrayList" "DEFAULTCAPACITY_EMPTY_ELEMENTDATA" "[Ljava/lang/Object;", Cond.methodLink RJx4a65c 79 Lib.Math.max.name, Cond.static Lib.Math.max.name, Cond.initialized "java/lang/Math", Cond.code Lib.Math.max.name Lib.Math.max.code 2 (some .int), Cond.classLink RJx4a65c 7 "java/lang/Object", Cond.methodLink RJx4a65c 73 yJ8_newLength_cabcc, Cond.static yJ8_newLength_cabcc, Cond.initialized RJ8, Cond.code yJ8_newLength_cabcc cJ8_newLength_cabcc 4 (some .int), Cond.methodLink RJ8 194 Lib.Math.max.name, Cond.constant RJ8 200 (2147483639), Cond.methodLink RJ8 201 yJ8_hugeLength_7cf53, Cond.static yJ8_hugeLength_7cf53, Cond.code yJ8_hugeLength_7cf53 cJ8_hugeLength_7cf53 3 (some .int), Cond.methodLink RJx4a65c 66 yJ7_copyOf_1904c]
def wsL_addRule_r4 : List Cond := [Cond.static yJ7_copyOf_1904c, Cond.initialized RJ7, Cond.code yJ7_copyOf_1904c cJ7_copyOf_1904c 2 (some (.array (.object "java/lang/Object"))), Cond.methodLink RJ7 86 ⟨"java/lang/Object", "getClass", "()Ljava/lang/Class;"⟩, Cond.selects "[Ljava/lang/Object;" ⟨"java/lang/Object", "getClass", "()Ljava/lang/Class;"⟩ ⟨"java/lang/Object", "getClass", "()Ljava/lang/Class;"⟩, Cond.instanceMethod ⟨"java/lang/Object", "getClass", "()Ljava/lang/Class;"⟩, Cond.native ⟨"java/lang/Object", "getClass", "()Ljava/lang/Class;"⟩, Cond.methodLink RJ7 300 yJ7_copyOf_6403c, Cond.static yJ7_copyOf_6403c, Cond.code yJ7_copyOf_6403c cJ7_copyOf_6403c 4 (some (.array (.object "java/lang/Object"))), Cond.classLink RJ7 110 "[Ljava/lang/Object;", Cond.classLink RJ7 2 "java/lang/Object", Cond.methodLink RJ7 304 Lib.Math.min.name, Cond.static Lib.Math.min.name, Cond.code Lib.Math.min.name Lib.Math.min.code 2 (some .int), Cond.methodLink RJ7 150 arraycopyName, Cond.native arraycopyName, Cond.static arraycopyName, Cond.initialized "java/lang/System"]
def wsL_addRule : List Cond := .codeWith yL_addRule cL_addRule 8 (some .int) [(0, 16, 19, 13), (0, 16, 23, 19)] :: ((wsL_addRule_r1 ++ (wsL_addRule_r2 ++ (wsL_addRule_r3 ++ wsL_addRule_r4))) ++ wsX30 ++ wsX00 ++ wsJx4a65c0 ++ (vx_atS RX3 55 "java/lang/IllegalStateException" ["java/lang/RuntimeException", "java/lang/Exception"]).filter goodWord ++ (vx_atS RX3 40 "java/lang/IllegalArgumentException" ["java/lang/RuntimeException", "java/lang/Exception"]).filter goodWord)
def wsL_setRule_r1 : List Cond := [Cond.classLink RL 25 "java/lang/IndexOutOfBoundsException", Cond.methodLink RL 21 yX3_setRule, Cond.instanceMethod yX3_setRule, Cond.selects RX3 yX3_setRule yX3_setRule, Cond.initialized RX3, Cond.code yX3_setRule cX3_setRule 5 (some .boolean), Cond.fieldLink RX3 69 "RosterPay$Rule" "isOn" "Z", Cond.methodLink RX3 65 yX3_findRule, Cond.instanceMethod yX3_findRule, Cond.selects RX3 yX3_findRule yX3_findRule, Cond.code yX3_findRule cX3_findRule 2 (some (.object "RosterPay$Rule")), Cond.classLink RX3 170 "java/lang/IndexOutOfBoundsException", Cond.initialized "java/lang/IndexOutOfBoundsException", Cond.fieldLink RX3 26 "RosterPay" "rules" "Ljava/util/ArrayList;", Cond.classLink RX3 56 "RosterPay$Rule", Cond.methodLink RX3 47 yJx4a65c_size_8abf5, Cond.instanceMethod yJx4a65c_size_8abf5, Cond.selects RJx4a65c yJx4a65c_size_8abf5 yJx4a65c_size_8abf5, Cond.initialized RJx4a65c, Cond.code yJx4a65c_size_8abf5 cJx4a65c_size_8abf5 1 (some .int), Cond.fieldLink RJx4a65c 48 "java/util/ArrayList" "size" "I", Cond.methodLink RX3 140 yJx4a65c_get_915e3, Cond.instanceMethod yJx4a65c_get_915e3, Cond.selects RJx4a65c yJx4a65c_get_915e3 yJx4a65c_get_915e3]
def wsL_setRule_r2 : List Cond := [Cond.code yJx4a65c_get_915e3 cJx4a65c_get_915e3 2 (some (.object "java/lang/Object")), Cond.methodLink RJx4a65c 118 yJ15_checkIndex_7cf53, Cond.static yJ15_checkIndex_7cf53, Cond.initialized RJ15, Cond.code yJ15_checkIndex_7cf53 cJ15_checkIndex_7cf53 2 (some .int), Cond.methodLink RJ15 105 yJ3_checkIndex_8e157, Cond.static yJ3_checkIndex_8e157, Cond.initialized RJ3, Cond.code yJ3_checkIndex_8e157 cJ3_checkIndex_8e157 3 (some .int), Cond.methodLink RJx4a65c 123 yJx4a65c_elementData_915e3, Cond.instanceMethod yJx4a65c_elementData_915e3, Cond.selects RJx4a65c yJx4a65c_elementData_915e3 yJx4a65c_elementData_915e3, Cond.code yJx4a65c_elementData_915e3 cJx4a65c_elementData_915e3 2 (some (.object "java/lang/Object")), Cond.fieldLink RJx4a65c 9 "java/util/ArrayList" "elementData" "[Ljava/lang/Object;"]
def wsL_setRule : List Cond := .codeWith yL_setRule cL_setRule 5 (some .int) [(0, 17, 20, 25)] :: ((wsL_setRule_r1 ++ wsL_setRule_r2) ++ wsX00 ++ wsX30 ++ wsJx4a65c0 ++ (vx_atS RX3 174 "java/lang/IndexOutOfBoundsException" ["java/lang/RuntimeException", "java/lang/Exception"]).filter goodWord)
def wsL_setHoliday : List Cond := .codeWith yL_setHoliday cL_setHoliday 5 (some .int) [(0, 17, 20, 13)] :: ([.classLink RL 13 "java/lang/IllegalArgumentException", .methodLink RL 27 yX3_setHoliday, .instanceMethod yX3_setHoliday, .selects RX3 yX3_setHoliday yX3_setHoliday, .initialized RX3, .code yX3_setHoliday cX3_setHoliday 4 (some .boolean), .classLink RX3 36 "java/lang/IllegalArgumentException", .initialized "java/lang/IllegalArgumentException", .fieldLink RX3 19 "RosterPay" "holidays" "[Z"] ++ wsX30 ++ (vx_atS RX3 40 "java/lang/IllegalArgumentException" ["java/lang/RuntimeException", "java/lang/Exception"]).filter goodWord)
def wsL_addWorker_r1 : List Cond := [Cond.classLink RL 13 "java/lang/IllegalArgumentException", Cond.classLink RL 19 "java/lang/IllegalStateException", Cond.methodLink RL 30 yX3_addWorker, Cond.instanceMethod yX3_addWorker, Cond.selects RX3 yX3_addWorker yX3_addWorker, Cond.initialized RX3, Cond.code yX3_addWorker cX3_addWorker 3 (some .int), Cond.classLink RX3 51 "java/lang/IllegalStateException", Cond.initialized "java/lang/IllegalStateException", Cond.fieldLink RX3 30 "RosterPay" "workers" "Ljava/util/ArrayList;", Cond.classLink RX3 77 RX2, Cond.instantiable RX2 1, Cond.initialized RX2, Cond.methodLink RX3 43 yX3_checkArgument, Cond.static yX3_checkArgument, Cond.code yX3_checkArgument cX3_checkArgument 3 none, Cond.classLink RX3 36 "java/lang/IllegalArgumentException", Cond.initialized "java/lang/IllegalArgumentException", Cond.methodLink RX3 47 yJx4a65c_size_8abf5, Cond.instanceMethod yJx4a65c_size_8abf5, Cond.selects RJx4a65c yJx4a65c_size_8abf5 yJx4a65c_size_8abf5, Cond.initialized RJx4a65c, Cond.code yJx4a65c_size_8abf5 cJx4a65c_size_8abf5 1 (some .int), Cond.fieldLink RJx4a65c 48 "java/util/ArrayList" "size" "I"]
def wsL_addWorker_r2 : List Cond := [Cond.methodLink RX3 79 yX2_init, Cond.instanceMethod yX2_init, Cond.code yX2_init cX2_init 2 none, Cond.methodLink RX2 1 objectInit, Cond.instanceMethod objectInit, Cond.code objectInit ⟨#[0xb1]⟩ 1 none, Cond.fieldLink RX2 7 "RosterPay$Worker" "rank" "I", Cond.methodLink RX3 61 yJx4a65c_add_9ea2d, Cond.instanceMethod yJx4a65c_add_9ea2d, Cond.selects RJx4a65c yJx4a65c_add_9ea2d yJx4a65c_add_9ea2d, Cond.code yJx4a65c_add_9ea2d cJx4a65c_add_9ea2d 2 (some .boolean), Cond.fieldLink RJx4a65c 63 "java/util/ArrayList" "modCount" "I", Cond.sameField "java/util/ArrayList" "java/util/AbstractList" "modCount" "I", Cond.fieldLink RJx4a65c 9 "java/util/ArrayList" "elementData" "[Ljava/lang/Object;", Cond.methodLink RJx4a65c 131 yJx4a65c_add_72be8, Cond.instanceMethod yJx4a65c_add_72be8, Cond.selects RJx4a65c yJx4a65c_add_72be8 yJx4a65c_add_72be8, Cond.code yJx4a65c_add_72be8 cJx4a65c_add_72be8 4 none, Cond.methodLink RJx4a65c 129 yJx4a65c_grow_d5877, Cond.instanceMethod yJx4a65c_grow_d5877, Cond.selects RJx4a65c yJx4a65c_grow_d5877 yJx4a65c_grow_d5877, Cond.code yJx4a65c_grow_d5877 cJx4a65c_grow_d5877 1 (some (.array (.object "java/lang/Object"))), Cond.methodLink RJx4a65c 69 yJx4a65c_grow_92f84, Cond.instanceMethod yJx4a65c_grow_92f84]
def wsL_addWorker_r3 : List Cond := [Cond.selects RJx4a65c yJx4a65c_grow_92f84 yJx4a65c_grow_92f84, Cond.code yJx4a65c_grow_92f84 cJx4a65c_grow_92f84 4 (some (.array (.object "java/lang/Object"))), Cond.fieldLink RJx4a65c 39 "java/util/ArrayList" "DEFAULTCAPACITY_EMPTY_ELEMENTDATA" "[Ljava/lang/Object;", Cond.methodLink RJx4a65c 79 Lib.Math.max.name, Cond.static Lib.Math.max.name, Cond.initialized "java/lang/Math", Cond.code Lib.Math.max.name Lib.Math.max.code 2 (some .int), Cond.classLink RJx4a65c 7 "java/lang/Object", Cond.methodLink RJx4a65c 73 yJ8_newLength_cabcc, Cond.static yJ8_newLength_cabcc, Cond.initialized RJ8, Cond.code yJ8_newLength_cabcc cJ8_newLength_cabcc 4 (some .int), Cond.methodLink RJ8 194 Lib.Math.max.name, Cond.constant RJ8 200 (2147483639), Cond.methodLink RJ8 201 yJ8_hugeLength_7cf53, Cond.static yJ8_hugeLength_7cf53, Cond.code yJ8_hugeLength_7cf53 cJ8_hugeLength_7cf53 3 (some .int), Cond.methodLink RJx4a65c 66 yJ7_copyOf_1904c, Cond.static yJ7_copyOf_1904c, Cond.initialized RJ7, Cond.code yJ7_copyOf_1904c cJ7_copyOf_1904c 2 (some (.array (.object "java/lang/Object"))), Cond.methodLink RJ7 86 ⟨"java/lang/Object", "getClass", "()Ljava/lang/Class;"⟩, Cond.selects "[Ljava/lang/Object;" ⟨"java/lang/Object", "getClass", "()Ljava/lang/Class;"⟩ ⟨"java/lang/Object", "getClass", "()Ljava/lang/Class;"⟩, Cond.instanceMethod ⟨"java/lang/Object", "getClass", "()Ljava/lang/Class;"⟩]
def wsL_addWorker_r4 : List Cond := [Cond.native ⟨"java/lang/Object", "getClass", "()Ljava/lang/Class;"⟩, Cond.methodLink RJ7 300 yJ7_copyOf_6403c, Cond.static yJ7_copyOf_6403c, Cond.code yJ7_copyOf_6403c cJ7_copyOf_6403c 4 (some (.array (.object "java/lang/Object"))), Cond.classLink RJ7 110 "[Ljava/lang/Object;", Cond.classLink RJ7 2 "java/lang/Object", Cond.methodLink RJ7 304 Lib.Math.min.name, Cond.static Lib.Math.min.name, Cond.code Lib.Math.min.name Lib.Math.min.code 2 (some .int), Cond.methodLink RJ7 150 arraycopyName, Cond.native arraycopyName, Cond.static arraycopyName, Cond.initialized "java/lang/System"]
def wsL_addWorker : List Cond := .codeWith yL_addWorker cL_addWorker 4 (some .int) [(0, 9, 12, 13), (0, 9, 15, 19)] :: ((wsL_addWorker_r1 ++ (wsL_addWorker_r2 ++ (wsL_addWorker_r3 ++ wsL_addWorker_r4))) ++ wsX30 ++ wsX20 ++ wsJx4a65c0 ++ (vx_atS RX3 55 "java/lang/IllegalStateException" ["java/lang/RuntimeException", "java/lang/Exception"]).filter goodWord ++ (vx_atS RX3 40 "java/lang/IllegalArgumentException" ["java/lang/RuntimeException", "java/lang/Exception"]).filter goodWord)
def wsL_setRank_r1 : List Cond := [Cond.classLink RL 25 "java/lang/IndexOutOfBoundsException", Cond.classLink RL 13 "java/lang/IllegalArgumentException", Cond.methodLink RL 34 yX3_setRank, Cond.instanceMethod yX3_setRank, Cond.selects RX3 yX3_setRank yX3_setRank, Cond.initialized RX3, Cond.code yX3_setRank cX3_setRank 5 (some .int), Cond.fieldLink RX3 86 "RosterPay$Worker" "rank" "I", Cond.methodLink RX3 82 yX3_findWorker, Cond.instanceMethod yX3_findWorker, Cond.selects RX3 yX3_findWorker yX3_findWorker, Cond.code yX3_findWorker cX3_findWorker 2 (some (.object "RosterPay$Worker")), Cond.classLink RX3 170 "java/lang/IndexOutOfBoundsException", Cond.initialized "java/lang/IndexOutOfBoundsException", Cond.fieldLink RX3 30 "RosterPay" "workers" "Ljava/util/ArrayList;", Cond.classLink RX3 77 "RosterPay$Worker", Cond.methodLink RX3 47 yJx4a65c_size_8abf5, Cond.instanceMethod yJx4a65c_size_8abf5, Cond.selects RJx4a65c yJx4a65c_size_8abf5 yJx4a65c_size_8abf5, Cond.initialized RJx4a65c, Cond.code yJx4a65c_size_8abf5 cJx4a65c_size_8abf5 1 (some .int), Cond.fieldLink RJx4a65c 48 "java/util/ArrayList" "size" "I", Cond.methodLink RX3 140 yJx4a65c_get_915e3, Cond.instanceMethod yJx4a65c_get_915e3]
def wsL_setRank_r2 : List Cond := [Cond.selects RJx4a65c yJx4a65c_get_915e3 yJx4a65c_get_915e3, Cond.code yJx4a65c_get_915e3 cJx4a65c_get_915e3 2 (some (.object "java/lang/Object")), Cond.methodLink RJx4a65c 118 yJ15_checkIndex_7cf53, Cond.static yJ15_checkIndex_7cf53, Cond.initialized RJ15, Cond.code yJ15_checkIndex_7cf53 cJ15_checkIndex_7cf53 2 (some .int), Cond.methodLink RJ15 105 yJ3_checkIndex_8e157, Cond.static yJ3_checkIndex_8e157, Cond.initialized RJ3, Cond.code yJ3_checkIndex_8e157 cJ3_checkIndex_8e157 3 (some .int), Cond.methodLink RJx4a65c 123 yJx4a65c_elementData_915e3, Cond.instanceMethod yJx4a65c_elementData_915e3, Cond.selects RJx4a65c yJx4a65c_elementData_915e3 yJx4a65c_elementData_915e3, Cond.code yJx4a65c_elementData_915e3 cJx4a65c_elementData_915e3 2 (some (.object "java/lang/Object")), Cond.fieldLink RJx4a65c 9 "java/util/ArrayList" "elementData" "[Ljava/lang/Object;", Cond.methodLink RX3 43 yX3_checkArgument, Cond.static yX3_checkArgument, Cond.code yX3_checkArgument cX3_checkArgument 3 none, Cond.classLink RX3 36 "java/lang/IllegalArgumentException", Cond.initialized "java/lang/IllegalArgumentException"]
def wsL_setRank : List Cond := .codeWith yL_setRank cL_setRank 5 (some .int) [(0, 10, 13, 25), (0, 10, 17, 13)] :: ((wsL_setRank_r1 ++ wsL_setRank_r2) ++ wsX20 ++ wsX30 ++ wsJx4a65c0 ++ (vx_atS RX3 174 "java/lang/IndexOutOfBoundsException" ["java/lang/RuntimeException", "java/lang/Exception"]).filter goodWord ++ (vx_atS RX3 40 "java/lang/IllegalArgumentException" ["java/lang/RuntimeException", "java/lang/Exception"]).filter goodWord)
def wsL_addShift_r1 : List Cond := [Cond.classLink RL 25 "java/lang/IndexOutOfBoundsException", Cond.classLink RL 13 "java/lang/IllegalArgumentException", Cond.classLink RL 19 "java/lang/IllegalStateException", Cond.methodLink RL 37 yX3_addShift, Cond.instanceMethod yX3_addShift, Cond.selects RX3 yX3_addShift yX3_addShift, Cond.initialized RX3, Cond.code yX3_addShift cX3_addShift 8 (some .int), Cond.classLink RX3 51 "java/lang/IllegalStateException", Cond.initialized "java/lang/IllegalStateException", Cond.fieldLink RX3 33 "RosterPay" "roster" "Ljava/util/ArrayList;", Cond.classLink RX3 96 RX1, Cond.instantiable RX1 5, Cond.initialized RX1, Cond.methodLink RX3 82 yX3_findWorker, Cond.instanceMethod yX3_findWorker, Cond.selects RX3 yX3_findWorker yX3_findWorker, Cond.code yX3_findWorker cX3_findWorker 2 (some (.object "RosterPay$Worker")), Cond.classLink RX3 170 "java/lang/IndexOutOfBoundsException", Cond.initialized "java/lang/IndexOutOfBoundsException", Cond.fieldLink RX3 30 "RosterPay" "workers" "Ljava/util/ArrayList;", Cond.classLink RX3 77 "RosterPay$Worker", Cond.methodLink RX3 47 yJx4a65c_size_8abf5, Cond.instanceMethod yJx4a65c_size_8abf5]
def wsL_addShift_r2 : List Cond := [Cond.selects RJx4a65c yJx4a65c_size_8abf5 yJx4a65c_size_8abf5, Cond.initialized RJx4a65c, Cond.code yJx4a65c_size_8abf5 cJx4a65c_size_8abf5 1 (some .int), Cond.fieldLink RJx4a65c 48 "java/util/ArrayList" "size" "I", Cond.methodLink RX3 140 yJx4a65c_get_915e3, Cond.instanceMethod yJx4a65c_get_915e3, Cond.selects RJx4a65c yJx4a65c_get_915e3 yJx4a65c_get_915e3, Cond.code yJx4a65c_get_915e3 cJx4a65c_get_915e3 2 (some (.object "java/lang/Object")), Cond.methodLink RJx4a65c 118 yJ15_checkIndex_7cf53, Cond.static yJ15_checkIndex_7cf53, Cond.initialized RJ15, Cond.code yJ15_checkIndex_7cf53 cJ15_checkIndex_7cf53 2 (some .int), Cond.methodLink RJ15 105 yJ3_checkIndex_8e157, Cond.static yJ3_checkIndex_8e157, Cond.initialized RJ3, Cond.code yJ3_checkIndex_8e157 cJ3_checkIndex_8e157 3 (some .int), Cond.methodLink RJx4a65c 123 yJx4a65c_elementData_915e3, Cond.instanceMethod yJx4a65c_elementData_915e3, Cond.selects RJx4a65c yJx4a65c_elementData_915e3 yJx4a65c_elementData_915e3, Cond.code yJx4a65c_elementData_915e3 cJx4a65c_elementData_915e3 2 (some (.object "java/lang/Object")), Cond.fieldLink RJx4a65c 9 "java/util/ArrayList" "elementData" "[Ljava/lang/Object;", Cond.methodLink RX3 43 yX3_checkArgument, Cond.static yX3_checkArgument, Cond.code yX3_checkArgument cX3_checkArgument 3 none]
def wsL_addShift_r3 : List Cond := [Cond.classLink RX3 36 "java/lang/IllegalArgumentException", Cond.initialized "java/lang/IllegalArgumentException", Cond.methodLink RX3 90 yX3_overlapsAnother, Cond.instanceMethod yX3_overlapsAnother, Cond.selects RX3 yX3_overlapsAnother yX3_overlapsAnother, Cond.code yX3_overlapsAnother cX3_overlapsAnother 4 (some .boolean), Cond.methodLink RX3 204 yX3_workedBetween, Cond.instanceMethod yX3_workedBetween, Cond.selects RX3 yX3_workedBetween yX3_workedBetween, Cond.code yX3_workedBetween cX3_workedBetween 7 (some .int), Cond.classLink RX3 96 "RosterPay$Shift", Cond.fieldLink RX3 148 "RosterPay$Shift" "worker" "LRosterPay$Worker;", Cond.fieldLink RX3 113 "RosterPay$Shift" "isCancelled" "Z", Cond.methodLink RX3 207 yX1_ownBetween, Cond.instanceMethod yX1_ownBetween, Cond.selects RX1 yX1_ownBetween yX1_ownBetween, Cond.code yX1_ownBetween cX1_ownBetween 3 (some .int), Cond.fieldLink RX1 15 "RosterPay$Shift" "start" "I", Cond.fieldLink RX1 19 "RosterPay$Shift" "quarters" "I", Cond.methodLink RX1 39 Lib.Math.min.name, Cond.static Lib.Math.min.name, Cond.initialized "java/lang/Math", Cond.code Lib.Math.min.name Lib.Math.min.code 2 (some .int), Cond.methodLink RX1 29 Lib.Math.max.name]
def wsL_addShift_r4 : List Cond := [Cond.static Lib.Math.max.name, Cond.code Lib.Math.max.name Lib.Math.max.code 2 (some .int), Cond.methodLink RX3 98 yX1_init, Cond.instanceMethod yX1_init, Cond.code yX1_init cX1_init 4 none, Cond.methodLink RX1 3 objectInit, Cond.instanceMethod objectInit, Cond.code objectInit ⟨#[0xb1]⟩ 1 none, Cond.fieldLink RX1 9 "RosterPay$Shift" "worker" "LRosterPay$Worker;", Cond.fieldLink RX1 22 "RosterPay$Shift" "breaksTaken" "I", Cond.fieldLink RX1 25 "RosterPay$Shift" "isCancelled" "Z", Cond.methodLink RX3 61 yJx4a65c_add_9ea2d, Cond.instanceMethod yJx4a65c_add_9ea2d, Cond.selects RJx4a65c yJx4a65c_add_9ea2d yJx4a65c_add_9ea2d, Cond.code yJx4a65c_add_9ea2d cJx4a65c_add_9ea2d 2 (some .boolean), Cond.fieldLink RJx4a65c 63 "java/util/ArrayList" "modCount" "I", Cond.sameField "java/util/ArrayList" "java/util/AbstractList" "modCount" "I", Cond.methodLink RJx4a65c 131 yJx4a65c_add_72be8, Cond.instanceMethod yJx4a65c_add_72be8, Cond.selects RJx4a65c yJx4a65c_add_72be8 yJx4a65c_add_72be8, Cond.code yJx4a65c_add_72be8 cJx4a65c_add_72be8 4 none, Cond.methodLink RJx4a65c 129 yJx4a65c_grow_d5877, Cond.instanceMethod yJx4a65c_grow_d5877, Cond.selects RJx4a65c yJx4a65c_grow_d5877 yJx4a65c_grow_d5877]
def wsL_addShift_r5 : List Cond := [Cond.code yJx4a65c_grow_d5877 cJx4a65c_grow_d5877 1 (some (.array (.object "java/lang/Object"))), Cond.methodLink RJx4a65c 69 yJx4a65c_grow_92f84, Cond.instanceMethod yJx4a65c_grow_92f84, Cond.selects RJx4a65c yJx4a65c_grow_92f84 yJx4a65c_grow_92f84, Cond.code yJx4a65c_grow_92f84 cJx4a65c_grow_92f84 4 (some (.array (.object "java/lang/Object"))), Cond.fieldLink RJx4a65c 39 "java/util/ArrayList" "DEFAULTCAPACITY_EMPTY_ELEMENTDATA" "[Ljava/lang/Object;", Cond.methodLink RJx4a65c 79 Lib.Math.max.name, Cond.classLink RJx4a65c 7 "java/lang/Object", Cond.methodLink RJx4a65c 73 yJ8_newLength_cabcc, Cond.static yJ8_newLength_cabcc, Cond.initialized RJ8, Cond.code yJ8_newLength_cabcc cJ8_newLength_cabcc 4 (some .int), Cond.methodLink RJ8 194 Lib.Math.max.name, Cond.constant RJ8 200 (2147483639), Cond.methodLink RJ8 201 yJ8_hugeLength_7cf53, Cond.static yJ8_hugeLength_7cf53, Cond.code yJ8_hugeLength_7cf53 cJ8_hugeLength_7cf53 3 (some .int), Cond.methodLink RJx4a65c 66 yJ7_copyOf_1904c, Cond.static yJ7_copyOf_1904c, Cond.initialized RJ7, Cond.code yJ7_copyOf_1904c cJ7_copyOf_1904c 2 (some (.array (.object "java/lang/Object"))), Cond.methodLink RJ7 86 ⟨"java/lang/Object", "getClass", "()Ljava/lang/Class;"⟩, Cond.selects "[Ljava/lang/Object;" ⟨"java/lang/Object", "getClass", "()Ljava/lang/Class;"⟩ ⟨"java/lang/Object", "getClass", "()Ljava/lang/Class;"⟩, Cond.instanceMethod ⟨"java/lang/Object", "getClass", "()Ljava/lang/Class;"⟩]
def wsL_addShift_r6 : List Cond := [Cond.native ⟨"java/lang/Object", "getClass", "()Ljava/lang/Class;"⟩, Cond.methodLink RJ7 300 yJ7_copyOf_6403c, Cond.static yJ7_copyOf_6403c, Cond.code yJ7_copyOf_6403c cJ7_copyOf_6403c 4 (some (.array (.object "java/lang/Object"))), Cond.classLink RJ7 110 "[Ljava/lang/Object;", Cond.classLink RJ7 2 "java/lang/Object", Cond.methodLink RJ7 304 Lib.Math.min.name, Cond.methodLink RJ7 150 arraycopyName, Cond.native arraycopyName, Cond.static arraycopyName, Cond.initialized "java/lang/System"]
def wsL_addShift : List Cond := .codeWith yL_addShift cL_addShift 7 (some .int) [(0, 14, 17, 25), (0, 14, 21, 13), (0, 14, 25, 19)] :: ((wsL_addShift_r1 ++ (wsL_addShift_r2 ++ (wsL_addShift_r3 ++ (wsL_addShift_r4 ++ (wsL_addShift_r5 ++ wsL_addShift_r6))))) ++ wsX30 ++ wsX10 ++ wsJx4a65c0 ++ (vx_atS RX3 55 "java/lang/IllegalStateException" ["java/lang/RuntimeException", "java/lang/Exception"]).filter goodWord ++ (vx_atS RX3 174 "java/lang/IndexOutOfBoundsException" ["java/lang/RuntimeException", "java/lang/Exception"]).filter goodWord ++ (vx_atS RX3 40 "java/lang/IllegalArgumentException" ["java/lang/RuntimeException", "java/lang/Exception"]).filter goodWord)
def wsL_cancel_r1 : List Cond := [Cond.classLink RL 25 "java/lang/IndexOutOfBoundsException", Cond.classLink RL 19 "java/lang/IllegalStateException", Cond.methodLink RL 41 yX3_cancel, Cond.instanceMethod yX3_cancel, Cond.selects RX3 yX3_cancel yX3_cancel, Cond.initialized RX3, Cond.code yX3_cancel cX3_cancel 4 (some .int), Cond.fieldLink RX3 113 "RosterPay$Shift" "isCancelled" "Z", Cond.methodLink RX3 101 yX3_findShift, Cond.instanceMethod yX3_findShift, Cond.selects RX3 yX3_findShift yX3_findShift, Cond.code yX3_findShift cX3_findShift 2 (some (.object "RosterPay$Shift")), Cond.classLink RX3 170 "java/lang/IndexOutOfBoundsException", Cond.initialized "java/lang/IndexOutOfBoundsException", Cond.fieldLink RX3 33 "RosterPay" "roster" "Ljava/util/ArrayList;", Cond.classLink RX3 96 "RosterPay$Shift", Cond.methodLink RX3 47 yJx4a65c_size_8abf5, Cond.instanceMethod yJx4a65c_size_8abf5, Cond.selects RJx4a65c yJx4a65c_size_8abf5 yJx4a65c_size_8abf5, Cond.initialized RJx4a65c, Cond.code yJx4a65c_size_8abf5 cJx4a65c_size_8abf5 1 (some .int), Cond.fieldLink RJx4a65c 48 "java/util/ArrayList" "size" "I", Cond.methodLink RX3 140 yJx4a65c_get_915e3, Cond.instanceMethod yJx4a65c_get_915e3]
def wsL_cancel_r2 : List Cond := [Cond.selects RJx4a65c yJx4a65c_get_915e3 yJx4a65c_get_915e3, Cond.code yJx4a65c_get_915e3 cJx4a65c_get_915e3 2 (some (.object "java/lang/Object")), Cond.methodLink RJx4a65c 118 yJ15_checkIndex_7cf53, Cond.static yJ15_checkIndex_7cf53, Cond.initialized RJ15, Cond.code yJ15_checkIndex_7cf53 cJ15_checkIndex_7cf53 2 (some .int), Cond.methodLink RJ15 105 yJ3_checkIndex_8e157, Cond.static yJ3_checkIndex_8e157, Cond.initialized RJ3, Cond.code yJ3_checkIndex_8e157 cJ3_checkIndex_8e157 3 (some .int), Cond.methodLink RJx4a65c 123 yJx4a65c_elementData_915e3, Cond.instanceMethod yJx4a65c_elementData_915e3, Cond.selects RJx4a65c yJx4a65c_elementData_915e3 yJx4a65c_elementData_915e3, Cond.code yJx4a65c_elementData_915e3 cJx4a65c_elementData_915e3 2 (some (.object "java/lang/Object")), Cond.fieldLink RJx4a65c 9 "java/util/ArrayList" "elementData" "[Ljava/lang/Object;", Cond.methodLink RX3 105 yX3_checkNotCancelled, Cond.static yX3_checkNotCancelled, Cond.code yX3_checkNotCancelled cX3_checkNotCancelled 1 none, Cond.classLink RX3 51 "java/lang/IllegalStateException", Cond.initialized "java/lang/IllegalStateException", Cond.methodLink RX3 109 yX3_payFor, Cond.instanceMethod yX3_payFor, Cond.selects RX3 yX3_payFor yX3_payFor, Cond.code yX3_payFor cX3_payFor 5 (some .int)]
def wsL_cancel_r3 : List Cond := [Cond.fieldLink RX3 148 "RosterPay$Shift" "worker" "LRosterPay$Worker;", Cond.fieldLink RX3 86 "RosterPay$Worker" "rank" "I", Cond.methodLink RX3 198 yX3_baseOf, Cond.instanceMethod yX3_baseOf, Cond.selects RX3 yX3_baseOf yX3_baseOf, Cond.code yX3_baseOf cX3_baseOf 2 (some .int), Cond.fieldLink RX3 9 "RosterPay" "bases" "[I", Cond.methodLink RX3 137 yX1_breaksMissed, Cond.instanceMethod yX1_breaksMissed, Cond.selects RX1 yX1_breaksMissed yX1_breaksMissed, Cond.initialized RX1, Cond.code yX1_breaksMissed cX1_breaksMissed 1 (some .int), Cond.fieldLink RX1 25 "RosterPay$Shift" "isCancelled" "Z", Cond.fieldLink RX1 22 "RosterPay$Shift" "breaksTaken" "I", Cond.methodLink RX1 29 Lib.Math.max.name, Cond.static Lib.Math.max.name, Cond.initialized "java/lang/Math", Cond.code Lib.Math.max.name Lib.Math.max.code 2 (some .int), Cond.methodLink RX1 35 yX1_breaksOwed, Cond.instanceMethod yX1_breaksOwed, Cond.selects RX1 yX1_breaksOwed yX1_breaksOwed, Cond.code yX1_breaksOwed cX1_breaksOwed 1 (some .int), Cond.fieldLink RX1 19 "RosterPay$Shift" "quarters" "I", Cond.methodLink RX3 119 yX1_paidLength]
def wsL_cancel_r4 : List Cond := [Cond.instanceMethod yX1_paidLength, Cond.selects RX1 yX1_paidLength yX1_paidLength, Cond.code yX1_paidLength cX1_paidLength 1 (some .int), Cond.methodLink RX3 126 yX3_percentOf, Cond.instanceMethod yX3_percentOf, Cond.selects RX3 yX3_percentOf yX3_percentOf, Cond.code yX3_percentOf cX3_percentOf 4 (some .int), Cond.fieldLink RX3 191 "RosterPay$Rule" "percent" "I", Cond.methodLink RX3 130 yX3_decidingRule, Cond.instanceMethod yX3_decidingRule, Cond.selects RX3 yX3_decidingRule yX3_decidingRule, Cond.code yX3_decidingRule cX3_decidingRule 11 (some (.object "RosterPay$Rule")), Cond.fieldLink RX3 26 "RosterPay" "rules" "Ljava/util/ArrayList;", Cond.classLink RX3 56 "RosterPay$Rule", Cond.methodLink RX3 144 yX1_dayOf, Cond.instanceMethod yX1_dayOf, Cond.selects RX1 yX1_dayOf yX1_dayOf, Cond.code yX1_dayOf cX1_dayOf 2 (some .int), Cond.fieldLink RX1 15 "RosterPay$Shift" "start" "I", Cond.methodLink RX3 181 yX1_quarterOfDay, Cond.instanceMethod yX1_quarterOfDay, Cond.selects RX1 yX1_quarterOfDay yX1_quarterOfDay, Cond.code yX1_quarterOfDay cX1_quarterOfDay 2 (some .int), Cond.methodLink RX3 184 yX3_isHoliday]
def wsL_cancel_r5 : List Cond := [Cond.instanceMethod yX3_isHoliday, Cond.selects RX3 yX3_isHoliday yX3_isHoliday, Cond.code yX3_isHoliday cX3_isHoliday 2 (some .boolean), Cond.fieldLink RX3 19 "RosterPay" "holidays" "[Z", Cond.methodLink RX3 188 yX3_overtimePercent, Cond.static yX3_overtimePercent, Cond.code yX3_overtimePercent cX3_overtimePercent 1 (some .int), Cond.methodLink RX3 194 yX0_appliesTo, Cond.instanceMethod yX0_appliesTo, Cond.selects RX0 yX0_appliesTo yX0_appliesTo, Cond.initialized RX0, Cond.code yX0_appliesTo cX0_appliesTo 5 (some .boolean), Cond.fieldLink RX0 30 "RosterPay$Rule" "isOn" "Z", Cond.fieldLink RX0 24 "RosterPay$Rule" "ranks" "I", Cond.fieldLink RX0 18 "RosterPay$Rule" "from" "I", Cond.fieldLink RX0 21 "RosterPay$Rule" "to" "I", Cond.methodLink RX0 34 yX0_hasBit, Cond.static yX0_hasBit, Cond.code yX0_hasBit cX0_hasBit 2 (some .boolean), Cond.methodLink RX0 38 yX0_isForDay, Cond.instanceMethod yX0_isForDay, Cond.selects RX0 yX0_isForDay yX0_isForDay, Cond.code yX0_isForDay cX0_isForDay 3 (some .boolean), Cond.fieldLink RX0 15 "RosterPay$Rule" "weekdays" "I"]
def wsL_cancel_r6 : List Cond := [Cond.methodLink RX3 201 yX3_amount, Cond.static yX3_amount, Cond.code yX3_amount cX3_amount 2 (some .int)]
def wsL_cancel : List Cond := .codeWith yL_cancel cL_cancel 4 (some .int) [(0, 9, 12, 25), (0, 9, 15, 19)] :: ((wsL_cancel_r1 ++ (wsL_cancel_r2 ++ (wsL_cancel_r3 ++ (wsL_cancel_r4 ++ (wsL_cancel_r5 ++ wsL_cancel_r6))))) ++ wsX10 ++ wsX30 ++ wsJx4a65c0 ++ wsX20 ++ wsX00 ++ (vx_atS RX3 174 "java/lang/IndexOutOfBoundsException" ["java/lang/RuntimeException", "java/lang/Exception"]).filter goodWord ++ (vx_atS RX3 55 "java/lang/IllegalStateException" ["java/lang/RuntimeException", "java/lang/Exception"]).filter goodWord)
def wsL_takeBreaks_r1 : List Cond := [Cond.classLink RL 25 "java/lang/IndexOutOfBoundsException", Cond.classLink RL 13 "java/lang/IllegalArgumentException", Cond.classLink RL 19 "java/lang/IllegalStateException", Cond.methodLink RL 44 yX3_takeBreaks, Cond.instanceMethod yX3_takeBreaks, Cond.selects RX3 yX3_takeBreaks yX3_takeBreaks, Cond.initialized RX3, Cond.code yX3_takeBreaks cX3_takeBreaks 5 (some .int), Cond.fieldLink RX3 116 "RosterPay$Shift" "breaksTaken" "I", Cond.methodLink RX3 101 yX3_findShift, Cond.instanceMethod yX3_findShift, Cond.selects RX3 yX3_findShift yX3_findShift, Cond.code yX3_findShift cX3_findShift 2 (some (.object "RosterPay$Shift")), Cond.classLink RX3 170 "java/lang/IndexOutOfBoundsException", Cond.initialized "java/lang/IndexOutOfBoundsException", Cond.fieldLink RX3 33 "RosterPay" "roster" "Ljava/util/ArrayList;", Cond.classLink RX3 96 "RosterPay$Shift", Cond.methodLink RX3 47 yJx4a65c_size_8abf5, Cond.instanceMethod yJx4a65c_size_8abf5, Cond.selects RJx4a65c yJx4a65c_size_8abf5 yJx4a65c_size_8abf5, Cond.initialized RJx4a65c, Cond.code yJx4a65c_size_8abf5 cJx4a65c_size_8abf5 1 (some .int), Cond.fieldLink RJx4a65c 48 "java/util/ArrayList" "size" "I", Cond.methodLink RX3 140 yJx4a65c_get_915e3]
def wsL_takeBreaks_r2 : List Cond := [Cond.instanceMethod yJx4a65c_get_915e3, Cond.selects RJx4a65c yJx4a65c_get_915e3 yJx4a65c_get_915e3, Cond.code yJx4a65c_get_915e3 cJx4a65c_get_915e3 2 (some (.object "java/lang/Object")), Cond.methodLink RJx4a65c 118 yJ15_checkIndex_7cf53, Cond.static yJ15_checkIndex_7cf53, Cond.initialized RJ15, Cond.code yJ15_checkIndex_7cf53 cJ15_checkIndex_7cf53 2 (some .int), Cond.methodLink RJ15 105 yJ3_checkIndex_8e157, Cond.static yJ3_checkIndex_8e157, Cond.initialized RJ3, Cond.code yJ3_checkIndex_8e157 cJ3_checkIndex_8e157 3 (some .int), Cond.methodLink RJx4a65c 123 yJx4a65c_elementData_915e3, Cond.instanceMethod yJx4a65c_elementData_915e3, Cond.selects RJx4a65c yJx4a65c_elementData_915e3 yJx4a65c_elementData_915e3, Cond.code yJx4a65c_elementData_915e3 cJx4a65c_elementData_915e3 2 (some (.object "java/lang/Object")), Cond.fieldLink RJx4a65c 9 "java/util/ArrayList" "elementData" "[Ljava/lang/Object;", Cond.methodLink RX3 43 yX3_checkArgument, Cond.static yX3_checkArgument, Cond.code yX3_checkArgument cX3_checkArgument 3 none, Cond.classLink RX3 36 "java/lang/IllegalArgumentException", Cond.initialized "java/lang/IllegalArgumentException", Cond.methodLink RX3 105 yX3_checkNotCancelled, Cond.static yX3_checkNotCancelled, Cond.code yX3_checkNotCancelled cX3_checkNotCancelled 1 none]
def wsL_takeBreaks_r3 : List Cond := [Cond.classLink RX3 51 "java/lang/IllegalStateException", Cond.initialized "java/lang/IllegalStateException", Cond.fieldLink RX3 113 "RosterPay$Shift" "isCancelled" "Z"]
def wsL_takeBreaks : List Cond := .codeWith yL_takeBreaks cL_takeBreaks 5 (some .int) [(0, 10, 13, 25), (0, 10, 17, 13), (0, 10, 21, 19)] :: ((wsL_takeBreaks_r1 ++ (wsL_takeBreaks_r2 ++ wsL_takeBreaks_r3)) ++ wsX10 ++ wsX30 ++ wsJx4a65c0 ++ (vx_atS RX3 174 "java/lang/IndexOutOfBoundsException" ["java/lang/RuntimeException", "java/lang/Exception"]).filter goodWord ++ (vx_atS RX3 40 "java/lang/IllegalArgumentException" ["java/lang/RuntimeException", "java/lang/Exception"]).filter goodWord ++ (vx_atS RX3 55 "java/lang/IllegalStateException" ["java/lang/RuntimeException", "java/lang/Exception"]).filter goodWord)
def wsL_paidQuarters_r1 : List Cond := [Cond.classLink RL 25 "java/lang/IndexOutOfBoundsException", Cond.methodLink RL 47 yX3_paidQuarters, Cond.instanceMethod yX3_paidQuarters, Cond.selects RX3 yX3_paidQuarters yX3_paidQuarters, Cond.initialized RX3, Cond.code yX3_paidQuarters cX3_paidQuarters 2 (some .int), Cond.methodLink RX3 101 yX3_findShift, Cond.instanceMethod yX3_findShift, Cond.selects RX3 yX3_findShift yX3_findShift, Cond.code yX3_findShift cX3_findShift 2 (some (.object "RosterPay$Shift")), Cond.classLink RX3 170 "java/lang/IndexOutOfBoundsException", Cond.initialized "java/lang/IndexOutOfBoundsException", Cond.fieldLink RX3 33 "RosterPay" "roster" "Ljava/util/ArrayList;", Cond.classLink RX3 96 "RosterPay$Shift", Cond.methodLink RX3 47 yJx4a65c_size_8abf5, Cond.instanceMethod yJx4a65c_size_8abf5, Cond.selects RJx4a65c yJx4a65c_size_8abf5 yJx4a65c_size_8abf5, Cond.initialized RJx4a65c, Cond.code yJx4a65c_size_8abf5 cJx4a65c_size_8abf5 1 (some .int), Cond.fieldLink RJx4a65c 48 "java/util/ArrayList" "size" "I", Cond.methodLink RX3 140 yJx4a65c_get_915e3, Cond.instanceMethod yJx4a65c_get_915e3, Cond.selects RJx4a65c yJx4a65c_get_915e3 yJx4a65c_get_915e3, Cond.code yJx4a65c_get_915e3 cJx4a65c_get_915e3 2 (some (.object "java/lang/Object"))]
def wsL_paidQuarters_r2 : List Cond := [Cond.methodLink RJx4a65c 118 yJ15_checkIndex_7cf53, Cond.static yJ15_checkIndex_7cf53, Cond.initialized RJ15, Cond.code yJ15_checkIndex_7cf53 cJ15_checkIndex_7cf53 2 (some .int), Cond.methodLink RJ15 105 yJ3_checkIndex_8e157, Cond.static yJ3_checkIndex_8e157, Cond.initialized RJ3, Cond.code yJ3_checkIndex_8e157 cJ3_checkIndex_8e157 3 (some .int), Cond.methodLink RJx4a65c 123 yJx4a65c_elementData_915e3, Cond.instanceMethod yJx4a65c_elementData_915e3, Cond.selects RJx4a65c yJx4a65c_elementData_915e3 yJx4a65c_elementData_915e3, Cond.code yJx4a65c_elementData_915e3 cJx4a65c_elementData_915e3 2 (some (.object "java/lang/Object")), Cond.fieldLink RJx4a65c 9 "java/util/ArrayList" "elementData" "[Ljava/lang/Object;", Cond.methodLink RX3 119 yX1_paidLength, Cond.instanceMethod yX1_paidLength, Cond.selects RX1 yX1_paidLength yX1_paidLength, Cond.initialized RX1, Cond.code yX1_paidLength cX1_paidLength 1 (some .int), Cond.fieldLink RX1 25 "RosterPay$Shift" "isCancelled" "Z", Cond.fieldLink RX1 19 "RosterPay$Shift" "quarters" "I", Cond.methodLink RX1 29 Lib.Math.max.name, Cond.static Lib.Math.max.name, Cond.initialized "java/lang/Math", Cond.code Lib.Math.max.name Lib.Math.max.code 2 (some .int)]
def wsL_paidQuarters : List Cond := .codeWith yL_paidQuarters cL_paidQuarters 4 (some .int) [(0, 9, 12, 25)] :: ((wsL_paidQuarters_r1 ++ wsL_paidQuarters_r2) ++ wsX30 ++ wsJx4a65c0 ++ wsX10 ++ (vx_atS RX3 174 "java/lang/IndexOutOfBoundsException" ["java/lang/RuntimeException", "java/lang/Exception"]).filter goodWord)
def wsL_percentAt_r1 : List Cond := [Cond.classLink RL 25 "java/lang/IndexOutOfBoundsException", Cond.methodLink RL 50 yX3_percentAt, Cond.instanceMethod yX3_percentAt, Cond.selects RX3 yX3_percentAt yX3_percentAt, Cond.initialized RX3, Cond.code yX3_percentAt cX3_percentAt 4 (some .int), Cond.methodLink RX3 101 yX3_findShift, Cond.instanceMethod yX3_findShift, Cond.selects RX3 yX3_findShift yX3_findShift, Cond.code yX3_findShift cX3_findShift 2 (some (.object "RosterPay$Shift")), Cond.classLink RX3 170 "java/lang/IndexOutOfBoundsException", Cond.initialized "java/lang/IndexOutOfBoundsException", Cond.fieldLink RX3 33 "RosterPay" "roster" "Ljava/util/ArrayList;", Cond.classLink RX3 96 "RosterPay$Shift", Cond.methodLink RX3 47 yJx4a65c_size_8abf5, Cond.instanceMethod yJx4a65c_size_8abf5, Cond.selects RJx4a65c yJx4a65c_size_8abf5 yJx4a65c_size_8abf5, Cond.initialized RJx4a65c, Cond.code yJx4a65c_size_8abf5 cJx4a65c_size_8abf5 1 (some .int), Cond.fieldLink RJx4a65c 48 "java/util/ArrayList" "size" "I", Cond.methodLink RX3 140 yJx4a65c_get_915e3, Cond.instanceMethod yJx4a65c_get_915e3, Cond.selects RJx4a65c yJx4a65c_get_915e3 yJx4a65c_get_915e3, Cond.code yJx4a65c_get_915e3 cJx4a65c_get_915e3 2 (some (.object "java/lang/Object"))]
def wsL_percentAt_r2 : List Cond := [Cond.methodLink RJx4a65c 118 yJ15_checkIndex_7cf53, Cond.static yJ15_checkIndex_7cf53, Cond.initialized RJ15, Cond.code yJ15_checkIndex_7cf53 cJ15_checkIndex_7cf53 2 (some .int), Cond.methodLink RJ15 105 yJ3_checkIndex_8e157, Cond.static yJ3_checkIndex_8e157, Cond.initialized RJ3, Cond.code yJ3_checkIndex_8e157 cJ3_checkIndex_8e157 3 (some .int), Cond.methodLink RJx4a65c 123 yJx4a65c_elementData_915e3, Cond.instanceMethod yJx4a65c_elementData_915e3, Cond.selects RJx4a65c yJx4a65c_elementData_915e3 yJx4a65c_elementData_915e3, Cond.code yJx4a65c_elementData_915e3 cJx4a65c_elementData_915e3 2 (some (.object "java/lang/Object")), Cond.fieldLink RJx4a65c 9 "java/util/ArrayList" "elementData" "[Ljava/lang/Object;", Cond.methodLink RX3 122 yX3_checkPaidQuarter, Cond.static yX3_checkPaidQuarter, Cond.code yX3_checkPaidQuarter cX3_checkPaidQuarter 2 none, Cond.methodLink RX3 119 yX1_paidLength, Cond.instanceMethod yX1_paidLength, Cond.selects RX1 yX1_paidLength yX1_paidLength, Cond.initialized RX1, Cond.code yX1_paidLength cX1_paidLength 1 (some .int), Cond.fieldLink RX1 25 "RosterPay$Shift" "isCancelled" "Z", Cond.fieldLink RX1 19 "RosterPay$Shift" "quarters" "I", Cond.methodLink RX1 29 Lib.Math.max.name]
def wsL_percentAt_r3 : List Cond := [Cond.static Lib.Math.max.name, Cond.initialized "java/lang/Math", Cond.code Lib.Math.max.name Lib.Math.max.code 2 (some .int), Cond.methodLink RX3 126 yX3_percentOf, Cond.instanceMethod yX3_percentOf, Cond.selects RX3 yX3_percentOf yX3_percentOf, Cond.code yX3_percentOf cX3_percentOf 4 (some .int), Cond.fieldLink RX3 191 "RosterPay$Rule" "percent" "I", Cond.methodLink RX3 130 yX3_decidingRule, Cond.instanceMethod yX3_decidingRule, Cond.selects RX3 yX3_decidingRule yX3_decidingRule, Cond.code yX3_decidingRule cX3_decidingRule 11 (some (.object "RosterPay$Rule")), Cond.fieldLink RX3 26 "RosterPay" "rules" "Ljava/util/ArrayList;", Cond.classLink RX3 56 "RosterPay$Rule", Cond.fieldLink RX3 148 "RosterPay$Shift" "worker" "LRosterPay$Worker;", Cond.fieldLink RX3 86 "RosterPay$Worker" "rank" "I", Cond.methodLink RX3 144 yX1_dayOf, Cond.instanceMethod yX1_dayOf, Cond.selects RX1 yX1_dayOf yX1_dayOf, Cond.code yX1_dayOf cX1_dayOf 2 (some .int), Cond.fieldLink RX1 15 "RosterPay$Shift" "start" "I", Cond.methodLink RX3 181 yX1_quarterOfDay, Cond.instanceMethod yX1_quarterOfDay, Cond.selects RX1 yX1_quarterOfDay yX1_quarterOfDay]
def wsL_percentAt_r4 : List Cond := [Cond.code yX1_quarterOfDay cX1_quarterOfDay 2 (some .int), Cond.methodLink RX3 184 yX3_isHoliday, Cond.instanceMethod yX3_isHoliday, Cond.selects RX3 yX3_isHoliday yX3_isHoliday, Cond.code yX3_isHoliday cX3_isHoliday 2 (some .boolean), Cond.fieldLink RX3 19 "RosterPay" "holidays" "[Z", Cond.methodLink RX3 188 yX3_overtimePercent, Cond.static yX3_overtimePercent, Cond.code yX3_overtimePercent cX3_overtimePercent 1 (some .int), Cond.methodLink RX3 194 yX0_appliesTo, Cond.instanceMethod yX0_appliesTo, Cond.selects RX0 yX0_appliesTo yX0_appliesTo, Cond.initialized RX0, Cond.code yX0_appliesTo cX0_appliesTo 5 (some .boolean), Cond.fieldLink RX0 30 "RosterPay$Rule" "isOn" "Z", Cond.fieldLink RX0 24 "RosterPay$Rule" "ranks" "I", Cond.fieldLink RX0 18 "RosterPay$Rule" "from" "I", Cond.fieldLink RX0 21 "RosterPay$Rule" "to" "I", Cond.methodLink RX0 34 yX0_hasBit, Cond.static yX0_hasBit, Cond.code yX0_hasBit cX0_hasBit 2 (some .boolean), Cond.methodLink RX0 38 yX0_isForDay, Cond.instanceMethod yX0_isForDay, Cond.selects RX0 yX0_isForDay yX0_isForDay]
def wsL_percentAt_r5 : List Cond := [Cond.code yX0_isForDay cX0_isForDay 3 (some .boolean), Cond.fieldLink RX0 15 "RosterPay$Rule" "weekdays" "I"]
def wsL_percentAt : List Cond := .codeWith yL_percentAt cL_percentAt 5 (some .int) [(0, 10, 13, 25)] :: ((wsL_percentAt_r1 ++ (wsL_percentAt_r2 ++ (wsL_percentAt_r3 ++ (wsL_percentAt_r4 ++ wsL_percentAt_r5)))) ++ wsX30 ++ wsJx4a65c0 ++ wsX10 ++ wsX00 ++ wsX20 ++ (vx_atS RX3 174 "java/lang/IndexOutOfBoundsException" ["java/lang/RuntimeException", "java/lang/Exception"]).filter goodWord)
def wsL_reasonAt_r1 : List Cond := [Cond.classLink RL 25 "java/lang/IndexOutOfBoundsException", Cond.methodLink RL 53 yX3_reasonAt, Cond.instanceMethod yX3_reasonAt, Cond.selects RX3 yX3_reasonAt yX3_reasonAt, Cond.initialized RX3, Cond.code yX3_reasonAt cX3_reasonAt 5 (some .int), Cond.fieldLink RX3 134 "RosterPay$Rule" "number" "I", Cond.methodLink RX3 101 yX3_findShift, Cond.instanceMethod yX3_findShift, Cond.selects RX3 yX3_findShift yX3_findShift, Cond.code yX3_findShift cX3_findShift 2 (some (.object "RosterPay$Shift")), Cond.classLink RX3 170 "java/lang/IndexOutOfBoundsException", Cond.initialized "java/lang/IndexOutOfBoundsException", Cond.fieldLink RX3 33 "RosterPay" "roster" "Ljava/util/ArrayList;", Cond.classLink RX3 96 "RosterPay$Shift", Cond.methodLink RX3 47 yJx4a65c_size_8abf5, Cond.instanceMethod yJx4a65c_size_8abf5, Cond.selects RJx4a65c yJx4a65c_size_8abf5 yJx4a65c_size_8abf5, Cond.initialized RJx4a65c, Cond.code yJx4a65c_size_8abf5 cJx4a65c_size_8abf5 1 (some .int), Cond.fieldLink RJx4a65c 48 "java/util/ArrayList" "size" "I", Cond.methodLink RX3 140 yJx4a65c_get_915e3, Cond.instanceMethod yJx4a65c_get_915e3, Cond.selects RJx4a65c yJx4a65c_get_915e3 yJx4a65c_get_915e3]
def wsL_reasonAt_r2 : List Cond := [Cond.code yJx4a65c_get_915e3 cJx4a65c_get_915e3 2 (some (.object "java/lang/Object")), Cond.methodLink RJx4a65c 118 yJ15_checkIndex_7cf53, Cond.static yJ15_checkIndex_7cf53, Cond.initialized RJ15, Cond.code yJ15_checkIndex_7cf53 cJ15_checkIndex_7cf53 2 (some .int), Cond.methodLink RJ15 105 yJ3_checkIndex_8e157, Cond.static yJ3_checkIndex_8e157, Cond.initialized RJ3, Cond.code yJ3_checkIndex_8e157 cJ3_checkIndex_8e157 3 (some .int), Cond.methodLink RJx4a65c 123 yJx4a65c_elementData_915e3, Cond.instanceMethod yJx4a65c_elementData_915e3, Cond.selects RJx4a65c yJx4a65c_elementData_915e3 yJx4a65c_elementData_915e3, Cond.code yJx4a65c_elementData_915e3 cJx4a65c_elementData_915e3 2 (some (.object "java/lang/Object")), Cond.fieldLink RJx4a65c 9 "java/util/ArrayList" "elementData" "[Ljava/lang/Object;", Cond.methodLink RX3 122 yX3_checkPaidQuarter, Cond.static yX3_checkPaidQuarter, Cond.code yX3_checkPaidQuarter cX3_checkPaidQuarter 2 none, Cond.methodLink RX3 119 yX1_paidLength, Cond.instanceMethod yX1_paidLength, Cond.selects RX1 yX1_paidLength yX1_paidLength, Cond.initialized RX1, Cond.code yX1_paidLength cX1_paidLength 1 (some .int), Cond.fieldLink RX1 25 "RosterPay$Shift" "isCancelled" "Z", Cond.fieldLink RX1 19 "RosterPay$Shift" "quarters" "I"]
def wsL_reasonAt_r3 : List Cond := [Cond.methodLink RX1 29 Lib.Math.max.name, Cond.static Lib.Math.max.name, Cond.initialized "java/lang/Math", Cond.code Lib.Math.max.name Lib.Math.max.code 2 (some .int), Cond.methodLink RX3 130 yX3_decidingRule, Cond.instanceMethod yX3_decidingRule, Cond.selects RX3 yX3_decidingRule yX3_decidingRule, Cond.code yX3_decidingRule cX3_decidingRule 11 (some (.object "RosterPay$Rule")), Cond.fieldLink RX3 26 "RosterPay" "rules" "Ljava/util/ArrayList;", Cond.classLink RX3 56 "RosterPay$Rule", Cond.fieldLink RX3 191 "RosterPay$Rule" "percent" "I", Cond.fieldLink RX3 148 "RosterPay$Shift" "worker" "LRosterPay$Worker;", Cond.fieldLink RX3 86 "RosterPay$Worker" "rank" "I", Cond.methodLink RX3 144 yX1_dayOf, Cond.instanceMethod yX1_dayOf, Cond.selects RX1 yX1_dayOf yX1_dayOf, Cond.code yX1_dayOf cX1_dayOf 2 (some .int), Cond.fieldLink RX1 15 "RosterPay$Shift" "start" "I", Cond.methodLink RX3 181 yX1_quarterOfDay, Cond.instanceMethod yX1_quarterOfDay, Cond.selects RX1 yX1_quarterOfDay yX1_quarterOfDay, Cond.code yX1_quarterOfDay cX1_quarterOfDay 2 (some .int), Cond.methodLink RX3 184 yX3_isHoliday, Cond.instanceMethod yX3_isHoliday]
def wsL_reasonAt_r4 : List Cond := [Cond.selects RX3 yX3_isHoliday yX3_isHoliday, Cond.code yX3_isHoliday cX3_isHoliday 2 (some .boolean), Cond.fieldLink RX3 19 "RosterPay" "holidays" "[Z", Cond.methodLink RX3 188 yX3_overtimePercent, Cond.static yX3_overtimePercent, Cond.code yX3_overtimePercent cX3_overtimePercent 1 (some .int), Cond.methodLink RX3 194 yX0_appliesTo, Cond.instanceMethod yX0_appliesTo, Cond.selects RX0 yX0_appliesTo yX0_appliesTo, Cond.initialized RX0, Cond.code yX0_appliesTo cX0_appliesTo 5 (some .boolean), Cond.fieldLink RX0 30 "RosterPay$Rule" "isOn" "Z", Cond.fieldLink RX0 24 "RosterPay$Rule" "ranks" "I", Cond.fieldLink RX0 18 "RosterPay$Rule" "from" "I", Cond.fieldLink RX0 21 "RosterPay$Rule" "to" "I", Cond.methodLink RX0 34 yX0_hasBit, Cond.static yX0_hasBit, Cond.code yX0_hasBit cX0_hasBit 2 (some .boolean), Cond.methodLink RX0 38 yX0_isForDay, Cond.instanceMethod yX0_isForDay, Cond.selects RX0 yX0_isForDay yX0_isForDay, Cond.code yX0_isForDay cX0_isForDay 3 (some .boolean), Cond.fieldLink RX0 15 "RosterPay$Rule" "weekdays" "I"]
def wsL_reasonAt : List Cond := .codeWith yL_reasonAt cL_reasonAt 5 (some .int) [(0, 10, 13, 25)] :: ((wsL_reasonAt_r1 ++ (wsL_reasonAt_r2 ++ (wsL_reasonAt_r3 ++ wsL_reasonAt_r4))) ++ wsX00 ++ wsX30 ++ wsJx4a65c0 ++ wsX10 ++ wsX20 ++ (vx_atS RX3 174 "java/lang/IndexOutOfBoundsException" ["java/lang/RuntimeException", "java/lang/Exception"]).filter goodWord)
def wsL_missed_r1 : List Cond := [Cond.classLink RL 25 "java/lang/IndexOutOfBoundsException", Cond.methodLink RL 56 yX3_missed, Cond.instanceMethod yX3_missed, Cond.selects RX3 yX3_missed yX3_missed, Cond.initialized RX3, Cond.code yX3_missed cX3_missed 2 (some .int), Cond.methodLink RX3 101 yX3_findShift, Cond.instanceMethod yX3_findShift, Cond.selects RX3 yX3_findShift yX3_findShift, Cond.code yX3_findShift cX3_findShift 2 (some (.object "RosterPay$Shift")), Cond.classLink RX3 170 "java/lang/IndexOutOfBoundsException", Cond.initialized "java/lang/IndexOutOfBoundsException", Cond.fieldLink RX3 33 "RosterPay" "roster" "Ljava/util/ArrayList;", Cond.classLink RX3 96 "RosterPay$Shift", Cond.methodLink RX3 47 yJx4a65c_size_8abf5, Cond.instanceMethod yJx4a65c_size_8abf5, Cond.selects RJx4a65c yJx4a65c_size_8abf5 yJx4a65c_size_8abf5, Cond.initialized RJx4a65c, Cond.code yJx4a65c_size_8abf5 cJx4a65c_size_8abf5 1 (some .int), Cond.fieldLink RJx4a65c 48 "java/util/ArrayList" "size" "I", Cond.methodLink RX3 140 yJx4a65c_get_915e3, Cond.instanceMethod yJx4a65c_get_915e3, Cond.selects RJx4a65c yJx4a65c_get_915e3 yJx4a65c_get_915e3, Cond.code yJx4a65c_get_915e3 cJx4a65c_get_915e3 2 (some (.object "java/lang/Object"))]
def wsL_missed_r2 : List Cond := [Cond.methodLink RJx4a65c 118 yJ15_checkIndex_7cf53, Cond.static yJ15_checkIndex_7cf53, Cond.initialized RJ15, Cond.code yJ15_checkIndex_7cf53 cJ15_checkIndex_7cf53 2 (some .int), Cond.methodLink RJ15 105 yJ3_checkIndex_8e157, Cond.static yJ3_checkIndex_8e157, Cond.initialized RJ3, Cond.code yJ3_checkIndex_8e157 cJ3_checkIndex_8e157 3 (some .int), Cond.methodLink RJx4a65c 123 yJx4a65c_elementData_915e3, Cond.instanceMethod yJx4a65c_elementData_915e3, Cond.selects RJx4a65c yJx4a65c_elementData_915e3 yJx4a65c_elementData_915e3, Cond.code yJx4a65c_elementData_915e3 cJx4a65c_elementData_915e3 2 (some (.object "java/lang/Object")), Cond.fieldLink RJx4a65c 9 "java/util/ArrayList" "elementData" "[Ljava/lang/Object;", Cond.methodLink RX3 137 yX1_breaksMissed, Cond.instanceMethod yX1_breaksMissed, Cond.selects RX1 yX1_breaksMissed yX1_breaksMissed, Cond.initialized RX1, Cond.code yX1_breaksMissed cX1_breaksMissed 1 (some .int), Cond.fieldLink RX1 25 "RosterPay$Shift" "isCancelled" "Z", Cond.fieldLink RX1 22 "RosterPay$Shift" "breaksTaken" "I", Cond.methodLink RX1 29 Lib.Math.max.name, Cond.static Lib.Math.max.name, Cond.initialized "java/lang/Math", Cond.code Lib.Math.max.name Lib.Math.max.code 2 (some .int)]
def wsL_missed_r3 : List Cond := [Cond.methodLink RX1 35 yX1_breaksOwed, Cond.instanceMethod yX1_breaksOwed, Cond.selects RX1 yX1_breaksOwed yX1_breaksOwed, Cond.code yX1_breaksOwed cX1_breaksOwed 1 (some .int), Cond.fieldLink RX1 19 "RosterPay$Shift" "quarters" "I"]
def wsL_missed : List Cond := .codeWith yL_missed cL_missed 4 (some .int) [(0, 9, 12, 25)] :: ((wsL_missed_r1 ++ (wsL_missed_r2 ++ wsL_missed_r3)) ++ wsX30 ++ wsJx4a65c0 ++ wsX10 ++ (vx_atS RX3 174 "java/lang/IndexOutOfBoundsException" ["java/lang/RuntimeException", "java/lang/Exception"]).filter goodWord)
def wsL_pay_r1 : List Cond := [Cond.classLink RL 25 "java/lang/IndexOutOfBoundsException", Cond.methodLink RL 59 yX3_pay, Cond.instanceMethod yX3_pay, Cond.selects RX3 yX3_pay yX3_pay, Cond.initialized RX3, Cond.code yX3_pay cX3_pay 2 (some .int), Cond.methodLink RX3 101 yX3_findShift, Cond.instanceMethod yX3_findShift, Cond.selects RX3 yX3_findShift yX3_findShift, Cond.code yX3_findShift cX3_findShift 2 (some (.object "RosterPay$Shift")), Cond.classLink RX3 170 "java/lang/IndexOutOfBoundsException", Cond.initialized "java/lang/IndexOutOfBoundsException", Cond.fieldLink RX3 33 "RosterPay" "roster" "Ljava/util/ArrayList;", Cond.classLink RX3 96 "RosterPay$Shift", Cond.methodLink RX3 47 yJx4a65c_size_8abf5, Cond.instanceMethod yJx4a65c_size_8abf5, Cond.selects RJx4a65c yJx4a65c_size_8abf5 yJx4a65c_size_8abf5, Cond.initialized RJx4a65c, Cond.code yJx4a65c_size_8abf5 cJx4a65c_size_8abf5 1 (some .int), Cond.fieldLink RJx4a65c 48 "java/util/ArrayList" "size" "I", Cond.methodLink RX3 140 yJx4a65c_get_915e3, Cond.instanceMethod yJx4a65c_get_915e3, Cond.selects RJx4a65c yJx4a65c_get_915e3 yJx4a65c_get_915e3, Cond.code yJx4a65c_get_915e3 cJx4a65c_get_915e3 2 (some (.object "java/lang/Object"))]
def wsL_pay_r2 : List Cond := [Cond.methodLink RJx4a65c 118 yJ15_checkIndex_7cf53, Cond.static yJ15_checkIndex_7cf53, Cond.initialized RJ15, Cond.code yJ15_checkIndex_7cf53 cJ15_checkIndex_7cf53 2 (some .int), Cond.methodLink RJ15 105 yJ3_checkIndex_8e157, Cond.static yJ3_checkIndex_8e157, Cond.initialized RJ3, Cond.code yJ3_checkIndex_8e157 cJ3_checkIndex_8e157 3 (some .int), Cond.methodLink RJx4a65c 123 yJx4a65c_elementData_915e3, Cond.instanceMethod yJx4a65c_elementData_915e3, Cond.selects RJx4a65c yJx4a65c_elementData_915e3 yJx4a65c_elementData_915e3, Cond.code yJx4a65c_elementData_915e3 cJx4a65c_elementData_915e3 2 (some (.object "java/lang/Object")), Cond.fieldLink RJx4a65c 9 "java/util/ArrayList" "elementData" "[Ljava/lang/Object;", Cond.methodLink RX3 109 yX3_payFor, Cond.instanceMethod yX3_payFor, Cond.selects RX3 yX3_payFor yX3_payFor, Cond.code yX3_payFor cX3_payFor 5 (some .int), Cond.fieldLink RX3 148 "RosterPay$Shift" "worker" "LRosterPay$Worker;", Cond.fieldLink RX3 86 "RosterPay$Worker" "rank" "I", Cond.methodLink RX3 198 yX3_baseOf, Cond.instanceMethod yX3_baseOf, Cond.selects RX3 yX3_baseOf yX3_baseOf, Cond.code yX3_baseOf cX3_baseOf 2 (some .int), Cond.fieldLink RX3 9 "RosterPay" "bases" "[I"]
def wsL_pay_r3 : List Cond := [Cond.methodLink RX3 137 yX1_breaksMissed, Cond.instanceMethod yX1_breaksMissed, Cond.selects RX1 yX1_breaksMissed yX1_breaksMissed, Cond.initialized RX1, Cond.code yX1_breaksMissed cX1_breaksMissed 1 (some .int), Cond.fieldLink RX1 25 "RosterPay$Shift" "isCancelled" "Z", Cond.fieldLink RX1 22 "RosterPay$Shift" "breaksTaken" "I", Cond.methodLink RX1 29 Lib.Math.max.name, Cond.static Lib.Math.max.name, Cond.initialized "java/lang/Math", Cond.code Lib.Math.max.name Lib.Math.max.code 2 (some .int), Cond.methodLink RX1 35 yX1_breaksOwed, Cond.instanceMethod yX1_breaksOwed, Cond.selects RX1 yX1_breaksOwed yX1_breaksOwed, Cond.code yX1_breaksOwed cX1_breaksOwed 1 (some .int), Cond.fieldLink RX1 19 "RosterPay$Shift" "quarters" "I", Cond.methodLink RX3 119 yX1_paidLength, Cond.instanceMethod yX1_paidLength, Cond.selects RX1 yX1_paidLength yX1_paidLength, Cond.code yX1_paidLength cX1_paidLength 1 (some .int), Cond.methodLink RX3 126 yX3_percentOf, Cond.instanceMethod yX3_percentOf, Cond.selects RX3 yX3_percentOf yX3_percentOf, Cond.code yX3_percentOf cX3_percentOf 4 (some .int)]
def wsL_pay_r4 : List Cond := [Cond.fieldLink RX3 191 "RosterPay$Rule" "percent" "I", Cond.methodLink RX3 130 yX3_decidingRule, Cond.instanceMethod yX3_decidingRule, Cond.selects RX3 yX3_decidingRule yX3_decidingRule, Cond.code yX3_decidingRule cX3_decidingRule 11 (some (.object "RosterPay$Rule")), Cond.fieldLink RX3 26 "RosterPay" "rules" "Ljava/util/ArrayList;", Cond.classLink RX3 56 "RosterPay$Rule", Cond.methodLink RX3 144 yX1_dayOf, Cond.instanceMethod yX1_dayOf, Cond.selects RX1 yX1_dayOf yX1_dayOf, Cond.code yX1_dayOf cX1_dayOf 2 (some .int), Cond.fieldLink RX1 15 "RosterPay$Shift" "start" "I", Cond.methodLink RX3 181 yX1_quarterOfDay, Cond.instanceMethod yX1_quarterOfDay, Cond.selects RX1 yX1_quarterOfDay yX1_quarterOfDay, Cond.code yX1_quarterOfDay cX1_quarterOfDay 2 (some .int), Cond.methodLink RX3 184 yX3_isHoliday, Cond.instanceMethod yX3_isHoliday, Cond.selects RX3 yX3_isHoliday yX3_isHoliday, Cond.code yX3_isHoliday cX3_isHoliday 2 (some .boolean), Cond.fieldLink RX3 19 "RosterPay" "holidays" "[Z", Cond.methodLink RX3 188 yX3_overtimePercent, Cond.static yX3_overtimePercent, Cond.code yX3_overtimePercent cX3_overtimePercent 1 (some .int)]
def wsL_pay_r5 : List Cond := [Cond.methodLink RX3 194 yX0_appliesTo, Cond.instanceMethod yX0_appliesTo, Cond.selects RX0 yX0_appliesTo yX0_appliesTo, Cond.initialized RX0, Cond.code yX0_appliesTo cX0_appliesTo 5 (some .boolean), Cond.fieldLink RX0 30 "RosterPay$Rule" "isOn" "Z", Cond.fieldLink RX0 24 "RosterPay$Rule" "ranks" "I", Cond.fieldLink RX0 18 "RosterPay$Rule" "from" "I", Cond.fieldLink RX0 21 "RosterPay$Rule" "to" "I", Cond.methodLink RX0 34 yX0_hasBit, Cond.static yX0_hasBit, Cond.code yX0_hasBit cX0_hasBit 2 (some .boolean), Cond.methodLink RX0 38 yX0_isForDay, Cond.instanceMethod yX0_isForDay, Cond.selects RX0 yX0_isForDay yX0_isForDay, Cond.code yX0_isForDay cX0_isForDay 3 (some .boolean), Cond.fieldLink RX0 15 "RosterPay$Rule" "weekdays" "I", Cond.methodLink RX3 201 yX3_amount, Cond.static yX3_amount, Cond.code yX3_amount cX3_amount 2 (some .int)]
def wsL_pay : List Cond := .codeWith yL_pay cL_pay 4 (some .int) [(0, 9, 12, 25)] :: ((wsL_pay_r1 ++ (wsL_pay_r2 ++ (wsL_pay_r3 ++ (wsL_pay_r4 ++ wsL_pay_r5)))) ++ wsX30 ++ wsJx4a65c0 ++ wsX10 ++ wsX20 ++ wsX00 ++ (vx_atS RX3 174 "java/lang/IndexOutOfBoundsException" ["java/lang/RuntimeException", "java/lang/Exception"]).filter goodWord)
def wsL_payOf_r1 : List Cond := [Cond.classLink RL 25 "java/lang/IndexOutOfBoundsException", Cond.classLink RL 13 "java/lang/IllegalArgumentException", Cond.methodLink RL 62 yX3_payOf, Cond.instanceMethod yX3_payOf, Cond.selects RX3 yX3_payOf yX3_payOf, Cond.initialized RX3, Cond.code yX3_payOf cX3_payOf 9 (some .int), Cond.fieldLink RX3 33 "RosterPay" "roster" "Ljava/util/ArrayList;", Cond.classLink RX3 96 "RosterPay$Shift", Cond.fieldLink RX3 148 "RosterPay$Shift" "worker" "LRosterPay$Worker;", Cond.methodLink RX3 82 yX3_findWorker, Cond.instanceMethod yX3_findWorker, Cond.selects RX3 yX3_findWorker yX3_findWorker, Cond.code yX3_findWorker cX3_findWorker 2 (some (.object "RosterPay$Worker")), Cond.classLink RX3 170 "java/lang/IndexOutOfBoundsException", Cond.initialized "java/lang/IndexOutOfBoundsException", Cond.fieldLink RX3 30 "RosterPay" "workers" "Ljava/util/ArrayList;", Cond.classLink RX3 77 "RosterPay$Worker", Cond.methodLink RX3 47 yJx4a65c_size_8abf5, Cond.instanceMethod yJx4a65c_size_8abf5, Cond.selects RJx4a65c yJx4a65c_size_8abf5 yJx4a65c_size_8abf5, Cond.initialized RJx4a65c, Cond.code yJx4a65c_size_8abf5 cJx4a65c_size_8abf5 1 (some .int), Cond.fieldLink RJx4a65c 48 "java/util/ArrayList" "size" "I"]
def wsL_payOf_r2 : List Cond := [Cond.methodLink RX3 140 yJx4a65c_get_915e3, Cond.instanceMethod yJx4a65c_get_915e3, Cond.selects RJx4a65c yJx4a65c_get_915e3 yJx4a65c_get_915e3, Cond.code yJx4a65c_get_915e3 cJx4a65c_get_915e3 2 (some (.object "java/lang/Object")), Cond.methodLink RJx4a65c 118 yJ15_checkIndex_7cf53, Cond.static yJ15_checkIndex_7cf53, Cond.initialized RJ15, Cond.code yJ15_checkIndex_7cf53 cJ15_checkIndex_7cf53 2 (some .int), Cond.methodLink RJ15 105 yJ3_checkIndex_8e157, Cond.static yJ3_checkIndex_8e157, Cond.initialized RJ3, Cond.code yJ3_checkIndex_8e157 cJ3_checkIndex_8e157 3 (some .int), Cond.methodLink RJx4a65c 123 yJx4a65c_elementData_915e3, Cond.instanceMethod yJx4a65c_elementData_915e3, Cond.selects RJx4a65c yJx4a65c_elementData_915e3 yJx4a65c_elementData_915e3, Cond.code yJx4a65c_elementData_915e3 cJx4a65c_elementData_915e3 2 (some (.object "java/lang/Object")), Cond.fieldLink RJx4a65c 9 "java/util/ArrayList" "elementData" "[Ljava/lang/Object;", Cond.methodLink RX3 43 yX3_checkArgument, Cond.static yX3_checkArgument, Cond.code yX3_checkArgument cX3_checkArgument 3 none, Cond.classLink RX3 36 "java/lang/IllegalArgumentException", Cond.initialized "java/lang/IllegalArgumentException", Cond.methodLink RX3 144 yX1_dayOf, Cond.instanceMethod yX1_dayOf]
def wsL_payOf_r3 : List Cond := [Cond.selects RX1 yX1_dayOf yX1_dayOf, Cond.initialized RX1, Cond.code yX1_dayOf cX1_dayOf 2 (some .int), Cond.fieldLink RX1 15 "RosterPay$Shift" "start" "I", Cond.methodLink RX3 109 yX3_payFor, Cond.instanceMethod yX3_payFor, Cond.selects RX3 yX3_payFor yX3_payFor, Cond.code yX3_payFor cX3_payFor 5 (some .int), Cond.fieldLink RX3 86 "RosterPay$Worker" "rank" "I", Cond.methodLink RX3 198 yX3_baseOf, Cond.instanceMethod yX3_baseOf, Cond.selects RX3 yX3_baseOf yX3_baseOf, Cond.code yX3_baseOf cX3_baseOf 2 (some .int), Cond.fieldLink RX3 9 "RosterPay" "bases" "[I", Cond.methodLink RX3 137 yX1_breaksMissed, Cond.instanceMethod yX1_breaksMissed, Cond.selects RX1 yX1_breaksMissed yX1_breaksMissed, Cond.code yX1_breaksMissed cX1_breaksMissed 1 (some .int), Cond.fieldLink RX1 25 "RosterPay$Shift" "isCancelled" "Z", Cond.fieldLink RX1 22 "RosterPay$Shift" "breaksTaken" "I", Cond.methodLink RX1 29 Lib.Math.max.name, Cond.static Lib.Math.max.name, Cond.initialized "java/lang/Math", Cond.code Lib.Math.max.name Lib.Math.max.code 2 (some .int)]
def wsL_payOf_r4 : List Cond := [Cond.methodLink RX1 35 yX1_breaksOwed, Cond.instanceMethod yX1_breaksOwed, Cond.selects RX1 yX1_breaksOwed yX1_breaksOwed, Cond.code yX1_breaksOwed cX1_breaksOwed 1 (some .int), Cond.fieldLink RX1 19 "RosterPay$Shift" "quarters" "I", Cond.methodLink RX3 119 yX1_paidLength, Cond.instanceMethod yX1_paidLength, Cond.selects RX1 yX1_paidLength yX1_paidLength, Cond.code yX1_paidLength cX1_paidLength 1 (some .int), Cond.methodLink RX3 126 yX3_percentOf, Cond.instanceMethod yX3_percentOf, Cond.selects RX3 yX3_percentOf yX3_percentOf, Cond.code yX3_percentOf cX3_percentOf 4 (some .int), Cond.fieldLink RX3 191 "RosterPay$Rule" "percent" "I", Cond.methodLink RX3 130 yX3_decidingRule, Cond.instanceMethod yX3_decidingRule, Cond.selects RX3 yX3_decidingRule yX3_decidingRule, Cond.code yX3_decidingRule cX3_decidingRule 11 (some (.object "RosterPay$Rule")), Cond.fieldLink RX3 26 "RosterPay" "rules" "Ljava/util/ArrayList;", Cond.classLink RX3 56 "RosterPay$Rule", Cond.methodLink RX3 181 yX1_quarterOfDay, Cond.instanceMethod yX1_quarterOfDay, Cond.selects RX1 yX1_quarterOfDay yX1_quarterOfDay, Cond.code yX1_quarterOfDay cX1_quarterOfDay 2 (some .int)]
def wsL_payOf_r5 : List Cond := [Cond.methodLink RX3 184 yX3_isHoliday, Cond.instanceMethod yX3_isHoliday, Cond.selects RX3 yX3_isHoliday yX3_isHoliday, Cond.code yX3_isHoliday cX3_isHoliday 2 (some .boolean), Cond.fieldLink RX3 19 "RosterPay" "holidays" "[Z", Cond.methodLink RX3 188 yX3_overtimePercent, Cond.static yX3_overtimePercent, Cond.code yX3_overtimePercent cX3_overtimePercent 1 (some .int), Cond.methodLink RX3 194 yX0_appliesTo, Cond.instanceMethod yX0_appliesTo, Cond.selects RX0 yX0_appliesTo yX0_appliesTo, Cond.initialized RX0, Cond.code yX0_appliesTo cX0_appliesTo 5 (some .boolean), Cond.fieldLink RX0 30 "RosterPay$Rule" "isOn" "Z", Cond.fieldLink RX0 24 "RosterPay$Rule" "ranks" "I", Cond.fieldLink RX0 18 "RosterPay$Rule" "from" "I", Cond.fieldLink RX0 21 "RosterPay$Rule" "to" "I", Cond.methodLink RX0 34 yX0_hasBit, Cond.static yX0_hasBit, Cond.code yX0_hasBit cX0_hasBit 2 (some .boolean), Cond.methodLink RX0 38 yX0_isForDay, Cond.instanceMethod yX0_isForDay, Cond.selects RX0 yX0_isForDay yX0_isForDay, Cond.code yX0_isForDay cX0_isForDay 3 (some .boolean)]
def wsL_payOf_r6 : List Cond := [Cond.fieldLink RX0 15 "RosterPay$Rule" "weekdays" "I", Cond.methodLink RX3 201 yX3_amount, Cond.static yX3_amount, Cond.code yX3_amount cX3_amount 2 (some .int)]
def wsL_payOf : List Cond := .codeWith yL_payOf cL_payOf 6 (some .int) [(0, 12, 15, 25), (0, 12, 19, 13)] :: ((wsL_payOf_r1 ++ (wsL_payOf_r2 ++ (wsL_payOf_r3 ++ (wsL_payOf_r4 ++ (wsL_payOf_r5 ++ wsL_payOf_r6))))) ++ wsX30 ++ wsX10 ++ wsJx4a65c0 ++ wsX20 ++ wsX00 ++ (vx_atS RX3 174 "java/lang/IndexOutOfBoundsException" ["java/lang/RuntimeException", "java/lang/Exception"]).filter goodWord ++ (vx_atS RX3 40 "java/lang/IllegalArgumentException" ["java/lang/RuntimeException", "java/lang/Exception"]).filter goodWord)
def wsL_paidBy_r1 : List Cond := [Cond.classLink RL 25 "java/lang/IndexOutOfBoundsException", Cond.methodLink RL 66 yX3_paidBy, Cond.instanceMethod yX3_paidBy, Cond.selects RX3 yX3_paidBy yX3_paidBy, Cond.initialized RX3, Cond.code yX3_paidBy cX3_paidBy 5 (some .int), Cond.fieldLink RX3 33 "RosterPay" "roster" "Ljava/util/ArrayList;", Cond.classLink RX3 96 "RosterPay$Shift", Cond.methodLink RX3 65 yX3_findRule, Cond.instanceMethod yX3_findRule, Cond.selects RX3 yX3_findRule yX3_findRule, Cond.code yX3_findRule cX3_findRule 2 (some (.object "RosterPay$Rule")), Cond.classLink RX3 170 "java/lang/IndexOutOfBoundsException", Cond.initialized "java/lang/IndexOutOfBoundsException", Cond.fieldLink RX3 26 "RosterPay" "rules" "Ljava/util/ArrayList;", Cond.classLink RX3 56 "RosterPay$Rule", Cond.methodLink RX3 47 yJx4a65c_size_8abf5, Cond.instanceMethod yJx4a65c_size_8abf5, Cond.selects RJx4a65c yJx4a65c_size_8abf5 yJx4a65c_size_8abf5, Cond.initialized RJx4a65c, Cond.code yJx4a65c_size_8abf5 cJx4a65c_size_8abf5 1 (some .int), Cond.fieldLink RJx4a65c 48 "java/util/ArrayList" "size" "I", Cond.methodLink RX3 140 yJx4a65c_get_915e3, Cond.instanceMethod yJx4a65c_get_915e3]
def wsL_paidBy_r2 : List Cond := [Cond.selects RJx4a65c yJx4a65c_get_915e3 yJx4a65c_get_915e3, Cond.code yJx4a65c_get_915e3 cJx4a65c_get_915e3 2 (some (.object "java/lang/Object")), Cond.methodLink RJx4a65c 118 yJ15_checkIndex_7cf53, Cond.static yJ15_checkIndex_7cf53, Cond.initialized RJ15, Cond.code yJ15_checkIndex_7cf53 cJ15_checkIndex_7cf53 2 (some .int), Cond.methodLink RJ15 105 yJ3_checkIndex_8e157, Cond.static yJ3_checkIndex_8e157, Cond.initialized RJ3, Cond.code yJ3_checkIndex_8e157 cJ3_checkIndex_8e157 3 (some .int), Cond.methodLink RJx4a65c 123 yJx4a65c_elementData_915e3, Cond.instanceMethod yJx4a65c_elementData_915e3, Cond.selects RJx4a65c yJx4a65c_elementData_915e3 yJx4a65c_elementData_915e3, Cond.code yJx4a65c_elementData_915e3 cJx4a65c_elementData_915e3 2 (some (.object "java/lang/Object")), Cond.fieldLink RJx4a65c 9 "java/util/ArrayList" "elementData" "[Ljava/lang/Object;", Cond.methodLink RX3 152 yX3_payByRule, Cond.instanceMethod yX3_payByRule, Cond.selects RX3 yX3_payByRule yX3_payByRule, Cond.code yX3_payByRule cX3_payByRule 7 (some .int), Cond.fieldLink RX3 148 "RosterPay$Shift" "worker" "LRosterPay$Worker;", Cond.fieldLink RX3 86 "RosterPay$Worker" "rank" "I", Cond.fieldLink RX3 134 "RosterPay$Rule" "number" "I", Cond.fieldLink RX3 191 "RosterPay$Rule" "percent" "I", Cond.methodLink RX3 198 yX3_baseOf]
def wsL_paidBy_r3 : List Cond := [Cond.instanceMethod yX3_baseOf, Cond.selects RX3 yX3_baseOf yX3_baseOf, Cond.code yX3_baseOf cX3_baseOf 2 (some .int), Cond.fieldLink RX3 9 "RosterPay" "bases" "[I", Cond.methodLink RX3 119 yX1_paidLength, Cond.instanceMethod yX1_paidLength, Cond.selects RX1 yX1_paidLength yX1_paidLength, Cond.initialized RX1, Cond.code yX1_paidLength cX1_paidLength 1 (some .int), Cond.fieldLink RX1 25 "RosterPay$Shift" "isCancelled" "Z", Cond.fieldLink RX1 19 "RosterPay$Shift" "quarters" "I", Cond.methodLink RX1 29 Lib.Math.max.name, Cond.static Lib.Math.max.name, Cond.initialized "java/lang/Math", Cond.code Lib.Math.max.name Lib.Math.max.code 2 (some .int), Cond.methodLink RX3 130 yX3_decidingRule, Cond.instanceMethod yX3_decidingRule, Cond.selects RX3 yX3_decidingRule yX3_decidingRule, Cond.code yX3_decidingRule cX3_decidingRule 11 (some (.object "RosterPay$Rule")), Cond.methodLink RX3 144 yX1_dayOf, Cond.instanceMethod yX1_dayOf, Cond.selects RX1 yX1_dayOf yX1_dayOf, Cond.code yX1_dayOf cX1_dayOf 2 (some .int), Cond.fieldLink RX1 15 "RosterPay$Shift" "start" "I"]
def wsL_paidBy_r4 : List Cond := [Cond.methodLink RX3 181 yX1_quarterOfDay, Cond.instanceMethod yX1_quarterOfDay, Cond.selects RX1 yX1_quarterOfDay yX1_quarterOfDay, Cond.code yX1_quarterOfDay cX1_quarterOfDay 2 (some .int), Cond.methodLink RX3 184 yX3_isHoliday, Cond.instanceMethod yX3_isHoliday, Cond.selects RX3 yX3_isHoliday yX3_isHoliday, Cond.code yX3_isHoliday cX3_isHoliday 2 (some .boolean), Cond.fieldLink RX3 19 "RosterPay" "holidays" "[Z", Cond.methodLink RX3 188 yX3_overtimePercent, Cond.static yX3_overtimePercent, Cond.code yX3_overtimePercent cX3_overtimePercent 1 (some .int), Cond.methodLink RX3 194 yX0_appliesTo, Cond.instanceMethod yX0_appliesTo, Cond.selects RX0 yX0_appliesTo yX0_appliesTo, Cond.initialized RX0, Cond.code yX0_appliesTo cX0_appliesTo 5 (some .boolean), Cond.fieldLink RX0 30 "RosterPay$Rule" "isOn" "Z", Cond.fieldLink RX0 24 "RosterPay$Rule" "ranks" "I", Cond.fieldLink RX0 18 "RosterPay$Rule" "from" "I", Cond.fieldLink RX0 21 "RosterPay$Rule" "to" "I", Cond.methodLink RX0 34 yX0_hasBit, Cond.static yX0_hasBit, Cond.code yX0_hasBit cX0_hasBit 2 (some .boolean)]
def wsL_paidBy_r5 : List Cond := [Cond.methodLink RX0 38 yX0_isForDay, Cond.instanceMethod yX0_isForDay, Cond.selects RX0 yX0_isForDay yX0_isForDay, Cond.code yX0_isForDay cX0_isForDay 3 (some .boolean), Cond.fieldLink RX0 15 "RosterPay$Rule" "weekdays" "I", Cond.methodLink RX3 201 yX3_amount, Cond.static yX3_amount, Cond.code yX3_amount cX3_amount 2 (some .int)]
def wsL_paidBy : List Cond := .codeWith yL_paidBy cL_paidBy 4 (some .int) [(0, 9, 12, 25)] :: ((wsL_paidBy_r1 ++ (wsL_paidBy_r2 ++ (wsL_paidBy_r3 ++ (wsL_paidBy_r4 ++ wsL_paidBy_r5)))) ++ wsX30 ++ wsJx4a65c0 ++ wsX10 ++ wsX20 ++ wsX00 ++ (vx_atS RX3 174 "java/lang/IndexOutOfBoundsException" ["java/lang/RuntimeException", "java/lang/Exception"]).filter goodWord)
def wsL_worked_r1 : List Cond := [Cond.classLink RL 25 "java/lang/IndexOutOfBoundsException", Cond.classLink RL 13 "java/lang/IllegalArgumentException", Cond.methodLink RL 69 yX3_worked, Cond.instanceMethod yX3_worked, Cond.selects RX3 yX3_worked yX3_worked, Cond.initialized RX3, Cond.code yX3_worked cX3_worked 4 (some .int), Cond.methodLink RX3 82 yX3_findWorker, Cond.instanceMethod yX3_findWorker, Cond.selects RX3 yX3_findWorker yX3_findWorker, Cond.code yX3_findWorker cX3_findWorker 2 (some (.object "RosterPay$Worker")), Cond.classLink RX3 170 "java/lang/IndexOutOfBoundsException", Cond.initialized "java/lang/IndexOutOfBoundsException", Cond.fieldLink RX3 30 "RosterPay" "workers" "Ljava/util/ArrayList;", Cond.classLink RX3 77 "RosterPay$Worker", Cond.methodLink RX3 47 yJx4a65c_size_8abf5, Cond.instanceMethod yJx4a65c_size_8abf5, Cond.selects RJx4a65c yJx4a65c_size_8abf5 yJx4a65c_size_8abf5, Cond.initialized RJx4a65c, Cond.code yJx4a65c_size_8abf5 cJx4a65c_size_8abf5 1 (some .int), Cond.fieldLink RJx4a65c 48 "java/util/ArrayList" "size" "I", Cond.methodLink RX3 140 yJx4a65c_get_915e3, Cond.instanceMethod yJx4a65c_get_915e3, Cond.selects RJx4a65c yJx4a65c_get_915e3 yJx4a65c_get_915e3]
def wsL_worked_r2 : List Cond := [Cond.code yJx4a65c_get_915e3 cJx4a65c_get_915e3 2 (some (.object "java/lang/Object")), Cond.methodLink RJx4a65c 118 yJ15_checkIndex_7cf53, Cond.static yJ15_checkIndex_7cf53, Cond.initialized RJ15, Cond.code yJ15_checkIndex_7cf53 cJ15_checkIndex_7cf53 2 (some .int), Cond.methodLink RJ15 105 yJ3_checkIndex_8e157, Cond.static yJ3_checkIndex_8e157, Cond.initialized RJ3, Cond.code yJ3_checkIndex_8e157 cJ3_checkIndex_8e157 3 (some .int), Cond.methodLink RJx4a65c 123 yJx4a65c_elementData_915e3, Cond.instanceMethod yJx4a65c_elementData_915e3, Cond.selects RJx4a65c yJx4a65c_elementData_915e3 yJx4a65c_elementData_915e3, Cond.code yJx4a65c_elementData_915e3 cJx4a65c_elementData_915e3 2 (some (.object "java/lang/Object")), Cond.fieldLink RJx4a65c 9 "java/util/ArrayList" "elementData" "[Ljava/lang/Object;", Cond.methodLink RX3 43 yX3_checkArgument, Cond.static yX3_checkArgument, Cond.code yX3_checkArgument cX3_checkArgument 3 none, Cond.classLink RX3 36 "java/lang/IllegalArgumentException", Cond.initialized "java/lang/IllegalArgumentException", Cond.methodLink RX3 156 yX3_workedInWeeks, Cond.instanceMethod yX3_workedInWeeks, Cond.selects RX3 yX3_workedInWeeks yX3_workedInWeeks, Cond.code yX3_workedInWeeks cX3_workedInWeeks 4 (some .int), Cond.methodLink RX3 204 yX3_workedBetween]
def wsL_worked_r3 : List Cond := [Cond.instanceMethod yX3_workedBetween, Cond.selects RX3 yX3_workedBetween yX3_workedBetween, Cond.code yX3_workedBetween cX3_workedBetween 7 (some .int), Cond.fieldLink RX3 33 "RosterPay" "roster" "Ljava/util/ArrayList;", Cond.classLink RX3 96 "RosterPay$Shift", Cond.fieldLink RX3 148 "RosterPay$Shift" "worker" "LRosterPay$Worker;", Cond.fieldLink RX3 113 "RosterPay$Shift" "isCancelled" "Z", Cond.methodLink RX3 207 yX1_ownBetween, Cond.instanceMethod yX1_ownBetween, Cond.selects RX1 yX1_ownBetween yX1_ownBetween, Cond.initialized RX1, Cond.code yX1_ownBetween cX1_ownBetween 3 (some .int), Cond.fieldLink RX1 15 "RosterPay$Shift" "start" "I", Cond.fieldLink RX1 19 "RosterPay$Shift" "quarters" "I", Cond.methodLink RX1 39 Lib.Math.min.name, Cond.static Lib.Math.min.name, Cond.initialized "java/lang/Math", Cond.code Lib.Math.min.name Lib.Math.min.code 2 (some .int), Cond.methodLink RX1 29 Lib.Math.max.name, Cond.static Lib.Math.max.name, Cond.code Lib.Math.max.name Lib.Math.max.code 2 (some .int)]
def wsL_worked : List Cond := .codeWith yL_worked cL_worked 5 (some .int) [(0, 10, 13, 25), (0, 10, 17, 13)] :: ((wsL_worked_r1 ++ (wsL_worked_r2 ++ wsL_worked_r3)) ++ wsX30 ++ wsJx4a65c0 ++ wsX10 ++ (vx_atS RX3 174 "java/lang/IndexOutOfBoundsException" ["java/lang/RuntimeException", "java/lang/Exception"]).filter goodWord ++ (vx_atS RX3 40 "java/lang/IllegalArgumentException" ["java/lang/RuntimeException", "java/lang/Exception"]).filter goodWord)
def wsL_excess_r1 : List Cond := [Cond.classLink RL 25 "java/lang/IndexOutOfBoundsException", Cond.classLink RL 13 "java/lang/IllegalArgumentException", Cond.methodLink RL 72 yX3_excess, Cond.instanceMethod yX3_excess, Cond.selects RX3 yX3_excess yX3_excess, Cond.initialized RX3, Cond.code yX3_excess cX3_excess 5 (some .int), Cond.methodLink RX3 160 Lib.Math.max.name, Cond.static Lib.Math.max.name, Cond.initialized "java/lang/Math", Cond.code Lib.Math.max.name Lib.Math.max.code 2 (some .int), Cond.methodLink RX3 82 yX3_findWorker, Cond.instanceMethod yX3_findWorker, Cond.selects RX3 yX3_findWorker yX3_findWorker, Cond.code yX3_findWorker cX3_findWorker 2 (some (.object "RosterPay$Worker")), Cond.classLink RX3 170 "java/lang/IndexOutOfBoundsException", Cond.initialized "java/lang/IndexOutOfBoundsException", Cond.fieldLink RX3 30 "RosterPay" "workers" "Ljava/util/ArrayList;", Cond.classLink RX3 77 "RosterPay$Worker", Cond.methodLink RX3 47 yJx4a65c_size_8abf5, Cond.instanceMethod yJx4a65c_size_8abf5, Cond.selects RJx4a65c yJx4a65c_size_8abf5 yJx4a65c_size_8abf5, Cond.initialized RJx4a65c, Cond.code yJx4a65c_size_8abf5 cJx4a65c_size_8abf5 1 (some .int)]
def wsL_excess_r2 : List Cond := [Cond.fieldLink RJx4a65c 48 "java/util/ArrayList" "size" "I", Cond.methodLink RX3 140 yJx4a65c_get_915e3, Cond.instanceMethod yJx4a65c_get_915e3, Cond.selects RJx4a65c yJx4a65c_get_915e3 yJx4a65c_get_915e3, Cond.code yJx4a65c_get_915e3 cJx4a65c_get_915e3 2 (some (.object "java/lang/Object")), Cond.methodLink RJx4a65c 118 yJ15_checkIndex_7cf53, Cond.static yJ15_checkIndex_7cf53, Cond.initialized RJ15, Cond.code yJ15_checkIndex_7cf53 cJ15_checkIndex_7cf53 2 (some .int), Cond.methodLink RJ15 105 yJ3_checkIndex_8e157, Cond.static yJ3_checkIndex_8e157, Cond.initialized RJ3, Cond.code yJ3_checkIndex_8e157 cJ3_checkIndex_8e157 3 (some .int), Cond.methodLink RJx4a65c 123 yJx4a65c_elementData_915e3, Cond.instanceMethod yJx4a65c_elementData_915e3, Cond.selects RJx4a65c yJx4a65c_elementData_915e3 yJx4a65c_elementData_915e3, Cond.code yJx4a65c_elementData_915e3 cJx4a65c_elementData_915e3 2 (some (.object "java/lang/Object")), Cond.fieldLink RJx4a65c 9 "java/util/ArrayList" "elementData" "[Ljava/lang/Object;", Cond.methodLink RX3 43 yX3_checkArgument, Cond.static yX3_checkArgument, Cond.code yX3_checkArgument cX3_checkArgument 3 none, Cond.classLink RX3 36 "java/lang/IllegalArgumentException", Cond.initialized "java/lang/IllegalArgumentException", Cond.methodLink RX3 156 yX3_workedInWeeks]
def wsL_excess_r3 : List Cond := [Cond.instanceMethod yX3_workedInWeeks, Cond.selects RX3 yX3_workedInWeeks yX3_workedInWeeks, Cond.code yX3_workedInWeeks cX3_workedInWeeks 4 (some .int), Cond.methodLink RX3 204 yX3_workedBetween, Cond.instanceMethod yX3_workedBetween, Cond.selects RX3 yX3_workedBetween yX3_workedBetween, Cond.code yX3_workedBetween cX3_workedBetween 7 (some .int), Cond.fieldLink RX3 33 "RosterPay" "roster" "Ljava/util/ArrayList;", Cond.classLink RX3 96 "RosterPay$Shift", Cond.fieldLink RX3 148 "RosterPay$Shift" "worker" "LRosterPay$Worker;", Cond.fieldLink RX3 113 "RosterPay$Shift" "isCancelled" "Z", Cond.methodLink RX3 207 yX1_ownBetween, Cond.instanceMethod yX1_ownBetween, Cond.selects RX1 yX1_ownBetween yX1_ownBetween, Cond.initialized RX1, Cond.code yX1_ownBetween cX1_ownBetween 3 (some .int), Cond.fieldLink RX1 15 "RosterPay$Shift" "start" "I", Cond.fieldLink RX1 19 "RosterPay$Shift" "quarters" "I", Cond.methodLink RX1 39 Lib.Math.min.name, Cond.static Lib.Math.min.name, Cond.code Lib.Math.min.name Lib.Math.min.code 2 (some .int), Cond.methodLink RX1 29 Lib.Math.max.name]
def wsL_excess : List Cond := .codeWith yL_excess cL_excess 5 (some .int) [(0, 10, 13, 25), (0, 10, 17, 13)] :: ((wsL_excess_r1 ++ (wsL_excess_r2 ++ wsL_excess_r3)) ++ wsX30 ++ wsJx4a65c0 ++ wsX10 ++ (vx_atS RX3 174 "java/lang/IndexOutOfBoundsException" ["java/lang/RuntimeException", "java/lang/Exception"]).filter goodWord ++ (vx_atS RX3 40 "java/lang/IllegalArgumentException" ["java/lang/RuntimeException", "java/lang/Exception"]).filter goodWord)
def wsL_law0_r1 : List Cond := [Cond.classLink RL 8 RX3, Cond.instantiable RX3 5, Cond.initialized RX3, Cond.classLink RL 76 RX4, Cond.instantiable RX4 18, Cond.initialized RX4, Cond.arrayClass .long, Cond.methodLink RL 75 yX3_init, Cond.instanceMethod yX3_init, Cond.code yX3_init cX3_init 1 none, Cond.methodLink RX3 3 objectInit, Cond.instanceMethod objectInit, Cond.code objectInit ⟨#[0xb1]⟩ 1 none, Cond.arrayClass .int, Cond.fieldLink RX3 9 "RosterPay" "bases" "[I", Cond.arrayClass .boolean, Cond.fieldLink RX3 19 "RosterPay" "holidays" "[Z", Cond.classLink RX3 23 RJx4a65c, Cond.instantiable RJx4a65c 3, Cond.initialized RJx4a65c, Cond.fieldLink RX3 26 "RosterPay" "rules" "Ljava/util/ArrayList;", Cond.fieldLink RX3 30 "RosterPay" "workers" "Ljava/util/ArrayList;", Cond.fieldLink RX3 33 "RosterPay" "roster" "Ljava/util/ArrayList;", Cond.methodLink RX3 13 yJ7_fill_53178]
def wsL_law0_r2 : List Cond := [Cond.static yJ7_fill_53178, Cond.initialized RJ7, Cond.code yJ7_fill_53178 cJ7_fill_53178 4 none, Cond.methodLink RX3 25 yJx4a65c_init_da8c8, Cond.instanceMethod yJx4a65c_init_da8c8, Cond.code yJx4a65c_init_da8c8 cJx4a65c_init_da8c8 1 none, Cond.fieldLink RJx4a65c 39 "java/util/ArrayList" "DEFAULTCAPACITY_EMPTY_ELEMENTDATA" "[Ljava/lang/Object;", Cond.fieldLink RJx4a65c 9 "java/util/ArrayList" "elementData" "[Ljava/lang/Object;", Cond.methodLink RJx4a65c 1 yJxc12de_init_da8c8, Cond.instanceMethod yJxc12de_init_da8c8, Cond.initialized RJxc12de, Cond.code yJxc12de_init_da8c8 cJxc12de_init_da8c8 1 none, Cond.fieldLink RJxc12de 7 "java/util/AbstractList" "modCount" "I", Cond.methodLink RJxc12de 1 yJxa1e45_init_da8c8, Cond.instanceMethod yJxa1e45_init_da8c8, Cond.initialized RJxa1e45, Cond.code yJxa1e45_init_da8c8 cJxa1e45_init_da8c8 1 none, Cond.methodLink RJxa1e45 1 objectInit, Cond.methodLink RL 78 yX4_init, Cond.instanceMethod yX4_init, Cond.code yX4_init cX4_init 2 none, Cond.methodLink RX4 1 objectInit, Cond.fieldLink RX4 7 "RosterPayModel" "base" "[I", Cond.fieldLink RX4 13 "RosterPayModel" "weekdays" "[I"]
def wsL_law0_r3 : List Cond := [Cond.fieldLink RX4 16 "RosterPayModel" "from" "[I", Cond.fieldLink RX4 19 "RosterPayModel" "to" "[I", Cond.fieldLink RX4 22 "RosterPayModel" "ranks" "[I", Cond.fieldLink RX4 25 "RosterPayModel" "percent" "[I", Cond.fieldLink RX4 28 "RosterPayModel" "off" "[Z", Cond.fieldLink RX4 32 "RosterPayModel" "holiday" "[Z", Cond.fieldLink RX4 35 "RosterPayModel" "rank" "[I", Cond.fieldLink RX4 38 "RosterPayModel" "by" "[I", Cond.fieldLink RX4 41 "RosterPayModel" "start" "[I", Cond.fieldLink RX4 44 "RosterPayModel" "length" "[I", Cond.fieldLink RX4 47 "RosterPayModel" "taken" "[I", Cond.fieldLink RX4 50 "RosterPayModel" "gone" "[Z", Cond.methodLink RL 79 yL_setBase, Cond.static yL_setBase, Cond.initialized RL, Cond.codeWith yL_setBase cL_setBase 5 (some .int) [(0, 10, 13, 13)], Cond.classLink RL 13 "java/lang/IllegalArgumentException", Cond.methodLink RL 7 yX3_setBase, Cond.instanceMethod yX3_setBase, Cond.selects RX3 yX3_setBase yX3_setBase, Cond.code yX3_setBase cX3_setBase 4 (some .int), Cond.classLink RX3 36 "java/lang/IllegalArgumentException", Cond.initialized "java/lang/IllegalArgumentException", Cond.methodLink RX3 43 yX3_checkArgument]
def wsL_law0_r4 : List Cond := [Cond.static yX3_checkArgument, Cond.code yX3_checkArgument cX3_checkArgument 3 none, Cond.methodLink RL 84 yX4_setBase, Cond.instanceMethod yX4_setBase, Cond.selects RX4 yX4_setBase yX4_setBase, Cond.code yX4_setBase cX4_setBase 4 (some .int), Cond.fieldLink RX4 53 "RosterPayModel" "thrown" "I", Cond.methodLink RX4 57 yX4_isIn, Cond.static yX4_isIn, Cond.code yX4_isIn cX4_isIn 3 (some .boolean), Cond.methodLink RL 85 yX4_thrown, Cond.instanceMethod yX4_thrown, Cond.selects RX4 yX4_thrown yX4_thrown, Cond.code yX4_thrown cX4_thrown 1 (some .int), Cond.methodLink RL 89 yL_addRule, Cond.static yL_addRule, Cond.codeWith yL_addRule cL_addRule 8 (some .int) [(0, 16, 19, 13), (0, 16, 23, 19)], Cond.classLink RL 19 "java/lang/IllegalStateException", Cond.methodLink RL 15 yX3_addRule, Cond.instanceMethod yX3_addRule, Cond.selects RX3 yX3_addRule yX3_addRule, Cond.code yX3_addRule cX3_addRule 7 (some .int), Cond.classLink RX3 51 "java/lang/IllegalStateException", Cond.initialized "java/lang/IllegalStateException"]
def wsL_law0_r5 : List Cond := [Cond.classLink RX3 56 RX0, Cond.instantiable RX0 7, Cond.initialized RX0, Cond.methodLink RX3 47 yJx4a65c_size_8abf5, Cond.instanceMethod yJx4a65c_size_8abf5, Cond.selects RJx4a65c yJx4a65c_size_8abf5 yJx4a65c_size_8abf5, Cond.code yJx4a65c_size_8abf5 cJx4a65c_size_8abf5 1 (some .int), Cond.fieldLink RJx4a65c 48 "java/util/ArrayList" "size" "I", Cond.methodLink RX3 58 yX0_init, Cond.instanceMethod yX0_init, Cond.code yX0_init cX0_init 7 none, Cond.methodLink RX0 3 objectInit, Cond.fieldLink RX0 9 "RosterPay$Rule" "number" "I", Cond.fieldLink RX0 15 "RosterPay$Rule" "weekdays" "I", Cond.fieldLink RX0 18 "RosterPay$Rule" "from" "I", Cond.fieldLink RX0 21 "RosterPay$Rule" "to" "I", Cond.fieldLink RX0 24 "RosterPay$Rule" "ranks" "I", Cond.fieldLink RX0 27 "RosterPay$Rule" "percent" "I", Cond.fieldLink RX0 30 "RosterPay$Rule" "isOn" "Z", Cond.methodLink RX3 61 yJx4a65c_add_9ea2d, Cond.instanceMethod yJx4a65c_add_9ea2d, Cond.selects RJx4a65c yJx4a65c_add_9ea2d yJx4a65c_add_9ea2d, Cond.code yJx4a65c_add_9ea2d cJx4a65c_add_9ea2d 2 (some .boolean), Cond.fieldLink RJx4a65c 63 "java/util/ArrayList" "modCount" "I"]
def wsL_law0_r6 : List Cond := [Cond.sameField "java/util/ArrayList" "java/util/AbstractList" "modCount" "I", Cond.methodLink RJx4a65c 131 yJx4a65c_add_72be8, Cond.instanceMethod yJx4a65c_add_72be8, Cond.selects RJx4a65c yJx4a65c_add_72be8 yJx4a65c_add_72be8, Cond.code yJx4a65c_add_72be8 cJx4a65c_add_72be8 4 none, Cond.methodLink RJx4a65c 129 yJx4a65c_grow_d5877, Cond.instanceMethod yJx4a65c_grow_d5877, Cond.selects RJx4a65c yJx4a65c_grow_d5877 yJx4a65c_grow_d5877, Cond.code yJx4a65c_grow_d5877 cJx4a65c_grow_d5877 1 (some (.array (.object "java/lang/Object"))), Cond.methodLink RJx4a65c 69 yJx4a65c_grow_92f84, Cond.instanceMethod yJx4a65c_grow_92f84, Cond.selects RJx4a65c yJx4a65c_grow_92f84 yJx4a65c_grow_92f84, Cond.code yJx4a65c_grow_92f84 cJx4a65c_grow_92f84 4 (some (.array (.object "java/lang/Object"))), Cond.methodLink RJx4a65c 79 Lib.Math.max.name, Cond.static Lib.Math.max.name, Cond.initialized "java/lang/Math", Cond.code Lib.Math.max.name Lib.Math.max.code 2 (some .int), Cond.classLink RJx4a65c 7 "java/lang/Object", Cond.methodLink RJx4a65c 73 yJ8_newLength_cabcc, Cond.static yJ8_newLength_cabcc, Cond.initialized RJ8, Cond.code yJ8_newLength_cabcc cJ8_newLength_cabcc 4 (some .int), Cond.methodLink RJ8 194 Lib.Math.max.name, Cond.constant RJ8 200 (2147483639)]
def wsL_law0_r7 : List Cond := [Cond.methodLink RJ8 201 yJ8_hugeLength_7cf53, Cond.static yJ8_hugeLength_7cf53, Cond.code yJ8_hugeLength_7cf53 cJ8_hugeLength_7cf53 3 (some .int), Cond.methodLink RJx4a65c 66 yJ7_copyOf_1904c, Cond.static yJ7_copyOf_1904c, Cond.code yJ7_copyOf_1904c cJ7_copyOf_1904c 2 (some (.array (.object "java/lang/Object"))), Cond.methodLink RJ7 86 ⟨"java/lang/Object", "getClass", "()Ljava/lang/Class;"⟩, Cond.selects "[Ljava/lang/Object;" ⟨"java/lang/Object", "getClass", "()Ljava/lang/Class;"⟩ ⟨"java/lang/Object", "getClass", "()Ljava/lang/Class;"⟩, Cond.instanceMethod ⟨"java/lang/Object", "getClass", "()Ljava/lang/Class;"⟩, Cond.native ⟨"java/lang/Object", "getClass", "()Ljava/lang/Class;"⟩, Cond.methodLink RJ7 300 yJ7_copyOf_6403c, Cond.static yJ7_copyOf_6403c, Cond.code yJ7_copyOf_6403c cJ7_copyOf_6403c 4 (some (.array (.object "java/lang/Object"))), Cond.classLink RJ7 110 "[Ljava/lang/Object;", Cond.classLink RJ7 2 "java/lang/Object", Cond.methodLink RJ7 304 Lib.Math.min.name, Cond.static Lib.Math.min.name, Cond.code Lib.Math.min.name Lib.Math.min.code 2 (some .int), Cond.methodLink RJ7 150 arraycopyName, Cond.native arraycopyName, Cond.static arraycopyName, Cond.initialized "java/lang/System", Cond.methodLink RL 92 yX4_addRule, Cond.instanceMethod yX4_addRule]
def wsL_law0_r8 : List Cond := [Cond.selects RX4 yX4_addRule yX4_addRule, Cond.code yX4_addRule cX4_addRule 7 (some .int), Cond.fieldLink RX4 61 "RosterPayModel" "rules" "I", Cond.methodLink RL 93 yL_setRule, Cond.static yL_setRule, Cond.codeWith yL_setRule cL_setRule 5 (some .int) [(0, 17, 20, 25)], Cond.classLink RL 25 "java/lang/IndexOutOfBoundsException", Cond.methodLink RL 21 yX3_setRule, Cond.instanceMethod yX3_setRule, Cond.selects RX3 yX3_setRule yX3_setRule, Cond.code yX3_setRule cX3_setRule 5 (some .boolean), Cond.fieldLink RX3 69 "RosterPay$Rule" "isOn" "Z", Cond.methodLink RX3 65 yX3_findRule, Cond.instanceMethod yX3_findRule, Cond.selects RX3 yX3_findRule yX3_findRule, Cond.code yX3_findRule cX3_findRule 2 (some (.object "RosterPay$Rule")), Cond.classLink RX3 170 "java/lang/IndexOutOfBoundsException", Cond.initialized "java/lang/IndexOutOfBoundsException", Cond.classLink RX3 56 "RosterPay$Rule", Cond.methodLink RX3 140 yJx4a65c_get_915e3, Cond.instanceMethod yJx4a65c_get_915e3, Cond.selects RJx4a65c yJx4a65c_get_915e3 yJx4a65c_get_915e3, Cond.code yJx4a65c_get_915e3 cJx4a65c_get_915e3 2 (some (.object "java/lang/Object")), Cond.methodLink RJx4a65c 118 yJ15_checkIndex_7cf53]
def wsL_law0_r9 : List Cond := [Cond.static yJ15_checkIndex_7cf53, Cond.initialized RJ15, Cond.code yJ15_checkIndex_7cf53 cJ15_checkIndex_7cf53 2 (some .int), Cond.methodLink RJ15 105 yJ3_checkIndex_8e157, Cond.static yJ3_checkIndex_8e157, Cond.initialized RJ3, Cond.code yJ3_checkIndex_8e157 cJ3_checkIndex_8e157 3 (some .int), Cond.methodLink RJx4a65c 123 yJx4a65c_elementData_915e3, Cond.instanceMethod yJx4a65c_elementData_915e3, Cond.selects RJx4a65c yJx4a65c_elementData_915e3 yJx4a65c_elementData_915e3, Cond.code yJx4a65c_elementData_915e3 cJx4a65c_elementData_915e3 2 (some (.object "java/lang/Object")), Cond.methodLink RL 96 yX4_setRule, Cond.instanceMethod yX4_setRule, Cond.selects RX4 yX4_setRule yX4_setRule, Cond.code yX4_setRule cX4_setRule 4 (some .boolean), Cond.methodLink RL 97 yL_setHoliday, Cond.static yL_setHoliday, Cond.codeWith yL_setHoliday cL_setHoliday 5 (some .int) [(0, 17, 20, 13)], Cond.methodLink RL 27 yX3_setHoliday, Cond.instanceMethod yX3_setHoliday, Cond.selects RX3 yX3_setHoliday yX3_setHoliday, Cond.code yX3_setHoliday cX3_setHoliday 4 (some .boolean), Cond.methodLink RL 99 yX4_setHoliday, Cond.instanceMethod yX4_setHoliday]
def wsL_law0_r10 : List Cond := [Cond.selects RX4 yX4_setHoliday yX4_setHoliday, Cond.code yX4_setHoliday cX4_setHoliday 4 (some .boolean), Cond.methodLink RL 100 yL_addWorker, Cond.static yL_addWorker, Cond.codeWith yL_addWorker cL_addWorker 4 (some .int) [(0, 9, 12, 13), (0, 9, 15, 19)], Cond.methodLink RL 30 yX3_addWorker, Cond.instanceMethod yX3_addWorker, Cond.selects RX3 yX3_addWorker yX3_addWorker, Cond.code yX3_addWorker cX3_addWorker 3 (some .int), Cond.classLink RX3 77 RX2, Cond.instantiable RX2 1, Cond.initialized RX2, Cond.methodLink RX3 79 yX2_init, Cond.instanceMethod yX2_init, Cond.code yX2_init cX2_init 2 none, Cond.methodLink RX2 1 objectInit, Cond.fieldLink RX2 7 "RosterPay$Worker" "rank" "I", Cond.methodLink RL 103 yX4_addWorker, Cond.instanceMethod yX4_addWorker, Cond.selects RX4 yX4_addWorker yX4_addWorker, Cond.code yX4_addWorker cX4_addWorker 2 (some .int), Cond.fieldLink RX4 64 "RosterPayModel" "workers" "I", Cond.methodLink RL 104 yL_setRank, Cond.static yL_setRank]
def wsL_law0_r11 : List Cond := [Cond.codeWith yL_setRank cL_setRank 5 (some .int) [(0, 10, 13, 25), (0, 10, 17, 13)], Cond.methodLink RL 34 yX3_setRank, Cond.instanceMethod yX3_setRank, Cond.selects RX3 yX3_setRank yX3_setRank, Cond.code yX3_setRank cX3_setRank 5 (some .int), Cond.fieldLink RX3 86 "RosterPay$Worker" "rank" "I", Cond.methodLink RX3 82 yX3_findWorker, Cond.instanceMethod yX3_findWorker, Cond.selects RX3 yX3_findWorker yX3_findWorker, Cond.code yX3_findWorker cX3_findWorker 2 (some (.object "RosterPay$Worker")), Cond.classLink RX3 77 "RosterPay$Worker", Cond.methodLink RL 106 yX4_setRank, Cond.instanceMethod yX4_setRank, Cond.selects RX4 yX4_setRank yX4_setRank, Cond.code yX4_setRank cX4_setRank 4 (some .int), Cond.methodLink RX4 70 yX4_isWorker, Cond.instanceMethod yX4_isWorker, Cond.selects RX4 yX4_isWorker yX4_isWorker, Cond.code yX4_isWorker cX4_isWorker 2 (some .boolean), Cond.methodLink RL 107 yL_addShift, Cond.static yL_addShift, Cond.codeWith yL_addShift cL_addShift 7 (some .int) [(0, 14, 17, 25), (0, 14, 21, 13), (0, 14, 25, 19)], Cond.methodLink RL 37 yX3_addShift, Cond.instanceMethod yX3_addShift]
def wsL_law0_r12 : List Cond := [Cond.selects RX3 yX3_addShift yX3_addShift, Cond.code yX3_addShift cX3_addShift 8 (some .int), Cond.classLink RX3 96 RX1, Cond.instantiable RX1 5, Cond.initialized RX1, Cond.methodLink RX3 90 yX3_overlapsAnother, Cond.instanceMethod yX3_overlapsAnother, Cond.selects RX3 yX3_overlapsAnother yX3_overlapsAnother, Cond.code yX3_overlapsAnother cX3_overlapsAnother 4 (some .boolean), Cond.methodLink RX3 204 yX3_workedBetween, Cond.instanceMethod yX3_workedBetween, Cond.selects RX3 yX3_workedBetween yX3_workedBetween, Cond.code yX3_workedBetween cX3_workedBetween 7 (some .int), Cond.classLink RX3 96 "RosterPay$Shift", Cond.fieldLink RX3 148 "RosterPay$Shift" "worker" "LRosterPay$Worker;", Cond.fieldLink RX3 113 "RosterPay$Shift" "isCancelled" "Z", Cond.methodLink RX3 207 yX1_ownBetween, Cond.instanceMethod yX1_ownBetween, Cond.selects RX1 yX1_ownBetween yX1_ownBetween, Cond.code yX1_ownBetween cX1_ownBetween 3 (some .int), Cond.fieldLink RX1 15 "RosterPay$Shift" "start" "I", Cond.fieldLink RX1 19 "RosterPay$Shift" "quarters" "I", Cond.methodLink RX1 39 Lib.Math.min.name, Cond.methodLink RX1 29 Lib.Math.max.name]
def wsL_law0_r13 : List Cond := [Cond.methodLink RX3 98 yX1_init, Cond.instanceMethod yX1_init, Cond.code yX1_init cX1_init 4 none, Cond.methodLink RX1 3 objectInit, Cond.fieldLink RX1 9 "RosterPay$Shift" "worker" "LRosterPay$Worker;", Cond.fieldLink RX1 22 "RosterPay$Shift" "breaksTaken" "I", Cond.fieldLink RX1 25 "RosterPay$Shift" "isCancelled" "Z", Cond.methodLink RL 110 yX4_addShift, Cond.instanceMethod yX4_addShift, Cond.selects RX4 yX4_addShift yX4_addShift, Cond.code yX4_addShift cX4_addShift 9 (some .int), Cond.fieldLink RX4 67 "RosterPayModel" "shifts" "I", Cond.methodLink RL 111 yL_cancel, Cond.static yL_cancel, Cond.codeWith yL_cancel cL_cancel 4 (some .int) [(0, 9, 12, 25), (0, 9, 15, 19)], Cond.methodLink RL 41 yX3_cancel, Cond.instanceMethod yX3_cancel, Cond.selects RX3 yX3_cancel yX3_cancel, Cond.code yX3_cancel cX3_cancel 4 (some .int), Cond.methodLink RX3 101 yX3_findShift, Cond.instanceMethod yX3_findShift, Cond.selects RX3 yX3_findShift yX3_findShift, Cond.code yX3_findShift cX3_findShift 2 (some (.object "RosterPay$Shift")), Cond.methodLink RX3 105 yX3_checkNotCancelled]
def wsL_law0_r14 : List Cond := [Cond.static yX3_checkNotCancelled, Cond.code yX3_checkNotCancelled cX3_checkNotCancelled 1 none, Cond.methodLink RX3 109 yX3_payFor, Cond.instanceMethod yX3_payFor, Cond.selects RX3 yX3_payFor yX3_payFor, Cond.code yX3_payFor cX3_payFor 5 (some .int), Cond.methodLink RX3 198 yX3_baseOf, Cond.instanceMethod yX3_baseOf, Cond.selects RX3 yX3_baseOf yX3_baseOf, Cond.code yX3_baseOf cX3_baseOf 2 (some .int), Cond.methodLink RX3 137 yX1_breaksMissed, Cond.instanceMethod yX1_breaksMissed, Cond.selects RX1 yX1_breaksMissed yX1_breaksMissed, Cond.code yX1_breaksMissed cX1_breaksMissed 1 (some .int), Cond.methodLink RX1 35 yX1_breaksOwed, Cond.instanceMethod yX1_breaksOwed, Cond.selects RX1 yX1_breaksOwed yX1_breaksOwed, Cond.code yX1_breaksOwed cX1_breaksOwed 1 (some .int), Cond.methodLink RX3 119 yX1_paidLength, Cond.instanceMethod yX1_paidLength, Cond.selects RX1 yX1_paidLength yX1_paidLength, Cond.code yX1_paidLength cX1_paidLength 1 (some .int), Cond.methodLink RX3 126 yX3_percentOf, Cond.instanceMethod yX3_percentOf]
def wsL_law0_r15 : List Cond := [Cond.selects RX3 yX3_percentOf yX3_percentOf, Cond.code yX3_percentOf cX3_percentOf 4 (some .int), Cond.fieldLink RX3 191 "RosterPay$Rule" "percent" "I", Cond.methodLink RX3 130 yX3_decidingRule, Cond.instanceMethod yX3_decidingRule, Cond.selects RX3 yX3_decidingRule yX3_decidingRule, Cond.code yX3_decidingRule cX3_decidingRule 11 (some (.object "RosterPay$Rule")), Cond.methodLink RX3 144 yX1_dayOf, Cond.instanceMethod yX1_dayOf, Cond.selects RX1 yX1_dayOf yX1_dayOf, Cond.code yX1_dayOf cX1_dayOf 2 (some .int), Cond.methodLink RX3 181 yX1_quarterOfDay, Cond.instanceMethod yX1_quarterOfDay, Cond.selects RX1 yX1_quarterOfDay yX1_quarterOfDay, Cond.code yX1_quarterOfDay cX1_quarterOfDay 2 (some .int), Cond.methodLink RX3 184 yX3_isHoliday, Cond.instanceMethod yX3_isHoliday, Cond.selects RX3 yX3_isHoliday yX3_isHoliday, Cond.code yX3_isHoliday cX3_isHoliday 2 (some .boolean), Cond.methodLink RX3 188 yX3_overtimePercent, Cond.static yX3_overtimePercent, Cond.code yX3_overtimePercent cX3_overtimePercent 1 (some .int), Cond.methodLink RX3 194 yX0_appliesTo, Cond.instanceMethod yX0_appliesTo]
def wsL_law0_r16 : List Cond := [Cond.selects RX0 yX0_appliesTo yX0_appliesTo, Cond.code yX0_appliesTo cX0_appliesTo 5 (some .boolean), Cond.methodLink RX0 34 yX0_hasBit, Cond.static yX0_hasBit, Cond.code yX0_hasBit cX0_hasBit 2 (some .boolean), Cond.methodLink RX0 38 yX0_isForDay, Cond.instanceMethod yX0_isForDay, Cond.selects RX0 yX0_isForDay yX0_isForDay, Cond.code yX0_isForDay cX0_isForDay 3 (some .boolean), Cond.methodLink RX3 201 yX3_amount, Cond.static yX3_amount, Cond.code yX3_amount cX3_amount 2 (some .int), Cond.methodLink RL 113 yX4_cancel, Cond.instanceMethod yX4_cancel, Cond.selects RX4 yX4_cancel yX4_cancel, Cond.code yX4_cancel cX4_cancel 3 (some .int), Cond.methodLink RX4 74 yX4_isShift, Cond.instanceMethod yX4_isShift, Cond.selects RX4 yX4_isShift yX4_isShift, Cond.code yX4_isShift cX4_isShift 2 (some .boolean), Cond.methodLink RX4 77 yX4_payed, Cond.instanceMethod yX4_payed, Cond.selects RX4 yX4_payed yX4_payed, Cond.code yX4_payed cX4_payed 4 (some .int)]
def wsL_law0_r17 : List Cond := [Cond.methodLink RX4 91 yX4_lacks, Cond.instanceMethod yX4_lacks, Cond.selects RX4 yX4_lacks yX4_lacks, Cond.code yX4_lacks cX4_lacks 3 (some .int), Cond.methodLink RX4 94 yX4_paid, Cond.instanceMethod yX4_paid, Cond.selects RX4 yX4_paid yX4_paid, Cond.code yX4_paid cX4_paid 2 (some .int), Cond.methodLink RX4 97 yX4_amount, Cond.instanceMethod yX4_amount, Cond.selects RX4 yX4_amount yX4_amount, Cond.code yX4_amount cX4_amount 3 (some .int), Cond.methodLink RX4 87 yX4_percented, Cond.instanceMethod yX4_percented, Cond.selects RX4 yX4_percented yX4_percented, Cond.code yX4_percented cX4_percented 6 (some .int), Cond.methodLink RX4 81 yX4_overtime, Cond.static yX4_overtime, Cond.code yX4_overtime cX4_overtime 1 (some .int), Cond.methodLink RX4 84 yX4_applies, Cond.instanceMethod yX4_applies, Cond.selects RX4 yX4_applies yX4_applies, Cond.code yX4_applies cX4_applies 7 (some .boolean), Cond.methodLink RL 114 yL_takeBreaks]
def wsL_law0_r18 : List Cond := [Cond.static yL_takeBreaks, Cond.codeWith yL_takeBreaks cL_takeBreaks 5 (some .int) [(0, 10, 13, 25), (0, 10, 17, 13), (0, 10, 21, 19)], Cond.methodLink RL 44 yX3_takeBreaks, Cond.instanceMethod yX3_takeBreaks, Cond.selects RX3 yX3_takeBreaks yX3_takeBreaks, Cond.code yX3_takeBreaks cX3_takeBreaks 5 (some .int), Cond.fieldLink RX3 116 "RosterPay$Shift" "breaksTaken" "I", Cond.methodLink RL 116 yX4_takeBreaks, Cond.instanceMethod yX4_takeBreaks, Cond.selects RX4 yX4_takeBreaks yX4_takeBreaks, Cond.code yX4_takeBreaks cX4_takeBreaks 4 (some .int), Cond.methodLink RL 117 yX3_shifts, Cond.instanceMethod yX3_shifts, Cond.selects RX3 yX3_shifts yX3_shifts, Cond.code yX3_shifts cX3_shifts 1 (some .int), Cond.methodLink RL 120 yX4_shifts, Cond.instanceMethod yX4_shifts, Cond.selects RX4 yX4_shifts yX4_shifts, Cond.code yX4_shifts cX4_shifts 1 (some .int), Cond.methodLink RL 121 yL_paidQuarters, Cond.static yL_paidQuarters, Cond.codeWith yL_paidQuarters cL_paidQuarters 4 (some .int) [(0, 9, 12, 25)], Cond.methodLink RL 47 yX3_paidQuarters, Cond.instanceMethod yX3_paidQuarters]
def wsL_law0_r19 : List Cond := [Cond.selects RX3 yX3_paidQuarters yX3_paidQuarters, Cond.code yX3_paidQuarters cX3_paidQuarters 2 (some .int), Cond.methodLink RL 123 yX4_paidQuarters, Cond.instanceMethod yX4_paidQuarters, Cond.selects RX4 yX4_paidQuarters yX4_paidQuarters, Cond.code yX4_paidQuarters cX4_paidQuarters 2 (some .int), Cond.methodLink RL 124 yL_percentAt, Cond.static yL_percentAt, Cond.codeWith yL_percentAt cL_percentAt 5 (some .int) [(0, 10, 13, 25)], Cond.methodLink RL 50 yX3_percentAt, Cond.instanceMethod yX3_percentAt, Cond.selects RX3 yX3_percentAt yX3_percentAt, Cond.code yX3_percentAt cX3_percentAt 4 (some .int), Cond.methodLink RX3 122 yX3_checkPaidQuarter, Cond.static yX3_checkPaidQuarter, Cond.code yX3_checkPaidQuarter cX3_checkPaidQuarter 2 none, Cond.methodLink RL 126 yX4_percentAt, Cond.instanceMethod yX4_percentAt, Cond.selects RX4 yX4_percentAt yX4_percentAt, Cond.code yX4_percentAt cX4_percentAt 3 (some .int), Cond.methodLink RX4 100 yX4_isQuarter, Cond.instanceMethod yX4_isQuarter, Cond.selects RX4 yX4_isQuarter yX4_isQuarter, Cond.code yX4_isQuarter cX4_isQuarter 4 (some .boolean)]
def wsL_law0_r20 : List Cond := [Cond.methodLink RL 127 yL_reasonAt, Cond.static yL_reasonAt, Cond.codeWith yL_reasonAt cL_reasonAt 5 (some .int) [(0, 10, 13, 25)], Cond.methodLink RL 53 yX3_reasonAt, Cond.instanceMethod yX3_reasonAt, Cond.selects RX3 yX3_reasonAt yX3_reasonAt, Cond.code yX3_reasonAt cX3_reasonAt 5 (some .int), Cond.fieldLink RX3 134 "RosterPay$Rule" "number" "I", Cond.methodLink RL 129 yX4_reasonAt, Cond.instanceMethod yX4_reasonAt, Cond.selects RX4 yX4_reasonAt yX4_reasonAt, Cond.code yX4_reasonAt cX4_reasonAt 3 (some .int), Cond.methodLink RX4 104 yX4_reasoned, Cond.instanceMethod yX4_reasoned, Cond.selects RX4 yX4_reasoned yX4_reasoned, Cond.code yX4_reasoned cX4_reasoned 5 (some .int), Cond.methodLink RL 130 yL_missed, Cond.static yL_missed, Cond.codeWith yL_missed cL_missed 4 (some .int) [(0, 9, 12, 25)], Cond.methodLink RL 56 yX3_missed, Cond.instanceMethod yX3_missed, Cond.selects RX3 yX3_missed yX3_missed, Cond.code yX3_missed cX3_missed 2 (some .int), Cond.methodLink RL 132 yX4_missed]
def wsL_law0_r21 : List Cond := [Cond.instanceMethod yX4_missed, Cond.selects RX4 yX4_missed yX4_missed, Cond.code yX4_missed cX4_missed 2 (some .int), Cond.methodLink RL 133 yL_pay, Cond.static yL_pay, Cond.codeWith yL_pay cL_pay 4 (some .int) [(0, 9, 12, 25)], Cond.methodLink RL 59 yX3_pay, Cond.instanceMethod yX3_pay, Cond.selects RX3 yX3_pay yX3_pay, Cond.code yX3_pay cX3_pay 2 (some .int), Cond.methodLink RL 135 yX4_pay, Cond.instanceMethod yX4_pay, Cond.selects RX4 yX4_pay yX4_pay, Cond.code yX4_pay cX4_pay 2 (some .int), Cond.methodLink RL 136 yL_payOf, Cond.static yL_payOf, Cond.codeWith yL_payOf cL_payOf 6 (some .int) [(0, 12, 15, 25), (0, 12, 19, 13)], Cond.methodLink RL 62 yX3_payOf, Cond.instanceMethod yX3_payOf, Cond.selects RX3 yX3_payOf yX3_payOf, Cond.code yX3_payOf cX3_payOf 9 (some .int), Cond.methodLink RL 139 yX4_payOf, Cond.instanceMethod yX4_payOf, Cond.selects RX4 yX4_payOf yX4_payOf]
def wsL_law0_r22 : List Cond := [Cond.code yX4_payOf cX4_payOf 6 (some .int), Cond.methodLink RL 140 yL_paidBy, Cond.static yL_paidBy, Cond.codeWith yL_paidBy cL_paidBy 4 (some .int) [(0, 9, 12, 25)], Cond.methodLink RL 66 yX3_paidBy, Cond.instanceMethod yX3_paidBy, Cond.selects RX3 yX3_paidBy yX3_paidBy, Cond.code yX3_paidBy cX3_paidBy 5 (some .int), Cond.methodLink RX3 152 yX3_payByRule, Cond.instanceMethod yX3_payByRule, Cond.selects RX3 yX3_payByRule yX3_payByRule, Cond.code yX3_payByRule cX3_payByRule 7 (some .int), Cond.methodLink RL 142 yX4_paidBy, Cond.instanceMethod yX4_paidBy, Cond.selects RX4 yX4_paidBy yX4_paidBy, Cond.code yX4_paidBy cX4_paidBy 5 (some .int), Cond.methodLink RL 143 yL_worked, Cond.static yL_worked, Cond.codeWith yL_worked cL_worked 5 (some .int) [(0, 10, 13, 25), (0, 10, 17, 13)], Cond.methodLink RL 69 yX3_worked, Cond.instanceMethod yX3_worked, Cond.selects RX3 yX3_worked yX3_worked, Cond.code yX3_worked cX3_worked 4 (some .int), Cond.methodLink RX3 156 yX3_workedInWeeks]
def wsL_law0_r23 : List Cond := [Cond.instanceMethod yX3_workedInWeeks, Cond.selects RX3 yX3_workedInWeeks yX3_workedInWeeks, Cond.code yX3_workedInWeeks cX3_workedInWeeks 4 (some .int), Cond.methodLink RL 145 yX4_worked, Cond.instanceMethod yX4_worked, Cond.selects RX4 yX4_worked yX4_worked, Cond.code yX4_worked cX4_worked 3 (some .int), Cond.methodLink RX4 107 yX4_hours, Cond.instanceMethod yX4_hours, Cond.selects RX4 yX4_hours yX4_hours, Cond.code yX4_hours cX4_hours 10 (some .int), Cond.methodLink RL 146 yL_excess, Cond.static yL_excess, Cond.codeWith yL_excess cL_excess 5 (some .int) [(0, 10, 13, 25), (0, 10, 17, 13)], Cond.methodLink RL 72 yX3_excess, Cond.instanceMethod yX3_excess, Cond.selects RX3 yX3_excess yX3_excess, Cond.code yX3_excess cX3_excess 5 (some .int), Cond.methodLink RX3 160 Lib.Math.max.name, Cond.methodLink RL 148 yX4_excess, Cond.instanceMethod yX4_excess, Cond.selects RX4 yX4_excess yX4_excess, Cond.code yX4_excess cX4_excess 4 (some .int)]
def wsL_law0 : List Cond := (wsL_law0_r1 ++ (wsL_law0_r2 ++ (wsL_law0_r3 ++ (wsL_law0_r4 ++ (wsL_law0_r5 ++ (wsL_law0_r6 ++ (wsL_law0_r7 ++ (wsL_law0_r8 ++ (wsL_law0_r9 ++ (wsL_law0_r10 ++ (wsL_law0_r11 ++ (wsL_law0_r12 ++ (wsL_law0_r13 ++ (wsL_law0_r14 ++ (wsL_law0_r15 ++ (wsL_law0_r16 ++ (wsL_law0_r17 ++ (wsL_law0_r18 ++ (wsL_law0_r19 ++ (wsL_law0_r20 ++ (wsL_law0_r21 ++ (wsL_law0_r22 ++ wsL_law0_r23)))))))))))))))))))))) ++ wsX30 ++ wsX40 ++ wsJx4a65c0 ++ wsX00 ++ wsX20 ++ wsX10 ++ ([] : List Cond)
def wsL_law : List Cond := wsL_law0 ++ (vx_atS RX3 40 "java/lang/IllegalArgumentException" ["java/lang/RuntimeException", "java/lang/Exception"]).filter goodWord ++ (vx_atS RX3 55 "java/lang/IllegalStateException" ["java/lang/RuntimeException", "java/lang/Exception"]).filter goodWord ++ (vx_atS RX3 174 "java/lang/IndexOutOfBoundsException" ["java/lang/RuntimeException", "java/lang/Exception"]).filter goodWord
end
section
set_option maxRecDepth 100000 in
theorem kk_wsL_law0_r1 : ∀ w ∈ wsL_law0_r1, w ∈ lw_tbl := by decide +kernel
set_option maxRecDepth 100000 in
theorem kk_wsL_law0_r2 : ∀ w ∈ wsL_law0_r2, w ∈ lw_tbl := by decide +kernel
set_option maxRecDepth 100000 in
theorem kk_wsL_law0_r3 : ∀ w ∈ wsL_law0_r3, w ∈ lw_tbl := by decide +kernel
set_option maxRecDepth 100000 in
theorem kk_wsL_law0_r4 : ∀ w ∈ wsL_law0_r4, w ∈ lw_tbl := by decide +kernel
set_option maxRecDepth 100000 in
theorem kk_wsL_law0_r5 : ∀ w ∈ wsL_law0_r5, w ∈ lw_tbl := by decide +kernel
set_option maxRecDepth 100000 in
theorem kk_wsL_law0_r6 : ∀ w ∈ wsL_law0_r6, w ∈ lw_tbl := by decide +kernel
set_option maxRecDepth 100000 in
theorem kk_wsL_law0_r7 : ∀ w ∈ wsL_law0_r7, w ∈ lw_tbl := by decide +kernel
set_option maxRecDepth 100000 in
theorem kk_wsL_law0_r8 : ∀ w ∈ wsL_law0_r8, w ∈ lw_tbl := by decide +kernel
set_option maxRecDepth 100000 in
theorem kk_wsL_law0_r9 : ∀ w ∈ wsL_law0_r9, w ∈ lw_tbl := by decide +kernel
set_option maxRecDepth 100000 in
theorem kk_wsL_law0_r10 : ∀ w ∈ wsL_law0_r10, w ∈ lw_tbl := by decide +kernel
set_option maxRecDepth 100000 in
theorem kk_wsL_law0_r11 : ∀ w ∈ wsL_law0_r11, w ∈ lw_tbl := by decide +kernel
set_option maxRecDepth 100000 in
theorem kk_wsL_law0_r12 : ∀ w ∈ wsL_law0_r12, w ∈ lw_tbl := by decide +kernel
set_option maxRecDepth 100000 in
theorem kk_wsL_law0_r13 : ∀ w ∈ wsL_law0_r13, w ∈ lw_tbl := by decide +kernel
set_option maxRecDepth 100000 in
theorem kk_wsL_law0_r14 : ∀ w ∈ wsL_law0_r14, w ∈ lw_tbl := by decide +kernel
set_option maxRecDepth 100000 in
theorem kk_wsL_law0_r15 : ∀ w ∈ wsL_law0_r15, w ∈ lw_tbl := by decide +kernel
set_option maxRecDepth 100000 in
theorem kk_wsL_law0_r16 : ∀ w ∈ wsL_law0_r16, w ∈ lw_tbl := by decide +kernel
set_option maxRecDepth 100000 in
theorem kk_wsL_law0_r17 : ∀ w ∈ wsL_law0_r17, w ∈ lw_tbl := by decide +kernel
set_option maxRecDepth 100000 in
theorem kk_wsL_law0_r18 : ∀ w ∈ wsL_law0_r18, w ∈ lw_tbl := by decide +kernel
set_option maxRecDepth 100000 in
theorem kk_wsL_law0_r19 : ∀ w ∈ wsL_law0_r19, w ∈ lw_tbl := by decide +kernel
set_option maxRecDepth 100000 in
theorem kk_wsL_law0_r20 : ∀ w ∈ wsL_law0_r20, w ∈ lw_tbl := by decide +kernel
set_option maxRecDepth 100000 in
theorem kk_wsL_law0_r21 : ∀ w ∈ wsL_law0_r21, w ∈ lw_tbl := by decide +kernel
set_option maxRecDepth 100000 in
theorem kk_wsL_law0_r22 : ∀ w ∈ wsL_law0_r22, w ∈ lw_tbl := by decide +kernel
set_option maxRecDepth 100000 in
theorem kk_wsL_law0_r23 : ∀ w ∈ wsL_law0_r23, w ∈ lw_tbl := by decide +kernel
set_option maxRecDepth 100000 in
theorem kk_wsX30 : ∀ w ∈ wsX30, w ∈ lw_tbl := by decide +kernel
set_option maxRecDepth 100000 in
theorem kk_wsX40 : ∀ w ∈ wsX40, w ∈ lw_tbl := by decide +kernel
set_option maxRecDepth 100000 in
theorem kk_wsJx4a65c0 : ∀ w ∈ wsJx4a65c0, w ∈ lw_tbl := by decide +kernel
set_option maxRecDepth 100000 in
theorem kk_wsX00 : ∀ w ∈ wsX00, w ∈ lw_tbl := by decide +kernel
set_option maxRecDepth 100000 in
theorem kk_wsX20 : ∀ w ∈ wsX20, w ∈ lw_tbl := by decide +kernel
set_option maxRecDepth 100000 in
theorem kk_wsX10 : ∀ w ∈ wsX10, w ∈ lw_tbl := by decide +kernel
theorem wsL_law_in0 : ∀ w ∈ wsL_law0, w ∈ lw_tbl := List.forall_mem_append.mpr ⟨(List.forall_mem_append.mpr ⟨(List.forall_mem_append.mpr ⟨(List.forall_mem_append.mpr ⟨(List.forall_mem_append.mpr ⟨(List.forall_mem_append.mpr ⟨(List.forall_mem_append.mpr ⟨(List.forall_mem_append.mpr ⟨kk_wsL_law0_r1, (List.forall_mem_append.mpr ⟨kk_wsL_law0_r2, (List.forall_mem_append.mpr ⟨kk_wsL_law0_r3, (List.forall_mem_append.mpr ⟨kk_wsL_law0_r4, (List.forall_mem_append.mpr ⟨kk_wsL_law0_r5, (List.forall_mem_append.mpr ⟨kk_wsL_law0_r6, (List.forall_mem_append.mpr ⟨kk_wsL_law0_r7, (List.forall_mem_append.mpr ⟨kk_wsL_law0_r8, (List.forall_mem_append.mpr ⟨kk_wsL_law0_r9, (List.forall_mem_append.mpr ⟨kk_wsL_law0_r10, (List.forall_mem_append.mpr ⟨kk_wsL_law0_r11, (List.forall_mem_append.mpr ⟨kk_wsL_law0_r12, (List.forall_mem_append.mpr ⟨kk_wsL_law0_r13, (List.forall_mem_append.mpr ⟨kk_wsL_law0_r14, (List.forall_mem_append.mpr ⟨kk_wsL_law0_r15, (List.forall_mem_append.mpr ⟨kk_wsL_law0_r16, (List.forall_mem_append.mpr ⟨kk_wsL_law0_r17, (List.forall_mem_append.mpr ⟨kk_wsL_law0_r18, (List.forall_mem_append.mpr ⟨kk_wsL_law0_r19, (List.forall_mem_append.mpr ⟨kk_wsL_law0_r20, (List.forall_mem_append.mpr ⟨kk_wsL_law0_r21, (List.forall_mem_append.mpr ⟨kk_wsL_law0_r22, kk_wsL_law0_r23⟩)⟩)⟩)⟩)⟩)⟩)⟩)⟩)⟩)⟩)⟩)⟩)⟩)⟩)⟩)⟩)⟩)⟩)⟩)⟩)⟩)⟩), kk_wsX30⟩), kk_wsX40⟩), kk_wsJx4a65c0⟩), kk_wsX00⟩), kk_wsX20⟩), kk_wsX10⟩), fun _ h => absurd h List.not_mem_nil⟩
theorem wsL_law_x0 : ∀ w ∈ (vx_atS RX3 40 "java/lang/IllegalArgumentException" ["java/lang/RuntimeException", "java/lang/Exception"]).filter goodWord, w ∈ lw_tbl := by decide +kernel
theorem wsL_law_x1 : ∀ w ∈ (vx_atS RX3 55 "java/lang/IllegalStateException" ["java/lang/RuntimeException", "java/lang/Exception"]).filter goodWord, w ∈ lw_tbl := by decide +kernel
theorem wsL_law_x2 : ∀ w ∈ (vx_atS RX3 174 "java/lang/IndexOutOfBoundsException" ["java/lang/RuntimeException", "java/lang/Exception"]).filter goodWord, w ∈ lw_tbl := by decide +kernel
theorem wsL_law_in : ∀ w ∈ wsL_law, w ∈ lw_tbl := fun w h => (List.mem_append.mp h).elim (fun h => (List.mem_append.mp h).elim (fun h => (List.mem_append.mp h).elim (fun h => wsL_law_in0 w h) (fun h => wsL_law_x0 w h)) (fun h => wsL_law_x1 w h)) (fun h => wsL_law_x2 w h)
theorem inlX0 : ∀ w ∈ wsX00, w ∈ wsL_law := fun _ h => List.mem_append_left _ (List.mem_append_left _ (List.mem_append_left _ (List.mem_append_left _ (List.mem_append_left _ (List.mem_append_left _ (List.mem_append_right _ h))))))
theorem inX0 : ∀ w ∈ wsX00, w ∈ lw_tbl := fun w h => wsL_law_in w (inlX0 w h)
theorem inlX1 : ∀ w ∈ wsX10, w ∈ wsL_law := fun _ h => List.mem_append_left _ (List.mem_append_left _ (List.mem_append_left _ (List.mem_append_left _ (List.mem_append_right _ h))))
theorem inX1 : ∀ w ∈ wsX10, w ∈ lw_tbl := fun w h => wsL_law_in w (inlX1 w h)
theorem inlX2 : ∀ w ∈ wsX20, w ∈ wsL_law := fun _ h => List.mem_append_left _ (List.mem_append_left _ (List.mem_append_left _ (List.mem_append_left _ (List.mem_append_left _ (List.mem_append_right _ h)))))
theorem inX2 : ∀ w ∈ wsX20, w ∈ lw_tbl := fun w h => wsL_law_in w (inlX2 w h)
theorem inlX3 : ∀ w ∈ wsX30, w ∈ wsL_law := fun _ h => List.mem_append_left _ (List.mem_append_left _ (List.mem_append_left _ (List.mem_append_left _ (List.mem_append_left _ (List.mem_append_left _ (List.mem_append_left _ (List.mem_append_left _ (List.mem_append_left _ (List.mem_append_right _ h)))))))))
theorem inX3 : ∀ w ∈ wsX30, w ∈ lw_tbl := fun w h => wsL_law_in w (inlX3 w h)
theorem inlX4 : ∀ w ∈ wsX40, w ∈ wsL_law := fun _ h => List.mem_append_left _ (List.mem_append_left _ (List.mem_append_left _ (List.mem_append_left _ (List.mem_append_left _ (List.mem_append_left _ (List.mem_append_left _ (List.mem_append_left _ (List.mem_append_right _ h))))))))
theorem inX4 : ∀ w ∈ wsX40, w ∈ lw_tbl := fun w h => wsL_law_in w (inlX4 w h)
theorem inJx145de : ∀ w ∈ wsJx145de0, w ∈ lw_tbl := by decide +kernel
theorem inJx8e188 : ∀ w ∈ wsJx8e1880, w ∈ lw_tbl := by decide +kernel
theorem inJxab1ab : ∀ w ∈ wsJxab1ab0, w ∈ lw_tbl := by decide +kernel
theorem inJ9 : ∀ w ∈ wsJ90, w ∈ lw_tbl := by decide +kernel
theorem inJ0 : ∀ w ∈ wsJ00, w ∈ lw_tbl := by decide +kernel
theorem inJ10 : ∀ w ∈ wsJ100, w ∈ lw_tbl := by decide +kernel
theorem inJxa1e45 : ∀ w ∈ wsJxa1e450, w ∈ lw_tbl := by decide +kernel
theorem inJxc12de : ∀ w ∈ wsJxc12de0, w ∈ lw_tbl := by decide +kernel
theorem inlJx4a65c : ∀ w ∈ wsJx4a65c0, w ∈ wsL_law := fun _ h => List.mem_append_left _ (List.mem_append_left _ (List.mem_append_left _ (List.mem_append_left _ (List.mem_append_left _ (List.mem_append_left _ (List.mem_append_left _ (List.mem_append_right _ h)))))))
theorem inJx4a65c : ∀ w ∈ wsJx4a65c0, w ∈ lw_tbl := fun w h => wsL_law_in w (inlJx4a65c w h)
theorem inJ7 : ∀ w ∈ wsJ70, w ∈ lw_tbl := by decide +kernel
theorem inJx5ef63 : ∀ w ∈ wsJx5ef630, w ∈ lw_tbl := by decide +kernel
theorem inJxbd725 : ∀ w ∈ wsJxbd7250, w ∈ lw_tbl := by decide +kernel
theorem inJ15 : ∀ w ∈ wsJ150, w ∈ lw_tbl := by decide +kernel
theorem inJxf0a74 : ∀ w ∈ wsJxf0a740, w ∈ lw_tbl := by decide +kernel
theorem inJxa66e6 : ∀ w ∈ wsJxa66e60, w ∈ lw_tbl := by decide +kernel
theorem inJ8 : ∀ w ∈ wsJ80, w ∈ lw_tbl := by decide +kernel
theorem inJ3 : ∀ w ∈ wsJ30, w ∈ lw_tbl := by decide +kernel
end
section
theorem dX0_init_0 : decode cX0_init 0 = .ok (.aload_n 0, 1) := by decide +kernel
theorem dX0_init_1 : decode cX0_init 1 = .ok (.invokespecial 3, 3) := by decide +kernel
theorem dX0_init_4 : decode cX0_init 4 = .ok (.aload_n 0, 1) := by decide +kernel
theorem dX0_init_5 : decode cX0_init 5 = .ok (.iload_n 1, 1) := by decide +kernel
theorem dX0_init_6 : decode cX0_init 6 = .ok (.putfield 9, 3) := by decide +kernel
theorem dX0_init_9 : decode cX0_init 9 = .ok (.aload_n 0, 1) := by decide +kernel
theorem dX0_init_10 : decode cX0_init 10 = .ok (.iload_n 2, 1) := by decide +kernel
theorem dX0_init_11 : decode cX0_init 11 = .ok (.putfield 15, 3) := by decide +kernel
theorem dX0_init_14 : decode cX0_init 14 = .ok (.aload_n 0, 1) := by decide +kernel
theorem dX0_init_15 : decode cX0_init 15 = .ok (.iload_n 3, 1) := by decide +kernel
theorem dX0_init_16 : decode cX0_init 16 = .ok (.putfield 18, 3) := by decide +kernel
theorem dX0_init_19 : decode cX0_init 19 = .ok (.aload_n 0, 1) := by decide +kernel
theorem dX0_init_20 : decode cX0_init 20 = .ok (.iload 4, 2) := by decide +kernel
theorem dX0_init_22 : decode cX0_init 22 = .ok (.putfield 21, 3) := by decide +kernel
theorem dX0_init_25 : decode cX0_init 25 = .ok (.aload_n 0, 1) := by decide +kernel
theorem dX0_init_26 : decode cX0_init 26 = .ok (.iload 5, 2) := by decide +kernel
theorem dX0_init_28 : decode cX0_init 28 = .ok (.putfield 24, 3) := by decide +kernel
theorem dX0_init_31 : decode cX0_init 31 = .ok (.aload_n 0, 1) := by decide +kernel
theorem dX0_init_32 : decode cX0_init 32 = .ok (.iload 6, 2) := by decide +kernel
theorem dX0_init_34 : decode cX0_init 34 = .ok (.putfield 27, 3) := by decide +kernel
theorem dX0_init_37 : decode cX0_init 37 = .ok (.aload_n 0, 1) := by decide +kernel
theorem dX0_init_38 : decode cX0_init 38 = .ok (.iconst 1, 1) := by decide +kernel
theorem dX0_init_39 : decode cX0_init 39 = .ok (.putfield 30, 3) := by decide +kernel
theorem dX0_init_42 : decode cX0_init 42 = .ok (.return_, 1) := by decide +kernel
set_option maxRecDepth 20000 in
theorem ggX0_appliesTo_X0_hasBit : GoodIn wsX0_appliesTo wsX0_hasBit := goodIn_r _ [8] (by decide +kernel) (by decide +kernel)
set_option maxRecDepth 20000 in
theorem gX0_appliesTo_X0_hasBit : GoodIn wsX0_appliesTo (va_wsS RX0 34 yX0_hasBit wsX0_hasBit) := goodIn_app (goodIn_of _ (by decide +kernel)) ggX0_appliesTo_X0_hasBit
set_option maxRecDepth 20000 in
theorem ggX0_appliesTo_X0_isForDay : GoodIn wsX0_appliesTo wsX0_isForDay := goodIn_r _ [12, 13, 5, 6, 7, 8, 14, 15, 16, 17, 18, 19, 20] (by decide +kernel) (by decide +kernel)
set_option maxRecDepth 20000 in
theorem gX0_appliesTo_X0_isForDay : GoodIn wsX0_appliesTo (wsV RX0 38 RX0 yX0_isForDay wsX0_isForDay) := goodIn_app (goodIn_of _ (by decide +kernel)) ggX0_appliesTo_X0_isForDay
theorem dX0_appliesTo_0 : decode cX0_appliesTo 0 = .ok (.aload_n 0, 1) := by decide +kernel
theorem dX0_appliesTo_1 : decode cX0_appliesTo 1 = .ok (.getfield 30, 3) := by decide +kernel
theorem dX0_appliesTo_4 : decode cX0_appliesTo 4 = .ok (.ifCond .eq 44, 3) := by decide +kernel
theorem dX0_appliesTo_7 : decode cX0_appliesTo 7 = .ok (.aload_n 0, 1) := by decide +kernel
theorem dX0_appliesTo_8 : decode cX0_appliesTo 8 = .ok (.getfield 24, 3) := by decide +kernel
theorem dX0_appliesTo_11 : decode cX0_appliesTo 11 = .ok (.iload_n 1, 1) := by decide +kernel
theorem dX0_appliesTo_12 : decode cX0_appliesTo 12 = .ok (.invokestatic 34, 3) := by decide +kernel
theorem dX0_appliesTo_15 : decode cX0_appliesTo 15 = .ok (.ifCond .eq 33, 3) := by decide +kernel
theorem dX0_appliesTo_18 : decode cX0_appliesTo 18 = .ok (.iload_n 3, 1) := by decide +kernel
theorem dX0_appliesTo_19 : decode cX0_appliesTo 19 = .ok (.aload_n 0, 1) := by decide +kernel
theorem dX0_appliesTo_20 : decode cX0_appliesTo 20 = .ok (.getfield 18, 3) := by decide +kernel
theorem dX0_appliesTo_23 : decode cX0_appliesTo 23 = .ok (.if_icmp .lt 25, 3) := by decide +kernel
theorem dX0_appliesTo_26 : decode cX0_appliesTo 26 = .ok (.iload_n 3, 1) := by decide +kernel
theorem dX0_appliesTo_27 : decode cX0_appliesTo 27 = .ok (.aload_n 0, 1) := by decide +kernel
theorem dX0_appliesTo_28 : decode cX0_appliesTo 28 = .ok (.getfield 21, 3) := by decide +kernel
theorem dX0_appliesTo_31 : decode cX0_appliesTo 31 = .ok (.if_icmp .ge 17, 3) := by decide +kernel
theorem dX0_appliesTo_34 : decode cX0_appliesTo 34 = .ok (.aload_n 0, 1) := by decide +kernel
theorem dX0_appliesTo_35 : decode cX0_appliesTo 35 = .ok (.iload_n 2, 1) := by decide +kernel
theorem dX0_appliesTo_36 : decode cX0_appliesTo 36 = .ok (.iload 4, 2) := by decide +kernel
theorem dX0_appliesTo_38 : decode cX0_appliesTo 38 = .ok (.invokevirtual 38, 3) := by decide +kernel
theorem dX0_appliesTo_41 : decode cX0_appliesTo 41 = .ok (.ifCond .eq 7, 3) := by decide +kernel
theorem dX0_appliesTo_44 : decode cX0_appliesTo 44 = .ok (.iconst 1, 1) := by decide +kernel
theorem dX0_appliesTo_45 : decode cX0_appliesTo 45 = .ok (.goto 4, 3) := by decide +kernel
theorem dX0_appliesTo_48 : decode cX0_appliesTo 48 = .ok (.iconst 0, 1) := by decide +kernel
theorem dX0_appliesTo_49 : decode cX0_appliesTo 49 = .ok (.ireturn, 1) := by decide +kernel
set_option maxRecDepth 20000 in
theorem ggX0_isForDay_X0_hasBit : GoodIn wsX0_isForDay wsX0_hasBit := goodIn_r _ [5] (by decide +kernel) (by decide +kernel)
set_option maxRecDepth 20000 in
theorem gX0_isForDay_X0_hasBit : GoodIn wsX0_isForDay (va_wsS RX0 34 yX0_hasBit wsX0_hasBit) := goodIn_app (goodIn_of _ (by decide +kernel)) ggX0_isForDay_X0_hasBit
theorem dX0_isForDay_0 : decode cX0_isForDay 0 = .ok (.aload_n 0, 1) := by decide +kernel
theorem dX0_isForDay_1 : decode cX0_isForDay 1 = .ok (.getfield 15, 3) := by decide +kernel
theorem dX0_isForDay_4 : decode cX0_isForDay 4 = .ok (.ifCond .ne 7, 3) := by decide +kernel
theorem dX0_isForDay_7 : decode cX0_isForDay 7 = .ok (.iload_n 2, 1) := by decide +kernel
theorem dX0_isForDay_8 : decode cX0_isForDay 8 = .ok (.goto 14, 3) := by decide +kernel
theorem dX0_isForDay_11 : decode cX0_isForDay 11 = .ok (.aload_n 0, 1) := by decide +kernel
theorem dX0_isForDay_12 : decode cX0_isForDay 12 = .ok (.getfield 15, 3) := by decide +kernel
theorem dX0_isForDay_15 : decode cX0_isForDay 15 = .ok (.iload_n 1, 1) := by decide +kernel
theorem dX0_isForDay_16 : decode cX0_isForDay 16 = .ok (.bipush 7, 2) := by decide +kernel
theorem dX0_isForDay_18 : decode cX0_isForDay 18 = .ok (.irem, 1) := by decide +kernel
theorem dX0_isForDay_19 : decode cX0_isForDay 19 = .ok (.invokestatic 34, 3) := by decide +kernel
theorem dX0_isForDay_22 : decode cX0_isForDay 22 = .ok (.ireturn, 1) := by decide +kernel
theorem dX0_hasBit_0 : decode cX0_hasBit 0 = .ok (.iload_n 0, 1) := by decide +kernel
theorem dX0_hasBit_1 : decode cX0_hasBit 1 = .ok (.iload_n 1, 1) := by decide +kernel
theorem dX0_hasBit_2 : decode cX0_hasBit 2 = .ok (.ishr, 1) := by decide +kernel
theorem dX0_hasBit_3 : decode cX0_hasBit 3 = .ok (.iconst 1, 1) := by decide +kernel
theorem dX0_hasBit_4 : decode cX0_hasBit 4 = .ok (.iand, 1) := by decide +kernel
theorem dX0_hasBit_5 : decode cX0_hasBit 5 = .ok (.iconst 1, 1) := by decide +kernel
theorem dX0_hasBit_6 : decode cX0_hasBit 6 = .ok (.if_icmp .ne 7, 3) := by decide +kernel
theorem dX0_hasBit_9 : decode cX0_hasBit 9 = .ok (.iconst 1, 1) := by decide +kernel
theorem dX0_hasBit_10 : decode cX0_hasBit 10 = .ok (.goto 4, 3) := by decide +kernel
theorem dX0_hasBit_13 : decode cX0_hasBit 13 = .ok (.iconst 0, 1) := by decide +kernel
theorem dX0_hasBit_14 : decode cX0_hasBit 14 = .ok (.ireturn, 1) := by decide +kernel
theorem dX1_init_0 : decode cX1_init 0 = .ok (.aload_n 0, 1) := by decide +kernel
theorem dX1_init_1 : decode cX1_init 1 = .ok (.invokespecial 3, 3) := by decide +kernel
theorem dX1_init_4 : decode cX1_init 4 = .ok (.aload_n 0, 1) := by decide +kernel
theorem dX1_init_5 : decode cX1_init 5 = .ok (.aload_n 1, 1) := by decide +kernel
theorem dX1_init_6 : decode cX1_init 6 = .ok (.putfield 9, 3) := by decide +kernel
theorem dX1_init_9 : decode cX1_init 9 = .ok (.aload_n 0, 1) := by decide +kernel
theorem dX1_init_10 : decode cX1_init 10 = .ok (.iload_n 2, 1) := by decide +kernel
theorem dX1_init_11 : decode cX1_init 11 = .ok (.putfield 15, 3) := by decide +kernel
theorem dX1_init_14 : decode cX1_init 14 = .ok (.aload_n 0, 1) := by decide +kernel
theorem dX1_init_15 : decode cX1_init 15 = .ok (.iload_n 3, 1) := by decide +kernel
theorem dX1_init_16 : decode cX1_init 16 = .ok (.putfield 19, 3) := by decide +kernel
theorem dX1_init_19 : decode cX1_init 19 = .ok (.aload_n 0, 1) := by decide +kernel
theorem dX1_init_20 : decode cX1_init 20 = .ok (.iconst 0, 1) := by decide +kernel
theorem dX1_init_21 : decode cX1_init 21 = .ok (.putfield 22, 3) := by decide +kernel
theorem dX1_init_24 : decode cX1_init 24 = .ok (.aload_n 0, 1) := by decide +kernel
theorem dX1_init_25 : decode cX1_init 25 = .ok (.iconst 0, 1) := by decide +kernel
theorem dX1_init_26 : decode cX1_init 26 = .ok (.putfield 25, 3) := by decide +kernel
theorem dX1_init_29 : decode cX1_init 29 = .ok (.return_, 1) := by decide +kernel
theorem dX1_paidLength_0 : decode cX1_paidLength 0 = .ok (.aload_n 0, 1) := by decide +kernel
theorem dX1_paidLength_1 : decode cX1_paidLength 1 = .ok (.getfield 25, 3) := by decide +kernel
theorem dX1_paidLength_4 : decode cX1_paidLength 4 = .ok (.ifCond .eq 7, 3) := by decide +kernel
theorem dX1_paidLength_7 : decode cX1_paidLength 7 = .ok (.iconst 0, 1) := by decide +kernel
theorem dX1_paidLength_8 : decode cX1_paidLength 8 = .ok (.goto 12, 3) := by decide +kernel
theorem dX1_paidLength_11 : decode cX1_paidLength 11 = .ok (.aload_n 0, 1) := by decide +kernel
theorem dX1_paidLength_12 : decode cX1_paidLength 12 = .ok (.getfield 19, 3) := by decide +kernel
theorem dX1_paidLength_15 : decode cX1_paidLength 15 = .ok (.bipush 12, 2) := by decide +kernel
theorem dX1_paidLength_17 : decode cX1_paidLength 17 = .ok (.invokestatic 29, 3) := by decide +kernel
theorem dX1_paidLength_20 : decode cX1_paidLength 20 = .ok (.ireturn, 1) := by decide +kernel
theorem dX1_dayOf_0 : decode cX1_dayOf 0 = .ok (.aload_n 0, 1) := by decide +kernel
theorem dX1_dayOf_1 : decode cX1_dayOf 1 = .ok (.getfield 15, 3) := by decide +kernel
theorem dX1_dayOf_4 : decode cX1_dayOf 4 = .ok (.iload_n 1, 1) := by decide +kernel
theorem dX1_dayOf_5 : decode cX1_dayOf 5 = .ok (.iadd, 1) := by decide +kernel
theorem dX1_dayOf_6 : decode cX1_dayOf 6 = .ok (.bipush 96, 2) := by decide +kernel
theorem dX1_dayOf_8 : decode cX1_dayOf 8 = .ok (.idiv, 1) := by decide +kernel
theorem dX1_dayOf_9 : decode cX1_dayOf 9 = .ok (.ireturn, 1) := by decide +kernel
theorem dX1_quarterOfDay_0 : decode cX1_quarterOfDay 0 = .ok (.aload_n 0, 1) := by decide +kernel
theorem dX1_quarterOfDay_1 : decode cX1_quarterOfDay 1 = .ok (.getfield 15, 3) := by decide +kernel
theorem dX1_quarterOfDay_4 : decode cX1_quarterOfDay 4 = .ok (.iload_n 1, 1) := by decide +kernel
theorem dX1_quarterOfDay_5 : decode cX1_quarterOfDay 5 = .ok (.iadd, 1) := by decide +kernel
theorem dX1_quarterOfDay_6 : decode cX1_quarterOfDay 6 = .ok (.bipush 96, 2) := by decide +kernel
theorem dX1_quarterOfDay_8 : decode cX1_quarterOfDay 8 = .ok (.irem, 1) := by decide +kernel
theorem dX1_quarterOfDay_9 : decode cX1_quarterOfDay 9 = .ok (.ireturn, 1) := by decide +kernel
set_option maxRecDepth 20000 in
theorem ggX1_breaksMissed_X1_breaksOwed : GoodIn wsX1_breaksMissed wsX1_breaksOwed := goodIn_r _ [11, 12, 13, 14, 15, 16, 17] (by decide +kernel) (by decide +kernel)
set_option maxRecDepth 20000 in
theorem gX1_breaksMissed_X1_breaksOwed : GoodIn wsX1_breaksMissed (wsV RX1 35 RX1 yX1_breaksOwed wsX1_breaksOwed) := goodIn_app (goodIn_of _ (by decide +kernel)) ggX1_breaksMissed_X1_breaksOwed
theorem dX1_breaksMissed_0 : decode cX1_breaksMissed 0 = .ok (.aload_n 0, 1) := by decide +kernel
theorem dX1_breaksMissed_1 : decode cX1_breaksMissed 1 = .ok (.getfield 25, 3) := by decide +kernel
theorem dX1_breaksMissed_4 : decode cX1_breaksMissed 4 = .ok (.ifCond .eq 7, 3) := by decide +kernel
theorem dX1_breaksMissed_7 : decode cX1_breaksMissed 7 = .ok (.iconst 0, 1) := by decide +kernel
theorem dX1_breaksMissed_8 : decode cX1_breaksMissed 8 = .ok (.goto 16, 3) := by decide +kernel
theorem dX1_breaksMissed_11 : decode cX1_breaksMissed 11 = .ok (.aload_n 0, 1) := by decide +kernel
theorem dX1_breaksMissed_12 : decode cX1_breaksMissed 12 = .ok (.invokevirtual 35, 3) := by decide +kernel
theorem dX1_breaksMissed_15 : decode cX1_breaksMissed 15 = .ok (.aload_n 0, 1) := by decide +kernel
theorem dX1_breaksMissed_16 : decode cX1_breaksMissed 16 = .ok (.getfield 22, 3) := by decide +kernel
theorem dX1_breaksMissed_19 : decode cX1_breaksMissed 19 = .ok (.isub, 1) := by decide +kernel
theorem dX1_breaksMissed_20 : decode cX1_breaksMissed 20 = .ok (.iconst 0, 1) := by decide +kernel
theorem dX1_breaksMissed_21 : decode cX1_breaksMissed 21 = .ok (.invokestatic 29, 3) := by decide +kernel
theorem dX1_breaksMissed_24 : decode cX1_breaksMissed 24 = .ok (.ireturn, 1) := by decide +kernel
theorem dX1_breaksOwed_0 : decode cX1_breaksOwed 0 = .ok (.aload_n 0, 1) := by decide +kernel
theorem dX1_breaksOwed_1 : decode cX1_breaksOwed 1 = .ok (.getfield 19, 3) := by decide +kernel
theorem dX1_breaksOwed_4 : decode cX1_breaksOwed 4 = .ok (.bipush 40, 2) := by decide +kernel
theorem dX1_breaksOwed_6 : decode cX1_breaksOwed 6 = .ok (.if_icmp .lt 5, 3) := by decide +kernel
theorem dX1_breaksOwed_9 : decode cX1_breaksOwed 9 = .ok (.iconst 2, 1) := by decide +kernel
theorem dX1_breaksOwed_10 : decode cX1_breaksOwed 10 = .ok (.ireturn, 1) := by decide +kernel
theorem dX1_breaksOwed_11 : decode cX1_breaksOwed 11 = .ok (.aload_n 0, 1) := by decide +kernel
theorem dX1_breaksOwed_12 : decode cX1_breaksOwed 12 = .ok (.getfield 19, 3) := by decide +kernel
theorem dX1_breaksOwed_15 : decode cX1_breaksOwed 15 = .ok (.bipush 20, 2) := by decide +kernel
theorem dX1_breaksOwed_17 : decode cX1_breaksOwed 17 = .ok (.if_icmp .lt 7, 3) := by decide +kernel
theorem dX1_breaksOwed_20 : decode cX1_breaksOwed 20 = .ok (.iconst 1, 1) := by decide +kernel
theorem dX1_breaksOwed_21 : decode cX1_breaksOwed 21 = .ok (.goto 4, 3) := by decide +kernel
theorem dX1_breaksOwed_24 : decode cX1_breaksOwed 24 = .ok (.iconst 0, 1) := by decide +kernel
theorem dX1_breaksOwed_25 : decode cX1_breaksOwed 25 = .ok (.ireturn, 1) := by decide +kernel
theorem dX1_ownBetween_0 : decode cX1_ownBetween 0 = .ok (.aload_n 0, 1) := by decide +kernel
theorem dX1_ownBetween_1 : decode cX1_ownBetween 1 = .ok (.getfield 15, 3) := by decide +kernel
theorem dX1_ownBetween_4 : decode cX1_ownBetween 4 = .ok (.aload_n 0, 1) := by decide +kernel
theorem dX1_ownBetween_5 : decode cX1_ownBetween 5 = .ok (.getfield 19, 3) := by decide +kernel
theorem dX1_ownBetween_8 : decode cX1_ownBetween 8 = .ok (.iadd, 1) := by decide +kernel
theorem dX1_ownBetween_9 : decode cX1_ownBetween 9 = .ok (.iload_n 2, 1) := by decide +kernel
theorem dX1_ownBetween_10 : decode cX1_ownBetween 10 = .ok (.invokestatic 39, 3) := by decide +kernel
theorem dX1_ownBetween_13 : decode cX1_ownBetween 13 = .ok (.aload_n 0, 1) := by decide +kernel
theorem dX1_ownBetween_14 : decode cX1_ownBetween 14 = .ok (.getfield 15, 3) := by decide +kernel
theorem dX1_ownBetween_17 : decode cX1_ownBetween 17 = .ok (.iload_n 1, 1) := by decide +kernel
theorem dX1_ownBetween_18 : decode cX1_ownBetween 18 = .ok (.invokestatic 29, 3) := by decide +kernel
theorem dX1_ownBetween_21 : decode cX1_ownBetween 21 = .ok (.isub, 1) := by decide +kernel
theorem dX1_ownBetween_22 : decode cX1_ownBetween 22 = .ok (.iconst 0, 1) := by decide +kernel
theorem dX1_ownBetween_23 : decode cX1_ownBetween 23 = .ok (.invokestatic 29, 3) := by decide +kernel
theorem dX1_ownBetween_26 : decode cX1_ownBetween 26 = .ok (.ireturn, 1) := by decide +kernel
theorem dX2_init_0 : decode cX2_init 0 = .ok (.aload_n 0, 1) := by decide +kernel
theorem dX2_init_1 : decode cX2_init 1 = .ok (.invokespecial 1, 3) := by decide +kernel
theorem dX2_init_4 : decode cX2_init 4 = .ok (.aload_n 0, 1) := by decide +kernel
theorem dX2_init_5 : decode cX2_init 5 = .ok (.iload_n 1, 1) := by decide +kernel
theorem dX2_init_6 : decode cX2_init 6 = .ok (.putfield 7, 3) := by decide +kernel
theorem dX2_init_9 : decode cX2_init 9 = .ok (.return_, 1) := by decide +kernel
set_option maxRecDepth 20000 in
theorem ggX3_init_J7_fill_53178 : GoodIn wsX3_init wsJ7_fill_53178 := goodIn_r _ [17] (by decide +kernel) (by decide +kernel)
set_option maxRecDepth 20000 in
theorem gX3_init_J7_fill_53178 : GoodIn wsX3_init (va_wsS RX3 13 yJ7_fill_53178 wsJ7_fill_53178) := goodIn_app (goodIn_of _ (by decide +kernel)) ggX3_init_J7_fill_53178
set_option maxRecDepth 20000 in
theorem ggX3_init_Jx4a65c_init_da8c8 : GoodIn wsX3_init wsJx4a65c_init_da8c8 := goodIn_r _ [20, 21, 22, 23, 24, 25, 26, 27, 28, 29, 30, 31, 32, 2, 3, 38, 39, 40] (by decide +kernel) (by decide +kernel)
set_option maxRecDepth 20000 in
theorem gX3_init_Jx4a65c_init_da8c8 : GoodIn wsX3_init (wsJx4a65c_init_da8c8) := ggX3_init_Jx4a65c_init_da8c8
theorem dX3_init_0 : decode cX3_init 0 = .ok (.aload_n 0, 1) := by decide +kernel
theorem dX3_init_1 : decode cX3_init 1 = .ok (.invokespecial 3, 3) := by decide +kernel
theorem dX3_init_4 : decode cX3_init 4 = .ok (.aload_n 0, 1) := by decide +kernel
theorem dX3_init_5 : decode cX3_init 5 = .ok (.iconst 4, 1) := by decide +kernel
theorem dX3_init_6 : decode cX3_init 6 = .ok (.newarray .int, 2) := by decide +kernel
theorem dX3_init_8 : decode cX3_init 8 = .ok (.putfield 9, 3) := by decide +kernel
theorem dX3_init_11 : decode cX3_init 11 = .ok (.aload_n 0, 1) := by decide +kernel
theorem dX3_init_12 : decode cX3_init 12 = .ok (.getfield 9, 3) := by decide +kernel
theorem dX3_init_15 : decode cX3_init 15 = .ok (.sipush 500, 3) := by decide +kernel
theorem dX3_init_18 : decode cX3_init 18 = .ok (.invokestatic 13, 3) := by decide +kernel
theorem dX3_init_21 : decode cX3_init 21 = .ok (.aload_n 0, 1) := by decide +kernel
theorem dX3_init_22 : decode cX3_init 22 = .ok (.sipush 364, 3) := by decide +kernel
theorem dX3_init_25 : decode cX3_init 25 = .ok (.newarray .boolean, 2) := by decide +kernel
theorem dX3_init_27 : decode cX3_init 27 = .ok (.putfield 19, 3) := by decide +kernel
theorem dX3_init_30 : decode cX3_init 30 = .ok (.aload_n 0, 1) := by decide +kernel
theorem dX3_init_31 : decode cX3_init 31 = .ok (.new 23, 3) := by decide +kernel
theorem dX3_init_34 : decode cX3_init 34 = .ok (.dup, 1) := by decide +kernel
theorem dX3_init_35 : decode cX3_init 35 = .ok (.invokespecial 25, 3) := by decide +kernel
theorem dX3_init_38 : decode cX3_init 38 = .ok (.putfield 26, 3) := by decide +kernel
theorem dX3_init_41 : decode cX3_init 41 = .ok (.aload_n 0, 1) := by decide +kernel
theorem dX3_init_42 : decode cX3_init 42 = .ok (.new 23, 3) := by decide +kernel
theorem dX3_init_45 : decode cX3_init 45 = .ok (.dup, 1) := by decide +kernel
theorem dX3_init_46 : decode cX3_init 46 = .ok (.invokespecial 25, 3) := by decide +kernel
theorem dX3_init_49 : decode cX3_init 49 = .ok (.putfield 30, 3) := by decide +kernel
theorem dX3_init_52 : decode cX3_init 52 = .ok (.aload_n 0, 1) := by decide +kernel
theorem dX3_init_53 : decode cX3_init 53 = .ok (.new 23, 3) := by decide +kernel
theorem dX3_init_56 : decode cX3_init 56 = .ok (.dup, 1) := by decide +kernel
theorem dX3_init_57 : decode cX3_init 57 = .ok (.invokespecial 25, 3) := by decide +kernel
theorem dX3_init_60 : decode cX3_init 60 = .ok (.putfield 33, 3) := by decide +kernel
theorem dX3_init_63 : decode cX3_init 63 = .ok (.return_, 1) := by decide +kernel
set_option maxRecDepth 20000 in
theorem ggX3_setBase_X3_checkArgument : GoodIn wsX3_setBase wsX3_checkArgument := goodIn_ca (goodIn_r _ [7, 1, 2] (by decide +kernel) (by decide +kernel)) (goodIn_sub (fun _ h => List.mem_cons_of_mem _ (List.mem_append_right _ h)) (by decide +kernel))
set_option maxRecDepth 20000 in
theorem gX3_setBase_X3_checkArgument : GoodIn wsX3_setBase (va_wsS RX3 43 yX3_checkArgument wsX3_checkArgument) := goodIn_app (goodIn_of _ (by decide +kernel)) ggX3_setBase_X3_checkArgument
theorem dX3_setBase_0 : decode cX3_setBase 0 = .ok (.iload_n 1, 1) := by decide +kernel
theorem dX3_setBase_1 : decode cX3_setBase 1 = .ok (.ifCond .lt 12, 3) := by decide +kernel
theorem dX3_setBase_4 : decode cX3_setBase 4 = .ok (.iload_n 1, 1) := by decide +kernel
theorem dX3_setBase_5 : decode cX3_setBase 5 = .ok (.aload_n 0, 1) := by decide +kernel
theorem dX3_setBase_6 : decode cX3_setBase 6 = .ok (.getfield 9, 3) := by decide +kernel
theorem dX3_setBase_9 : decode cX3_setBase 9 = .ok (.arraylength, 1) := by decide +kernel
theorem dX3_setBase_10 : decode cX3_setBase 10 = .ok (.if_icmp .lt 13, 3) := by decide +kernel
theorem dX3_setBase_13 : decode cX3_setBase 13 = .ok (.new 36, 3) := by decide +kernel
theorem dX3_setBase_16 : decode cX3_setBase 16 = .ok (.dup, 1) := by decide +kernel
theorem dX3_setBase_17 : decode cX3_setBase 17 = .ok (.ldc 38, 2) := by decide +kernel
theorem dX3_setBase_19 : decode cX3_setBase 19 = .ok (.invokespecial 40, 3) := by decide +kernel
theorem dX3_setBase_22 : decode cX3_setBase 22 = .ok (.athrow, 1) := by decide +kernel
theorem dX3_setBase_23 : decode cX3_setBase 23 = .ok (.iload_n 2, 1) := by decide +kernel
theorem dX3_setBase_24 : decode cX3_setBase 24 = .ok (.iconst 1, 1) := by decide +kernel
theorem dX3_setBase_25 : decode cX3_setBase 25 = .ok (.sipush 10000, 3) := by decide +kernel
theorem dX3_setBase_28 : decode cX3_setBase 28 = .ok (.invokestatic 43, 3) := by decide +kernel
theorem dX3_setBase_31 : decode cX3_setBase 31 = .ok (.aload_n 0, 1) := by decide +kernel
theorem dX3_setBase_32 : decode cX3_setBase 32 = .ok (.getfield 9, 3) := by decide +kernel
theorem dX3_setBase_35 : decode cX3_setBase 35 = .ok (.iload_n 1, 1) := by decide +kernel
theorem dX3_setBase_36 : decode cX3_setBase 36 = .ok (.iaload, 1) := by decide +kernel
theorem dX3_setBase_37 : decode cX3_setBase 37 = .ok (.istore_n 3, 1) := by decide +kernel
theorem dX3_setBase_38 : decode cX3_setBase 38 = .ok (.aload_n 0, 1) := by decide +kernel
theorem dX3_setBase_39 : decode cX3_setBase 39 = .ok (.getfield 9, 3) := by decide +kernel
theorem dX3_setBase_42 : decode cX3_setBase 42 = .ok (.iload_n 1, 1) := by decide +kernel
theorem dX3_setBase_43 : decode cX3_setBase 43 = .ok (.iload_n 2, 1) := by decide +kernel
theorem dX3_setBase_44 : decode cX3_setBase 44 = .ok (.iastore, 1) := by decide +kernel
theorem dX3_setBase_45 : decode cX3_setBase 45 = .ok (.iload_n 3, 1) := by decide +kernel
theorem dX3_setBase_46 : decode cX3_setBase 46 = .ok (.ireturn, 1) := by decide +kernel
set_option maxRecDepth 20000 in
theorem ggX3_addRule_X3_checkArgument : GoodIn wsX3_addRule wsX3_checkArgument := goodIn_ca (goodIn_r _ [10, 11, 12] (by decide +kernel) (by decide +kernel)) (goodIn_sub (fun _ h => List.mem_cons_of_mem _ (List.mem_append_right _ h)) (by decide +kernel))
set_option maxRecDepth 20000 in
theorem gX3_addRule_X3_checkArgument : GoodIn wsX3_addRule (va_wsS RX3 43 yX3_checkArgument wsX3_checkArgument) := goodIn_app (goodIn_of _ (by decide +kernel)) ggX3_addRule_X3_checkArgument
set_option maxRecDepth 20000 in
theorem ggX3_addRule_Jx4a65c_size_8abf5 : GoodIn wsX3_addRule wsJx4a65c_size_8abf5 := goodIn_r _ [17, 18, 98, 99, 100] (by decide +kernel) (by decide +kernel)
set_option maxRecDepth 20000 in
theorem gX3_addRule_Jx4a65c_size_8abf5 : GoodIn wsX3_addRule (wsV RX3 47 RJx4a65c yJx4a65c_size_8abf5 wsJx4a65c_size_8abf5) := goodIn_app (goodIn_of _ (by decide +kernel)) ggX3_addRule_Jx4a65c_size_8abf5
set_option maxRecDepth 20000 in
theorem ggX3_addRule_X0_init : GoodIn wsX3_addRule wsX0_init := goodIn_r _ [21, 22, 23, 24, 25, 26, 27, 28, 29, 30, 31, 91, 92, 93, 94, 95, 96, 97] (by decide +kernel) (by decide +kernel)
set_option maxRecDepth 20000 in
theorem gX3_addRule_X0_init : GoodIn wsX3_addRule (wsX0_init) := ggX3_addRule_X0_init
set_option maxRecDepth 20000 in
theorem ggX3_addRule_Jx4a65c_add_9ea2d : GoodIn wsX3_addRule wsJx4a65c_add_9ea2d := goodIn_r _ [35, 36, 37, 38, 18, 39, 40, 41, 16, 42, 43, 44, 45, 46, 47, 48, 49, 50, 51, 52, 53, 54, 55, 56, 57, 58, 59, 60, 61, 62, 63, 64, 65, 66, 67, 68, 69, 70, 71, 72, 73, 74, 75, 76, 77, 78, 79, 80, 81, 82, 83, 84, 85, 98, 99, 100] (by decide +kernel) (by decide +kernel)
set_option maxRecDepth 20000 in
theorem gX3_addRule_Jx4a65c_add_9ea2d : GoodIn wsX3_addRule (wsV RX3 61 RJx4a65c yJx4a65c_add_9ea2d wsJx4a65c_add_9ea2d) := goodIn_app (goodIn_of _ (by decide +kernel)) ggX3_addRule_Jx4a65c_add_9ea2d
theorem dX3_addRule_0 : decode cX3_addRule 0 = .ok (.iload_n 1, 1) := by decide +kernel
theorem dX3_addRule_1 : decode cX3_addRule 1 = .ok (.iconst 0, 1) := by decide +kernel
theorem dX3_addRule_2 : decode cX3_addRule 2 = .ok (.bipush 127, 2) := by decide +kernel
theorem dX3_addRule_4 : decode cX3_addRule 4 = .ok (.invokestatic 43, 3) := by decide +kernel
theorem dX3_addRule_7 : decode cX3_addRule 7 = .ok (.iload_n 2, 1) := by decide +kernel
theorem dX3_addRule_8 : decode cX3_addRule 8 = .ok (.iconst 0, 1) := by decide +kernel
theorem dX3_addRule_9 : decode cX3_addRule 9 = .ok (.bipush 95, 2) := by decide +kernel
theorem dX3_addRule_11 : decode cX3_addRule 11 = .ok (.invokestatic 43, 3) := by decide +kernel
theorem dX3_addRule_14 : decode cX3_addRule 14 = .ok (.iload_n 3, 1) := by decide +kernel
theorem dX3_addRule_15 : decode cX3_addRule 15 = .ok (.iload_n 2, 1) := by decide +kernel
theorem dX3_addRule_16 : decode cX3_addRule 16 = .ok (.iconst 1, 1) := by decide +kernel
theorem dX3_addRule_17 : decode cX3_addRule 17 = .ok (.iadd, 1) := by decide +kernel
theorem dX3_addRule_18 : decode cX3_addRule 18 = .ok (.bipush 96, 2) := by decide +kernel
theorem dX3_addRule_20 : decode cX3_addRule 20 = .ok (.invokestatic 43, 3) := by decide +kernel
theorem dX3_addRule_23 : decode cX3_addRule 23 = .ok (.iload 4, 2) := by decide +kernel
theorem dX3_addRule_25 : decode cX3_addRule 25 = .ok (.iconst 1, 1) := by decide +kernel
theorem dX3_addRule_26 : decode cX3_addRule 26 = .ok (.bipush 15, 2) := by decide +kernel
theorem dX3_addRule_28 : decode cX3_addRule 28 = .ok (.invokestatic 43, 3) := by decide +kernel
theorem dX3_addRule_31 : decode cX3_addRule 31 = .ok (.iload 5, 2) := by decide +kernel
theorem dX3_addRule_33 : decode cX3_addRule 33 = .ok (.bipush 100, 2) := by decide +kernel
theorem dX3_addRule_35 : decode cX3_addRule 35 = .ok (.sipush 400, 3) := by decide +kernel
theorem dX3_addRule_38 : decode cX3_addRule 38 = .ok (.invokestatic 43, 3) := by decide +kernel
theorem dX3_addRule_41 : decode cX3_addRule 41 = .ok (.aload_n 0, 1) := by decide +kernel
theorem dX3_addRule_42 : decode cX3_addRule 42 = .ok (.getfield 26, 3) := by decide +kernel
theorem dX3_addRule_45 : decode cX3_addRule 45 = .ok (.invokevirtual 47, 3) := by decide +kernel
theorem dX3_addRule_48 : decode cX3_addRule 48 = .ok (.istore 6, 2) := by decide +kernel
theorem dX3_addRule_50 : decode cX3_addRule 50 = .ok (.iload 6, 2) := by decide +kernel
theorem dX3_addRule_52 : decode cX3_addRule 52 = .ok (.bipush 16, 2) := by decide +kernel
theorem dX3_addRule_54 : decode cX3_addRule 54 = .ok (.if_icmp .lt 13, 3) := by decide +kernel
theorem dX3_addRule_57 : decode cX3_addRule 57 = .ok (.new 51, 3) := by decide +kernel
theorem dX3_addRule_60 : decode cX3_addRule 60 = .ok (.dup, 1) := by decide +kernel
theorem dX3_addRule_61 : decode cX3_addRule 61 = .ok (.ldc 53, 2) := by decide +kernel
theorem dX3_addRule_63 : decode cX3_addRule 63 = .ok (.invokespecial 55, 3) := by decide +kernel
theorem dX3_addRule_66 : decode cX3_addRule 66 = .ok (.athrow, 1) := by decide +kernel
theorem dX3_addRule_67 : decode cX3_addRule 67 = .ok (.aload_n 0, 1) := by decide +kernel
theorem dX3_addRule_68 : decode cX3_addRule 68 = .ok (.getfield 26, 3) := by decide +kernel
theorem dX3_addRule_71 : decode cX3_addRule 71 = .ok (.new 56, 3) := by decide +kernel
theorem dX3_addRule_74 : decode cX3_addRule 74 = .ok (.dup, 1) := by decide +kernel
theorem dX3_addRule_75 : decode cX3_addRule 75 = .ok (.iload 6, 2) := by decide +kernel
theorem dX3_addRule_77 : decode cX3_addRule 77 = .ok (.iload_n 1, 1) := by decide +kernel
theorem dX3_addRule_78 : decode cX3_addRule 78 = .ok (.iload_n 2, 1) := by decide +kernel
theorem dX3_addRule_79 : decode cX3_addRule 79 = .ok (.iload_n 3, 1) := by decide +kernel
theorem dX3_addRule_80 : decode cX3_addRule 80 = .ok (.iload 4, 2) := by decide +kernel
theorem dX3_addRule_82 : decode cX3_addRule 82 = .ok (.iload 5, 2) := by decide +kernel
theorem dX3_addRule_84 : decode cX3_addRule 84 = .ok (.invokespecial 58, 3) := by decide +kernel
theorem dX3_addRule_87 : decode cX3_addRule 87 = .ok (.invokevirtual 61, 3) := by decide +kernel
theorem dX3_addRule_90 : decode cX3_addRule 90 = .ok (.pop, 1) := by decide +kernel
theorem dX3_addRule_91 : decode cX3_addRule 91 = .ok (.iload 6, 2) := by decide +kernel
theorem dX3_addRule_93 : decode cX3_addRule 93 = .ok (.ireturn, 1) := by decide +kernel
set_option maxRecDepth 20000 in
theorem ggX3_setRule_X3_findRule : GoodIn wsX3_setRule wsX3_findRule := goodIn_ca (goodIn_r _ [6, 7, 8, 9, 10, 11, 12, 13, 14, 15, 16, 17, 18, 19, 20, 21, 22, 23, 24, 25, 26, 27, 28, 29, 30, 31, 32, 33, 41, 42, 43, 44, 45, 46, 47, 48] (by decide +kernel) (by decide +kernel)) (goodIn_sub (fun _ h => List.mem_cons_of_mem _ (List.mem_append_right _ h)) (by decide +kernel))
set_option maxRecDepth 20000 in
theorem gX3_setRule_X3_findRule : GoodIn wsX3_setRule (wsV RX3 65 RX3 yX3_findRule wsX3_findRule) := goodIn_app (goodIn_of _ (by decide +kernel)) ggX3_setRule_X3_findRule
theorem dX3_setRule_0 : decode cX3_setRule 0 = .ok (.aload_n 0, 1) := by decide +kernel
theorem dX3_setRule_1 : decode cX3_setRule 1 = .ok (.iload_n 1, 1) := by decide +kernel
theorem dX3_setRule_2 : decode cX3_setRule 2 = .ok (.invokevirtual 65, 3) := by decide +kernel
theorem dX3_setRule_5 : decode cX3_setRule 5 = .ok (.astore_n 3, 1) := by decide +kernel
theorem dX3_setRule_6 : decode cX3_setRule 6 = .ok (.aload_n 3, 1) := by decide +kernel
theorem dX3_setRule_7 : decode cX3_setRule 7 = .ok (.getfield 69, 3) := by decide +kernel
theorem dX3_setRule_10 : decode cX3_setRule 10 = .ok (.istore 4, 2) := by decide +kernel
theorem dX3_setRule_12 : decode cX3_setRule 12 = .ok (.aload_n 3, 1) := by decide +kernel
theorem dX3_setRule_13 : decode cX3_setRule 13 = .ok (.iload_n 2, 1) := by decide +kernel
theorem dX3_setRule_14 : decode cX3_setRule 14 = .ok (.putfield 69, 3) := by decide +kernel
theorem dX3_setRule_17 : decode cX3_setRule 17 = .ok (.iload 4, 2) := by decide +kernel
theorem dX3_setRule_19 : decode cX3_setRule 19 = .ok (.ireturn, 1) := by decide +kernel
theorem dX3_setHoliday_0 : decode cX3_setHoliday 0 = .ok (.iload_n 1, 1) := by decide +kernel
theorem dX3_setHoliday_1 : decode cX3_setHoliday 1 = .ok (.ifCond .lt 12, 3) := by decide +kernel
theorem dX3_setHoliday_4 : decode cX3_setHoliday 4 = .ok (.iload_n 1, 1) := by decide +kernel
theorem dX3_setHoliday_5 : decode cX3_setHoliday 5 = .ok (.aload_n 0, 1) := by decide +kernel
theorem dX3_setHoliday_6 : decode cX3_setHoliday 6 = .ok (.getfield 19, 3) := by decide +kernel
theorem dX3_setHoliday_9 : decode cX3_setHoliday 9 = .ok (.arraylength, 1) := by decide +kernel
theorem dX3_setHoliday_10 : decode cX3_setHoliday 10 = .ok (.if_icmp .lt 13, 3) := by decide +kernel
theorem dX3_setHoliday_13 : decode cX3_setHoliday 13 = .ok (.new 36, 3) := by decide +kernel
theorem dX3_setHoliday_16 : decode cX3_setHoliday 16 = .ok (.dup, 1) := by decide +kernel
theorem dX3_setHoliday_17 : decode cX3_setHoliday 17 = .ok (.ldc 73, 2) := by decide +kernel
theorem dX3_setHoliday_19 : decode cX3_setHoliday 19 = .ok (.invokespecial 40, 3) := by decide +kernel
theorem dX3_setHoliday_22 : decode cX3_setHoliday 22 = .ok (.athrow, 1) := by decide +kernel
theorem dX3_setHoliday_23 : decode cX3_setHoliday 23 = .ok (.aload_n 0, 1) := by decide +kernel
theorem dX3_setHoliday_24 : decode cX3_setHoliday 24 = .ok (.getfield 19, 3) := by decide +kernel
theorem dX3_setHoliday_27 : decode cX3_setHoliday 27 = .ok (.iload_n 1, 1) := by decide +kernel
theorem dX3_setHoliday_28 : decode cX3_setHoliday 28 = .ok (.baload, 1) := by decide +kernel
theorem dX3_setHoliday_29 : decode cX3_setHoliday 29 = .ok (.istore_n 3, 1) := by decide +kernel
theorem dX3_setHoliday_30 : decode cX3_setHoliday 30 = .ok (.aload_n 0, 1) := by decide +kernel
theorem dX3_setHoliday_31 : decode cX3_setHoliday 31 = .ok (.getfield 19, 3) := by decide +kernel
theorem dX3_setHoliday_34 : decode cX3_setHoliday 34 = .ok (.iload_n 1, 1) := by decide +kernel
theorem dX3_setHoliday_35 : decode cX3_setHoliday 35 = .ok (.iload_n 2, 1) := by decide +kernel
theorem dX3_setHoliday_36 : decode cX3_setHoliday 36 = .ok (.bastore, 1) := by decide +kernel
theorem dX3_setHoliday_37 : decode cX3_setHoliday 37 = .ok (.iload_n 3, 1) := by decide +kernel
theorem dX3_setHoliday_38 : decode cX3_setHoliday 38 = .ok (.ireturn, 1) := by decide +kernel
set_option maxRecDepth 20000 in
theorem ggX3_addWorker_X3_checkArgument : GoodIn wsX3_addWorker wsX3_checkArgument := goodIn_ca (goodIn_r _ [10, 11, 12] (by decide +kernel) (by decide +kernel)) (goodIn_sub (fun _ h => List.mem_cons_of_mem _ (List.mem_append_right _ h)) (by decide +kernel))
set_option maxRecDepth 20000 in
theorem gX3_addWorker_X3_checkArgument : GoodIn wsX3_addWorker (va_wsS RX3 43 yX3_checkArgument wsX3_checkArgument) := goodIn_app (goodIn_of _ (by decide +kernel)) ggX3_addWorker_X3_checkArgument
set_option maxRecDepth 20000 in
theorem ggX3_addWorker_Jx4a65c_size_8abf5 : GoodIn wsX3_addWorker wsJx4a65c_size_8abf5 := goodIn_r _ [17, 18, 86, 87, 88] (by decide +kernel) (by decide +kernel)
set_option maxRecDepth 20000 in
theorem gX3_addWorker_Jx4a65c_size_8abf5 : GoodIn wsX3_addWorker (wsV RX3 47 RJx4a65c yJx4a65c_size_8abf5 wsJx4a65c_size_8abf5) := goodIn_app (goodIn_of _ (by decide +kernel)) ggX3_addWorker_Jx4a65c_size_8abf5
set_option maxRecDepth 20000 in
theorem ggX3_addWorker_X2_init : GoodIn wsX3_addWorker wsX2_init := goodIn_r _ [21, 22, 23, 24, 25, 85] (by decide +kernel) (by decide +kernel)
set_option maxRecDepth 20000 in
theorem gX3_addWorker_X2_init : GoodIn wsX3_addWorker (wsX2_init) := ggX3_addWorker_X2_init
set_option maxRecDepth 20000 in
theorem ggX3_addWorker_Jx4a65c_add_9ea2d : GoodIn wsX3_addWorker wsJx4a65c_add_9ea2d := goodIn_r _ [29, 30, 31, 32, 18, 33, 34, 35, 16, 36, 37, 38, 39, 40, 41, 42, 43, 44, 45, 46, 47, 48, 49, 50, 51, 52, 53, 54, 55, 56, 57, 58, 59, 60, 61, 62, 63, 64, 65, 66, 67, 68, 69, 70, 71, 72, 73, 74, 75, 76, 77, 78, 79, 86, 87, 88] (by decide +kernel) (by decide +kernel)
set_option maxRecDepth 20000 in
theorem gX3_addWorker_Jx4a65c_add_9ea2d : GoodIn wsX3_addWorker (wsV RX3 61 RJx4a65c yJx4a65c_add_9ea2d wsJx4a65c_add_9ea2d) := goodIn_app (goodIn_of _ (by decide +kernel)) ggX3_addWorker_Jx4a65c_add_9ea2d
theorem dX3_addWorker_0 : decode cX3_addWorker 0 = .ok (.iload_n 1, 1) := by decide +kernel
theorem dX3_addWorker_1 : decode cX3_addWorker 1 = .ok (.iconst 0, 1) := by decide +kernel
theorem dX3_addWorker_2 : decode cX3_addWorker 2 = .ok (.iconst 3, 1) := by decide +kernel
theorem dX3_addWorker_3 : decode cX3_addWorker 3 = .ok (.invokestatic 43, 3) := by decide +kernel
theorem dX3_addWorker_6 : decode cX3_addWorker 6 = .ok (.aload_n 0, 1) := by decide +kernel
theorem dX3_addWorker_7 : decode cX3_addWorker 7 = .ok (.getfield 30, 3) := by decide +kernel
theorem dX3_addWorker_10 : decode cX3_addWorker 10 = .ok (.invokevirtual 47, 3) := by decide +kernel
theorem dX3_addWorker_13 : decode cX3_addWorker 13 = .ok (.istore_n 2, 1) := by decide +kernel
theorem dX3_addWorker_14 : decode cX3_addWorker 14 = .ok (.iload_n 2, 1) := by decide +kernel
theorem dX3_addWorker_15 : decode cX3_addWorker 15 = .ok (.bipush 12, 2) := by decide +kernel
theorem dX3_addWorker_17 : decode cX3_addWorker 17 = .ok (.if_icmp .lt 13, 3) := by decide +kernel
theorem dX3_addWorker_20 : decode cX3_addWorker 20 = .ok (.new 51, 3) := by decide +kernel
theorem dX3_addWorker_23 : decode cX3_addWorker 23 = .ok (.dup, 1) := by decide +kernel
theorem dX3_addWorker_24 : decode cX3_addWorker 24 = .ok (.ldc 75, 2) := by decide +kernel
theorem dX3_addWorker_26 : decode cX3_addWorker 26 = .ok (.invokespecial 55, 3) := by decide +kernel
theorem dX3_addWorker_29 : decode cX3_addWorker 29 = .ok (.athrow, 1) := by decide +kernel
theorem dX3_addWorker_30 : decode cX3_addWorker 30 = .ok (.aload_n 0, 1) := by decide +kernel
theorem dX3_addWorker_31 : decode cX3_addWorker 31 = .ok (.getfield 30, 3) := by decide +kernel
theorem dX3_addWorker_34 : decode cX3_addWorker 34 = .ok (.new 77, 3) := by decide +kernel
theorem dX3_addWorker_37 : decode cX3_addWorker 37 = .ok (.dup, 1) := by decide +kernel
theorem dX3_addWorker_38 : decode cX3_addWorker 38 = .ok (.iload_n 1, 1) := by decide +kernel
theorem dX3_addWorker_39 : decode cX3_addWorker 39 = .ok (.invokespecial 79, 3) := by decide +kernel
theorem dX3_addWorker_42 : decode cX3_addWorker 42 = .ok (.invokevirtual 61, 3) := by decide +kernel
theorem dX3_addWorker_45 : decode cX3_addWorker 45 = .ok (.pop, 1) := by decide +kernel
theorem dX3_addWorker_46 : decode cX3_addWorker 46 = .ok (.iload_n 2, 1) := by decide +kernel
theorem dX3_addWorker_47 : decode cX3_addWorker 47 = .ok (.ireturn, 1) := by decide +kernel
set_option maxRecDepth 20000 in
theorem ggX3_setRank_X3_findWorker : GoodIn wsX3_setRank wsX3_findWorker := goodIn_ca (goodIn_r _ [6, 7, 8, 9, 10, 11, 12, 13, 14, 15, 16, 17, 18, 19, 20, 21, 22, 23, 24, 25, 26, 27, 28, 29, 30, 31, 32, 33, 40, 41, 42, 43, 44, 45, 46, 47] (by decide +kernel) (by decide +kernel)) (goodIn_sub (fun _ h => List.mem_cons_of_mem _ (List.mem_append_left _ (List.mem_append_right _ h))) (by decide +kernel))
set_option maxRecDepth 20000 in
theorem gX3_setRank_X3_findWorker : GoodIn wsX3_setRank (wsV RX3 82 RX3 yX3_findWorker wsX3_findWorker) := goodIn_app (goodIn_of _ (by decide +kernel)) ggX3_setRank_X3_findWorker
set_option maxRecDepth 20000 in
theorem ggX3_setRank_X3_checkArgument : GoodIn wsX3_setRank wsX3_checkArgument := goodIn_ca (goodIn_r _ [36, 37, 38] (by decide +kernel) (by decide +kernel)) (goodIn_sub (fun _ h => List.mem_cons_of_mem _ (List.mem_append_right _ h)) (by decide +kernel))
set_option maxRecDepth 20000 in
theorem gX3_setRank_X3_checkArgument : GoodIn wsX3_setRank (va_wsS RX3 43 yX3_checkArgument wsX3_checkArgument) := goodIn_app (goodIn_of _ (by decide +kernel)) ggX3_setRank_X3_checkArgument
theorem dX3_setRank_0 : decode cX3_setRank 0 = .ok (.aload_n 0, 1) := by decide +kernel
theorem dX3_setRank_1 : decode cX3_setRank 1 = .ok (.iload_n 1, 1) := by decide +kernel
theorem dX3_setRank_2 : decode cX3_setRank 2 = .ok (.invokevirtual 82, 3) := by decide +kernel
theorem dX3_setRank_5 : decode cX3_setRank 5 = .ok (.astore_n 3, 1) := by decide +kernel
theorem dX3_setRank_6 : decode cX3_setRank 6 = .ok (.iload_n 2, 1) := by decide +kernel
theorem dX3_setRank_7 : decode cX3_setRank 7 = .ok (.iconst 0, 1) := by decide +kernel
theorem dX3_setRank_8 : decode cX3_setRank 8 = .ok (.iconst 3, 1) := by decide +kernel
theorem dX3_setRank_9 : decode cX3_setRank 9 = .ok (.invokestatic 43, 3) := by decide +kernel
theorem dX3_setRank_12 : decode cX3_setRank 12 = .ok (.aload_n 3, 1) := by decide +kernel
theorem dX3_setRank_13 : decode cX3_setRank 13 = .ok (.getfield 86, 3) := by decide +kernel
theorem dX3_setRank_16 : decode cX3_setRank 16 = .ok (.istore 4, 2) := by decide +kernel
theorem dX3_setRank_18 : decode cX3_setRank 18 = .ok (.aload_n 3, 1) := by decide +kernel
theorem dX3_setRank_19 : decode cX3_setRank 19 = .ok (.iload_n 2, 1) := by decide +kernel
theorem dX3_setRank_20 : decode cX3_setRank 20 = .ok (.putfield 86, 3) := by decide +kernel
theorem dX3_setRank_23 : decode cX3_setRank 23 = .ok (.iload 4, 2) := by decide +kernel
theorem dX3_setRank_25 : decode cX3_setRank 25 = .ok (.ireturn, 1) := by decide +kernel
set_option maxRecDepth 20000 in
theorem ggX3_addShift_X3_findWorker : GoodIn wsX3_addShift wsX3_findWorker := goodIn_ca (goodIn_r _ [11, 12, 13, 14, 15, 16, 17, 18, 19, 20, 21, 22, 23, 24, 25, 26, 27, 28, 29, 30, 31, 32, 33, 34, 35, 36, 37, 38, 125, 126, 127, 128, 129, 135, 136, 137] (by decide +kernel) (by decide +kernel)) (goodIn_sub (fun _ h => List.mem_cons_of_mem _ (List.mem_append_left _ (List.mem_append_right _ h))) (by decide +kernel))
set_option maxRecDepth 20000 in
theorem gX3_addShift_X3_findWorker : GoodIn wsX3_addShift (wsV RX3 82 RX3 yX3_findWorker wsX3_findWorker) := goodIn_app (goodIn_of _ (by decide +kernel)) ggX3_addShift_X3_findWorker
set_option maxRecDepth 20000 in
theorem ggX3_addShift_X3_checkArgument : GoodIn wsX3_addShift wsX3_checkArgument := goodIn_ca (goodIn_r _ [41, 42, 43] (by decide +kernel) (by decide +kernel)) (goodIn_sub (fun _ h => List.mem_cons_of_mem _ (List.mem_append_right _ h)) (by decide +kernel))
set_option maxRecDepth 20000 in
theorem gX3_addShift_X3_checkArgument : GoodIn wsX3_addShift (va_wsS RX3 43 yX3_checkArgument wsX3_checkArgument) := goodIn_app (goodIn_of _ (by decide +kernel)) ggX3_addShift_X3_checkArgument
set_option maxRecDepth 20000 in
theorem ggX3_addShift_Jx4a65c_size_8abf5 : GoodIn wsX3_addShift wsJx4a65c_size_8abf5 := goodIn_r _ [20, 21, 135, 136, 137] (by decide +kernel) (by decide +kernel)
set_option maxRecDepth 20000 in
theorem gX3_addShift_Jx4a65c_size_8abf5 : GoodIn wsX3_addShift (wsV RX3 47 RJx4a65c yJx4a65c_size_8abf5 wsJx4a65c_size_8abf5) := goodIn_app (goodIn_of _ (by decide +kernel)) ggX3_addShift_Jx4a65c_size_8abf5
set_option maxRecDepth 20000 in
theorem ggX3_addShift_X3_overlapsAnother : GoodIn wsX3_addShift wsX3_overlapsAnother := goodIn_r _ [47, 48, 49, 50, 10, 51, 3, 52, 53, 54, 16, 17, 18, 19, 20, 21, 22, 23, 24, 25, 26, 27, 28, 29, 30, 31, 32, 33, 34, 35, 36, 37, 38, 55, 56, 57, 6, 58, 59, 60, 61, 62, 63, 64, 65, 66, 67, 125, 126, 127, 128, 129, 130, 131, 132, 133, 134, 135, 136, 137] (by decide +kernel) (by decide +kernel)
set_option maxRecDepth 20000 in
theorem gX3_addShift_X3_overlapsAnother : GoodIn wsX3_addShift (wsV RX3 90 RX3 yX3_overlapsAnother wsX3_overlapsAnother) := goodIn_app (goodIn_of _ (by decide +kernel)) ggX3_addShift_X3_overlapsAnother
set_option maxRecDepth 20000 in
theorem ggX3_addShift_X1_init : GoodIn wsX3_addShift wsX1_init := goodIn_r _ [70, 71, 72, 73, 74, 59, 60, 75, 76, 130, 131, 132, 133, 134] (by decide +kernel) (by decide +kernel)
set_option maxRecDepth 20000 in
theorem gX3_addShift_X1_init : GoodIn wsX3_addShift (wsX1_init) := ggX3_addShift_X1_init
set_option maxRecDepth 20000 in
theorem ggX3_addShift_Jx4a65c_add_9ea2d : GoodIn wsX3_addShift wsJx4a65c_add_9ea2d := goodIn_r _ [80, 81, 82, 38, 21, 83, 84, 85, 19, 86, 87, 88, 89, 90, 91, 92, 93, 94, 95, 96, 66, 63, 67, 97, 98, 99, 100, 101, 102, 103, 104, 105, 106, 107, 108, 109, 110, 111, 112, 113, 114, 115, 116, 117, 118, 119, 120, 62, 64, 121, 122, 123, 124, 135, 136, 137] (by decide +kernel) (by decide +kernel)
set_option maxRecDepth 20000 in
theorem gX3_addShift_Jx4a65c_add_9ea2d : GoodIn wsX3_addShift (wsV RX3 61 RJx4a65c yJx4a65c_add_9ea2d wsJx4a65c_add_9ea2d) := goodIn_app (goodIn_of _ (by decide +kernel)) ggX3_addShift_Jx4a65c_add_9ea2d
theorem dX3_addShift_0 : decode cX3_addShift 0 = .ok (.aload_n 0, 1) := by decide +kernel
theorem dX3_addShift_1 : decode cX3_addShift 1 = .ok (.iload_n 1, 1) := by decide +kernel
theorem dX3_addShift_2 : decode cX3_addShift 2 = .ok (.invokevirtual 82, 3) := by decide +kernel
theorem dX3_addShift_5 : decode cX3_addShift 5 = .ok (.astore 5, 2) := by decide +kernel
theorem dX3_addShift_7 : decode cX3_addShift 7 = .ok (.iload_n 2, 1) := by decide +kernel
theorem dX3_addShift_8 : decode cX3_addShift 8 = .ok (.iconst 0, 1) := by decide +kernel
theorem dX3_addShift_9 : decode cX3_addShift 9 = .ok (.sipush 362, 3) := by decide +kernel
theorem dX3_addShift_12 : decode cX3_addShift 12 = .ok (.invokestatic 43, 3) := by decide +kernel
theorem dX3_addShift_15 : decode cX3_addShift 15 = .ok (.iload_n 3, 1) := by decide +kernel
theorem dX3_addShift_16 : decode cX3_addShift 16 = .ok (.iconst 0, 1) := by decide +kernel
theorem dX3_addShift_17 : decode cX3_addShift 17 = .ok (.bipush 95, 2) := by decide +kernel
theorem dX3_addShift_19 : decode cX3_addShift 19 = .ok (.invokestatic 43, 3) := by decide +kernel
theorem dX3_addShift_22 : decode cX3_addShift 22 = .ok (.iload 4, 2) := by decide +kernel
theorem dX3_addShift_24 : decode cX3_addShift 24 = .ok (.iconst 1, 1) := by decide +kernel
theorem dX3_addShift_25 : decode cX3_addShift 25 = .ok (.bipush 64, 2) := by decide +kernel
theorem dX3_addShift_27 : decode cX3_addShift 27 = .ok (.invokestatic 43, 3) := by decide +kernel
theorem dX3_addShift_30 : decode cX3_addShift 30 = .ok (.iload_n 2, 1) := by decide +kernel
theorem dX3_addShift_31 : decode cX3_addShift 31 = .ok (.bipush 96, 2) := by decide +kernel
theorem dX3_addShift_33 : decode cX3_addShift 33 = .ok (.imul, 1) := by decide +kernel
theorem dX3_addShift_34 : decode cX3_addShift 34 = .ok (.iload_n 3, 1) := by decide +kernel
theorem dX3_addShift_35 : decode cX3_addShift 35 = .ok (.iadd, 1) := by decide +kernel
theorem dX3_addShift_36 : decode cX3_addShift 36 = .ok (.istore 6, 2) := by decide +kernel
theorem dX3_addShift_38 : decode cX3_addShift 38 = .ok (.aload_n 0, 1) := by decide +kernel
theorem dX3_addShift_39 : decode cX3_addShift 39 = .ok (.getfield 33, 3) := by decide +kernel
theorem dX3_addShift_42 : decode cX3_addShift 42 = .ok (.invokevirtual 47, 3) := by decide +kernel
theorem dX3_addShift_45 : decode cX3_addShift 45 = .ok (.istore 7, 2) := by decide +kernel
theorem dX3_addShift_47 : decode cX3_addShift 47 = .ok (.iload 7, 2) := by decide +kernel
theorem dX3_addShift_49 : decode cX3_addShift 49 = .ok (.bipush 80, 2) := by decide +kernel
theorem dX3_addShift_51 : decode cX3_addShift 51 = .ok (.if_icmp .ge 19, 3) := by decide +kernel
theorem dX3_addShift_54 : decode cX3_addShift 54 = .ok (.aload_n 0, 1) := by decide +kernel
theorem dX3_addShift_55 : decode cX3_addShift 55 = .ok (.aload 5, 2) := by decide +kernel
theorem dX3_addShift_57 : decode cX3_addShift 57 = .ok (.iload 6, 2) := by decide +kernel
theorem dX3_addShift_59 : decode cX3_addShift 59 = .ok (.iload 6, 2) := by decide +kernel
theorem dX3_addShift_61 : decode cX3_addShift 61 = .ok (.iload 4, 2) := by decide +kernel
theorem dX3_addShift_63 : decode cX3_addShift 63 = .ok (.iadd, 1) := by decide +kernel
theorem dX3_addShift_64 : decode cX3_addShift 64 = .ok (.invokevirtual 90, 3) := by decide +kernel
theorem dX3_addShift_67 : decode cX3_addShift 67 = .ok (.ifCond .eq 13, 3) := by decide +kernel
theorem dX3_addShift_70 : decode cX3_addShift 70 = .ok (.new 51, 3) := by decide +kernel
theorem dX3_addShift_73 : decode cX3_addShift 73 = .ok (.dup, 1) := by decide +kernel
theorem dX3_addShift_74 : decode cX3_addShift 74 = .ok (.ldc 94, 2) := by decide +kernel
theorem dX3_addShift_76 : decode cX3_addShift 76 = .ok (.invokespecial 55, 3) := by decide +kernel
theorem dX3_addShift_79 : decode cX3_addShift 79 = .ok (.athrow, 1) := by decide +kernel
theorem dX3_addShift_80 : decode cX3_addShift 80 = .ok (.aload_n 0, 1) := by decide +kernel
theorem dX3_addShift_81 : decode cX3_addShift 81 = .ok (.getfield 33, 3) := by decide +kernel
theorem dX3_addShift_84 : decode cX3_addShift 84 = .ok (.new 96, 3) := by decide +kernel
theorem dX3_addShift_87 : decode cX3_addShift 87 = .ok (.dup, 1) := by decide +kernel
theorem dX3_addShift_88 : decode cX3_addShift 88 = .ok (.aload 5, 2) := by decide +kernel
theorem dX3_addShift_90 : decode cX3_addShift 90 = .ok (.iload 6, 2) := by decide +kernel
theorem dX3_addShift_92 : decode cX3_addShift 92 = .ok (.iload 4, 2) := by decide +kernel
theorem dX3_addShift_94 : decode cX3_addShift 94 = .ok (.invokespecial 98, 3) := by decide +kernel
theorem dX3_addShift_97 : decode cX3_addShift 97 = .ok (.invokevirtual 61, 3) := by decide +kernel
theorem dX3_addShift_100 : decode cX3_addShift 100 = .ok (.pop, 1) := by decide +kernel
theorem dX3_addShift_101 : decode cX3_addShift 101 = .ok (.iload 7, 2) := by decide +kernel
theorem dX3_addShift_103 : decode cX3_addShift 103 = .ok (.ireturn, 1) := by decide +kernel
set_option maxRecDepth 20000 in
theorem ggX3_cancel_X3_findShift : GoodIn wsX3_cancel wsX3_findShift := goodIn_ca (goodIn_r _ [6, 7, 8, 9, 10, 11, 12, 13, 14, 15, 16, 17, 18, 19, 20, 21, 22, 23, 24, 25, 26, 27, 28, 29, 30, 31, 32, 33, 123, 124, 125, 126, 127, 128, 129, 130] (by decide +kernel) (by decide +kernel)) (goodIn_sub (fun _ h => List.mem_cons_of_mem _ (List.mem_append_left _ (List.mem_append_right _ h))) (by decide +kernel))
set_option maxRecDepth 20000 in
theorem gX3_cancel_X3_findShift : GoodIn wsX3_cancel (wsV RX3 101 RX3 yX3_findShift wsX3_findShift) := goodIn_app (goodIn_of _ (by decide +kernel)) ggX3_cancel_X3_findShift
set_option maxRecDepth 20000 in
theorem ggX3_cancel_X3_checkNotCancelled : GoodIn wsX3_cancel wsX3_checkNotCancelled := goodIn_ca (goodIn_r _ [36, 37, 38, 1, 118, 119, 120, 121, 122] (by decide +kernel) (by decide +kernel)) (goodIn_sub (fun _ h => List.mem_cons_of_mem _ (List.mem_append_right _ h)) (by decide +kernel))
set_option maxRecDepth 20000 in
theorem gX3_cancel_X3_checkNotCancelled : GoodIn wsX3_cancel (va_wsS RX3 105 yX3_checkNotCancelled wsX3_checkNotCancelled) := goodIn_app (goodIn_of _ (by decide +kernel)) ggX3_cancel_X3_checkNotCancelled
set_option maxRecDepth 20000 in
theorem ggX3_cancel_X3_payFor : GoodIn wsX3_cancel wsX3_payFor := goodIn_r _ [42, 43, 44, 45, 46, 47, 5, 48, 49, 50, 51, 52, 53, 54, 55, 56, 57, 58, 59, 60, 61, 62, 63, 64, 65, 66, 67, 68, 69, 70, 71, 72, 73, 74, 75, 76, 77, 78, 79, 80, 81, 82, 83, 84, 85, 86, 87, 88, 89, 90, 91, 92, 93, 94, 95, 96, 97, 11, 12, 13, 14, 15, 16, 17, 18, 19, 20, 21, 22, 23, 24, 25, 26, 27, 28, 29, 30, 31, 32, 33, 98, 99, 100, 101, 102, 103, 104, 105, 106, 107, 108, 109, 110, 111, 112, 113, 114, 115, 116, 117, 118, 119, 120, 121, 122, 131, 123, 124, 125, 126, 127, 132, 133, 134, 135, 136, 137, 138, 128, 129, 130] (by decide +kernel) (by decide +kernel)
set_option maxRecDepth 20000 in
theorem gX3_cancel_X3_payFor : GoodIn wsX3_cancel (wsV RX3 109 RX3 yX3_payFor wsX3_payFor) := goodIn_app (goodIn_of _ (by decide +kernel)) ggX3_cancel_X3_payFor
theorem dX3_cancel_0 : decode cX3_cancel 0 = .ok (.aload_n 0, 1) := by decide +kernel
theorem dX3_cancel_1 : decode cX3_cancel 1 = .ok (.iload_n 1, 1) := by decide +kernel
theorem dX3_cancel_2 : decode cX3_cancel 2 = .ok (.invokevirtual 101, 3) := by decide +kernel
theorem dX3_cancel_5 : decode cX3_cancel 5 = .ok (.astore_n 2, 1) := by decide +kernel
theorem dX3_cancel_6 : decode cX3_cancel 6 = .ok (.aload_n 2, 1) := by decide +kernel
theorem dX3_cancel_7 : decode cX3_cancel 7 = .ok (.invokestatic 105, 3) := by decide +kernel
theorem dX3_cancel_10 : decode cX3_cancel 10 = .ok (.aload_n 0, 1) := by decide +kernel
theorem dX3_cancel_11 : decode cX3_cancel 11 = .ok (.aload_n 2, 1) := by decide +kernel
theorem dX3_cancel_12 : decode cX3_cancel 12 = .ok (.invokevirtual 109, 3) := by decide +kernel
theorem dX3_cancel_15 : decode cX3_cancel 15 = .ok (.istore_n 3, 1) := by decide +kernel
theorem dX3_cancel_16 : decode cX3_cancel 16 = .ok (.aload_n 2, 1) := by decide +kernel
theorem dX3_cancel_17 : decode cX3_cancel 17 = .ok (.iconst 1, 1) := by decide +kernel
theorem dX3_cancel_18 : decode cX3_cancel 18 = .ok (.putfield 113, 3) := by decide +kernel
theorem dX3_cancel_21 : decode cX3_cancel 21 = .ok (.iload_n 3, 1) := by decide +kernel
theorem dX3_cancel_22 : decode cX3_cancel 22 = .ok (.ireturn, 1) := by decide +kernel
set_option maxRecDepth 20000 in
theorem ggX3_takeBreaks_X3_findShift : GoodIn wsX3_takeBreaks wsX3_findShift := goodIn_ca (goodIn_r _ [6, 7, 8, 9, 10, 11, 12, 13, 14, 15, 16, 17, 18, 19, 20, 21, 22, 23, 24, 25, 26, 27, 28, 29, 30, 31, 32, 33, 50, 51, 52, 53, 54, 55, 56, 57] (by decide +kernel) (by decide +kernel)) (goodIn_sub (fun _ h => List.mem_cons_of_mem _ (List.mem_append_left _ (List.mem_append_left _ (List.mem_append_right _ h)))) (by decide +kernel))
set_option maxRecDepth 20000 in
theorem gX3_takeBreaks_X3_findShift : GoodIn wsX3_takeBreaks (wsV RX3 101 RX3 yX3_findShift wsX3_findShift) := goodIn_app (goodIn_of _ (by decide +kernel)) ggX3_takeBreaks_X3_findShift
set_option maxRecDepth 20000 in
theorem ggX3_takeBreaks_X3_checkArgument : GoodIn wsX3_takeBreaks wsX3_checkArgument := goodIn_ca (goodIn_r _ [36, 37, 38] (by decide +kernel) (by decide +kernel)) (goodIn_sub (fun _ h => List.mem_cons_of_mem _ (List.mem_append_left _ (List.mem_append_right _ h))) (by decide +kernel))
set_option maxRecDepth 20000 in
theorem gX3_takeBreaks_X3_checkArgument : GoodIn wsX3_takeBreaks (va_wsS RX3 43 yX3_checkArgument wsX3_checkArgument) := goodIn_app (goodIn_of _ (by decide +kernel)) ggX3_takeBreaks_X3_checkArgument
set_option maxRecDepth 20000 in
theorem ggX3_takeBreaks_X3_checkNotCancelled : GoodIn wsX3_takeBreaks wsX3_checkNotCancelled := goodIn_ca (goodIn_r _ [41, 42, 43, 44, 45, 46, 47, 48, 49] (by decide +kernel) (by decide +kernel)) (goodIn_sub (fun _ h => List.mem_cons_of_mem _ (List.mem_append_right _ h)) (by decide +kernel))
set_option maxRecDepth 20000 in
theorem gX3_takeBreaks_X3_checkNotCancelled : GoodIn wsX3_takeBreaks (va_wsS RX3 105 yX3_checkNotCancelled wsX3_checkNotCancelled) := goodIn_app (goodIn_of _ (by decide +kernel)) ggX3_takeBreaks_X3_checkNotCancelled
theorem dX3_takeBreaks_0 : decode cX3_takeBreaks 0 = .ok (.aload_n 0, 1) := by decide +kernel
theorem dX3_takeBreaks_1 : decode cX3_takeBreaks 1 = .ok (.iload_n 1, 1) := by decide +kernel
theorem dX3_takeBreaks_2 : decode cX3_takeBreaks 2 = .ok (.invokevirtual 101, 3) := by decide +kernel
theorem dX3_takeBreaks_5 : decode cX3_takeBreaks 5 = .ok (.astore_n 3, 1) := by decide +kernel
theorem dX3_takeBreaks_6 : decode cX3_takeBreaks 6 = .ok (.iload_n 2, 1) := by decide +kernel
theorem dX3_takeBreaks_7 : decode cX3_takeBreaks 7 = .ok (.iconst 0, 1) := by decide +kernel
theorem dX3_takeBreaks_8 : decode cX3_takeBreaks 8 = .ok (.iconst 5, 1) := by decide +kernel
theorem dX3_takeBreaks_9 : decode cX3_takeBreaks 9 = .ok (.invokestatic 43, 3) := by decide +kernel
theorem dX3_takeBreaks_12 : decode cX3_takeBreaks 12 = .ok (.aload_n 3, 1) := by decide +kernel
theorem dX3_takeBreaks_13 : decode cX3_takeBreaks 13 = .ok (.invokestatic 105, 3) := by decide +kernel
theorem dX3_takeBreaks_16 : decode cX3_takeBreaks 16 = .ok (.aload_n 3, 1) := by decide +kernel
theorem dX3_takeBreaks_17 : decode cX3_takeBreaks 17 = .ok (.getfield 116, 3) := by decide +kernel
theorem dX3_takeBreaks_20 : decode cX3_takeBreaks 20 = .ok (.istore 4, 2) := by decide +kernel
theorem dX3_takeBreaks_22 : decode cX3_takeBreaks 22 = .ok (.aload_n 3, 1) := by decide +kernel
theorem dX3_takeBreaks_23 : decode cX3_takeBreaks 23 = .ok (.iload_n 2, 1) := by decide +kernel
theorem dX3_takeBreaks_24 : decode cX3_takeBreaks 24 = .ok (.putfield 116, 3) := by decide +kernel
theorem dX3_takeBreaks_27 : decode cX3_takeBreaks 27 = .ok (.iload 4, 2) := by decide +kernel
theorem dX3_takeBreaks_29 : decode cX3_takeBreaks 29 = .ok (.ireturn, 1) := by decide +kernel
set_option maxRecDepth 20000 in
theorem ggX3_shifts_Jx4a65c_size_8abf5 : GoodIn wsX3_shifts wsJx4a65c_size_8abf5 := goodIn_r _ [6, 7, 13, 14, 15] (by decide +kernel) (by decide +kernel)
set_option maxRecDepth 20000 in
theorem gX3_shifts_Jx4a65c_size_8abf5 : GoodIn wsX3_shifts (wsV RX3 47 RJx4a65c yJx4a65c_size_8abf5 wsJx4a65c_size_8abf5) := goodIn_app (goodIn_of _ (by decide +kernel)) ggX3_shifts_Jx4a65c_size_8abf5
theorem dX3_shifts_0 : decode cX3_shifts 0 = .ok (.aload_n 0, 1) := by decide +kernel
theorem dX3_shifts_1 : decode cX3_shifts 1 = .ok (.getfield 33, 3) := by decide +kernel
theorem dX3_shifts_4 : decode cX3_shifts 4 = .ok (.invokevirtual 47, 3) := by decide +kernel
theorem dX3_shifts_7 : decode cX3_shifts 7 = .ok (.ireturn, 1) := by decide +kernel
set_option maxRecDepth 20000 in
theorem ggX3_paidQuarters_X3_findShift : GoodIn wsX3_paidQuarters wsX3_findShift := goodIn_ca (goodIn_r _ [5, 6, 7, 8, 9, 10, 11, 12, 13, 14, 15, 16, 17, 18, 19, 20, 21, 22, 23, 24, 25, 26, 27, 28, 29, 30, 31, 32, 44, 45, 46, 47, 48, 49, 50, 51] (by decide +kernel) (by decide +kernel)) (goodIn_sub (fun _ h => List.mem_cons_of_mem _ (List.mem_append_right _ h)) (by decide +kernel))
set_option maxRecDepth 20000 in
theorem gX3_paidQuarters_X3_findShift : GoodIn wsX3_paidQuarters (wsV RX3 101 RX3 yX3_findShift wsX3_findShift) := goodIn_app (goodIn_of _ (by decide +kernel)) ggX3_paidQuarters_X3_findShift
set_option maxRecDepth 20000 in
theorem ggX3_paidQuarters_X1_paidLength : GoodIn wsX3_paidQuarters wsX1_paidLength := goodIn_r _ [37, 38, 39, 40, 41, 42, 43, 52, 53, 54, 55, 56] (by decide +kernel) (by decide +kernel)
set_option maxRecDepth 20000 in
theorem gX3_paidQuarters_X1_paidLength : GoodIn wsX3_paidQuarters (wsV RX3 119 RX1 yX1_paidLength wsX1_paidLength) := goodIn_app (goodIn_of _ (by decide +kernel)) ggX3_paidQuarters_X1_paidLength
theorem dX3_paidQuarters_0 : decode cX3_paidQuarters 0 = .ok (.aload_n 0, 1) := by decide +kernel
theorem dX3_paidQuarters_1 : decode cX3_paidQuarters 1 = .ok (.iload_n 1, 1) := by decide +kernel
theorem dX3_paidQuarters_2 : decode cX3_paidQuarters 2 = .ok (.invokevirtual 101, 3) := by decide +kernel
theorem dX3_paidQuarters_5 : decode cX3_paidQuarters 5 = .ok (.invokevirtual 119, 3) := by decide +kernel
theorem dX3_paidQuarters_8 : decode cX3_paidQuarters 8 = .ok (.ireturn, 1) := by decide +kernel
set_option maxRecDepth 20000 in
theorem ggX3_percentAt_X3_findShift : GoodIn wsX3_percentAt wsX3_findShift := goodIn_ca (goodIn_r _ [5, 6, 7, 8, 9, 10, 11, 12, 13, 14, 15, 16, 17, 18, 19, 20, 21, 22, 23, 24, 25, 26, 27, 28, 29, 30, 31, 32, 94, 95, 96, 97, 98, 99, 100, 101] (by decide +kernel) (by decide +kernel)) (goodIn_sub (fun _ h => List.mem_cons_of_mem _ (List.mem_append_right _ h)) (by decide +kernel))
set_option maxRecDepth 20000 in
theorem gX3_percentAt_X3_findShift : GoodIn wsX3_percentAt (wsV RX3 101 RX3 yX3_findShift wsX3_findShift) := goodIn_app (goodIn_of _ (by decide +kernel)) ggX3_percentAt_X3_findShift
set_option maxRecDepth 20000 in
theorem ggX3_percentAt_X3_checkPaidQuarter : GoodIn wsX3_percentAt wsX3_checkPaidQuarter := goodIn_ca (goodIn_r _ [35, 6, 7, 36, 37, 38, 39, 40, 41, 42, 43, 44, 45, 46, 102, 103, 104, 105, 106] (by decide +kernel) (by decide +kernel)) (goodIn_sub (fun _ h => List.mem_cons_of_mem _ (List.mem_append_right _ h)) (by decide +kernel))
set_option maxRecDepth 20000 in
theorem gX3_percentAt_X3_checkPaidQuarter : GoodIn wsX3_percentAt (va_wsS RX3 122 yX3_checkPaidQuarter wsX3_checkPaidQuarter) := goodIn_app (goodIn_of _ (by decide +kernel)) ggX3_percentAt_X3_checkPaidQuarter
set_option maxRecDepth 20000 in
theorem ggX3_percentAt_X3_percentOf : GoodIn wsX3_percentAt wsX3_percentOf := goodIn_r _ [50, 51, 52, 53, 54, 4, 55, 56, 57, 58, 59, 60, 61, 62, 39, 63, 64, 65, 66, 67, 68, 69, 70, 71, 72, 73, 74, 75, 76, 10, 11, 12, 13, 14, 15, 16, 17, 18, 19, 20, 21, 22, 23, 24, 25, 26, 27, 28, 29, 30, 31, 32, 77, 78, 79, 80, 81, 82, 83, 84, 85, 86, 87, 88, 89, 90, 91, 92, 93, 107, 108, 109, 110, 111, 112, 113, 94, 95, 96, 97, 98, 102, 103, 104, 105, 106, 114, 99, 100, 101] (by decide +kernel) (by decide +kernel)
set_option maxRecDepth 20000 in
theorem gX3_percentAt_X3_percentOf : GoodIn wsX3_percentAt (wsV RX3 126 RX3 yX3_percentOf wsX3_percentOf) := goodIn_app (goodIn_of _ (by decide +kernel)) ggX3_percentAt_X3_percentOf
theorem dX3_percentAt_0 : decode cX3_percentAt 0 = .ok (.aload_n 0, 1) := by decide +kernel
theorem dX3_percentAt_1 : decode cX3_percentAt 1 = .ok (.iload_n 1, 1) := by decide +kernel
theorem dX3_percentAt_2 : decode cX3_percentAt 2 = .ok (.invokevirtual 101, 3) := by decide +kernel
theorem dX3_percentAt_5 : decode cX3_percentAt 5 = .ok (.astore_n 3, 1) := by decide +kernel
theorem dX3_percentAt_6 : decode cX3_percentAt 6 = .ok (.aload_n 3, 1) := by decide +kernel
theorem dX3_percentAt_7 : decode cX3_percentAt 7 = .ok (.iload_n 2, 1) := by decide +kernel
theorem dX3_percentAt_8 : decode cX3_percentAt 8 = .ok (.invokestatic 122, 3) := by decide +kernel
theorem dX3_percentAt_11 : decode cX3_percentAt 11 = .ok (.aload_n 0, 1) := by decide +kernel
theorem dX3_percentAt_12 : decode cX3_percentAt 12 = .ok (.aload_n 3, 1) := by decide +kernel
theorem dX3_percentAt_13 : decode cX3_percentAt 13 = .ok (.iload_n 2, 1) := by decide +kernel
theorem dX3_percentAt_14 : decode cX3_percentAt 14 = .ok (.invokevirtual 126, 3) := by decide +kernel
theorem dX3_percentAt_17 : decode cX3_percentAt 17 = .ok (.ireturn, 1) := by decide +kernel
set_option maxRecDepth 20000 in
theorem ggX3_reasonAt_X3_findShift : GoodIn wsX3_reasonAt wsX3_findShift := goodIn_ca (goodIn_r _ [6, 7, 8, 9, 10, 11, 12, 13, 14, 15, 16, 17, 18, 19, 20, 21, 22, 23, 24, 25, 26, 27, 28, 29, 30, 31, 32, 33, 98, 99, 100, 101, 102, 103, 104, 105] (by decide +kernel) (by decide +kernel)) (goodIn_sub (fun _ h => List.mem_cons_of_mem _ (List.mem_append_right _ h)) (by decide +kernel))
set_option maxRecDepth 20000 in
theorem gX3_reasonAt_X3_findShift : GoodIn wsX3_reasonAt (wsV RX3 101 RX3 yX3_findShift wsX3_findShift) := goodIn_app (goodIn_of _ (by decide +kernel)) ggX3_reasonAt_X3_findShift
set_option maxRecDepth 20000 in
theorem ggX3_reasonAt_X3_checkPaidQuarter : GoodIn wsX3_reasonAt wsX3_checkPaidQuarter := goodIn_ca (goodIn_r _ [36, 7, 8, 37, 38, 39, 40, 41, 42, 43, 44, 45, 46, 47, 106, 107, 108, 109, 110] (by decide +kernel) (by decide +kernel)) (goodIn_sub (fun _ h => List.mem_cons_of_mem _ (List.mem_append_right _ h)) (by decide +kernel))
set_option maxRecDepth 20000 in
theorem gX3_reasonAt_X3_checkPaidQuarter : GoodIn wsX3_reasonAt (va_wsS RX3 122 yX3_checkPaidQuarter wsX3_checkPaidQuarter) := goodIn_app (goodIn_of _ (by decide +kernel)) ggX3_reasonAt_X3_checkPaidQuarter
set_option maxRecDepth 20000 in
theorem ggX3_reasonAt_X3_decidingRule : GoodIn wsX3_reasonAt wsX3_decidingRule := goodIn_r _ [51, 52, 53, 54, 55, 56, 57, 58, 59, 40, 60, 61, 62, 63, 64, 65, 66, 67, 68, 5, 69, 70, 71, 72, 73, 11, 12, 13, 14, 15, 16, 17, 18, 19, 20, 21, 22, 23, 24, 25, 26, 27, 28, 29, 30, 31, 32, 33, 74, 75, 76, 77, 78, 79, 80, 81, 82, 83, 84, 85, 86, 87, 88, 89, 90, 98, 99, 100, 101, 102, 91, 92, 93, 94, 95, 96, 97, 106, 107, 108, 109, 110, 111, 103, 104, 105] (by decide +kernel) (by decide +kernel)
set_option maxRecDepth 20000 in
theorem gX3_reasonAt_X3_decidingRule : GoodIn wsX3_reasonAt (wsV RX3 130 RX3 yX3_decidingRule wsX3_decidingRule) := goodIn_app (goodIn_of _ (by decide +kernel)) ggX3_reasonAt_X3_decidingRule
theorem dX3_reasonAt_0 : decode cX3_reasonAt 0 = .ok (.aload_n 0, 1) := by decide +kernel
theorem dX3_reasonAt_1 : decode cX3_reasonAt 1 = .ok (.iload_n 1, 1) := by decide +kernel
theorem dX3_reasonAt_2 : decode cX3_reasonAt 2 = .ok (.invokevirtual 101, 3) := by decide +kernel
theorem dX3_reasonAt_5 : decode cX3_reasonAt 5 = .ok (.astore_n 3, 1) := by decide +kernel
theorem dX3_reasonAt_6 : decode cX3_reasonAt 6 = .ok (.aload_n 3, 1) := by decide +kernel
theorem dX3_reasonAt_7 : decode cX3_reasonAt 7 = .ok (.iload_n 2, 1) := by decide +kernel
theorem dX3_reasonAt_8 : decode cX3_reasonAt 8 = .ok (.invokestatic 122, 3) := by decide +kernel
theorem dX3_reasonAt_11 : decode cX3_reasonAt 11 = .ok (.aload_n 0, 1) := by decide +kernel
theorem dX3_reasonAt_12 : decode cX3_reasonAt 12 = .ok (.aload_n 3, 1) := by decide +kernel
theorem dX3_reasonAt_13 : decode cX3_reasonAt 13 = .ok (.iload_n 2, 1) := by decide +kernel
theorem dX3_reasonAt_14 : decode cX3_reasonAt 14 = .ok (.invokevirtual 130, 3) := by decide +kernel
theorem dX3_reasonAt_17 : decode cX3_reasonAt 17 = .ok (.astore 4, 2) := by decide +kernel
theorem dX3_reasonAt_19 : decode cX3_reasonAt 19 = .ok (.aload 4, 2) := by decide +kernel
theorem dX3_reasonAt_21 : decode cX3_reasonAt 21 = .ok (.ifnull 9, 3) := by decide +kernel
theorem dX3_reasonAt_24 : decode cX3_reasonAt 24 = .ok (.aload 4, 2) := by decide +kernel
theorem dX3_reasonAt_26 : decode cX3_reasonAt 26 = .ok (.getfield 134, 3) := by decide +kernel
theorem dX3_reasonAt_29 : decode cX3_reasonAt 29 = .ok (.ireturn, 1) := by decide +kernel
theorem dX3_reasonAt_30 : decode cX3_reasonAt 30 = .ok (.iload_n 2, 1) := by decide +kernel
theorem dX3_reasonAt_31 : decode cX3_reasonAt 31 = .ok (.bipush 32, 2) := by decide +kernel
theorem dX3_reasonAt_33 : decode cX3_reasonAt 33 = .ok (.if_icmp .lt 8, 3) := by decide +kernel
theorem dX3_reasonAt_36 : decode cX3_reasonAt 36 = .ok (.bipush (-2), 2) := by decide +kernel
theorem dX3_reasonAt_38 : decode cX3_reasonAt 38 = .ok (.goto 4, 3) := by decide +kernel
theorem dX3_reasonAt_41 : decode cX3_reasonAt 41 = .ok (.iconst (-1), 1) := by decide +kernel
theorem dX3_reasonAt_42 : decode cX3_reasonAt 42 = .ok (.ireturn, 1) := by decide +kernel
set_option maxRecDepth 20000 in
theorem ggX3_missed_X3_findShift : GoodIn wsX3_missed wsX3_findShift := goodIn_ca (goodIn_r _ [5, 6, 7, 8, 9, 10, 11, 12, 13, 14, 15, 16, 17, 18, 19, 20, 21, 22, 23, 24, 25, 26, 27, 28, 29, 30, 31, 32, 49, 50, 51, 52, 53, 54, 55, 56] (by decide +kernel) (by decide +kernel)) (goodIn_sub (fun _ h => List.mem_cons_of_mem _ (List.mem_append_right _ h)) (by decide +kernel))
set_option maxRecDepth 20000 in
theorem gX3_missed_X3_findShift : GoodIn wsX3_missed (wsV RX3 101 RX3 yX3_findShift wsX3_findShift) := goodIn_app (goodIn_of _ (by decide +kernel)) ggX3_missed_X3_findShift
set_option maxRecDepth 20000 in
theorem ggX3_missed_X1_breaksMissed : GoodIn wsX3_missed wsX1_breaksMissed := goodIn_r _ [37, 38, 39, 40, 41, 42, 43, 44, 45, 46, 36, 47, 48, 57, 58, 59, 60, 61] (by decide +kernel) (by decide +kernel)
set_option maxRecDepth 20000 in
theorem gX3_missed_X1_breaksMissed : GoodIn wsX3_missed (wsV RX3 137 RX1 yX1_breaksMissed wsX1_breaksMissed) := goodIn_app (goodIn_of _ (by decide +kernel)) ggX3_missed_X1_breaksMissed
theorem dX3_missed_0 : decode cX3_missed 0 = .ok (.aload_n 0, 1) := by decide +kernel
theorem dX3_missed_1 : decode cX3_missed 1 = .ok (.iload_n 1, 1) := by decide +kernel
theorem dX3_missed_2 : decode cX3_missed 2 = .ok (.invokevirtual 101, 3) := by decide +kernel
theorem dX3_missed_5 : decode cX3_missed 5 = .ok (.invokevirtual 137, 3) := by decide +kernel
theorem dX3_missed_8 : decode cX3_missed 8 = .ok (.ireturn, 1) := by decide +kernel
set_option maxRecDepth 20000 in
theorem ggX3_pay_X3_findShift : GoodIn wsX3_pay wsX3_findShift := goodIn_ca (goodIn_r _ [5, 6, 7, 8, 9, 10, 11, 12, 13, 14, 15, 16, 17, 18, 19, 20, 21, 22, 23, 24, 25, 26, 27, 28, 29, 30, 31, 32, 112, 113, 114, 115, 116, 117, 118, 119] (by decide +kernel) (by decide +kernel)) (goodIn_sub (fun _ h => List.mem_cons_of_mem _ (List.mem_append_right _ h)) (by decide +kernel))
set_option maxRecDepth 20000 in
theorem gX3_pay_X3_findShift : GoodIn wsX3_pay (wsV RX3 101 RX3 yX3_findShift wsX3_findShift) := goodIn_app (goodIn_of _ (by decide +kernel)) ggX3_pay_X3_findShift
set_option maxRecDepth 20000 in
theorem ggX3_pay_X3_payFor : GoodIn wsX3_pay wsX3_payFor := goodIn_r _ [36, 37, 38, 39, 40, 41, 4, 42, 43, 44, 45, 46, 47, 48, 49, 50, 51, 52, 53, 54, 55, 56, 57, 58, 59, 60, 61, 62, 63, 64, 65, 66, 67, 68, 69, 70, 71, 72, 73, 74, 75, 76, 77, 78, 79, 80, 81, 82, 83, 84, 85, 86, 87, 88, 89, 90, 91, 10, 11, 12, 13, 14, 15, 16, 17, 18, 19, 20, 21, 22, 23, 24, 25, 26, 27, 28, 29, 30, 31, 32, 92, 93, 94, 95, 96, 97, 98, 99, 100, 101, 102, 103, 104, 105, 106, 107, 108, 109, 110, 111, 120, 121, 122, 123, 124, 125, 112, 113, 114, 115, 116, 126, 127, 128, 129, 130, 131, 132, 117, 118, 119] (by decide +kernel) (by decide +kernel)
set_option maxRecDepth 20000 in
theorem gX3_pay_X3_payFor : GoodIn wsX3_pay (wsV RX3 109 RX3 yX3_payFor wsX3_payFor) := goodIn_app (goodIn_of _ (by decide +kernel)) ggX3_pay_X3_payFor
theorem dX3_pay_0 : decode cX3_pay 0 = .ok (.aload_n 0, 1) := by decide +kernel
theorem dX3_pay_1 : decode cX3_pay 1 = .ok (.aload_n 0, 1) := by decide +kernel
theorem dX3_pay_2 : decode cX3_pay 2 = .ok (.iload_n 1, 1) := by decide +kernel
theorem dX3_pay_3 : decode cX3_pay 3 = .ok (.invokevirtual 101, 3) := by decide +kernel
theorem dX3_pay_6 : decode cX3_pay 6 = .ok (.invokevirtual 109, 3) := by decide +kernel
theorem dX3_pay_9 : decode cX3_pay 9 = .ok (.ireturn, 1) := by decide +kernel
set_option maxRecDepth 20000 in
theorem ggX3_payOf_X3_findWorker : GoodIn wsX3_payOf wsX3_findWorker := goodIn_ca (goodIn_r _ [8, 9, 10, 11, 12, 13, 14, 15, 16, 17, 18, 19, 20, 21, 22, 23, 24, 25, 26, 27, 28, 29, 30, 31, 32, 33, 34, 35, 119, 120, 121, 122, 123, 129, 130, 131] (by decide +kernel) (by decide +kernel)) (goodIn_sub (fun _ h => List.mem_cons_of_mem _ (List.mem_append_left _ (List.mem_append_right _ h))) (by decide +kernel))
set_option maxRecDepth 20000 in
theorem gX3_payOf_X3_findWorker : GoodIn wsX3_payOf (wsV RX3 82 RX3 yX3_findWorker wsX3_findWorker) := goodIn_app (goodIn_of _ (by decide +kernel)) ggX3_payOf_X3_findWorker
set_option maxRecDepth 20000 in
theorem ggX3_payOf_X3_checkArgument : GoodIn wsX3_payOf wsX3_checkArgument := goodIn_ca (goodIn_r _ [38, 39, 40] (by decide +kernel) (by decide +kernel)) (goodIn_sub (fun _ h => List.mem_cons_of_mem _ (List.mem_append_right _ h)) (by decide +kernel))
set_option maxRecDepth 20000 in
theorem gX3_payOf_X3_checkArgument : GoodIn wsX3_payOf (va_wsS RX3 43 yX3_checkArgument wsX3_checkArgument) := goodIn_app (goodIn_of _ (by decide +kernel)) ggX3_payOf_X3_checkArgument
set_option maxRecDepth 20000 in
theorem ggX3_payOf_Jx4a65c_size_8abf5 : GoodIn wsX3_payOf wsJx4a65c_size_8abf5 := goodIn_r _ [17, 18, 129, 130, 131] (by decide +kernel) (by decide +kernel)
set_option maxRecDepth 20000 in
theorem gX3_payOf_Jx4a65c_size_8abf5 : GoodIn wsX3_payOf (wsV RX3 47 RJx4a65c yJx4a65c_size_8abf5 wsJx4a65c_size_8abf5) := goodIn_app (goodIn_of _ (by decide +kernel)) ggX3_payOf_Jx4a65c_size_8abf5
set_option maxRecDepth 20000 in
theorem ggX3_payOf_Jx4a65c_get_915e3 : GoodIn wsX3_payOf wsJx4a65c_get_915e3 := goodIn_r _ [22, 18, 23, 24, 25, 26, 27, 28, 29, 30, 31, 32, 33, 16, 34, 35, 129, 130, 131] (by decide +kernel) (by decide +kernel)
set_option maxRecDepth 20000 in
theorem gX3_payOf_Jx4a65c_get_915e3 : GoodIn wsX3_payOf (wsV RX3 140 RJx4a65c yJx4a65c_get_915e3 wsJx4a65c_get_915e3) := goodIn_app (goodIn_of _ (by decide +kernel)) ggX3_payOf_Jx4a65c_get_915e3
set_option maxRecDepth 20000 in
theorem ggX3_payOf_X1_dayOf : GoodIn wsX3_payOf wsX1_dayOf := goodIn_r _ [45, 46, 124, 125, 126, 127, 128] (by decide +kernel) (by decide +kernel)
set_option maxRecDepth 20000 in
theorem gX3_payOf_X1_dayOf : GoodIn wsX3_payOf (wsV RX3 144 RX1 yX1_dayOf wsX1_dayOf) := goodIn_app (goodIn_of _ (by decide +kernel)) ggX3_payOf_X1_dayOf
set_option maxRecDepth 20000 in
theorem ggX3_payOf_X3_payFor : GoodIn wsX3_payOf wsX3_payFor := goodIn_r _ [50, 3, 51, 52, 53, 54, 7, 55, 56, 57, 58, 59, 44, 60, 61, 62, 63, 64, 65, 66, 67, 68, 69, 70, 71, 72, 73, 74, 75, 76, 77, 78, 79, 80, 81, 82, 83, 84, 85, 86, 41, 42, 43, 45, 46, 87, 88, 89, 90, 91, 92, 93, 94, 95, 96, 97, 98, 13, 14, 15, 16, 17, 18, 19, 20, 21, 22, 23, 24, 25, 26, 27, 28, 29, 30, 31, 32, 33, 34, 35, 99, 100, 101, 102, 103, 104, 105, 106, 107, 108, 109, 110, 111, 112, 113, 114, 115, 116, 117, 118, 124, 125, 126, 127, 128, 132, 119, 120, 121, 122, 123, 133, 134, 135, 136, 137, 138, 139, 129, 130, 131] (by decide +kernel) (by decide +kernel)
set_option maxRecDepth 20000 in
theorem gX3_payOf_X3_payFor : GoodIn wsX3_payOf (wsV RX3 109 RX3 yX3_payFor wsX3_payFor) := goodIn_app (goodIn_of _ (by decide +kernel)) ggX3_payOf_X3_payFor
theorem dX3_payOf_0 : decode cX3_payOf 0 = .ok (.aload_n 0, 1) := by decide +kernel
theorem dX3_payOf_1 : decode cX3_payOf 1 = .ok (.iload_n 1, 1) := by decide +kernel
theorem dX3_payOf_2 : decode cX3_payOf 2 = .ok (.invokevirtual 82, 3) := by decide +kernel
theorem dX3_payOf_5 : decode cX3_payOf 5 = .ok (.astore 4, 2) := by decide +kernel
theorem dX3_payOf_7 : decode cX3_payOf 7 = .ok (.iload_n 2, 1) := by decide +kernel
theorem dX3_payOf_8 : decode cX3_payOf 8 = .ok (.iconst 0, 1) := by decide +kernel
theorem dX3_payOf_9 : decode cX3_payOf 9 = .ok (.sipush 363, 3) := by decide +kernel
theorem dX3_payOf_12 : decode cX3_payOf 12 = .ok (.invokestatic 43, 3) := by decide +kernel
theorem dX3_payOf_15 : decode cX3_payOf 15 = .ok (.iload_n 3, 1) := by decide +kernel
theorem dX3_payOf_16 : decode cX3_payOf 16 = .ok (.iload_n 2, 1) := by decide +kernel
theorem dX3_payOf_17 : decode cX3_payOf 17 = .ok (.sipush 363, 3) := by decide +kernel
theorem dX3_payOf_20 : decode cX3_payOf 20 = .ok (.invokestatic 43, 3) := by decide +kernel
theorem dX3_payOf_23 : decode cX3_payOf 23 = .ok (.iconst 0, 1) := by decide +kernel
theorem dX3_payOf_24 : decode cX3_payOf 24 = .ok (.istore 5, 2) := by decide +kernel
theorem dX3_payOf_26 : decode cX3_payOf 26 = .ok (.iconst 0, 1) := by decide +kernel
theorem dX3_payOf_27 : decode cX3_payOf 27 = .ok (.istore 6, 2) := by decide +kernel
theorem dX3_payOf_29 : decode cX3_payOf 29 = .ok (.iload 6, 2) := by decide +kernel
theorem dX3_payOf_31 : decode cX3_payOf 31 = .ok (.aload_n 0, 1) := by decide +kernel
theorem dX3_payOf_32 : decode cX3_payOf 32 = .ok (.getfield 33, 3) := by decide +kernel
theorem dX3_payOf_35 : decode cX3_payOf 35 = .ok (.invokevirtual 47, 3) := by decide +kernel
theorem dX3_payOf_38 : decode cX3_payOf 38 = .ok (.if_icmp .ge 64, 3) := by decide +kernel
theorem dX3_payOf_41 : decode cX3_payOf 41 = .ok (.aload_n 0, 1) := by decide +kernel
theorem dX3_payOf_42 : decode cX3_payOf 42 = .ok (.getfield 33, 3) := by decide +kernel
theorem dX3_payOf_45 : decode cX3_payOf 45 = .ok (.iload 6, 2) := by decide +kernel
theorem dX3_payOf_47 : decode cX3_payOf 47 = .ok (.invokevirtual 140, 3) := by decide +kernel
theorem dX3_payOf_50 : decode cX3_payOf 50 = .ok (.checkcast 96, 3) := by decide +kernel
theorem dX3_payOf_53 : decode cX3_payOf 53 = .ok (.astore 7, 2) := by decide +kernel
theorem dX3_payOf_55 : decode cX3_payOf 55 = .ok (.aload 7, 2) := by decide +kernel
theorem dX3_payOf_57 : decode cX3_payOf 57 = .ok (.iconst 0, 1) := by decide +kernel
theorem dX3_payOf_58 : decode cX3_payOf 58 = .ok (.invokevirtual 144, 3) := by decide +kernel
theorem dX3_payOf_61 : decode cX3_payOf 61 = .ok (.istore 8, 2) := by decide +kernel
theorem dX3_payOf_63 : decode cX3_payOf 63 = .ok (.aload 7, 2) := by decide +kernel
theorem dX3_payOf_65 : decode cX3_payOf 65 = .ok (.getfield 148, 3) := by decide +kernel
theorem dX3_payOf_68 : decode cX3_payOf 68 = .ok (.aload 4, 2) := by decide +kernel
theorem dX3_payOf_70 : decode cX3_payOf 70 = .ok (.if_acmp .ne 26, 3) := by decide +kernel
theorem dX3_payOf_73 : decode cX3_payOf 73 = .ok (.iload 8, 2) := by decide +kernel
theorem dX3_payOf_75 : decode cX3_payOf 75 = .ok (.iload_n 2, 1) := by decide +kernel
theorem dX3_payOf_76 : decode cX3_payOf 76 = .ok (.if_icmp .lt 20, 3) := by decide +kernel
theorem dX3_payOf_79 : decode cX3_payOf 79 = .ok (.iload 8, 2) := by decide +kernel
theorem dX3_payOf_81 : decode cX3_payOf 81 = .ok (.iload_n 3, 1) := by decide +kernel
theorem dX3_payOf_82 : decode cX3_payOf 82 = .ok (.if_icmp .gt 14, 3) := by decide +kernel
theorem dX3_payOf_85 : decode cX3_payOf 85 = .ok (.iload 5, 2) := by decide +kernel
theorem dX3_payOf_87 : decode cX3_payOf 87 = .ok (.aload_n 0, 1) := by decide +kernel
theorem dX3_payOf_88 : decode cX3_payOf 88 = .ok (.aload 7, 2) := by decide +kernel
theorem dX3_payOf_90 : decode cX3_payOf 90 = .ok (.invokevirtual 109, 3) := by decide +kernel
theorem dX3_payOf_93 : decode cX3_payOf 93 = .ok (.iadd, 1) := by decide +kernel
theorem dX3_payOf_94 : decode cX3_payOf 94 = .ok (.istore 5, 2) := by decide +kernel
theorem dX3_payOf_96 : decode cX3_payOf 96 = .ok (.iinc 6 1, 3) := by decide +kernel
theorem dX3_payOf_99 : decode cX3_payOf 99 = .ok (.goto (-70), 3) := by decide +kernel
theorem dX3_payOf_102 : decode cX3_payOf 102 = .ok (.iload 5, 2) := by decide +kernel
theorem dX3_payOf_104 : decode cX3_payOf 104 = .ok (.ireturn, 1) := by decide +kernel
set_option maxRecDepth 20000 in
theorem ggX3_paidBy_X3_findRule : GoodIn wsX3_paidBy wsX3_findRule := goodIn_ca (goodIn_r _ [7, 8, 9, 10, 11, 12, 13, 14, 15, 16, 17, 18, 19, 20, 21, 22, 23, 24, 25, 26, 27, 28, 29, 30, 31, 32, 33, 34, 100, 101, 102, 103, 104, 105, 106, 107] (by decide +kernel) (by decide +kernel)) (goodIn_sub (fun _ h => List.mem_cons_of_mem _ (List.mem_append_right _ h)) (by decide +kernel))
set_option maxRecDepth 20000 in
theorem gX3_paidBy_X3_findRule : GoodIn wsX3_paidBy (wsV RX3 65 RX3 yX3_findRule wsX3_findRule) := goodIn_app (goodIn_of _ (by decide +kernel)) ggX3_paidBy_X3_findRule
set_option maxRecDepth 20000 in
theorem ggX3_paidBy_Jx4a65c_size_8abf5 : GoodIn wsX3_paidBy wsJx4a65c_size_8abf5 := goodIn_r _ [16, 17, 105, 106, 107] (by decide +kernel) (by decide +kernel)
set_option maxRecDepth 20000 in
theorem gX3_paidBy_Jx4a65c_size_8abf5 : GoodIn wsX3_paidBy (wsV RX3 47 RJx4a65c yJx4a65c_size_8abf5 wsJx4a65c_size_8abf5) := goodIn_app (goodIn_of _ (by decide +kernel)) ggX3_paidBy_Jx4a65c_size_8abf5
set_option maxRecDepth 20000 in
theorem ggX3_paidBy_Jx4a65c_get_915e3 : GoodIn wsX3_paidBy wsJx4a65c_get_915e3 := goodIn_r _ [21, 17, 22, 23, 24, 25, 26, 27, 28, 29, 30, 31, 32, 15, 33, 34, 105, 106, 107] (by decide +kernel) (by decide +kernel)
set_option maxRecDepth 20000 in
theorem gX3_paidBy_Jx4a65c_get_915e3 : GoodIn wsX3_paidBy (wsV RX3 140 RJx4a65c yJx4a65c_get_915e3 wsJx4a65c_get_915e3) := goodIn_app (goodIn_of _ (by decide +kernel)) ggX3_paidBy_Jx4a65c_get_915e3
set_option maxRecDepth 20000 in
theorem ggX3_paidBy_X3_payByRule : GoodIn wsX3_paidBy wsX3_payByRule := goodIn_r _ [38, 39, 40, 41, 42, 43, 44, 45, 6, 46, 47, 48, 49, 50, 51, 52, 53, 54, 55, 56, 57, 58, 59, 60, 61, 62, 10, 11, 63, 64, 65, 66, 67, 68, 69, 70, 71, 72, 73, 74, 75, 76, 77, 78, 79, 12, 13, 14, 15, 16, 17, 18, 19, 20, 21, 22, 23, 24, 25, 26, 27, 28, 29, 30, 31, 32, 33, 34, 80, 81, 82, 83, 84, 85, 86, 87, 88, 89, 90, 91, 92, 93, 94, 95, 96, 97, 98, 99, 108, 109, 110, 111, 112, 113, 114, 115, 116, 117, 118, 119, 120, 100, 101, 102, 103, 104, 105, 106, 107] (by decide +kernel) (by decide +kernel)
set_option maxRecDepth 20000 in
theorem gX3_paidBy_X3_payByRule : GoodIn wsX3_paidBy (wsV RX3 152 RX3 yX3_payByRule wsX3_payByRule) := goodIn_app (goodIn_of _ (by decide +kernel)) ggX3_paidBy_X3_payByRule
theorem dX3_paidBy_0 : decode cX3_paidBy 0 = .ok (.aload_n 0, 1) := by decide +kernel
theorem dX3_paidBy_1 : decode cX3_paidBy 1 = .ok (.iload_n 1, 1) := by decide +kernel
theorem dX3_paidBy_2 : decode cX3_paidBy 2 = .ok (.invokevirtual 65, 3) := by decide +kernel
theorem dX3_paidBy_5 : decode cX3_paidBy 5 = .ok (.astore_n 2, 1) := by decide +kernel
theorem dX3_paidBy_6 : decode cX3_paidBy 6 = .ok (.iconst 0, 1) := by decide +kernel
theorem dX3_paidBy_7 : decode cX3_paidBy 7 = .ok (.istore_n 3, 1) := by decide +kernel
theorem dX3_paidBy_8 : decode cX3_paidBy 8 = .ok (.iconst 0, 1) := by decide +kernel
theorem dX3_paidBy_9 : decode cX3_paidBy 9 = .ok (.istore 4, 2) := by decide +kernel
theorem dX3_paidBy_11 : decode cX3_paidBy 11 = .ok (.iload 4, 2) := by decide +kernel
theorem dX3_paidBy_13 : decode cX3_paidBy 13 = .ok (.aload_n 0, 1) := by decide +kernel
theorem dX3_paidBy_14 : decode cX3_paidBy 14 = .ok (.getfield 33, 3) := by decide +kernel
theorem dX3_paidBy_17 : decode cX3_paidBy 17 = .ok (.invokevirtual 47, 3) := by decide +kernel
theorem dX3_paidBy_20 : decode cX3_paidBy 20 = .ok (.if_icmp .ge 29, 3) := by decide +kernel
theorem dX3_paidBy_23 : decode cX3_paidBy 23 = .ok (.iload_n 3, 1) := by decide +kernel
theorem dX3_paidBy_24 : decode cX3_paidBy 24 = .ok (.aload_n 0, 1) := by decide +kernel
theorem dX3_paidBy_25 : decode cX3_paidBy 25 = .ok (.aload_n 0, 1) := by decide +kernel
theorem dX3_paidBy_26 : decode cX3_paidBy 26 = .ok (.getfield 33, 3) := by decide +kernel
theorem dX3_paidBy_29 : decode cX3_paidBy 29 = .ok (.iload 4, 2) := by decide +kernel
theorem dX3_paidBy_31 : decode cX3_paidBy 31 = .ok (.invokevirtual 140, 3) := by decide +kernel
theorem dX3_paidBy_34 : decode cX3_paidBy 34 = .ok (.checkcast 96, 3) := by decide +kernel
theorem dX3_paidBy_37 : decode cX3_paidBy 37 = .ok (.aload_n 2, 1) := by decide +kernel
theorem dX3_paidBy_38 : decode cX3_paidBy 38 = .ok (.invokevirtual 152, 3) := by decide +kernel
theorem dX3_paidBy_41 : decode cX3_paidBy 41 = .ok (.iadd, 1) := by decide +kernel
theorem dX3_paidBy_42 : decode cX3_paidBy 42 = .ok (.istore_n 3, 1) := by decide +kernel
theorem dX3_paidBy_43 : decode cX3_paidBy 43 = .ok (.iinc 4 1, 3) := by decide +kernel
theorem dX3_paidBy_46 : decode cX3_paidBy 46 = .ok (.goto (-35), 3) := by decide +kernel
theorem dX3_paidBy_49 : decode cX3_paidBy 49 = .ok (.iload_n 3, 1) := by decide +kernel
theorem dX3_paidBy_50 : decode cX3_paidBy 50 = .ok (.ireturn, 1) := by decide +kernel
set_option maxRecDepth 20000 in
theorem ggX3_worked_X3_findWorker : GoodIn wsX3_worked wsX3_findWorker := goodIn_ca (goodIn_r _ [5, 6, 7, 8, 9, 10, 11, 12, 13, 14, 15, 16, 17, 18, 19, 20, 21, 22, 23, 24, 25, 26, 27, 28, 29, 30, 31, 32, 64, 65, 66, 67, 68, 69, 70, 71] (by decide +kernel) (by decide +kernel)) (goodIn_sub (fun _ h => List.mem_cons_of_mem _ (List.mem_append_left _ (List.mem_append_right _ h))) (by decide +kernel))
set_option maxRecDepth 20000 in
theorem gX3_worked_X3_findWorker : GoodIn wsX3_worked (wsV RX3 82 RX3 yX3_findWorker wsX3_findWorker) := goodIn_app (goodIn_of _ (by decide +kernel)) ggX3_worked_X3_findWorker
set_option maxRecDepth 20000 in
theorem ggX3_worked_X3_checkArgument : GoodIn wsX3_worked wsX3_checkArgument := goodIn_ca (goodIn_r _ [35, 36, 37] (by decide +kernel) (by decide +kernel)) (goodIn_sub (fun _ h => List.mem_cons_of_mem _ (List.mem_append_right _ h)) (by decide +kernel))
set_option maxRecDepth 20000 in
theorem gX3_worked_X3_checkArgument : GoodIn wsX3_worked (va_wsS RX3 43 yX3_checkArgument wsX3_checkArgument) := goodIn_app (goodIn_of _ (by decide +kernel)) ggX3_worked_X3_checkArgument
set_option maxRecDepth 20000 in
theorem ggX3_worked_X3_workedInWeeks : GoodIn wsX3_worked wsX3_workedInWeeks := goodIn_r _ [41, 42, 43, 44, 4, 45, 46, 47, 48, 49, 10, 11, 12, 13, 14, 15, 16, 17, 18, 19, 20, 21, 22, 23, 24, 25, 26, 27, 28, 29, 30, 31, 32, 50, 51, 52, 53, 54, 55, 56, 57, 58, 59, 60, 61, 62, 63, 64, 65, 66, 67, 68, 72, 73, 74, 75, 76, 69, 70, 71] (by decide +kernel) (by decide +kernel)
set_option maxRecDepth 20000 in
theorem gX3_worked_X3_workedInWeeks : GoodIn wsX3_worked (wsV RX3 156 RX3 yX3_workedInWeeks wsX3_workedInWeeks) := goodIn_app (goodIn_of _ (by decide +kernel)) ggX3_worked_X3_workedInWeeks
theorem dX3_worked_0 : decode cX3_worked 0 = .ok (.aload_n 0, 1) := by decide +kernel
theorem dX3_worked_1 : decode cX3_worked 1 = .ok (.iload_n 1, 1) := by decide +kernel
theorem dX3_worked_2 : decode cX3_worked 2 = .ok (.invokevirtual 82, 3) := by decide +kernel
theorem dX3_worked_5 : decode cX3_worked 5 = .ok (.astore_n 3, 1) := by decide +kernel
theorem dX3_worked_6 : decode cX3_worked 6 = .ok (.iload_n 2, 1) := by decide +kernel
theorem dX3_worked_7 : decode cX3_worked 7 = .ok (.iconst 0, 1) := by decide +kernel
theorem dX3_worked_8 : decode cX3_worked 8 = .ok (.bipush 51, 2) := by decide +kernel
theorem dX3_worked_10 : decode cX3_worked 10 = .ok (.invokestatic 43, 3) := by decide +kernel
theorem dX3_worked_13 : decode cX3_worked 13 = .ok (.aload_n 0, 1) := by decide +kernel
theorem dX3_worked_14 : decode cX3_worked 14 = .ok (.aload_n 3, 1) := by decide +kernel
theorem dX3_worked_15 : decode cX3_worked 15 = .ok (.iload_n 2, 1) := by decide +kernel
theorem dX3_worked_16 : decode cX3_worked 16 = .ok (.iconst 1, 1) := by decide +kernel
theorem dX3_worked_17 : decode cX3_worked 17 = .ok (.invokevirtual 156, 3) := by decide +kernel
theorem dX3_worked_20 : decode cX3_worked 20 = .ok (.ireturn, 1) := by decide +kernel
set_option maxRecDepth 20000 in
theorem ggX3_excess_X3_findWorker : GoodIn wsX3_excess wsX3_findWorker := goodIn_ca (goodIn_r _ [9, 10, 11, 12, 13, 14, 15, 16, 17, 18, 19, 20, 21, 22, 23, 24, 25, 26, 27, 28, 29, 30, 31, 32, 33, 34, 35, 36, 65, 66, 67, 68, 69, 70, 71, 72] (by decide +kernel) (by decide +kernel)) (goodIn_sub (fun _ h => List.mem_cons_of_mem _ (List.mem_append_left _ (List.mem_append_right _ h))) (by decide +kernel))
set_option maxRecDepth 20000 in
theorem gX3_excess_X3_findWorker : GoodIn wsX3_excess (wsV RX3 82 RX3 yX3_findWorker wsX3_findWorker) := goodIn_app (goodIn_of _ (by decide +kernel)) ggX3_excess_X3_findWorker
set_option maxRecDepth 20000 in
theorem ggX3_excess_X3_checkArgument : GoodIn wsX3_excess wsX3_checkArgument := goodIn_ca (goodIn_r _ [39, 40, 41] (by decide +kernel) (by decide +kernel)) (goodIn_sub (fun _ h => List.mem_cons_of_mem _ (List.mem_append_right _ h)) (by decide +kernel))
set_option maxRecDepth 20000 in
theorem gX3_excess_X3_checkArgument : GoodIn wsX3_excess (va_wsS RX3 43 yX3_checkArgument wsX3_checkArgument) := goodIn_app (goodIn_of _ (by decide +kernel)) ggX3_excess_X3_checkArgument
set_option maxRecDepth 20000 in
theorem ggX3_excess_X3_workedInWeeks : GoodIn wsX3_excess wsX3_workedInWeeks := goodIn_r _ [45, 46, 47, 48, 8, 49, 50, 51, 52, 53, 14, 15, 16, 17, 18, 19, 20, 21, 22, 23, 24, 25, 26, 27, 28, 29, 30, 31, 32, 33, 34, 35, 36, 54, 55, 56, 57, 58, 59, 60, 61, 62, 3, 63, 64, 2, 4, 65, 66, 67, 68, 69, 73, 74, 75, 76, 77, 70, 71, 72] (by decide +kernel) (by decide +kernel)
set_option maxRecDepth 20000 in
theorem gX3_excess_X3_workedInWeeks : GoodIn wsX3_excess (wsV RX3 156 RX3 yX3_workedInWeeks wsX3_workedInWeeks) := goodIn_app (goodIn_of _ (by decide +kernel)) ggX3_excess_X3_workedInWeeks
theorem dX3_excess_0 : decode cX3_excess 0 = .ok (.aload_n 0, 1) := by decide +kernel
theorem dX3_excess_1 : decode cX3_excess 1 = .ok (.iload_n 1, 1) := by decide +kernel
theorem dX3_excess_2 : decode cX3_excess 2 = .ok (.invokevirtual 82, 3) := by decide +kernel
theorem dX3_excess_5 : decode cX3_excess 5 = .ok (.astore_n 3, 1) := by decide +kernel
theorem dX3_excess_6 : decode cX3_excess 6 = .ok (.iload_n 2, 1) := by decide +kernel
theorem dX3_excess_7 : decode cX3_excess 7 = .ok (.iconst 0, 1) := by decide +kernel
theorem dX3_excess_8 : decode cX3_excess 8 = .ok (.bipush 12, 2) := by decide +kernel
theorem dX3_excess_10 : decode cX3_excess 10 = .ok (.invokestatic 43, 3) := by decide +kernel
theorem dX3_excess_13 : decode cX3_excess 13 = .ok (.aload_n 0, 1) := by decide +kernel
theorem dX3_excess_14 : decode cX3_excess 14 = .ok (.aload_n 3, 1) := by decide +kernel
theorem dX3_excess_15 : decode cX3_excess 15 = .ok (.iload_n 2, 1) := by decide +kernel
theorem dX3_excess_16 : decode cX3_excess 16 = .ok (.iconst 4, 1) := by decide +kernel
theorem dX3_excess_17 : decode cX3_excess 17 = .ok (.imul, 1) := by decide +kernel
theorem dX3_excess_18 : decode cX3_excess 18 = .ok (.iconst 4, 1) := by decide +kernel
theorem dX3_excess_19 : decode cX3_excess 19 = .ok (.invokevirtual 156, 3) := by decide +kernel
theorem dX3_excess_22 : decode cX3_excess 22 = .ok (.istore 4, 2) := by decide +kernel
theorem dX3_excess_24 : decode cX3_excess 24 = .ok (.iload 4, 2) := by decide +kernel
theorem dX3_excess_26 : decode cX3_excess 26 = .ok (.sipush 608, 3) := by decide +kernel
theorem dX3_excess_29 : decode cX3_excess 29 = .ok (.isub, 1) := by decide +kernel
theorem dX3_excess_30 : decode cX3_excess 30 = .ok (.iconst 0, 1) := by decide +kernel
theorem dX3_excess_31 : decode cX3_excess 31 = .ok (.invokestatic 160, 3) := by decide +kernel
theorem dX3_excess_34 : decode cX3_excess 34 = .ok (.ireturn, 1) := by decide +kernel
theorem dX3_checkArgument_0 : decode cX3_checkArgument 0 = .ok (.iload_n 0, 1) := by decide +kernel
theorem dX3_checkArgument_1 : decode cX3_checkArgument 1 = .ok (.iload_n 1, 1) := by decide +kernel
theorem dX3_checkArgument_2 : decode cX3_checkArgument 2 = .ok (.if_icmp .lt 8, 3) := by decide +kernel
theorem dX3_checkArgument_5 : decode cX3_checkArgument 5 = .ok (.iload_n 0, 1) := by decide +kernel
theorem dX3_checkArgument_6 : decode cX3_checkArgument 6 = .ok (.iload_n 2, 1) := by decide +kernel
theorem dX3_checkArgument_7 : decode cX3_checkArgument 7 = .ok (.if_icmp .le 13, 3) := by decide +kernel
theorem dX3_checkArgument_10 : decode cX3_checkArgument 10 = .ok (.new 36, 3) := by decide +kernel
theorem dX3_checkArgument_13 : decode cX3_checkArgument 13 = .ok (.dup, 1) := by decide +kernel
theorem dX3_checkArgument_14 : decode cX3_checkArgument 14 = .ok (.ldc 166, 2) := by decide +kernel
theorem dX3_checkArgument_16 : decode cX3_checkArgument 16 = .ok (.invokespecial 40, 3) := by decide +kernel
theorem dX3_checkArgument_19 : decode cX3_checkArgument 19 = .ok (.athrow, 1) := by decide +kernel
theorem dX3_checkArgument_20 : decode cX3_checkArgument 20 = .ok (.return_, 1) := by decide +kernel
theorem dX3_checkNotCancelled_0 : decode cX3_checkNotCancelled 0 = .ok (.aload_n 0, 1) := by decide +kernel
theorem dX3_checkNotCancelled_1 : decode cX3_checkNotCancelled 1 = .ok (.getfield 113, 3) := by decide +kernel
theorem dX3_checkNotCancelled_4 : decode cX3_checkNotCancelled 4 = .ok (.ifCond .eq 13, 3) := by decide +kernel
theorem dX3_checkNotCancelled_7 : decode cX3_checkNotCancelled 7 = .ok (.new 51, 3) := by decide +kernel
theorem dX3_checkNotCancelled_10 : decode cX3_checkNotCancelled 10 = .ok (.dup, 1) := by decide +kernel
theorem dX3_checkNotCancelled_11 : decode cX3_checkNotCancelled 11 = .ok (.ldc 168, 2) := by decide +kernel
theorem dX3_checkNotCancelled_13 : decode cX3_checkNotCancelled 13 = .ok (.invokespecial 55, 3) := by decide +kernel
theorem dX3_checkNotCancelled_16 : decode cX3_checkNotCancelled 16 = .ok (.athrow, 1) := by decide +kernel
theorem dX3_checkNotCancelled_17 : decode cX3_checkNotCancelled 17 = .ok (.return_, 1) := by decide +kernel
set_option maxRecDepth 20000 in
theorem ggX3_checkPaidQuarter_X1_paidLength : GoodIn wsX3_checkPaidQuarter wsX1_paidLength := goodIn_r _ [7, 8, 9, 10, 11, 12, 13, 14, 15, 16, 17, 18] (by decide +kernel) (by decide +kernel)
set_option maxRecDepth 20000 in
theorem gX3_checkPaidQuarter_X1_paidLength : GoodIn wsX3_checkPaidQuarter (wsV RX3 119 RX1 yX1_paidLength wsX1_paidLength) := goodIn_app (goodIn_of _ (by decide +kernel)) ggX3_checkPaidQuarter_X1_paidLength
theorem dX3_checkPaidQuarter_0 : decode cX3_checkPaidQuarter 0 = .ok (.iload_n 1, 1) := by decide +kernel
theorem dX3_checkPaidQuarter_1 : decode cX3_checkPaidQuarter 1 = .ok (.ifCond .lt 11, 3) := by decide +kernel
theorem dX3_checkPaidQuarter_4 : decode cX3_checkPaidQuarter 4 = .ok (.iload_n 1, 1) := by decide +kernel
theorem dX3_checkPaidQuarter_5 : decode cX3_checkPaidQuarter 5 = .ok (.aload_n 0, 1) := by decide +kernel
theorem dX3_checkPaidQuarter_6 : decode cX3_checkPaidQuarter 6 = .ok (.invokevirtual 119, 3) := by decide +kernel
theorem dX3_checkPaidQuarter_9 : decode cX3_checkPaidQuarter 9 = .ok (.if_icmp .lt 13, 3) := by decide +kernel
theorem dX3_checkPaidQuarter_12 : decode cX3_checkPaidQuarter 12 = .ok (.new 170, 3) := by decide +kernel
theorem dX3_checkPaidQuarter_15 : decode cX3_checkPaidQuarter 15 = .ok (.dup, 1) := by decide +kernel
theorem dX3_checkPaidQuarter_16 : decode cX3_checkPaidQuarter 16 = .ok (.ldc 172, 2) := by decide +kernel
theorem dX3_checkPaidQuarter_18 : decode cX3_checkPaidQuarter 18 = .ok (.invokespecial 174, 3) := by decide +kernel
theorem dX3_checkPaidQuarter_21 : decode cX3_checkPaidQuarter 21 = .ok (.athrow, 1) := by decide +kernel
theorem dX3_checkPaidQuarter_22 : decode cX3_checkPaidQuarter 22 = .ok (.return_, 1) := by decide +kernel
set_option maxRecDepth 20000 in
theorem ggX3_findRule_Jx4a65c_size_8abf5 : GoodIn wsX3_findRule wsJx4a65c_size_8abf5 := goodIn_r _ [9, 10, 33, 34, 35] (by decide +kernel) (by decide +kernel)
set_option maxRecDepth 20000 in
theorem gX3_findRule_Jx4a65c_size_8abf5 : GoodIn wsX3_findRule (wsV RX3 47 RJx4a65c yJx4a65c_size_8abf5 wsJx4a65c_size_8abf5) := goodIn_app (goodIn_of _ (by decide +kernel)) ggX3_findRule_Jx4a65c_size_8abf5
set_option maxRecDepth 20000 in
theorem ggX3_findRule_Jx4a65c_get_915e3 : GoodIn wsX3_findRule wsJx4a65c_get_915e3 := goodIn_r _ [14, 10, 15, 16, 17, 18, 19, 20, 21, 22, 23, 24, 25, 8, 26, 27, 33, 34, 35] (by decide +kernel) (by decide +kernel)
set_option maxRecDepth 20000 in
theorem gX3_findRule_Jx4a65c_get_915e3 : GoodIn wsX3_findRule (wsV RX3 140 RJx4a65c yJx4a65c_get_915e3 wsJx4a65c_get_915e3) := goodIn_app (goodIn_of _ (by decide +kernel)) ggX3_findRule_Jx4a65c_get_915e3
theorem dX3_findRule_0 : decode cX3_findRule 0 = .ok (.iload_n 1, 1) := by decide +kernel
theorem dX3_findRule_1 : decode cX3_findRule 1 = .ok (.ifCond .lt 14, 3) := by decide +kernel
theorem dX3_findRule_4 : decode cX3_findRule 4 = .ok (.iload_n 1, 1) := by decide +kernel
theorem dX3_findRule_5 : decode cX3_findRule 5 = .ok (.aload_n 0, 1) := by decide +kernel
theorem dX3_findRule_6 : decode cX3_findRule 6 = .ok (.getfield 26, 3) := by decide +kernel
theorem dX3_findRule_9 : decode cX3_findRule 9 = .ok (.invokevirtual 47, 3) := by decide +kernel
theorem dX3_findRule_12 : decode cX3_findRule 12 = .ok (.if_icmp .lt 13, 3) := by decide +kernel
theorem dX3_findRule_15 : decode cX3_findRule 15 = .ok (.new 170, 3) := by decide +kernel
theorem dX3_findRule_18 : decode cX3_findRule 18 = .ok (.dup, 1) := by decide +kernel
theorem dX3_findRule_19 : decode cX3_findRule 19 = .ok (.ldc 175, 2) := by decide +kernel
theorem dX3_findRule_21 : decode cX3_findRule 21 = .ok (.invokespecial 174, 3) := by decide +kernel
theorem dX3_findRule_24 : decode cX3_findRule 24 = .ok (.athrow, 1) := by decide +kernel
theorem dX3_findRule_25 : decode cX3_findRule 25 = .ok (.aload_n 0, 1) := by decide +kernel
theorem dX3_findRule_26 : decode cX3_findRule 26 = .ok (.getfield 26, 3) := by decide +kernel
theorem dX3_findRule_29 : decode cX3_findRule 29 = .ok (.iload_n 1, 1) := by decide +kernel
theorem dX3_findRule_30 : decode cX3_findRule 30 = .ok (.invokevirtual 140, 3) := by decide +kernel
theorem dX3_findRule_33 : decode cX3_findRule 33 = .ok (.checkcast 56, 3) := by decide +kernel
theorem dX3_findRule_36 : decode cX3_findRule 36 = .ok (.areturn, 1) := by decide +kernel
set_option maxRecDepth 20000 in
theorem ggX3_findWorker_Jx4a65c_size_8abf5 : GoodIn wsX3_findWorker wsJx4a65c_size_8abf5 := goodIn_r _ [9, 10, 33, 34, 35] (by decide +kernel) (by decide +kernel)
set_option maxRecDepth 20000 in
theorem gX3_findWorker_Jx4a65c_size_8abf5 : GoodIn wsX3_findWorker (wsV RX3 47 RJx4a65c yJx4a65c_size_8abf5 wsJx4a65c_size_8abf5) := goodIn_app (goodIn_of _ (by decide +kernel)) ggX3_findWorker_Jx4a65c_size_8abf5
set_option maxRecDepth 20000 in
theorem ggX3_findWorker_Jx4a65c_get_915e3 : GoodIn wsX3_findWorker wsJx4a65c_get_915e3 := goodIn_r _ [14, 10, 15, 16, 17, 18, 19, 20, 21, 22, 23, 24, 25, 8, 26, 27, 33, 34, 35] (by decide +kernel) (by decide +kernel)
set_option maxRecDepth 20000 in
theorem gX3_findWorker_Jx4a65c_get_915e3 : GoodIn wsX3_findWorker (wsV RX3 140 RJx4a65c yJx4a65c_get_915e3 wsJx4a65c_get_915e3) := goodIn_app (goodIn_of _ (by decide +kernel)) ggX3_findWorker_Jx4a65c_get_915e3
theorem dX3_findWorker_0 : decode cX3_findWorker 0 = .ok (.iload_n 1, 1) := by decide +kernel
theorem dX3_findWorker_1 : decode cX3_findWorker 1 = .ok (.ifCond .lt 14, 3) := by decide +kernel
theorem dX3_findWorker_4 : decode cX3_findWorker 4 = .ok (.iload_n 1, 1) := by decide +kernel
theorem dX3_findWorker_5 : decode cX3_findWorker 5 = .ok (.aload_n 0, 1) := by decide +kernel
theorem dX3_findWorker_6 : decode cX3_findWorker 6 = .ok (.getfield 30, 3) := by decide +kernel
theorem dX3_findWorker_9 : decode cX3_findWorker 9 = .ok (.invokevirtual 47, 3) := by decide +kernel
theorem dX3_findWorker_12 : decode cX3_findWorker 12 = .ok (.if_icmp .lt 13, 3) := by decide +kernel
theorem dX3_findWorker_15 : decode cX3_findWorker 15 = .ok (.new 170, 3) := by decide +kernel
theorem dX3_findWorker_18 : decode cX3_findWorker 18 = .ok (.dup, 1) := by decide +kernel
theorem dX3_findWorker_19 : decode cX3_findWorker 19 = .ok (.ldc 177, 2) := by decide +kernel
theorem dX3_findWorker_21 : decode cX3_findWorker 21 = .ok (.invokespecial 174, 3) := by decide +kernel
theorem dX3_findWorker_24 : decode cX3_findWorker 24 = .ok (.athrow, 1) := by decide +kernel
theorem dX3_findWorker_25 : decode cX3_findWorker 25 = .ok (.aload_n 0, 1) := by decide +kernel
theorem dX3_findWorker_26 : decode cX3_findWorker 26 = .ok (.getfield 30, 3) := by decide +kernel
theorem dX3_findWorker_29 : decode cX3_findWorker 29 = .ok (.iload_n 1, 1) := by decide +kernel
theorem dX3_findWorker_30 : decode cX3_findWorker 30 = .ok (.invokevirtual 140, 3) := by decide +kernel
theorem dX3_findWorker_33 : decode cX3_findWorker 33 = .ok (.checkcast 77, 3) := by decide +kernel
theorem dX3_findWorker_36 : decode cX3_findWorker 36 = .ok (.areturn, 1) := by decide +kernel
set_option maxRecDepth 20000 in
theorem ggX3_findShift_Jx4a65c_size_8abf5 : GoodIn wsX3_findShift wsJx4a65c_size_8abf5 := goodIn_r _ [9, 10, 33, 34, 35] (by decide +kernel) (by decide +kernel)
set_option maxRecDepth 20000 in
theorem gX3_findShift_Jx4a65c_size_8abf5 : GoodIn wsX3_findShift (wsV RX3 47 RJx4a65c yJx4a65c_size_8abf5 wsJx4a65c_size_8abf5) := goodIn_app (goodIn_of _ (by decide +kernel)) ggX3_findShift_Jx4a65c_size_8abf5
set_option maxRecDepth 20000 in
theorem ggX3_findShift_Jx4a65c_get_915e3 : GoodIn wsX3_findShift wsJx4a65c_get_915e3 := goodIn_r _ [14, 10, 15, 16, 17, 18, 19, 20, 21, 22, 23, 24, 25, 8, 26, 27, 33, 34, 35] (by decide +kernel) (by decide +kernel)
set_option maxRecDepth 20000 in
theorem gX3_findShift_Jx4a65c_get_915e3 : GoodIn wsX3_findShift (wsV RX3 140 RJx4a65c yJx4a65c_get_915e3 wsJx4a65c_get_915e3) := goodIn_app (goodIn_of _ (by decide +kernel)) ggX3_findShift_Jx4a65c_get_915e3
theorem dX3_findShift_0 : decode cX3_findShift 0 = .ok (.iload_n 1, 1) := by decide +kernel
theorem dX3_findShift_1 : decode cX3_findShift 1 = .ok (.ifCond .lt 14, 3) := by decide +kernel
theorem dX3_findShift_4 : decode cX3_findShift 4 = .ok (.iload_n 1, 1) := by decide +kernel
theorem dX3_findShift_5 : decode cX3_findShift 5 = .ok (.aload_n 0, 1) := by decide +kernel
theorem dX3_findShift_6 : decode cX3_findShift 6 = .ok (.getfield 33, 3) := by decide +kernel
theorem dX3_findShift_9 : decode cX3_findShift 9 = .ok (.invokevirtual 47, 3) := by decide +kernel
theorem dX3_findShift_12 : decode cX3_findShift 12 = .ok (.if_icmp .lt 13, 3) := by decide +kernel
theorem dX3_findShift_15 : decode cX3_findShift 15 = .ok (.new 170, 3) := by decide +kernel
theorem dX3_findShift_18 : decode cX3_findShift 18 = .ok (.dup, 1) := by decide +kernel
theorem dX3_findShift_19 : decode cX3_findShift 19 = .ok (.ldc 179, 2) := by decide +kernel
theorem dX3_findShift_21 : decode cX3_findShift 21 = .ok (.invokespecial 174, 3) := by decide +kernel
theorem dX3_findShift_24 : decode cX3_findShift 24 = .ok (.athrow, 1) := by decide +kernel
theorem dX3_findShift_25 : decode cX3_findShift 25 = .ok (.aload_n 0, 1) := by decide +kernel
theorem dX3_findShift_26 : decode cX3_findShift 26 = .ok (.getfield 33, 3) := by decide +kernel
theorem dX3_findShift_29 : decode cX3_findShift 29 = .ok (.iload_n 1, 1) := by decide +kernel
theorem dX3_findShift_30 : decode cX3_findShift 30 = .ok (.invokevirtual 140, 3) := by decide +kernel
theorem dX3_findShift_33 : decode cX3_findShift 33 = .ok (.checkcast 96, 3) := by decide +kernel
theorem dX3_findShift_36 : decode cX3_findShift 36 = .ok (.areturn, 1) := by decide +kernel
theorem dX3_overtimePercent_0 : decode cX3_overtimePercent 0 = .ok (.iload_n 0, 1) := by decide +kernel
theorem dX3_overtimePercent_1 : decode cX3_overtimePercent 1 = .ok (.bipush 40, 2) := by decide +kernel
theorem dX3_overtimePercent_3 : decode cX3_overtimePercent 3 = .ok (.if_icmp .lt 7, 3) := by decide +kernel
theorem dX3_overtimePercent_6 : decode cX3_overtimePercent 6 = .ok (.sipush 200, 3) := by decide +kernel
theorem dX3_overtimePercent_9 : decode cX3_overtimePercent 9 = .ok (.ireturn, 1) := by decide +kernel
theorem dX3_overtimePercent_10 : decode cX3_overtimePercent 10 = .ok (.iload_n 0, 1) := by decide +kernel
theorem dX3_overtimePercent_11 : decode cX3_overtimePercent 11 = .ok (.bipush 32, 2) := by decide +kernel
theorem dX3_overtimePercent_13 : decode cX3_overtimePercent 13 = .ok (.if_icmp .lt 9, 3) := by decide +kernel
theorem dX3_overtimePercent_16 : decode cX3_overtimePercent 16 = .ok (.sipush 150, 3) := by decide +kernel
theorem dX3_overtimePercent_19 : decode cX3_overtimePercent 19 = .ok (.goto 5, 3) := by decide +kernel
theorem dX3_overtimePercent_22 : decode cX3_overtimePercent 22 = .ok (.bipush 100, 2) := by decide +kernel
theorem dX3_overtimePercent_24 : decode cX3_overtimePercent 24 = .ok (.ireturn, 1) := by decide +kernel
set_option maxRecDepth 20000 in
theorem ggX3_decidingRule_X1_dayOf : GoodIn wsX3_decidingRule wsX1_dayOf := goodIn_r _ [10, 11, 77, 78, 79, 80, 81] (by decide +kernel) (by decide +kernel)
set_option maxRecDepth 20000 in
theorem gX3_decidingRule_X1_dayOf : GoodIn wsX3_decidingRule (wsV RX3 144 RX1 yX1_dayOf wsX1_dayOf) := goodIn_app (goodIn_of _ (by decide +kernel)) ggX3_decidingRule_X1_dayOf
set_option maxRecDepth 20000 in
theorem ggX3_decidingRule_X1_quarterOfDay : GoodIn wsX3_decidingRule wsX1_quarterOfDay := goodIn_r _ [15, 11, 77, 78, 79, 80, 81] (by decide +kernel) (by decide +kernel)
set_option maxRecDepth 20000 in
theorem gX3_decidingRule_X1_quarterOfDay : GoodIn wsX3_decidingRule (wsV RX3 181 RX1 yX1_quarterOfDay wsX1_quarterOfDay) := goodIn_app (goodIn_of _ (by decide +kernel)) ggX3_decidingRule_X1_quarterOfDay
set_option maxRecDepth 20000 in
theorem ggX3_decidingRule_X3_isHoliday : GoodIn wsX3_decidingRule wsX3_isHoliday := goodIn_r _ [20, 21, 65, 66, 67, 68, 69] (by decide +kernel) (by decide +kernel)
set_option maxRecDepth 20000 in
theorem gX3_decidingRule_X3_isHoliday : GoodIn wsX3_decidingRule (wsV RX3 184 RX3 yX3_isHoliday wsX3_isHoliday) := goodIn_app (goodIn_of _ (by decide +kernel)) ggX3_decidingRule_X3_isHoliday
set_option maxRecDepth 20000 in
theorem ggX3_decidingRule_X3_overtimePercent : GoodIn wsX3_decidingRule wsX3_overtimePercent := goodIn_r _ [24] (by decide +kernel) (by decide +kernel)
set_option maxRecDepth 20000 in
theorem gX3_decidingRule_X3_overtimePercent : GoodIn wsX3_decidingRule (va_wsS RX3 188 yX3_overtimePercent wsX3_overtimePercent) := goodIn_app (goodIn_of _ (by decide +kernel)) ggX3_decidingRule_X3_overtimePercent
set_option maxRecDepth 20000 in
theorem ggX3_decidingRule_Jx4a65c_size_8abf5 : GoodIn wsX3_decidingRule wsJx4a65c_size_8abf5 := goodIn_r _ [29, 30, 83, 84, 85] (by decide +kernel) (by decide +kernel)
set_option maxRecDepth 20000 in
theorem gX3_decidingRule_Jx4a65c_size_8abf5 : GoodIn wsX3_decidingRule (wsV RX3 47 RJx4a65c yJx4a65c_size_8abf5 wsJx4a65c_size_8abf5) := goodIn_app (goodIn_of _ (by decide +kernel)) ggX3_decidingRule_Jx4a65c_size_8abf5
set_option maxRecDepth 20000 in
theorem ggX3_decidingRule_Jx4a65c_get_915e3 : GoodIn wsX3_decidingRule wsJx4a65c_get_915e3 := goodIn_r _ [34, 30, 35, 36, 37, 38, 39, 40, 41, 42, 43, 44, 45, 28, 46, 47, 83, 84, 85] (by decide +kernel) (by decide +kernel)
set_option maxRecDepth 20000 in
theorem gX3_decidingRule_Jx4a65c_get_915e3 : GoodIn wsX3_decidingRule (wsV RX3 140 RJx4a65c yJx4a65c_get_915e3 wsJx4a65c_get_915e3) := goodIn_app (goodIn_of _ (by decide +kernel)) ggX3_decidingRule_Jx4a65c_get_915e3
set_option maxRecDepth 20000 in
theorem ggX3_decidingRule_X0_appliesTo : GoodIn wsX3_decidingRule wsX0_appliesTo := goodIn_r _ [52, 53, 54, 55, 56, 57, 58, 51, 59, 60, 61, 62, 63, 64, 70, 71, 72, 73, 74, 75, 76] (by decide +kernel) (by decide +kernel)
set_option maxRecDepth 20000 in
theorem gX3_decidingRule_X0_appliesTo : GoodIn wsX3_decidingRule (wsV RX3 194 RX0 yX0_appliesTo wsX0_appliesTo) := goodIn_app (goodIn_of _ (by decide +kernel)) ggX3_decidingRule_X0_appliesTo
theorem dX3_decidingRule_0 : decode cX3_decidingRule 0 = .ok (.aload_n 1, 1) := by decide +kernel
theorem dX3_decidingRule_1 : decode cX3_decidingRule 1 = .ok (.iload_n 2, 1) := by decide +kernel
theorem dX3_decidingRule_2 : decode cX3_decidingRule 2 = .ok (.invokevirtual 144, 3) := by decide +kernel
theorem dX3_decidingRule_5 : decode cX3_decidingRule 5 = .ok (.istore_n 3, 1) := by decide +kernel
theorem dX3_decidingRule_6 : decode cX3_decidingRule 6 = .ok (.aload_n 1, 1) := by decide +kernel
theorem dX3_decidingRule_7 : decode cX3_decidingRule 7 = .ok (.iload_n 2, 1) := by decide +kernel
theorem dX3_decidingRule_8 : decode cX3_decidingRule 8 = .ok (.invokevirtual 181, 3) := by decide +kernel
theorem dX3_decidingRule_11 : decode cX3_decidingRule 11 = .ok (.istore 4, 2) := by decide +kernel
theorem dX3_decidingRule_13 : decode cX3_decidingRule 13 = .ok (.aload_n 0, 1) := by decide +kernel
theorem dX3_decidingRule_14 : decode cX3_decidingRule 14 = .ok (.iload_n 3, 1) := by decide +kernel
theorem dX3_decidingRule_15 : decode cX3_decidingRule 15 = .ok (.invokevirtual 184, 3) := by decide +kernel
theorem dX3_decidingRule_18 : decode cX3_decidingRule 18 = .ok (.istore 5, 2) := by decide +kernel
theorem dX3_decidingRule_20 : decode cX3_decidingRule 20 = .ok (.iload_n 2, 1) := by decide +kernel
theorem dX3_decidingRule_21 : decode cX3_decidingRule 21 = .ok (.invokestatic 188, 3) := by decide +kernel
theorem dX3_decidingRule_24 : decode cX3_decidingRule 24 = .ok (.istore 6, 2) := by decide +kernel
theorem dX3_decidingRule_26 : decode cX3_decidingRule 26 = .ok (.aconst_null, 1) := by decide +kernel
theorem dX3_decidingRule_27 : decode cX3_decidingRule 27 = .ok (.astore 7, 2) := by decide +kernel
theorem dX3_decidingRule_29 : decode cX3_decidingRule 29 = .ok (.iconst 0, 1) := by decide +kernel
theorem dX3_decidingRule_30 : decode cX3_decidingRule 30 = .ok (.istore 8, 2) := by decide +kernel
theorem dX3_decidingRule_32 : decode cX3_decidingRule 32 = .ok (.iload 8, 2) := by decide +kernel
theorem dX3_decidingRule_34 : decode cX3_decidingRule 34 = .ok (.aload_n 0, 1) := by decide +kernel
theorem dX3_decidingRule_35 : decode cX3_decidingRule 35 = .ok (.getfield 26, 3) := by decide +kernel
theorem dX3_decidingRule_38 : decode cX3_decidingRule 38 = .ok (.invokevirtual 47, 3) := by decide +kernel
theorem dX3_decidingRule_41 : decode cX3_decidingRule 41 = .ok (.if_icmp .ge 91, 3) := by decide +kernel
theorem dX3_decidingRule_44 : decode cX3_decidingRule 44 = .ok (.aload_n 0, 1) := by decide +kernel
theorem dX3_decidingRule_45 : decode cX3_decidingRule 45 = .ok (.getfield 26, 3) := by decide +kernel
theorem dX3_decidingRule_48 : decode cX3_decidingRule 48 = .ok (.iload 8, 2) := by decide +kernel
theorem dX3_decidingRule_50 : decode cX3_decidingRule 50 = .ok (.invokevirtual 140, 3) := by decide +kernel
theorem dX3_decidingRule_53 : decode cX3_decidingRule 53 = .ok (.checkcast 56, 3) := by decide +kernel
theorem dX3_decidingRule_56 : decode cX3_decidingRule 56 = .ok (.astore 9, 2) := by decide +kernel
theorem dX3_decidingRule_58 : decode cX3_decidingRule 58 = .ok (.aload 9, 2) := by decide +kernel
theorem dX3_decidingRule_60 : decode cX3_decidingRule 60 = .ok (.getfield 191, 3) := by decide +kernel
theorem dX3_decidingRule_63 : decode cX3_decidingRule 63 = .ok (.iload 6, 2) := by decide +kernel
theorem dX3_decidingRule_65 : decode cX3_decidingRule 65 = .ok (.if_icmp .gt 18, 3) := by decide +kernel
theorem dX3_decidingRule_68 : decode cX3_decidingRule 68 = .ok (.aload 9, 2) := by decide +kernel
theorem dX3_decidingRule_70 : decode cX3_decidingRule 70 = .ok (.getfield 191, 3) := by decide +kernel
theorem dX3_decidingRule_73 : decode cX3_decidingRule 73 = .ok (.iload 6, 2) := by decide +kernel
theorem dX3_decidingRule_75 : decode cX3_decidingRule 75 = .ok (.if_icmp .ne 12, 3) := by decide +kernel
theorem dX3_decidingRule_78 : decode cX3_decidingRule 78 = .ok (.aload 7, 2) := by decide +kernel
theorem dX3_decidingRule_80 : decode cX3_decidingRule 80 = .ok (.ifnonnull 7, 3) := by decide +kernel
theorem dX3_decidingRule_83 : decode cX3_decidingRule 83 = .ok (.iconst 1, 1) := by decide +kernel
theorem dX3_decidingRule_84 : decode cX3_decidingRule 84 = .ok (.goto 4, 3) := by decide +kernel
theorem dX3_decidingRule_87 : decode cX3_decidingRule 87 = .ok (.iconst 0, 1) := by decide +kernel
theorem dX3_decidingRule_88 : decode cX3_decidingRule 88 = .ok (.istore 10, 2) := by decide +kernel
theorem dX3_decidingRule_90 : decode cX3_decidingRule 90 = .ok (.iload 10, 2) := by decide +kernel
theorem dX3_decidingRule_92 : decode cX3_decidingRule 92 = .ok (.ifCond .eq 34, 3) := by decide +kernel
theorem dX3_decidingRule_95 : decode cX3_decidingRule 95 = .ok (.aload 9, 2) := by decide +kernel
theorem dX3_decidingRule_97 : decode cX3_decidingRule 97 = .ok (.aload_n 1, 1) := by decide +kernel
theorem dX3_decidingRule_98 : decode cX3_decidingRule 98 = .ok (.getfield 148, 3) := by decide +kernel
theorem dX3_decidingRule_101 : decode cX3_decidingRule 101 = .ok (.getfield 86, 3) := by decide +kernel
theorem dX3_decidingRule_104 : decode cX3_decidingRule 104 = .ok (.iload_n 3, 1) := by decide +kernel
theorem dX3_decidingRule_105 : decode cX3_decidingRule 105 = .ok (.iload 4, 2) := by decide +kernel
theorem dX3_decidingRule_107 : decode cX3_decidingRule 107 = .ok (.iload 5, 2) := by decide +kernel
theorem dX3_decidingRule_109 : decode cX3_decidingRule 109 = .ok (.invokevirtual 194, 3) := by decide +kernel
theorem dX3_decidingRule_112 : decode cX3_decidingRule 112 = .ok (.ifCond .eq 14, 3) := by decide +kernel
theorem dX3_decidingRule_115 : decode cX3_decidingRule 115 = .ok (.aload 9, 2) := by decide +kernel
theorem dX3_decidingRule_117 : decode cX3_decidingRule 117 = .ok (.getfield 191, 3) := by decide +kernel
theorem dX3_decidingRule_120 : decode cX3_decidingRule 120 = .ok (.istore 6, 2) := by decide +kernel
theorem dX3_decidingRule_122 : decode cX3_decidingRule 122 = .ok (.aload 9, 2) := by decide +kernel
theorem dX3_decidingRule_124 : decode cX3_decidingRule 124 = .ok (.astore 7, 2) := by decide +kernel
theorem dX3_decidingRule_126 : decode cX3_decidingRule 126 = .ok (.iinc 8 1, 3) := by decide +kernel
theorem dX3_decidingRule_129 : decode cX3_decidingRule 129 = .ok (.goto (-97), 3) := by decide +kernel
theorem dX3_decidingRule_132 : decode cX3_decidingRule 132 = .ok (.aload 7, 2) := by decide +kernel
theorem dX3_decidingRule_134 : decode cX3_decidingRule 134 = .ok (.areturn, 1) := by decide +kernel
set_option maxRecDepth 20000 in
theorem ggX3_percentOf_X3_decidingRule : GoodIn wsX3_percentOf wsX3_decidingRule := goodIn_r _ [6, 7, 8, 1, 9, 10, 11, 12, 13, 14, 15, 16, 17, 18, 19, 20, 21, 22, 23, 5, 24, 25, 26, 27, 28, 29, 30, 31, 32, 33, 34, 35, 36, 37, 38, 39, 40, 41, 42, 43, 44, 45, 46, 47, 48, 49, 50, 51, 52, 53, 54, 55, 56, 57, 58, 59, 60, 61, 62, 63, 64, 65, 66, 67, 68, 76, 77, 78, 79, 80, 69, 70, 71, 72, 73, 74, 75, 81, 82, 83, 84, 85, 86, 87, 88, 89] (by decide +kernel) (by decide +kernel)
set_option maxRecDepth 20000 in
theorem gX3_percentOf_X3_decidingRule : GoodIn wsX3_percentOf (wsV RX3 130 RX3 yX3_decidingRule wsX3_decidingRule) := goodIn_app (goodIn_of _ (by decide +kernel)) ggX3_percentOf_X3_decidingRule
set_option maxRecDepth 20000 in
theorem ggX3_percentOf_X3_overtimePercent : GoodIn wsX3_percentOf wsX3_overtimePercent := goodIn_r _ [28] (by decide +kernel) (by decide +kernel)
set_option maxRecDepth 20000 in
theorem gX3_percentOf_X3_overtimePercent : GoodIn wsX3_percentOf (va_wsS RX3 188 yX3_overtimePercent wsX3_overtimePercent) := goodIn_app (goodIn_of _ (by decide +kernel)) ggX3_percentOf_X3_overtimePercent
theorem dX3_percentOf_0 : decode cX3_percentOf 0 = .ok (.aload_n 0, 1) := by decide +kernel
theorem dX3_percentOf_1 : decode cX3_percentOf 1 = .ok (.aload_n 1, 1) := by decide +kernel
theorem dX3_percentOf_2 : decode cX3_percentOf 2 = .ok (.iload_n 2, 1) := by decide +kernel
theorem dX3_percentOf_3 : decode cX3_percentOf 3 = .ok (.invokevirtual 130, 3) := by decide +kernel
theorem dX3_percentOf_6 : decode cX3_percentOf 6 = .ok (.astore_n 3, 1) := by decide +kernel
theorem dX3_percentOf_7 : decode cX3_percentOf 7 = .ok (.aload_n 3, 1) := by decide +kernel
theorem dX3_percentOf_8 : decode cX3_percentOf 8 = .ok (.ifnull 10, 3) := by decide +kernel
theorem dX3_percentOf_11 : decode cX3_percentOf 11 = .ok (.aload_n 3, 1) := by decide +kernel
theorem dX3_percentOf_12 : decode cX3_percentOf 12 = .ok (.getfield 191, 3) := by decide +kernel
theorem dX3_percentOf_15 : decode cX3_percentOf 15 = .ok (.goto 7, 3) := by decide +kernel
theorem dX3_percentOf_18 : decode cX3_percentOf 18 = .ok (.iload_n 2, 1) := by decide +kernel
theorem dX3_percentOf_19 : decode cX3_percentOf 19 = .ok (.invokestatic 188, 3) := by decide +kernel
theorem dX3_percentOf_22 : decode cX3_percentOf 22 = .ok (.ireturn, 1) := by decide +kernel
set_option maxRecDepth 20000 in
theorem ggX3_payFor_X3_baseOf : GoodIn wsX3_payFor wsX3_baseOf := goodIn_r _ [7, 8, 106, 107, 108, 109, 110] (by decide +kernel) (by decide +kernel)
set_option maxRecDepth 20000 in
theorem gX3_payFor_X3_baseOf : GoodIn wsX3_payFor (wsV RX3 198 RX3 yX3_baseOf wsX3_baseOf) := goodIn_app (goodIn_of _ (by decide +kernel)) ggX3_payFor_X3_baseOf
set_option maxRecDepth 20000 in
theorem ggX3_payFor_X1_breaksMissed : GoodIn wsX3_payFor wsX1_breaksMissed := goodIn_r _ [13, 14, 15, 16, 17, 18, 19, 20, 21, 22, 12, 23, 24, 100, 101, 102, 103, 104] (by decide +kernel) (by decide +kernel)
set_option maxRecDepth 20000 in
theorem gX3_payFor_X1_breaksMissed : GoodIn wsX3_payFor (wsV RX3 137 RX1 yX1_breaksMissed wsX1_breaksMissed) := goodIn_app (goodIn_of _ (by decide +kernel)) ggX3_payFor_X1_breaksMissed
set_option maxRecDepth 20000 in
theorem ggX3_payFor_X1_paidLength : GoodIn wsX3_payFor wsX1_paidLength := goodIn_r _ [28, 14, 24, 16, 17, 18, 19, 100, 101, 102, 103, 104] (by decide +kernel) (by decide +kernel)
set_option maxRecDepth 20000 in
theorem gX3_payFor_X1_paidLength : GoodIn wsX3_payFor (wsV RX3 119 RX1 yX1_paidLength wsX1_paidLength) := goodIn_app (goodIn_of _ (by decide +kernel)) ggX3_payFor_X1_paidLength
set_option maxRecDepth 20000 in
theorem ggX3_payFor_X3_percentOf : GoodIn wsX3_payFor wsX3_percentOf := goodIn_r _ [32, 33, 34, 35, 36, 6, 37, 38, 39, 1, 2, 40, 41, 42, 12, 43, 44, 45, 46, 47, 48, 49, 50, 51, 52, 53, 54, 55, 56, 57, 58, 59, 60, 61, 62, 63, 64, 65, 66, 67, 68, 69, 70, 71, 72, 73, 74, 75, 76, 77, 78, 79, 80, 81, 82, 83, 84, 85, 86, 87, 88, 89, 90, 91, 92, 93, 94, 95, 96, 111, 112, 113, 114, 115, 116, 117, 106, 107, 108, 109, 110, 100, 101, 102, 103, 104, 105, 118, 119, 120] (by decide +kernel) (by decide +kernel)
set_option maxRecDepth 20000 in
theorem gX3_payFor_X3_percentOf : GoodIn wsX3_payFor (wsV RX3 126 RX3 yX3_percentOf wsX3_percentOf) := goodIn_app (goodIn_of _ (by decide +kernel)) ggX3_payFor_X3_percentOf
set_option maxRecDepth 20000 in
theorem ggX3_payFor_X3_amount : GoodIn wsX3_payFor wsX3_amount := goodIn_r _ [99] (by decide +kernel) (by decide +kernel)
set_option maxRecDepth 20000 in
theorem gX3_payFor_X3_amount : GoodIn wsX3_payFor (va_wsS RX3 201 yX3_amount wsX3_amount) := goodIn_app (goodIn_of _ (by decide +kernel)) ggX3_payFor_X3_amount
theorem dX3_payFor_0 : decode cX3_payFor 0 = .ok (.aload_n 0, 1) := by decide +kernel
theorem dX3_payFor_1 : decode cX3_payFor 1 = .ok (.aload_n 1, 1) := by decide +kernel
theorem dX3_payFor_2 : decode cX3_payFor 2 = .ok (.getfield 148, 3) := by decide +kernel
theorem dX3_payFor_5 : decode cX3_payFor 5 = .ok (.getfield 86, 3) := by decide +kernel
theorem dX3_payFor_8 : decode cX3_payFor 8 = .ok (.invokevirtual 198, 3) := by decide +kernel
theorem dX3_payFor_11 : decode cX3_payFor 11 = .ok (.istore_n 2, 1) := by decide +kernel
theorem dX3_payFor_12 : decode cX3_payFor 12 = .ok (.aload_n 1, 1) := by decide +kernel
theorem dX3_payFor_13 : decode cX3_payFor 13 = .ok (.invokevirtual 137, 3) := by decide +kernel
theorem dX3_payFor_16 : decode cX3_payFor 16 = .ok (.iconst 2, 1) := by decide +kernel
theorem dX3_payFor_17 : decode cX3_payFor 17 = .ok (.imul, 1) := by decide +kernel
theorem dX3_payFor_18 : decode cX3_payFor 18 = .ok (.iload_n 2, 1) := by decide +kernel
theorem dX3_payFor_19 : decode cX3_payFor 19 = .ok (.imul, 1) := by decide +kernel
theorem dX3_payFor_20 : decode cX3_payFor 20 = .ok (.istore_n 3, 1) := by decide +kernel
theorem dX3_payFor_21 : decode cX3_payFor 21 = .ok (.iconst 0, 1) := by decide +kernel
theorem dX3_payFor_22 : decode cX3_payFor 22 = .ok (.istore 4, 2) := by decide +kernel
theorem dX3_payFor_24 : decode cX3_payFor 24 = .ok (.iload 4, 2) := by decide +kernel
theorem dX3_payFor_26 : decode cX3_payFor 26 = .ok (.aload_n 1, 1) := by decide +kernel
theorem dX3_payFor_27 : decode cX3_payFor 27 = .ok (.invokevirtual 119, 3) := by decide +kernel
theorem dX3_payFor_30 : decode cX3_payFor 30 = .ok (.if_icmp .ge 23, 3) := by decide +kernel
theorem dX3_payFor_33 : decode cX3_payFor 33 = .ok (.iload_n 3, 1) := by decide +kernel
theorem dX3_payFor_34 : decode cX3_payFor 34 = .ok (.iload_n 2, 1) := by decide +kernel
theorem dX3_payFor_35 : decode cX3_payFor 35 = .ok (.aload_n 0, 1) := by decide +kernel
theorem dX3_payFor_36 : decode cX3_payFor 36 = .ok (.aload_n 1, 1) := by decide +kernel
theorem dX3_payFor_37 : decode cX3_payFor 37 = .ok (.iload 4, 2) := by decide +kernel
theorem dX3_payFor_39 : decode cX3_payFor 39 = .ok (.invokevirtual 126, 3) := by decide +kernel
theorem dX3_payFor_42 : decode cX3_payFor 42 = .ok (.invokestatic 201, 3) := by decide +kernel
theorem dX3_payFor_45 : decode cX3_payFor 45 = .ok (.iadd, 1) := by decide +kernel
theorem dX3_payFor_46 : decode cX3_payFor 46 = .ok (.istore_n 3, 1) := by decide +kernel
theorem dX3_payFor_47 : decode cX3_payFor 47 = .ok (.iinc 4 1, 3) := by decide +kernel
theorem dX3_payFor_50 : decode cX3_payFor 50 = .ok (.goto (-26), 3) := by decide +kernel
theorem dX3_payFor_53 : decode cX3_payFor 53 = .ok (.iload_n 3, 1) := by decide +kernel
theorem dX3_payFor_54 : decode cX3_payFor 54 = .ok (.ireturn, 1) := by decide +kernel
set_option maxRecDepth 20000 in
theorem ggX3_payByRule_X3_baseOf : GoodIn wsX3_payByRule wsX3_baseOf := goodIn_r _ [9, 10, 101, 102, 103, 104, 105] (by decide +kernel) (by decide +kernel)
set_option maxRecDepth 20000 in
theorem gX3_payByRule_X3_baseOf : GoodIn wsX3_payByRule (wsV RX3 198 RX3 yX3_baseOf wsX3_baseOf) := goodIn_app (goodIn_of _ (by decide +kernel)) ggX3_payByRule_X3_baseOf
set_option maxRecDepth 20000 in
theorem ggX3_payByRule_X1_paidLength : GoodIn wsX3_payByRule wsX1_paidLength := goodIn_r _ [15, 16, 17, 18, 19, 20, 21, 88, 89, 90, 91, 92] (by decide +kernel) (by decide +kernel)
set_option maxRecDepth 20000 in
theorem gX3_payByRule_X1_paidLength : GoodIn wsX3_payByRule (wsV RX3 119 RX1 yX1_paidLength wsX1_paidLength) := goodIn_app (goodIn_of _ (by decide +kernel)) ggX3_payByRule_X1_paidLength
set_option maxRecDepth 20000 in
theorem ggX3_payByRule_X3_decidingRule : GoodIn wsX3_payByRule wsX3_decidingRule := goodIn_r _ [25, 26, 27, 4, 1, 2, 28, 29, 30, 14, 31, 32, 33, 34, 35, 36, 37, 38, 39, 8, 40, 41, 42, 43, 44, 45, 46, 47, 48, 49, 50, 51, 52, 53, 54, 55, 56, 57, 58, 59, 60, 61, 62, 63, 64, 65, 66, 67, 68, 69, 70, 71, 72, 73, 74, 75, 76, 77, 78, 79, 80, 81, 82, 83, 84, 101, 102, 103, 104, 105, 94, 95, 96, 97, 98, 99, 100, 88, 89, 90, 91, 92, 93, 106, 107, 108] (by decide +kernel) (by decide +kernel)
set_option maxRecDepth 20000 in
theorem gX3_payByRule_X3_decidingRule : GoodIn wsX3_payByRule (wsV RX3 130 RX3 yX3_decidingRule wsX3_decidingRule) := goodIn_app (goodIn_of _ (by decide +kernel)) ggX3_payByRule_X3_decidingRule
set_option maxRecDepth 20000 in
theorem ggX3_payByRule_X3_amount : GoodIn wsX3_payByRule wsX3_amount := goodIn_r _ [87] (by decide +kernel) (by decide +kernel)
set_option maxRecDepth 20000 in
theorem gX3_payByRule_X3_amount : GoodIn wsX3_payByRule (va_wsS RX3 201 yX3_amount wsX3_amount) := goodIn_app (goodIn_of _ (by decide +kernel)) ggX3_payByRule_X3_amount
theorem dX3_payByRule_0 : decode cX3_payByRule 0 = .ok (.aload_n 0, 1) := by decide +kernel
theorem dX3_payByRule_1 : decode cX3_payByRule 1 = .ok (.aload_n 1, 1) := by decide +kernel
theorem dX3_payByRule_2 : decode cX3_payByRule 2 = .ok (.getfield 148, 3) := by decide +kernel
theorem dX3_payByRule_5 : decode cX3_payByRule 5 = .ok (.getfield 86, 3) := by decide +kernel
theorem dX3_payByRule_8 : decode cX3_payByRule 8 = .ok (.invokevirtual 198, 3) := by decide +kernel
theorem dX3_payByRule_11 : decode cX3_payByRule 11 = .ok (.istore_n 3, 1) := by decide +kernel
theorem dX3_payByRule_12 : decode cX3_payByRule 12 = .ok (.iconst 0, 1) := by decide +kernel
theorem dX3_payByRule_13 : decode cX3_payByRule 13 = .ok (.istore 4, 2) := by decide +kernel
theorem dX3_payByRule_15 : decode cX3_payByRule 15 = .ok (.iconst 0, 1) := by decide +kernel
theorem dX3_payByRule_16 : decode cX3_payByRule 16 = .ok (.istore 5, 2) := by decide +kernel
theorem dX3_payByRule_18 : decode cX3_payByRule 18 = .ok (.iload 5, 2) := by decide +kernel
theorem dX3_payByRule_20 : decode cX3_payByRule 20 = .ok (.aload_n 1, 1) := by decide +kernel
theorem dX3_payByRule_21 : decode cX3_payByRule 21 = .ok (.invokevirtual 119, 3) := by decide +kernel
theorem dX3_payByRule_24 : decode cX3_payByRule 24 = .ok (.if_icmp .ge 48, 3) := by decide +kernel
theorem dX3_payByRule_27 : decode cX3_payByRule 27 = .ok (.aload_n 0, 1) := by decide +kernel
theorem dX3_payByRule_28 : decode cX3_payByRule 28 = .ok (.aload_n 1, 1) := by decide +kernel
theorem dX3_payByRule_29 : decode cX3_payByRule 29 = .ok (.iload 5, 2) := by decide +kernel
theorem dX3_payByRule_31 : decode cX3_payByRule 31 = .ok (.invokevirtual 130, 3) := by decide +kernel
theorem dX3_payByRule_34 : decode cX3_payByRule 34 = .ok (.astore 6, 2) := by decide +kernel
theorem dX3_payByRule_36 : decode cX3_payByRule 36 = .ok (.aload 6, 2) := by decide +kernel
theorem dX3_payByRule_38 : decode cX3_payByRule 38 = .ok (.ifnull 28, 3) := by decide +kernel
theorem dX3_payByRule_41 : decode cX3_payByRule 41 = .ok (.aload 6, 2) := by decide +kernel
theorem dX3_payByRule_43 : decode cX3_payByRule 43 = .ok (.getfield 134, 3) := by decide +kernel
theorem dX3_payByRule_46 : decode cX3_payByRule 46 = .ok (.aload_n 2, 1) := by decide +kernel
theorem dX3_payByRule_47 : decode cX3_payByRule 47 = .ok (.getfield 134, 3) := by decide +kernel
theorem dX3_payByRule_50 : decode cX3_payByRule 50 = .ok (.if_icmp .ne 16, 3) := by decide +kernel
theorem dX3_payByRule_53 : decode cX3_payByRule 53 = .ok (.iload 4, 2) := by decide +kernel
theorem dX3_payByRule_55 : decode cX3_payByRule 55 = .ok (.iload_n 3, 1) := by decide +kernel
theorem dX3_payByRule_56 : decode cX3_payByRule 56 = .ok (.aload_n 2, 1) := by decide +kernel
theorem dX3_payByRule_57 : decode cX3_payByRule 57 = .ok (.getfield 191, 3) := by decide +kernel
theorem dX3_payByRule_60 : decode cX3_payByRule 60 = .ok (.invokestatic 201, 3) := by decide +kernel
theorem dX3_payByRule_63 : decode cX3_payByRule 63 = .ok (.iadd, 1) := by decide +kernel
theorem dX3_payByRule_64 : decode cX3_payByRule 64 = .ok (.istore 4, 2) := by decide +kernel
theorem dX3_payByRule_66 : decode cX3_payByRule 66 = .ok (.iinc 5 1, 3) := by decide +kernel
theorem dX3_payByRule_69 : decode cX3_payByRule 69 = .ok (.goto (-51), 3) := by decide +kernel
theorem dX3_payByRule_72 : decode cX3_payByRule 72 = .ok (.iload 4, 2) := by decide +kernel
theorem dX3_payByRule_74 : decode cX3_payByRule 74 = .ok (.ireturn, 1) := by decide +kernel
theorem dX3_amount_0 : decode cX3_amount 0 = .ok (.iload_n 0, 1) := by decide +kernel
theorem dX3_amount_1 : decode cX3_amount 1 = .ok (.iload_n 1, 1) := by decide +kernel
theorem dX3_amount_2 : decode cX3_amount 2 = .ok (.imul, 1) := by decide +kernel
theorem dX3_amount_3 : decode cX3_amount 3 = .ok (.bipush 100, 2) := by decide +kernel
theorem dX3_amount_5 : decode cX3_amount 5 = .ok (.idiv, 1) := by decide +kernel
theorem dX3_amount_6 : decode cX3_amount 6 = .ok (.ireturn, 1) := by decide +kernel
theorem dX3_baseOf_0 : decode cX3_baseOf 0 = .ok (.iload_n 1, 1) := by decide +kernel
theorem dX3_baseOf_1 : decode cX3_baseOf 1 = .ok (.ifCond .lt 21, 3) := by decide +kernel
theorem dX3_baseOf_4 : decode cX3_baseOf 4 = .ok (.iload_n 1, 1) := by decide +kernel
theorem dX3_baseOf_5 : decode cX3_baseOf 5 = .ok (.aload_n 0, 1) := by decide +kernel
theorem dX3_baseOf_6 : decode cX3_baseOf 6 = .ok (.getfield 9, 3) := by decide +kernel
theorem dX3_baseOf_9 : decode cX3_baseOf 9 = .ok (.arraylength, 1) := by decide +kernel
theorem dX3_baseOf_10 : decode cX3_baseOf 10 = .ok (.if_icmp .ge 12, 3) := by decide +kernel
theorem dX3_baseOf_13 : decode cX3_baseOf 13 = .ok (.aload_n 0, 1) := by decide +kernel
theorem dX3_baseOf_14 : decode cX3_baseOf 14 = .ok (.getfield 9, 3) := by decide +kernel
theorem dX3_baseOf_17 : decode cX3_baseOf 17 = .ok (.iload_n 1, 1) := by decide +kernel
theorem dX3_baseOf_18 : decode cX3_baseOf 18 = .ok (.iaload, 1) := by decide +kernel
theorem dX3_baseOf_19 : decode cX3_baseOf 19 = .ok (.goto 4, 3) := by decide +kernel
theorem dX3_baseOf_22 : decode cX3_baseOf 22 = .ok (.iconst 0, 1) := by decide +kernel
theorem dX3_baseOf_23 : decode cX3_baseOf 23 = .ok (.ireturn, 1) := by decide +kernel
theorem dX3_isHoliday_0 : decode cX3_isHoliday 0 = .ok (.iload_n 1, 1) := by decide +kernel
theorem dX3_isHoliday_1 : decode cX3_isHoliday 1 = .ok (.ifCond .lt 25, 3) := by decide +kernel
theorem dX3_isHoliday_4 : decode cX3_isHoliday 4 = .ok (.iload_n 1, 1) := by decide +kernel
theorem dX3_isHoliday_5 : decode cX3_isHoliday 5 = .ok (.aload_n 0, 1) := by decide +kernel
theorem dX3_isHoliday_6 : decode cX3_isHoliday 6 = .ok (.getfield 19, 3) := by decide +kernel
theorem dX3_isHoliday_9 : decode cX3_isHoliday 9 = .ok (.arraylength, 1) := by decide +kernel
theorem dX3_isHoliday_10 : decode cX3_isHoliday 10 = .ok (.if_icmp .ge 16, 3) := by decide +kernel
theorem dX3_isHoliday_13 : decode cX3_isHoliday 13 = .ok (.aload_n 0, 1) := by decide +kernel
theorem dX3_isHoliday_14 : decode cX3_isHoliday 14 = .ok (.getfield 19, 3) := by decide +kernel
theorem dX3_isHoliday_17 : decode cX3_isHoliday 17 = .ok (.iload_n 1, 1) := by decide +kernel
theorem dX3_isHoliday_18 : decode cX3_isHoliday 18 = .ok (.baload, 1) := by decide +kernel
theorem dX3_isHoliday_19 : decode cX3_isHoliday 19 = .ok (.ifCond .eq 7, 3) := by decide +kernel
theorem dX3_isHoliday_22 : decode cX3_isHoliday 22 = .ok (.iconst 1, 1) := by decide +kernel
theorem dX3_isHoliday_23 : decode cX3_isHoliday 23 = .ok (.goto 4, 3) := by decide +kernel
theorem dX3_isHoliday_26 : decode cX3_isHoliday 26 = .ok (.iconst 0, 1) := by decide +kernel
theorem dX3_isHoliday_27 : decode cX3_isHoliday 27 = .ok (.ireturn, 1) := by decide +kernel
set_option maxRecDepth 20000 in
theorem ggX3_overlapsAnother_X3_workedBetween : GoodIn wsX3_overlapsAnother wsX3_workedBetween := goodIn_r _ [5, 6, 7, 8, 9, 10, 11, 12, 13, 14, 15, 16, 17, 18, 19, 20, 21, 22, 23, 24, 25, 26, 27, 28, 29, 30, 31, 32, 33, 34, 35, 36, 37, 38, 39, 40, 41, 42, 43, 44, 45, 46, 47, 48, 49, 50, 51, 52, 53, 54, 55, 56, 57, 58, 59] (by decide +kernel) (by decide +kernel)
set_option maxRecDepth 20000 in
theorem gX3_overlapsAnother_X3_workedBetween : GoodIn wsX3_overlapsAnother (wsV RX3 204 RX3 yX3_workedBetween wsX3_workedBetween) := goodIn_app (goodIn_of _ (by decide +kernel)) ggX3_overlapsAnother_X3_workedBetween
theorem dX3_overlapsAnother_0 : decode cX3_overlapsAnother 0 = .ok (.aload_n 0, 1) := by decide +kernel
theorem dX3_overlapsAnother_1 : decode cX3_overlapsAnother 1 = .ok (.aload_n 1, 1) := by decide +kernel
theorem dX3_overlapsAnother_2 : decode cX3_overlapsAnother 2 = .ok (.iload_n 2, 1) := by decide +kernel
theorem dX3_overlapsAnother_3 : decode cX3_overlapsAnother 3 = .ok (.iload_n 3, 1) := by decide +kernel
theorem dX3_overlapsAnother_4 : decode cX3_overlapsAnother 4 = .ok (.invokevirtual 204, 3) := by decide +kernel
theorem dX3_overlapsAnother_7 : decode cX3_overlapsAnother 7 = .ok (.ifCond .le 7, 3) := by decide +kernel
theorem dX3_overlapsAnother_10 : decode cX3_overlapsAnother 10 = .ok (.iconst 1, 1) := by decide +kernel
theorem dX3_overlapsAnother_11 : decode cX3_overlapsAnother 11 = .ok (.goto 4, 3) := by decide +kernel
theorem dX3_overlapsAnother_14 : decode cX3_overlapsAnother 14 = .ok (.iconst 0, 1) := by decide +kernel
theorem dX3_overlapsAnother_15 : decode cX3_overlapsAnother 15 = .ok (.ireturn, 1) := by decide +kernel
set_option maxRecDepth 20000 in
theorem ggX3_workedInWeeks_X3_workedBetween : GoodIn wsX3_workedInWeeks wsX3_workedBetween := goodIn_r _ [5, 6, 7, 8, 9, 10, 11, 12, 13, 14, 15, 16, 17, 18, 19, 20, 21, 22, 23, 24, 25, 26, 27, 28, 29, 30, 31, 32, 33, 34, 35, 36, 37, 38, 39, 40, 41, 42, 43, 44, 45, 46, 47, 48, 49, 50, 51, 52, 53, 54, 55, 56, 57, 58, 59] (by decide +kernel) (by decide +kernel)
set_option maxRecDepth 20000 in
theorem gX3_workedInWeeks_X3_workedBetween : GoodIn wsX3_workedInWeeks (wsV RX3 204 RX3 yX3_workedBetween wsX3_workedBetween) := goodIn_app (goodIn_of _ (by decide +kernel)) ggX3_workedInWeeks_X3_workedBetween
theorem dX3_workedInWeeks_0 : decode cX3_workedInWeeks 0 = .ok (.aload_n 0, 1) := by decide +kernel
theorem dX3_workedInWeeks_1 : decode cX3_workedInWeeks 1 = .ok (.aload_n 1, 1) := by decide +kernel
theorem dX3_workedInWeeks_2 : decode cX3_workedInWeeks 2 = .ok (.iload_n 2, 1) := by decide +kernel
theorem dX3_workedInWeeks_3 : decode cX3_workedInWeeks 3 = .ok (.sipush 672, 3) := by decide +kernel
theorem dX3_workedInWeeks_6 : decode cX3_workedInWeeks 6 = .ok (.imul, 1) := by decide +kernel
theorem dX3_workedInWeeks_7 : decode cX3_workedInWeeks 7 = .ok (.iload_n 2, 1) := by decide +kernel
theorem dX3_workedInWeeks_8 : decode cX3_workedInWeeks 8 = .ok (.iload_n 3, 1) := by decide +kernel
theorem dX3_workedInWeeks_9 : decode cX3_workedInWeeks 9 = .ok (.iadd, 1) := by decide +kernel
theorem dX3_workedInWeeks_10 : decode cX3_workedInWeeks 10 = .ok (.sipush 672, 3) := by decide +kernel
theorem dX3_workedInWeeks_13 : decode cX3_workedInWeeks 13 = .ok (.imul, 1) := by decide +kernel
theorem dX3_workedInWeeks_14 : decode cX3_workedInWeeks 14 = .ok (.invokevirtual 204, 3) := by decide +kernel
theorem dX3_workedInWeeks_17 : decode cX3_workedInWeeks 17 = .ok (.ireturn, 1) := by decide +kernel
set_option maxRecDepth 20000 in
theorem ggX3_workedBetween_Jx4a65c_size_8abf5 : GoodIn wsX3_workedBetween wsJx4a65c_size_8abf5 := goodIn_r _ [9, 10, 52, 53, 54] (by decide +kernel) (by decide +kernel)
set_option maxRecDepth 20000 in
theorem gX3_workedBetween_Jx4a65c_size_8abf5 : GoodIn wsX3_workedBetween (wsV RX3 47 RJx4a65c yJx4a65c_size_8abf5 wsJx4a65c_size_8abf5) := goodIn_app (goodIn_of _ (by decide +kernel)) ggX3_workedBetween_Jx4a65c_size_8abf5
set_option maxRecDepth 20000 in
theorem ggX3_workedBetween_Jx4a65c_get_915e3 : GoodIn wsX3_workedBetween wsJx4a65c_get_915e3 := goodIn_r _ [14, 10, 15, 16, 17, 18, 19, 20, 21, 22, 23, 24, 25, 8, 26, 27, 52, 53, 54] (by decide +kernel) (by decide +kernel)
set_option maxRecDepth 20000 in
theorem gX3_workedBetween_Jx4a65c_get_915e3 : GoodIn wsX3_workedBetween (wsV RX3 140 RJx4a65c yJx4a65c_get_915e3 wsJx4a65c_get_915e3) := goodIn_app (goodIn_of _ (by decide +kernel)) ggX3_workedBetween_Jx4a65c_get_915e3
set_option maxRecDepth 20000 in
theorem ggX3_workedBetween_X1_ownBetween : GoodIn wsX3_workedBetween wsX1_ownBetween := goodIn_r _ [32, 33, 34, 35, 36, 37, 38, 39, 40, 41, 47, 48, 49, 50, 51] (by decide +kernel) (by decide +kernel)
set_option maxRecDepth 20000 in
theorem gX3_workedBetween_X1_ownBetween : GoodIn wsX3_workedBetween (wsV RX3 207 RX1 yX1_ownBetween wsX1_ownBetween) := goodIn_app (goodIn_of _ (by decide +kernel)) ggX3_workedBetween_X1_ownBetween
theorem dX3_workedBetween_0 : decode cX3_workedBetween 0 = .ok (.iconst 0, 1) := by decide +kernel
theorem dX3_workedBetween_1 : decode cX3_workedBetween 1 = .ok (.istore 4, 2) := by decide +kernel
theorem dX3_workedBetween_3 : decode cX3_workedBetween 3 = .ok (.iconst 0, 1) := by decide +kernel
theorem dX3_workedBetween_4 : decode cX3_workedBetween 4 = .ok (.istore 5, 2) := by decide +kernel
theorem dX3_workedBetween_6 : decode cX3_workedBetween 6 = .ok (.iload 5, 2) := by decide +kernel
theorem dX3_workedBetween_8 : decode cX3_workedBetween 8 = .ok (.aload_n 0, 1) := by decide +kernel
theorem dX3_workedBetween_9 : decode cX3_workedBetween 9 = .ok (.getfield 33, 3) := by decide +kernel
theorem dX3_workedBetween_12 : decode cX3_workedBetween 12 = .ok (.invokevirtual 47, 3) := by decide +kernel
theorem dX3_workedBetween_15 : decode cX3_workedBetween 15 = .ok (.if_icmp .ge 52, 3) := by decide +kernel
theorem dX3_workedBetween_18 : decode cX3_workedBetween 18 = .ok (.aload_n 0, 1) := by decide +kernel
theorem dX3_workedBetween_19 : decode cX3_workedBetween 19 = .ok (.getfield 33, 3) := by decide +kernel
theorem dX3_workedBetween_22 : decode cX3_workedBetween 22 = .ok (.iload 5, 2) := by decide +kernel
theorem dX3_workedBetween_24 : decode cX3_workedBetween 24 = .ok (.invokevirtual 140, 3) := by decide +kernel
theorem dX3_workedBetween_27 : decode cX3_workedBetween 27 = .ok (.checkcast 96, 3) := by decide +kernel
theorem dX3_workedBetween_30 : decode cX3_workedBetween 30 = .ok (.astore 6, 2) := by decide +kernel
theorem dX3_workedBetween_32 : decode cX3_workedBetween 32 = .ok (.aload 6, 2) := by decide +kernel
theorem dX3_workedBetween_34 : decode cX3_workedBetween 34 = .ok (.getfield 148, 3) := by decide +kernel
theorem dX3_workedBetween_37 : decode cX3_workedBetween 37 = .ok (.aload_n 1, 1) := by decide +kernel
theorem dX3_workedBetween_38 : decode cX3_workedBetween 38 = .ok (.if_acmp .ne 23, 3) := by decide +kernel
theorem dX3_workedBetween_41 : decode cX3_workedBetween 41 = .ok (.aload 6, 2) := by decide +kernel
theorem dX3_workedBetween_43 : decode cX3_workedBetween 43 = .ok (.getfield 113, 3) := by decide +kernel
theorem dX3_workedBetween_46 : decode cX3_workedBetween 46 = .ok (.ifCond .ne 15, 3) := by decide +kernel
theorem dX3_workedBetween_49 : decode cX3_workedBetween 49 = .ok (.iload 4, 2) := by decide +kernel
theorem dX3_workedBetween_51 : decode cX3_workedBetween 51 = .ok (.aload 6, 2) := by decide +kernel
theorem dX3_workedBetween_53 : decode cX3_workedBetween 53 = .ok (.iload_n 2, 1) := by decide +kernel
theorem dX3_workedBetween_54 : decode cX3_workedBetween 54 = .ok (.iload_n 3, 1) := by decide +kernel
theorem dX3_workedBetween_55 : decode cX3_workedBetween 55 = .ok (.invokevirtual 207, 3) := by decide +kernel
theorem dX3_workedBetween_58 : decode cX3_workedBetween 58 = .ok (.iadd, 1) := by decide +kernel
theorem dX3_workedBetween_59 : decode cX3_workedBetween 59 = .ok (.istore 4, 2) := by decide +kernel
theorem dX3_workedBetween_61 : decode cX3_workedBetween 61 = .ok (.iinc 5 1, 3) := by decide +kernel
theorem dX3_workedBetween_64 : decode cX3_workedBetween 64 = .ok (.goto (-58), 3) := by decide +kernel
theorem dX3_workedBetween_67 : decode cX3_workedBetween 67 = .ok (.iload 4, 2) := by decide +kernel
theorem dX3_workedBetween_69 : decode cX3_workedBetween 69 = .ok (.ireturn, 1) := by decide +kernel
end
section
theorem dX4_init_0 : decode cX4_init 0 = .ok (.aload_n 0, 1) := by decide +kernel
theorem dX4_init_1 : decode cX4_init 1 = .ok (.invokespecial 1, 3) := by decide +kernel
theorem dX4_init_4 : decode cX4_init 4 = .ok (.aload_n 0, 1) := by decide +kernel
theorem dX4_init_5 : decode cX4_init 5 = .ok (.iconst 4, 1) := by decide +kernel
theorem dX4_init_6 : decode cX4_init 6 = .ok (.newarray .int, 2) := by decide +kernel
theorem dX4_init_8 : decode cX4_init 8 = .ok (.putfield 7, 3) := by decide +kernel
theorem dX4_init_11 : decode cX4_init 11 = .ok (.aload_n 0, 1) := by decide +kernel
theorem dX4_init_12 : decode cX4_init 12 = .ok (.bipush 16, 2) := by decide +kernel
theorem dX4_init_14 : decode cX4_init 14 = .ok (.newarray .int, 2) := by decide +kernel
theorem dX4_init_16 : decode cX4_init 16 = .ok (.putfield 13, 3) := by decide +kernel
theorem dX4_init_19 : decode cX4_init 19 = .ok (.aload_n 0, 1) := by decide +kernel
theorem dX4_init_20 : decode cX4_init 20 = .ok (.bipush 16, 2) := by decide +kernel
theorem dX4_init_22 : decode cX4_init 22 = .ok (.newarray .int, 2) := by decide +kernel
theorem dX4_init_24 : decode cX4_init 24 = .ok (.putfield 16, 3) := by decide +kernel
theorem dX4_init_27 : decode cX4_init 27 = .ok (.aload_n 0, 1) := by decide +kernel
theorem dX4_init_28 : decode cX4_init 28 = .ok (.bipush 16, 2) := by decide +kernel
theorem dX4_init_30 : decode cX4_init 30 = .ok (.newarray .int, 2) := by decide +kernel
theorem dX4_init_32 : decode cX4_init 32 = .ok (.putfield 19, 3) := by decide +kernel
theorem dX4_init_35 : decode cX4_init 35 = .ok (.aload_n 0, 1) := by decide +kernel
theorem dX4_init_36 : decode cX4_init 36 = .ok (.bipush 16, 2) := by decide +kernel
theorem dX4_init_38 : decode cX4_init 38 = .ok (.newarray .int, 2) := by decide +kernel
theorem dX4_init_40 : decode cX4_init 40 = .ok (.putfield 22, 3) := by decide +kernel
theorem dX4_init_43 : decode cX4_init 43 = .ok (.aload_n 0, 1) := by decide +kernel
theorem dX4_init_44 : decode cX4_init 44 = .ok (.bipush 16, 2) := by decide +kernel
theorem dX4_init_46 : decode cX4_init 46 = .ok (.newarray .int, 2) := by decide +kernel
theorem dX4_init_48 : decode cX4_init 48 = .ok (.putfield 25, 3) := by decide +kernel
theorem dX4_init_51 : decode cX4_init 51 = .ok (.aload_n 0, 1) := by decide +kernel
theorem dX4_init_52 : decode cX4_init 52 = .ok (.bipush 16, 2) := by decide +kernel
theorem dX4_init_54 : decode cX4_init 54 = .ok (.newarray .boolean, 2) := by decide +kernel
theorem dX4_init_56 : decode cX4_init 56 = .ok (.putfield 28, 3) := by decide +kernel
theorem dX4_init_59 : decode cX4_init 59 = .ok (.aload_n 0, 1) := by decide +kernel
theorem dX4_init_60 : decode cX4_init 60 = .ok (.sipush 365, 3) := by decide +kernel
theorem dX4_init_63 : decode cX4_init 63 = .ok (.newarray .boolean, 2) := by decide +kernel
theorem dX4_init_65 : decode cX4_init 65 = .ok (.putfield 32, 3) := by decide +kernel
theorem dX4_init_68 : decode cX4_init 68 = .ok (.aload_n 0, 1) := by decide +kernel
theorem dX4_init_69 : decode cX4_init 69 = .ok (.bipush 12, 2) := by decide +kernel
theorem dX4_init_71 : decode cX4_init 71 = .ok (.newarray .int, 2) := by decide +kernel
theorem dX4_init_73 : decode cX4_init 73 = .ok (.putfield 35, 3) := by decide +kernel
theorem dX4_init_76 : decode cX4_init 76 = .ok (.aload_n 0, 1) := by decide +kernel
theorem dX4_init_77 : decode cX4_init 77 = .ok (.bipush 80, 2) := by decide +kernel
theorem dX4_init_79 : decode cX4_init 79 = .ok (.newarray .int, 2) := by decide +kernel
theorem dX4_init_81 : decode cX4_init 81 = .ok (.putfield 38, 3) := by decide +kernel
theorem dX4_init_84 : decode cX4_init 84 = .ok (.aload_n 0, 1) := by decide +kernel
theorem dX4_init_85 : decode cX4_init 85 = .ok (.bipush 80, 2) := by decide +kernel
theorem dX4_init_87 : decode cX4_init 87 = .ok (.newarray .int, 2) := by decide +kernel
theorem dX4_init_89 : decode cX4_init 89 = .ok (.putfield 41, 3) := by decide +kernel
theorem dX4_init_92 : decode cX4_init 92 = .ok (.aload_n 0, 1) := by decide +kernel
theorem dX4_init_93 : decode cX4_init 93 = .ok (.bipush 80, 2) := by decide +kernel
theorem dX4_init_95 : decode cX4_init 95 = .ok (.newarray .int, 2) := by decide +kernel
theorem dX4_init_97 : decode cX4_init 97 = .ok (.putfield 44, 3) := by decide +kernel
theorem dX4_init_100 : decode cX4_init 100 = .ok (.aload_n 0, 1) := by decide +kernel
theorem dX4_init_101 : decode cX4_init 101 = .ok (.bipush 80, 2) := by decide +kernel
theorem dX4_init_103 : decode cX4_init 103 = .ok (.newarray .int, 2) := by decide +kernel
theorem dX4_init_105 : decode cX4_init 105 = .ok (.putfield 47, 3) := by decide +kernel
theorem dX4_init_108 : decode cX4_init 108 = .ok (.aload_n 0, 1) := by decide +kernel
theorem dX4_init_109 : decode cX4_init 109 = .ok (.bipush 80, 2) := by decide +kernel
theorem dX4_init_111 : decode cX4_init 111 = .ok (.newarray .boolean, 2) := by decide +kernel
theorem dX4_init_113 : decode cX4_init 113 = .ok (.putfield 50, 3) := by decide +kernel
theorem dX4_init_116 : decode cX4_init 116 = .ok (.iconst 0, 1) := by decide +kernel
theorem dX4_init_117 : decode cX4_init 117 = .ok (.istore_n 1, 1) := by decide +kernel
theorem dX4_init_118 : decode cX4_init 118 = .ok (.iload_n 1, 1) := by decide +kernel
theorem dX4_init_119 : decode cX4_init 119 = .ok (.iconst 4, 1) := by decide +kernel
theorem dX4_init_120 : decode cX4_init 120 = .ok (.if_icmp .ge 18, 3) := by decide +kernel
theorem dX4_init_123 : decode cX4_init 123 = .ok (.aload_n 0, 1) := by decide +kernel
theorem dX4_init_124 : decode cX4_init 124 = .ok (.getfield 7, 3) := by decide +kernel
theorem dX4_init_127 : decode cX4_init 127 = .ok (.iload_n 1, 1) := by decide +kernel
theorem dX4_init_128 : decode cX4_init 128 = .ok (.sipush 500, 3) := by decide +kernel
theorem dX4_init_131 : decode cX4_init 131 = .ok (.iastore, 1) := by decide +kernel
theorem dX4_init_132 : decode cX4_init 132 = .ok (.iinc 1 1, 3) := by decide +kernel
theorem dX4_init_135 : decode cX4_init 135 = .ok (.goto (-17), 3) := by decide +kernel
theorem dX4_init_138 : decode cX4_init 138 = .ok (.return_, 1) := by decide +kernel
theorem dX4_thrown_0 : decode cX4_thrown 0 = .ok (.aload_n 0, 1) := by decide +kernel
theorem dX4_thrown_1 : decode cX4_thrown 1 = .ok (.getfield 53, 3) := by decide +kernel
theorem dX4_thrown_4 : decode cX4_thrown 4 = .ok (.ireturn, 1) := by decide +kernel
theorem dX4_isIn_0 : decode cX4_isIn 0 = .ok (.iload_n 0, 1) := by decide +kernel
theorem dX4_isIn_1 : decode cX4_isIn 1 = .ok (.iload_n 1, 1) := by decide +kernel
theorem dX4_isIn_2 : decode cX4_isIn 2 = .ok (.if_icmp .lt 12, 3) := by decide +kernel
theorem dX4_isIn_5 : decode cX4_isIn 5 = .ok (.iload_n 0, 1) := by decide +kernel
theorem dX4_isIn_6 : decode cX4_isIn 6 = .ok (.iload_n 2, 1) := by decide +kernel
theorem dX4_isIn_7 : decode cX4_isIn 7 = .ok (.if_icmp .gt 7, 3) := by decide +kernel
theorem dX4_isIn_10 : decode cX4_isIn 10 = .ok (.iconst 1, 1) := by decide +kernel
theorem dX4_isIn_11 : decode cX4_isIn 11 = .ok (.goto 4, 3) := by decide +kernel
theorem dX4_isIn_14 : decode cX4_isIn 14 = .ok (.iconst 0, 1) := by decide +kernel
theorem dX4_isIn_15 : decode cX4_isIn 15 = .ok (.ireturn, 1) := by decide +kernel
set_option maxRecDepth 20000 in
theorem ggX4_setBase_X4_isIn : GoodIn wsX4_setBase wsX4_isIn := goodIn_r _ [6] (by decide +kernel) (by decide +kernel)
set_option maxRecDepth 20000 in
theorem gX4_setBase_X4_isIn : GoodIn wsX4_setBase (va_wsS RX4 57 yX4_isIn wsX4_isIn) := goodIn_app (goodIn_of _ (by decide +kernel)) ggX4_setBase_X4_isIn
theorem dX4_setBase_0 : decode cX4_setBase 0 = .ok (.aload_n 0, 1) := by decide +kernel
theorem dX4_setBase_1 : decode cX4_setBase 1 = .ok (.iload_n 1, 1) := by decide +kernel
theorem dX4_setBase_2 : decode cX4_setBase 2 = .ok (.iconst 0, 1) := by decide +kernel
theorem dX4_setBase_3 : decode cX4_setBase 3 = .ok (.iconst 3, 1) := by decide +kernel
theorem dX4_setBase_4 : decode cX4_setBase 4 = .ok (.invokestatic 57, 3) := by decide +kernel
theorem dX4_setBase_7 : decode cX4_setBase 7 = .ok (.ifCond .eq 18, 3) := by decide +kernel
theorem dX4_setBase_10 : decode cX4_setBase 10 = .ok (.iload_n 2, 1) := by decide +kernel
theorem dX4_setBase_11 : decode cX4_setBase 11 = .ok (.iconst 1, 1) := by decide +kernel
theorem dX4_setBase_12 : decode cX4_setBase 12 = .ok (.sipush 10000, 3) := by decide +kernel
theorem dX4_setBase_15 : decode cX4_setBase 15 = .ok (.invokestatic 57, 3) := by decide +kernel
theorem dX4_setBase_18 : decode cX4_setBase 18 = .ok (.ifCond .eq 7, 3) := by decide +kernel
theorem dX4_setBase_21 : decode cX4_setBase 21 = .ok (.iconst 0, 1) := by decide +kernel
theorem dX4_setBase_22 : decode cX4_setBase 22 = .ok (.goto 4, 3) := by decide +kernel
theorem dX4_setBase_25 : decode cX4_setBase 25 = .ok (.iconst 1, 1) := by decide +kernel
theorem dX4_setBase_26 : decode cX4_setBase 26 = .ok (.putfield 53, 3) := by decide +kernel
theorem dX4_setBase_29 : decode cX4_setBase 29 = .ok (.aload_n 0, 1) := by decide +kernel
theorem dX4_setBase_30 : decode cX4_setBase 30 = .ok (.getfield 53, 3) := by decide +kernel
theorem dX4_setBase_33 : decode cX4_setBase 33 = .ok (.ifCond .le 5, 3) := by decide +kernel
theorem dX4_setBase_36 : decode cX4_setBase 36 = .ok (.iconst 0, 1) := by decide +kernel
theorem dX4_setBase_37 : decode cX4_setBase 37 = .ok (.ireturn, 1) := by decide +kernel
theorem dX4_setBase_38 : decode cX4_setBase 38 = .ok (.aload_n 0, 1) := by decide +kernel
theorem dX4_setBase_39 : decode cX4_setBase 39 = .ok (.getfield 7, 3) := by decide +kernel
theorem dX4_setBase_42 : decode cX4_setBase 42 = .ok (.iload_n 1, 1) := by decide +kernel
theorem dX4_setBase_43 : decode cX4_setBase 43 = .ok (.iaload, 1) := by decide +kernel
theorem dX4_setBase_44 : decode cX4_setBase 44 = .ok (.istore_n 3, 1) := by decide +kernel
theorem dX4_setBase_45 : decode cX4_setBase 45 = .ok (.aload_n 0, 1) := by decide +kernel
theorem dX4_setBase_46 : decode cX4_setBase 46 = .ok (.getfield 7, 3) := by decide +kernel
theorem dX4_setBase_49 : decode cX4_setBase 49 = .ok (.iload_n 1, 1) := by decide +kernel
theorem dX4_setBase_50 : decode cX4_setBase 50 = .ok (.iload_n 2, 1) := by decide +kernel
theorem dX4_setBase_51 : decode cX4_setBase 51 = .ok (.iastore, 1) := by decide +kernel
theorem dX4_setBase_52 : decode cX4_setBase 52 = .ok (.iload_n 3, 1) := by decide +kernel
theorem dX4_setBase_53 : decode cX4_setBase 53 = .ok (.ireturn, 1) := by decide +kernel
set_option maxRecDepth 20000 in
theorem ggX4_addRule_X4_isIn : GoodIn wsX4_addRule wsX4_isIn := goodIn_r _ [11] (by decide +kernel) (by decide +kernel)
set_option maxRecDepth 20000 in
theorem gX4_addRule_X4_isIn : GoodIn wsX4_addRule (va_wsS RX4 57 yX4_isIn wsX4_isIn) := goodIn_app (goodIn_of _ (by decide +kernel)) ggX4_addRule_X4_isIn
theorem dX4_addRule_0 : decode cX4_addRule 0 = .ok (.iload_n 1, 1) := by decide +kernel
theorem dX4_addRule_1 : decode cX4_addRule 1 = .ok (.iconst 0, 1) := by decide +kernel
theorem dX4_addRule_2 : decode cX4_addRule 2 = .ok (.bipush 127, 2) := by decide +kernel
theorem dX4_addRule_4 : decode cX4_addRule 4 = .ok (.invokestatic 57, 3) := by decide +kernel
theorem dX4_addRule_7 : decode cX4_addRule 7 = .ok (.ifCond .eq 53, 3) := by decide +kernel
theorem dX4_addRule_10 : decode cX4_addRule 10 = .ok (.iload_n 2, 1) := by decide +kernel
theorem dX4_addRule_11 : decode cX4_addRule 11 = .ok (.iconst 0, 1) := by decide +kernel
theorem dX4_addRule_12 : decode cX4_addRule 12 = .ok (.bipush 95, 2) := by decide +kernel
theorem dX4_addRule_14 : decode cX4_addRule 14 = .ok (.invokestatic 57, 3) := by decide +kernel
theorem dX4_addRule_17 : decode cX4_addRule 17 = .ok (.ifCond .eq 43, 3) := by decide +kernel
theorem dX4_addRule_20 : decode cX4_addRule 20 = .ok (.iload_n 3, 1) := by decide +kernel
theorem dX4_addRule_21 : decode cX4_addRule 21 = .ok (.iload_n 2, 1) := by decide +kernel
theorem dX4_addRule_22 : decode cX4_addRule 22 = .ok (.iconst 1, 1) := by decide +kernel
theorem dX4_addRule_23 : decode cX4_addRule 23 = .ok (.iadd, 1) := by decide +kernel
theorem dX4_addRule_24 : decode cX4_addRule 24 = .ok (.bipush 96, 2) := by decide +kernel
theorem dX4_addRule_26 : decode cX4_addRule 26 = .ok (.invokestatic 57, 3) := by decide +kernel
theorem dX4_addRule_29 : decode cX4_addRule 29 = .ok (.ifCond .eq 31, 3) := by decide +kernel
theorem dX4_addRule_32 : decode cX4_addRule 32 = .ok (.iload 4, 2) := by decide +kernel
theorem dX4_addRule_34 : decode cX4_addRule 34 = .ok (.iconst 1, 1) := by decide +kernel
theorem dX4_addRule_35 : decode cX4_addRule 35 = .ok (.bipush 15, 2) := by decide +kernel
theorem dX4_addRule_37 : decode cX4_addRule 37 = .ok (.invokestatic 57, 3) := by decide +kernel
theorem dX4_addRule_40 : decode cX4_addRule 40 = .ok (.ifCond .eq 20, 3) := by decide +kernel
theorem dX4_addRule_43 : decode cX4_addRule 43 = .ok (.iload 5, 2) := by decide +kernel
theorem dX4_addRule_45 : decode cX4_addRule 45 = .ok (.bipush 100, 2) := by decide +kernel
theorem dX4_addRule_47 : decode cX4_addRule 47 = .ok (.sipush 400, 3) := by decide +kernel
theorem dX4_addRule_50 : decode cX4_addRule 50 = .ok (.invokestatic 57, 3) := by decide +kernel
theorem dX4_addRule_53 : decode cX4_addRule 53 = .ok (.ifCond .eq 7, 3) := by decide +kernel
theorem dX4_addRule_56 : decode cX4_addRule 56 = .ok (.iconst 1, 1) := by decide +kernel
theorem dX4_addRule_57 : decode cX4_addRule 57 = .ok (.goto 4, 3) := by decide +kernel
theorem dX4_addRule_60 : decode cX4_addRule 60 = .ok (.iconst 0, 1) := by decide +kernel
theorem dX4_addRule_61 : decode cX4_addRule 61 = .ok (.istore 6, 2) := by decide +kernel
theorem dX4_addRule_63 : decode cX4_addRule 63 = .ok (.aload_n 0, 1) := by decide +kernel
theorem dX4_addRule_64 : decode cX4_addRule 64 = .ok (.iload 6, 2) := by decide +kernel
theorem dX4_addRule_66 : decode cX4_addRule 66 = .ok (.ifCond .ne 7, 3) := by decide +kernel
theorem dX4_addRule_69 : decode cX4_addRule 69 = .ok (.iconst 1, 1) := by decide +kernel
theorem dX4_addRule_70 : decode cX4_addRule 70 = .ok (.goto 17, 3) := by decide +kernel
theorem dX4_addRule_73 : decode cX4_addRule 73 = .ok (.aload_n 0, 1) := by decide +kernel
theorem dX4_addRule_74 : decode cX4_addRule 74 = .ok (.getfield 61, 3) := by decide +kernel
theorem dX4_addRule_77 : decode cX4_addRule 77 = .ok (.bipush 16, 2) := by decide +kernel
theorem dX4_addRule_79 : decode cX4_addRule 79 = .ok (.if_icmp .ne 7, 3) := by decide +kernel
theorem dX4_addRule_82 : decode cX4_addRule 82 = .ok (.iconst 2, 1) := by decide +kernel
theorem dX4_addRule_83 : decode cX4_addRule 83 = .ok (.goto 4, 3) := by decide +kernel
theorem dX4_addRule_86 : decode cX4_addRule 86 = .ok (.iconst 0, 1) := by decide +kernel
theorem dX4_addRule_87 : decode cX4_addRule 87 = .ok (.putfield 53, 3) := by decide +kernel
theorem dX4_addRule_90 : decode cX4_addRule 90 = .ok (.aload_n 0, 1) := by decide +kernel
theorem dX4_addRule_91 : decode cX4_addRule 91 = .ok (.getfield 53, 3) := by decide +kernel
theorem dX4_addRule_94 : decode cX4_addRule 94 = .ok (.ifCond .le 5, 3) := by decide +kernel
theorem dX4_addRule_97 : decode cX4_addRule 97 = .ok (.iconst 0, 1) := by decide +kernel
theorem dX4_addRule_98 : decode cX4_addRule 98 = .ok (.ireturn, 1) := by decide +kernel
theorem dX4_addRule_99 : decode cX4_addRule 99 = .ok (.aload_n 0, 1) := by decide +kernel
theorem dX4_addRule_100 : decode cX4_addRule 100 = .ok (.getfield 13, 3) := by decide +kernel
theorem dX4_addRule_103 : decode cX4_addRule 103 = .ok (.aload_n 0, 1) := by decide +kernel
theorem dX4_addRule_104 : decode cX4_addRule 104 = .ok (.getfield 61, 3) := by decide +kernel
theorem dX4_addRule_107 : decode cX4_addRule 107 = .ok (.iload_n 1, 1) := by decide +kernel
theorem dX4_addRule_108 : decode cX4_addRule 108 = .ok (.iastore, 1) := by decide +kernel
theorem dX4_addRule_109 : decode cX4_addRule 109 = .ok (.aload_n 0, 1) := by decide +kernel
theorem dX4_addRule_110 : decode cX4_addRule 110 = .ok (.getfield 16, 3) := by decide +kernel
theorem dX4_addRule_113 : decode cX4_addRule 113 = .ok (.aload_n 0, 1) := by decide +kernel
theorem dX4_addRule_114 : decode cX4_addRule 114 = .ok (.getfield 61, 3) := by decide +kernel
theorem dX4_addRule_117 : decode cX4_addRule 117 = .ok (.iload_n 2, 1) := by decide +kernel
theorem dX4_addRule_118 : decode cX4_addRule 118 = .ok (.iastore, 1) := by decide +kernel
theorem dX4_addRule_119 : decode cX4_addRule 119 = .ok (.aload_n 0, 1) := by decide +kernel
theorem dX4_addRule_120 : decode cX4_addRule 120 = .ok (.getfield 19, 3) := by decide +kernel
theorem dX4_addRule_123 : decode cX4_addRule 123 = .ok (.aload_n 0, 1) := by decide +kernel
theorem dX4_addRule_124 : decode cX4_addRule 124 = .ok (.getfield 61, 3) := by decide +kernel
theorem dX4_addRule_127 : decode cX4_addRule 127 = .ok (.iload_n 3, 1) := by decide +kernel
theorem dX4_addRule_128 : decode cX4_addRule 128 = .ok (.iastore, 1) := by decide +kernel
theorem dX4_addRule_129 : decode cX4_addRule 129 = .ok (.aload_n 0, 1) := by decide +kernel
theorem dX4_addRule_130 : decode cX4_addRule 130 = .ok (.getfield 22, 3) := by decide +kernel
theorem dX4_addRule_133 : decode cX4_addRule 133 = .ok (.aload_n 0, 1) := by decide +kernel
theorem dX4_addRule_134 : decode cX4_addRule 134 = .ok (.getfield 61, 3) := by decide +kernel
theorem dX4_addRule_137 : decode cX4_addRule 137 = .ok (.iload 4, 2) := by decide +kernel
theorem dX4_addRule_139 : decode cX4_addRule 139 = .ok (.iastore, 1) := by decide +kernel
theorem dX4_addRule_140 : decode cX4_addRule 140 = .ok (.aload_n 0, 1) := by decide +kernel
theorem dX4_addRule_141 : decode cX4_addRule 141 = .ok (.getfield 25, 3) := by decide +kernel
theorem dX4_addRule_144 : decode cX4_addRule 144 = .ok (.aload_n 0, 1) := by decide +kernel
theorem dX4_addRule_145 : decode cX4_addRule 145 = .ok (.getfield 61, 3) := by decide +kernel
theorem dX4_addRule_148 : decode cX4_addRule 148 = .ok (.iload 5, 2) := by decide +kernel
theorem dX4_addRule_150 : decode cX4_addRule 150 = .ok (.iastore, 1) := by decide +kernel
theorem dX4_addRule_151 : decode cX4_addRule 151 = .ok (.aload_n 0, 1) := by decide +kernel
theorem dX4_addRule_152 : decode cX4_addRule 152 = .ok (.dup, 1) := by decide +kernel
theorem dX4_addRule_153 : decode cX4_addRule 153 = .ok (.getfield 61, 3) := by decide +kernel
theorem dX4_addRule_156 : decode cX4_addRule 156 = .ok (.iconst 1, 1) := by decide +kernel
theorem dX4_addRule_157 : decode cX4_addRule 157 = .ok (.iadd, 1) := by decide +kernel
theorem dX4_addRule_158 : decode cX4_addRule 158 = .ok (.putfield 61, 3) := by decide +kernel
theorem dX4_addRule_161 : decode cX4_addRule 161 = .ok (.aload_n 0, 1) := by decide +kernel
theorem dX4_addRule_162 : decode cX4_addRule 162 = .ok (.getfield 61, 3) := by decide +kernel
theorem dX4_addRule_165 : decode cX4_addRule 165 = .ok (.iconst 1, 1) := by decide +kernel
theorem dX4_addRule_166 : decode cX4_addRule 166 = .ok (.isub, 1) := by decide +kernel
theorem dX4_addRule_167 : decode cX4_addRule 167 = .ok (.ireturn, 1) := by decide +kernel
set_option maxRecDepth 20000 in
theorem ggX4_setRule_X4_isIn : GoodIn wsX4_setRule wsX4_isIn := goodIn_r _ [7] (by decide +kernel) (by decide +kernel)
set_option maxRecDepth 20000 in
theorem gX4_setRule_X4_isIn : GoodIn wsX4_setRule (va_wsS RX4 57 yX4_isIn wsX4_isIn) := goodIn_app (goodIn_of _ (by decide +kernel)) ggX4_setRule_X4_isIn
theorem dX4_setRule_0 : decode cX4_setRule 0 = .ok (.aload_n 0, 1) := by decide +kernel
theorem dX4_setRule_1 : decode cX4_setRule 1 = .ok (.iload_n 1, 1) := by decide +kernel
theorem dX4_setRule_2 : decode cX4_setRule 2 = .ok (.iconst 0, 1) := by decide +kernel
theorem dX4_setRule_3 : decode cX4_setRule 3 = .ok (.aload_n 0, 1) := by decide +kernel
theorem dX4_setRule_4 : decode cX4_setRule 4 = .ok (.getfield 61, 3) := by decide +kernel
theorem dX4_setRule_7 : decode cX4_setRule 7 = .ok (.iconst 1, 1) := by decide +kernel
theorem dX4_setRule_8 : decode cX4_setRule 8 = .ok (.isub, 1) := by decide +kernel
theorem dX4_setRule_9 : decode cX4_setRule 9 = .ok (.invokestatic 57, 3) := by decide +kernel
theorem dX4_setRule_12 : decode cX4_setRule 12 = .ok (.ifCond .eq 7, 3) := by decide +kernel
theorem dX4_setRule_15 : decode cX4_setRule 15 = .ok (.iconst 0, 1) := by decide +kernel
theorem dX4_setRule_16 : decode cX4_setRule 16 = .ok (.goto 4, 3) := by decide +kernel
theorem dX4_setRule_19 : decode cX4_setRule 19 = .ok (.iconst 1, 1) := by decide +kernel
theorem dX4_setRule_20 : decode cX4_setRule 20 = .ok (.putfield 53, 3) := by decide +kernel
theorem dX4_setRule_23 : decode cX4_setRule 23 = .ok (.aload_n 0, 1) := by decide +kernel
theorem dX4_setRule_24 : decode cX4_setRule 24 = .ok (.getfield 53, 3) := by decide +kernel
theorem dX4_setRule_27 : decode cX4_setRule 27 = .ok (.ifCond .le 5, 3) := by decide +kernel
theorem dX4_setRule_30 : decode cX4_setRule 30 = .ok (.iconst 0, 1) := by decide +kernel
theorem dX4_setRule_31 : decode cX4_setRule 31 = .ok (.ireturn, 1) := by decide +kernel
theorem dX4_setRule_32 : decode cX4_setRule 32 = .ok (.aload_n 0, 1) := by decide +kernel
theorem dX4_setRule_33 : decode cX4_setRule 33 = .ok (.getfield 28, 3) := by decide +kernel
theorem dX4_setRule_36 : decode cX4_setRule 36 = .ok (.iload_n 1, 1) := by decide +kernel
theorem dX4_setRule_37 : decode cX4_setRule 37 = .ok (.baload, 1) := by decide +kernel
theorem dX4_setRule_38 : decode cX4_setRule 38 = .ok (.ifCond .ne 7, 3) := by decide +kernel
theorem dX4_setRule_41 : decode cX4_setRule 41 = .ok (.iconst 1, 1) := by decide +kernel
theorem dX4_setRule_42 : decode cX4_setRule 42 = .ok (.goto 4, 3) := by decide +kernel
theorem dX4_setRule_45 : decode cX4_setRule 45 = .ok (.iconst 0, 1) := by decide +kernel
theorem dX4_setRule_46 : decode cX4_setRule 46 = .ok (.istore_n 3, 1) := by decide +kernel
theorem dX4_setRule_47 : decode cX4_setRule 47 = .ok (.aload_n 0, 1) := by decide +kernel
theorem dX4_setRule_48 : decode cX4_setRule 48 = .ok (.getfield 28, 3) := by decide +kernel
theorem dX4_setRule_51 : decode cX4_setRule 51 = .ok (.iload_n 1, 1) := by decide +kernel
theorem dX4_setRule_52 : decode cX4_setRule 52 = .ok (.iload_n 2, 1) := by decide +kernel
theorem dX4_setRule_53 : decode cX4_setRule 53 = .ok (.ifCond .ne 7, 3) := by decide +kernel
theorem dX4_setRule_56 : decode cX4_setRule 56 = .ok (.iconst 1, 1) := by decide +kernel
theorem dX4_setRule_57 : decode cX4_setRule 57 = .ok (.goto 4, 3) := by decide +kernel
theorem dX4_setRule_60 : decode cX4_setRule 60 = .ok (.iconst 0, 1) := by decide +kernel
theorem dX4_setRule_61 : decode cX4_setRule 61 = .ok (.bastore, 1) := by decide +kernel
theorem dX4_setRule_62 : decode cX4_setRule 62 = .ok (.iload_n 3, 1) := by decide +kernel
theorem dX4_setRule_63 : decode cX4_setRule 63 = .ok (.ireturn, 1) := by decide +kernel
set_option maxRecDepth 20000 in
theorem ggX4_setHoliday_X4_isIn : GoodIn wsX4_setHoliday wsX4_isIn := goodIn_r _ [6] (by decide +kernel) (by decide +kernel)
set_option maxRecDepth 20000 in
theorem gX4_setHoliday_X4_isIn : GoodIn wsX4_setHoliday (va_wsS RX4 57 yX4_isIn wsX4_isIn) := goodIn_app (goodIn_of _ (by decide +kernel)) ggX4_setHoliday_X4_isIn
theorem dX4_setHoliday_0 : decode cX4_setHoliday 0 = .ok (.aload_n 0, 1) := by decide +kernel
theorem dX4_setHoliday_1 : decode cX4_setHoliday 1 = .ok (.iload_n 1, 1) := by decide +kernel
theorem dX4_setHoliday_2 : decode cX4_setHoliday 2 = .ok (.iconst 0, 1) := by decide +kernel
theorem dX4_setHoliday_3 : decode cX4_setHoliday 3 = .ok (.sipush 363, 3) := by decide +kernel
theorem dX4_setHoliday_6 : decode cX4_setHoliday 6 = .ok (.invokestatic 57, 3) := by decide +kernel
theorem dX4_setHoliday_9 : decode cX4_setHoliday 9 = .ok (.ifCond .eq 7, 3) := by decide +kernel
theorem dX4_setHoliday_12 : decode cX4_setHoliday 12 = .ok (.iconst 0, 1) := by decide +kernel
theorem dX4_setHoliday_13 : decode cX4_setHoliday 13 = .ok (.goto 4, 3) := by decide +kernel
theorem dX4_setHoliday_16 : decode cX4_setHoliday 16 = .ok (.iconst 1, 1) := by decide +kernel
theorem dX4_setHoliday_17 : decode cX4_setHoliday 17 = .ok (.putfield 53, 3) := by decide +kernel
theorem dX4_setHoliday_20 : decode cX4_setHoliday 20 = .ok (.aload_n 0, 1) := by decide +kernel
theorem dX4_setHoliday_21 : decode cX4_setHoliday 21 = .ok (.getfield 53, 3) := by decide +kernel
theorem dX4_setHoliday_24 : decode cX4_setHoliday 24 = .ok (.ifCond .le 5, 3) := by decide +kernel
theorem dX4_setHoliday_27 : decode cX4_setHoliday 27 = .ok (.iconst 0, 1) := by decide +kernel
theorem dX4_setHoliday_28 : decode cX4_setHoliday 28 = .ok (.ireturn, 1) := by decide +kernel
theorem dX4_setHoliday_29 : decode cX4_setHoliday 29 = .ok (.aload_n 0, 1) := by decide +kernel
theorem dX4_setHoliday_30 : decode cX4_setHoliday 30 = .ok (.getfield 32, 3) := by decide +kernel
theorem dX4_setHoliday_33 : decode cX4_setHoliday 33 = .ok (.iload_n 1, 1) := by decide +kernel
theorem dX4_setHoliday_34 : decode cX4_setHoliday 34 = .ok (.baload, 1) := by decide +kernel
theorem dX4_setHoliday_35 : decode cX4_setHoliday 35 = .ok (.istore_n 3, 1) := by decide +kernel
theorem dX4_setHoliday_36 : decode cX4_setHoliday 36 = .ok (.aload_n 0, 1) := by decide +kernel
theorem dX4_setHoliday_37 : decode cX4_setHoliday 37 = .ok (.getfield 32, 3) := by decide +kernel
theorem dX4_setHoliday_40 : decode cX4_setHoliday 40 = .ok (.iload_n 1, 1) := by decide +kernel
theorem dX4_setHoliday_41 : decode cX4_setHoliday 41 = .ok (.iload_n 2, 1) := by decide +kernel
theorem dX4_setHoliday_42 : decode cX4_setHoliday 42 = .ok (.bastore, 1) := by decide +kernel
theorem dX4_setHoliday_43 : decode cX4_setHoliday 43 = .ok (.iload_n 3, 1) := by decide +kernel
theorem dX4_setHoliday_44 : decode cX4_setHoliday 44 = .ok (.ireturn, 1) := by decide +kernel
theorem dX4_applies_0 : decode cX4_applies 0 = .ok (.iload_n 2, 1) := by decide +kernel
theorem dX4_applies_1 : decode cX4_applies 1 = .ok (.bipush 96, 2) := by decide +kernel
theorem dX4_applies_3 : decode cX4_applies 3 = .ok (.idiv, 1) := by decide +kernel
theorem dX4_applies_4 : decode cX4_applies 4 = .ok (.istore 4, 2) := by decide +kernel
theorem dX4_applies_6 : decode cX4_applies 6 = .ok (.iload_n 2, 1) := by decide +kernel
theorem dX4_applies_7 : decode cX4_applies 7 = .ok (.bipush 96, 2) := by decide +kernel
theorem dX4_applies_9 : decode cX4_applies 9 = .ok (.irem, 1) := by decide +kernel
theorem dX4_applies_10 : decode cX4_applies 10 = .ok (.istore 5, 2) := by decide +kernel
theorem dX4_applies_12 : decode cX4_applies 12 = .ok (.aload_n 0, 1) := by decide +kernel
theorem dX4_applies_13 : decode cX4_applies 13 = .ok (.getfield 13, 3) := by decide +kernel
theorem dX4_applies_16 : decode cX4_applies 16 = .ok (.iload_n 1, 1) := by decide +kernel
theorem dX4_applies_17 : decode cX4_applies 17 = .ok (.iaload, 1) := by decide +kernel
theorem dX4_applies_18 : decode cX4_applies 18 = .ok (.ifCond .ne 13, 3) := by decide +kernel
theorem dX4_applies_21 : decode cX4_applies 21 = .ok (.aload_n 0, 1) := by decide +kernel
theorem dX4_applies_22 : decode cX4_applies 22 = .ok (.getfield 32, 3) := by decide +kernel
theorem dX4_applies_25 : decode cX4_applies 25 = .ok (.iload 4, 2) := by decide +kernel
theorem dX4_applies_27 : decode cX4_applies 27 = .ok (.baload, 1) := by decide +kernel
theorem dX4_applies_28 : decode cX4_applies 28 = .ok (.goto 26, 3) := by decide +kernel
theorem dX4_applies_31 : decode cX4_applies 31 = .ok (.aload_n 0, 1) := by decide +kernel
theorem dX4_applies_32 : decode cX4_applies 32 = .ok (.getfield 13, 3) := by decide +kernel
theorem dX4_applies_35 : decode cX4_applies 35 = .ok (.iload_n 1, 1) := by decide +kernel
theorem dX4_applies_36 : decode cX4_applies 36 = .ok (.iaload, 1) := by decide +kernel
theorem dX4_applies_37 : decode cX4_applies 37 = .ok (.iload 4, 2) := by decide +kernel
theorem dX4_applies_39 : decode cX4_applies 39 = .ok (.bipush 7, 2) := by decide +kernel
theorem dX4_applies_41 : decode cX4_applies 41 = .ok (.irem, 1) := by decide +kernel
theorem dX4_applies_42 : decode cX4_applies 42 = .ok (.ishr, 1) := by decide +kernel
theorem dX4_applies_43 : decode cX4_applies 43 = .ok (.iconst 1, 1) := by decide +kernel
theorem dX4_applies_44 : decode cX4_applies 44 = .ok (.iand, 1) := by decide +kernel
theorem dX4_applies_45 : decode cX4_applies 45 = .ok (.iconst 1, 1) := by decide +kernel
theorem dX4_applies_46 : decode cX4_applies 46 = .ok (.if_icmp .ne 7, 3) := by decide +kernel
theorem dX4_applies_49 : decode cX4_applies 49 = .ok (.iconst 1, 1) := by decide +kernel
theorem dX4_applies_50 : decode cX4_applies 50 = .ok (.goto 4, 3) := by decide +kernel
theorem dX4_applies_53 : decode cX4_applies 53 = .ok (.iconst 0, 1) := by decide +kernel
theorem dX4_applies_54 : decode cX4_applies 54 = .ok (.istore 6, 2) := by decide +kernel
theorem dX4_applies_56 : decode cX4_applies 56 = .ok (.iload 6, 2) := by decide +kernel
theorem dX4_applies_58 : decode cX4_applies 58 = .ok (.ifCond .eq 52, 3) := by decide +kernel
theorem dX4_applies_61 : decode cX4_applies 61 = .ok (.aload_n 0, 1) := by decide +kernel
theorem dX4_applies_62 : decode cX4_applies 62 = .ok (.getfield 28, 3) := by decide +kernel
theorem dX4_applies_65 : decode cX4_applies 65 = .ok (.iload_n 1, 1) := by decide +kernel
theorem dX4_applies_66 : decode cX4_applies 66 = .ok (.baload, 1) := by decide +kernel
theorem dX4_applies_67 : decode cX4_applies 67 = .ok (.ifCond .ne 43, 3) := by decide +kernel
theorem dX4_applies_70 : decode cX4_applies 70 = .ok (.aload_n 0, 1) := by decide +kernel
theorem dX4_applies_71 : decode cX4_applies 71 = .ok (.getfield 22, 3) := by decide +kernel
theorem dX4_applies_74 : decode cX4_applies 74 = .ok (.iload_n 1, 1) := by decide +kernel
theorem dX4_applies_75 : decode cX4_applies 75 = .ok (.iaload, 1) := by decide +kernel
theorem dX4_applies_76 : decode cX4_applies 76 = .ok (.iload_n 3, 1) := by decide +kernel
theorem dX4_applies_77 : decode cX4_applies 77 = .ok (.ishr, 1) := by decide +kernel
theorem dX4_applies_78 : decode cX4_applies 78 = .ok (.iconst 1, 1) := by decide +kernel
theorem dX4_applies_79 : decode cX4_applies 79 = .ok (.iand, 1) := by decide +kernel
theorem dX4_applies_80 : decode cX4_applies 80 = .ok (.iconst 1, 1) := by decide +kernel
theorem dX4_applies_81 : decode cX4_applies 81 = .ok (.if_icmp .ne 29, 3) := by decide +kernel
theorem dX4_applies_84 : decode cX4_applies 84 = .ok (.iload 5, 2) := by decide +kernel
theorem dX4_applies_86 : decode cX4_applies 86 = .ok (.aload_n 0, 1) := by decide +kernel
theorem dX4_applies_87 : decode cX4_applies 87 = .ok (.getfield 16, 3) := by decide +kernel
theorem dX4_applies_90 : decode cX4_applies 90 = .ok (.iload_n 1, 1) := by decide +kernel
theorem dX4_applies_91 : decode cX4_applies 91 = .ok (.iaload, 1) := by decide +kernel
theorem dX4_applies_92 : decode cX4_applies 92 = .ok (.if_icmp .lt 18, 3) := by decide +kernel
theorem dX4_applies_95 : decode cX4_applies 95 = .ok (.iload 5, 2) := by decide +kernel
theorem dX4_applies_97 : decode cX4_applies 97 = .ok (.aload_n 0, 1) := by decide +kernel
theorem dX4_applies_98 : decode cX4_applies 98 = .ok (.getfield 19, 3) := by decide +kernel
theorem dX4_applies_101 : decode cX4_applies 101 = .ok (.iload_n 1, 1) := by decide +kernel
theorem dX4_applies_102 : decode cX4_applies 102 = .ok (.iaload, 1) := by decide +kernel
theorem dX4_applies_103 : decode cX4_applies 103 = .ok (.if_icmp .ge 7, 3) := by decide +kernel
theorem dX4_applies_106 : decode cX4_applies 106 = .ok (.iconst 1, 1) := by decide +kernel
theorem dX4_applies_107 : decode cX4_applies 107 = .ok (.goto 4, 3) := by decide +kernel
theorem dX4_applies_110 : decode cX4_applies 110 = .ok (.iconst 0, 1) := by decide +kernel
theorem dX4_applies_111 : decode cX4_applies 111 = .ok (.ireturn, 1) := by decide +kernel
set_option maxRecDepth 20000 in
theorem ggX4_isWorker_X4_isIn : GoodIn wsX4_isWorker wsX4_isIn := goodIn_r _ [5] (by decide +kernel) (by decide +kernel)
set_option maxRecDepth 20000 in
theorem gX4_isWorker_X4_isIn : GoodIn wsX4_isWorker (va_wsS RX4 57 yX4_isIn wsX4_isIn) := goodIn_app (goodIn_of _ (by decide +kernel)) ggX4_isWorker_X4_isIn
theorem dX4_isWorker_0 : decode cX4_isWorker 0 = .ok (.iload_n 1, 1) := by decide +kernel
theorem dX4_isWorker_1 : decode cX4_isWorker 1 = .ok (.iconst 0, 1) := by decide +kernel
theorem dX4_isWorker_2 : decode cX4_isWorker 2 = .ok (.aload_n 0, 1) := by decide +kernel
theorem dX4_isWorker_3 : decode cX4_isWorker 3 = .ok (.getfield 64, 3) := by decide +kernel
theorem dX4_isWorker_6 : decode cX4_isWorker 6 = .ok (.iconst 1, 1) := by decide +kernel
theorem dX4_isWorker_7 : decode cX4_isWorker 7 = .ok (.isub, 1) := by decide +kernel
theorem dX4_isWorker_8 : decode cX4_isWorker 8 = .ok (.invokestatic 57, 3) := by decide +kernel
theorem dX4_isWorker_11 : decode cX4_isWorker 11 = .ok (.ireturn, 1) := by decide +kernel
set_option maxRecDepth 20000 in
theorem ggX4_isShift_X4_isIn : GoodIn wsX4_isShift wsX4_isIn := goodIn_r _ [6] (by decide +kernel) (by decide +kernel)
set_option maxRecDepth 20000 in
theorem gX4_isShift_X4_isIn : GoodIn wsX4_isShift (va_wsS RX4 57 yX4_isIn wsX4_isIn) := goodIn_app (goodIn_of _ (by decide +kernel)) ggX4_isShift_X4_isIn
theorem dX4_isShift_0 : decode cX4_isShift 0 = .ok (.aload_n 0, 1) := by decide +kernel
theorem dX4_isShift_1 : decode cX4_isShift 1 = .ok (.iload_n 1, 1) := by decide +kernel
theorem dX4_isShift_2 : decode cX4_isShift 2 = .ok (.iconst 0, 1) := by decide +kernel
theorem dX4_isShift_3 : decode cX4_isShift 3 = .ok (.aload_n 0, 1) := by decide +kernel
theorem dX4_isShift_4 : decode cX4_isShift 4 = .ok (.getfield 67, 3) := by decide +kernel
theorem dX4_isShift_7 : decode cX4_isShift 7 = .ok (.iconst 1, 1) := by decide +kernel
theorem dX4_isShift_8 : decode cX4_isShift 8 = .ok (.isub, 1) := by decide +kernel
theorem dX4_isShift_9 : decode cX4_isShift 9 = .ok (.invokestatic 57, 3) := by decide +kernel
theorem dX4_isShift_12 : decode cX4_isShift 12 = .ok (.ifCond .eq 7, 3) := by decide +kernel
theorem dX4_isShift_15 : decode cX4_isShift 15 = .ok (.iconst 0, 1) := by decide +kernel
theorem dX4_isShift_16 : decode cX4_isShift 16 = .ok (.goto 4, 3) := by decide +kernel
theorem dX4_isShift_19 : decode cX4_isShift 19 = .ok (.iconst 1, 1) := by decide +kernel
theorem dX4_isShift_20 : decode cX4_isShift 20 = .ok (.putfield 53, 3) := by decide +kernel
theorem dX4_isShift_23 : decode cX4_isShift 23 = .ok (.aload_n 0, 1) := by decide +kernel
theorem dX4_isShift_24 : decode cX4_isShift 24 = .ok (.getfield 53, 3) := by decide +kernel
theorem dX4_isShift_27 : decode cX4_isShift 27 = .ok (.ifCond .ne 7, 3) := by decide +kernel
theorem dX4_isShift_30 : decode cX4_isShift 30 = .ok (.iconst 1, 1) := by decide +kernel
theorem dX4_isShift_31 : decode cX4_isShift 31 = .ok (.goto 4, 3) := by decide +kernel
theorem dX4_isShift_34 : decode cX4_isShift 34 = .ok (.iconst 0, 1) := by decide +kernel
theorem dX4_isShift_35 : decode cX4_isShift 35 = .ok (.ireturn, 1) := by decide +kernel
set_option maxRecDepth 20000 in
theorem ggX4_addWorker_X4_isIn : GoodIn wsX4_addWorker wsX4_isIn := goodIn_r _ [7] (by decide +kernel) (by decide +kernel)
set_option maxRecDepth 20000 in
theorem gX4_addWorker_X4_isIn : GoodIn wsX4_addWorker (va_wsS RX4 57 yX4_isIn wsX4_isIn) := goodIn_app (goodIn_of _ (by decide +kernel)) ggX4_addWorker_X4_isIn
theorem dX4_addWorker_0 : decode cX4_addWorker 0 = .ok (.aload_n 0, 1) := by decide +kernel
theorem dX4_addWorker_1 : decode cX4_addWorker 1 = .ok (.iload_n 1, 1) := by decide +kernel
theorem dX4_addWorker_2 : decode cX4_addWorker 2 = .ok (.iconst 0, 1) := by decide +kernel
theorem dX4_addWorker_3 : decode cX4_addWorker 3 = .ok (.iconst 3, 1) := by decide +kernel
theorem dX4_addWorker_4 : decode cX4_addWorker 4 = .ok (.invokestatic 57, 3) := by decide +kernel
theorem dX4_addWorker_7 : decode cX4_addWorker 7 = .ok (.ifCond .ne 7, 3) := by decide +kernel
theorem dX4_addWorker_10 : decode cX4_addWorker 10 = .ok (.iconst 1, 1) := by decide +kernel
theorem dX4_addWorker_11 : decode cX4_addWorker 11 = .ok (.goto 17, 3) := by decide +kernel
theorem dX4_addWorker_14 : decode cX4_addWorker 14 = .ok (.aload_n 0, 1) := by decide +kernel
theorem dX4_addWorker_15 : decode cX4_addWorker 15 = .ok (.getfield 64, 3) := by decide +kernel
theorem dX4_addWorker_18 : decode cX4_addWorker 18 = .ok (.bipush 12, 2) := by decide +kernel
theorem dX4_addWorker_20 : decode cX4_addWorker 20 = .ok (.if_icmp .ne 7, 3) := by decide +kernel
theorem dX4_addWorker_23 : decode cX4_addWorker 23 = .ok (.iconst 2, 1) := by decide +kernel
theorem dX4_addWorker_24 : decode cX4_addWorker 24 = .ok (.goto 4, 3) := by decide +kernel
theorem dX4_addWorker_27 : decode cX4_addWorker 27 = .ok (.iconst 0, 1) := by decide +kernel
theorem dX4_addWorker_28 : decode cX4_addWorker 28 = .ok (.putfield 53, 3) := by decide +kernel
theorem dX4_addWorker_31 : decode cX4_addWorker 31 = .ok (.aload_n 0, 1) := by decide +kernel
theorem dX4_addWorker_32 : decode cX4_addWorker 32 = .ok (.getfield 53, 3) := by decide +kernel
theorem dX4_addWorker_35 : decode cX4_addWorker 35 = .ok (.ifCond .le 5, 3) := by decide +kernel
theorem dX4_addWorker_38 : decode cX4_addWorker 38 = .ok (.iconst 0, 1) := by decide +kernel
theorem dX4_addWorker_39 : decode cX4_addWorker 39 = .ok (.ireturn, 1) := by decide +kernel
theorem dX4_addWorker_40 : decode cX4_addWorker 40 = .ok (.aload_n 0, 1) := by decide +kernel
theorem dX4_addWorker_41 : decode cX4_addWorker 41 = .ok (.getfield 35, 3) := by decide +kernel
theorem dX4_addWorker_44 : decode cX4_addWorker 44 = .ok (.aload_n 0, 1) := by decide +kernel
theorem dX4_addWorker_45 : decode cX4_addWorker 45 = .ok (.getfield 64, 3) := by decide +kernel
theorem dX4_addWorker_48 : decode cX4_addWorker 48 = .ok (.iload_n 1, 1) := by decide +kernel
theorem dX4_addWorker_49 : decode cX4_addWorker 49 = .ok (.iastore, 1) := by decide +kernel
theorem dX4_addWorker_50 : decode cX4_addWorker 50 = .ok (.aload_n 0, 1) := by decide +kernel
theorem dX4_addWorker_51 : decode cX4_addWorker 51 = .ok (.dup, 1) := by decide +kernel
theorem dX4_addWorker_52 : decode cX4_addWorker 52 = .ok (.getfield 64, 3) := by decide +kernel
theorem dX4_addWorker_55 : decode cX4_addWorker 55 = .ok (.iconst 1, 1) := by decide +kernel
theorem dX4_addWorker_56 : decode cX4_addWorker 56 = .ok (.iadd, 1) := by decide +kernel
theorem dX4_addWorker_57 : decode cX4_addWorker 57 = .ok (.putfield 64, 3) := by decide +kernel
theorem dX4_addWorker_60 : decode cX4_addWorker 60 = .ok (.aload_n 0, 1) := by decide +kernel
theorem dX4_addWorker_61 : decode cX4_addWorker 61 = .ok (.getfield 64, 3) := by decide +kernel
theorem dX4_addWorker_64 : decode cX4_addWorker 64 = .ok (.iconst 1, 1) := by decide +kernel
theorem dX4_addWorker_65 : decode cX4_addWorker 65 = .ok (.isub, 1) := by decide +kernel
theorem dX4_addWorker_66 : decode cX4_addWorker 66 = .ok (.ireturn, 1) := by decide +kernel
set_option maxRecDepth 20000 in
theorem ggX4_setRank_X4_isWorker : GoodIn wsX4_setRank wsX4_isWorker := goodIn_r _ [7, 8, 9, 10, 6, 11, 12, 13, 14, 15, 16, 17, 18, 19, 20, 21, 22, 23, 24, 25, 26, 27, 28, 29] (by decide +kernel) (by decide +kernel)
set_option maxRecDepth 20000 in
theorem gX4_setRank_X4_isWorker : GoodIn wsX4_setRank (wsV RX4 70 RX4 yX4_isWorker wsX4_isWorker) := goodIn_app (goodIn_of _ (by decide +kernel)) ggX4_setRank_X4_isWorker
set_option maxRecDepth 20000 in
theorem ggX4_setRank_X4_isIn : GoodIn wsX4_setRank wsX4_isIn := goodIn_r _ [11] (by decide +kernel) (by decide +kernel)
set_option maxRecDepth 20000 in
theorem gX4_setRank_X4_isIn : GoodIn wsX4_setRank (va_wsS RX4 57 yX4_isIn wsX4_isIn) := goodIn_app (goodIn_of _ (by decide +kernel)) ggX4_setRank_X4_isIn
theorem dX4_setRank_0 : decode cX4_setRank 0 = .ok (.aload_n 0, 1) := by decide +kernel
theorem dX4_setRank_1 : decode cX4_setRank 1 = .ok (.aload_n 0, 1) := by decide +kernel
theorem dX4_setRank_2 : decode cX4_setRank 2 = .ok (.iload_n 1, 1) := by decide +kernel
theorem dX4_setRank_3 : decode cX4_setRank 3 = .ok (.invokevirtual 70, 3) := by decide +kernel
theorem dX4_setRank_6 : decode cX4_setRank 6 = .ok (.ifCond .ne 7, 3) := by decide +kernel
theorem dX4_setRank_9 : decode cX4_setRank 9 = .ok (.iconst 1, 1) := by decide +kernel
theorem dX4_setRank_10 : decode cX4_setRank 10 = .ok (.goto 17, 3) := by decide +kernel
theorem dX4_setRank_13 : decode cX4_setRank 13 = .ok (.iload_n 2, 1) := by decide +kernel
theorem dX4_setRank_14 : decode cX4_setRank 14 = .ok (.iconst 0, 1) := by decide +kernel
theorem dX4_setRank_15 : decode cX4_setRank 15 = .ok (.iconst 3, 1) := by decide +kernel
theorem dX4_setRank_16 : decode cX4_setRank 16 = .ok (.invokestatic 57, 3) := by decide +kernel
theorem dX4_setRank_19 : decode cX4_setRank 19 = .ok (.ifCond .eq 7, 3) := by decide +kernel
theorem dX4_setRank_22 : decode cX4_setRank 22 = .ok (.iconst 0, 1) := by decide +kernel
theorem dX4_setRank_23 : decode cX4_setRank 23 = .ok (.goto 4, 3) := by decide +kernel
theorem dX4_setRank_26 : decode cX4_setRank 26 = .ok (.iconst 2, 1) := by decide +kernel
theorem dX4_setRank_27 : decode cX4_setRank 27 = .ok (.putfield 53, 3) := by decide +kernel
theorem dX4_setRank_30 : decode cX4_setRank 30 = .ok (.aload_n 0, 1) := by decide +kernel
theorem dX4_setRank_31 : decode cX4_setRank 31 = .ok (.getfield 53, 3) := by decide +kernel
theorem dX4_setRank_34 : decode cX4_setRank 34 = .ok (.ifCond .le 5, 3) := by decide +kernel
theorem dX4_setRank_37 : decode cX4_setRank 37 = .ok (.iconst 0, 1) := by decide +kernel
theorem dX4_setRank_38 : decode cX4_setRank 38 = .ok (.ireturn, 1) := by decide +kernel
theorem dX4_setRank_39 : decode cX4_setRank 39 = .ok (.aload_n 0, 1) := by decide +kernel
theorem dX4_setRank_40 : decode cX4_setRank 40 = .ok (.getfield 35, 3) := by decide +kernel
theorem dX4_setRank_43 : decode cX4_setRank 43 = .ok (.iload_n 1, 1) := by decide +kernel
theorem dX4_setRank_44 : decode cX4_setRank 44 = .ok (.iaload, 1) := by decide +kernel
theorem dX4_setRank_45 : decode cX4_setRank 45 = .ok (.istore_n 3, 1) := by decide +kernel
theorem dX4_setRank_46 : decode cX4_setRank 46 = .ok (.aload_n 0, 1) := by decide +kernel
theorem dX4_setRank_47 : decode cX4_setRank 47 = .ok (.getfield 35, 3) := by decide +kernel
theorem dX4_setRank_50 : decode cX4_setRank 50 = .ok (.iload_n 1, 1) := by decide +kernel
theorem dX4_setRank_51 : decode cX4_setRank 51 = .ok (.iload_n 2, 1) := by decide +kernel
theorem dX4_setRank_52 : decode cX4_setRank 52 = .ok (.iastore, 1) := by decide +kernel
theorem dX4_setRank_53 : decode cX4_setRank 53 = .ok (.iload_n 3, 1) := by decide +kernel
theorem dX4_setRank_54 : decode cX4_setRank 54 = .ok (.ireturn, 1) := by decide +kernel
set_option maxRecDepth 20000 in
theorem ggX4_addShift_X4_isIn : GoodIn wsX4_addShift wsX4_isIn := goodIn_r _ [10] (by decide +kernel) (by decide +kernel)
set_option maxRecDepth 20000 in
theorem gX4_addShift_X4_isIn : GoodIn wsX4_addShift (va_wsS RX4 57 yX4_isIn wsX4_isIn) := goodIn_app (goodIn_of _ (by decide +kernel)) ggX4_addShift_X4_isIn
set_option maxRecDepth 20000 in
theorem ggX4_addShift_X4_isWorker : GoodIn wsX4_addShift wsX4_isWorker := goodIn_r _ [14, 15, 7, 8, 9, 10, 16, 17, 18, 19, 20, 21, 22, 23, 24, 25, 26, 27, 28, 29, 30, 31, 32, 33] (by decide +kernel) (by decide +kernel)
set_option maxRecDepth 20000 in
theorem gX4_addShift_X4_isWorker : GoodIn wsX4_addShift (wsV RX4 70 RX4 yX4_isWorker wsX4_isWorker) := goodIn_app (goodIn_of _ (by decide +kernel)) ggX4_addShift_X4_isWorker
theorem dX4_addShift_0 : decode cX4_addShift 0 = .ok (.iload_n 2, 1) := by decide +kernel
theorem dX4_addShift_1 : decode cX4_addShift 1 = .ok (.iconst 0, 1) := by decide +kernel
theorem dX4_addShift_2 : decode cX4_addShift 2 = .ok (.sipush 362, 3) := by decide +kernel
theorem dX4_addShift_5 : decode cX4_addShift 5 = .ok (.invokestatic 57, 3) := by decide +kernel
theorem dX4_addShift_8 : decode cX4_addShift 8 = .ok (.ifCond .eq 28, 3) := by decide +kernel
theorem dX4_addShift_11 : decode cX4_addShift 11 = .ok (.iload_n 3, 1) := by decide +kernel
theorem dX4_addShift_12 : decode cX4_addShift 12 = .ok (.iconst 0, 1) := by decide +kernel
theorem dX4_addShift_13 : decode cX4_addShift 13 = .ok (.bipush 95, 2) := by decide +kernel
theorem dX4_addShift_15 : decode cX4_addShift 15 = .ok (.invokestatic 57, 3) := by decide +kernel
theorem dX4_addShift_18 : decode cX4_addShift 18 = .ok (.ifCond .eq 18, 3) := by decide +kernel
theorem dX4_addShift_21 : decode cX4_addShift 21 = .ok (.iload 4, 2) := by decide +kernel
theorem dX4_addShift_23 : decode cX4_addShift 23 = .ok (.iconst 1, 1) := by decide +kernel
theorem dX4_addShift_24 : decode cX4_addShift 24 = .ok (.bipush 64, 2) := by decide +kernel
theorem dX4_addShift_26 : decode cX4_addShift 26 = .ok (.invokestatic 57, 3) := by decide +kernel
theorem dX4_addShift_29 : decode cX4_addShift 29 = .ok (.ifCond .eq 7, 3) := by decide +kernel
theorem dX4_addShift_32 : decode cX4_addShift 32 = .ok (.iconst 1, 1) := by decide +kernel
theorem dX4_addShift_33 : decode cX4_addShift 33 = .ok (.goto 4, 3) := by decide +kernel
theorem dX4_addShift_36 : decode cX4_addShift 36 = .ok (.iconst 0, 1) := by decide +kernel
theorem dX4_addShift_37 : decode cX4_addShift 37 = .ok (.istore 5, 2) := by decide +kernel
theorem dX4_addShift_39 : decode cX4_addShift 39 = .ok (.aload_n 0, 1) := by decide +kernel
theorem dX4_addShift_40 : decode cX4_addShift 40 = .ok (.aload_n 0, 1) := by decide +kernel
theorem dX4_addShift_41 : decode cX4_addShift 41 = .ok (.iload_n 1, 1) := by decide +kernel
theorem dX4_addShift_42 : decode cX4_addShift 42 = .ok (.invokevirtual 70, 3) := by decide +kernel
theorem dX4_addShift_45 : decode cX4_addShift 45 = .ok (.ifCond .ne 7, 3) := by decide +kernel
theorem dX4_addShift_48 : decode cX4_addShift 48 = .ok (.iconst 1, 1) := by decide +kernel
theorem dX4_addShift_49 : decode cX4_addShift 49 = .ok (.goto 13, 3) := by decide +kernel
theorem dX4_addShift_52 : decode cX4_addShift 52 = .ok (.iload 5, 2) := by decide +kernel
theorem dX4_addShift_54 : decode cX4_addShift 54 = .ok (.ifCond .eq 7, 3) := by decide +kernel
theorem dX4_addShift_57 : decode cX4_addShift 57 = .ok (.iconst 0, 1) := by decide +kernel
theorem dX4_addShift_58 : decode cX4_addShift 58 = .ok (.goto 4, 3) := by decide +kernel
theorem dX4_addShift_61 : decode cX4_addShift 61 = .ok (.iconst 2, 1) := by decide +kernel
theorem dX4_addShift_62 : decode cX4_addShift 62 = .ok (.putfield 53, 3) := by decide +kernel
theorem dX4_addShift_65 : decode cX4_addShift 65 = .ok (.aload_n 0, 1) := by decide +kernel
theorem dX4_addShift_66 : decode cX4_addShift 66 = .ok (.getfield 53, 3) := by decide +kernel
theorem dX4_addShift_69 : decode cX4_addShift 69 = .ok (.ifCond .le 5, 3) := by decide +kernel
theorem dX4_addShift_72 : decode cX4_addShift 72 = .ok (.iconst 0, 1) := by decide +kernel
theorem dX4_addShift_73 : decode cX4_addShift 73 = .ok (.ireturn, 1) := by decide +kernel
theorem dX4_addShift_74 : decode cX4_addShift 74 = .ok (.bipush 96, 2) := by decide +kernel
theorem dX4_addShift_76 : decode cX4_addShift 76 = .ok (.iload_n 2, 1) := by decide +kernel
theorem dX4_addShift_77 : decode cX4_addShift 77 = .ok (.imul, 1) := by decide +kernel
theorem dX4_addShift_78 : decode cX4_addShift 78 = .ok (.iload_n 3, 1) := by decide +kernel
theorem dX4_addShift_79 : decode cX4_addShift 79 = .ok (.iadd, 1) := by decide +kernel
theorem dX4_addShift_80 : decode cX4_addShift 80 = .ok (.istore 6, 2) := by decide +kernel
theorem dX4_addShift_82 : decode cX4_addShift 82 = .ok (.aload_n 0, 1) := by decide +kernel
theorem dX4_addShift_83 : decode cX4_addShift 83 = .ok (.aload_n 0, 1) := by decide +kernel
theorem dX4_addShift_84 : decode cX4_addShift 84 = .ok (.getfield 67, 3) := by decide +kernel
theorem dX4_addShift_87 : decode cX4_addShift 87 = .ok (.bipush 80, 2) := by decide +kernel
theorem dX4_addShift_89 : decode cX4_addShift 89 = .ok (.if_icmp .ne 7, 3) := by decide +kernel
theorem dX4_addShift_92 : decode cX4_addShift 92 = .ok (.iconst 3, 1) := by decide +kernel
theorem dX4_addShift_93 : decode cX4_addShift 93 = .ok (.goto 4, 3) := by decide +kernel
theorem dX4_addShift_96 : decode cX4_addShift 96 = .ok (.iconst 0, 1) := by decide +kernel
theorem dX4_addShift_97 : decode cX4_addShift 97 = .ok (.putfield 53, 3) := by decide +kernel
theorem dX4_addShift_100 : decode cX4_addShift 100 = .ok (.iconst 0, 1) := by decide +kernel
theorem dX4_addShift_101 : decode cX4_addShift 101 = .ok (.istore 7, 2) := by decide +kernel
theorem dX4_addShift_103 : decode cX4_addShift 103 = .ok (.iload 7, 2) := by decide +kernel
theorem dX4_addShift_105 : decode cX4_addShift 105 = .ok (.aload_n 0, 1) := by decide +kernel
theorem dX4_addShift_106 : decode cX4_addShift 106 = .ok (.getfield 67, 3) := by decide +kernel
theorem dX4_addShift_109 : decode cX4_addShift 109 = .ok (.if_icmp .ge 89, 3) := by decide +kernel
theorem dX4_addShift_112 : decode cX4_addShift 112 = .ok (.aload_n 0, 1) := by decide +kernel
theorem dX4_addShift_113 : decode cX4_addShift 113 = .ok (.getfield 50, 3) := by decide +kernel
theorem dX4_addShift_116 : decode cX4_addShift 116 = .ok (.iload 7, 2) := by decide +kernel
theorem dX4_addShift_118 : decode cX4_addShift 118 = .ok (.baload, 1) := by decide +kernel
theorem dX4_addShift_119 : decode cX4_addShift 119 = .ok (.ifCond .ne 53, 3) := by decide +kernel
theorem dX4_addShift_122 : decode cX4_addShift 122 = .ok (.aload_n 0, 1) := by decide +kernel
theorem dX4_addShift_123 : decode cX4_addShift 123 = .ok (.getfield 38, 3) := by decide +kernel
theorem dX4_addShift_126 : decode cX4_addShift 126 = .ok (.iload 7, 2) := by decide +kernel
theorem dX4_addShift_128 : decode cX4_addShift 128 = .ok (.iaload, 1) := by decide +kernel
theorem dX4_addShift_129 : decode cX4_addShift 129 = .ok (.iload_n 1, 1) := by decide +kernel
theorem dX4_addShift_130 : decode cX4_addShift 130 = .ok (.if_icmp .ne 42, 3) := by decide +kernel
theorem dX4_addShift_133 : decode cX4_addShift 133 = .ok (.iload 6, 2) := by decide +kernel
theorem dX4_addShift_135 : decode cX4_addShift 135 = .ok (.aload_n 0, 1) := by decide +kernel
theorem dX4_addShift_136 : decode cX4_addShift 136 = .ok (.getfield 41, 3) := by decide +kernel
theorem dX4_addShift_139 : decode cX4_addShift 139 = .ok (.iload 7, 2) := by decide +kernel
theorem dX4_addShift_141 : decode cX4_addShift 141 = .ok (.iaload, 1) := by decide +kernel
theorem dX4_addShift_142 : decode cX4_addShift 142 = .ok (.aload_n 0, 1) := by decide +kernel
theorem dX4_addShift_143 : decode cX4_addShift 143 = .ok (.getfield 44, 3) := by decide +kernel
theorem dX4_addShift_146 : decode cX4_addShift 146 = .ok (.iload 7, 2) := by decide +kernel
theorem dX4_addShift_148 : decode cX4_addShift 148 = .ok (.iaload, 1) := by decide +kernel
theorem dX4_addShift_149 : decode cX4_addShift 149 = .ok (.iadd, 1) := by decide +kernel
theorem dX4_addShift_150 : decode cX4_addShift 150 = .ok (.if_icmp .ge 22, 3) := by decide +kernel
theorem dX4_addShift_153 : decode cX4_addShift 153 = .ok (.aload_n 0, 1) := by decide +kernel
theorem dX4_addShift_154 : decode cX4_addShift 154 = .ok (.getfield 41, 3) := by decide +kernel
theorem dX4_addShift_157 : decode cX4_addShift 157 = .ok (.iload 7, 2) := by decide +kernel
theorem dX4_addShift_159 : decode cX4_addShift 159 = .ok (.iaload, 1) := by decide +kernel
theorem dX4_addShift_160 : decode cX4_addShift 160 = .ok (.iload 6, 2) := by decide +kernel
theorem dX4_addShift_162 : decode cX4_addShift 162 = .ok (.iload 4, 2) := by decide +kernel
theorem dX4_addShift_164 : decode cX4_addShift 164 = .ok (.iadd, 1) := by decide +kernel
theorem dX4_addShift_165 : decode cX4_addShift 165 = .ok (.if_icmp .ge 7, 3) := by decide +kernel
theorem dX4_addShift_168 : decode cX4_addShift 168 = .ok (.iconst 1, 1) := by decide +kernel
theorem dX4_addShift_169 : decode cX4_addShift 169 = .ok (.goto 4, 3) := by decide +kernel
theorem dX4_addShift_172 : decode cX4_addShift 172 = .ok (.iconst 0, 1) := by decide +kernel
theorem dX4_addShift_173 : decode cX4_addShift 173 = .ok (.istore 8, 2) := by decide +kernel
theorem dX4_addShift_175 : decode cX4_addShift 175 = .ok (.aload_n 0, 1) := by decide +kernel
theorem dX4_addShift_176 : decode cX4_addShift 176 = .ok (.iload 8, 2) := by decide +kernel
theorem dX4_addShift_178 : decode cX4_addShift 178 = .ok (.ifCond .eq 7, 3) := by decide +kernel
theorem dX4_addShift_181 : decode cX4_addShift 181 = .ok (.iconst 3, 1) := by decide +kernel
theorem dX4_addShift_182 : decode cX4_addShift 182 = .ok (.goto 7, 3) := by decide +kernel
theorem dX4_addShift_185 : decode cX4_addShift 185 = .ok (.aload_n 0, 1) := by decide +kernel
theorem dX4_addShift_186 : decode cX4_addShift 186 = .ok (.getfield 53, 3) := by decide +kernel
theorem dX4_addShift_189 : decode cX4_addShift 189 = .ok (.putfield 53, 3) := by decide +kernel
theorem dX4_addShift_192 : decode cX4_addShift 192 = .ok (.iinc 7 1, 3) := by decide +kernel
theorem dX4_addShift_195 : decode cX4_addShift 195 = .ok (.goto (-92), 3) := by decide +kernel
theorem dX4_addShift_198 : decode cX4_addShift 198 = .ok (.aload_n 0, 1) := by decide +kernel
theorem dX4_addShift_199 : decode cX4_addShift 199 = .ok (.getfield 53, 3) := by decide +kernel
theorem dX4_addShift_202 : decode cX4_addShift 202 = .ok (.ifCond .le 5, 3) := by decide +kernel
theorem dX4_addShift_205 : decode cX4_addShift 205 = .ok (.iconst 0, 1) := by decide +kernel
theorem dX4_addShift_206 : decode cX4_addShift 206 = .ok (.ireturn, 1) := by decide +kernel
theorem dX4_addShift_207 : decode cX4_addShift 207 = .ok (.aload_n 0, 1) := by decide +kernel
theorem dX4_addShift_208 : decode cX4_addShift 208 = .ok (.getfield 38, 3) := by decide +kernel
theorem dX4_addShift_211 : decode cX4_addShift 211 = .ok (.aload_n 0, 1) := by decide +kernel
theorem dX4_addShift_212 : decode cX4_addShift 212 = .ok (.getfield 67, 3) := by decide +kernel
theorem dX4_addShift_215 : decode cX4_addShift 215 = .ok (.iload_n 1, 1) := by decide +kernel
theorem dX4_addShift_216 : decode cX4_addShift 216 = .ok (.iastore, 1) := by decide +kernel
theorem dX4_addShift_217 : decode cX4_addShift 217 = .ok (.aload_n 0, 1) := by decide +kernel
theorem dX4_addShift_218 : decode cX4_addShift 218 = .ok (.getfield 41, 3) := by decide +kernel
theorem dX4_addShift_221 : decode cX4_addShift 221 = .ok (.aload_n 0, 1) := by decide +kernel
theorem dX4_addShift_222 : decode cX4_addShift 222 = .ok (.getfield 67, 3) := by decide +kernel
theorem dX4_addShift_225 : decode cX4_addShift 225 = .ok (.iload 6, 2) := by decide +kernel
theorem dX4_addShift_227 : decode cX4_addShift 227 = .ok (.iastore, 1) := by decide +kernel
theorem dX4_addShift_228 : decode cX4_addShift 228 = .ok (.aload_n 0, 1) := by decide +kernel
theorem dX4_addShift_229 : decode cX4_addShift 229 = .ok (.getfield 44, 3) := by decide +kernel
theorem dX4_addShift_232 : decode cX4_addShift 232 = .ok (.aload_n 0, 1) := by decide +kernel
theorem dX4_addShift_233 : decode cX4_addShift 233 = .ok (.getfield 67, 3) := by decide +kernel
theorem dX4_addShift_236 : decode cX4_addShift 236 = .ok (.iload 4, 2) := by decide +kernel
theorem dX4_addShift_238 : decode cX4_addShift 238 = .ok (.iastore, 1) := by decide +kernel
theorem dX4_addShift_239 : decode cX4_addShift 239 = .ok (.aload_n 0, 1) := by decide +kernel
theorem dX4_addShift_240 : decode cX4_addShift 240 = .ok (.dup, 1) := by decide +kernel
theorem dX4_addShift_241 : decode cX4_addShift 241 = .ok (.getfield 67, 3) := by decide +kernel
theorem dX4_addShift_244 : decode cX4_addShift 244 = .ok (.iconst 1, 1) := by decide +kernel
theorem dX4_addShift_245 : decode cX4_addShift 245 = .ok (.iadd, 1) := by decide +kernel
theorem dX4_addShift_246 : decode cX4_addShift 246 = .ok (.putfield 67, 3) := by decide +kernel
theorem dX4_addShift_249 : decode cX4_addShift 249 = .ok (.aload_n 0, 1) := by decide +kernel
theorem dX4_addShift_250 : decode cX4_addShift 250 = .ok (.getfield 67, 3) := by decide +kernel
theorem dX4_addShift_253 : decode cX4_addShift 253 = .ok (.iconst 1, 1) := by decide +kernel
theorem dX4_addShift_254 : decode cX4_addShift 254 = .ok (.isub, 1) := by decide +kernel
theorem dX4_addShift_255 : decode cX4_addShift 255 = .ok (.ireturn, 1) := by decide +kernel
set_option maxRecDepth 20000 in
theorem ggX4_cancel_X4_isShift : GoodIn wsX4_cancel wsX4_isShift := goodIn_r _ [7, 8, 2, 9, 10, 6, 11, 53, 54, 55, 56, 57, 58, 59, 60, 61, 62, 63, 64, 65, 66, 67, 68, 69, 70] (by decide +kernel) (by decide +kernel)
set_option maxRecDepth 20000 in
theorem gX4_cancel_X4_isShift : GoodIn wsX4_cancel (wsV RX4 74 RX4 yX4_isShift wsX4_isShift) := goodIn_app (goodIn_of _ (by decide +kernel)) ggX4_cancel_X4_isShift
set_option maxRecDepth 20000 in
theorem ggX4_cancel_X4_payed : GoodIn wsX4_cancel wsX4_payed := goodIn_r _ [15, 16, 17, 18, 19, 20, 21, 6, 22, 23, 1, 24, 25, 26, 27, 28, 29, 30, 31, 32, 33, 34, 35, 36, 37, 38, 39, 40, 41, 42, 43, 44, 45, 46, 47, 48, 49, 50, 51, 52, 53, 54, 55, 56, 57, 58, 59, 60, 61, 62, 63, 64, 65, 66, 67, 68, 69, 70] (by decide +kernel) (by decide +kernel)
set_option maxRecDepth 20000 in
theorem gX4_cancel_X4_payed : GoodIn wsX4_cancel (wsV RX4 77 RX4 yX4_payed wsX4_payed) := goodIn_app (goodIn_of _ (by decide +kernel)) ggX4_cancel_X4_payed
theorem dX4_cancel_0 : decode cX4_cancel 0 = .ok (.aload_n 0, 1) := by decide +kernel
theorem dX4_cancel_1 : decode cX4_cancel 1 = .ok (.iload_n 1, 1) := by decide +kernel
theorem dX4_cancel_2 : decode cX4_cancel 2 = .ok (.invokevirtual 74, 3) := by decide +kernel
theorem dX4_cancel_5 : decode cX4_cancel 5 = .ok (.ifCond .ne 5, 3) := by decide +kernel
theorem dX4_cancel_8 : decode cX4_cancel 8 = .ok (.iconst 0, 1) := by decide +kernel
theorem dX4_cancel_9 : decode cX4_cancel 9 = .ok (.ireturn, 1) := by decide +kernel
theorem dX4_cancel_10 : decode cX4_cancel 10 = .ok (.aload_n 0, 1) := by decide +kernel
theorem dX4_cancel_11 : decode cX4_cancel 11 = .ok (.aload_n 0, 1) := by decide +kernel
theorem dX4_cancel_12 : decode cX4_cancel 12 = .ok (.getfield 50, 3) := by decide +kernel
theorem dX4_cancel_15 : decode cX4_cancel 15 = .ok (.iload_n 1, 1) := by decide +kernel
theorem dX4_cancel_16 : decode cX4_cancel 16 = .ok (.baload, 1) := by decide +kernel
theorem dX4_cancel_17 : decode cX4_cancel 17 = .ok (.ifCond .eq 7, 3) := by decide +kernel
theorem dX4_cancel_20 : decode cX4_cancel 20 = .ok (.iconst 2, 1) := by decide +kernel
theorem dX4_cancel_21 : decode cX4_cancel 21 = .ok (.goto 4, 3) := by decide +kernel
theorem dX4_cancel_24 : decode cX4_cancel 24 = .ok (.iconst 0, 1) := by decide +kernel
theorem dX4_cancel_25 : decode cX4_cancel 25 = .ok (.putfield 53, 3) := by decide +kernel
theorem dX4_cancel_28 : decode cX4_cancel 28 = .ok (.aload_n 0, 1) := by decide +kernel
theorem dX4_cancel_29 : decode cX4_cancel 29 = .ok (.getfield 53, 3) := by decide +kernel
theorem dX4_cancel_32 : decode cX4_cancel 32 = .ok (.ifCond .le 5, 3) := by decide +kernel
theorem dX4_cancel_35 : decode cX4_cancel 35 = .ok (.iconst 0, 1) := by decide +kernel
theorem dX4_cancel_36 : decode cX4_cancel 36 = .ok (.ireturn, 1) := by decide +kernel
theorem dX4_cancel_37 : decode cX4_cancel 37 = .ok (.aload_n 0, 1) := by decide +kernel
theorem dX4_cancel_38 : decode cX4_cancel 38 = .ok (.iload_n 1, 1) := by decide +kernel
theorem dX4_cancel_39 : decode cX4_cancel 39 = .ok (.invokevirtual 77, 3) := by decide +kernel
theorem dX4_cancel_42 : decode cX4_cancel 42 = .ok (.istore_n 2, 1) := by decide +kernel
theorem dX4_cancel_43 : decode cX4_cancel 43 = .ok (.aload_n 0, 1) := by decide +kernel
theorem dX4_cancel_44 : decode cX4_cancel 44 = .ok (.getfield 50, 3) := by decide +kernel
theorem dX4_cancel_47 : decode cX4_cancel 47 = .ok (.iload_n 1, 1) := by decide +kernel
theorem dX4_cancel_48 : decode cX4_cancel 48 = .ok (.iconst 1, 1) := by decide +kernel
theorem dX4_cancel_49 : decode cX4_cancel 49 = .ok (.bastore, 1) := by decide +kernel
theorem dX4_cancel_50 : decode cX4_cancel 50 = .ok (.iload_n 2, 1) := by decide +kernel
theorem dX4_cancel_51 : decode cX4_cancel 51 = .ok (.ireturn, 1) := by decide +kernel
set_option maxRecDepth 20000 in
theorem ggX4_takeBreaks_X4_isShift : GoodIn wsX4_takeBreaks wsX4_isShift := goodIn_r _ [8, 9, 2, 10, 11, 7, 12, 13, 14, 15, 16, 17, 18, 19, 20, 21, 22, 23, 24, 25, 26, 27, 28, 29, 30] (by decide +kernel) (by decide +kernel)
set_option maxRecDepth 20000 in
theorem gX4_takeBreaks_X4_isShift : GoodIn wsX4_takeBreaks (wsV RX4 74 RX4 yX4_isShift wsX4_isShift) := goodIn_app (goodIn_of _ (by decide +kernel)) ggX4_takeBreaks_X4_isShift
set_option maxRecDepth 20000 in
theorem ggX4_takeBreaks_X4_isIn : GoodIn wsX4_takeBreaks wsX4_isIn := goodIn_r _ [12] (by decide +kernel) (by decide +kernel)
set_option maxRecDepth 20000 in
theorem gX4_takeBreaks_X4_isIn : GoodIn wsX4_takeBreaks (va_wsS RX4 57 yX4_isIn wsX4_isIn) := goodIn_app (goodIn_of _ (by decide +kernel)) ggX4_takeBreaks_X4_isIn
theorem dX4_takeBreaks_0 : decode cX4_takeBreaks 0 = .ok (.aload_n 0, 1) := by decide +kernel
theorem dX4_takeBreaks_1 : decode cX4_takeBreaks 1 = .ok (.iload_n 1, 1) := by decide +kernel
theorem dX4_takeBreaks_2 : decode cX4_takeBreaks 2 = .ok (.invokevirtual 74, 3) := by decide +kernel
theorem dX4_takeBreaks_5 : decode cX4_takeBreaks 5 = .ok (.ifCond .ne 5, 3) := by decide +kernel
theorem dX4_takeBreaks_8 : decode cX4_takeBreaks 8 = .ok (.iconst 0, 1) := by decide +kernel
theorem dX4_takeBreaks_9 : decode cX4_takeBreaks 9 = .ok (.ireturn, 1) := by decide +kernel
theorem dX4_takeBreaks_10 : decode cX4_takeBreaks 10 = .ok (.aload_n 0, 1) := by decide +kernel
theorem dX4_takeBreaks_11 : decode cX4_takeBreaks 11 = .ok (.iload_n 2, 1) := by decide +kernel
theorem dX4_takeBreaks_12 : decode cX4_takeBreaks 12 = .ok (.iconst 0, 1) := by decide +kernel
theorem dX4_takeBreaks_13 : decode cX4_takeBreaks 13 = .ok (.iconst 5, 1) := by decide +kernel
theorem dX4_takeBreaks_14 : decode cX4_takeBreaks 14 = .ok (.invokestatic 57, 3) := by decide +kernel
theorem dX4_takeBreaks_17 : decode cX4_takeBreaks 17 = .ok (.ifCond .ne 7, 3) := by decide +kernel
theorem dX4_takeBreaks_20 : decode cX4_takeBreaks 20 = .ok (.iconst 2, 1) := by decide +kernel
theorem dX4_takeBreaks_21 : decode cX4_takeBreaks 21 = .ok (.goto 17, 3) := by decide +kernel
theorem dX4_takeBreaks_24 : decode cX4_takeBreaks 24 = .ok (.aload_n 0, 1) := by decide +kernel
theorem dX4_takeBreaks_25 : decode cX4_takeBreaks 25 = .ok (.getfield 50, 3) := by decide +kernel
theorem dX4_takeBreaks_28 : decode cX4_takeBreaks 28 = .ok (.iload_n 1, 1) := by decide +kernel
theorem dX4_takeBreaks_29 : decode cX4_takeBreaks 29 = .ok (.baload, 1) := by decide +kernel
theorem dX4_takeBreaks_30 : decode cX4_takeBreaks 30 = .ok (.ifCond .eq 7, 3) := by decide +kernel
theorem dX4_takeBreaks_33 : decode cX4_takeBreaks 33 = .ok (.iconst 3, 1) := by decide +kernel
theorem dX4_takeBreaks_34 : decode cX4_takeBreaks 34 = .ok (.goto 4, 3) := by decide +kernel
theorem dX4_takeBreaks_37 : decode cX4_takeBreaks 37 = .ok (.iconst 0, 1) := by decide +kernel
theorem dX4_takeBreaks_38 : decode cX4_takeBreaks 38 = .ok (.putfield 53, 3) := by decide +kernel
theorem dX4_takeBreaks_41 : decode cX4_takeBreaks 41 = .ok (.aload_n 0, 1) := by decide +kernel
theorem dX4_takeBreaks_42 : decode cX4_takeBreaks 42 = .ok (.getfield 53, 3) := by decide +kernel
theorem dX4_takeBreaks_45 : decode cX4_takeBreaks 45 = .ok (.ifCond .le 5, 3) := by decide +kernel
theorem dX4_takeBreaks_48 : decode cX4_takeBreaks 48 = .ok (.iconst 0, 1) := by decide +kernel
theorem dX4_takeBreaks_49 : decode cX4_takeBreaks 49 = .ok (.ireturn, 1) := by decide +kernel
theorem dX4_takeBreaks_50 : decode cX4_takeBreaks 50 = .ok (.aload_n 0, 1) := by decide +kernel
theorem dX4_takeBreaks_51 : decode cX4_takeBreaks 51 = .ok (.getfield 47, 3) := by decide +kernel
theorem dX4_takeBreaks_54 : decode cX4_takeBreaks 54 = .ok (.iload_n 1, 1) := by decide +kernel
theorem dX4_takeBreaks_55 : decode cX4_takeBreaks 55 = .ok (.iaload, 1) := by decide +kernel
theorem dX4_takeBreaks_56 : decode cX4_takeBreaks 56 = .ok (.istore_n 3, 1) := by decide +kernel
theorem dX4_takeBreaks_57 : decode cX4_takeBreaks 57 = .ok (.aload_n 0, 1) := by decide +kernel
theorem dX4_takeBreaks_58 : decode cX4_takeBreaks 58 = .ok (.getfield 47, 3) := by decide +kernel
theorem dX4_takeBreaks_61 : decode cX4_takeBreaks 61 = .ok (.iload_n 1, 1) := by decide +kernel
theorem dX4_takeBreaks_62 : decode cX4_takeBreaks 62 = .ok (.iload_n 2, 1) := by decide +kernel
theorem dX4_takeBreaks_63 : decode cX4_takeBreaks 63 = .ok (.iastore, 1) := by decide +kernel
theorem dX4_takeBreaks_64 : decode cX4_takeBreaks 64 = .ok (.iload_n 3, 1) := by decide +kernel
theorem dX4_takeBreaks_65 : decode cX4_takeBreaks 65 = .ok (.ireturn, 1) := by decide +kernel
theorem dX4_shifts_0 : decode cX4_shifts 0 = .ok (.aload_n 0, 1) := by decide +kernel
theorem dX4_shifts_1 : decode cX4_shifts 1 = .ok (.iconst 0, 1) := by decide +kernel
theorem dX4_shifts_2 : decode cX4_shifts 2 = .ok (.putfield 53, 3) := by decide +kernel
theorem dX4_shifts_5 : decode cX4_shifts 5 = .ok (.aload_n 0, 1) := by decide +kernel
theorem dX4_shifts_6 : decode cX4_shifts 6 = .ok (.getfield 67, 3) := by decide +kernel
theorem dX4_shifts_9 : decode cX4_shifts 9 = .ok (.ireturn, 1) := by decide +kernel
theorem dX4_paid_0 : decode cX4_paid 0 = .ok (.aload_n 0, 1) := by decide +kernel
theorem dX4_paid_1 : decode cX4_paid 1 = .ok (.getfield 50, 3) := by decide +kernel
theorem dX4_paid_4 : decode cX4_paid 4 = .ok (.iload_n 1, 1) := by decide +kernel
theorem dX4_paid_5 : decode cX4_paid 5 = .ok (.baload, 1) := by decide +kernel
theorem dX4_paid_6 : decode cX4_paid 6 = .ok (.ifCond .eq 7, 3) := by decide +kernel
theorem dX4_paid_9 : decode cX4_paid 9 = .ok (.iconst 0, 1) := by decide +kernel
theorem dX4_paid_10 : decode cX4_paid 10 = .ok (.goto 25, 3) := by decide +kernel
theorem dX4_paid_13 : decode cX4_paid 13 = .ok (.aload_n 0, 1) := by decide +kernel
theorem dX4_paid_14 : decode cX4_paid 14 = .ok (.getfield 44, 3) := by decide +kernel
theorem dX4_paid_17 : decode cX4_paid 17 = .ok (.iload_n 1, 1) := by decide +kernel
theorem dX4_paid_18 : decode cX4_paid 18 = .ok (.iaload, 1) := by decide +kernel
theorem dX4_paid_19 : decode cX4_paid 19 = .ok (.bipush 12, 2) := by decide +kernel
theorem dX4_paid_21 : decode cX4_paid 21 = .ok (.if_icmp .ge 8, 3) := by decide +kernel
theorem dX4_paid_24 : decode cX4_paid 24 = .ok (.bipush 12, 2) := by decide +kernel
theorem dX4_paid_26 : decode cX4_paid 26 = .ok (.goto 9, 3) := by decide +kernel
theorem dX4_paid_29 : decode cX4_paid 29 = .ok (.aload_n 0, 1) := by decide +kernel
theorem dX4_paid_30 : decode cX4_paid 30 = .ok (.getfield 44, 3) := by decide +kernel
theorem dX4_paid_33 : decode cX4_paid 33 = .ok (.iload_n 1, 1) := by decide +kernel
theorem dX4_paid_34 : decode cX4_paid 34 = .ok (.iaload, 1) := by decide +kernel
theorem dX4_paid_35 : decode cX4_paid 35 = .ok (.ireturn, 1) := by decide +kernel
theorem dX4_overtime_0 : decode cX4_overtime 0 = .ok (.iload_n 0, 1) := by decide +kernel
theorem dX4_overtime_1 : decode cX4_overtime 1 = .ok (.bipush 40, 2) := by decide +kernel
theorem dX4_overtime_3 : decode cX4_overtime 3 = .ok (.if_icmp .lt 9, 3) := by decide +kernel
theorem dX4_overtime_6 : decode cX4_overtime 6 = .ok (.sipush 200, 3) := by decide +kernel
theorem dX4_overtime_9 : decode cX4_overtime 9 = .ok (.goto 17, 3) := by decide +kernel
theorem dX4_overtime_12 : decode cX4_overtime 12 = .ok (.iload_n 0, 1) := by decide +kernel
theorem dX4_overtime_13 : decode cX4_overtime 13 = .ok (.bipush 32, 2) := by decide +kernel
theorem dX4_overtime_15 : decode cX4_overtime 15 = .ok (.if_icmp .lt 9, 3) := by decide +kernel
theorem dX4_overtime_18 : decode cX4_overtime 18 = .ok (.sipush 150, 3) := by decide +kernel
theorem dX4_overtime_21 : decode cX4_overtime 21 = .ok (.goto 5, 3) := by decide +kernel
theorem dX4_overtime_24 : decode cX4_overtime 24 = .ok (.bipush 100, 2) := by decide +kernel
theorem dX4_overtime_26 : decode cX4_overtime 26 = .ok (.ireturn, 1) := by decide +kernel
set_option maxRecDepth 20000 in
theorem ggX4_percented_X4_overtime : GoodIn wsX4_percented wsX4_overtime := goodIn_r _ [9] (by decide +kernel) (by decide +kernel)
set_option maxRecDepth 20000 in
theorem gX4_percented_X4_overtime : GoodIn wsX4_percented (va_wsS RX4 81 yX4_overtime wsX4_overtime) := goodIn_app (goodIn_of _ (by decide +kernel)) ggX4_percented_X4_overtime
set_option maxRecDepth 20000 in
theorem ggX4_percented_X4_applies : GoodIn wsX4_percented wsX4_applies := goodIn_r _ [13, 14, 15, 16, 17, 18, 19, 20, 21, 22, 23, 24, 25, 26, 27, 28, 29, 30, 31, 32, 33, 34, 35, 36, 37] (by decide +kernel) (by decide +kernel)
set_option maxRecDepth 20000 in
theorem gX4_percented_X4_applies : GoodIn wsX4_percented (wsV RX4 84 RX4 yX4_applies wsX4_applies) := goodIn_app (goodIn_of _ (by decide +kernel)) ggX4_percented_X4_applies
theorem dX4_percented_0 : decode cX4_percented 0 = .ok (.iload_n 2, 1) := by decide +kernel
theorem dX4_percented_1 : decode cX4_percented 1 = .ok (.invokestatic 81, 3) := by decide +kernel
theorem dX4_percented_4 : decode cX4_percented 4 = .ok (.istore_n 3, 1) := by decide +kernel
theorem dX4_percented_5 : decode cX4_percented 5 = .ok (.iconst 0, 1) := by decide +kernel
theorem dX4_percented_6 : decode cX4_percented 6 = .ok (.istore 4, 2) := by decide +kernel
theorem dX4_percented_8 : decode cX4_percented 8 = .ok (.iload 4, 2) := by decide +kernel
theorem dX4_percented_10 : decode cX4_percented 10 = .ok (.aload_n 0, 1) := by decide +kernel
theorem dX4_percented_11 : decode cX4_percented 11 = .ok (.getfield 61, 3) := by decide +kernel
theorem dX4_percented_14 : decode cX4_percented 14 = .ok (.if_icmp .ge 72, 3) := by decide +kernel
theorem dX4_percented_17 : decode cX4_percented 17 = .ok (.aload_n 0, 1) := by decide +kernel
theorem dX4_percented_18 : decode cX4_percented 18 = .ok (.getfield 25, 3) := by decide +kernel
theorem dX4_percented_21 : decode cX4_percented 21 = .ok (.iload 4, 2) := by decide +kernel
theorem dX4_percented_23 : decode cX4_percented 23 = .ok (.iaload, 1) := by decide +kernel
theorem dX4_percented_24 : decode cX4_percented 24 = .ok (.iload_n 3, 1) := by decide +kernel
theorem dX4_percented_25 : decode cX4_percented 25 = .ok (.if_icmp .le 35, 3) := by decide +kernel
theorem dX4_percented_28 : decode cX4_percented 28 = .ok (.aload_n 0, 1) := by decide +kernel
theorem dX4_percented_29 : decode cX4_percented 29 = .ok (.iload 4, 2) := by decide +kernel
theorem dX4_percented_31 : decode cX4_percented 31 = .ok (.aload_n 0, 1) := by decide +kernel
theorem dX4_percented_32 : decode cX4_percented 32 = .ok (.getfield 41, 3) := by decide +kernel
theorem dX4_percented_35 : decode cX4_percented 35 = .ok (.iload_n 1, 1) := by decide +kernel
theorem dX4_percented_36 : decode cX4_percented 36 = .ok (.iaload, 1) := by decide +kernel
theorem dX4_percented_37 : decode cX4_percented 37 = .ok (.iload_n 2, 1) := by decide +kernel
theorem dX4_percented_38 : decode cX4_percented 38 = .ok (.iadd, 1) := by decide +kernel
theorem dX4_percented_39 : decode cX4_percented 39 = .ok (.aload_n 0, 1) := by decide +kernel
theorem dX4_percented_40 : decode cX4_percented 40 = .ok (.getfield 35, 3) := by decide +kernel
theorem dX4_percented_43 : decode cX4_percented 43 = .ok (.aload_n 0, 1) := by decide +kernel
theorem dX4_percented_44 : decode cX4_percented 44 = .ok (.getfield 38, 3) := by decide +kernel
theorem dX4_percented_47 : decode cX4_percented 47 = .ok (.iload_n 1, 1) := by decide +kernel
theorem dX4_percented_48 : decode cX4_percented 48 = .ok (.iaload, 1) := by decide +kernel
theorem dX4_percented_49 : decode cX4_percented 49 = .ok (.iaload, 1) := by decide +kernel
theorem dX4_percented_50 : decode cX4_percented 50 = .ok (.invokevirtual 84, 3) := by decide +kernel
theorem dX4_percented_53 : decode cX4_percented 53 = .ok (.ifCond .eq 7, 3) := by decide +kernel
theorem dX4_percented_56 : decode cX4_percented 56 = .ok (.iconst 1, 1) := by decide +kernel
theorem dX4_percented_57 : decode cX4_percented 57 = .ok (.goto 4, 3) := by decide +kernel
theorem dX4_percented_60 : decode cX4_percented 60 = .ok (.iconst 0, 1) := by decide +kernel
theorem dX4_percented_61 : decode cX4_percented 61 = .ok (.istore 5, 2) := by decide +kernel
theorem dX4_percented_63 : decode cX4_percented 63 = .ok (.iload 5, 2) := by decide +kernel
theorem dX4_percented_65 : decode cX4_percented 65 = .ok (.ifCond .eq 13, 3) := by decide +kernel
theorem dX4_percented_68 : decode cX4_percented 68 = .ok (.aload_n 0, 1) := by decide +kernel
theorem dX4_percented_69 : decode cX4_percented 69 = .ok (.getfield 25, 3) := by decide +kernel
theorem dX4_percented_72 : decode cX4_percented 72 = .ok (.iload 4, 2) := by decide +kernel
theorem dX4_percented_74 : decode cX4_percented 74 = .ok (.iaload, 1) := by decide +kernel
theorem dX4_percented_75 : decode cX4_percented 75 = .ok (.goto 4, 3) := by decide +kernel
theorem dX4_percented_78 : decode cX4_percented 78 = .ok (.iload_n 3, 1) := by decide +kernel
theorem dX4_percented_79 : decode cX4_percented 79 = .ok (.istore_n 3, 1) := by decide +kernel
theorem dX4_percented_80 : decode cX4_percented 80 = .ok (.iinc 4 1, 3) := by decide +kernel
theorem dX4_percented_83 : decode cX4_percented 83 = .ok (.goto (-75), 3) := by decide +kernel
theorem dX4_percented_86 : decode cX4_percented 86 = .ok (.iload_n 3, 1) := by decide +kernel
theorem dX4_percented_87 : decode cX4_percented 87 = .ok (.ireturn, 1) := by decide +kernel
set_option maxRecDepth 20000 in
theorem ggX4_reasoned_X4_percented : GoodIn wsX4_reasoned wsX4_percented := goodIn_r _ [10, 1, 2, 3, 4, 5, 11, 12, 9, 13, 14, 15, 16, 17, 18, 19, 20, 21, 22, 23, 24, 25, 26, 27, 28, 29, 30, 31, 32, 33, 34, 35, 36, 37, 38, 39, 40, 41] (by decide +kernel) (by decide +kernel)
set_option maxRecDepth 20000 in
theorem gX4_reasoned_X4_percented : GoodIn wsX4_reasoned (wsV RX4 87 RX4 yX4_percented wsX4_percented) := goodIn_app (goodIn_of _ (by decide +kernel)) ggX4_reasoned_X4_percented
set_option maxRecDepth 20000 in
theorem ggX4_reasoned_X4_applies : GoodIn wsX4_reasoned wsX4_applies := goodIn_r _ [17, 18, 19, 20, 21, 22, 23, 24, 25, 26, 27, 28, 29, 30, 31, 32, 33, 34, 35, 36, 37, 38, 39, 40, 41] (by decide +kernel) (by decide +kernel)
set_option maxRecDepth 20000 in
theorem gX4_reasoned_X4_applies : GoodIn wsX4_reasoned (wsV RX4 84 RX4 yX4_applies wsX4_applies) := goodIn_app (goodIn_of _ (by decide +kernel)) ggX4_reasoned_X4_applies
set_option maxRecDepth 20000 in
theorem ggX4_reasoned_X4_overtime : GoodIn wsX4_reasoned wsX4_overtime := goodIn_r _ [13] (by decide +kernel) (by decide +kernel)
set_option maxRecDepth 20000 in
theorem gX4_reasoned_X4_overtime : GoodIn wsX4_reasoned (va_wsS RX4 81 yX4_overtime wsX4_overtime) := goodIn_app (goodIn_of _ (by decide +kernel)) ggX4_reasoned_X4_overtime
theorem dX4_reasoned_0 : decode cX4_reasoned 0 = .ok (.aload_n 0, 1) := by decide +kernel
theorem dX4_reasoned_1 : decode cX4_reasoned 1 = .ok (.iload_n 1, 1) := by decide +kernel
theorem dX4_reasoned_2 : decode cX4_reasoned 2 = .ok (.iload_n 2, 1) := by decide +kernel
theorem dX4_reasoned_3 : decode cX4_reasoned 3 = .ok (.invokevirtual 87, 3) := by decide +kernel
theorem dX4_reasoned_6 : decode cX4_reasoned 6 = .ok (.istore_n 3, 1) := by decide +kernel
theorem dX4_reasoned_7 : decode cX4_reasoned 7 = .ok (.iconst 0, 1) := by decide +kernel
theorem dX4_reasoned_8 : decode cX4_reasoned 8 = .ok (.istore 4, 2) := by decide +kernel
theorem dX4_reasoned_10 : decode cX4_reasoned 10 = .ok (.iload 4, 2) := by decide +kernel
theorem dX4_reasoned_12 : decode cX4_reasoned 12 = .ok (.aload_n 0, 1) := by decide +kernel
theorem dX4_reasoned_13 : decode cX4_reasoned 13 = .ok (.getfield 61, 3) := by decide +kernel
theorem dX4_reasoned_16 : decode cX4_reasoned 16 = .ok (.if_icmp .ge 51, 3) := by decide +kernel
theorem dX4_reasoned_19 : decode cX4_reasoned 19 = .ok (.aload_n 0, 1) := by decide +kernel
theorem dX4_reasoned_20 : decode cX4_reasoned 20 = .ok (.getfield 25, 3) := by decide +kernel
theorem dX4_reasoned_23 : decode cX4_reasoned 23 = .ok (.iload 4, 2) := by decide +kernel
theorem dX4_reasoned_25 : decode cX4_reasoned 25 = .ok (.iaload, 1) := by decide +kernel
theorem dX4_reasoned_26 : decode cX4_reasoned 26 = .ok (.iload_n 3, 1) := by decide +kernel
theorem dX4_reasoned_27 : decode cX4_reasoned 27 = .ok (.if_icmp .ne 34, 3) := by decide +kernel
theorem dX4_reasoned_30 : decode cX4_reasoned 30 = .ok (.aload_n 0, 1) := by decide +kernel
theorem dX4_reasoned_31 : decode cX4_reasoned 31 = .ok (.iload 4, 2) := by decide +kernel
theorem dX4_reasoned_33 : decode cX4_reasoned 33 = .ok (.aload_n 0, 1) := by decide +kernel
theorem dX4_reasoned_34 : decode cX4_reasoned 34 = .ok (.getfield 41, 3) := by decide +kernel
theorem dX4_reasoned_37 : decode cX4_reasoned 37 = .ok (.iload_n 1, 1) := by decide +kernel
theorem dX4_reasoned_38 : decode cX4_reasoned 38 = .ok (.iaload, 1) := by decide +kernel
theorem dX4_reasoned_39 : decode cX4_reasoned 39 = .ok (.iload_n 2, 1) := by decide +kernel
theorem dX4_reasoned_40 : decode cX4_reasoned 40 = .ok (.iadd, 1) := by decide +kernel
theorem dX4_reasoned_41 : decode cX4_reasoned 41 = .ok (.aload_n 0, 1) := by decide +kernel
theorem dX4_reasoned_42 : decode cX4_reasoned 42 = .ok (.getfield 35, 3) := by decide +kernel
theorem dX4_reasoned_45 : decode cX4_reasoned 45 = .ok (.aload_n 0, 1) := by decide +kernel
theorem dX4_reasoned_46 : decode cX4_reasoned 46 = .ok (.getfield 38, 3) := by decide +kernel
theorem dX4_reasoned_49 : decode cX4_reasoned 49 = .ok (.iload_n 1, 1) := by decide +kernel
theorem dX4_reasoned_50 : decode cX4_reasoned 50 = .ok (.iaload, 1) := by decide +kernel
theorem dX4_reasoned_51 : decode cX4_reasoned 51 = .ok (.iaload, 1) := by decide +kernel
theorem dX4_reasoned_52 : decode cX4_reasoned 52 = .ok (.invokevirtual 84, 3) := by decide +kernel
theorem dX4_reasoned_55 : decode cX4_reasoned 55 = .ok (.ifCond .eq 6, 3) := by decide +kernel
theorem dX4_reasoned_58 : decode cX4_reasoned 58 = .ok (.iload 4, 2) := by decide +kernel
theorem dX4_reasoned_60 : decode cX4_reasoned 60 = .ok (.ireturn, 1) := by decide +kernel
theorem dX4_reasoned_61 : decode cX4_reasoned 61 = .ok (.iinc 4 1, 3) := by decide +kernel
theorem dX4_reasoned_64 : decode cX4_reasoned 64 = .ok (.goto (-54), 3) := by decide +kernel
theorem dX4_reasoned_67 : decode cX4_reasoned 67 = .ok (.iload_n 3, 1) := by decide +kernel
theorem dX4_reasoned_68 : decode cX4_reasoned 68 = .ok (.bipush 100, 2) := by decide +kernel
theorem dX4_reasoned_70 : decode cX4_reasoned 70 = .ok (.if_icmp .le 16, 3) := by decide +kernel
theorem dX4_reasoned_73 : decode cX4_reasoned 73 = .ok (.iload_n 3, 1) := by decide +kernel
theorem dX4_reasoned_74 : decode cX4_reasoned 74 = .ok (.iload_n 2, 1) := by decide +kernel
theorem dX4_reasoned_75 : decode cX4_reasoned 75 = .ok (.invokestatic 81, 3) := by decide +kernel
theorem dX4_reasoned_78 : decode cX4_reasoned 78 = .ok (.if_icmp .ne 8, 3) := by decide +kernel
theorem dX4_reasoned_81 : decode cX4_reasoned 81 = .ok (.bipush (-2), 2) := by decide +kernel
theorem dX4_reasoned_83 : decode cX4_reasoned 83 = .ok (.goto 4, 3) := by decide +kernel
theorem dX4_reasoned_86 : decode cX4_reasoned 86 = .ok (.iconst (-1), 1) := by decide +kernel
theorem dX4_reasoned_87 : decode cX4_reasoned 87 = .ok (.ireturn, 1) := by decide +kernel
theorem dX4_lacks_0 : decode cX4_lacks 0 = .ok (.aload_n 0, 1) := by decide +kernel
theorem dX4_lacks_1 : decode cX4_lacks 1 = .ok (.getfield 44, 3) := by decide +kernel
theorem dX4_lacks_4 : decode cX4_lacks 4 = .ok (.iload_n 1, 1) := by decide +kernel
theorem dX4_lacks_5 : decode cX4_lacks 5 = .ok (.iaload, 1) := by decide +kernel
theorem dX4_lacks_6 : decode cX4_lacks 6 = .ok (.bipush 40, 2) := by decide +kernel
theorem dX4_lacks_8 : decode cX4_lacks 8 = .ok (.if_icmp .lt 7, 3) := by decide +kernel
theorem dX4_lacks_11 : decode cX4_lacks 11 = .ok (.iconst 2, 1) := by decide +kernel
theorem dX4_lacks_12 : decode cX4_lacks 12 = .ok (.goto 19, 3) := by decide +kernel
theorem dX4_lacks_15 : decode cX4_lacks 15 = .ok (.aload_n 0, 1) := by decide +kernel
theorem dX4_lacks_16 : decode cX4_lacks 16 = .ok (.getfield 44, 3) := by decide +kernel
theorem dX4_lacks_19 : decode cX4_lacks 19 = .ok (.iload_n 1, 1) := by decide +kernel
theorem dX4_lacks_20 : decode cX4_lacks 20 = .ok (.iaload, 1) := by decide +kernel
theorem dX4_lacks_21 : decode cX4_lacks 21 = .ok (.bipush 20, 2) := by decide +kernel
theorem dX4_lacks_23 : decode cX4_lacks 23 = .ok (.if_icmp .lt 7, 3) := by decide +kernel
theorem dX4_lacks_26 : decode cX4_lacks 26 = .ok (.iconst 1, 1) := by decide +kernel
theorem dX4_lacks_27 : decode cX4_lacks 27 = .ok (.goto 4, 3) := by decide +kernel
theorem dX4_lacks_30 : decode cX4_lacks 30 = .ok (.iconst 0, 1) := by decide +kernel
theorem dX4_lacks_31 : decode cX4_lacks 31 = .ok (.istore_n 2, 1) := by decide +kernel
theorem dX4_lacks_32 : decode cX4_lacks 32 = .ok (.aload_n 0, 1) := by decide +kernel
theorem dX4_lacks_33 : decode cX4_lacks 33 = .ok (.getfield 50, 3) := by decide +kernel
theorem dX4_lacks_36 : decode cX4_lacks 36 = .ok (.iload_n 1, 1) := by decide +kernel
theorem dX4_lacks_37 : decode cX4_lacks 37 = .ok (.baload, 1) := by decide +kernel
theorem dX4_lacks_38 : decode cX4_lacks 38 = .ok (.ifCond .ne 13, 3) := by decide +kernel
theorem dX4_lacks_41 : decode cX4_lacks 41 = .ok (.iload_n 2, 1) := by decide +kernel
theorem dX4_lacks_42 : decode cX4_lacks 42 = .ok (.aload_n 0, 1) := by decide +kernel
theorem dX4_lacks_43 : decode cX4_lacks 43 = .ok (.getfield 47, 3) := by decide +kernel
theorem dX4_lacks_46 : decode cX4_lacks 46 = .ok (.iload_n 1, 1) := by decide +kernel
theorem dX4_lacks_47 : decode cX4_lacks 47 = .ok (.iaload, 1) := by decide +kernel
theorem dX4_lacks_48 : decode cX4_lacks 48 = .ok (.if_icmp .ge 7, 3) := by decide +kernel
theorem dX4_lacks_51 : decode cX4_lacks 51 = .ok (.iconst 0, 1) := by decide +kernel
theorem dX4_lacks_52 : decode cX4_lacks 52 = .ok (.goto 11, 3) := by decide +kernel
theorem dX4_lacks_55 : decode cX4_lacks 55 = .ok (.iload_n 2, 1) := by decide +kernel
theorem dX4_lacks_56 : decode cX4_lacks 56 = .ok (.aload_n 0, 1) := by decide +kernel
theorem dX4_lacks_57 : decode cX4_lacks 57 = .ok (.getfield 47, 3) := by decide +kernel
theorem dX4_lacks_60 : decode cX4_lacks 60 = .ok (.iload_n 1, 1) := by decide +kernel
theorem dX4_lacks_61 : decode cX4_lacks 61 = .ok (.iaload, 1) := by decide +kernel
theorem dX4_lacks_62 : decode cX4_lacks 62 = .ok (.isub, 1) := by decide +kernel
theorem dX4_lacks_63 : decode cX4_lacks 63 = .ok (.ireturn, 1) := by decide +kernel
set_option maxRecDepth 20000 in
theorem ggX4_amount_X4_percented : GoodIn wsX4_amount wsX4_percented := goodIn_r _ [8, 9, 10, 11, 2, 3, 12, 13, 7, 14, 15, 16, 17, 18, 19, 20, 21, 22, 23, 24, 25, 26, 27, 28, 29, 30, 31, 32, 33, 34, 35, 36, 37, 38, 39, 40, 41, 42] (by decide +kernel) (by decide +kernel)
set_option maxRecDepth 20000 in
theorem gX4_amount_X4_percented : GoodIn wsX4_amount (wsV RX4 87 RX4 yX4_percented wsX4_percented) := goodIn_app (goodIn_of _ (by decide +kernel)) ggX4_amount_X4_percented
theorem dX4_amount_0 : decode cX4_amount 0 = .ok (.aload_n 0, 1) := by decide +kernel
theorem dX4_amount_1 : decode cX4_amount 1 = .ok (.getfield 7, 3) := by decide +kernel
theorem dX4_amount_4 : decode cX4_amount 4 = .ok (.aload_n 0, 1) := by decide +kernel
theorem dX4_amount_5 : decode cX4_amount 5 = .ok (.getfield 35, 3) := by decide +kernel
theorem dX4_amount_8 : decode cX4_amount 8 = .ok (.aload_n 0, 1) := by decide +kernel
theorem dX4_amount_9 : decode cX4_amount 9 = .ok (.getfield 38, 3) := by decide +kernel
theorem dX4_amount_12 : decode cX4_amount 12 = .ok (.iload_n 1, 1) := by decide +kernel
theorem dX4_amount_13 : decode cX4_amount 13 = .ok (.iaload, 1) := by decide +kernel
theorem dX4_amount_14 : decode cX4_amount 14 = .ok (.iaload, 1) := by decide +kernel
theorem dX4_amount_15 : decode cX4_amount 15 = .ok (.iaload, 1) := by decide +kernel
theorem dX4_amount_16 : decode cX4_amount 16 = .ok (.aload_n 0, 1) := by decide +kernel
theorem dX4_amount_17 : decode cX4_amount 17 = .ok (.iload_n 1, 1) := by decide +kernel
theorem dX4_amount_18 : decode cX4_amount 18 = .ok (.iload_n 2, 1) := by decide +kernel
theorem dX4_amount_19 : decode cX4_amount 19 = .ok (.invokevirtual 87, 3) := by decide +kernel
theorem dX4_amount_22 : decode cX4_amount 22 = .ok (.imul, 1) := by decide +kernel
theorem dX4_amount_23 : decode cX4_amount 23 = .ok (.bipush 100, 2) := by decide +kernel
theorem dX4_amount_25 : decode cX4_amount 25 = .ok (.idiv, 1) := by decide +kernel
theorem dX4_amount_26 : decode cX4_amount 26 = .ok (.ireturn, 1) := by decide +kernel
set_option maxRecDepth 20000 in
theorem ggX4_payed_X4_lacks : GoodIn wsX4_payed wsX4_lacks := goodIn_r _ [8, 9, 10, 11, 40, 41, 42, 43, 44, 45, 46, 47, 48, 49, 50, 51, 52, 53, 54, 55, 56, 57] (by decide +kernel) (by decide +kernel)
set_option maxRecDepth 20000 in
theorem gX4_payed_X4_lacks : GoodIn wsX4_payed (wsV RX4 91 RX4 yX4_lacks wsX4_lacks) := goodIn_app (goodIn_of _ (by decide +kernel)) ggX4_payed_X4_lacks
set_option maxRecDepth 20000 in
theorem ggX4_payed_X4_paid : GoodIn wsX4_payed wsX4_paid := goodIn_r _ [15, 10, 9, 40, 41, 42, 43, 44, 45, 46, 47, 48, 49, 50, 51, 52, 53, 54, 55, 56, 57] (by decide +kernel) (by decide +kernel)
set_option maxRecDepth 20000 in
theorem gX4_payed_X4_paid : GoodIn wsX4_payed (wsV RX4 94 RX4 yX4_paid wsX4_paid) := goodIn_app (goodIn_of _ (by decide +kernel)) ggX4_payed_X4_paid
set_option maxRecDepth 20000 in
theorem ggX4_payed_X4_amount : GoodIn wsX4_payed wsX4_amount := goodIn_r _ [19, 1, 2, 3, 20, 21, 22, 7, 23, 24, 25, 26, 27, 28, 29, 30, 31, 32, 33, 34, 35, 36, 37, 38, 39, 40, 41, 42, 43, 44, 45, 46, 47, 48, 49, 50, 51, 52, 53, 54, 55, 56, 57] (by decide +kernel) (by decide +kernel)
set_option maxRecDepth 20000 in
theorem gX4_payed_X4_amount : GoodIn wsX4_payed (wsV RX4 97 RX4 yX4_amount wsX4_amount) := goodIn_app (goodIn_of _ (by decide +kernel)) ggX4_payed_X4_amount
theorem dX4_payed_0 : decode cX4_payed 0 = .ok (.iconst 2, 1) := by decide +kernel
theorem dX4_payed_1 : decode cX4_payed 1 = .ok (.aload_n 0, 1) := by decide +kernel
theorem dX4_payed_2 : decode cX4_payed 2 = .ok (.iload_n 1, 1) := by decide +kernel
theorem dX4_payed_3 : decode cX4_payed 3 = .ok (.invokevirtual 91, 3) := by decide +kernel
theorem dX4_payed_6 : decode cX4_payed 6 = .ok (.imul, 1) := by decide +kernel
theorem dX4_payed_7 : decode cX4_payed 7 = .ok (.aload_n 0, 1) := by decide +kernel
theorem dX4_payed_8 : decode cX4_payed 8 = .ok (.getfield 7, 3) := by decide +kernel
theorem dX4_payed_11 : decode cX4_payed 11 = .ok (.aload_n 0, 1) := by decide +kernel
theorem dX4_payed_12 : decode cX4_payed 12 = .ok (.getfield 35, 3) := by decide +kernel
theorem dX4_payed_15 : decode cX4_payed 15 = .ok (.aload_n 0, 1) := by decide +kernel
theorem dX4_payed_16 : decode cX4_payed 16 = .ok (.getfield 38, 3) := by decide +kernel
theorem dX4_payed_19 : decode cX4_payed 19 = .ok (.iload_n 1, 1) := by decide +kernel
theorem dX4_payed_20 : decode cX4_payed 20 = .ok (.iaload, 1) := by decide +kernel
theorem dX4_payed_21 : decode cX4_payed 21 = .ok (.iaload, 1) := by decide +kernel
theorem dX4_payed_22 : decode cX4_payed 22 = .ok (.iaload, 1) := by decide +kernel
theorem dX4_payed_23 : decode cX4_payed 23 = .ok (.imul, 1) := by decide +kernel
theorem dX4_payed_24 : decode cX4_payed 24 = .ok (.istore_n 2, 1) := by decide +kernel
theorem dX4_payed_25 : decode cX4_payed 25 = .ok (.iconst 0, 1) := by decide +kernel
theorem dX4_payed_26 : decode cX4_payed 26 = .ok (.istore_n 3, 1) := by decide +kernel
theorem dX4_payed_27 : decode cX4_payed 27 = .ok (.iload_n 3, 1) := by decide +kernel
theorem dX4_payed_28 : decode cX4_payed 28 = .ok (.aload_n 0, 1) := by decide +kernel
theorem dX4_payed_29 : decode cX4_payed 29 = .ok (.iload_n 1, 1) := by decide +kernel
theorem dX4_payed_30 : decode cX4_payed 30 = .ok (.invokevirtual 94, 3) := by decide +kernel
theorem dX4_payed_33 : decode cX4_payed 33 = .ok (.if_icmp .ge 18, 3) := by decide +kernel
theorem dX4_payed_36 : decode cX4_payed 36 = .ok (.iload_n 2, 1) := by decide +kernel
theorem dX4_payed_37 : decode cX4_payed 37 = .ok (.aload_n 0, 1) := by decide +kernel
theorem dX4_payed_38 : decode cX4_payed 38 = .ok (.iload_n 1, 1) := by decide +kernel
theorem dX4_payed_39 : decode cX4_payed 39 = .ok (.iload_n 3, 1) := by decide +kernel
theorem dX4_payed_40 : decode cX4_payed 40 = .ok (.invokevirtual 97, 3) := by decide +kernel
theorem dX4_payed_43 : decode cX4_payed 43 = .ok (.iadd, 1) := by decide +kernel
theorem dX4_payed_44 : decode cX4_payed 44 = .ok (.istore_n 2, 1) := by decide +kernel
theorem dX4_payed_45 : decode cX4_payed 45 = .ok (.iinc 3 1, 3) := by decide +kernel
theorem dX4_payed_48 : decode cX4_payed 48 = .ok (.goto (-21), 3) := by decide +kernel
theorem dX4_payed_51 : decode cX4_payed 51 = .ok (.iload_n 2, 1) := by decide +kernel
theorem dX4_payed_52 : decode cX4_payed 52 = .ok (.ireturn, 1) := by decide +kernel
set_option maxRecDepth 20000 in
theorem ggX4_paidQuarters_X4_isShift : GoodIn wsX4_paidQuarters wsX4_isShift := goodIn_r _ [5, 6, 7, 8, 9, 4, 10, 17, 18, 19, 20, 21, 22, 23, 24, 25, 26, 27, 28, 29, 30, 31, 32, 33, 34] (by decide +kernel) (by decide +kernel)
set_option maxRecDepth 20000 in
theorem gX4_paidQuarters_X4_isShift : GoodIn wsX4_paidQuarters (wsV RX4 74 RX4 yX4_isShift wsX4_isShift) := goodIn_app (goodIn_of _ (by decide +kernel)) ggX4_paidQuarters_X4_isShift
set_option maxRecDepth 20000 in
theorem ggX4_paidQuarters_X4_paid : GoodIn wsX4_paidQuarters wsX4_paid := goodIn_r _ [14, 15, 16, 17, 18, 19, 20, 21, 22, 23, 24, 25, 26, 27, 28, 29, 30, 31, 32, 33, 34] (by decide +kernel) (by decide +kernel)
set_option maxRecDepth 20000 in
theorem gX4_paidQuarters_X4_paid : GoodIn wsX4_paidQuarters (wsV RX4 94 RX4 yX4_paid wsX4_paid) := goodIn_app (goodIn_of _ (by decide +kernel)) ggX4_paidQuarters_X4_paid
theorem dX4_paidQuarters_0 : decode cX4_paidQuarters 0 = .ok (.aload_n 0, 1) := by decide +kernel
theorem dX4_paidQuarters_1 : decode cX4_paidQuarters 1 = .ok (.iload_n 1, 1) := by decide +kernel
theorem dX4_paidQuarters_2 : decode cX4_paidQuarters 2 = .ok (.invokevirtual 74, 3) := by decide +kernel
theorem dX4_paidQuarters_5 : decode cX4_paidQuarters 5 = .ok (.ifCond .eq 11, 3) := by decide +kernel
theorem dX4_paidQuarters_8 : decode cX4_paidQuarters 8 = .ok (.aload_n 0, 1) := by decide +kernel
theorem dX4_paidQuarters_9 : decode cX4_paidQuarters 9 = .ok (.iload_n 1, 1) := by decide +kernel
theorem dX4_paidQuarters_10 : decode cX4_paidQuarters 10 = .ok (.invokevirtual 94, 3) := by decide +kernel
theorem dX4_paidQuarters_13 : decode cX4_paidQuarters 13 = .ok (.goto 4, 3) := by decide +kernel
theorem dX4_paidQuarters_16 : decode cX4_paidQuarters 16 = .ok (.iconst 0, 1) := by decide +kernel
theorem dX4_paidQuarters_17 : decode cX4_paidQuarters 17 = .ok (.ireturn, 1) := by decide +kernel
set_option maxRecDepth 20000 in
theorem ggX4_isQuarter_X4_isShift : GoodIn wsX4_isQuarter wsX4_isShift := goodIn_r _ [6, 7, 1, 8, 9, 5, 10, 17, 18, 19, 20, 21, 22, 23, 24, 25, 26, 27, 28, 29, 30, 31, 32, 33, 34] (by decide +kernel) (by decide +kernel)
set_option maxRecDepth 20000 in
theorem gX4_isQuarter_X4_isShift : GoodIn wsX4_isQuarter (wsV RX4 74 RX4 yX4_isShift wsX4_isShift) := goodIn_app (goodIn_of _ (by decide +kernel)) ggX4_isQuarter_X4_isShift
set_option maxRecDepth 20000 in
theorem ggX4_isQuarter_X4_paid : GoodIn wsX4_isQuarter wsX4_paid := goodIn_r _ [14, 15, 16, 17, 18, 19, 20, 21, 22, 23, 24, 25, 26, 27, 28, 29, 30, 31, 32, 33, 34] (by decide +kernel) (by decide +kernel)
set_option maxRecDepth 20000 in
theorem gX4_isQuarter_X4_paid : GoodIn wsX4_isQuarter (wsV RX4 94 RX4 yX4_paid wsX4_paid) := goodIn_app (goodIn_of _ (by decide +kernel)) ggX4_isQuarter_X4_paid
set_option maxRecDepth 20000 in
theorem ggX4_isQuarter_X4_isIn : GoodIn wsX4_isQuarter wsX4_isIn := goodIn_r _ [10] (by decide +kernel) (by decide +kernel)
set_option maxRecDepth 20000 in
theorem gX4_isQuarter_X4_isIn : GoodIn wsX4_isQuarter (va_wsS RX4 57 yX4_isIn wsX4_isIn) := goodIn_app (goodIn_of _ (by decide +kernel)) ggX4_isQuarter_X4_isIn
theorem dX4_isQuarter_0 : decode cX4_isQuarter 0 = .ok (.aload_n 0, 1) := by decide +kernel
theorem dX4_isQuarter_1 : decode cX4_isQuarter 1 = .ok (.iload_n 1, 1) := by decide +kernel
theorem dX4_isQuarter_2 : decode cX4_isQuarter 2 = .ok (.invokevirtual 74, 3) := by decide +kernel
theorem dX4_isQuarter_5 : decode cX4_isQuarter 5 = .ok (.ifCond .eq 22, 3) := by decide +kernel
theorem dX4_isQuarter_8 : decode cX4_isQuarter 8 = .ok (.iload_n 2, 1) := by decide +kernel
theorem dX4_isQuarter_9 : decode cX4_isQuarter 9 = .ok (.iconst 0, 1) := by decide +kernel
theorem dX4_isQuarter_10 : decode cX4_isQuarter 10 = .ok (.aload_n 0, 1) := by decide +kernel
theorem dX4_isQuarter_11 : decode cX4_isQuarter 11 = .ok (.iload_n 1, 1) := by decide +kernel
theorem dX4_isQuarter_12 : decode cX4_isQuarter 12 = .ok (.invokevirtual 94, 3) := by decide +kernel
theorem dX4_isQuarter_15 : decode cX4_isQuarter 15 = .ok (.iconst 1, 1) := by decide +kernel
theorem dX4_isQuarter_16 : decode cX4_isQuarter 16 = .ok (.isub, 1) := by decide +kernel
theorem dX4_isQuarter_17 : decode cX4_isQuarter 17 = .ok (.invokestatic 57, 3) := by decide +kernel
theorem dX4_isQuarter_20 : decode cX4_isQuarter 20 = .ok (.ifCond .eq 7, 3) := by decide +kernel
theorem dX4_isQuarter_23 : decode cX4_isQuarter 23 = .ok (.iconst 1, 1) := by decide +kernel
theorem dX4_isQuarter_24 : decode cX4_isQuarter 24 = .ok (.goto 4, 3) := by decide +kernel
theorem dX4_isQuarter_27 : decode cX4_isQuarter 27 = .ok (.iconst 0, 1) := by decide +kernel
theorem dX4_isQuarter_28 : decode cX4_isQuarter 28 = .ok (.istore_n 3, 1) := by decide +kernel
theorem dX4_isQuarter_29 : decode cX4_isQuarter 29 = .ok (.aload_n 0, 1) := by decide +kernel
theorem dX4_isQuarter_30 : decode cX4_isQuarter 30 = .ok (.iload_n 3, 1) := by decide +kernel
theorem dX4_isQuarter_31 : decode cX4_isQuarter 31 = .ok (.ifCond .eq 7, 3) := by decide +kernel
theorem dX4_isQuarter_34 : decode cX4_isQuarter 34 = .ok (.iconst 0, 1) := by decide +kernel
theorem dX4_isQuarter_35 : decode cX4_isQuarter 35 = .ok (.goto 4, 3) := by decide +kernel
theorem dX4_isQuarter_38 : decode cX4_isQuarter 38 = .ok (.iconst 1, 1) := by decide +kernel
theorem dX4_isQuarter_39 : decode cX4_isQuarter 39 = .ok (.putfield 53, 3) := by decide +kernel
theorem dX4_isQuarter_42 : decode cX4_isQuarter 42 = .ok (.iload_n 3, 1) := by decide +kernel
theorem dX4_isQuarter_43 : decode cX4_isQuarter 43 = .ok (.ireturn, 1) := by decide +kernel
set_option maxRecDepth 20000 in
theorem ggX4_percentAt_X4_isQuarter : GoodIn wsX4_percentAt wsX4_isQuarter := goodIn_r _ [5, 6, 7, 8, 9, 4, 10, 11, 12, 13, 14, 15, 16, 17, 18, 19, 20, 43, 44, 45, 46, 47, 48, 49, 50, 51, 52, 53, 54, 55, 56, 57, 58, 59, 60] (by decide +kernel) (by decide +kernel)
set_option maxRecDepth 20000 in
theorem gX4_percentAt_X4_isQuarter : GoodIn wsX4_percentAt (wsV RX4 100 RX4 yX4_isQuarter wsX4_isQuarter) := goodIn_app (goodIn_of _ (by decide +kernel)) ggX4_percentAt_X4_isQuarter
set_option maxRecDepth 20000 in
theorem ggX4_percentAt_X4_percented : GoodIn wsX4_percentAt wsX4_percented := goodIn_r _ [24, 25, 26, 27, 28, 29, 30, 31, 4, 32, 33, 34, 35, 36, 37, 38, 39, 40, 41, 42, 43, 44, 45, 46, 47, 48, 49, 50, 51, 52, 53, 54, 55, 56, 57, 58, 59, 60] (by decide +kernel) (by decide +kernel)
set_option maxRecDepth 20000 in
theorem gX4_percentAt_X4_percented : GoodIn wsX4_percentAt (wsV RX4 87 RX4 yX4_percented wsX4_percented) := goodIn_app (goodIn_of _ (by decide +kernel)) ggX4_percentAt_X4_percented
theorem dX4_percentAt_0 : decode cX4_percentAt 0 = .ok (.aload_n 0, 1) := by decide +kernel
theorem dX4_percentAt_1 : decode cX4_percentAt 1 = .ok (.iload_n 1, 1) := by decide +kernel
theorem dX4_percentAt_2 : decode cX4_percentAt 2 = .ok (.iload_n 2, 1) := by decide +kernel
theorem dX4_percentAt_3 : decode cX4_percentAt 3 = .ok (.invokevirtual 100, 3) := by decide +kernel
theorem dX4_percentAt_6 : decode cX4_percentAt 6 = .ok (.ifCond .eq 12, 3) := by decide +kernel
theorem dX4_percentAt_9 : decode cX4_percentAt 9 = .ok (.aload_n 0, 1) := by decide +kernel
theorem dX4_percentAt_10 : decode cX4_percentAt 10 = .ok (.iload_n 1, 1) := by decide +kernel
theorem dX4_percentAt_11 : decode cX4_percentAt 11 = .ok (.iload_n 2, 1) := by decide +kernel
theorem dX4_percentAt_12 : decode cX4_percentAt 12 = .ok (.invokevirtual 87, 3) := by decide +kernel
theorem dX4_percentAt_15 : decode cX4_percentAt 15 = .ok (.goto 4, 3) := by decide +kernel
theorem dX4_percentAt_18 : decode cX4_percentAt 18 = .ok (.iconst 0, 1) := by decide +kernel
theorem dX4_percentAt_19 : decode cX4_percentAt 19 = .ok (.ireturn, 1) := by decide +kernel
set_option maxRecDepth 20000 in
theorem ggX4_reasonAt_X4_isQuarter : GoodIn wsX4_reasonAt wsX4_isQuarter := goodIn_r _ [5, 6, 7, 8, 9, 4, 10, 11, 12, 13, 14, 15, 16, 17, 18, 19, 20, 47, 48, 49, 50, 51, 52, 53, 54, 55, 56, 57, 58, 59, 60, 61, 62, 63, 64] (by decide +kernel) (by decide +kernel)
set_option maxRecDepth 20000 in
theorem gX4_reasonAt_X4_isQuarter : GoodIn wsX4_reasonAt (wsV RX4 100 RX4 yX4_isQuarter wsX4_isQuarter) := goodIn_app (goodIn_of _ (by decide +kernel)) ggX4_reasonAt_X4_isQuarter
set_option maxRecDepth 20000 in
theorem ggX4_reasonAt_X4_reasoned : GoodIn wsX4_reasonAt wsX4_reasoned := goodIn_r _ [24, 25, 26, 27, 28, 29, 30, 31, 32, 4, 33, 34, 35, 36, 37, 38, 39, 40, 41, 42, 43, 44, 45, 46, 47, 48, 49, 50, 51, 52, 53, 54, 55, 56, 57, 58, 59, 60, 61, 62, 63, 64] (by decide +kernel) (by decide +kernel)
set_option maxRecDepth 20000 in
theorem gX4_reasonAt_X4_reasoned : GoodIn wsX4_reasonAt (wsV RX4 104 RX4 yX4_reasoned wsX4_reasoned) := goodIn_app (goodIn_of _ (by decide +kernel)) ggX4_reasonAt_X4_reasoned
theorem dX4_reasonAt_0 : decode cX4_reasonAt 0 = .ok (.aload_n 0, 1) := by decide +kernel
theorem dX4_reasonAt_1 : decode cX4_reasonAt 1 = .ok (.iload_n 1, 1) := by decide +kernel
theorem dX4_reasonAt_2 : decode cX4_reasonAt 2 = .ok (.iload_n 2, 1) := by decide +kernel
theorem dX4_reasonAt_3 : decode cX4_reasonAt 3 = .ok (.invokevirtual 100, 3) := by decide +kernel
theorem dX4_reasonAt_6 : decode cX4_reasonAt 6 = .ok (.ifCond .eq 12, 3) := by decide +kernel
theorem dX4_reasonAt_9 : decode cX4_reasonAt 9 = .ok (.aload_n 0, 1) := by decide +kernel
theorem dX4_reasonAt_10 : decode cX4_reasonAt 10 = .ok (.iload_n 1, 1) := by decide +kernel
theorem dX4_reasonAt_11 : decode cX4_reasonAt 11 = .ok (.iload_n 2, 1) := by decide +kernel
theorem dX4_reasonAt_12 : decode cX4_reasonAt 12 = .ok (.invokevirtual 104, 3) := by decide +kernel
theorem dX4_reasonAt_15 : decode cX4_reasonAt 15 = .ok (.goto 4, 3) := by decide +kernel
theorem dX4_reasonAt_18 : decode cX4_reasonAt 18 = .ok (.iconst 0, 1) := by decide +kernel
theorem dX4_reasonAt_19 : decode cX4_reasonAt 19 = .ok (.ireturn, 1) := by decide +kernel
set_option maxRecDepth 20000 in
theorem ggX4_missed_X4_isShift : GoodIn wsX4_missed wsX4_isShift := goodIn_r _ [5, 6, 7, 8, 9, 4, 10, 18, 19, 20, 21, 22, 23, 24, 25, 26, 27, 28, 29, 30, 31, 32, 33, 34, 35] (by decide +kernel) (by decide +kernel)
set_option maxRecDepth 20000 in
theorem gX4_missed_X4_isShift : GoodIn wsX4_missed (wsV RX4 74 RX4 yX4_isShift wsX4_isShift) := goodIn_app (goodIn_of _ (by decide +kernel)) ggX4_missed_X4_isShift
set_option maxRecDepth 20000 in
theorem ggX4_missed_X4_lacks : GoodIn wsX4_missed wsX4_lacks := goodIn_r _ [14, 15, 16, 17, 18, 19, 20, 21, 22, 23, 24, 25, 26, 27, 28, 29, 30, 31, 32, 33, 34, 35] (by decide +kernel) (by decide +kernel)
set_option maxRecDepth 20000 in
theorem gX4_missed_X4_lacks : GoodIn wsX4_missed (wsV RX4 91 RX4 yX4_lacks wsX4_lacks) := goodIn_app (goodIn_of _ (by decide +kernel)) ggX4_missed_X4_lacks
theorem dX4_missed_0 : decode cX4_missed 0 = .ok (.aload_n 0, 1) := by decide +kernel
theorem dX4_missed_1 : decode cX4_missed 1 = .ok (.iload_n 1, 1) := by decide +kernel
theorem dX4_missed_2 : decode cX4_missed 2 = .ok (.invokevirtual 74, 3) := by decide +kernel
theorem dX4_missed_5 : decode cX4_missed 5 = .ok (.ifCond .eq 11, 3) := by decide +kernel
theorem dX4_missed_8 : decode cX4_missed 8 = .ok (.aload_n 0, 1) := by decide +kernel
theorem dX4_missed_9 : decode cX4_missed 9 = .ok (.iload_n 1, 1) := by decide +kernel
theorem dX4_missed_10 : decode cX4_missed 10 = .ok (.invokevirtual 91, 3) := by decide +kernel
theorem dX4_missed_13 : decode cX4_missed 13 = .ok (.goto 4, 3) := by decide +kernel
theorem dX4_missed_16 : decode cX4_missed 16 = .ok (.iconst 0, 1) := by decide +kernel
theorem dX4_missed_17 : decode cX4_missed 17 = .ok (.ireturn, 1) := by decide +kernel
set_option maxRecDepth 20000 in
theorem ggX4_pay_X4_isShift : GoodIn wsX4_pay wsX4_isShift := goodIn_r _ [5, 6, 7, 8, 9, 4, 10, 53, 54, 55, 56, 57, 58, 59, 60, 61, 62, 63, 64, 65, 66, 67, 68, 69, 70] (by decide +kernel) (by decide +kernel)
set_option maxRecDepth 20000 in
theorem gX4_pay_X4_isShift : GoodIn wsX4_pay (wsV RX4 74 RX4 yX4_isShift wsX4_isShift) := goodIn_app (goodIn_of _ (by decide +kernel)) ggX4_pay_X4_isShift
set_option maxRecDepth 20000 in
theorem ggX4_pay_X4_payed : GoodIn wsX4_pay wsX4_payed := goodIn_r _ [14, 15, 16, 17, 18, 19, 20, 4, 21, 22, 23, 24, 25, 26, 27, 28, 29, 30, 31, 32, 33, 34, 35, 36, 37, 38, 39, 40, 41, 42, 43, 44, 45, 46, 47, 48, 49, 50, 51, 52, 53, 54, 55, 56, 57, 58, 59, 60, 61, 62, 63, 64, 65, 66, 67, 68, 69, 70] (by decide +kernel) (by decide +kernel)
set_option maxRecDepth 20000 in
theorem gX4_pay_X4_payed : GoodIn wsX4_pay (wsV RX4 77 RX4 yX4_payed wsX4_payed) := goodIn_app (goodIn_of _ (by decide +kernel)) ggX4_pay_X4_payed
theorem dX4_pay_0 : decode cX4_pay 0 = .ok (.aload_n 0, 1) := by decide +kernel
theorem dX4_pay_1 : decode cX4_pay 1 = .ok (.iload_n 1, 1) := by decide +kernel
theorem dX4_pay_2 : decode cX4_pay 2 = .ok (.invokevirtual 74, 3) := by decide +kernel
theorem dX4_pay_5 : decode cX4_pay 5 = .ok (.ifCond .eq 11, 3) := by decide +kernel
theorem dX4_pay_8 : decode cX4_pay 8 = .ok (.aload_n 0, 1) := by decide +kernel
theorem dX4_pay_9 : decode cX4_pay 9 = .ok (.iload_n 1, 1) := by decide +kernel
theorem dX4_pay_10 : decode cX4_pay 10 = .ok (.invokevirtual 77, 3) := by decide +kernel
theorem dX4_pay_13 : decode cX4_pay 13 = .ok (.goto 4, 3) := by decide +kernel
theorem dX4_pay_16 : decode cX4_pay 16 = .ok (.iconst 0, 1) := by decide +kernel
theorem dX4_pay_17 : decode cX4_pay 17 = .ok (.ireturn, 1) := by decide +kernel
set_option maxRecDepth 20000 in
theorem ggX4_payOf_X4_isWorker : GoodIn wsX4_payOf wsX4_isWorker := goodIn_r _ [9, 10, 11, 12, 8, 13, 54, 55, 56, 57, 58, 59, 60, 61, 62, 63, 64, 65, 66, 67, 68, 69, 70, 71] (by decide +kernel) (by decide +kernel)
set_option maxRecDepth 20000 in
theorem gX4_payOf_X4_isWorker : GoodIn wsX4_payOf (wsV RX4 70 RX4 yX4_isWorker wsX4_isWorker) := goodIn_app (goodIn_of _ (by decide +kernel)) ggX4_payOf_X4_isWorker
set_option maxRecDepth 20000 in
theorem ggX4_payOf_X4_isIn : GoodIn wsX4_payOf wsX4_isIn := goodIn_r _ [13] (by decide +kernel) (by decide +kernel)
set_option maxRecDepth 20000 in
theorem gX4_payOf_X4_isIn : GoodIn wsX4_payOf (va_wsS RX4 57 yX4_isIn wsX4_isIn) := goodIn_app (goodIn_of _ (by decide +kernel)) ggX4_payOf_X4_isIn
set_option maxRecDepth 20000 in
theorem ggX4_payOf_X4_payed : GoodIn wsX4_payOf wsX4_payed := goodIn_r _ [17, 18, 19, 3, 20, 21, 22, 8, 23, 24, 25, 26, 27, 28, 29, 30, 31, 32, 33, 34, 35, 36, 37, 38, 39, 40, 4, 41, 42, 43, 44, 45, 46, 47, 48, 49, 50, 51, 52, 53, 54, 55, 56, 57, 58, 59, 60, 61, 62, 63, 64, 65, 66, 67, 68, 69, 70, 71] (by decide +kernel) (by decide +kernel)
set_option maxRecDepth 20000 in
theorem gX4_payOf_X4_payed : GoodIn wsX4_payOf (wsV RX4 77 RX4 yX4_payed wsX4_payed) := goodIn_app (goodIn_of _ (by decide +kernel)) ggX4_payOf_X4_payed
theorem dX4_payOf_0 : decode cX4_payOf 0 = .ok (.aload_n 0, 1) := by decide +kernel
theorem dX4_payOf_1 : decode cX4_payOf 1 = .ok (.aload_n 0, 1) := by decide +kernel
theorem dX4_payOf_2 : decode cX4_payOf 2 = .ok (.iload_n 1, 1) := by decide +kernel
theorem dX4_payOf_3 : decode cX4_payOf 3 = .ok (.invokevirtual 70, 3) := by decide +kernel
theorem dX4_payOf_6 : decode cX4_payOf 6 = .ok (.ifCond .ne 7, 3) := by decide +kernel
theorem dX4_payOf_9 : decode cX4_payOf 9 = .ok (.iconst 1, 1) := by decide +kernel
theorem dX4_payOf_10 : decode cX4_payOf 10 = .ok (.goto 30, 3) := by decide +kernel
theorem dX4_payOf_13 : decode cX4_payOf 13 = .ok (.iload_n 2, 1) := by decide +kernel
theorem dX4_payOf_14 : decode cX4_payOf 14 = .ok (.iconst 0, 1) := by decide +kernel
theorem dX4_payOf_15 : decode cX4_payOf 15 = .ok (.sipush 363, 3) := by decide +kernel
theorem dX4_payOf_18 : decode cX4_payOf 18 = .ok (.invokestatic 57, 3) := by decide +kernel
theorem dX4_payOf_21 : decode cX4_payOf 21 = .ok (.ifCond .eq 18, 3) := by decide +kernel
theorem dX4_payOf_24 : decode cX4_payOf 24 = .ok (.iload_n 3, 1) := by decide +kernel
theorem dX4_payOf_25 : decode cX4_payOf 25 = .ok (.iload_n 2, 1) := by decide +kernel
theorem dX4_payOf_26 : decode cX4_payOf 26 = .ok (.sipush 363, 3) := by decide +kernel
theorem dX4_payOf_29 : decode cX4_payOf 29 = .ok (.invokestatic 57, 3) := by decide +kernel
theorem dX4_payOf_32 : decode cX4_payOf 32 = .ok (.ifCond .eq 7, 3) := by decide +kernel
theorem dX4_payOf_35 : decode cX4_payOf 35 = .ok (.iconst 0, 1) := by decide +kernel
theorem dX4_payOf_36 : decode cX4_payOf 36 = .ok (.goto 4, 3) := by decide +kernel
theorem dX4_payOf_39 : decode cX4_payOf 39 = .ok (.iconst 2, 1) := by decide +kernel
theorem dX4_payOf_40 : decode cX4_payOf 40 = .ok (.putfield 53, 3) := by decide +kernel
theorem dX4_payOf_43 : decode cX4_payOf 43 = .ok (.iconst 0, 1) := by decide +kernel
theorem dX4_payOf_44 : decode cX4_payOf 44 = .ok (.istore 4, 2) := by decide +kernel
theorem dX4_payOf_46 : decode cX4_payOf 46 = .ok (.iconst 0, 1) := by decide +kernel
theorem dX4_payOf_47 : decode cX4_payOf 47 = .ok (.istore 5, 2) := by decide +kernel
theorem dX4_payOf_49 : decode cX4_payOf 49 = .ok (.iload 5, 2) := by decide +kernel
theorem dX4_payOf_51 : decode cX4_payOf 51 = .ok (.aload_n 0, 1) := by decide +kernel
theorem dX4_payOf_52 : decode cX4_payOf 52 = .ok (.getfield 67, 3) := by decide +kernel
theorem dX4_payOf_55 : decode cX4_payOf 55 = .ok (.if_icmp .ge 60, 3) := by decide +kernel
theorem dX4_payOf_58 : decode cX4_payOf 58 = .ok (.aload_n 0, 1) := by decide +kernel
theorem dX4_payOf_59 : decode cX4_payOf 59 = .ok (.getfield 53, 3) := by decide +kernel
theorem dX4_payOf_62 : decode cX4_payOf 62 = .ok (.ifCond .ne 53, 3) := by decide +kernel
theorem dX4_payOf_65 : decode cX4_payOf 65 = .ok (.iload 4, 2) := by decide +kernel
theorem dX4_payOf_67 : decode cX4_payOf 67 = .ok (.aload_n 0, 1) := by decide +kernel
theorem dX4_payOf_68 : decode cX4_payOf 68 = .ok (.getfield 38, 3) := by decide +kernel
theorem dX4_payOf_71 : decode cX4_payOf 71 = .ok (.iload 5, 2) := by decide +kernel
theorem dX4_payOf_73 : decode cX4_payOf 73 = .ok (.iaload, 1) := by decide +kernel
theorem dX4_payOf_74 : decode cX4_payOf 74 = .ok (.iload_n 1, 1) := by decide +kernel
theorem dX4_payOf_75 : decode cX4_payOf 75 = .ok (.if_icmp .ne 30, 3) := by decide +kernel
theorem dX4_payOf_78 : decode cX4_payOf 78 = .ok (.aload_n 0, 1) := by decide +kernel
theorem dX4_payOf_79 : decode cX4_payOf 79 = .ok (.getfield 41, 3) := by decide +kernel
theorem dX4_payOf_82 : decode cX4_payOf 82 = .ok (.iload 5, 2) := by decide +kernel
theorem dX4_payOf_84 : decode cX4_payOf 84 = .ok (.iaload, 1) := by decide +kernel
theorem dX4_payOf_85 : decode cX4_payOf 85 = .ok (.bipush 96, 2) := by decide +kernel
theorem dX4_payOf_87 : decode cX4_payOf 87 = .ok (.idiv, 1) := by decide +kernel
theorem dX4_payOf_88 : decode cX4_payOf 88 = .ok (.iload_n 2, 1) := by decide +kernel
theorem dX4_payOf_89 : decode cX4_payOf 89 = .ok (.iload_n 3, 1) := by decide +kernel
theorem dX4_payOf_90 : decode cX4_payOf 90 = .ok (.invokestatic 57, 3) := by decide +kernel
theorem dX4_payOf_93 : decode cX4_payOf 93 = .ok (.ifCond .eq 12, 3) := by decide +kernel
theorem dX4_payOf_96 : decode cX4_payOf 96 = .ok (.aload_n 0, 1) := by decide +kernel
theorem dX4_payOf_97 : decode cX4_payOf 97 = .ok (.iload 5, 2) := by decide +kernel
theorem dX4_payOf_99 : decode cX4_payOf 99 = .ok (.invokevirtual 77, 3) := by decide +kernel
theorem dX4_payOf_102 : decode cX4_payOf 102 = .ok (.goto 4, 3) := by decide +kernel
theorem dX4_payOf_105 : decode cX4_payOf 105 = .ok (.iconst 0, 1) := by decide +kernel
theorem dX4_payOf_106 : decode cX4_payOf 106 = .ok (.iadd, 1) := by decide +kernel
theorem dX4_payOf_107 : decode cX4_payOf 107 = .ok (.istore 4, 2) := by decide +kernel
theorem dX4_payOf_109 : decode cX4_payOf 109 = .ok (.iinc 5 1, 3) := by decide +kernel
theorem dX4_payOf_112 : decode cX4_payOf 112 = .ok (.goto (-63), 3) := by decide +kernel
theorem dX4_payOf_115 : decode cX4_payOf 115 = .ok (.iload 4, 2) := by decide +kernel
theorem dX4_payOf_117 : decode cX4_payOf 117 = .ok (.ireturn, 1) := by decide +kernel
set_option maxRecDepth 20000 in
theorem ggX4_paidBy_X4_isIn : GoodIn wsX4_paidBy wsX4_isIn := goodIn_r _ [7] (by decide +kernel) (by decide +kernel)
set_option maxRecDepth 20000 in
theorem gX4_paidBy_X4_isIn : GoodIn wsX4_paidBy (va_wsS RX4 57 yX4_isIn wsX4_isIn) := goodIn_app (goodIn_of _ (by decide +kernel)) ggX4_paidBy_X4_isIn
set_option maxRecDepth 20000 in
theorem ggX4_paidBy_X4_paid : GoodIn wsX4_paidBy wsX4_paid := goodIn_r _ [11, 12, 13, 44, 45, 46, 47, 48, 49, 50, 51, 52, 53, 54, 55, 56, 57, 58, 59, 60, 61] (by decide +kernel) (by decide +kernel)
set_option maxRecDepth 20000 in
theorem gX4_paidBy_X4_paid : GoodIn wsX4_paidBy (wsV RX4 94 RX4 yX4_paid wsX4_paid) := goodIn_app (goodIn_of _ (by decide +kernel)) ggX4_paidBy_X4_paid
set_option maxRecDepth 20000 in
theorem ggX4_paidBy_X4_reasoned : GoodIn wsX4_paidBy wsX4_reasoned := goodIn_r _ [17, 1, 18, 19, 20, 21, 22, 23, 24, 6, 25, 26, 27, 28, 29, 30, 31, 32, 33, 34, 35, 36, 37, 38, 44, 45, 46, 47, 48, 49, 50, 51, 52, 53, 54, 55, 56, 57, 58, 59, 60, 61] (by decide +kernel) (by decide +kernel)
set_option maxRecDepth 20000 in
theorem gX4_paidBy_X4_reasoned : GoodIn wsX4_paidBy (wsV RX4 104 RX4 yX4_reasoned wsX4_reasoned) := goodIn_app (goodIn_of _ (by decide +kernel)) ggX4_paidBy_X4_reasoned
set_option maxRecDepth 20000 in
theorem ggX4_paidBy_X4_amount : GoodIn wsX4_paidBy wsX4_amount := goodIn_r _ [42, 43, 20, 21, 22, 23, 24, 6, 25, 1, 18, 19, 26, 27, 28, 29, 30, 31, 32, 33, 34, 35, 36, 37, 38, 44, 45, 46, 47, 48, 49, 50, 51, 52, 53, 54, 55, 56, 57, 58, 59, 60, 61] (by decide +kernel) (by decide +kernel)
set_option maxRecDepth 20000 in
theorem gX4_paidBy_X4_amount : GoodIn wsX4_paidBy (wsV RX4 97 RX4 yX4_amount wsX4_amount) := goodIn_app (goodIn_of _ (by decide +kernel)) ggX4_paidBy_X4_amount
theorem dX4_paidBy_0 : decode cX4_paidBy 0 = .ok (.aload_n 0, 1) := by decide +kernel
theorem dX4_paidBy_1 : decode cX4_paidBy 1 = .ok (.iload_n 1, 1) := by decide +kernel
theorem dX4_paidBy_2 : decode cX4_paidBy 2 = .ok (.iconst 0, 1) := by decide +kernel
theorem dX4_paidBy_3 : decode cX4_paidBy 3 = .ok (.aload_n 0, 1) := by decide +kernel
theorem dX4_paidBy_4 : decode cX4_paidBy 4 = .ok (.getfield 61, 3) := by decide +kernel
theorem dX4_paidBy_7 : decode cX4_paidBy 7 = .ok (.iconst 1, 1) := by decide +kernel
theorem dX4_paidBy_8 : decode cX4_paidBy 8 = .ok (.isub, 1) := by decide +kernel
theorem dX4_paidBy_9 : decode cX4_paidBy 9 = .ok (.invokestatic 57, 3) := by decide +kernel
theorem dX4_paidBy_12 : decode cX4_paidBy 12 = .ok (.ifCond .eq 7, 3) := by decide +kernel
theorem dX4_paidBy_15 : decode cX4_paidBy 15 = .ok (.iconst 0, 1) := by decide +kernel
theorem dX4_paidBy_16 : decode cX4_paidBy 16 = .ok (.goto 4, 3) := by decide +kernel
theorem dX4_paidBy_19 : decode cX4_paidBy 19 = .ok (.iconst 1, 1) := by decide +kernel
theorem dX4_paidBy_20 : decode cX4_paidBy 20 = .ok (.putfield 53, 3) := by decide +kernel
theorem dX4_paidBy_23 : decode cX4_paidBy 23 = .ok (.iconst 0, 1) := by decide +kernel
theorem dX4_paidBy_24 : decode cX4_paidBy 24 = .ok (.istore_n 2, 1) := by decide +kernel
theorem dX4_paidBy_25 : decode cX4_paidBy 25 = .ok (.iconst 0, 1) := by decide +kernel
theorem dX4_paidBy_26 : decode cX4_paidBy 26 = .ok (.istore_n 3, 1) := by decide +kernel
theorem dX4_paidBy_27 : decode cX4_paidBy 27 = .ok (.iload_n 3, 1) := by decide +kernel
theorem dX4_paidBy_28 : decode cX4_paidBy 28 = .ok (.aload_n 0, 1) := by decide +kernel
theorem dX4_paidBy_29 : decode cX4_paidBy 29 = .ok (.getfield 67, 3) := by decide +kernel
theorem dX4_paidBy_32 : decode cX4_paidBy 32 = .ok (.if_icmp .ge 60, 3) := by decide +kernel
theorem dX4_paidBy_35 : decode cX4_paidBy 35 = .ok (.aload_n 0, 1) := by decide +kernel
theorem dX4_paidBy_36 : decode cX4_paidBy 36 = .ok (.getfield 53, 3) := by decide +kernel
theorem dX4_paidBy_39 : decode cX4_paidBy 39 = .ok (.ifCond .ne 53, 3) := by decide +kernel
theorem dX4_paidBy_42 : decode cX4_paidBy 42 = .ok (.iconst 0, 1) := by decide +kernel
theorem dX4_paidBy_43 : decode cX4_paidBy 43 = .ok (.istore 4, 2) := by decide +kernel
theorem dX4_paidBy_45 : decode cX4_paidBy 45 = .ok (.iload 4, 2) := by decide +kernel
theorem dX4_paidBy_47 : decode cX4_paidBy 47 = .ok (.aload_n 0, 1) := by decide +kernel
theorem dX4_paidBy_48 : decode cX4_paidBy 48 = .ok (.iload_n 3, 1) := by decide +kernel
theorem dX4_paidBy_49 : decode cX4_paidBy 49 = .ok (.invokevirtual 94, 3) := by decide +kernel
theorem dX4_paidBy_52 : decode cX4_paidBy 52 = .ok (.if_icmp .ge 34, 3) := by decide +kernel
theorem dX4_paidBy_55 : decode cX4_paidBy 55 = .ok (.iload_n 2, 1) := by decide +kernel
theorem dX4_paidBy_56 : decode cX4_paidBy 56 = .ok (.aload_n 0, 1) := by decide +kernel
theorem dX4_paidBy_57 : decode cX4_paidBy 57 = .ok (.iload_n 3, 1) := by decide +kernel
theorem dX4_paidBy_58 : decode cX4_paidBy 58 = .ok (.iload 4, 2) := by decide +kernel
theorem dX4_paidBy_60 : decode cX4_paidBy 60 = .ok (.invokevirtual 104, 3) := by decide +kernel
theorem dX4_paidBy_63 : decode cX4_paidBy 63 = .ok (.iload_n 1, 1) := by decide +kernel
theorem dX4_paidBy_64 : decode cX4_paidBy 64 = .ok (.if_icmp .ne 13, 3) := by decide +kernel
theorem dX4_paidBy_67 : decode cX4_paidBy 67 = .ok (.aload_n 0, 1) := by decide +kernel
theorem dX4_paidBy_68 : decode cX4_paidBy 68 = .ok (.iload_n 3, 1) := by decide +kernel
theorem dX4_paidBy_69 : decode cX4_paidBy 69 = .ok (.iload 4, 2) := by decide +kernel
theorem dX4_paidBy_71 : decode cX4_paidBy 71 = .ok (.invokevirtual 97, 3) := by decide +kernel
theorem dX4_paidBy_74 : decode cX4_paidBy 74 = .ok (.goto 4, 3) := by decide +kernel
theorem dX4_paidBy_77 : decode cX4_paidBy 77 = .ok (.iconst 0, 1) := by decide +kernel
theorem dX4_paidBy_78 : decode cX4_paidBy 78 = .ok (.iadd, 1) := by decide +kernel
theorem dX4_paidBy_79 : decode cX4_paidBy 79 = .ok (.istore_n 2, 1) := by decide +kernel
theorem dX4_paidBy_80 : decode cX4_paidBy 80 = .ok (.iinc 4 1, 3) := by decide +kernel
theorem dX4_paidBy_83 : decode cX4_paidBy 83 = .ok (.goto (-38), 3) := by decide +kernel
theorem dX4_paidBy_86 : decode cX4_paidBy 86 = .ok (.iinc 3 1, 3) := by decide +kernel
theorem dX4_paidBy_89 : decode cX4_paidBy 89 = .ok (.goto (-62), 3) := by decide +kernel
theorem dX4_paidBy_92 : decode cX4_paidBy 92 = .ok (.iload_n 2, 1) := by decide +kernel
theorem dX4_paidBy_93 : decode cX4_paidBy 93 = .ok (.ireturn, 1) := by decide +kernel
theorem dX4_hours_0 : decode cX4_hours 0 = .ok (.bipush 96, 2) := by decide +kernel
theorem dX4_hours_2 : decode cX4_hours 2 = .ok (.iload_n 2, 1) := by decide +kernel
theorem dX4_hours_3 : decode cX4_hours 3 = .ok (.imul, 1) := by decide +kernel
theorem dX4_hours_4 : decode cX4_hours 4 = .ok (.istore 4, 2) := by decide +kernel
theorem dX4_hours_6 : decode cX4_hours 6 = .ok (.bipush 96, 2) := by decide +kernel
theorem dX4_hours_8 : decode cX4_hours 8 = .ok (.iload_n 2, 1) := by decide +kernel
theorem dX4_hours_9 : decode cX4_hours 9 = .ok (.iload_n 3, 1) := by decide +kernel
theorem dX4_hours_10 : decode cX4_hours 10 = .ok (.iadd, 1) := by decide +kernel
theorem dX4_hours_11 : decode cX4_hours 11 = .ok (.imul, 1) := by decide +kernel
theorem dX4_hours_12 : decode cX4_hours 12 = .ok (.istore 5, 2) := by decide +kernel
theorem dX4_hours_14 : decode cX4_hours 14 = .ok (.iconst 0, 1) := by decide +kernel
theorem dX4_hours_15 : decode cX4_hours 15 = .ok (.istore 6, 2) := by decide +kernel
theorem dX4_hours_17 : decode cX4_hours 17 = .ok (.iconst 0, 1) := by decide +kernel
theorem dX4_hours_18 : decode cX4_hours 18 = .ok (.istore 7, 2) := by decide +kernel
theorem dX4_hours_20 : decode cX4_hours 20 = .ok (.iload 7, 2) := by decide +kernel
theorem dX4_hours_22 : decode cX4_hours 22 = .ok (.aload_n 0, 1) := by decide +kernel
theorem dX4_hours_23 : decode cX4_hours 23 = .ok (.getfield 67, 3) := by decide +kernel
theorem dX4_hours_26 : decode cX4_hours 26 = .ok (.if_icmp .ge 119, 3) := by decide +kernel
theorem dX4_hours_29 : decode cX4_hours 29 = .ok (.aload_n 0, 1) := by decide +kernel
theorem dX4_hours_30 : decode cX4_hours 30 = .ok (.getfield 41, 3) := by decide +kernel
theorem dX4_hours_33 : decode cX4_hours 33 = .ok (.iload 7, 2) := by decide +kernel
theorem dX4_hours_35 : decode cX4_hours 35 = .ok (.iaload, 1) := by decide +kernel
theorem dX4_hours_36 : decode cX4_hours 36 = .ok (.iload 4, 2) := by decide +kernel
theorem dX4_hours_38 : decode cX4_hours 38 = .ok (.if_icmp .le 13, 3) := by decide +kernel
theorem dX4_hours_41 : decode cX4_hours 41 = .ok (.aload_n 0, 1) := by decide +kernel
theorem dX4_hours_42 : decode cX4_hours 42 = .ok (.getfield 41, 3) := by decide +kernel
theorem dX4_hours_45 : decode cX4_hours 45 = .ok (.iload 7, 2) := by decide +kernel
theorem dX4_hours_47 : decode cX4_hours 47 = .ok (.iaload, 1) := by decide +kernel
theorem dX4_hours_48 : decode cX4_hours 48 = .ok (.goto 5, 3) := by decide +kernel
theorem dX4_hours_51 : decode cX4_hours 51 = .ok (.iload 4, 2) := by decide +kernel
theorem dX4_hours_53 : decode cX4_hours 53 = .ok (.istore 8, 2) := by decide +kernel
theorem dX4_hours_55 : decode cX4_hours 55 = .ok (.aload_n 0, 1) := by decide +kernel
theorem dX4_hours_56 : decode cX4_hours 56 = .ok (.getfield 41, 3) := by decide +kernel
theorem dX4_hours_59 : decode cX4_hours 59 = .ok (.iload 7, 2) := by decide +kernel
theorem dX4_hours_61 : decode cX4_hours 61 = .ok (.iaload, 1) := by decide +kernel
theorem dX4_hours_62 : decode cX4_hours 62 = .ok (.aload_n 0, 1) := by decide +kernel
theorem dX4_hours_63 : decode cX4_hours 63 = .ok (.getfield 44, 3) := by decide +kernel
theorem dX4_hours_66 : decode cX4_hours 66 = .ok (.iload 7, 2) := by decide +kernel
theorem dX4_hours_68 : decode cX4_hours 68 = .ok (.iaload, 1) := by decide +kernel
theorem dX4_hours_69 : decode cX4_hours 69 = .ok (.iadd, 1) := by decide +kernel
theorem dX4_hours_70 : decode cX4_hours 70 = .ok (.iload 5, 2) := by decide +kernel
theorem dX4_hours_72 : decode cX4_hours 72 = .ok (.if_icmp .ge 21, 3) := by decide +kernel
theorem dX4_hours_75 : decode cX4_hours 75 = .ok (.aload_n 0, 1) := by decide +kernel
theorem dX4_hours_76 : decode cX4_hours 76 = .ok (.getfield 41, 3) := by decide +kernel
theorem dX4_hours_79 : decode cX4_hours 79 = .ok (.iload 7, 2) := by decide +kernel
theorem dX4_hours_81 : decode cX4_hours 81 = .ok (.iaload, 1) := by decide +kernel
theorem dX4_hours_82 : decode cX4_hours 82 = .ok (.aload_n 0, 1) := by decide +kernel
theorem dX4_hours_83 : decode cX4_hours 83 = .ok (.getfield 44, 3) := by decide +kernel
theorem dX4_hours_86 : decode cX4_hours 86 = .ok (.iload 7, 2) := by decide +kernel
theorem dX4_hours_88 : decode cX4_hours 88 = .ok (.iaload, 1) := by decide +kernel
theorem dX4_hours_89 : decode cX4_hours 89 = .ok (.iadd, 1) := by decide +kernel
theorem dX4_hours_90 : decode cX4_hours 90 = .ok (.goto 5, 3) := by decide +kernel
theorem dX4_hours_93 : decode cX4_hours 93 = .ok (.iload 5, 2) := by decide +kernel
theorem dX4_hours_95 : decode cX4_hours 95 = .ok (.istore 9, 2) := by decide +kernel
theorem dX4_hours_97 : decode cX4_hours 97 = .ok (.iload 6, 2) := by decide +kernel
theorem dX4_hours_99 : decode cX4_hours 99 = .ok (.aload_n 0, 1) := by decide +kernel
theorem dX4_hours_100 : decode cX4_hours 100 = .ok (.getfield 50, 3) := by decide +kernel
theorem dX4_hours_103 : decode cX4_hours 103 = .ok (.iload 7, 2) := by decide +kernel
theorem dX4_hours_105 : decode cX4_hours 105 = .ok (.baload, 1) := by decide +kernel
theorem dX4_hours_106 : decode cX4_hours 106 = .ok (.ifCond .ne 29, 3) := by decide +kernel
theorem dX4_hours_109 : decode cX4_hours 109 = .ok (.aload_n 0, 1) := by decide +kernel
theorem dX4_hours_110 : decode cX4_hours 110 = .ok (.getfield 38, 3) := by decide +kernel
theorem dX4_hours_113 : decode cX4_hours 113 = .ok (.iload 7, 2) := by decide +kernel
theorem dX4_hours_115 : decode cX4_hours 115 = .ok (.iaload, 1) := by decide +kernel
theorem dX4_hours_116 : decode cX4_hours 116 = .ok (.iload_n 1, 1) := by decide +kernel
theorem dX4_hours_117 : decode cX4_hours 117 = .ok (.if_icmp .ne 18, 3) := by decide +kernel
theorem dX4_hours_120 : decode cX4_hours 120 = .ok (.iload 9, 2) := by decide +kernel
theorem dX4_hours_122 : decode cX4_hours 122 = .ok (.iload 8, 2) := by decide +kernel
theorem dX4_hours_124 : decode cX4_hours 124 = .ok (.if_icmp .le 11, 3) := by decide +kernel
theorem dX4_hours_127 : decode cX4_hours 127 = .ok (.iload 9, 2) := by decide +kernel
theorem dX4_hours_129 : decode cX4_hours 129 = .ok (.iload 8, 2) := by decide +kernel
theorem dX4_hours_131 : decode cX4_hours 131 = .ok (.isub, 1) := by decide +kernel
theorem dX4_hours_132 : decode cX4_hours 132 = .ok (.goto 4, 3) := by decide +kernel
theorem dX4_hours_135 : decode cX4_hours 135 = .ok (.iconst 0, 1) := by decide +kernel
theorem dX4_hours_136 : decode cX4_hours 136 = .ok (.iadd, 1) := by decide +kernel
theorem dX4_hours_137 : decode cX4_hours 137 = .ok (.istore 6, 2) := by decide +kernel
theorem dX4_hours_139 : decode cX4_hours 139 = .ok (.iinc 7 1, 3) := by decide +kernel
theorem dX4_hours_142 : decode cX4_hours 142 = .ok (.goto (-122), 3) := by decide +kernel
theorem dX4_hours_145 : decode cX4_hours 145 = .ok (.iload 6, 2) := by decide +kernel
theorem dX4_hours_147 : decode cX4_hours 147 = .ok (.ireturn, 1) := by decide +kernel
set_option maxRecDepth 20000 in
theorem ggX4_worked_X4_isWorker : GoodIn wsX4_worked wsX4_isWorker := goodIn_r _ [6, 7, 8, 9, 5, 10, 20, 21, 22, 23, 24, 25, 26, 27, 28, 29, 30, 31, 32, 33, 34, 35, 36, 37] (by decide +kernel) (by decide +kernel)
set_option maxRecDepth 20000 in
theorem gX4_worked_X4_isWorker : GoodIn wsX4_worked (wsV RX4 70 RX4 yX4_isWorker wsX4_isWorker) := goodIn_app (goodIn_of _ (by decide +kernel)) ggX4_worked_X4_isWorker
set_option maxRecDepth 20000 in
theorem ggX4_worked_X4_isIn : GoodIn wsX4_worked wsX4_isIn := goodIn_r _ [10] (by decide +kernel) (by decide +kernel)
set_option maxRecDepth 20000 in
theorem gX4_worked_X4_isIn : GoodIn wsX4_worked (va_wsS RX4 57 yX4_isIn wsX4_isIn) := goodIn_app (goodIn_of _ (by decide +kernel)) ggX4_worked_X4_isIn
set_option maxRecDepth 20000 in
theorem ggX4_worked_X4_hours : GoodIn wsX4_worked wsX4_hours := goodIn_r _ [14, 15, 16, 17, 18, 19, 20, 21, 22, 23, 24, 25, 26, 27, 28, 29, 30, 31, 32, 33, 34, 35, 36, 37] (by decide +kernel) (by decide +kernel)
set_option maxRecDepth 20000 in
theorem gX4_worked_X4_hours : GoodIn wsX4_worked (wsV RX4 107 RX4 yX4_hours wsX4_hours) := goodIn_app (goodIn_of _ (by decide +kernel)) ggX4_worked_X4_hours
theorem dX4_worked_0 : decode cX4_worked 0 = .ok (.aload_n 0, 1) := by decide +kernel
theorem dX4_worked_1 : decode cX4_worked 1 = .ok (.aload_n 0, 1) := by decide +kernel
theorem dX4_worked_2 : decode cX4_worked 2 = .ok (.iload_n 1, 1) := by decide +kernel
theorem dX4_worked_3 : decode cX4_worked 3 = .ok (.invokevirtual 70, 3) := by decide +kernel
theorem dX4_worked_6 : decode cX4_worked 6 = .ok (.ifCond .ne 7, 3) := by decide +kernel
theorem dX4_worked_9 : decode cX4_worked 9 = .ok (.iconst 1, 1) := by decide +kernel
theorem dX4_worked_10 : decode cX4_worked 10 = .ok (.goto 18, 3) := by decide +kernel
theorem dX4_worked_13 : decode cX4_worked 13 = .ok (.iload_n 2, 1) := by decide +kernel
theorem dX4_worked_14 : decode cX4_worked 14 = .ok (.iconst 0, 1) := by decide +kernel
theorem dX4_worked_15 : decode cX4_worked 15 = .ok (.bipush 51, 2) := by decide +kernel
theorem dX4_worked_17 : decode cX4_worked 17 = .ok (.invokestatic 57, 3) := by decide +kernel
theorem dX4_worked_20 : decode cX4_worked 20 = .ok (.ifCond .eq 7, 3) := by decide +kernel
theorem dX4_worked_23 : decode cX4_worked 23 = .ok (.iconst 0, 1) := by decide +kernel
theorem dX4_worked_24 : decode cX4_worked 24 = .ok (.goto 4, 3) := by decide +kernel
theorem dX4_worked_27 : decode cX4_worked 27 = .ok (.iconst 2, 1) := by decide +kernel
theorem dX4_worked_28 : decode cX4_worked 28 = .ok (.putfield 53, 3) := by decide +kernel
theorem dX4_worked_31 : decode cX4_worked 31 = .ok (.aload_n 0, 1) := by decide +kernel
theorem dX4_worked_32 : decode cX4_worked 32 = .ok (.getfield 53, 3) := by decide +kernel
theorem dX4_worked_35 : decode cX4_worked 35 = .ok (.ifCond .le 7, 3) := by decide +kernel
theorem dX4_worked_38 : decode cX4_worked 38 = .ok (.iconst 0, 1) := by decide +kernel
theorem dX4_worked_39 : decode cX4_worked 39 = .ok (.goto 14, 3) := by decide +kernel
theorem dX4_worked_42 : decode cX4_worked 42 = .ok (.aload_n 0, 1) := by decide +kernel
theorem dX4_worked_43 : decode cX4_worked 43 = .ok (.iload_n 1, 1) := by decide +kernel
theorem dX4_worked_44 : decode cX4_worked 44 = .ok (.bipush 7, 2) := by decide +kernel
theorem dX4_worked_46 : decode cX4_worked 46 = .ok (.iload_n 2, 1) := by decide +kernel
theorem dX4_worked_47 : decode cX4_worked 47 = .ok (.imul, 1) := by decide +kernel
theorem dX4_worked_48 : decode cX4_worked 48 = .ok (.bipush 7, 2) := by decide +kernel
theorem dX4_worked_50 : decode cX4_worked 50 = .ok (.invokevirtual 107, 3) := by decide +kernel
theorem dX4_worked_53 : decode cX4_worked 53 = .ok (.ireturn, 1) := by decide +kernel
set_option maxRecDepth 20000 in
theorem ggX4_excess_X4_isWorker : GoodIn wsX4_excess wsX4_isWorker := goodIn_r _ [6, 7, 8, 9, 5, 10, 20, 21, 22, 23, 24, 25, 26, 27, 28, 29, 30, 31, 32, 33, 34, 35, 36, 37] (by decide +kernel) (by decide +kernel)
set_option maxRecDepth 20000 in
theorem gX4_excess_X4_isWorker : GoodIn wsX4_excess (wsV RX4 70 RX4 yX4_isWorker wsX4_isWorker) := goodIn_app (goodIn_of _ (by decide +kernel)) ggX4_excess_X4_isWorker
set_option maxRecDepth 20000 in
theorem ggX4_excess_X4_isIn : GoodIn wsX4_excess wsX4_isIn := goodIn_r _ [10] (by decide +kernel) (by decide +kernel)
set_option maxRecDepth 20000 in
theorem gX4_excess_X4_isIn : GoodIn wsX4_excess (va_wsS RX4 57 yX4_isIn wsX4_isIn) := goodIn_app (goodIn_of _ (by decide +kernel)) ggX4_excess_X4_isIn
set_option maxRecDepth 20000 in
theorem ggX4_excess_X4_hours : GoodIn wsX4_excess wsX4_hours := goodIn_r _ [14, 15, 16, 17, 18, 19, 20, 21, 22, 23, 24, 25, 26, 27, 28, 29, 30, 31, 32, 33, 34, 35, 36, 37] (by decide +kernel) (by decide +kernel)
set_option maxRecDepth 20000 in
theorem gX4_excess_X4_hours : GoodIn wsX4_excess (wsV RX4 107 RX4 yX4_hours wsX4_hours) := goodIn_app (goodIn_of _ (by decide +kernel)) ggX4_excess_X4_hours
theorem dX4_excess_0 : decode cX4_excess 0 = .ok (.aload_n 0, 1) := by decide +kernel
theorem dX4_excess_1 : decode cX4_excess 1 = .ok (.aload_n 0, 1) := by decide +kernel
theorem dX4_excess_2 : decode cX4_excess 2 = .ok (.iload_n 1, 1) := by decide +kernel
theorem dX4_excess_3 : decode cX4_excess 3 = .ok (.invokevirtual 70, 3) := by decide +kernel
theorem dX4_excess_6 : decode cX4_excess 6 = .ok (.ifCond .ne 7, 3) := by decide +kernel
theorem dX4_excess_9 : decode cX4_excess 9 = .ok (.iconst 1, 1) := by decide +kernel
theorem dX4_excess_10 : decode cX4_excess 10 = .ok (.goto 18, 3) := by decide +kernel
theorem dX4_excess_13 : decode cX4_excess 13 = .ok (.iload_n 2, 1) := by decide +kernel
theorem dX4_excess_14 : decode cX4_excess 14 = .ok (.iconst 0, 1) := by decide +kernel
theorem dX4_excess_15 : decode cX4_excess 15 = .ok (.bipush 12, 2) := by decide +kernel
theorem dX4_excess_17 : decode cX4_excess 17 = .ok (.invokestatic 57, 3) := by decide +kernel
theorem dX4_excess_20 : decode cX4_excess 20 = .ok (.ifCond .eq 7, 3) := by decide +kernel
theorem dX4_excess_23 : decode cX4_excess 23 = .ok (.iconst 0, 1) := by decide +kernel
theorem dX4_excess_24 : decode cX4_excess 24 = .ok (.goto 4, 3) := by decide +kernel
theorem dX4_excess_27 : decode cX4_excess 27 = .ok (.iconst 2, 1) := by decide +kernel
theorem dX4_excess_28 : decode cX4_excess 28 = .ok (.putfield 53, 3) := by decide +kernel
theorem dX4_excess_31 : decode cX4_excess 31 = .ok (.aload_n 0, 1) := by decide +kernel
theorem dX4_excess_32 : decode cX4_excess 32 = .ok (.getfield 53, 3) := by decide +kernel
theorem dX4_excess_35 : decode cX4_excess 35 = .ok (.ifCond .le 7, 3) := by decide +kernel
theorem dX4_excess_38 : decode cX4_excess 38 = .ok (.iconst 0, 1) := by decide +kernel
theorem dX4_excess_39 : decode cX4_excess 39 = .ok (.goto 18, 3) := by decide +kernel
theorem dX4_excess_42 : decode cX4_excess 42 = .ok (.aload_n 0, 1) := by decide +kernel
theorem dX4_excess_43 : decode cX4_excess 43 = .ok (.iload_n 1, 1) := by decide +kernel
theorem dX4_excess_44 : decode cX4_excess 44 = .ok (.bipush 28, 2) := by decide +kernel
theorem dX4_excess_46 : decode cX4_excess 46 = .ok (.iload_n 2, 1) := by decide +kernel
theorem dX4_excess_47 : decode cX4_excess 47 = .ok (.imul, 1) := by decide +kernel
theorem dX4_excess_48 : decode cX4_excess 48 = .ok (.bipush 28, 2) := by decide +kernel
theorem dX4_excess_50 : decode cX4_excess 50 = .ok (.invokevirtual 107, 3) := by decide +kernel
theorem dX4_excess_53 : decode cX4_excess 53 = .ok (.sipush 608, 3) := by decide +kernel
theorem dX4_excess_56 : decode cX4_excess 56 = .ok (.isub, 1) := by decide +kernel
theorem dX4_excess_57 : decode cX4_excess 57 = .ok (.istore_n 3, 1) := by decide +kernel
theorem dX4_excess_58 : decode cX4_excess 58 = .ok (.iload_n 3, 1) := by decide +kernel
theorem dX4_excess_59 : decode cX4_excess 59 = .ok (.ifCond .le 7, 3) := by decide +kernel
theorem dX4_excess_62 : decode cX4_excess 62 = .ok (.iload_n 3, 1) := by decide +kernel
theorem dX4_excess_63 : decode cX4_excess 63 = .ok (.goto 4, 3) := by decide +kernel
theorem dX4_excess_66 : decode cX4_excess 66 = .ok (.iconst 0, 1) := by decide +kernel
theorem dX4_excess_67 : decode cX4_excess 67 = .ok (.ireturn, 1) := by decide +kernel
theorem dJ9_max_7cf53_0 : decode cJ9_max_7cf53 0 = .ok (.iload_n 0, 1) := by decide +kernel
theorem dJ9_max_7cf53_1 : decode cJ9_max_7cf53 1 = .ok (.iload_n 1, 1) := by decide +kernel
theorem dJ9_max_7cf53_2 : decode cJ9_max_7cf53 2 = .ok (.if_icmp .lt 7, 3) := by decide +kernel
theorem dJ9_max_7cf53_5 : decode cJ9_max_7cf53 5 = .ok (.iload_n 0, 1) := by decide +kernel
theorem dJ9_max_7cf53_6 : decode cJ9_max_7cf53 6 = .ok (.goto 4, 3) := by decide +kernel
theorem dJ9_max_7cf53_9 : decode cJ9_max_7cf53 9 = .ok (.iload_n 1, 1) := by decide +kernel
theorem dJ9_max_7cf53_10 : decode cJ9_max_7cf53 10 = .ok (.ireturn, 1) := by decide +kernel
theorem dJ9_min_7cf53_0 : decode cJ9_min_7cf53 0 = .ok (.iload_n 0, 1) := by decide +kernel
theorem dJ9_min_7cf53_1 : decode cJ9_min_7cf53 1 = .ok (.iload_n 1, 1) := by decide +kernel
theorem dJ9_min_7cf53_2 : decode cJ9_min_7cf53 2 = .ok (.if_icmp .gt 7, 3) := by decide +kernel
theorem dJ9_min_7cf53_5 : decode cJ9_min_7cf53 5 = .ok (.iload_n 0, 1) := by decide +kernel
theorem dJ9_min_7cf53_6 : decode cJ9_min_7cf53 6 = .ok (.goto 4, 3) := by decide +kernel
theorem dJ9_min_7cf53_9 : decode cJ9_min_7cf53 9 = .ok (.iload_n 1, 1) := by decide +kernel
theorem dJ9_min_7cf53_10 : decode cJ9_min_7cf53 10 = .ok (.ireturn, 1) := by decide +kernel
theorem dJxa1e45_init_da8c8_0 : decode cJxa1e45_init_da8c8 0 = .ok (.aload_n 0, 1) := by decide +kernel
theorem dJxa1e45_init_da8c8_1 : decode cJxa1e45_init_da8c8 1 = .ok (.invokespecial 1, 3) := by decide +kernel
theorem dJxa1e45_init_da8c8_4 : decode cJxa1e45_init_da8c8 4 = .ok (.return_, 1) := by decide +kernel
set_option maxRecDepth 20000 in
theorem ggJxc12de_init_da8c8_Jxa1e45_init_da8c8 : GoodIn wsJxc12de_init_da8c8 wsJxa1e45_init_da8c8 := goodIn_r _ [5, 6, 7, 8] (by decide +kernel) (by decide +kernel)
set_option maxRecDepth 20000 in
theorem gJxc12de_init_da8c8_Jxa1e45_init_da8c8 : GoodIn wsJxc12de_init_da8c8 (wsJxa1e45_init_da8c8) := ggJxc12de_init_da8c8_Jxa1e45_init_da8c8
theorem dJxc12de_init_da8c8_0 : decode cJxc12de_init_da8c8 0 = .ok (.aload_n 0, 1) := by decide +kernel
theorem dJxc12de_init_da8c8_1 : decode cJxc12de_init_da8c8 1 = .ok (.invokespecial 1, 3) := by decide +kernel
theorem dJxc12de_init_da8c8_4 : decode cJxc12de_init_da8c8 4 = .ok (.aload_n 0, 1) := by decide +kernel
theorem dJxc12de_init_da8c8_5 : decode cJxc12de_init_da8c8 5 = .ok (.iconst 0, 1) := by decide +kernel
theorem dJxc12de_init_da8c8_6 : decode cJxc12de_init_da8c8 6 = .ok (.putfield 7, 3) := by decide +kernel
theorem dJxc12de_init_da8c8_9 : decode cJxc12de_init_da8c8 9 = .ok (.return_, 1) := by decide +kernel
set_option maxRecDepth 20000 in
theorem ggJx4a65c_init_da8c8_Jxc12de_init_da8c8 : GoodIn wsJx4a65c_init_da8c8 wsJxc12de_init_da8c8 := goodIn_r _ [6, 7, 8, 9, 10, 11, 12, 13, 14, 15, 16, 17] (by decide +kernel) (by decide +kernel)
set_option maxRecDepth 20000 in
theorem gJx4a65c_init_da8c8_Jxc12de_init_da8c8 : GoodIn wsJx4a65c_init_da8c8 (wsJxc12de_init_da8c8) := ggJx4a65c_init_da8c8_Jxc12de_init_da8c8
theorem dJx4a65c_init_da8c8_0 : decode cJx4a65c_init_da8c8 0 = .ok (.aload_n 0, 1) := by decide +kernel
theorem dJx4a65c_init_da8c8_1 : decode cJx4a65c_init_da8c8 1 = .ok (.invokespecial 1, 3) := by decide +kernel
theorem dJx4a65c_init_da8c8_4 : decode cJx4a65c_init_da8c8 4 = .ok (.aload_n 0, 1) := by decide +kernel
theorem dJx4a65c_init_da8c8_5 : decode cJx4a65c_init_da8c8 5 = .ok (.getstatic 39, 3) := by decide +kernel
theorem dJx4a65c_init_da8c8_8 : decode cJx4a65c_init_da8c8 8 = .ok (.putfield 9, 3) := by decide +kernel
theorem dJx4a65c_init_da8c8_11 : decode cJx4a65c_init_da8c8 11 = .ok (.return_, 1) := by decide +kernel
set_option maxRecDepth 20000 in
theorem ggJx4a65c_grow_92f84_J8_newLength_cabcc : GoodIn wsJx4a65c_grow_92f84 wsJ8_newLength_cabcc := goodIn_r _ [11, 12, 4, 5, 6, 13, 14, 15, 10, 16] (by decide +kernel) (by decide +kernel)
set_option maxRecDepth 20000 in
theorem gJx4a65c_grow_92f84_J8_newLength_cabcc : GoodIn wsJx4a65c_grow_92f84 (va_wsS RJx4a65c 73 yJ8_newLength_cabcc wsJ8_newLength_cabcc) := goodIn_app (goodIn_of _ (by decide +kernel)) ggJx4a65c_grow_92f84_J8_newLength_cabcc
set_option maxRecDepth 20000 in
theorem ggJx4a65c_grow_92f84_J7_copyOf_1904c : GoodIn wsJx4a65c_grow_92f84 wsJ7_copyOf_1904c := goodIn_r _ [20, 21, 22, 23, 24, 25, 26, 19, 27, 28, 29, 30, 31, 5, 32, 33, 34, 35, 36] (by decide +kernel) (by decide +kernel)
set_option maxRecDepth 20000 in
theorem gJx4a65c_grow_92f84_J7_copyOf_1904c : GoodIn wsJx4a65c_grow_92f84 (va_wsS RJx4a65c 66 yJ7_copyOf_1904c wsJ7_copyOf_1904c) := goodIn_app (goodIn_of _ (by decide +kernel)) ggJx4a65c_grow_92f84_J7_copyOf_1904c
theorem dJx4a65c_grow_92f84_0 : decode cJx4a65c_grow_92f84 0 = .ok (.aload_n 0, 1) := by decide +kernel
theorem dJx4a65c_grow_92f84_1 : decode cJx4a65c_grow_92f84 1 = .ok (.getfield 9, 3) := by decide +kernel
theorem dJx4a65c_grow_92f84_4 : decode cJx4a65c_grow_92f84 4 = .ok (.arraylength, 1) := by decide +kernel
theorem dJx4a65c_grow_92f84_5 : decode cJx4a65c_grow_92f84 5 = .ok (.istore_n 2, 1) := by decide +kernel
theorem dJx4a65c_grow_92f84_6 : decode cJx4a65c_grow_92f84 6 = .ok (.iload_n 2, 1) := by decide +kernel
theorem dJx4a65c_grow_92f84_7 : decode cJx4a65c_grow_92f84 7 = .ok (.ifCond .gt 13, 3) := by decide +kernel
theorem dJx4a65c_grow_92f84_10 : decode cJx4a65c_grow_92f84 10 = .ok (.aload_n 0, 1) := by decide +kernel
theorem dJx4a65c_grow_92f84_11 : decode cJx4a65c_grow_92f84 11 = .ok (.getfield 9, 3) := by decide +kernel
theorem dJx4a65c_grow_92f84_14 : decode cJx4a65c_grow_92f84 14 = .ok (.getstatic 39, 3) := by decide +kernel
theorem dJx4a65c_grow_92f84_17 : decode cJx4a65c_grow_92f84 17 = .ok (.if_acmp .eq 28, 3) := by decide +kernel
theorem dJx4a65c_grow_92f84_20 : decode cJx4a65c_grow_92f84 20 = .ok (.iload_n 2, 1) := by decide +kernel
theorem dJx4a65c_grow_92f84_21 : decode cJx4a65c_grow_92f84 21 = .ok (.iload_n 1, 1) := by decide +kernel
theorem dJx4a65c_grow_92f84_22 : decode cJx4a65c_grow_92f84 22 = .ok (.iload_n 2, 1) := by decide +kernel
theorem dJx4a65c_grow_92f84_23 : decode cJx4a65c_grow_92f84 23 = .ok (.isub, 1) := by decide +kernel
theorem dJx4a65c_grow_92f84_24 : decode cJx4a65c_grow_92f84 24 = .ok (.iload_n 2, 1) := by decide +kernel
theorem dJx4a65c_grow_92f84_25 : decode cJx4a65c_grow_92f84 25 = .ok (.iconst 1, 1) := by decide +kernel
theorem dJx4a65c_grow_92f84_26 : decode cJx4a65c_grow_92f84 26 = .ok (.ishr, 1) := by decide +kernel
theorem dJx4a65c_grow_92f84_27 : decode cJx4a65c_grow_92f84 27 = .ok (.invokestatic 73, 3) := by decide +kernel
theorem dJx4a65c_grow_92f84_30 : decode cJx4a65c_grow_92f84 30 = .ok (.istore_n 3, 1) := by decide +kernel
theorem dJx4a65c_grow_92f84_31 : decode cJx4a65c_grow_92f84 31 = .ok (.aload_n 0, 1) := by decide +kernel
theorem dJx4a65c_grow_92f84_32 : decode cJx4a65c_grow_92f84 32 = .ok (.aload_n 0, 1) := by decide +kernel
theorem dJx4a65c_grow_92f84_33 : decode cJx4a65c_grow_92f84 33 = .ok (.getfield 9, 3) := by decide +kernel
theorem dJx4a65c_grow_92f84_36 : decode cJx4a65c_grow_92f84 36 = .ok (.iload_n 3, 1) := by decide +kernel
theorem dJx4a65c_grow_92f84_37 : decode cJx4a65c_grow_92f84 37 = .ok (.invokestatic 66, 3) := by decide +kernel
theorem dJx4a65c_grow_92f84_40 : decode cJx4a65c_grow_92f84 40 = .ok (.dup_x1, 1) := by decide +kernel
theorem dJx4a65c_grow_92f84_41 : decode cJx4a65c_grow_92f84 41 = .ok (.putfield 9, 3) := by decide +kernel
theorem dJx4a65c_grow_92f84_44 : decode cJx4a65c_grow_92f84 44 = .ok (.areturn, 1) := by decide +kernel
theorem dJx4a65c_grow_92f84_45 : decode cJx4a65c_grow_92f84 45 = .ok (.aload_n 0, 1) := by decide +kernel
theorem dJx4a65c_grow_92f84_46 : decode cJx4a65c_grow_92f84 46 = .ok (.bipush 10, 2) := by decide +kernel
theorem dJx4a65c_grow_92f84_48 : decode cJx4a65c_grow_92f84 48 = .ok (.iload_n 1, 1) := by decide +kernel
theorem dJx4a65c_grow_92f84_49 : decode cJx4a65c_grow_92f84 49 = .ok (.invokestatic 79, 3) := by decide +kernel
theorem dJx4a65c_grow_92f84_52 : decode cJx4a65c_grow_92f84 52 = .ok (.anewarray 7, 3) := by decide +kernel
theorem dJx4a65c_grow_92f84_55 : decode cJx4a65c_grow_92f84 55 = .ok (.dup_x1, 1) := by decide +kernel
theorem dJx4a65c_grow_92f84_56 : decode cJx4a65c_grow_92f84 56 = .ok (.putfield 9, 3) := by decide +kernel
theorem dJx4a65c_grow_92f84_59 : decode cJx4a65c_grow_92f84 59 = .ok (.areturn, 1) := by decide +kernel
set_option maxRecDepth 20000 in
theorem ggJx4a65c_grow_d5877_Jx4a65c_grow_92f84 : GoodIn wsJx4a65c_grow_d5877 wsJx4a65c_grow_92f84 := goodIn_r _ [6, 7, 8, 9, 10, 11, 12, 13, 14, 15, 16, 17, 18, 19, 20, 21, 22, 23, 24, 25, 26, 27, 28, 29, 30, 31, 32, 33, 34, 35, 36, 37, 38, 39, 40, 41, 42, 43, 44, 45] (by decide +kernel) (by decide +kernel)
set_option maxRecDepth 20000 in
theorem gJx4a65c_grow_d5877_Jx4a65c_grow_92f84 : GoodIn wsJx4a65c_grow_d5877 (wsV RJx4a65c 69 RJx4a65c yJx4a65c_grow_92f84 wsJx4a65c_grow_92f84) := goodIn_app (goodIn_of _ (by decide +kernel)) ggJx4a65c_grow_d5877_Jx4a65c_grow_92f84
theorem dJx4a65c_grow_d5877_0 : decode cJx4a65c_grow_d5877 0 = .ok (.aload_n 0, 1) := by decide +kernel
theorem dJx4a65c_grow_d5877_1 : decode cJx4a65c_grow_d5877 1 = .ok (.aload_n 0, 1) := by decide +kernel
theorem dJx4a65c_grow_d5877_2 : decode cJx4a65c_grow_d5877 2 = .ok (.getfield 48, 3) := by decide +kernel
theorem dJx4a65c_grow_d5877_5 : decode cJx4a65c_grow_d5877 5 = .ok (.iconst 1, 1) := by decide +kernel
theorem dJx4a65c_grow_d5877_6 : decode cJx4a65c_grow_d5877 6 = .ok (.iadd, 1) := by decide +kernel
theorem dJx4a65c_grow_d5877_7 : decode cJx4a65c_grow_d5877 7 = .ok (.invokevirtual 69, 3) := by decide +kernel
theorem dJx4a65c_grow_d5877_10 : decode cJx4a65c_grow_d5877 10 = .ok (.areturn, 1) := by decide +kernel
theorem dJx4a65c_size_8abf5_0 : decode cJx4a65c_size_8abf5 0 = .ok (.aload_n 0, 1) := by decide +kernel
theorem dJx4a65c_size_8abf5_1 : decode cJx4a65c_size_8abf5 1 = .ok (.getfield 48, 3) := by decide +kernel
theorem dJx4a65c_size_8abf5_4 : decode cJx4a65c_size_8abf5 4 = .ok (.ireturn, 1) := by decide +kernel
theorem dJx4a65c_elementData_915e3_0 : decode cJx4a65c_elementData_915e3 0 = .ok (.aload_n 0, 1) := by decide +kernel
theorem dJx4a65c_elementData_915e3_1 : decode cJx4a65c_elementData_915e3 1 = .ok (.getfield 9, 3) := by decide +kernel
theorem dJx4a65c_elementData_915e3_4 : decode cJx4a65c_elementData_915e3 4 = .ok (.iload_n 1, 1) := by decide +kernel
theorem dJx4a65c_elementData_915e3_5 : decode cJx4a65c_elementData_915e3 5 = .ok (.aaload, 1) := by decide +kernel
theorem dJx4a65c_elementData_915e3_6 : decode cJx4a65c_elementData_915e3 6 = .ok (.areturn, 1) := by decide +kernel
set_option maxRecDepth 20000 in
theorem ggJx4a65c_get_915e3_J15_checkIndex_7cf53 : GoodIn wsJx4a65c_get_915e3 wsJ15_checkIndex_7cf53 := goodIn_r _ [5, 6, 7, 8, 9] (by decide +kernel) (by decide +kernel)
set_option maxRecDepth 20000 in
theorem gJx4a65c_get_915e3_J15_checkIndex_7cf53 : GoodIn wsJx4a65c_get_915e3 (va_wsS RJx4a65c 118 yJ15_checkIndex_7cf53 wsJ15_checkIndex_7cf53) := goodIn_app (goodIn_of _ (by decide +kernel)) ggJx4a65c_get_915e3_J15_checkIndex_7cf53
set_option maxRecDepth 20000 in
theorem ggJx4a65c_get_915e3_Jx4a65c_elementData_915e3 : GoodIn wsJx4a65c_get_915e3 wsJx4a65c_elementData_915e3 := goodIn_r _ [14, 15, 16, 17, 18] (by decide +kernel) (by decide +kernel)
set_option maxRecDepth 20000 in
theorem gJx4a65c_get_915e3_Jx4a65c_elementData_915e3 : GoodIn wsJx4a65c_get_915e3 (wsV RJx4a65c 123 RJx4a65c yJx4a65c_elementData_915e3 wsJx4a65c_elementData_915e3) := goodIn_app (goodIn_of _ (by decide +kernel)) ggJx4a65c_get_915e3_Jx4a65c_elementData_915e3
theorem dJx4a65c_get_915e3_0 : decode cJx4a65c_get_915e3 0 = .ok (.iload_n 1, 1) := by decide +kernel
theorem dJx4a65c_get_915e3_1 : decode cJx4a65c_get_915e3 1 = .ok (.aload_n 0, 1) := by decide +kernel
theorem dJx4a65c_get_915e3_2 : decode cJx4a65c_get_915e3 2 = .ok (.getfield 48, 3) := by decide +kernel
theorem dJx4a65c_get_915e3_5 : decode cJx4a65c_get_915e3 5 = .ok (.invokestatic 118, 3) := by decide +kernel
theorem dJx4a65c_get_915e3_8 : decode cJx4a65c_get_915e3 8 = .ok (.pop, 1) := by decide +kernel
theorem dJx4a65c_get_915e3_9 : decode cJx4a65c_get_915e3 9 = .ok (.aload_n 0, 1) := by decide +kernel
theorem dJx4a65c_get_915e3_10 : decode cJx4a65c_get_915e3 10 = .ok (.iload_n 1, 1) := by decide +kernel
theorem dJx4a65c_get_915e3_11 : decode cJx4a65c_get_915e3 11 = .ok (.invokevirtual 123, 3) := by decide +kernel
theorem dJx4a65c_get_915e3_14 : decode cJx4a65c_get_915e3 14 = .ok (.areturn, 1) := by decide +kernel
set_option maxRecDepth 20000 in
theorem ggJx4a65c_add_72be8_Jx4a65c_grow_d5877 : GoodIn wsJx4a65c_add_72be8 wsJx4a65c_grow_d5877 := goodIn_r _ [6, 1, 7, 8, 9, 5, 10, 11, 12, 13, 14, 15, 16, 17, 18, 19, 20, 21, 22, 23, 24, 25, 26, 27, 28, 29, 30, 31, 32, 33, 34, 35, 36, 37, 38, 39, 40, 41, 42, 43, 44, 45, 46, 47, 48, 49] (by decide +kernel) (by decide +kernel)
set_option maxRecDepth 20000 in
theorem gJx4a65c_add_72be8_Jx4a65c_grow_d5877 : GoodIn wsJx4a65c_add_72be8 (wsV RJx4a65c 129 RJx4a65c yJx4a65c_grow_d5877 wsJx4a65c_grow_d5877) := goodIn_app (goodIn_of _ (by decide +kernel)) ggJx4a65c_add_72be8_Jx4a65c_grow_d5877
theorem dJx4a65c_add_72be8_0 : decode cJx4a65c_add_72be8 0 = .ok (.iload_n 3, 1) := by decide +kernel
theorem dJx4a65c_add_72be8_1 : decode cJx4a65c_add_72be8 1 = .ok (.aload_n 2, 1) := by decide +kernel
theorem dJx4a65c_add_72be8_2 : decode cJx4a65c_add_72be8 2 = .ok (.arraylength, 1) := by decide +kernel
theorem dJx4a65c_add_72be8_3 : decode cJx4a65c_add_72be8 3 = .ok (.if_icmp .ne 8, 3) := by decide +kernel
theorem dJx4a65c_add_72be8_6 : decode cJx4a65c_add_72be8 6 = .ok (.aload_n 0, 1) := by decide +kernel
theorem dJx4a65c_add_72be8_7 : decode cJx4a65c_add_72be8 7 = .ok (.invokevirtual 129, 3) := by decide +kernel
theorem dJx4a65c_add_72be8_10 : decode cJx4a65c_add_72be8 10 = .ok (.astore_n 2, 1) := by decide +kernel
theorem dJx4a65c_add_72be8_11 : decode cJx4a65c_add_72be8 11 = .ok (.aload_n 2, 1) := by decide +kernel
theorem dJx4a65c_add_72be8_12 : decode cJx4a65c_add_72be8 12 = .ok (.iload_n 3, 1) := by decide +kernel
theorem dJx4a65c_add_72be8_13 : decode cJx4a65c_add_72be8 13 = .ok (.aload_n 1, 1) := by decide +kernel
theorem dJx4a65c_add_72be8_14 : decode cJx4a65c_add_72be8 14 = .ok (.aastore, 1) := by decide +kernel
theorem dJx4a65c_add_72be8_15 : decode cJx4a65c_add_72be8 15 = .ok (.aload_n 0, 1) := by decide +kernel
theorem dJx4a65c_add_72be8_16 : decode cJx4a65c_add_72be8 16 = .ok (.iload_n 3, 1) := by decide +kernel
theorem dJx4a65c_add_72be8_17 : decode cJx4a65c_add_72be8 17 = .ok (.iconst 1, 1) := by decide +kernel
theorem dJx4a65c_add_72be8_18 : decode cJx4a65c_add_72be8 18 = .ok (.iadd, 1) := by decide +kernel
theorem dJx4a65c_add_72be8_19 : decode cJx4a65c_add_72be8 19 = .ok (.putfield 48, 3) := by decide +kernel
theorem dJx4a65c_add_72be8_22 : decode cJx4a65c_add_72be8 22 = .ok (.return_, 1) := by decide +kernel
set_option maxRecDepth 20000 in
theorem ggJx4a65c_add_9ea2d_Jx4a65c_add_72be8 : GoodIn wsJx4a65c_add_9ea2d wsJx4a65c_add_72be8 := goodIn_r _ [9, 4, 10, 11, 12, 8, 13, 14, 15, 16, 17, 3, 18, 19, 20, 21, 22, 23, 24, 25, 26, 27, 28, 29, 30, 31, 32, 33, 34, 35, 36, 37, 38, 39, 40, 41, 42, 43, 44, 45, 46, 47, 48, 49, 50, 51, 52, 53, 54, 55] (by decide +kernel) (by decide +kernel)
set_option maxRecDepth 20000 in
theorem gJx4a65c_add_9ea2d_Jx4a65c_add_72be8 : GoodIn wsJx4a65c_add_9ea2d (wsV RJx4a65c 131 RJx4a65c yJx4a65c_add_72be8 wsJx4a65c_add_72be8) := goodIn_app (goodIn_of _ (by decide +kernel)) ggJx4a65c_add_9ea2d_Jx4a65c_add_72be8
theorem dJx4a65c_add_9ea2d_0 : decode cJx4a65c_add_9ea2d 0 = .ok (.aload_n 0, 1) := by decide +kernel
theorem dJx4a65c_add_9ea2d_1 : decode cJx4a65c_add_9ea2d 1 = .ok (.dup, 1) := by decide +kernel
theorem dJx4a65c_add_9ea2d_2 : decode cJx4a65c_add_9ea2d 2 = .ok (.getfield 63, 3) := by decide +kernel
theorem dJx4a65c_add_9ea2d_5 : decode cJx4a65c_add_9ea2d 5 = .ok (.iconst 1, 1) := by decide +kernel
theorem dJx4a65c_add_9ea2d_6 : decode cJx4a65c_add_9ea2d 6 = .ok (.iadd, 1) := by decide +kernel
theorem dJx4a65c_add_9ea2d_7 : decode cJx4a65c_add_9ea2d 7 = .ok (.putfield 63, 3) := by decide +kernel
theorem dJx4a65c_add_9ea2d_10 : decode cJx4a65c_add_9ea2d 10 = .ok (.aload_n 0, 1) := by decide +kernel
theorem dJx4a65c_add_9ea2d_11 : decode cJx4a65c_add_9ea2d 11 = .ok (.aload_n 1, 1) := by decide +kernel
theorem dJx4a65c_add_9ea2d_12 : decode cJx4a65c_add_9ea2d 12 = .ok (.aload_n 0, 1) := by decide +kernel
theorem dJx4a65c_add_9ea2d_13 : decode cJx4a65c_add_9ea2d 13 = .ok (.getfield 9, 3) := by decide +kernel
theorem dJx4a65c_add_9ea2d_16 : decode cJx4a65c_add_9ea2d 16 = .ok (.aload_n 0, 1) := by decide +kernel
theorem dJx4a65c_add_9ea2d_17 : decode cJx4a65c_add_9ea2d 17 = .ok (.getfield 48, 3) := by decide +kernel
theorem dJx4a65c_add_9ea2d_20 : decode cJx4a65c_add_9ea2d 20 = .ok (.invokevirtual 131, 3) := by decide +kernel
theorem dJx4a65c_add_9ea2d_23 : decode cJx4a65c_add_9ea2d 23 = .ok (.iconst 1, 1) := by decide +kernel
theorem dJx4a65c_add_9ea2d_24 : decode cJx4a65c_add_9ea2d 24 = .ok (.ireturn, 1) := by decide +kernel
theorem dJ7_fill_53178_0 : decode cJ7_fill_53178 0 = .ok (.iconst 0, 1) := by decide +kernel
theorem dJ7_fill_53178_1 : decode cJ7_fill_53178 1 = .ok (.istore_n 2, 1) := by decide +kernel
theorem dJ7_fill_53178_2 : decode cJ7_fill_53178 2 = .ok (.aload_n 0, 1) := by decide +kernel
theorem dJ7_fill_53178_3 : decode cJ7_fill_53178 3 = .ok (.arraylength, 1) := by decide +kernel
theorem dJ7_fill_53178_4 : decode cJ7_fill_53178 4 = .ok (.istore_n 3, 1) := by decide +kernel
theorem dJ7_fill_53178_5 : decode cJ7_fill_53178 5 = .ok (.iload_n 2, 1) := by decide +kernel
theorem dJ7_fill_53178_6 : decode cJ7_fill_53178 6 = .ok (.iload_n 3, 1) := by decide +kernel
theorem dJ7_fill_53178_7 : decode cJ7_fill_53178 7 = .ok (.if_icmp .ge 13, 3) := by decide +kernel
theorem dJ7_fill_53178_10 : decode cJ7_fill_53178 10 = .ok (.aload_n 0, 1) := by decide +kernel
theorem dJ7_fill_53178_11 : decode cJ7_fill_53178 11 = .ok (.iload_n 2, 1) := by decide +kernel
theorem dJ7_fill_53178_12 : decode cJ7_fill_53178 12 = .ok (.iload_n 1, 1) := by decide +kernel
theorem dJ7_fill_53178_13 : decode cJ7_fill_53178 13 = .ok (.iastore, 1) := by decide +kernel
theorem dJ7_fill_53178_14 : decode cJ7_fill_53178 14 = .ok (.iinc 2 1, 3) := by decide +kernel
theorem dJ7_fill_53178_17 : decode cJ7_fill_53178 17 = .ok (.goto (-12), 3) := by decide +kernel
theorem dJ7_fill_53178_20 : decode cJ7_fill_53178 20 = .ok (.return_, 1) := by decide +kernel
set_option maxRecDepth 20000 in
theorem ggJ7_copyOf_1904c_J7_copyOf_6403c : GoodIn wsJ7_copyOf_1904c wsJ7_copyOf_6403c := goodIn_r _ [8, 9, 10, 11, 12, 13, 14, 15, 16, 17, 18] (by decide +kernel) (by decide +kernel)
set_option maxRecDepth 20000 in
theorem gJ7_copyOf_1904c_J7_copyOf_6403c : GoodIn wsJ7_copyOf_1904c (va_wsS RJ7 300 yJ7_copyOf_6403c wsJ7_copyOf_6403c) := goodIn_app (goodIn_of _ (by decide +kernel)) ggJ7_copyOf_1904c_J7_copyOf_6403c
theorem dJ7_copyOf_1904c_0 : decode cJ7_copyOf_1904c 0 = .ok (.aload_n 0, 1) := by decide +kernel
theorem dJ7_copyOf_1904c_1 : decode cJ7_copyOf_1904c 1 = .ok (.iload_n 1, 1) := by decide +kernel
theorem dJ7_copyOf_1904c_2 : decode cJ7_copyOf_1904c 2 = .ok (.aload_n 0, 1) := by decide +kernel
theorem dJ7_copyOf_1904c_3 : decode cJ7_copyOf_1904c 3 = .ok (.invokevirtual 86, 3) := by decide +kernel
theorem dJ7_copyOf_1904c_6 : decode cJ7_copyOf_1904c 6 = .ok (.invokestatic 300, 3) := by decide +kernel
theorem dJ7_copyOf_1904c_9 : decode cJ7_copyOf_1904c 9 = .ok (.areturn, 1) := by decide +kernel
theorem dJ7_copyOf_6403c_0 : decode cJ7_copyOf_6403c 0 = .ok (.aload_n 2, 1) := by decide +kernel
theorem dJ7_copyOf_6403c_1 : decode cJ7_copyOf_6403c 1 = .ok (.ldc 110, 2) := by decide +kernel
theorem dJ7_copyOf_6403c_3 : decode cJ7_copyOf_6403c 3 = .ok (.if_acmp .ne 10, 3) := by decide +kernel
theorem dJ7_copyOf_6403c_6 : decode cJ7_copyOf_6403c 6 = .ok (.iload_n 1, 1) := by decide +kernel
theorem dJ7_copyOf_6403c_7 : decode cJ7_copyOf_6403c 7 = .ok (.anewarray 2, 3) := by decide +kernel
theorem dJ7_copyOf_6403c_10 : decode cJ7_copyOf_6403c 10 = .ok (.goto 14, 3) := by decide +kernel
theorem dJ7_copyOf_6403c_13 : decode cJ7_copyOf_6403c 13 = .ok (.aload_n 2, 1) := by decide +kernel
theorem dJ7_copyOf_6403c_14 : decode cJ7_copyOf_6403c 14 = .ok (.invokevirtual 90, 3) := by decide +kernel
theorem dJ7_copyOf_6403c_17 : decode cJ7_copyOf_6403c 17 = .ok (.iload_n 1, 1) := by decide +kernel
theorem dJ7_copyOf_6403c_18 : decode cJ7_copyOf_6403c 18 = .ok (.invokestatic 95, 3) := by decide +kernel
theorem dJ7_copyOf_6403c_21 : decode cJ7_copyOf_6403c 21 = .ok (.checkcast 110, 3) := by decide +kernel
theorem dJ7_copyOf_6403c_24 : decode cJ7_copyOf_6403c 24 = .ok (.astore_n 3, 1) := by decide +kernel
theorem dJ7_copyOf_6403c_25 : decode cJ7_copyOf_6403c 25 = .ok (.aload_n 0, 1) := by decide +kernel
theorem dJ7_copyOf_6403c_26 : decode cJ7_copyOf_6403c 26 = .ok (.iconst 0, 1) := by decide +kernel
theorem dJ7_copyOf_6403c_27 : decode cJ7_copyOf_6403c 27 = .ok (.aload_n 3, 1) := by decide +kernel
theorem dJ7_copyOf_6403c_28 : decode cJ7_copyOf_6403c 28 = .ok (.iconst 0, 1) := by decide +kernel
theorem dJ7_copyOf_6403c_29 : decode cJ7_copyOf_6403c 29 = .ok (.aload_n 0, 1) := by decide +kernel
theorem dJ7_copyOf_6403c_30 : decode cJ7_copyOf_6403c 30 = .ok (.arraylength, 1) := by decide +kernel
theorem dJ7_copyOf_6403c_31 : decode cJ7_copyOf_6403c 31 = .ok (.iload_n 1, 1) := by decide +kernel
theorem dJ7_copyOf_6403c_32 : decode cJ7_copyOf_6403c 32 = .ok (.invokestatic 304, 3) := by decide +kernel
theorem dJ7_copyOf_6403c_35 : decode cJ7_copyOf_6403c 35 = .ok (.invokestatic 150, 3) := by decide +kernel
theorem dJ7_copyOf_6403c_38 : decode cJ7_copyOf_6403c 38 = .ok (.aload_n 3, 1) := by decide +kernel
theorem dJ7_copyOf_6403c_39 : decode cJ7_copyOf_6403c 39 = .ok (.areturn, 1) := by decide +kernel
set_option maxRecDepth 20000 in
theorem ggJ15_checkIndex_7cf53_J3_checkIndex_8e157 : GoodIn wsJ15_checkIndex_7cf53 wsJ3_checkIndex_8e157 := goodIn_r _ [4] (by decide +kernel) (by decide +kernel)
set_option maxRecDepth 20000 in
theorem gJ15_checkIndex_7cf53_J3_checkIndex_8e157 : GoodIn wsJ15_checkIndex_7cf53 (va_wsS RJ15 105 yJ3_checkIndex_8e157 wsJ3_checkIndex_8e157) := goodIn_app (goodIn_of _ (by decide +kernel)) ggJ15_checkIndex_7cf53_J3_checkIndex_8e157
theorem dJ15_checkIndex_7cf53_0 : decode cJ15_checkIndex_7cf53 0 = .ok (.iload_n 0, 1) := by decide +kernel
theorem dJ15_checkIndex_7cf53_1 : decode cJ15_checkIndex_7cf53 1 = .ok (.iload_n 1, 1) := by decide +kernel
theorem dJ15_checkIndex_7cf53_2 : decode cJ15_checkIndex_7cf53 2 = .ok (.aconst_null, 1) := by decide +kernel
theorem dJ15_checkIndex_7cf53_3 : decode cJ15_checkIndex_7cf53 3 = .ok (.invokestatic 105, 3) := by decide +kernel
theorem dJ15_checkIndex_7cf53_6 : decode cJ15_checkIndex_7cf53 6 = .ok (.ireturn, 1) := by decide +kernel
set_option maxRecDepth 20000 in
theorem ggJ8_newLength_cabcc_J8_hugeLength_7cf53 : GoodIn wsJ8_newLength_cabcc wsJ8_hugeLength_7cf53 := goodIn_r _ [9, 5] (by decide +kernel) (by decide +kernel)
set_option maxRecDepth 20000 in
theorem gJ8_newLength_cabcc_J8_hugeLength_7cf53 : GoodIn wsJ8_newLength_cabcc (va_wsS RJ8 201 yJ8_hugeLength_7cf53 wsJ8_hugeLength_7cf53) := goodIn_app (goodIn_of _ (by decide +kernel)) ggJ8_newLength_cabcc_J8_hugeLength_7cf53
theorem dJ8_newLength_cabcc_0 : decode cJ8_newLength_cabcc 0 = .ok (.iload_n 0, 1) := by decide +kernel
theorem dJ8_newLength_cabcc_1 : decode cJ8_newLength_cabcc 1 = .ok (.iload_n 1, 1) := by decide +kernel
theorem dJ8_newLength_cabcc_2 : decode cJ8_newLength_cabcc 2 = .ok (.iload_n 2, 1) := by decide +kernel
theorem dJ8_newLength_cabcc_3 : decode cJ8_newLength_cabcc 3 = .ok (.invokestatic 194, 3) := by decide +kernel
theorem dJ8_newLength_cabcc_6 : decode cJ8_newLength_cabcc 6 = .ok (.iadd, 1) := by decide +kernel
theorem dJ8_newLength_cabcc_7 : decode cJ8_newLength_cabcc 7 = .ok (.istore_n 3, 1) := by decide +kernel
theorem dJ8_newLength_cabcc_8 : decode cJ8_newLength_cabcc 8 = .ok (.iconst 0, 1) := by decide +kernel
theorem dJ8_newLength_cabcc_9 : decode cJ8_newLength_cabcc 9 = .ok (.iload_n 3, 1) := by decide +kernel
theorem dJ8_newLength_cabcc_10 : decode cJ8_newLength_cabcc 10 = .ok (.if_icmp .ge 11, 3) := by decide +kernel
theorem dJ8_newLength_cabcc_13 : decode cJ8_newLength_cabcc 13 = .ok (.iload_n 3, 1) := by decide +kernel
theorem dJ8_newLength_cabcc_14 : decode cJ8_newLength_cabcc 14 = .ok (.ldc 200, 2) := by decide +kernel
theorem dJ8_newLength_cabcc_16 : decode cJ8_newLength_cabcc 16 = .ok (.if_icmp .gt 5, 3) := by decide +kernel
theorem dJ8_newLength_cabcc_19 : decode cJ8_newLength_cabcc 19 = .ok (.iload_n 3, 1) := by decide +kernel
theorem dJ8_newLength_cabcc_20 : decode cJ8_newLength_cabcc 20 = .ok (.ireturn, 1) := by decide +kernel
theorem dJ8_newLength_cabcc_21 : decode cJ8_newLength_cabcc 21 = .ok (.iload_n 0, 1) := by decide +kernel
theorem dJ8_newLength_cabcc_22 : decode cJ8_newLength_cabcc 22 = .ok (.iload_n 1, 1) := by decide +kernel
theorem dJ8_newLength_cabcc_23 : decode cJ8_newLength_cabcc 23 = .ok (.invokestatic 201, 3) := by decide +kernel
theorem dJ8_newLength_cabcc_26 : decode cJ8_newLength_cabcc 26 = .ok (.ireturn, 1) := by decide +kernel
theorem dJ8_hugeLength_7cf53_0 : decode cJ8_hugeLength_7cf53 0 = .ok (.iload_n 0, 1) := by decide +kernel
theorem dJ8_hugeLength_7cf53_1 : decode cJ8_hugeLength_7cf53 1 = .ok (.iload_n 1, 1) := by decide +kernel
theorem dJ8_hugeLength_7cf53_2 : decode cJ8_hugeLength_7cf53 2 = .ok (.iadd, 1) := by decide +kernel
theorem dJ8_hugeLength_7cf53_3 : decode cJ8_hugeLength_7cf53 3 = .ok (.istore_n 2, 1) := by decide +kernel
theorem dJ8_hugeLength_7cf53_4 : decode cJ8_hugeLength_7cf53 4 = .ok (.iload_n 2, 1) := by decide +kernel
theorem dJ8_hugeLength_7cf53_5 : decode cJ8_hugeLength_7cf53 5 = .ok (.ifCond .ge 44, 3) := by decide +kernel
theorem dJ8_hugeLength_7cf53_8 : decode cJ8_hugeLength_7cf53 8 = .ok (.new 204, 3) := by decide +kernel
theorem dJ8_hugeLength_7cf53_11 : decode cJ8_hugeLength_7cf53 11 = .ok (.dup, 1) := by decide +kernel
theorem dJ8_hugeLength_7cf53_12 : decode cJ8_hugeLength_7cf53 12 = .ok (.new 89, 3) := by decide +kernel
theorem dJ8_hugeLength_7cf53_15 : decode cJ8_hugeLength_7cf53 15 = .ok (.dup, 1) := by decide +kernel
theorem dJ8_hugeLength_7cf53_16 : decode cJ8_hugeLength_7cf53 16 = .ok (.invokespecial 91, 3) := by decide +kernel
theorem dJ8_hugeLength_7cf53_19 : decode cJ8_hugeLength_7cf53 19 = .ok (.ldc 206, 2) := by decide +kernel
theorem dJ8_hugeLength_7cf53_21 : decode cJ8_hugeLength_7cf53 21 = .ok (.invokevirtual 94, 3) := by decide +kernel
theorem dJ8_hugeLength_7cf53_24 : decode cJ8_hugeLength_7cf53 24 = .ok (.iload_n 0, 1) := by decide +kernel
theorem dJ8_hugeLength_7cf53_25 : decode cJ8_hugeLength_7cf53 25 = .ok (.invokevirtual 98, 3) := by decide +kernel
theorem dJ8_hugeLength_7cf53_28 : decode cJ8_hugeLength_7cf53 28 = .ok (.ldc 208, 2) := by decide +kernel
theorem dJ8_hugeLength_7cf53_30 : decode cJ8_hugeLength_7cf53 30 = .ok (.invokevirtual 94, 3) := by decide +kernel
theorem dJ8_hugeLength_7cf53_33 : decode cJ8_hugeLength_7cf53 33 = .ok (.iload_n 1, 1) := by decide +kernel
theorem dJ8_hugeLength_7cf53_34 : decode cJ8_hugeLength_7cf53 34 = .ok (.invokevirtual 98, 3) := by decide +kernel
theorem dJ8_hugeLength_7cf53_37 : decode cJ8_hugeLength_7cf53 37 = .ok (.ldc 210, 2) := by decide +kernel
theorem dJ8_hugeLength_7cf53_39 : decode cJ8_hugeLength_7cf53 39 = .ok (.invokevirtual 94, 3) := by decide +kernel
theorem dJ8_hugeLength_7cf53_42 : decode cJ8_hugeLength_7cf53 42 = .ok (.invokevirtual 101, 3) := by decide +kernel
theorem dJ8_hugeLength_7cf53_45 : decode cJ8_hugeLength_7cf53 45 = .ok (.invokespecial 212, 3) := by decide +kernel
theorem dJ8_hugeLength_7cf53_48 : decode cJ8_hugeLength_7cf53 48 = .ok (.athrow, 1) := by decide +kernel
theorem dJ8_hugeLength_7cf53_49 : decode cJ8_hugeLength_7cf53 49 = .ok (.iload_n 2, 1) := by decide +kernel
theorem dJ8_hugeLength_7cf53_50 : decode cJ8_hugeLength_7cf53 50 = .ok (.ldc 200, 2) := by decide +kernel
theorem dJ8_hugeLength_7cf53_52 : decode cJ8_hugeLength_7cf53 52 = .ok (.if_icmp .gt 6, 3) := by decide +kernel
theorem dJ8_hugeLength_7cf53_55 : decode cJ8_hugeLength_7cf53 55 = .ok (.ldc 200, 2) := by decide +kernel
theorem dJ8_hugeLength_7cf53_57 : decode cJ8_hugeLength_7cf53 57 = .ok (.ireturn, 1) := by decide +kernel
theorem dJ8_hugeLength_7cf53_58 : decode cJ8_hugeLength_7cf53 58 = .ok (.iload_n 2, 1) := by decide +kernel
theorem dJ8_hugeLength_7cf53_59 : decode cJ8_hugeLength_7cf53 59 = .ok (.ireturn, 1) := by decide +kernel
theorem dJ3_checkIndex_8e157_0 : decode cJ3_checkIndex_8e157 0 = .ok (.iload_n 0, 1) := by decide +kernel
theorem dJ3_checkIndex_8e157_1 : decode cJ3_checkIndex_8e157 1 = .ok (.ifCond .lt 8, 3) := by decide +kernel
theorem dJ3_checkIndex_8e157_4 : decode cJ3_checkIndex_8e157 4 = .ok (.iload_n 0, 1) := by decide +kernel
theorem dJ3_checkIndex_8e157_5 : decode cJ3_checkIndex_8e157 5 = .ok (.iload_n 1, 1) := by decide +kernel
theorem dJ3_checkIndex_8e157_6 : decode cJ3_checkIndex_8e157 6 = .ok (.if_icmp .lt 10, 3) := by decide +kernel
theorem dJ3_checkIndex_8e157_9 : decode cJ3_checkIndex_8e157 9 = .ok (.aload_n 2, 1) := by decide +kernel
theorem dJ3_checkIndex_8e157_10 : decode cJ3_checkIndex_8e157 10 = .ok (.iload_n 0, 1) := by decide +kernel
theorem dJ3_checkIndex_8e157_11 : decode cJ3_checkIndex_8e157 11 = .ok (.iload_n 1, 1) := by decide +kernel
theorem dJ3_checkIndex_8e157_12 : decode cJ3_checkIndex_8e157 12 = .ok (.invokestatic 95, 3) := by decide +kernel
theorem dJ3_checkIndex_8e157_15 : decode cJ3_checkIndex_8e157 15 = .ok (.athrow, 1) := by decide +kernel
theorem dJ3_checkIndex_8e157_16 : decode cJ3_checkIndex_8e157 16 = .ok (.iload_n 0, 1) := by decide +kernel
theorem dJ3_checkIndex_8e157_17 : decode cJ3_checkIndex_8e157 17 = .ok (.ireturn, 1) := by decide +kernel
set_option maxRecDepth 20000 in
theorem ggL_setBase_X3_setBase : GoodIn wsL_setBase wsX3_setBase := goodIn_ca (goodIn_r _ [6, 7, 8, 9, 10, 11, 5, 12, 13, 14, 15, 16, 17] (by decide +kernel) (by decide +kernel)) (goodIn_sub (fun _ h => List.mem_cons_of_mem _ (List.mem_append_right _ h)) (by decide +kernel))
set_option maxRecDepth 20000 in
theorem gL_setBase_X3_setBase : GoodIn wsL_setBase (wsV RL 7 RX3 yX3_setBase wsX3_setBase) := goodIn_app (goodIn_of _ (by decide +kernel)) ggL_setBase_X3_setBase
end
section
theorem dL_setBase_0 : decode cL_setBase 0 = .ok (.aload_n 3, 1) := by decide +kernel
theorem dL_setBase_1 : decode cL_setBase 1 = .ok (.iconst 0, 1) := by decide +kernel
theorem dL_setBase_2 : decode cL_setBase 2 = .ok (.aload_n 0, 1) := by decide +kernel
theorem dL_setBase_3 : decode cL_setBase 3 = .ok (.iload_n 1, 1) := by decide +kernel
theorem dL_setBase_4 : decode cL_setBase 4 = .ok (.iload_n 2, 1) := by decide +kernel
theorem dL_setBase_5 : decode cL_setBase 5 = .ok (.invokevirtual 7, 3) := by decide +kernel
theorem dL_setBase_8 : decode cL_setBase 8 = .ok (.i2l, 1) := by decide +kernel
theorem dL_setBase_9 : decode cL_setBase 9 = .ok (.lastore, 1) := by decide +kernel
theorem dL_setBase_10 : decode cL_setBase 10 = .ok (.goto 7, 3) := by decide +kernel
theorem dL_setBase_13 : decode cL_setBase 13 = .ok (.astore 4, 2) := by decide +kernel
theorem dL_setBase_15 : decode cL_setBase 15 = .ok (.iconst 1, 1) := by decide +kernel
theorem dL_setBase_16 : decode cL_setBase 16 = .ok (.ireturn, 1) := by decide +kernel
theorem dL_setBase_17 : decode cL_setBase 17 = .ok (.iconst 0, 1) := by decide +kernel
theorem dL_setBase_18 : decode cL_setBase 18 = .ok (.ireturn, 1) := by decide +kernel
set_option maxRecDepth 20000 in
theorem ggL_addRule_X3_addRule : GoodIn wsL_addRule wsX3_addRule := goodIn_ca (goodIn_ca (goodIn_r _ [7, 8, 9, 10, 11, 12, 13, 14, 15, 6, 16, 17, 18, 19, 20, 21, 22, 23, 24, 25, 26, 27, 28, 29, 30, 31, 32, 33, 34, 35, 36, 37, 38, 39, 40, 41, 42, 43, 44, 45, 46, 47, 48, 49, 50, 51, 52, 53, 54, 55, 56, 57, 58, 59, 60, 61, 62, 63, 64, 65, 66, 67, 68, 69, 70, 71, 72, 73, 74, 75, 76, 77, 78, 79, 80, 81, 82, 83, 84, 85, 86, 87, 88, 89, 90, 91, 92, 93, 94, 95, 96, 97, 98, 99, 100, 101, 102, 103, 104, 105, 106] (by decide +kernel) (by decide +kernel)) (goodIn_sub (fun _ h => List.mem_cons_of_mem _ (List.mem_append_left _ (List.mem_append_right _ h))) (by decide +kernel))) (goodIn_sub (fun _ h => List.mem_cons_of_mem _ (List.mem_append_right _ h)) (by decide +kernel))
set_option maxRecDepth 20000 in
theorem gL_addRule_X3_addRule : GoodIn wsL_addRule (wsV RL 15 RX3 yX3_addRule wsX3_addRule) := goodIn_app (goodIn_of _ (by decide +kernel)) ggL_addRule_X3_addRule
theorem dL_addRule_0 : decode cL_addRule 0 = .ok (.aload 6, 2) := by decide +kernel
theorem dL_addRule_2 : decode cL_addRule 2 = .ok (.iconst 0, 1) := by decide +kernel
theorem dL_addRule_3 : decode cL_addRule 3 = .ok (.aload_n 0, 1) := by decide +kernel
theorem dL_addRule_4 : decode cL_addRule 4 = .ok (.iload_n 1, 1) := by decide +kernel
theorem dL_addRule_5 : decode cL_addRule 5 = .ok (.iload_n 2, 1) := by decide +kernel
theorem dL_addRule_6 : decode cL_addRule 6 = .ok (.iload_n 3, 1) := by decide +kernel
theorem dL_addRule_7 : decode cL_addRule 7 = .ok (.iload 4, 2) := by decide +kernel
theorem dL_addRule_9 : decode cL_addRule 9 = .ok (.iload 5, 2) := by decide +kernel
theorem dL_addRule_11 : decode cL_addRule 11 = .ok (.invokevirtual 15, 3) := by decide +kernel
theorem dL_addRule_14 : decode cL_addRule 14 = .ok (.i2l, 1) := by decide +kernel
theorem dL_addRule_15 : decode cL_addRule 15 = .ok (.lastore, 1) := by decide +kernel
theorem dL_addRule_16 : decode cL_addRule 16 = .ok (.goto 11, 3) := by decide +kernel
theorem dL_addRule_19 : decode cL_addRule 19 = .ok (.astore 7, 2) := by decide +kernel
theorem dL_addRule_21 : decode cL_addRule 21 = .ok (.iconst 1, 1) := by decide +kernel
theorem dL_addRule_22 : decode cL_addRule 22 = .ok (.ireturn, 1) := by decide +kernel
theorem dL_addRule_23 : decode cL_addRule 23 = .ok (.astore 7, 2) := by decide +kernel
theorem dL_addRule_25 : decode cL_addRule 25 = .ok (.iconst 2, 1) := by decide +kernel
theorem dL_addRule_26 : decode cL_addRule 26 = .ok (.ireturn, 1) := by decide +kernel
theorem dL_addRule_27 : decode cL_addRule 27 = .ok (.iconst 0, 1) := by decide +kernel
theorem dL_addRule_28 : decode cL_addRule 28 = .ok (.ireturn, 1) := by decide +kernel
set_option maxRecDepth 20000 in
theorem ggL_setRule_X3_setRule : GoodIn wsL_setRule wsX3_setRule := goodIn_ca (goodIn_r _ [6, 7, 8, 9, 10, 5, 11, 12, 13, 14, 15, 16, 17, 18, 19, 20, 21, 22, 23, 24, 25, 26, 27, 28, 29, 30, 31, 32, 33, 34, 35, 36, 37, 38, 39, 40, 41, 42, 43, 44, 45, 46, 47, 48, 49, 50, 51, 52, 53] (by decide +kernel) (by decide +kernel)) (goodIn_sub (fun _ h => List.mem_cons_of_mem _ (List.mem_append_right _ h)) (by decide +kernel))
set_option maxRecDepth 20000 in
theorem gL_setRule_X3_setRule : GoodIn wsL_setRule (wsV RL 21 RX3 yX3_setRule wsX3_setRule) := goodIn_app (goodIn_of _ (by decide +kernel)) ggL_setRule_X3_setRule
theorem dL_setRule_0 : decode cL_setRule 0 = .ok (.aload_n 3, 1) := by decide +kernel
theorem dL_setRule_1 : decode cL_setRule 1 = .ok (.iconst 0, 1) := by decide +kernel
theorem dL_setRule_2 : decode cL_setRule 2 = .ok (.aload_n 0, 1) := by decide +kernel
theorem dL_setRule_3 : decode cL_setRule 3 = .ok (.iload_n 1, 1) := by decide +kernel
theorem dL_setRule_4 : decode cL_setRule 4 = .ok (.iload_n 2, 1) := by decide +kernel
theorem dL_setRule_5 : decode cL_setRule 5 = .ok (.invokevirtual 21, 3) := by decide +kernel
theorem dL_setRule_8 : decode cL_setRule 8 = .ok (.ifCond .eq 7, 3) := by decide +kernel
theorem dL_setRule_11 : decode cL_setRule 11 = .ok (.lconst 1, 1) := by decide +kernel
theorem dL_setRule_12 : decode cL_setRule 12 = .ok (.goto 4, 3) := by decide +kernel
theorem dL_setRule_15 : decode cL_setRule 15 = .ok (.lconst 0, 1) := by decide +kernel
theorem dL_setRule_16 : decode cL_setRule 16 = .ok (.lastore, 1) := by decide +kernel
theorem dL_setRule_17 : decode cL_setRule 17 = .ok (.goto 7, 3) := by decide +kernel
theorem dL_setRule_20 : decode cL_setRule 20 = .ok (.astore 4, 2) := by decide +kernel
theorem dL_setRule_22 : decode cL_setRule 22 = .ok (.iconst 1, 1) := by decide +kernel
theorem dL_setRule_23 : decode cL_setRule 23 = .ok (.ireturn, 1) := by decide +kernel
theorem dL_setRule_24 : decode cL_setRule 24 = .ok (.iconst 0, 1) := by decide +kernel
theorem dL_setRule_25 : decode cL_setRule 25 = .ok (.ireturn, 1) := by decide +kernel
set_option maxRecDepth 20000 in
theorem ggL_setHoliday_X3_setHoliday : GoodIn wsL_setHoliday wsX3_setHoliday := goodIn_ca (goodIn_r _ [6, 7, 8, 9, 10, 11, 12, 13, 14] (by decide +kernel) (by decide +kernel)) (goodIn_sub (fun _ h => List.mem_cons_of_mem _ (List.mem_append_right _ h)) (by decide +kernel))
set_option maxRecDepth 20000 in
theorem gL_setHoliday_X3_setHoliday : GoodIn wsL_setHoliday (wsV RL 27 RX3 yX3_setHoliday wsX3_setHoliday) := goodIn_app (goodIn_of _ (by decide +kernel)) ggL_setHoliday_X3_setHoliday
theorem dL_setHoliday_0 : decode cL_setHoliday 0 = .ok (.aload_n 3, 1) := by decide +kernel
theorem dL_setHoliday_1 : decode cL_setHoliday 1 = .ok (.iconst 0, 1) := by decide +kernel
theorem dL_setHoliday_2 : decode cL_setHoliday 2 = .ok (.aload_n 0, 1) := by decide +kernel
theorem dL_setHoliday_3 : decode cL_setHoliday 3 = .ok (.iload_n 1, 1) := by decide +kernel
theorem dL_setHoliday_4 : decode cL_setHoliday 4 = .ok (.iload_n 2, 1) := by decide +kernel
theorem dL_setHoliday_5 : decode cL_setHoliday 5 = .ok (.invokevirtual 27, 3) := by decide +kernel
theorem dL_setHoliday_8 : decode cL_setHoliday 8 = .ok (.ifCond .eq 7, 3) := by decide +kernel
theorem dL_setHoliday_11 : decode cL_setHoliday 11 = .ok (.lconst 1, 1) := by decide +kernel
theorem dL_setHoliday_12 : decode cL_setHoliday 12 = .ok (.goto 4, 3) := by decide +kernel
theorem dL_setHoliday_15 : decode cL_setHoliday 15 = .ok (.lconst 0, 1) := by decide +kernel
theorem dL_setHoliday_16 : decode cL_setHoliday 16 = .ok (.lastore, 1) := by decide +kernel
theorem dL_setHoliday_17 : decode cL_setHoliday 17 = .ok (.goto 7, 3) := by decide +kernel
theorem dL_setHoliday_20 : decode cL_setHoliday 20 = .ok (.astore 4, 2) := by decide +kernel
theorem dL_setHoliday_22 : decode cL_setHoliday 22 = .ok (.iconst 1, 1) := by decide +kernel
theorem dL_setHoliday_23 : decode cL_setHoliday 23 = .ok (.ireturn, 1) := by decide +kernel
theorem dL_setHoliday_24 : decode cL_setHoliday 24 = .ok (.iconst 0, 1) := by decide +kernel
theorem dL_setHoliday_25 : decode cL_setHoliday 25 = .ok (.ireturn, 1) := by decide +kernel
set_option maxRecDepth 20000 in
theorem ggL_addWorker_X3_addWorker : GoodIn wsL_addWorker wsX3_addWorker := goodIn_ca (goodIn_ca (goodIn_r _ [7, 8, 9, 10, 11, 12, 13, 14, 15, 6, 16, 17, 18, 19, 20, 21, 22, 23, 24, 25, 26, 27, 28, 29, 30, 31, 32, 33, 34, 35, 36, 37, 38, 39, 40, 41, 42, 43, 44, 45, 46, 47, 48, 49, 50, 51, 52, 53, 54, 55, 56, 57, 58, 59, 60, 61, 62, 63, 64, 65, 66, 67, 68, 69, 70, 71, 72, 73, 74, 75, 76, 77, 78, 79, 80, 81, 82, 83, 84, 85, 86, 87, 88, 89, 90, 91, 92, 93, 94] (by decide +kernel) (by decide +kernel)) (goodIn_sub (fun _ h => List.mem_cons_of_mem _ (List.mem_append_left _ (List.mem_append_right _ h))) (by decide +kernel))) (goodIn_sub (fun _ h => List.mem_cons_of_mem _ (List.mem_append_right _ h)) (by decide +kernel))
set_option maxRecDepth 20000 in
theorem gL_addWorker_X3_addWorker : GoodIn wsL_addWorker (wsV RL 30 RX3 yX3_addWorker wsX3_addWorker) := goodIn_app (goodIn_of _ (by decide +kernel)) ggL_addWorker_X3_addWorker
theorem dL_addWorker_0 : decode cL_addWorker 0 = .ok (.aload_n 2, 1) := by decide +kernel
theorem dL_addWorker_1 : decode cL_addWorker 1 = .ok (.iconst 0, 1) := by decide +kernel
theorem dL_addWorker_2 : decode cL_addWorker 2 = .ok (.aload_n 0, 1) := by decide +kernel
theorem dL_addWorker_3 : decode cL_addWorker 3 = .ok (.iload_n 1, 1) := by decide +kernel
theorem dL_addWorker_4 : decode cL_addWorker 4 = .ok (.invokevirtual 30, 3) := by decide +kernel
theorem dL_addWorker_7 : decode cL_addWorker 7 = .ok (.i2l, 1) := by decide +kernel
theorem dL_addWorker_8 : decode cL_addWorker 8 = .ok (.lastore, 1) := by decide +kernel
theorem dL_addWorker_9 : decode cL_addWorker 9 = .ok (.goto 9, 3) := by decide +kernel
theorem dL_addWorker_12 : decode cL_addWorker 12 = .ok (.astore_n 3, 1) := by decide +kernel
theorem dL_addWorker_13 : decode cL_addWorker 13 = .ok (.iconst 1, 1) := by decide +kernel
theorem dL_addWorker_14 : decode cL_addWorker 14 = .ok (.ireturn, 1) := by decide +kernel
theorem dL_addWorker_15 : decode cL_addWorker 15 = .ok (.astore_n 3, 1) := by decide +kernel
theorem dL_addWorker_16 : decode cL_addWorker 16 = .ok (.iconst 2, 1) := by decide +kernel
theorem dL_addWorker_17 : decode cL_addWorker 17 = .ok (.ireturn, 1) := by decide +kernel
theorem dL_addWorker_18 : decode cL_addWorker 18 = .ok (.iconst 0, 1) := by decide +kernel
theorem dL_addWorker_19 : decode cL_addWorker 19 = .ok (.ireturn, 1) := by decide +kernel
set_option maxRecDepth 20000 in
theorem ggL_setRank_X3_setRank : GoodIn wsL_setRank wsX3_setRank := goodIn_ca (goodIn_ca (goodIn_r _ [7, 8, 9, 10, 11, 6, 12, 13, 14, 15, 16, 17, 18, 19, 20, 21, 22, 23, 24, 25, 26, 27, 28, 29, 30, 31, 32, 33, 34, 35, 36, 37, 38, 39, 40, 41, 42, 43, 44, 45, 46, 47, 48, 49, 50, 51, 52, 53] (by decide +kernel) (by decide +kernel)) (goodIn_sub (fun _ h => List.mem_cons_of_mem _ (List.mem_append_left _ (List.mem_append_right _ h))) (by decide +kernel))) (goodIn_sub (fun _ h => List.mem_cons_of_mem _ (List.mem_append_right _ h)) (by decide +kernel))
set_option maxRecDepth 20000 in
theorem gL_setRank_X3_setRank : GoodIn wsL_setRank (wsV RL 34 RX3 yX3_setRank wsX3_setRank) := goodIn_app (goodIn_of _ (by decide +kernel)) ggL_setRank_X3_setRank
theorem dL_setRank_0 : decode cL_setRank 0 = .ok (.aload_n 3, 1) := by decide +kernel
theorem dL_setRank_1 : decode cL_setRank 1 = .ok (.iconst 0, 1) := by decide +kernel
theorem dL_setRank_2 : decode cL_setRank 2 = .ok (.aload_n 0, 1) := by decide +kernel
theorem dL_setRank_3 : decode cL_setRank 3 = .ok (.iload_n 1, 1) := by decide +kernel
theorem dL_setRank_4 : decode cL_setRank 4 = .ok (.iload_n 2, 1) := by decide +kernel
theorem dL_setRank_5 : decode cL_setRank 5 = .ok (.invokevirtual 34, 3) := by decide +kernel
theorem dL_setRank_8 : decode cL_setRank 8 = .ok (.i2l, 1) := by decide +kernel
theorem dL_setRank_9 : decode cL_setRank 9 = .ok (.lastore, 1) := by decide +kernel
theorem dL_setRank_10 : decode cL_setRank 10 = .ok (.goto 11, 3) := by decide +kernel
theorem dL_setRank_13 : decode cL_setRank 13 = .ok (.astore 4, 2) := by decide +kernel
theorem dL_setRank_15 : decode cL_setRank 15 = .ok (.iconst 1, 1) := by decide +kernel
theorem dL_setRank_16 : decode cL_setRank 16 = .ok (.ireturn, 1) := by decide +kernel
theorem dL_setRank_17 : decode cL_setRank 17 = .ok (.astore 4, 2) := by decide +kernel
theorem dL_setRank_19 : decode cL_setRank 19 = .ok (.iconst 2, 1) := by decide +kernel
theorem dL_setRank_20 : decode cL_setRank 20 = .ok (.ireturn, 1) := by decide +kernel
theorem dL_setRank_21 : decode cL_setRank 21 = .ok (.iconst 0, 1) := by decide +kernel
theorem dL_setRank_22 : decode cL_setRank 22 = .ok (.ireturn, 1) := by decide +kernel
set_option maxRecDepth 20000 in
theorem ggL_addShift_X3_addShift : GoodIn wsL_addShift wsX3_addShift := goodIn_ca (goodIn_ca (goodIn_ca (goodIn_r _ [8, 9, 10, 11, 12, 13, 14, 15, 16, 17, 7, 18, 19, 20, 21, 22, 23, 24, 25, 26, 27, 28, 29, 30, 31, 32, 33, 34, 35, 36, 37, 38, 39, 40, 41, 42, 43, 44, 45, 46, 47, 48, 49, 50, 51, 52, 53, 54, 55, 56, 57, 58, 59, 60, 61, 62, 63, 64, 65, 66, 67, 68, 69, 70, 71, 72, 73, 74, 75, 76, 77, 78, 79, 80, 81, 82, 83, 84, 85, 86, 87, 88, 89, 90, 91, 92, 93, 94, 95, 96, 97, 98, 99, 100, 101, 102, 103, 104, 105, 106, 107, 108, 109, 110, 111, 112, 113, 114, 115, 116, 117, 118, 119, 120, 121, 122, 123, 124, 125, 126, 127, 128, 129, 130, 131, 132, 133, 134, 135, 136, 137, 138, 139, 140, 141, 142, 143, 144] (by decide +kernel) (by decide +kernel)) (goodIn_sub (fun _ h => List.mem_cons_of_mem _ (List.mem_append_left _ (List.mem_append_left _ (List.mem_append_right _ h)))) (by decide +kernel))) (goodIn_sub (fun _ h => List.mem_cons_of_mem _ (List.mem_append_left _ (List.mem_append_right _ h))) (by decide +kernel))) (goodIn_sub (fun _ h => List.mem_cons_of_mem _ (List.mem_append_right _ h)) (by decide +kernel))
set_option maxRecDepth 20000 in
theorem gL_addShift_X3_addShift : GoodIn wsL_addShift (wsV RL 37 RX3 yX3_addShift wsX3_addShift) := goodIn_app (goodIn_of _ (by decide +kernel)) ggL_addShift_X3_addShift
theorem dL_addShift_0 : decode cL_addShift 0 = .ok (.aload 5, 2) := by decide +kernel
theorem dL_addShift_2 : decode cL_addShift 2 = .ok (.iconst 0, 1) := by decide +kernel
theorem dL_addShift_3 : decode cL_addShift 3 = .ok (.aload_n 0, 1) := by decide +kernel
theorem dL_addShift_4 : decode cL_addShift 4 = .ok (.iload_n 1, 1) := by decide +kernel
theorem dL_addShift_5 : decode cL_addShift 5 = .ok (.iload_n 2, 1) := by decide +kernel
theorem dL_addShift_6 : decode cL_addShift 6 = .ok (.iload_n 3, 1) := by decide +kernel
theorem dL_addShift_7 : decode cL_addShift 7 = .ok (.iload 4, 2) := by decide +kernel
theorem dL_addShift_9 : decode cL_addShift 9 = .ok (.invokevirtual 37, 3) := by decide +kernel
theorem dL_addShift_12 : decode cL_addShift 12 = .ok (.i2l, 1) := by decide +kernel
theorem dL_addShift_13 : decode cL_addShift 13 = .ok (.lastore, 1) := by decide +kernel
theorem dL_addShift_14 : decode cL_addShift 14 = .ok (.goto 15, 3) := by decide +kernel
theorem dL_addShift_17 : decode cL_addShift 17 = .ok (.astore 6, 2) := by decide +kernel
theorem dL_addShift_19 : decode cL_addShift 19 = .ok (.iconst 1, 1) := by decide +kernel
theorem dL_addShift_20 : decode cL_addShift 20 = .ok (.ireturn, 1) := by decide +kernel
theorem dL_addShift_21 : decode cL_addShift 21 = .ok (.astore 6, 2) := by decide +kernel
theorem dL_addShift_23 : decode cL_addShift 23 = .ok (.iconst 2, 1) := by decide +kernel
theorem dL_addShift_24 : decode cL_addShift 24 = .ok (.ireturn, 1) := by decide +kernel
theorem dL_addShift_25 : decode cL_addShift 25 = .ok (.astore 6, 2) := by decide +kernel
theorem dL_addShift_27 : decode cL_addShift 27 = .ok (.iconst 3, 1) := by decide +kernel
theorem dL_addShift_28 : decode cL_addShift 28 = .ok (.ireturn, 1) := by decide +kernel
theorem dL_addShift_29 : decode cL_addShift 29 = .ok (.iconst 0, 1) := by decide +kernel
theorem dL_addShift_30 : decode cL_addShift 30 = .ok (.ireturn, 1) := by decide +kernel
set_option maxRecDepth 20000 in
theorem ggL_cancel_X3_cancel : GoodIn wsL_cancel wsX3_cancel := goodIn_ca (goodIn_ca (goodIn_r _ [7, 8, 9, 10, 11, 6, 12, 13, 14, 15, 16, 17, 18, 19, 20, 21, 22, 23, 24, 25, 26, 27, 28, 29, 30, 31, 32, 33, 34, 35, 36, 37, 38, 39, 40, 41, 42, 43, 44, 45, 46, 47, 48, 49, 50, 51, 52, 53, 54, 55, 56, 57, 58, 59, 60, 61, 62, 63, 64, 65, 66, 67, 68, 69, 70, 71, 72, 73, 74, 75, 76, 77, 78, 79, 80, 81, 82, 83, 84, 85, 86, 87, 88, 89, 90, 91, 92, 93, 94, 95, 96, 97, 98, 99, 100, 101, 102, 103, 104, 105, 106, 107, 108, 109, 110, 111, 112, 113, 114, 115, 116, 117, 118, 119, 120, 121, 122, 123, 124, 125, 126, 127, 128, 129, 130, 131, 132, 133, 134, 135, 136, 137, 138, 139, 140, 141, 142, 143, 144] (by decide +kernel) (by decide +kernel)) (goodIn_sub (fun _ h => List.mem_cons_of_mem _ (List.mem_append_left _ (List.mem_append_right _ h))) (by decide +kernel))) (goodIn_sub (fun _ h => List.mem_cons_of_mem _ (List.mem_append_right _ h)) (by decide +kernel))
set_option maxRecDepth 20000 in
theorem gL_cancel_X3_cancel : GoodIn wsL_cancel (wsV RL 41 RX3 yX3_cancel wsX3_cancel) := goodIn_app (goodIn_of _ (by decide +kernel)) ggL_cancel_X3_cancel
theorem dL_cancel_0 : decode cL_cancel 0 = .ok (.aload_n 2, 1) := by decide +kernel
theorem dL_cancel_1 : decode cL_cancel 1 = .ok (.iconst 0, 1) := by decide +kernel
theorem dL_cancel_2 : decode cL_cancel 2 = .ok (.aload_n 0, 1) := by decide +kernel
theorem dL_cancel_3 : decode cL_cancel 3 = .ok (.iload_n 1, 1) := by decide +kernel
theorem dL_cancel_4 : decode cL_cancel 4 = .ok (.invokevirtual 41, 3) := by decide +kernel
theorem dL_cancel_7 : decode cL_cancel 7 = .ok (.i2l, 1) := by decide +kernel
theorem dL_cancel_8 : decode cL_cancel 8 = .ok (.lastore, 1) := by decide +kernel
theorem dL_cancel_9 : decode cL_cancel 9 = .ok (.goto 9, 3) := by decide +kernel
theorem dL_cancel_12 : decode cL_cancel 12 = .ok (.astore_n 3, 1) := by decide +kernel
theorem dL_cancel_13 : decode cL_cancel 13 = .ok (.iconst 1, 1) := by decide +kernel
theorem dL_cancel_14 : decode cL_cancel 14 = .ok (.ireturn, 1) := by decide +kernel
theorem dL_cancel_15 : decode cL_cancel 15 = .ok (.astore_n 3, 1) := by decide +kernel
theorem dL_cancel_16 : decode cL_cancel 16 = .ok (.iconst 2, 1) := by decide +kernel
theorem dL_cancel_17 : decode cL_cancel 17 = .ok (.ireturn, 1) := by decide +kernel
theorem dL_cancel_18 : decode cL_cancel 18 = .ok (.iconst 0, 1) := by decide +kernel
theorem dL_cancel_19 : decode cL_cancel 19 = .ok (.ireturn, 1) := by decide +kernel
set_option maxRecDepth 20000 in
theorem ggL_takeBreaks_X3_takeBreaks : GoodIn wsL_takeBreaks wsX3_takeBreaks := goodIn_ca (goodIn_ca (goodIn_ca (goodIn_r _ [8, 9, 10, 11, 12, 7, 13, 14, 15, 16, 17, 18, 19, 20, 21, 22, 23, 24, 25, 26, 27, 28, 29, 30, 31, 32, 33, 34, 35, 36, 37, 38, 39, 40, 41, 42, 43, 44, 45, 46, 47, 48, 49, 50, 51, 52, 53, 54, 55, 56, 57, 58, 59, 60, 61, 62, 63, 64] (by decide +kernel) (by decide +kernel)) (goodIn_sub (fun _ h => List.mem_cons_of_mem _ (List.mem_append_left _ (List.mem_append_left _ (List.mem_append_right _ h)))) (by decide +kernel))) (goodIn_sub (fun _ h => List.mem_cons_of_mem _ (List.mem_append_left _ (List.mem_append_right _ h))) (by decide +kernel))) (goodIn_sub (fun _ h => List.mem_cons_of_mem _ (List.mem_append_right _ h)) (by decide +kernel))
set_option maxRecDepth 20000 in
theorem gL_takeBreaks_X3_takeBreaks : GoodIn wsL_takeBreaks (wsV RL 44 RX3 yX3_takeBreaks wsX3_takeBreaks) := goodIn_app (goodIn_of _ (by decide +kernel)) ggL_takeBreaks_X3_takeBreaks
theorem dL_takeBreaks_0 : decode cL_takeBreaks 0 = .ok (.aload_n 3, 1) := by decide +kernel
theorem dL_takeBreaks_1 : decode cL_takeBreaks 1 = .ok (.iconst 0, 1) := by decide +kernel
theorem dL_takeBreaks_2 : decode cL_takeBreaks 2 = .ok (.aload_n 0, 1) := by decide +kernel
theorem dL_takeBreaks_3 : decode cL_takeBreaks 3 = .ok (.iload_n 1, 1) := by decide +kernel
theorem dL_takeBreaks_4 : decode cL_takeBreaks 4 = .ok (.iload_n 2, 1) := by decide +kernel
theorem dL_takeBreaks_5 : decode cL_takeBreaks 5 = .ok (.invokevirtual 44, 3) := by decide +kernel
theorem dL_takeBreaks_8 : decode cL_takeBreaks 8 = .ok (.i2l, 1) := by decide +kernel
theorem dL_takeBreaks_9 : decode cL_takeBreaks 9 = .ok (.lastore, 1) := by decide +kernel
theorem dL_takeBreaks_10 : decode cL_takeBreaks 10 = .ok (.goto 15, 3) := by decide +kernel
theorem dL_takeBreaks_13 : decode cL_takeBreaks 13 = .ok (.astore 4, 2) := by decide +kernel
theorem dL_takeBreaks_15 : decode cL_takeBreaks 15 = .ok (.iconst 1, 1) := by decide +kernel
theorem dL_takeBreaks_16 : decode cL_takeBreaks 16 = .ok (.ireturn, 1) := by decide +kernel
theorem dL_takeBreaks_17 : decode cL_takeBreaks 17 = .ok (.astore 4, 2) := by decide +kernel
theorem dL_takeBreaks_19 : decode cL_takeBreaks 19 = .ok (.iconst 2, 1) := by decide +kernel
theorem dL_takeBreaks_20 : decode cL_takeBreaks 20 = .ok (.ireturn, 1) := by decide +kernel
theorem dL_takeBreaks_21 : decode cL_takeBreaks 21 = .ok (.astore 4, 2) := by decide +kernel
theorem dL_takeBreaks_23 : decode cL_takeBreaks 23 = .ok (.iconst 3, 1) := by decide +kernel
theorem dL_takeBreaks_24 : decode cL_takeBreaks 24 = .ok (.ireturn, 1) := by decide +kernel
theorem dL_takeBreaks_25 : decode cL_takeBreaks 25 = .ok (.iconst 0, 1) := by decide +kernel
theorem dL_takeBreaks_26 : decode cL_takeBreaks 26 = .ok (.ireturn, 1) := by decide +kernel
set_option maxRecDepth 20000 in
theorem ggL_paidQuarters_X3_paidQuarters : GoodIn wsL_paidQuarters wsX3_paidQuarters := goodIn_ca (goodIn_r _ [6, 7, 8, 9, 5, 10, 11, 12, 13, 14, 15, 16, 17, 18, 19, 20, 21, 22, 23, 24, 25, 26, 27, 28, 29, 30, 31, 32, 33, 34, 35, 36, 37, 38, 39, 40, 41, 42, 43, 44, 45, 46, 47, 48, 49, 50, 51, 52, 53, 54, 55, 56, 57, 58, 59, 60, 61] (by decide +kernel) (by decide +kernel)) (goodIn_sub (fun _ h => List.mem_cons_of_mem _ (List.mem_append_right _ h)) (by decide +kernel))
set_option maxRecDepth 20000 in
theorem gL_paidQuarters_X3_paidQuarters : GoodIn wsL_paidQuarters (wsV RL 47 RX3 yX3_paidQuarters wsX3_paidQuarters) := goodIn_app (goodIn_of _ (by decide +kernel)) ggL_paidQuarters_X3_paidQuarters
theorem dL_paidQuarters_0 : decode cL_paidQuarters 0 = .ok (.aload_n 2, 1) := by decide +kernel
theorem dL_paidQuarters_1 : decode cL_paidQuarters 1 = .ok (.iconst 0, 1) := by decide +kernel
theorem dL_paidQuarters_2 : decode cL_paidQuarters 2 = .ok (.aload_n 0, 1) := by decide +kernel
theorem dL_paidQuarters_3 : decode cL_paidQuarters 3 = .ok (.iload_n 1, 1) := by decide +kernel
theorem dL_paidQuarters_4 : decode cL_paidQuarters 4 = .ok (.invokevirtual 47, 3) := by decide +kernel
theorem dL_paidQuarters_7 : decode cL_paidQuarters 7 = .ok (.i2l, 1) := by decide +kernel
theorem dL_paidQuarters_8 : decode cL_paidQuarters 8 = .ok (.lastore, 1) := by decide +kernel
theorem dL_paidQuarters_9 : decode cL_paidQuarters 9 = .ok (.goto 6, 3) := by decide +kernel
theorem dL_paidQuarters_12 : decode cL_paidQuarters 12 = .ok (.astore_n 3, 1) := by decide +kernel
theorem dL_paidQuarters_13 : decode cL_paidQuarters 13 = .ok (.iconst 1, 1) := by decide +kernel
theorem dL_paidQuarters_14 : decode cL_paidQuarters 14 = .ok (.ireturn, 1) := by decide +kernel
theorem dL_paidQuarters_15 : decode cL_paidQuarters 15 = .ok (.iconst 0, 1) := by decide +kernel
theorem dL_paidQuarters_16 : decode cL_paidQuarters 16 = .ok (.ireturn, 1) := by decide +kernel
set_option maxRecDepth 20000 in
theorem ggL_percentAt_X3_percentAt : GoodIn wsL_percentAt wsX3_percentAt := goodIn_ca (goodIn_r _ [6, 7, 8, 9, 5, 10, 11, 12, 13, 14, 15, 16, 17, 18, 19, 20, 21, 22, 23, 24, 25, 26, 27, 28, 29, 30, 31, 32, 33, 34, 35, 36, 37, 38, 39, 40, 41, 42, 43, 44, 45, 46, 47, 48, 49, 50, 51, 52, 53, 54, 55, 56, 57, 58, 59, 60, 61, 62, 63, 64, 65, 66, 67, 68, 69, 70, 71, 72, 73, 74, 75, 76, 77, 78, 79, 80, 81, 82, 83, 84, 85, 86, 87, 88, 89, 90, 91, 92, 93, 94, 95, 96, 97, 98, 99, 100, 101, 102, 103, 104, 105, 106, 107, 108, 109, 110, 111, 112, 113, 114, 115, 116, 117, 118, 119] (by decide +kernel) (by decide +kernel)) (goodIn_sub (fun _ h => List.mem_cons_of_mem _ (List.mem_append_right _ h)) (by decide +kernel))
set_option maxRecDepth 20000 in
theorem gL_percentAt_X3_percentAt : GoodIn wsL_percentAt (wsV RL 50 RX3 yX3_percentAt wsX3_percentAt) := goodIn_app (goodIn_of _ (by decide +kernel)) ggL_percentAt_X3_percentAt
theorem dL_percentAt_0 : decode cL_percentAt 0 = .ok (.aload_n 3, 1) := by decide +kernel
theorem dL_percentAt_1 : decode cL_percentAt 1 = .ok (.iconst 0, 1) := by decide +kernel
theorem dL_percentAt_2 : decode cL_percentAt 2 = .ok (.aload_n 0, 1) := by decide +kernel
theorem dL_percentAt_3 : decode cL_percentAt 3 = .ok (.iload_n 1, 1) := by decide +kernel
theorem dL_percentAt_4 : decode cL_percentAt 4 = .ok (.iload_n 2, 1) := by decide +kernel
theorem dL_percentAt_5 : decode cL_percentAt 5 = .ok (.invokevirtual 50, 3) := by decide +kernel
theorem dL_percentAt_8 : decode cL_percentAt 8 = .ok (.i2l, 1) := by decide +kernel
theorem dL_percentAt_9 : decode cL_percentAt 9 = .ok (.lastore, 1) := by decide +kernel
theorem dL_percentAt_10 : decode cL_percentAt 10 = .ok (.goto 7, 3) := by decide +kernel
theorem dL_percentAt_13 : decode cL_percentAt 13 = .ok (.astore 4, 2) := by decide +kernel
theorem dL_percentAt_15 : decode cL_percentAt 15 = .ok (.iconst 1, 1) := by decide +kernel
theorem dL_percentAt_16 : decode cL_percentAt 16 = .ok (.ireturn, 1) := by decide +kernel
theorem dL_percentAt_17 : decode cL_percentAt 17 = .ok (.iconst 0, 1) := by decide +kernel
theorem dL_percentAt_18 : decode cL_percentAt 18 = .ok (.ireturn, 1) := by decide +kernel
set_option maxRecDepth 20000 in
theorem ggL_reasonAt_X3_reasonAt : GoodIn wsL_reasonAt wsX3_reasonAt := goodIn_ca (goodIn_r _ [6, 7, 8, 9, 10, 5, 11, 12, 13, 14, 15, 16, 17, 18, 19, 20, 21, 22, 23, 24, 25, 26, 27, 28, 29, 30, 31, 32, 33, 34, 35, 36, 37, 38, 39, 40, 41, 42, 43, 44, 45, 46, 47, 48, 49, 50, 51, 52, 53, 54, 55, 56, 57, 58, 59, 60, 61, 62, 63, 64, 65, 66, 67, 68, 69, 70, 71, 72, 73, 74, 75, 76, 77, 78, 79, 80, 81, 82, 83, 84, 85, 86, 87, 88, 89, 90, 91, 92, 93, 94, 95, 96, 97, 98, 99, 100, 101, 102, 103, 104, 105, 106, 107, 108, 109, 110, 111, 112, 113, 114, 115, 116] (by decide +kernel) (by decide +kernel)) (goodIn_sub (fun _ h => List.mem_cons_of_mem _ (List.mem_append_right _ h)) (by decide +kernel))
set_option maxRecDepth 20000 in
theorem gL_reasonAt_X3_reasonAt : GoodIn wsL_reasonAt (wsV RL 53 RX3 yX3_reasonAt wsX3_reasonAt) := goodIn_app (goodIn_of _ (by decide +kernel)) ggL_reasonAt_X3_reasonAt
theorem dL_reasonAt_0 : decode cL_reasonAt 0 = .ok (.aload_n 3, 1) := by decide +kernel
theorem dL_reasonAt_1 : decode cL_reasonAt 1 = .ok (.iconst 0, 1) := by decide +kernel
theorem dL_reasonAt_2 : decode cL_reasonAt 2 = .ok (.aload_n 0, 1) := by decide +kernel
theorem dL_reasonAt_3 : decode cL_reasonAt 3 = .ok (.iload_n 1, 1) := by decide +kernel
theorem dL_reasonAt_4 : decode cL_reasonAt 4 = .ok (.iload_n 2, 1) := by decide +kernel
theorem dL_reasonAt_5 : decode cL_reasonAt 5 = .ok (.invokevirtual 53, 3) := by decide +kernel
theorem dL_reasonAt_8 : decode cL_reasonAt 8 = .ok (.i2l, 1) := by decide +kernel
theorem dL_reasonAt_9 : decode cL_reasonAt 9 = .ok (.lastore, 1) := by decide +kernel
theorem dL_reasonAt_10 : decode cL_reasonAt 10 = .ok (.goto 7, 3) := by decide +kernel
theorem dL_reasonAt_13 : decode cL_reasonAt 13 = .ok (.astore 4, 2) := by decide +kernel
theorem dL_reasonAt_15 : decode cL_reasonAt 15 = .ok (.iconst 1, 1) := by decide +kernel
theorem dL_reasonAt_16 : decode cL_reasonAt 16 = .ok (.ireturn, 1) := by decide +kernel
theorem dL_reasonAt_17 : decode cL_reasonAt 17 = .ok (.iconst 0, 1) := by decide +kernel
theorem dL_reasonAt_18 : decode cL_reasonAt 18 = .ok (.ireturn, 1) := by decide +kernel
set_option maxRecDepth 20000 in
theorem ggL_missed_X3_missed : GoodIn wsL_missed wsX3_missed := goodIn_ca (goodIn_r _ [6, 7, 8, 9, 5, 10, 11, 12, 13, 14, 15, 16, 17, 18, 19, 20, 21, 22, 23, 24, 25, 26, 27, 28, 29, 30, 31, 32, 33, 34, 35, 36, 37, 38, 39, 40, 41, 42, 43, 44, 45, 46, 47, 48, 49, 50, 51, 52, 53, 54, 55, 56, 57, 58, 59, 60, 61, 62, 63, 64, 65, 66] (by decide +kernel) (by decide +kernel)) (goodIn_sub (fun _ h => List.mem_cons_of_mem _ (List.mem_append_right _ h)) (by decide +kernel))
set_option maxRecDepth 20000 in
theorem gL_missed_X3_missed : GoodIn wsL_missed (wsV RL 56 RX3 yX3_missed wsX3_missed) := goodIn_app (goodIn_of _ (by decide +kernel)) ggL_missed_X3_missed
theorem dL_missed_0 : decode cL_missed 0 = .ok (.aload_n 2, 1) := by decide +kernel
theorem dL_missed_1 : decode cL_missed 1 = .ok (.iconst 0, 1) := by decide +kernel
theorem dL_missed_2 : decode cL_missed 2 = .ok (.aload_n 0, 1) := by decide +kernel
theorem dL_missed_3 : decode cL_missed 3 = .ok (.iload_n 1, 1) := by decide +kernel
theorem dL_missed_4 : decode cL_missed 4 = .ok (.invokevirtual 56, 3) := by decide +kernel
theorem dL_missed_7 : decode cL_missed 7 = .ok (.i2l, 1) := by decide +kernel
theorem dL_missed_8 : decode cL_missed 8 = .ok (.lastore, 1) := by decide +kernel
theorem dL_missed_9 : decode cL_missed 9 = .ok (.goto 6, 3) := by decide +kernel
theorem dL_missed_12 : decode cL_missed 12 = .ok (.astore_n 3, 1) := by decide +kernel
theorem dL_missed_13 : decode cL_missed 13 = .ok (.iconst 1, 1) := by decide +kernel
theorem dL_missed_14 : decode cL_missed 14 = .ok (.ireturn, 1) := by decide +kernel
theorem dL_missed_15 : decode cL_missed 15 = .ok (.iconst 0, 1) := by decide +kernel
theorem dL_missed_16 : decode cL_missed 16 = .ok (.ireturn, 1) := by decide +kernel
set_option maxRecDepth 20000 in
theorem ggL_pay_X3_pay : GoodIn wsL_pay wsX3_pay := goodIn_ca (goodIn_r _ [6, 7, 8, 9, 5, 10, 11, 12, 13, 14, 15, 16, 17, 18, 19, 20, 21, 22, 23, 24, 25, 26, 27, 28, 29, 30, 31, 32, 33, 34, 35, 36, 37, 38, 39, 40, 41, 42, 43, 44, 45, 46, 47, 48, 49, 50, 51, 52, 53, 54, 55, 56, 57, 58, 59, 60, 61, 62, 63, 64, 65, 66, 67, 68, 69, 70, 71, 72, 73, 74, 75, 76, 77, 78, 79, 80, 81, 82, 83, 84, 85, 86, 87, 88, 89, 90, 91, 92, 93, 94, 95, 96, 97, 98, 99, 100, 101, 102, 103, 104, 105, 106, 107, 108, 109, 110, 111, 112, 113, 114, 115, 116, 117, 118, 119, 120, 121, 122, 123, 124, 125, 126, 127, 128, 129, 130, 131, 132, 133, 134, 135, 136, 137] (by decide +kernel) (by decide +kernel)) (goodIn_sub (fun _ h => List.mem_cons_of_mem _ (List.mem_append_right _ h)) (by decide +kernel))
set_option maxRecDepth 20000 in
theorem gL_pay_X3_pay : GoodIn wsL_pay (wsV RL 59 RX3 yX3_pay wsX3_pay) := goodIn_app (goodIn_of _ (by decide +kernel)) ggL_pay_X3_pay
theorem dL_pay_0 : decode cL_pay 0 = .ok (.aload_n 2, 1) := by decide +kernel
theorem dL_pay_1 : decode cL_pay 1 = .ok (.iconst 0, 1) := by decide +kernel
theorem dL_pay_2 : decode cL_pay 2 = .ok (.aload_n 0, 1) := by decide +kernel
theorem dL_pay_3 : decode cL_pay 3 = .ok (.iload_n 1, 1) := by decide +kernel
theorem dL_pay_4 : decode cL_pay 4 = .ok (.invokevirtual 59, 3) := by decide +kernel
theorem dL_pay_7 : decode cL_pay 7 = .ok (.i2l, 1) := by decide +kernel
theorem dL_pay_8 : decode cL_pay 8 = .ok (.lastore, 1) := by decide +kernel
theorem dL_pay_9 : decode cL_pay 9 = .ok (.goto 6, 3) := by decide +kernel
theorem dL_pay_12 : decode cL_pay 12 = .ok (.astore_n 3, 1) := by decide +kernel
theorem dL_pay_13 : decode cL_pay 13 = .ok (.iconst 1, 1) := by decide +kernel
theorem dL_pay_14 : decode cL_pay 14 = .ok (.ireturn, 1) := by decide +kernel
theorem dL_pay_15 : decode cL_pay 15 = .ok (.iconst 0, 1) := by decide +kernel
theorem dL_pay_16 : decode cL_pay 16 = .ok (.ireturn, 1) := by decide +kernel
set_option maxRecDepth 20000 in
theorem ggL_payOf_X3_payOf : GoodIn wsL_payOf wsX3_payOf := goodIn_ca (goodIn_ca (goodIn_r _ [7, 8, 9, 10, 11, 12, 13, 6, 14, 15, 16, 17, 18, 19, 20, 21, 22, 23, 24, 25, 26, 27, 28, 29, 30, 31, 32, 33, 34, 35, 36, 37, 38, 39, 40, 41, 42, 43, 44, 45, 46, 47, 48, 49, 50, 51, 52, 53, 54, 55, 56, 57, 58, 59, 60, 61, 62, 63, 64, 65, 66, 67, 68, 69, 70, 71, 72, 73, 74, 75, 76, 77, 78, 79, 80, 81, 82, 83, 84, 85, 86, 87, 88, 89, 90, 91, 92, 93, 94, 95, 96, 97, 98, 99, 100, 101, 102, 103, 104, 105, 106, 107, 108, 109, 110, 111, 112, 113, 114, 115, 116, 117, 118, 119, 120, 121, 122, 123, 124, 125, 126, 127, 128, 129, 130, 131, 132, 133, 134, 135, 136, 137, 138, 139, 140, 141, 142, 143, 144, 145] (by decide +kernel) (by decide +kernel)) (goodIn_sub (fun _ h => List.mem_cons_of_mem _ (List.mem_append_left _ (List.mem_append_right _ h))) (by decide +kernel))) (goodIn_sub (fun _ h => List.mem_cons_of_mem _ (List.mem_append_right _ h)) (by decide +kernel))
set_option maxRecDepth 20000 in
theorem gL_payOf_X3_payOf : GoodIn wsL_payOf (wsV RL 62 RX3 yX3_payOf wsX3_payOf) := goodIn_app (goodIn_of _ (by decide +kernel)) ggL_payOf_X3_payOf
theorem dL_payOf_0 : decode cL_payOf 0 = .ok (.aload 4, 2) := by decide +kernel
theorem dL_payOf_2 : decode cL_payOf 2 = .ok (.iconst 0, 1) := by decide +kernel
theorem dL_payOf_3 : decode cL_payOf 3 = .ok (.aload_n 0, 1) := by decide +kernel
theorem dL_payOf_4 : decode cL_payOf 4 = .ok (.iload_n 1, 1) := by decide +kernel
theorem dL_payOf_5 : decode cL_payOf 5 = .ok (.iload_n 2, 1) := by decide +kernel
theorem dL_payOf_6 : decode cL_payOf 6 = .ok (.iload_n 3, 1) := by decide +kernel
theorem dL_payOf_7 : decode cL_payOf 7 = .ok (.invokevirtual 62, 3) := by decide +kernel
theorem dL_payOf_10 : decode cL_payOf 10 = .ok (.i2l, 1) := by decide +kernel
theorem dL_payOf_11 : decode cL_payOf 11 = .ok (.lastore, 1) := by decide +kernel
theorem dL_payOf_12 : decode cL_payOf 12 = .ok (.goto 11, 3) := by decide +kernel
theorem dL_payOf_15 : decode cL_payOf 15 = .ok (.astore 5, 2) := by decide +kernel
theorem dL_payOf_17 : decode cL_payOf 17 = .ok (.iconst 1, 1) := by decide +kernel
theorem dL_payOf_18 : decode cL_payOf 18 = .ok (.ireturn, 1) := by decide +kernel
theorem dL_payOf_19 : decode cL_payOf 19 = .ok (.astore 5, 2) := by decide +kernel
theorem dL_payOf_21 : decode cL_payOf 21 = .ok (.iconst 2, 1) := by decide +kernel
theorem dL_payOf_22 : decode cL_payOf 22 = .ok (.ireturn, 1) := by decide +kernel
theorem dL_payOf_23 : decode cL_payOf 23 = .ok (.iconst 0, 1) := by decide +kernel
theorem dL_payOf_24 : decode cL_payOf 24 = .ok (.ireturn, 1) := by decide +kernel
set_option maxRecDepth 20000 in
theorem ggL_paidBy_X3_paidBy : GoodIn wsL_paidBy wsX3_paidBy := goodIn_ca (goodIn_r _ [6, 7, 8, 9, 10, 11, 5, 12, 13, 14, 15, 16, 17, 18, 19, 20, 21, 22, 23, 24, 25, 26, 27, 28, 29, 30, 31, 32, 33, 34, 35, 36, 37, 38, 39, 40, 41, 42, 43, 44, 45, 46, 47, 48, 49, 50, 51, 52, 53, 54, 55, 56, 57, 58, 59, 60, 61, 62, 63, 64, 65, 66, 67, 68, 69, 70, 71, 72, 73, 74, 75, 76, 77, 78, 79, 80, 81, 82, 83, 84, 85, 86, 87, 88, 89, 90, 91, 92, 93, 94, 95, 96, 97, 98, 99, 100, 101, 102, 103, 104, 105, 106, 107, 108, 109, 110, 111, 112, 113, 114, 115, 116, 117, 118, 119, 120, 121, 122, 123, 124, 125] (by decide +kernel) (by decide +kernel)) (goodIn_sub (fun _ h => List.mem_cons_of_mem _ (List.mem_append_right _ h)) (by decide +kernel))
set_option maxRecDepth 20000 in
theorem gL_paidBy_X3_paidBy : GoodIn wsL_paidBy (wsV RL 66 RX3 yX3_paidBy wsX3_paidBy) := goodIn_app (goodIn_of _ (by decide +kernel)) ggL_paidBy_X3_paidBy
theorem dL_paidBy_0 : decode cL_paidBy 0 = .ok (.aload_n 2, 1) := by decide +kernel
theorem dL_paidBy_1 : decode cL_paidBy 1 = .ok (.iconst 0, 1) := by decide +kernel
theorem dL_paidBy_2 : decode cL_paidBy 2 = .ok (.aload_n 0, 1) := by decide +kernel
theorem dL_paidBy_3 : decode cL_paidBy 3 = .ok (.iload_n 1, 1) := by decide +kernel
theorem dL_paidBy_4 : decode cL_paidBy 4 = .ok (.invokevirtual 66, 3) := by decide +kernel
theorem dL_paidBy_7 : decode cL_paidBy 7 = .ok (.i2l, 1) := by decide +kernel
theorem dL_paidBy_8 : decode cL_paidBy 8 = .ok (.lastore, 1) := by decide +kernel
theorem dL_paidBy_9 : decode cL_paidBy 9 = .ok (.goto 6, 3) := by decide +kernel
theorem dL_paidBy_12 : decode cL_paidBy 12 = .ok (.astore_n 3, 1) := by decide +kernel
theorem dL_paidBy_13 : decode cL_paidBy 13 = .ok (.iconst 1, 1) := by decide +kernel
theorem dL_paidBy_14 : decode cL_paidBy 14 = .ok (.ireturn, 1) := by decide +kernel
theorem dL_paidBy_15 : decode cL_paidBy 15 = .ok (.iconst 0, 1) := by decide +kernel
theorem dL_paidBy_16 : decode cL_paidBy 16 = .ok (.ireturn, 1) := by decide +kernel
set_option maxRecDepth 20000 in
theorem ggL_worked_X3_worked : GoodIn wsL_worked wsX3_worked := goodIn_ca (goodIn_ca (goodIn_r _ [7, 8, 9, 10, 6, 11, 12, 13, 14, 15, 16, 17, 18, 19, 20, 21, 22, 23, 24, 25, 26, 27, 28, 29, 30, 31, 32, 33, 34, 35, 36, 37, 38, 39, 40, 41, 42, 43, 44, 45, 46, 47, 48, 49, 50, 51, 52, 53, 54, 55, 56, 57, 58, 59, 60, 61, 62, 63, 64, 65, 66, 67, 68, 69, 70, 71, 72, 73, 74, 75, 76, 77, 78, 79, 80, 81, 82] (by decide +kernel) (by decide +kernel)) (goodIn_sub (fun _ h => List.mem_cons_of_mem _ (List.mem_append_left _ (List.mem_append_right _ h))) (by decide +kernel))) (goodIn_sub (fun _ h => List.mem_cons_of_mem _ (List.mem_append_right _ h)) (by decide +kernel))
set_option maxRecDepth 20000 in
theorem gL_worked_X3_worked : GoodIn wsL_worked (wsV RL 69 RX3 yX3_worked wsX3_worked) := goodIn_app (goodIn_of _ (by decide +kernel)) ggL_worked_X3_worked
theorem dL_worked_0 : decode cL_worked 0 = .ok (.aload_n 3, 1) := by decide +kernel
theorem dL_worked_1 : decode cL_worked 1 = .ok (.iconst 0, 1) := by decide +kernel
theorem dL_worked_2 : decode cL_worked 2 = .ok (.aload_n 0, 1) := by decide +kernel
theorem dL_worked_3 : decode cL_worked 3 = .ok (.iload_n 1, 1) := by decide +kernel
theorem dL_worked_4 : decode cL_worked 4 = .ok (.iload_n 2, 1) := by decide +kernel
theorem dL_worked_5 : decode cL_worked 5 = .ok (.invokevirtual 69, 3) := by decide +kernel
theorem dL_worked_8 : decode cL_worked 8 = .ok (.i2l, 1) := by decide +kernel
theorem dL_worked_9 : decode cL_worked 9 = .ok (.lastore, 1) := by decide +kernel
theorem dL_worked_10 : decode cL_worked 10 = .ok (.goto 11, 3) := by decide +kernel
theorem dL_worked_13 : decode cL_worked 13 = .ok (.astore 4, 2) := by decide +kernel
theorem dL_worked_15 : decode cL_worked 15 = .ok (.iconst 1, 1) := by decide +kernel
theorem dL_worked_16 : decode cL_worked 16 = .ok (.ireturn, 1) := by decide +kernel
theorem dL_worked_17 : decode cL_worked 17 = .ok (.astore 4, 2) := by decide +kernel
theorem dL_worked_19 : decode cL_worked 19 = .ok (.iconst 2, 1) := by decide +kernel
theorem dL_worked_20 : decode cL_worked 20 = .ok (.ireturn, 1) := by decide +kernel
theorem dL_worked_21 : decode cL_worked 21 = .ok (.iconst 0, 1) := by decide +kernel
theorem dL_worked_22 : decode cL_worked 22 = .ok (.ireturn, 1) := by decide +kernel
set_option maxRecDepth 20000 in
theorem ggL_excess_X3_excess : GoodIn wsL_excess wsX3_excess := goodIn_ca (goodIn_ca (goodIn_r _ [7, 8, 9, 10, 11, 12, 13, 14, 6, 15, 16, 17, 18, 19, 20, 21, 22, 23, 24, 25, 26, 27, 28, 29, 30, 31, 32, 33, 34, 35, 36, 37, 38, 39, 40, 41, 42, 43, 44, 45, 46, 47, 48, 49, 50, 51, 52, 53, 54, 55, 56, 57, 58, 59, 60, 61, 62, 63, 64, 65, 66, 67, 68, 69, 70, 71, 72, 73, 74, 75, 76, 77, 78, 79, 80, 81, 82, 83] (by decide +kernel) (by decide +kernel)) (goodIn_sub (fun _ h => List.mem_cons_of_mem _ (List.mem_append_left _ (List.mem_append_right _ h))) (by decide +kernel))) (goodIn_sub (fun _ h => List.mem_cons_of_mem _ (List.mem_append_right _ h)) (by decide +kernel))
set_option maxRecDepth 20000 in
theorem gL_excess_X3_excess : GoodIn wsL_excess (wsV RL 72 RX3 yX3_excess wsX3_excess) := goodIn_app (goodIn_of _ (by decide +kernel)) ggL_excess_X3_excess
theorem dL_excess_0 : decode cL_excess 0 = .ok (.aload_n 3, 1) := by decide +kernel
theorem dL_excess_1 : decode cL_excess 1 = .ok (.iconst 0, 1) := by decide +kernel
theorem dL_excess_2 : decode cL_excess 2 = .ok (.aload_n 0, 1) := by decide +kernel
theorem dL_excess_3 : decode cL_excess 3 = .ok (.iload_n 1, 1) := by decide +kernel
theorem dL_excess_4 : decode cL_excess 4 = .ok (.iload_n 2, 1) := by decide +kernel
theorem dL_excess_5 : decode cL_excess 5 = .ok (.invokevirtual 72, 3) := by decide +kernel
theorem dL_excess_8 : decode cL_excess 8 = .ok (.i2l, 1) := by decide +kernel
theorem dL_excess_9 : decode cL_excess 9 = .ok (.lastore, 1) := by decide +kernel
theorem dL_excess_10 : decode cL_excess 10 = .ok (.goto 11, 3) := by decide +kernel
theorem dL_excess_13 : decode cL_excess 13 = .ok (.astore 4, 2) := by decide +kernel
theorem dL_excess_15 : decode cL_excess 15 = .ok (.iconst 1, 1) := by decide +kernel
theorem dL_excess_16 : decode cL_excess 16 = .ok (.ireturn, 1) := by decide +kernel
theorem dL_excess_17 : decode cL_excess 17 = .ok (.astore 4, 2) := by decide +kernel
theorem dL_excess_19 : decode cL_excess 19 = .ok (.iconst 2, 1) := by decide +kernel
theorem dL_excess_20 : decode cL_excess 20 = .ok (.ireturn, 1) := by decide +kernel
theorem dL_excess_21 : decode cL_excess 21 = .ok (.iconst 0, 1) := by decide +kernel
theorem dL_excess_22 : decode cL_excess 22 = .ok (.ireturn, 1) := by decide +kernel
set_option maxRecDepth 20000 in
theorem ggL_law_X3_init : GoodIn wsL_law wsX3_init := goodIn_r _ [9, 10, 11, 12, 13, 14, 15, 16, 17, 18, 19, 20, 21, 22, 23, 24, 25, 26, 27, 28, 29, 30, 31, 32, 33, 34, 35, 36, 37, 38, 39, 40, 41, 551, 552, 553, 554, 555, 574, 575, 576] (by decide +kernel) (by decide +kernel)
set_option maxRecDepth 20000 in
theorem gL_law_X3_init : GoodIn wsL_law (wsX3_init) := ggL_law_X3_init
set_option maxRecDepth 20000 in
theorem ggL_law_X4_init : GoodIn wsL_law wsX4_init := goodIn_r _ [44, 45, 11, 12, 13, 46, 47, 48, 49, 50, 51, 15, 52, 53, 54, 55, 56, 57, 58, 59, 556, 557, 558, 559, 560, 561, 562, 563, 564, 565, 566, 567, 568, 569, 570, 571, 572, 573] (by decide +kernel) (by decide +kernel)
set_option maxRecDepth 20000 in
theorem gL_law_X4_init : GoodIn wsL_law (wsX4_init) := ggL_law_X4_init
set_option maxRecDepth 20000 in
theorem ggL_law_L_setBase : GoodIn wsL_law wsL_setBase := goodIn_ca (goodIn_r _ [63, 64, 65, 66, 67, 2, 68, 69, 70, 14, 71, 72, 73, 551, 552, 553, 554, 555] (by decide +kernel) (by decide +kernel)) (goodIn_sub (fun _ h => List.mem_append_left _ (List.mem_append_left _ (List.mem_append_right _ h))) (by decide +kernel))
set_option maxRecDepth 20000 in
theorem gL_law_L_setBase : GoodIn wsL_law (va_wsS RL 79 yL_setBase wsL_setBase) := goodIn_app (goodIn_of _ (by decide +kernel)) ggL_law_L_setBase
set_option maxRecDepth 20000 in
theorem ggL_law_X4_setBase : GoodIn wsL_law wsX4_setBase := goodIn_r _ [77, 78, 46, 79, 80, 5, 81, 556, 557, 558, 559, 560, 561, 562, 563, 564, 565, 566, 567, 568, 569, 570, 571, 572, 573] (by decide +kernel) (by decide +kernel)
set_option maxRecDepth 20000 in
theorem gL_law_X4_setBase : GoodIn wsL_law (wsV RL 84 RX4 yX4_setBase wsX4_setBase) := goodIn_app (goodIn_of _ (by decide +kernel)) ggL_law_X4_setBase
set_option maxRecDepth 20000 in
theorem ggL_law_X4_thrown : GoodIn wsL_law wsX4_thrown := goodIn_r _ [85, 78, 556, 557, 558, 559, 560, 561, 562, 563, 564, 565, 566, 567, 568, 569, 570, 571, 572, 573] (by decide +kernel) (by decide +kernel)
set_option maxRecDepth 20000 in
theorem gL_law_X4_thrown : GoodIn wsL_law (wsV RL 85 RX4 yX4_thrown wsX4_thrown) := goodIn_app (goodIn_of _ (by decide +kernel)) ggL_law_X4_thrown
set_option maxRecDepth 20000 in
theorem ggL_law_L_addRule : GoodIn wsL_law wsL_addRule := goodIn_ca (goodIn_ca (goodIn_r _ [88, 64, 89, 90, 91, 92, 2, 93, 94, 95, 20, 96, 97, 98, 71, 72, 73, 69, 70, 99, 100, 101, 19, 102, 103, 104, 105, 106, 107, 11, 12, 108, 109, 110, 111, 112, 113, 114, 115, 116, 117, 118, 119, 120, 31, 121, 122, 123, 124, 125, 126, 127, 128, 129, 130, 131, 132, 30, 133, 134, 135, 136, 137, 138, 139, 140, 141, 142, 143, 144, 145, 146, 147, 148, 25, 149, 150, 151, 152, 153, 154, 155, 156, 157, 158, 159, 160, 161, 162, 163, 164, 165, 551, 552, 553, 554, 555, 577, 578, 579, 580, 581, 582, 583, 574, 575, 576] (by decide +kernel) (by decide +kernel)) (goodIn_sub (fun _ h => List.mem_append_left _ (List.mem_append_right _ h)) (by decide +kernel))) (goodIn_sub (fun _ h => List.mem_append_left _ (List.mem_append_left _ (List.mem_append_right _ h))) (by decide +kernel))
set_option maxRecDepth 20000 in
theorem gL_law_L_addRule : GoodIn wsL_law (va_wsS RL 89 yL_addRule wsL_addRule) := goodIn_app (goodIn_of _ (by decide +kernel)) ggL_law_L_addRule
set_option maxRecDepth 20000 in
theorem ggL_law_X4_addRule : GoodIn wsL_law wsX4_addRule := goodIn_r _ [169, 170, 78, 47, 48, 49, 50, 51, 79, 80, 5, 81, 556, 557, 558, 559, 560, 561, 562, 563, 564, 565, 566, 567, 568, 569, 570, 571, 572, 573] (by decide +kernel) (by decide +kernel)
set_option maxRecDepth 20000 in
theorem gL_law_X4_addRule : GoodIn wsL_law (wsV RL 92 RX4 yX4_addRule wsX4_addRule) := goodIn_app (goodIn_of _ (by decide +kernel)) ggL_law_X4_addRule
set_option maxRecDepth 20000 in
theorem ggL_law_L_setRule : GoodIn wsL_law wsL_setRule := goodIn_ca (goodIn_r _ [173, 174, 175, 176, 177, 2, 178, 179, 180, 181, 182, 183, 184, 185, 20, 186, 99, 100, 101, 19, 102, 103, 187, 188, 189, 190, 191, 192, 193, 194, 195, 196, 197, 198, 199, 200, 201, 202, 31, 577, 578, 579, 580, 581, 582, 583, 551, 552, 553, 554, 555, 574, 575, 576] (by decide +kernel) (by decide +kernel)) (goodIn_sub (fun _ h => List.mem_append_right _ h) (by decide +kernel))
set_option maxRecDepth 20000 in
theorem gL_law_L_setRule : GoodIn wsL_law (va_wsS RL 93 yL_setRule wsL_setRule) := goodIn_app (goodIn_of _ (by decide +kernel)) ggL_law_L_setRule
set_option maxRecDepth 20000 in
theorem ggL_law_X4_setRule : GoodIn wsL_law wsX4_setRule := goodIn_r _ [206, 170, 78, 52, 79, 80, 5, 81, 556, 557, 558, 559, 560, 561, 562, 563, 564, 565, 566, 567, 568, 569, 570, 571, 572, 573] (by decide +kernel) (by decide +kernel)
set_option maxRecDepth 20000 in
theorem gL_law_X4_setRule : GoodIn wsL_law (wsV RL 96 RX4 yX4_setRule wsX4_setRule) := goodIn_app (goodIn_of _ (by decide +kernel)) ggL_law_X4_setRule
set_option maxRecDepth 20000 in
theorem ggL_law_L_setHoliday : GoodIn wsL_law wsL_setHoliday := goodIn_ca (goodIn_r _ [209, 64, 210, 211, 212, 2, 213, 69, 70, 16, 551, 552, 553, 554, 555] (by decide +kernel) (by decide +kernel)) (goodIn_sub (fun _ h => List.mem_append_left _ (List.mem_append_left _ (List.mem_append_right _ h))) (by decide +kernel))
set_option maxRecDepth 20000 in
theorem gL_law_L_setHoliday : GoodIn wsL_law (va_wsS RL 97 yL_setHoliday wsL_setHoliday) := goodIn_app (goodIn_of _ (by decide +kernel)) ggL_law_L_setHoliday
set_option maxRecDepth 20000 in
theorem ggL_law_X4_setHoliday : GoodIn wsL_law wsX4_setHoliday := goodIn_r _ [217, 78, 53, 79, 80, 5, 81, 556, 557, 558, 559, 560, 561, 562, 563, 564, 565, 566, 567, 568, 569, 570, 571, 572, 573] (by decide +kernel) (by decide +kernel)
set_option maxRecDepth 20000 in
theorem gL_law_X4_setHoliday : GoodIn wsL_law (wsV RL 99 RX4 yX4_setHoliday wsX4_setHoliday) := goodIn_app (goodIn_of _ (by decide +kernel)) ggL_law_X4_setHoliday
set_option maxRecDepth 20000 in
theorem ggL_law_L_addWorker : GoodIn wsL_law wsL_addWorker := goodIn_ca (goodIn_ca (goodIn_r _ [220, 64, 89, 221, 222, 223, 2, 224, 94, 95, 21, 225, 226, 227, 71, 72, 73, 69, 70, 99, 100, 101, 19, 102, 103, 228, 229, 230, 231, 11, 12, 232, 115, 116, 117, 118, 119, 120, 31, 121, 122, 123, 124, 125, 126, 127, 128, 129, 130, 131, 132, 30, 133, 134, 135, 136, 137, 138, 139, 140, 141, 142, 143, 144, 145, 146, 147, 148, 25, 149, 150, 151, 152, 153, 154, 155, 156, 157, 158, 159, 160, 161, 162, 163, 164, 165, 551, 552, 553, 554, 555, 584, 574, 575, 576] (by decide +kernel) (by decide +kernel)) (goodIn_sub (fun _ h => List.mem_append_left _ (List.mem_append_right _ h)) (by decide +kernel))) (goodIn_sub (fun _ h => List.mem_append_left _ (List.mem_append_left _ (List.mem_append_right _ h))) (by decide +kernel))
set_option maxRecDepth 20000 in
theorem gL_law_L_addWorker : GoodIn wsL_law (va_wsS RL 100 yL_addWorker wsL_addWorker) := goodIn_app (goodIn_of _ (by decide +kernel)) ggL_law_L_addWorker
set_option maxRecDepth 20000 in
theorem ggL_law_X4_addWorker : GoodIn wsL_law wsX4_addWorker := goodIn_r _ [236, 237, 78, 54, 79, 80, 5, 81, 556, 557, 558, 559, 560, 561, 562, 563, 564, 565, 566, 567, 568, 569, 570, 571, 572, 573] (by decide +kernel) (by decide +kernel)
set_option maxRecDepth 20000 in
theorem gL_law_X4_addWorker : GoodIn wsL_law (wsV RL 103 RX4 yX4_addWorker wsX4_addWorker) := goodIn_app (goodIn_of _ (by decide +kernel)) ggL_law_X4_addWorker
set_option maxRecDepth 20000 in
theorem ggL_law_L_setRank : GoodIn wsL_law wsL_setRank := goodIn_ca (goodIn_ca (goodIn_r _ [240, 174, 64, 241, 242, 243, 2, 244, 245, 246, 247, 248, 249, 184, 185, 21, 250, 99, 100, 101, 19, 102, 103, 187, 188, 189, 190, 191, 192, 193, 194, 195, 196, 197, 198, 199, 200, 201, 202, 31, 71, 72, 73, 69, 70, 584, 551, 552, 553, 554, 555, 574, 575, 576] (by decide +kernel) (by decide +kernel)) (goodIn_sub (fun _ h => List.mem_append_right _ h) (by decide +kernel))) (goodIn_sub (fun _ h => List.mem_append_left _ (List.mem_append_left _ (List.mem_append_right _ h))) (by decide +kernel))
set_option maxRecDepth 20000 in
theorem gL_law_L_setRank : GoodIn wsL_law (va_wsS RL 104 yL_setRank wsL_setRank) := goodIn_app (goodIn_of _ (by decide +kernel)) ggL_law_L_setRank
set_option maxRecDepth 20000 in
theorem ggL_law_X4_setRank : GoodIn wsL_law wsX4_setRank := goodIn_r _ [254, 78, 54, 255, 256, 257, 5, 258, 237, 79, 80, 81, 556, 557, 558, 559, 560, 561, 562, 563, 564, 565, 566, 567, 568, 569, 570, 571, 572, 573] (by decide +kernel) (by decide +kernel)
set_option maxRecDepth 20000 in
theorem gL_law_X4_setRank : GoodIn wsL_law (wsV RL 106 RX4 yX4_setRank wsX4_setRank) := goodIn_app (goodIn_of _ (by decide +kernel)) ggL_law_X4_setRank
set_option maxRecDepth 20000 in
theorem ggL_law_L_addShift : GoodIn wsL_law wsL_addShift := goodIn_ca (goodIn_ca (goodIn_ca (goodIn_r _ [261, 174, 64, 89, 262, 263, 264, 2, 265, 94, 95, 22, 266, 267, 268, 246, 247, 248, 249, 184, 185, 21, 250, 99, 100, 101, 19, 102, 103, 187, 188, 189, 190, 191, 192, 193, 194, 195, 196, 197, 198, 199, 200, 201, 202, 31, 71, 72, 73, 69, 70, 269, 270, 271, 272, 273, 274, 275, 276, 277, 278, 279, 280, 281, 282, 283, 284, 285, 286, 160, 135, 161, 287, 134, 136, 288, 289, 290, 291, 11, 12, 292, 293, 294, 115, 116, 117, 118, 119, 120, 121, 122, 123, 124, 125, 126, 127, 128, 129, 130, 131, 132, 30, 133, 137, 138, 139, 140, 141, 142, 143, 144, 145, 146, 147, 148, 25, 149, 150, 151, 152, 153, 154, 155, 156, 157, 158, 159, 162, 163, 164, 165, 551, 552, 553, 554, 555, 585, 586, 587, 588, 589, 574, 575, 576] (by decide +kernel) (by decide +kernel)) (goodIn_sub (fun _ h => List.mem_append_left _ (List.mem_append_right _ h)) (by decide +kernel))) (goodIn_sub (fun _ h => List.mem_append_right _ h) (by decide +kernel))) (goodIn_sub (fun _ h => List.mem_append_left _ (List.mem_append_left _ (List.mem_append_right _ h))) (by decide +kernel))
set_option maxRecDepth 20000 in
theorem gL_law_L_addShift : GoodIn wsL_law (va_wsS RL 107 yL_addShift wsL_addShift) := goodIn_app (goodIn_of _ (by decide +kernel)) ggL_law_L_addShift
set_option maxRecDepth 20000 in
theorem ggL_law_X4_addShift : GoodIn wsL_law wsX4_addShift := goodIn_r _ [298, 78, 299, 59, 55, 56, 57, 79, 80, 5, 81, 255, 256, 257, 258, 237, 556, 557, 558, 559, 560, 561, 562, 563, 564, 565, 566, 567, 568, 569, 570, 571, 572, 573] (by decide +kernel) (by decide +kernel)
set_option maxRecDepth 20000 in
theorem gL_law_X4_addShift : GoodIn wsL_law (wsV RL 110 RX4 yX4_addShift wsX4_addShift) := goodIn_app (goodIn_of _ (by decide +kernel)) ggL_law_X4_addShift
set_option maxRecDepth 20000 in
theorem ggL_law_L_cancel : GoodIn wsL_law wsL_cancel := goodIn_ca (goodIn_ca (goodIn_r _ [302, 174, 89, 303, 304, 305, 2, 306, 279, 307, 308, 309, 310, 184, 185, 22, 277, 99, 100, 101, 19, 102, 103, 187, 188, 189, 190, 191, 192, 193, 194, 195, 196, 197, 198, 199, 200, 201, 202, 31, 311, 312, 313, 94, 95, 314, 315, 316, 317, 278, 245, 318, 319, 320, 321, 14, 322, 323, 324, 268, 325, 294, 293, 287, 134, 135, 136, 326, 327, 328, 329, 285, 330, 331, 332, 333, 334, 335, 336, 337, 338, 339, 340, 341, 342, 20, 186, 343, 344, 345, 346, 284, 347, 348, 349, 350, 351, 352, 353, 354, 16, 355, 356, 357, 358, 359, 360, 98, 361, 114, 112, 110, 111, 362, 363, 364, 365, 366, 367, 368, 109, 369, 370, 371, 585, 586, 587, 588, 589, 551, 552, 553, 554, 555, 574, 575, 576, 584, 577, 578, 579, 580, 581, 582, 583] (by decide +kernel) (by decide +kernel)) (goodIn_sub (fun _ h => List.mem_append_right _ h) (by decide +kernel))) (goodIn_sub (fun _ h => List.mem_append_left _ (List.mem_append_right _ h)) (by decide +kernel))
set_option maxRecDepth 20000 in
theorem gL_law_L_cancel : GoodIn wsL_law (va_wsS RL 111 yL_cancel wsL_cancel) := goodIn_app (goodIn_of _ (by decide +kernel)) ggL_law_L_cancel
set_option maxRecDepth 20000 in
theorem ggL_law_X4_cancel : GoodIn wsL_law wsX4_cancel := goodIn_r _ [375, 59, 78, 376, 377, 378, 5, 379, 299, 79, 80, 81, 380, 381, 382, 383, 46, 54, 55, 384, 385, 386, 387, 57, 58, 388, 389, 390, 391, 392, 393, 394, 395, 396, 397, 398, 399, 170, 51, 56, 400, 401, 402, 403, 404, 405, 406, 47, 53, 52, 50, 48, 49, 556, 557, 558, 559, 560, 561, 562, 563, 564, 565, 566, 567, 568, 569, 570, 571, 572, 573] (by decide +kernel) (by decide +kernel)
set_option maxRecDepth 20000 in
theorem gL_law_X4_cancel : GoodIn wsL_law (wsV RL 113 RX4 yX4_cancel wsX4_cancel) := goodIn_app (goodIn_of _ (by decide +kernel)) ggL_law_X4_cancel
set_option maxRecDepth 20000 in
theorem ggL_law_L_takeBreaks : GoodIn wsL_law wsL_takeBreaks := goodIn_ca (goodIn_ca (goodIn_ca (goodIn_r _ [409, 174, 64, 89, 410, 411, 412, 2, 413, 414, 307, 308, 309, 310, 184, 185, 22, 277, 99, 100, 101, 19, 102, 103, 187, 188, 189, 190, 191, 192, 193, 194, 195, 196, 197, 198, 199, 200, 201, 202, 31, 71, 72, 73, 69, 70, 311, 312, 313, 94, 95, 279, 585, 586, 587, 588, 589, 551, 552, 553, 554, 555, 574, 575, 576] (by decide +kernel) (by decide +kernel)) (goodIn_sub (fun _ h => List.mem_append_right _ h) (by decide +kernel))) (goodIn_sub (fun _ h => List.mem_append_left _ (List.mem_append_left _ (List.mem_append_right _ h))) (by decide +kernel))) (goodIn_sub (fun _ h => List.mem_append_left _ (List.mem_append_right _ h)) (by decide +kernel))
set_option maxRecDepth 20000 in
theorem gL_law_L_takeBreaks : GoodIn wsL_law (va_wsS RL 114 yL_takeBreaks wsL_takeBreaks) := goodIn_app (goodIn_of _ (by decide +kernel)) ggL_law_L_takeBreaks
set_option maxRecDepth 20000 in
theorem ggL_law_X4_takeBreaks : GoodIn wsL_law wsX4_takeBreaks := goodIn_r _ [418, 59, 78, 58, 376, 377, 378, 5, 379, 299, 79, 80, 81, 556, 557, 558, 559, 560, 561, 562, 563, 564, 565, 566, 567, 568, 569, 570, 571, 572, 573] (by decide +kernel) (by decide +kernel)
set_option maxRecDepth 20000 in
theorem gL_law_X4_takeBreaks : GoodIn wsL_law (wsV RL 116 RX4 yX4_takeBreaks wsX4_takeBreaks) := goodIn_app (goodIn_of _ (by decide +kernel)) ggL_law_X4_takeBreaks
set_option maxRecDepth 20000 in
theorem ggL_law_X3_shifts : GoodIn wsL_law wsX3_shifts := goodIn_r _ [422, 22, 99, 100, 101, 19, 102, 103, 551, 552, 553, 554, 555, 574, 575, 576] (by decide +kernel) (by decide +kernel)
set_option maxRecDepth 20000 in
theorem gL_law_X3_shifts : GoodIn wsL_law (wsV RL 117 RX3 yX3_shifts wsX3_shifts) := goodIn_app (goodIn_of _ (by decide +kernel)) ggL_law_X3_shifts
set_option maxRecDepth 20000 in
theorem ggL_law_X4_shifts : GoodIn wsL_law wsX4_shifts := goodIn_r _ [426, 78, 299, 556, 557, 558, 559, 560, 561, 562, 563, 564, 565, 566, 567, 568, 569, 570, 571, 572, 573] (by decide +kernel) (by decide +kernel)
set_option maxRecDepth 20000 in
theorem gL_law_X4_shifts : GoodIn wsL_law (wsV RL 120 RX4 yX4_shifts wsX4_shifts) := goodIn_app (goodIn_of _ (by decide +kernel)) ggL_law_X4_shifts
set_option maxRecDepth 20000 in
theorem ggL_law_L_paidQuarters : GoodIn wsL_law wsL_paidQuarters := goodIn_ca (goodIn_r _ [429, 174, 430, 431, 432, 2, 433, 307, 308, 309, 310, 184, 185, 22, 277, 99, 100, 101, 19, 102, 103, 187, 188, 189, 190, 191, 192, 193, 194, 195, 196, 197, 198, 199, 200, 201, 202, 31, 330, 331, 332, 268, 333, 294, 285, 287, 134, 135, 136, 551, 552, 553, 554, 555, 574, 575, 576, 585, 586, 587, 588, 589] (by decide +kernel) (by decide +kernel)) (goodIn_sub (fun _ h => List.mem_append_right _ h) (by decide +kernel))
set_option maxRecDepth 20000 in
theorem gL_law_L_paidQuarters : GoodIn wsL_law (va_wsS RL 121 yL_paidQuarters wsL_paidQuarters) := goodIn_app (goodIn_of _ (by decide +kernel)) ggL_law_L_paidQuarters
set_option maxRecDepth 20000 in
theorem ggL_law_X4_paidQuarters : GoodIn wsL_law wsX4_paidQuarters := goodIn_r _ [437, 376, 377, 378, 5, 379, 299, 78, 79, 80, 81, 388, 389, 390, 391, 59, 57, 556, 557, 558, 559, 560, 561, 562, 563, 564, 565, 566, 567, 568, 569, 570, 571, 572, 573] (by decide +kernel) (by decide +kernel)
set_option maxRecDepth 20000 in
theorem gL_law_X4_paidQuarters : GoodIn wsL_law (wsV RL 123 RX4 yX4_paidQuarters wsX4_paidQuarters) := goodIn_app (goodIn_of _ (by decide +kernel)) ggL_law_X4_paidQuarters
set_option maxRecDepth 20000 in
theorem ggL_law_L_percentAt : GoodIn wsL_law wsL_percentAt := goodIn_ca (goodIn_r _ [440, 174, 441, 442, 443, 2, 444, 307, 308, 309, 310, 184, 185, 22, 277, 99, 100, 101, 19, 102, 103, 187, 188, 189, 190, 191, 192, 193, 194, 195, 196, 197, 198, 199, 200, 201, 202, 31, 445, 446, 447, 330, 331, 332, 268, 333, 294, 285, 287, 134, 135, 136, 334, 335, 336, 337, 338, 339, 340, 341, 342, 20, 186, 278, 245, 343, 344, 345, 346, 284, 347, 348, 349, 350, 351, 352, 353, 354, 16, 355, 356, 357, 358, 359, 360, 98, 361, 114, 112, 110, 111, 362, 363, 364, 365, 366, 367, 368, 109, 551, 552, 553, 554, 555, 574, 575, 576, 585, 586, 587, 588, 589, 577, 578, 579, 580, 581, 582, 583, 584] (by decide +kernel) (by decide +kernel)) (goodIn_sub (fun _ h => List.mem_append_right _ h) (by decide +kernel))
set_option maxRecDepth 20000 in
theorem gL_law_L_percentAt : GoodIn wsL_law (va_wsS RL 124 yL_percentAt wsL_percentAt) := goodIn_app (goodIn_of _ (by decide +kernel)) ggL_law_L_percentAt
set_option maxRecDepth 20000 in
theorem ggL_law_X4_percentAt : GoodIn wsL_law wsX4_percentAt := goodIn_r _ [451, 452, 453, 454, 5, 455, 78, 376, 377, 378, 379, 299, 79, 80, 81, 388, 389, 390, 391, 59, 57, 396, 397, 398, 399, 170, 51, 56, 54, 55, 400, 401, 402, 403, 404, 405, 406, 47, 53, 52, 50, 48, 49, 556, 557, 558, 559, 560, 561, 562, 563, 564, 565, 566, 567, 568, 569, 570, 571, 572, 573] (by decide +kernel) (by decide +kernel)
set_option maxRecDepth 20000 in
theorem gL_law_X4_percentAt : GoodIn wsL_law (wsV RL 126 RX4 yX4_percentAt wsX4_percentAt) := goodIn_app (goodIn_of _ (by decide +kernel)) ggL_law_X4_percentAt
set_option maxRecDepth 20000 in
theorem ggL_law_L_reasonAt : GoodIn wsL_law wsL_reasonAt := goodIn_ca (goodIn_r _ [458, 174, 459, 460, 461, 2, 462, 463, 307, 308, 309, 310, 184, 185, 22, 277, 99, 100, 101, 19, 102, 103, 187, 188, 189, 190, 191, 192, 193, 194, 195, 196, 197, 198, 199, 200, 201, 202, 31, 445, 446, 447, 330, 331, 332, 268, 333, 294, 285, 287, 134, 135, 136, 339, 340, 341, 342, 20, 186, 338, 278, 245, 343, 344, 345, 346, 284, 347, 348, 349, 350, 351, 352, 353, 354, 16, 355, 356, 357, 358, 359, 360, 98, 361, 114, 112, 110, 111, 362, 363, 364, 365, 366, 367, 368, 109, 577, 578, 579, 580, 581, 582, 583, 551, 552, 553, 554, 555, 574, 575, 576, 585, 586, 587, 588, 589, 584] (by decide +kernel) (by decide +kernel)) (goodIn_sub (fun _ h => List.mem_append_right _ h) (by decide +kernel))
set_option maxRecDepth 20000 in
theorem gL_law_L_reasonAt : GoodIn wsL_law (va_wsS RL 127 yL_reasonAt wsL_reasonAt) := goodIn_app (goodIn_of _ (by decide +kernel)) ggL_law_L_reasonAt
set_option maxRecDepth 20000 in
theorem ggL_law_X4_reasonAt : GoodIn wsL_law wsX4_reasonAt := goodIn_r _ [467, 452, 453, 454, 5, 455, 78, 376, 377, 378, 379, 299, 79, 80, 81, 388, 389, 390, 391, 59, 57, 468, 469, 470, 471, 170, 51, 56, 54, 55, 396, 397, 398, 399, 400, 401, 402, 403, 404, 405, 406, 47, 53, 52, 50, 48, 49, 556, 557, 558, 559, 560, 561, 562, 563, 564, 565, 566, 567, 568, 569, 570, 571, 572, 573] (by decide +kernel) (by decide +kernel)
set_option maxRecDepth 20000 in
theorem gL_law_X4_reasonAt : GoodIn wsL_law (wsV RL 129 RX4 yX4_reasonAt wsX4_reasonAt) := goodIn_app (goodIn_of _ (by decide +kernel)) ggL_law_X4_reasonAt
set_option maxRecDepth 20000 in
theorem ggL_law_L_missed : GoodIn wsL_law wsL_missed := goodIn_ca (goodIn_r _ [474, 174, 475, 476, 477, 2, 478, 307, 308, 309, 310, 184, 185, 22, 277, 99, 100, 101, 19, 102, 103, 187, 188, 189, 190, 191, 192, 193, 194, 195, 196, 197, 198, 199, 200, 201, 202, 31, 322, 323, 324, 268, 325, 294, 293, 287, 134, 135, 136, 326, 327, 328, 329, 285, 551, 552, 553, 554, 555, 574, 575, 576, 585, 586, 587, 588, 589] (by decide +kernel) (by decide +kernel)) (goodIn_sub (fun _ h => List.mem_append_right _ h) (by decide +kernel))
set_option maxRecDepth 20000 in
theorem gL_law_L_missed : GoodIn wsL_law (va_wsS RL 130 yL_missed wsL_missed) := goodIn_app (goodIn_of _ (by decide +kernel)) ggL_law_L_missed
set_option maxRecDepth 20000 in
theorem ggL_law_X4_missed : GoodIn wsL_law wsX4_missed := goodIn_r _ [482, 376, 377, 378, 5, 379, 299, 78, 79, 80, 81, 384, 385, 386, 387, 57, 59, 58, 556, 557, 558, 559, 560, 561, 562, 563, 564, 565, 566, 567, 568, 569, 570, 571, 572, 573] (by decide +kernel) (by decide +kernel)
set_option maxRecDepth 20000 in
theorem gL_law_X4_missed : GoodIn wsL_law (wsV RL 132 RX4 yX4_missed wsX4_missed) := goodIn_app (goodIn_of _ (by decide +kernel)) ggL_law_X4_missed
set_option maxRecDepth 20000 in
theorem ggL_law_L_pay : GoodIn wsL_law wsL_pay := goodIn_ca (goodIn_r _ [485, 174, 486, 487, 488, 2, 489, 307, 308, 309, 310, 184, 185, 22, 277, 99, 100, 101, 19, 102, 103, 187, 188, 189, 190, 191, 192, 193, 194, 195, 196, 197, 198, 199, 200, 201, 202, 31, 314, 315, 316, 317, 278, 245, 318, 319, 320, 321, 14, 322, 323, 324, 268, 325, 294, 293, 287, 134, 135, 136, 326, 327, 328, 329, 285, 330, 331, 332, 333, 334, 335, 336, 337, 338, 339, 340, 341, 342, 20, 186, 343, 344, 345, 346, 284, 347, 348, 349, 350, 351, 352, 353, 354, 16, 355, 356, 357, 358, 359, 360, 98, 361, 114, 112, 110, 111, 362, 363, 364, 365, 366, 367, 368, 109, 369, 370, 371, 551, 552, 553, 554, 555, 574, 575, 576, 585, 586, 587, 588, 589, 584, 577, 578, 579, 580, 581, 582, 583] (by decide +kernel) (by decide +kernel)) (goodIn_sub (fun _ h => List.mem_append_right _ h) (by decide +kernel))
set_option maxRecDepth 20000 in
theorem gL_law_L_pay : GoodIn wsL_law (va_wsS RL 133 yL_pay wsL_pay) := goodIn_app (goodIn_of _ (by decide +kernel)) ggL_law_L_pay
set_option maxRecDepth 20000 in
theorem ggL_law_X4_pay : GoodIn wsL_law wsX4_pay := goodIn_r _ [493, 376, 377, 378, 5, 379, 299, 78, 79, 80, 81, 380, 381, 382, 383, 46, 54, 55, 384, 385, 386, 387, 57, 59, 58, 388, 389, 390, 391, 392, 393, 394, 395, 396, 397, 398, 399, 170, 51, 56, 400, 401, 402, 403, 404, 405, 406, 47, 53, 52, 50, 48, 49, 556, 557, 558, 559, 560, 561, 562, 563, 564, 565, 566, 567, 568, 569, 570, 571, 572, 573] (by decide +kernel) (by decide +kernel)
set_option maxRecDepth 20000 in
theorem gL_law_X4_pay : GoodIn wsL_law (wsV RL 135 RX4 yX4_pay wsX4_pay) := goodIn_app (goodIn_of _ (by decide +kernel)) ggL_law_X4_pay
set_option maxRecDepth 20000 in
theorem ggL_law_L_payOf : GoodIn wsL_law wsL_payOf := goodIn_ca (goodIn_ca (goodIn_r _ [496, 174, 64, 497, 498, 499, 2, 500, 22, 277, 278, 246, 247, 248, 249, 184, 185, 21, 250, 99, 100, 101, 19, 102, 103, 187, 188, 189, 190, 191, 192, 193, 194, 195, 196, 197, 198, 199, 200, 201, 202, 31, 71, 72, 73, 69, 70, 343, 344, 345, 268, 346, 284, 314, 315, 316, 317, 245, 318, 319, 320, 321, 14, 322, 323, 324, 325, 294, 293, 287, 134, 135, 136, 326, 327, 328, 329, 285, 330, 331, 332, 333, 334, 335, 336, 337, 338, 339, 340, 341, 342, 20, 186, 347, 348, 349, 350, 351, 352, 353, 354, 16, 355, 356, 357, 358, 359, 360, 98, 361, 114, 112, 110, 111, 362, 363, 364, 365, 366, 367, 368, 109, 369, 370, 371, 551, 552, 553, 554, 555, 585, 586, 587, 588, 589, 574, 575, 576, 584, 577, 578, 579, 580, 581, 582, 583] (by decide +kernel) (by decide +kernel)) (goodIn_sub (fun _ h => List.mem_append_right _ h) (by decide +kernel))) (goodIn_sub (fun _ h => List.mem_append_left _ (List.mem_append_left _ (List.mem_append_right _ h))) (by decide +kernel))
set_option maxRecDepth 20000 in
theorem gL_law_L_payOf : GoodIn wsL_law (va_wsS RL 136 yL_payOf wsL_payOf) := goodIn_app (goodIn_of _ (by decide +kernel)) ggL_law_L_payOf
set_option maxRecDepth 20000 in
theorem ggL_law_X4_payOf : GoodIn wsL_law wsX4_payOf := goodIn_r _ [504, 78, 299, 55, 56, 255, 256, 257, 5, 258, 237, 79, 80, 81, 380, 381, 382, 383, 46, 54, 384, 385, 386, 387, 57, 59, 58, 388, 389, 390, 391, 392, 393, 394, 395, 396, 397, 398, 399, 170, 51, 400, 401, 402, 403, 404, 405, 406, 47, 53, 52, 50, 48, 49, 556, 557, 558, 559, 560, 561, 562, 563, 564, 565, 566, 567, 568, 569, 570, 571, 572, 573] (by decide +kernel) (by decide +kernel)
set_option maxRecDepth 20000 in
theorem gL_law_X4_payOf : GoodIn wsL_law (wsV RL 139 RX4 yX4_payOf wsX4_payOf) := goodIn_app (goodIn_of _ (by decide +kernel)) ggL_law_X4_payOf
set_option maxRecDepth 20000 in
theorem ggL_law_L_paidBy : GoodIn wsL_law wsL_paidBy := goodIn_ca (goodIn_r _ [507, 174, 508, 509, 510, 2, 511, 22, 277, 180, 181, 182, 183, 184, 185, 20, 186, 99, 100, 101, 19, 102, 103, 187, 188, 189, 190, 191, 192, 193, 194, 195, 196, 197, 198, 199, 200, 201, 202, 31, 512, 513, 514, 515, 278, 245, 463, 338, 318, 319, 320, 321, 14, 330, 331, 332, 268, 333, 294, 285, 287, 134, 135, 136, 339, 340, 341, 342, 343, 344, 345, 346, 284, 347, 348, 349, 350, 351, 352, 353, 354, 16, 355, 356, 357, 358, 359, 360, 98, 361, 114, 112, 110, 111, 362, 363, 364, 365, 366, 367, 368, 109, 369, 370, 371, 551, 552, 553, 554, 555, 574, 575, 576, 585, 586, 587, 588, 589, 584, 577, 578, 579, 580, 581, 582, 583] (by decide +kernel) (by decide +kernel)) (goodIn_sub (fun _ h => List.mem_append_right _ h) (by decide +kernel))
set_option maxRecDepth 20000 in
theorem gL_law_L_paidBy : GoodIn wsL_law (va_wsS RL 140 yL_paidBy wsL_paidBy) := goodIn_app (goodIn_of _ (by decide +kernel)) ggL_law_L_paidBy
set_option maxRecDepth 20000 in
theorem ggL_law_X4_paidBy : GoodIn wsL_law wsX4_paidBy := goodIn_r _ [519, 170, 78, 299, 79, 80, 5, 81, 388, 389, 390, 391, 59, 57, 468, 469, 470, 471, 51, 56, 54, 55, 396, 397, 398, 399, 400, 401, 402, 403, 404, 405, 406, 47, 53, 52, 50, 48, 49, 392, 393, 394, 395, 46, 556, 557, 558, 559, 560, 561, 562, 563, 564, 565, 566, 567, 568, 569, 570, 571, 572, 573] (by decide +kernel) (by decide +kernel)
set_option maxRecDepth 20000 in
theorem gL_law_X4_paidBy : GoodIn wsL_law (wsV RL 142 RX4 yX4_paidBy wsX4_paidBy) := goodIn_app (goodIn_of _ (by decide +kernel)) ggL_law_X4_paidBy
set_option maxRecDepth 20000 in
theorem ggL_law_L_worked : GoodIn wsL_law wsL_worked := goodIn_ca (goodIn_ca (goodIn_r _ [522, 174, 64, 523, 524, 525, 2, 526, 246, 247, 248, 249, 184, 185, 21, 250, 99, 100, 101, 19, 102, 103, 187, 188, 189, 190, 191, 192, 193, 194, 195, 196, 197, 198, 199, 200, 201, 202, 31, 71, 72, 73, 69, 70, 527, 528, 529, 530, 273, 274, 275, 276, 22, 277, 278, 279, 280, 281, 282, 268, 283, 284, 285, 286, 160, 135, 161, 287, 134, 136, 551, 552, 553, 554, 555, 574, 575, 576, 585, 586, 587, 588, 589] (by decide +kernel) (by decide +kernel)) (goodIn_sub (fun _ h => List.mem_append_right _ h) (by decide +kernel))) (goodIn_sub (fun _ h => List.mem_append_left _ (List.mem_append_left _ (List.mem_append_right _ h))) (by decide +kernel))
set_option maxRecDepth 20000 in
theorem gL_law_L_worked : GoodIn wsL_law (va_wsS RL 143 yL_worked wsL_worked) := goodIn_app (goodIn_of _ (by decide +kernel)) ggL_law_L_worked
set_option maxRecDepth 20000 in
theorem ggL_law_X4_worked : GoodIn wsL_law wsX4_worked := goodIn_r _ [534, 78, 255, 256, 257, 5, 258, 237, 79, 80, 81, 535, 536, 537, 538, 299, 56, 57, 59, 55, 556, 557, 558, 559, 560, 561, 562, 563, 564, 565, 566, 567, 568, 569, 570, 571, 572, 573] (by decide +kernel) (by decide +kernel)
set_option maxRecDepth 20000 in
theorem gL_law_X4_worked : GoodIn wsL_law (wsV RL 145 RX4 yX4_worked wsX4_worked) := goodIn_app (goodIn_of _ (by decide +kernel)) ggL_law_X4_worked
set_option maxRecDepth 20000 in
theorem ggL_law_L_excess : GoodIn wsL_law wsL_excess := goodIn_ca (goodIn_ca (goodIn_r _ [541, 174, 64, 542, 543, 544, 2, 545, 546, 134, 135, 136, 246, 247, 248, 249, 184, 185, 21, 250, 99, 100, 101, 19, 102, 103, 187, 188, 189, 190, 191, 192, 193, 194, 195, 196, 197, 198, 199, 200, 201, 202, 31, 71, 72, 73, 69, 70, 527, 528, 529, 530, 273, 274, 275, 276, 22, 277, 278, 279, 280, 281, 282, 268, 283, 284, 285, 286, 160, 161, 287, 551, 552, 553, 554, 555, 574, 575, 576, 585, 586, 587, 588, 589] (by decide +kernel) (by decide +kernel)) (goodIn_sub (fun _ h => List.mem_append_right _ h) (by decide +kernel))) (goodIn_sub (fun _ h => List.mem_append_left _ (List.mem_append_left _ (List.mem_append_right _ h))) (by decide +kernel))
set_option maxRecDepth 20000 in
theorem gL_law_L_excess : GoodIn wsL_law (va_wsS RL 146 yL_excess wsL_excess) := goodIn_app (goodIn_of _ (by decide +kernel)) ggL_law_L_excess
set_option maxRecDepth 20000 in
theorem ggL_law_X4_excess : GoodIn wsL_law wsX4_excess := goodIn_r _ [550, 78, 255, 256, 257, 5, 258, 237, 79, 80, 81, 535, 536, 537, 538, 299, 56, 57, 59, 55, 556, 557, 558, 559, 560, 561, 562, 563, 564, 565, 566, 567, 568, 569, 570, 571, 572, 573] (by decide +kernel) (by decide +kernel)
set_option maxRecDepth 20000 in
theorem gL_law_X4_excess : GoodIn wsL_law (wsV RL 148 RX4 yX4_excess wsX4_excess) := goodIn_app (goodIn_of _ (by decide +kernel)) ggL_law_X4_excess
theorem dL_law_0 : decode cL_law 0 = .ok (.new 8, 3) := by decide +kernel
theorem dL_law_3 : decode cL_law 3 = .ok (.dup, 1) := by decide +kernel
theorem dL_law_4 : decode cL_law 4 = .ok (.invokespecial 75, 3) := by decide +kernel
theorem dL_law_7 : decode cL_law 7 = .ok (.astore_n 1, 1) := by decide +kernel
theorem dL_law_8 : decode cL_law 8 = .ok (.new 76, 3) := by decide +kernel
theorem dL_law_11 : decode cL_law 11 = .ok (.dup, 1) := by decide +kernel
theorem dL_law_12 : decode cL_law 12 = .ok (.invokespecial 78, 3) := by decide +kernel
theorem dL_law_15 : decode cL_law 15 = .ok (.astore_n 2, 1) := by decide +kernel
theorem dL_law_16 : decode cL_law 16 = .ok (.iconst 1, 1) := by decide +kernel
theorem dL_law_17 : decode cL_law 17 = .ok (.newarray .long, 2) := by decide +kernel
theorem dL_law_19 : decode cL_law 19 = .ok (.astore_n 3, 1) := by decide +kernel
theorem dL_law_20 : decode cL_law 20 = .ok (.iconst 0, 1) := by decide +kernel
theorem dL_law_21 : decode cL_law 21 = .ok (.istore 4, 2) := by decide +kernel
theorem dL_law_23 : decode cL_law 23 = .ok (.iload 4, 2) := by decide +kernel
theorem dL_law_25 : decode cL_law 25 = .ok (.aload_n 0, 1) := by decide +kernel
theorem dL_law_26 : decode cL_law 26 = .ok (.arraylength, 1) := by decide +kernel
theorem dL_law_27 : decode cL_law 27 = .ok (.bipush 6, 2) := by decide +kernel
theorem dL_law_29 : decode cL_law 29 = .ok (.isub, 1) := by decide +kernel
theorem dL_law_30 : decode cL_law 30 = .ok (.if_icmp .gt 1391, 3) := by decide +kernel
theorem dL_law_33 : decode cL_law 33 = .ok (.aload_n 0, 1) := by decide +kernel
theorem dL_law_34 : decode cL_law 34 = .ok (.iload 4, 2) := by decide +kernel
theorem dL_law_36 : decode cL_law 36 = .ok (.iaload, 1) := by decide +kernel
theorem dL_law_37 : decode cL_law 37 = .ok (.bipush 31, 2) := by decide +kernel
theorem dL_law_39 : decode cL_law 39 = .ok (.iand, 1) := by decide +kernel
theorem dL_law_40 : decode cL_law 40 = .ok (.tableswitch 1375 0 18 #[92, 160, 264, 355, 446, 502, 570, 662, 718, 786, 799, 855, 923, 991, 1047, 1103, 1183, 1239, 1307], 92) := by decide +kernel
theorem dL_law_132 : decode cL_law 132 = .ok (.aload_n 1, 1) := by decide +kernel
theorem dL_law_133 : decode cL_law 133 = .ok (.aload_n 0, 1) := by decide +kernel
theorem dL_law_134 : decode cL_law 134 = .ok (.iload 4, 2) := by decide +kernel
theorem dL_law_136 : decode cL_law 136 = .ok (.iconst 1, 1) := by decide +kernel
theorem dL_law_137 : decode cL_law 137 = .ok (.iadd, 1) := by decide +kernel
theorem dL_law_138 : decode cL_law 138 = .ok (.iaload, 1) := by decide +kernel
theorem dL_law_139 : decode cL_law 139 = .ok (.aload_n 0, 1) := by decide +kernel
theorem dL_law_140 : decode cL_law 140 = .ok (.iload 4, 2) := by decide +kernel
theorem dL_law_142 : decode cL_law 142 = .ok (.iconst 2, 1) := by decide +kernel
theorem dL_law_143 : decode cL_law 143 = .ok (.iadd, 1) := by decide +kernel
theorem dL_law_144 : decode cL_law 144 = .ok (.iaload, 1) := by decide +kernel
theorem dL_law_145 : decode cL_law 145 = .ok (.aload_n 3, 1) := by decide +kernel
theorem dL_law_146 : decode cL_law 146 = .ok (.invokestatic 79, 3) := by decide +kernel
theorem dL_law_149 : decode cL_law 149 = .ok (.istore 5, 2) := by decide +kernel
theorem dL_law_151 : decode cL_law 151 = .ok (.aload_n 2, 1) := by decide +kernel
theorem dL_law_152 : decode cL_law 152 = .ok (.aload_n 0, 1) := by decide +kernel
theorem dL_law_153 : decode cL_law 153 = .ok (.iload 4, 2) := by decide +kernel
theorem dL_law_155 : decode cL_law 155 = .ok (.iconst 1, 1) := by decide +kernel
theorem dL_law_156 : decode cL_law 156 = .ok (.iadd, 1) := by decide +kernel
theorem dL_law_157 : decode cL_law 157 = .ok (.iaload, 1) := by decide +kernel
theorem dL_law_158 : decode cL_law 158 = .ok (.aload_n 0, 1) := by decide +kernel
theorem dL_law_159 : decode cL_law 159 = .ok (.iload 4, 2) := by decide +kernel
theorem dL_law_161 : decode cL_law 161 = .ok (.iconst 2, 1) := by decide +kernel
theorem dL_law_162 : decode cL_law 162 = .ok (.iadd, 1) := by decide +kernel
theorem dL_law_163 : decode cL_law 163 = .ok (.iaload, 1) := by decide +kernel
theorem dL_law_164 : decode cL_law 164 = .ok (.invokevirtual 84, 3) := by decide +kernel
theorem dL_law_167 : decode cL_law 167 = .ok (.istore 6, 2) := by decide +kernel
theorem dL_law_169 : decode cL_law 169 = .ok (.aload_n 2, 1) := by decide +kernel
theorem dL_law_170 : decode cL_law 170 = .ok (.invokevirtual 85, 3) := by decide +kernel
theorem dL_law_173 : decode cL_law 173 = .ok (.iload 5, 2) := by decide +kernel
theorem dL_law_175 : decode cL_law 175 = .ok (.if_icmp .eq 5, 3) := by decide +kernel
theorem dL_law_178 : decode cL_law 178 = .ok (.iconst 0, 1) := by decide +kernel
theorem dL_law_179 : decode cL_law 179 = .ok (.ireturn, 1) := by decide +kernel
theorem dL_law_180 : decode cL_law 180 = .ok (.iload 5, 2) := by decide +kernel
theorem dL_law_182 : decode cL_law 182 = .ok (.ifCond .ne 15, 3) := by decide +kernel
theorem dL_law_185 : decode cL_law 185 = .ok (.aload_n 3, 1) := by decide +kernel
theorem dL_law_186 : decode cL_law 186 = .ok (.iconst 0, 1) := by decide +kernel
theorem dL_law_187 : decode cL_law 187 = .ok (.laload, 1) := by decide +kernel
theorem dL_law_188 : decode cL_law 188 = .ok (.iload 6, 2) := by decide +kernel
theorem dL_law_190 : decode cL_law 190 = .ok (.i2l, 1) := by decide +kernel
theorem dL_law_191 : decode cL_law 191 = .ok (.lcmp, 1) := by decide +kernel
theorem dL_law_192 : decode cL_law 192 = .ok (.ifCond .eq 5, 3) := by decide +kernel
theorem dL_law_195 : decode cL_law 195 = .ok (.iconst 0, 1) := by decide +kernel
theorem dL_law_196 : decode cL_law 196 = .ok (.ireturn, 1) := by decide +kernel
theorem dL_law_197 : decode cL_law 197 = .ok (.goto 1218, 3) := by decide +kernel
theorem dL_law_200 : decode cL_law 200 = .ok (.aload_n 1, 1) := by decide +kernel
theorem dL_law_201 : decode cL_law 201 = .ok (.aload_n 0, 1) := by decide +kernel
theorem dL_law_202 : decode cL_law 202 = .ok (.iload 4, 2) := by decide +kernel
theorem dL_law_204 : decode cL_law 204 = .ok (.iconst 1, 1) := by decide +kernel
theorem dL_law_205 : decode cL_law 205 = .ok (.iadd, 1) := by decide +kernel
theorem dL_law_206 : decode cL_law 206 = .ok (.iaload, 1) := by decide +kernel
theorem dL_law_207 : decode cL_law 207 = .ok (.aload_n 0, 1) := by decide +kernel
theorem dL_law_208 : decode cL_law 208 = .ok (.iload 4, 2) := by decide +kernel
theorem dL_law_210 : decode cL_law 210 = .ok (.iconst 2, 1) := by decide +kernel
theorem dL_law_211 : decode cL_law 211 = .ok (.iadd, 1) := by decide +kernel
theorem dL_law_212 : decode cL_law 212 = .ok (.iaload, 1) := by decide +kernel
theorem dL_law_213 : decode cL_law 213 = .ok (.aload_n 0, 1) := by decide +kernel
theorem dL_law_214 : decode cL_law 214 = .ok (.iload 4, 2) := by decide +kernel
theorem dL_law_216 : decode cL_law 216 = .ok (.iconst 3, 1) := by decide +kernel
theorem dL_law_217 : decode cL_law 217 = .ok (.iadd, 1) := by decide +kernel
theorem dL_law_218 : decode cL_law 218 = .ok (.iaload, 1) := by decide +kernel
theorem dL_law_219 : decode cL_law 219 = .ok (.aload_n 0, 1) := by decide +kernel
theorem dL_law_220 : decode cL_law 220 = .ok (.iload 4, 2) := by decide +kernel
theorem dL_law_222 : decode cL_law 222 = .ok (.iconst 4, 1) := by decide +kernel
theorem dL_law_223 : decode cL_law 223 = .ok (.iadd, 1) := by decide +kernel
theorem dL_law_224 : decode cL_law 224 = .ok (.iaload, 1) := by decide +kernel
theorem dL_law_225 : decode cL_law 225 = .ok (.aload_n 0, 1) := by decide +kernel
theorem dL_law_226 : decode cL_law 226 = .ok (.iload 4, 2) := by decide +kernel
theorem dL_law_228 : decode cL_law 228 = .ok (.iconst 5, 1) := by decide +kernel
theorem dL_law_229 : decode cL_law 229 = .ok (.iadd, 1) := by decide +kernel
theorem dL_law_230 : decode cL_law 230 = .ok (.iaload, 1) := by decide +kernel
theorem dL_law_231 : decode cL_law 231 = .ok (.aload_n 3, 1) := by decide +kernel
theorem dL_law_232 : decode cL_law 232 = .ok (.invokestatic 89, 3) := by decide +kernel
theorem dL_law_235 : decode cL_law 235 = .ok (.istore 5, 2) := by decide +kernel
theorem dL_law_237 : decode cL_law 237 = .ok (.aload_n 2, 1) := by decide +kernel
theorem dL_law_238 : decode cL_law 238 = .ok (.aload_n 0, 1) := by decide +kernel
theorem dL_law_239 : decode cL_law 239 = .ok (.iload 4, 2) := by decide +kernel
theorem dL_law_241 : decode cL_law 241 = .ok (.iconst 1, 1) := by decide +kernel
theorem dL_law_242 : decode cL_law 242 = .ok (.iadd, 1) := by decide +kernel
theorem dL_law_243 : decode cL_law 243 = .ok (.iaload, 1) := by decide +kernel
theorem dL_law_244 : decode cL_law 244 = .ok (.aload_n 0, 1) := by decide +kernel
theorem dL_law_245 : decode cL_law 245 = .ok (.iload 4, 2) := by decide +kernel
theorem dL_law_247 : decode cL_law 247 = .ok (.iconst 2, 1) := by decide +kernel
theorem dL_law_248 : decode cL_law 248 = .ok (.iadd, 1) := by decide +kernel
theorem dL_law_249 : decode cL_law 249 = .ok (.iaload, 1) := by decide +kernel
theorem dL_law_250 : decode cL_law 250 = .ok (.aload_n 0, 1) := by decide +kernel
theorem dL_law_251 : decode cL_law 251 = .ok (.iload 4, 2) := by decide +kernel
theorem dL_law_253 : decode cL_law 253 = .ok (.iconst 3, 1) := by decide +kernel
theorem dL_law_254 : decode cL_law 254 = .ok (.iadd, 1) := by decide +kernel
theorem dL_law_255 : decode cL_law 255 = .ok (.iaload, 1) := by decide +kernel
theorem dL_law_256 : decode cL_law 256 = .ok (.aload_n 0, 1) := by decide +kernel
theorem dL_law_257 : decode cL_law 257 = .ok (.iload 4, 2) := by decide +kernel
theorem dL_law_259 : decode cL_law 259 = .ok (.iconst 4, 1) := by decide +kernel
theorem dL_law_260 : decode cL_law 260 = .ok (.iadd, 1) := by decide +kernel
theorem dL_law_261 : decode cL_law 261 = .ok (.iaload, 1) := by decide +kernel
theorem dL_law_262 : decode cL_law 262 = .ok (.aload_n 0, 1) := by decide +kernel
theorem dL_law_263 : decode cL_law 263 = .ok (.iload 4, 2) := by decide +kernel
theorem dL_law_265 : decode cL_law 265 = .ok (.iconst 5, 1) := by decide +kernel
theorem dL_law_266 : decode cL_law 266 = .ok (.iadd, 1) := by decide +kernel
theorem dL_law_267 : decode cL_law 267 = .ok (.iaload, 1) := by decide +kernel
theorem dL_law_268 : decode cL_law 268 = .ok (.invokevirtual 92, 3) := by decide +kernel
theorem dL_law_271 : decode cL_law 271 = .ok (.istore 6, 2) := by decide +kernel
theorem dL_law_273 : decode cL_law 273 = .ok (.aload_n 2, 1) := by decide +kernel
theorem dL_law_274 : decode cL_law 274 = .ok (.invokevirtual 85, 3) := by decide +kernel
theorem dL_law_277 : decode cL_law 277 = .ok (.iload 5, 2) := by decide +kernel
theorem dL_law_279 : decode cL_law 279 = .ok (.if_icmp .eq 5, 3) := by decide +kernel
theorem dL_law_282 : decode cL_law 282 = .ok (.iconst 0, 1) := by decide +kernel
theorem dL_law_283 : decode cL_law 283 = .ok (.ireturn, 1) := by decide +kernel
theorem dL_law_284 : decode cL_law 284 = .ok (.iload 5, 2) := by decide +kernel
theorem dL_law_286 : decode cL_law 286 = .ok (.ifCond .ne 15, 3) := by decide +kernel
theorem dL_law_289 : decode cL_law 289 = .ok (.aload_n 3, 1) := by decide +kernel
theorem dL_law_290 : decode cL_law 290 = .ok (.iconst 0, 1) := by decide +kernel
theorem dL_law_291 : decode cL_law 291 = .ok (.laload, 1) := by decide +kernel
theorem dL_law_292 : decode cL_law 292 = .ok (.iload 6, 2) := by decide +kernel
theorem dL_law_294 : decode cL_law 294 = .ok (.i2l, 1) := by decide +kernel
theorem dL_law_295 : decode cL_law 295 = .ok (.lcmp, 1) := by decide +kernel
theorem dL_law_296 : decode cL_law 296 = .ok (.ifCond .eq 5, 3) := by decide +kernel
theorem dL_law_299 : decode cL_law 299 = .ok (.iconst 0, 1) := by decide +kernel
theorem dL_law_300 : decode cL_law 300 = .ok (.ireturn, 1) := by decide +kernel
theorem dL_law_301 : decode cL_law 301 = .ok (.goto 1114, 3) := by decide +kernel
theorem dL_law_304 : decode cL_law 304 = .ok (.aload_n 1, 1) := by decide +kernel
theorem dL_law_305 : decode cL_law 305 = .ok (.aload_n 0, 1) := by decide +kernel
theorem dL_law_306 : decode cL_law 306 = .ok (.iload 4, 2) := by decide +kernel
theorem dL_law_308 : decode cL_law 308 = .ok (.iconst 1, 1) := by decide +kernel
theorem dL_law_309 : decode cL_law 309 = .ok (.iadd, 1) := by decide +kernel
theorem dL_law_310 : decode cL_law 310 = .ok (.iaload, 1) := by decide +kernel
theorem dL_law_311 : decode cL_law 311 = .ok (.aload_n 0, 1) := by decide +kernel
theorem dL_law_312 : decode cL_law 312 = .ok (.iload 4, 2) := by decide +kernel
theorem dL_law_314 : decode cL_law 314 = .ok (.iconst 2, 1) := by decide +kernel
theorem dL_law_315 : decode cL_law 315 = .ok (.iadd, 1) := by decide +kernel
theorem dL_law_316 : decode cL_law 316 = .ok (.iaload, 1) := by decide +kernel
theorem dL_law_317 : decode cL_law 317 = .ok (.ifCond .eq 7, 3) := by decide +kernel
theorem dL_law_320 : decode cL_law 320 = .ok (.iconst 1, 1) := by decide +kernel
theorem dL_law_321 : decode cL_law 321 = .ok (.goto 4, 3) := by decide +kernel
theorem dL_law_324 : decode cL_law 324 = .ok (.iconst 0, 1) := by decide +kernel
theorem dL_law_325 : decode cL_law 325 = .ok (.aload_n 3, 1) := by decide +kernel
theorem dL_law_326 : decode cL_law 326 = .ok (.invokestatic 93, 3) := by decide +kernel
theorem dL_law_329 : decode cL_law 329 = .ok (.istore 5, 2) := by decide +kernel
theorem dL_law_331 : decode cL_law 331 = .ok (.aload_n 2, 1) := by decide +kernel
theorem dL_law_332 : decode cL_law 332 = .ok (.aload_n 0, 1) := by decide +kernel
theorem dL_law_333 : decode cL_law 333 = .ok (.iload 4, 2) := by decide +kernel
theorem dL_law_335 : decode cL_law 335 = .ok (.iconst 1, 1) := by decide +kernel
theorem dL_law_336 : decode cL_law 336 = .ok (.iadd, 1) := by decide +kernel
theorem dL_law_337 : decode cL_law 337 = .ok (.iaload, 1) := by decide +kernel
theorem dL_law_338 : decode cL_law 338 = .ok (.aload_n 0, 1) := by decide +kernel
theorem dL_law_339 : decode cL_law 339 = .ok (.iload 4, 2) := by decide +kernel
theorem dL_law_341 : decode cL_law 341 = .ok (.iconst 2, 1) := by decide +kernel
theorem dL_law_342 : decode cL_law 342 = .ok (.iadd, 1) := by decide +kernel
theorem dL_law_343 : decode cL_law 343 = .ok (.iaload, 1) := by decide +kernel
theorem dL_law_344 : decode cL_law 344 = .ok (.ifCond .eq 7, 3) := by decide +kernel
theorem dL_law_347 : decode cL_law 347 = .ok (.iconst 1, 1) := by decide +kernel
theorem dL_law_348 : decode cL_law 348 = .ok (.goto 4, 3) := by decide +kernel
theorem dL_law_351 : decode cL_law 351 = .ok (.iconst 0, 1) := by decide +kernel
theorem dL_law_352 : decode cL_law 352 = .ok (.invokevirtual 96, 3) := by decide +kernel
theorem dL_law_355 : decode cL_law 355 = .ok (.istore 6, 2) := by decide +kernel
theorem dL_law_357 : decode cL_law 357 = .ok (.aload_n 2, 1) := by decide +kernel
theorem dL_law_358 : decode cL_law 358 = .ok (.invokevirtual 85, 3) := by decide +kernel
theorem dL_law_361 : decode cL_law 361 = .ok (.iload 5, 2) := by decide +kernel
theorem dL_law_363 : decode cL_law 363 = .ok (.if_icmp .eq 5, 3) := by decide +kernel
theorem dL_law_366 : decode cL_law 366 = .ok (.iconst 0, 1) := by decide +kernel
theorem dL_law_367 : decode cL_law 367 = .ok (.ireturn, 1) := by decide +kernel
theorem dL_law_368 : decode cL_law 368 = .ok (.iload 5, 2) := by decide +kernel
theorem dL_law_370 : decode cL_law 370 = .ok (.ifCond .ne 22, 3) := by decide +kernel
theorem dL_law_373 : decode cL_law 373 = .ok (.aload_n 3, 1) := by decide +kernel
theorem dL_law_374 : decode cL_law 374 = .ok (.iconst 0, 1) := by decide +kernel
theorem dL_law_375 : decode cL_law 375 = .ok (.laload, 1) := by decide +kernel
theorem dL_law_376 : decode cL_law 376 = .ok (.iload 6, 2) := by decide +kernel
theorem dL_law_378 : decode cL_law 378 = .ok (.ifCond .eq 7, 3) := by decide +kernel
theorem dL_law_381 : decode cL_law 381 = .ok (.lconst 1, 1) := by decide +kernel
theorem dL_law_382 : decode cL_law 382 = .ok (.goto 4, 3) := by decide +kernel
theorem dL_law_385 : decode cL_law 385 = .ok (.lconst 0, 1) := by decide +kernel
theorem dL_law_386 : decode cL_law 386 = .ok (.lcmp, 1) := by decide +kernel
theorem dL_law_387 : decode cL_law 387 = .ok (.ifCond .eq 5, 3) := by decide +kernel
theorem dL_law_390 : decode cL_law 390 = .ok (.iconst 0, 1) := by decide +kernel
theorem dL_law_391 : decode cL_law 391 = .ok (.ireturn, 1) := by decide +kernel
theorem dL_law_392 : decode cL_law 392 = .ok (.goto 1023, 3) := by decide +kernel
theorem dL_law_395 : decode cL_law 395 = .ok (.aload_n 1, 1) := by decide +kernel
theorem dL_law_396 : decode cL_law 396 = .ok (.aload_n 0, 1) := by decide +kernel
theorem dL_law_397 : decode cL_law 397 = .ok (.iload 4, 2) := by decide +kernel
theorem dL_law_399 : decode cL_law 399 = .ok (.iconst 1, 1) := by decide +kernel
theorem dL_law_400 : decode cL_law 400 = .ok (.iadd, 1) := by decide +kernel
theorem dL_law_401 : decode cL_law 401 = .ok (.iaload, 1) := by decide +kernel
theorem dL_law_402 : decode cL_law 402 = .ok (.aload_n 0, 1) := by decide +kernel
theorem dL_law_403 : decode cL_law 403 = .ok (.iload 4, 2) := by decide +kernel
theorem dL_law_405 : decode cL_law 405 = .ok (.iconst 2, 1) := by decide +kernel
theorem dL_law_406 : decode cL_law 406 = .ok (.iadd, 1) := by decide +kernel
theorem dL_law_407 : decode cL_law 407 = .ok (.iaload, 1) := by decide +kernel
theorem dL_law_408 : decode cL_law 408 = .ok (.ifCond .eq 7, 3) := by decide +kernel
theorem dL_law_411 : decode cL_law 411 = .ok (.iconst 1, 1) := by decide +kernel
theorem dL_law_412 : decode cL_law 412 = .ok (.goto 4, 3) := by decide +kernel
theorem dL_law_415 : decode cL_law 415 = .ok (.iconst 0, 1) := by decide +kernel
theorem dL_law_416 : decode cL_law 416 = .ok (.aload_n 3, 1) := by decide +kernel
theorem dL_law_417 : decode cL_law 417 = .ok (.invokestatic 97, 3) := by decide +kernel
theorem dL_law_420 : decode cL_law 420 = .ok (.istore 5, 2) := by decide +kernel
theorem dL_law_422 : decode cL_law 422 = .ok (.aload_n 2, 1) := by decide +kernel
theorem dL_law_423 : decode cL_law 423 = .ok (.aload_n 0, 1) := by decide +kernel
theorem dL_law_424 : decode cL_law 424 = .ok (.iload 4, 2) := by decide +kernel
theorem dL_law_426 : decode cL_law 426 = .ok (.iconst 1, 1) := by decide +kernel
theorem dL_law_427 : decode cL_law 427 = .ok (.iadd, 1) := by decide +kernel
theorem dL_law_428 : decode cL_law 428 = .ok (.iaload, 1) := by decide +kernel
theorem dL_law_429 : decode cL_law 429 = .ok (.aload_n 0, 1) := by decide +kernel
theorem dL_law_430 : decode cL_law 430 = .ok (.iload 4, 2) := by decide +kernel
theorem dL_law_432 : decode cL_law 432 = .ok (.iconst 2, 1) := by decide +kernel
theorem dL_law_433 : decode cL_law 433 = .ok (.iadd, 1) := by decide +kernel
theorem dL_law_434 : decode cL_law 434 = .ok (.iaload, 1) := by decide +kernel
theorem dL_law_435 : decode cL_law 435 = .ok (.ifCond .eq 7, 3) := by decide +kernel
theorem dL_law_438 : decode cL_law 438 = .ok (.iconst 1, 1) := by decide +kernel
theorem dL_law_439 : decode cL_law 439 = .ok (.goto 4, 3) := by decide +kernel
theorem dL_law_442 : decode cL_law 442 = .ok (.iconst 0, 1) := by decide +kernel
theorem dL_law_443 : decode cL_law 443 = .ok (.invokevirtual 99, 3) := by decide +kernel
theorem dL_law_446 : decode cL_law 446 = .ok (.istore 6, 2) := by decide +kernel
theorem dL_law_448 : decode cL_law 448 = .ok (.aload_n 2, 1) := by decide +kernel
theorem dL_law_449 : decode cL_law 449 = .ok (.invokevirtual 85, 3) := by decide +kernel
theorem dL_law_452 : decode cL_law 452 = .ok (.iload 5, 2) := by decide +kernel
theorem dL_law_454 : decode cL_law 454 = .ok (.if_icmp .eq 5, 3) := by decide +kernel
theorem dL_law_457 : decode cL_law 457 = .ok (.iconst 0, 1) := by decide +kernel
theorem dL_law_458 : decode cL_law 458 = .ok (.ireturn, 1) := by decide +kernel
theorem dL_law_459 : decode cL_law 459 = .ok (.iload 5, 2) := by decide +kernel
theorem dL_law_461 : decode cL_law 461 = .ok (.ifCond .ne 22, 3) := by decide +kernel
theorem dL_law_464 : decode cL_law 464 = .ok (.aload_n 3, 1) := by decide +kernel
theorem dL_law_465 : decode cL_law 465 = .ok (.iconst 0, 1) := by decide +kernel
theorem dL_law_466 : decode cL_law 466 = .ok (.laload, 1) := by decide +kernel
theorem dL_law_467 : decode cL_law 467 = .ok (.iload 6, 2) := by decide +kernel
theorem dL_law_469 : decode cL_law 469 = .ok (.ifCond .eq 7, 3) := by decide +kernel
theorem dL_law_472 : decode cL_law 472 = .ok (.lconst 1, 1) := by decide +kernel
theorem dL_law_473 : decode cL_law 473 = .ok (.goto 4, 3) := by decide +kernel
theorem dL_law_476 : decode cL_law 476 = .ok (.lconst 0, 1) := by decide +kernel
theorem dL_law_477 : decode cL_law 477 = .ok (.lcmp, 1) := by decide +kernel
theorem dL_law_478 : decode cL_law 478 = .ok (.ifCond .eq 5, 3) := by decide +kernel
theorem dL_law_481 : decode cL_law 481 = .ok (.iconst 0, 1) := by decide +kernel
theorem dL_law_482 : decode cL_law 482 = .ok (.ireturn, 1) := by decide +kernel
theorem dL_law_483 : decode cL_law 483 = .ok (.goto 932, 3) := by decide +kernel
theorem dL_law_486 : decode cL_law 486 = .ok (.aload_n 1, 1) := by decide +kernel
theorem dL_law_487 : decode cL_law 487 = .ok (.aload_n 0, 1) := by decide +kernel
theorem dL_law_488 : decode cL_law 488 = .ok (.iload 4, 2) := by decide +kernel
theorem dL_law_490 : decode cL_law 490 = .ok (.iconst 1, 1) := by decide +kernel
theorem dL_law_491 : decode cL_law 491 = .ok (.iadd, 1) := by decide +kernel
theorem dL_law_492 : decode cL_law 492 = .ok (.iaload, 1) := by decide +kernel
theorem dL_law_493 : decode cL_law 493 = .ok (.aload_n 3, 1) := by decide +kernel
theorem dL_law_494 : decode cL_law 494 = .ok (.invokestatic 100, 3) := by decide +kernel
theorem dL_law_497 : decode cL_law 497 = .ok (.istore 5, 2) := by decide +kernel
theorem dL_law_499 : decode cL_law 499 = .ok (.aload_n 2, 1) := by decide +kernel
theorem dL_law_500 : decode cL_law 500 = .ok (.aload_n 0, 1) := by decide +kernel
theorem dL_law_501 : decode cL_law 501 = .ok (.iload 4, 2) := by decide +kernel
theorem dL_law_503 : decode cL_law 503 = .ok (.iconst 1, 1) := by decide +kernel
theorem dL_law_504 : decode cL_law 504 = .ok (.iadd, 1) := by decide +kernel
theorem dL_law_505 : decode cL_law 505 = .ok (.iaload, 1) := by decide +kernel
theorem dL_law_506 : decode cL_law 506 = .ok (.invokevirtual 103, 3) := by decide +kernel
theorem dL_law_509 : decode cL_law 509 = .ok (.istore 6, 2) := by decide +kernel
theorem dL_law_511 : decode cL_law 511 = .ok (.aload_n 2, 1) := by decide +kernel
theorem dL_law_512 : decode cL_law 512 = .ok (.invokevirtual 85, 3) := by decide +kernel
theorem dL_law_515 : decode cL_law 515 = .ok (.iload 5, 2) := by decide +kernel
theorem dL_law_517 : decode cL_law 517 = .ok (.if_icmp .eq 5, 3) := by decide +kernel
theorem dL_law_520 : decode cL_law 520 = .ok (.iconst 0, 1) := by decide +kernel
theorem dL_law_521 : decode cL_law 521 = .ok (.ireturn, 1) := by decide +kernel
theorem dL_law_522 : decode cL_law 522 = .ok (.iload 5, 2) := by decide +kernel
theorem dL_law_524 : decode cL_law 524 = .ok (.ifCond .ne 15, 3) := by decide +kernel
theorem dL_law_527 : decode cL_law 527 = .ok (.aload_n 3, 1) := by decide +kernel
theorem dL_law_528 : decode cL_law 528 = .ok (.iconst 0, 1) := by decide +kernel
theorem dL_law_529 : decode cL_law 529 = .ok (.laload, 1) := by decide +kernel
theorem dL_law_530 : decode cL_law 530 = .ok (.iload 6, 2) := by decide +kernel
theorem dL_law_532 : decode cL_law 532 = .ok (.i2l, 1) := by decide +kernel
theorem dL_law_533 : decode cL_law 533 = .ok (.lcmp, 1) := by decide +kernel
theorem dL_law_534 : decode cL_law 534 = .ok (.ifCond .eq 5, 3) := by decide +kernel
theorem dL_law_537 : decode cL_law 537 = .ok (.iconst 0, 1) := by decide +kernel
theorem dL_law_538 : decode cL_law 538 = .ok (.ireturn, 1) := by decide +kernel
theorem dL_law_539 : decode cL_law 539 = .ok (.goto 876, 3) := by decide +kernel
theorem dL_law_542 : decode cL_law 542 = .ok (.aload_n 1, 1) := by decide +kernel
theorem dL_law_543 : decode cL_law 543 = .ok (.aload_n 0, 1) := by decide +kernel
theorem dL_law_544 : decode cL_law 544 = .ok (.iload 4, 2) := by decide +kernel
theorem dL_law_546 : decode cL_law 546 = .ok (.iconst 1, 1) := by decide +kernel
theorem dL_law_547 : decode cL_law 547 = .ok (.iadd, 1) := by decide +kernel
theorem dL_law_548 : decode cL_law 548 = .ok (.iaload, 1) := by decide +kernel
theorem dL_law_549 : decode cL_law 549 = .ok (.aload_n 0, 1) := by decide +kernel
theorem dL_law_550 : decode cL_law 550 = .ok (.iload 4, 2) := by decide +kernel
theorem dL_law_552 : decode cL_law 552 = .ok (.iconst 2, 1) := by decide +kernel
theorem dL_law_553 : decode cL_law 553 = .ok (.iadd, 1) := by decide +kernel
theorem dL_law_554 : decode cL_law 554 = .ok (.iaload, 1) := by decide +kernel
theorem dL_law_555 : decode cL_law 555 = .ok (.aload_n 3, 1) := by decide +kernel
theorem dL_law_556 : decode cL_law 556 = .ok (.invokestatic 104, 3) := by decide +kernel
theorem dL_law_559 : decode cL_law 559 = .ok (.istore 5, 2) := by decide +kernel
theorem dL_law_561 : decode cL_law 561 = .ok (.aload_n 2, 1) := by decide +kernel
theorem dL_law_562 : decode cL_law 562 = .ok (.aload_n 0, 1) := by decide +kernel
theorem dL_law_563 : decode cL_law 563 = .ok (.iload 4, 2) := by decide +kernel
theorem dL_law_565 : decode cL_law 565 = .ok (.iconst 1, 1) := by decide +kernel
theorem dL_law_566 : decode cL_law 566 = .ok (.iadd, 1) := by decide +kernel
theorem dL_law_567 : decode cL_law 567 = .ok (.iaload, 1) := by decide +kernel
theorem dL_law_568 : decode cL_law 568 = .ok (.aload_n 0, 1) := by decide +kernel
theorem dL_law_569 : decode cL_law 569 = .ok (.iload 4, 2) := by decide +kernel
theorem dL_law_571 : decode cL_law 571 = .ok (.iconst 2, 1) := by decide +kernel
theorem dL_law_572 : decode cL_law 572 = .ok (.iadd, 1) := by decide +kernel
theorem dL_law_573 : decode cL_law 573 = .ok (.iaload, 1) := by decide +kernel
theorem dL_law_574 : decode cL_law 574 = .ok (.invokevirtual 106, 3) := by decide +kernel
theorem dL_law_577 : decode cL_law 577 = .ok (.istore 6, 2) := by decide +kernel
theorem dL_law_579 : decode cL_law 579 = .ok (.aload_n 2, 1) := by decide +kernel
theorem dL_law_580 : decode cL_law 580 = .ok (.invokevirtual 85, 3) := by decide +kernel
theorem dL_law_583 : decode cL_law 583 = .ok (.iload 5, 2) := by decide +kernel
theorem dL_law_585 : decode cL_law 585 = .ok (.if_icmp .eq 5, 3) := by decide +kernel
theorem dL_law_588 : decode cL_law 588 = .ok (.iconst 0, 1) := by decide +kernel
theorem dL_law_589 : decode cL_law 589 = .ok (.ireturn, 1) := by decide +kernel
theorem dL_law_590 : decode cL_law 590 = .ok (.iload 5, 2) := by decide +kernel
theorem dL_law_592 : decode cL_law 592 = .ok (.ifCond .ne 15, 3) := by decide +kernel
theorem dL_law_595 : decode cL_law 595 = .ok (.aload_n 3, 1) := by decide +kernel
theorem dL_law_596 : decode cL_law 596 = .ok (.iconst 0, 1) := by decide +kernel
theorem dL_law_597 : decode cL_law 597 = .ok (.laload, 1) := by decide +kernel
theorem dL_law_598 : decode cL_law 598 = .ok (.iload 6, 2) := by decide +kernel
theorem dL_law_600 : decode cL_law 600 = .ok (.i2l, 1) := by decide +kernel
theorem dL_law_601 : decode cL_law 601 = .ok (.lcmp, 1) := by decide +kernel
theorem dL_law_602 : decode cL_law 602 = .ok (.ifCond .eq 5, 3) := by decide +kernel
theorem dL_law_605 : decode cL_law 605 = .ok (.iconst 0, 1) := by decide +kernel
theorem dL_law_606 : decode cL_law 606 = .ok (.ireturn, 1) := by decide +kernel
theorem dL_law_607 : decode cL_law 607 = .ok (.goto 808, 3) := by decide +kernel
theorem dL_law_610 : decode cL_law 610 = .ok (.aload_n 1, 1) := by decide +kernel
theorem dL_law_611 : decode cL_law 611 = .ok (.aload_n 0, 1) := by decide +kernel
theorem dL_law_612 : decode cL_law 612 = .ok (.iload 4, 2) := by decide +kernel
theorem dL_law_614 : decode cL_law 614 = .ok (.iconst 1, 1) := by decide +kernel
theorem dL_law_615 : decode cL_law 615 = .ok (.iadd, 1) := by decide +kernel
theorem dL_law_616 : decode cL_law 616 = .ok (.iaload, 1) := by decide +kernel
theorem dL_law_617 : decode cL_law 617 = .ok (.aload_n 0, 1) := by decide +kernel
theorem dL_law_618 : decode cL_law 618 = .ok (.iload 4, 2) := by decide +kernel
theorem dL_law_620 : decode cL_law 620 = .ok (.iconst 2, 1) := by decide +kernel
theorem dL_law_621 : decode cL_law 621 = .ok (.iadd, 1) := by decide +kernel
theorem dL_law_622 : decode cL_law 622 = .ok (.iaload, 1) := by decide +kernel
theorem dL_law_623 : decode cL_law 623 = .ok (.aload_n 0, 1) := by decide +kernel
theorem dL_law_624 : decode cL_law 624 = .ok (.iload 4, 2) := by decide +kernel
theorem dL_law_626 : decode cL_law 626 = .ok (.iconst 3, 1) := by decide +kernel
theorem dL_law_627 : decode cL_law 627 = .ok (.iadd, 1) := by decide +kernel
theorem dL_law_628 : decode cL_law 628 = .ok (.iaload, 1) := by decide +kernel
theorem dL_law_629 : decode cL_law 629 = .ok (.aload_n 0, 1) := by decide +kernel
theorem dL_law_630 : decode cL_law 630 = .ok (.iload 4, 2) := by decide +kernel
theorem dL_law_632 : decode cL_law 632 = .ok (.iconst 4, 1) := by decide +kernel
theorem dL_law_633 : decode cL_law 633 = .ok (.iadd, 1) := by decide +kernel
theorem dL_law_634 : decode cL_law 634 = .ok (.iaload, 1) := by decide +kernel
theorem dL_law_635 : decode cL_law 635 = .ok (.aload_n 3, 1) := by decide +kernel
theorem dL_law_636 : decode cL_law 636 = .ok (.invokestatic 107, 3) := by decide +kernel
theorem dL_law_639 : decode cL_law 639 = .ok (.istore 5, 2) := by decide +kernel
theorem dL_law_641 : decode cL_law 641 = .ok (.aload_n 2, 1) := by decide +kernel
theorem dL_law_642 : decode cL_law 642 = .ok (.aload_n 0, 1) := by decide +kernel
theorem dL_law_643 : decode cL_law 643 = .ok (.iload 4, 2) := by decide +kernel
theorem dL_law_645 : decode cL_law 645 = .ok (.iconst 1, 1) := by decide +kernel
theorem dL_law_646 : decode cL_law 646 = .ok (.iadd, 1) := by decide +kernel
theorem dL_law_647 : decode cL_law 647 = .ok (.iaload, 1) := by decide +kernel
theorem dL_law_648 : decode cL_law 648 = .ok (.aload_n 0, 1) := by decide +kernel
theorem dL_law_649 : decode cL_law 649 = .ok (.iload 4, 2) := by decide +kernel
theorem dL_law_651 : decode cL_law 651 = .ok (.iconst 2, 1) := by decide +kernel
theorem dL_law_652 : decode cL_law 652 = .ok (.iadd, 1) := by decide +kernel
theorem dL_law_653 : decode cL_law 653 = .ok (.iaload, 1) := by decide +kernel
theorem dL_law_654 : decode cL_law 654 = .ok (.aload_n 0, 1) := by decide +kernel
theorem dL_law_655 : decode cL_law 655 = .ok (.iload 4, 2) := by decide +kernel
theorem dL_law_657 : decode cL_law 657 = .ok (.iconst 3, 1) := by decide +kernel
theorem dL_law_658 : decode cL_law 658 = .ok (.iadd, 1) := by decide +kernel
theorem dL_law_659 : decode cL_law 659 = .ok (.iaload, 1) := by decide +kernel
theorem dL_law_660 : decode cL_law 660 = .ok (.aload_n 0, 1) := by decide +kernel
theorem dL_law_661 : decode cL_law 661 = .ok (.iload 4, 2) := by decide +kernel
theorem dL_law_663 : decode cL_law 663 = .ok (.iconst 4, 1) := by decide +kernel
theorem dL_law_664 : decode cL_law 664 = .ok (.iadd, 1) := by decide +kernel
theorem dL_law_665 : decode cL_law 665 = .ok (.iaload, 1) := by decide +kernel
theorem dL_law_666 : decode cL_law 666 = .ok (.invokevirtual 110, 3) := by decide +kernel
theorem dL_law_669 : decode cL_law 669 = .ok (.istore 6, 2) := by decide +kernel
theorem dL_law_671 : decode cL_law 671 = .ok (.aload_n 2, 1) := by decide +kernel
theorem dL_law_672 : decode cL_law 672 = .ok (.invokevirtual 85, 3) := by decide +kernel
theorem dL_law_675 : decode cL_law 675 = .ok (.iload 5, 2) := by decide +kernel
theorem dL_law_677 : decode cL_law 677 = .ok (.if_icmp .eq 5, 3) := by decide +kernel
theorem dL_law_680 : decode cL_law 680 = .ok (.iconst 0, 1) := by decide +kernel
theorem dL_law_681 : decode cL_law 681 = .ok (.ireturn, 1) := by decide +kernel
theorem dL_law_682 : decode cL_law 682 = .ok (.iload 5, 2) := by decide +kernel
theorem dL_law_684 : decode cL_law 684 = .ok (.ifCond .ne 15, 3) := by decide +kernel
theorem dL_law_687 : decode cL_law 687 = .ok (.aload_n 3, 1) := by decide +kernel
theorem dL_law_688 : decode cL_law 688 = .ok (.iconst 0, 1) := by decide +kernel
theorem dL_law_689 : decode cL_law 689 = .ok (.laload, 1) := by decide +kernel
theorem dL_law_690 : decode cL_law 690 = .ok (.iload 6, 2) := by decide +kernel
theorem dL_law_692 : decode cL_law 692 = .ok (.i2l, 1) := by decide +kernel
theorem dL_law_693 : decode cL_law 693 = .ok (.lcmp, 1) := by decide +kernel
theorem dL_law_694 : decode cL_law 694 = .ok (.ifCond .eq 5, 3) := by decide +kernel
theorem dL_law_697 : decode cL_law 697 = .ok (.iconst 0, 1) := by decide +kernel
theorem dL_law_698 : decode cL_law 698 = .ok (.ireturn, 1) := by decide +kernel
theorem dL_law_699 : decode cL_law 699 = .ok (.goto 716, 3) := by decide +kernel
theorem dL_law_702 : decode cL_law 702 = .ok (.aload_n 1, 1) := by decide +kernel
theorem dL_law_703 : decode cL_law 703 = .ok (.aload_n 0, 1) := by decide +kernel
theorem dL_law_704 : decode cL_law 704 = .ok (.iload 4, 2) := by decide +kernel
theorem dL_law_706 : decode cL_law 706 = .ok (.iconst 1, 1) := by decide +kernel
theorem dL_law_707 : decode cL_law 707 = .ok (.iadd, 1) := by decide +kernel
theorem dL_law_708 : decode cL_law 708 = .ok (.iaload, 1) := by decide +kernel
theorem dL_law_709 : decode cL_law 709 = .ok (.aload_n 3, 1) := by decide +kernel
theorem dL_law_710 : decode cL_law 710 = .ok (.invokestatic 111, 3) := by decide +kernel
theorem dL_law_713 : decode cL_law 713 = .ok (.istore 5, 2) := by decide +kernel
theorem dL_law_715 : decode cL_law 715 = .ok (.aload_n 2, 1) := by decide +kernel
theorem dL_law_716 : decode cL_law 716 = .ok (.aload_n 0, 1) := by decide +kernel
theorem dL_law_717 : decode cL_law 717 = .ok (.iload 4, 2) := by decide +kernel
theorem dL_law_719 : decode cL_law 719 = .ok (.iconst 1, 1) := by decide +kernel
theorem dL_law_720 : decode cL_law 720 = .ok (.iadd, 1) := by decide +kernel
theorem dL_law_721 : decode cL_law 721 = .ok (.iaload, 1) := by decide +kernel
theorem dL_law_722 : decode cL_law 722 = .ok (.invokevirtual 113, 3) := by decide +kernel
theorem dL_law_725 : decode cL_law 725 = .ok (.istore 6, 2) := by decide +kernel
theorem dL_law_727 : decode cL_law 727 = .ok (.aload_n 2, 1) := by decide +kernel
theorem dL_law_728 : decode cL_law 728 = .ok (.invokevirtual 85, 3) := by decide +kernel
theorem dL_law_731 : decode cL_law 731 = .ok (.iload 5, 2) := by decide +kernel
theorem dL_law_733 : decode cL_law 733 = .ok (.if_icmp .eq 5, 3) := by decide +kernel
theorem dL_law_736 : decode cL_law 736 = .ok (.iconst 0, 1) := by decide +kernel
theorem dL_law_737 : decode cL_law 737 = .ok (.ireturn, 1) := by decide +kernel
theorem dL_law_738 : decode cL_law 738 = .ok (.iload 5, 2) := by decide +kernel
theorem dL_law_740 : decode cL_law 740 = .ok (.ifCond .ne 15, 3) := by decide +kernel
theorem dL_law_743 : decode cL_law 743 = .ok (.aload_n 3, 1) := by decide +kernel
theorem dL_law_744 : decode cL_law 744 = .ok (.iconst 0, 1) := by decide +kernel
theorem dL_law_745 : decode cL_law 745 = .ok (.laload, 1) := by decide +kernel
theorem dL_law_746 : decode cL_law 746 = .ok (.iload 6, 2) := by decide +kernel
theorem dL_law_748 : decode cL_law 748 = .ok (.i2l, 1) := by decide +kernel
theorem dL_law_749 : decode cL_law 749 = .ok (.lcmp, 1) := by decide +kernel
theorem dL_law_750 : decode cL_law 750 = .ok (.ifCond .eq 5, 3) := by decide +kernel
theorem dL_law_753 : decode cL_law 753 = .ok (.iconst 0, 1) := by decide +kernel
theorem dL_law_754 : decode cL_law 754 = .ok (.ireturn, 1) := by decide +kernel
theorem dL_law_755 : decode cL_law 755 = .ok (.goto 660, 3) := by decide +kernel
theorem dL_law_758 : decode cL_law 758 = .ok (.aload_n 1, 1) := by decide +kernel
theorem dL_law_759 : decode cL_law 759 = .ok (.aload_n 0, 1) := by decide +kernel
theorem dL_law_760 : decode cL_law 760 = .ok (.iload 4, 2) := by decide +kernel
theorem dL_law_762 : decode cL_law 762 = .ok (.iconst 1, 1) := by decide +kernel
theorem dL_law_763 : decode cL_law 763 = .ok (.iadd, 1) := by decide +kernel
theorem dL_law_764 : decode cL_law 764 = .ok (.iaload, 1) := by decide +kernel
theorem dL_law_765 : decode cL_law 765 = .ok (.aload_n 0, 1) := by decide +kernel
theorem dL_law_766 : decode cL_law 766 = .ok (.iload 4, 2) := by decide +kernel
theorem dL_law_768 : decode cL_law 768 = .ok (.iconst 2, 1) := by decide +kernel
theorem dL_law_769 : decode cL_law 769 = .ok (.iadd, 1) := by decide +kernel
theorem dL_law_770 : decode cL_law 770 = .ok (.iaload, 1) := by decide +kernel
theorem dL_law_771 : decode cL_law 771 = .ok (.aload_n 3, 1) := by decide +kernel
theorem dL_law_772 : decode cL_law 772 = .ok (.invokestatic 114, 3) := by decide +kernel
theorem dL_law_775 : decode cL_law 775 = .ok (.istore 5, 2) := by decide +kernel
theorem dL_law_777 : decode cL_law 777 = .ok (.aload_n 2, 1) := by decide +kernel
theorem dL_law_778 : decode cL_law 778 = .ok (.aload_n 0, 1) := by decide +kernel
theorem dL_law_779 : decode cL_law 779 = .ok (.iload 4, 2) := by decide +kernel
theorem dL_law_781 : decode cL_law 781 = .ok (.iconst 1, 1) := by decide +kernel
theorem dL_law_782 : decode cL_law 782 = .ok (.iadd, 1) := by decide +kernel
theorem dL_law_783 : decode cL_law 783 = .ok (.iaload, 1) := by decide +kernel
theorem dL_law_784 : decode cL_law 784 = .ok (.aload_n 0, 1) := by decide +kernel
theorem dL_law_785 : decode cL_law 785 = .ok (.iload 4, 2) := by decide +kernel
theorem dL_law_787 : decode cL_law 787 = .ok (.iconst 2, 1) := by decide +kernel
theorem dL_law_788 : decode cL_law 788 = .ok (.iadd, 1) := by decide +kernel
theorem dL_law_789 : decode cL_law 789 = .ok (.iaload, 1) := by decide +kernel
theorem dL_law_790 : decode cL_law 790 = .ok (.invokevirtual 116, 3) := by decide +kernel
theorem dL_law_793 : decode cL_law 793 = .ok (.istore 6, 2) := by decide +kernel
theorem dL_law_795 : decode cL_law 795 = .ok (.aload_n 2, 1) := by decide +kernel
theorem dL_law_796 : decode cL_law 796 = .ok (.invokevirtual 85, 3) := by decide +kernel
theorem dL_law_799 : decode cL_law 799 = .ok (.iload 5, 2) := by decide +kernel
theorem dL_law_801 : decode cL_law 801 = .ok (.if_icmp .eq 5, 3) := by decide +kernel
theorem dL_law_804 : decode cL_law 804 = .ok (.iconst 0, 1) := by decide +kernel
theorem dL_law_805 : decode cL_law 805 = .ok (.ireturn, 1) := by decide +kernel
theorem dL_law_806 : decode cL_law 806 = .ok (.iload 5, 2) := by decide +kernel
theorem dL_law_808 : decode cL_law 808 = .ok (.ifCond .ne 15, 3) := by decide +kernel
theorem dL_law_811 : decode cL_law 811 = .ok (.aload_n 3, 1) := by decide +kernel
theorem dL_law_812 : decode cL_law 812 = .ok (.iconst 0, 1) := by decide +kernel
theorem dL_law_813 : decode cL_law 813 = .ok (.laload, 1) := by decide +kernel
theorem dL_law_814 : decode cL_law 814 = .ok (.iload 6, 2) := by decide +kernel
theorem dL_law_816 : decode cL_law 816 = .ok (.i2l, 1) := by decide +kernel
theorem dL_law_817 : decode cL_law 817 = .ok (.lcmp, 1) := by decide +kernel
theorem dL_law_818 : decode cL_law 818 = .ok (.ifCond .eq 5, 3) := by decide +kernel
theorem dL_law_821 : decode cL_law 821 = .ok (.iconst 0, 1) := by decide +kernel
theorem dL_law_822 : decode cL_law 822 = .ok (.ireturn, 1) := by decide +kernel
theorem dL_law_823 : decode cL_law 823 = .ok (.goto 592, 3) := by decide +kernel
theorem dL_law_826 : decode cL_law 826 = .ok (.aload_n 1, 1) := by decide +kernel
theorem dL_law_827 : decode cL_law 827 = .ok (.invokevirtual 117, 3) := by decide +kernel
theorem dL_law_830 : decode cL_law 830 = .ok (.aload_n 2, 1) := by decide +kernel
theorem dL_law_831 : decode cL_law 831 = .ok (.invokevirtual 120, 3) := by decide +kernel
theorem dL_law_834 : decode cL_law 834 = .ok (.if_icmp .eq 581, 3) := by decide +kernel
theorem dL_law_837 : decode cL_law 837 = .ok (.iconst 0, 1) := by decide +kernel
theorem dL_law_838 : decode cL_law 838 = .ok (.ireturn, 1) := by decide +kernel
theorem dL_law_839 : decode cL_law 839 = .ok (.aload_n 1, 1) := by decide +kernel
theorem dL_law_840 : decode cL_law 840 = .ok (.aload_n 0, 1) := by decide +kernel
theorem dL_law_841 : decode cL_law 841 = .ok (.iload 4, 2) := by decide +kernel
theorem dL_law_843 : decode cL_law 843 = .ok (.iconst 1, 1) := by decide +kernel
theorem dL_law_844 : decode cL_law 844 = .ok (.iadd, 1) := by decide +kernel
theorem dL_law_845 : decode cL_law 845 = .ok (.iaload, 1) := by decide +kernel
theorem dL_law_846 : decode cL_law 846 = .ok (.aload_n 3, 1) := by decide +kernel
theorem dL_law_847 : decode cL_law 847 = .ok (.invokestatic 121, 3) := by decide +kernel
theorem dL_law_850 : decode cL_law 850 = .ok (.istore 5, 2) := by decide +kernel
theorem dL_law_852 : decode cL_law 852 = .ok (.aload_n 2, 1) := by decide +kernel
theorem dL_law_853 : decode cL_law 853 = .ok (.aload_n 0, 1) := by decide +kernel
theorem dL_law_854 : decode cL_law 854 = .ok (.iload 4, 2) := by decide +kernel
theorem dL_law_856 : decode cL_law 856 = .ok (.iconst 1, 1) := by decide +kernel
theorem dL_law_857 : decode cL_law 857 = .ok (.iadd, 1) := by decide +kernel
theorem dL_law_858 : decode cL_law 858 = .ok (.iaload, 1) := by decide +kernel
theorem dL_law_859 : decode cL_law 859 = .ok (.invokevirtual 123, 3) := by decide +kernel
theorem dL_law_862 : decode cL_law 862 = .ok (.istore 6, 2) := by decide +kernel
theorem dL_law_864 : decode cL_law 864 = .ok (.aload_n 2, 1) := by decide +kernel
theorem dL_law_865 : decode cL_law 865 = .ok (.invokevirtual 85, 3) := by decide +kernel
theorem dL_law_868 : decode cL_law 868 = .ok (.iload 5, 2) := by decide +kernel
theorem dL_law_870 : decode cL_law 870 = .ok (.if_icmp .eq 5, 3) := by decide +kernel
theorem dL_law_873 : decode cL_law 873 = .ok (.iconst 0, 1) := by decide +kernel
theorem dL_law_874 : decode cL_law 874 = .ok (.ireturn, 1) := by decide +kernel
theorem dL_law_875 : decode cL_law 875 = .ok (.iload 5, 2) := by decide +kernel
theorem dL_law_877 : decode cL_law 877 = .ok (.ifCond .ne 15, 3) := by decide +kernel
theorem dL_law_880 : decode cL_law 880 = .ok (.aload_n 3, 1) := by decide +kernel
theorem dL_law_881 : decode cL_law 881 = .ok (.iconst 0, 1) := by decide +kernel
theorem dL_law_882 : decode cL_law 882 = .ok (.laload, 1) := by decide +kernel
theorem dL_law_883 : decode cL_law 883 = .ok (.iload 6, 2) := by decide +kernel
theorem dL_law_885 : decode cL_law 885 = .ok (.i2l, 1) := by decide +kernel
theorem dL_law_886 : decode cL_law 886 = .ok (.lcmp, 1) := by decide +kernel
theorem dL_law_887 : decode cL_law 887 = .ok (.ifCond .eq 5, 3) := by decide +kernel
theorem dL_law_890 : decode cL_law 890 = .ok (.iconst 0, 1) := by decide +kernel
theorem dL_law_891 : decode cL_law 891 = .ok (.ireturn, 1) := by decide +kernel
theorem dL_law_892 : decode cL_law 892 = .ok (.goto 523, 3) := by decide +kernel
theorem dL_law_895 : decode cL_law 895 = .ok (.aload_n 1, 1) := by decide +kernel
theorem dL_law_896 : decode cL_law 896 = .ok (.aload_n 0, 1) := by decide +kernel
theorem dL_law_897 : decode cL_law 897 = .ok (.iload 4, 2) := by decide +kernel
theorem dL_law_899 : decode cL_law 899 = .ok (.iconst 1, 1) := by decide +kernel
theorem dL_law_900 : decode cL_law 900 = .ok (.iadd, 1) := by decide +kernel
theorem dL_law_901 : decode cL_law 901 = .ok (.iaload, 1) := by decide +kernel
theorem dL_law_902 : decode cL_law 902 = .ok (.aload_n 0, 1) := by decide +kernel
theorem dL_law_903 : decode cL_law 903 = .ok (.iload 4, 2) := by decide +kernel
theorem dL_law_905 : decode cL_law 905 = .ok (.iconst 2, 1) := by decide +kernel
theorem dL_law_906 : decode cL_law 906 = .ok (.iadd, 1) := by decide +kernel
theorem dL_law_907 : decode cL_law 907 = .ok (.iaload, 1) := by decide +kernel
theorem dL_law_908 : decode cL_law 908 = .ok (.aload_n 3, 1) := by decide +kernel
theorem dL_law_909 : decode cL_law 909 = .ok (.invokestatic 124, 3) := by decide +kernel
theorem dL_law_912 : decode cL_law 912 = .ok (.istore 5, 2) := by decide +kernel
theorem dL_law_914 : decode cL_law 914 = .ok (.aload_n 2, 1) := by decide +kernel
theorem dL_law_915 : decode cL_law 915 = .ok (.aload_n 0, 1) := by decide +kernel
theorem dL_law_916 : decode cL_law 916 = .ok (.iload 4, 2) := by decide +kernel
theorem dL_law_918 : decode cL_law 918 = .ok (.iconst 1, 1) := by decide +kernel
theorem dL_law_919 : decode cL_law 919 = .ok (.iadd, 1) := by decide +kernel
theorem dL_law_920 : decode cL_law 920 = .ok (.iaload, 1) := by decide +kernel
theorem dL_law_921 : decode cL_law 921 = .ok (.aload_n 0, 1) := by decide +kernel
theorem dL_law_922 : decode cL_law 922 = .ok (.iload 4, 2) := by decide +kernel
theorem dL_law_924 : decode cL_law 924 = .ok (.iconst 2, 1) := by decide +kernel
theorem dL_law_925 : decode cL_law 925 = .ok (.iadd, 1) := by decide +kernel
theorem dL_law_926 : decode cL_law 926 = .ok (.iaload, 1) := by decide +kernel
theorem dL_law_927 : decode cL_law 927 = .ok (.invokevirtual 126, 3) := by decide +kernel
theorem dL_law_930 : decode cL_law 930 = .ok (.istore 6, 2) := by decide +kernel
theorem dL_law_932 : decode cL_law 932 = .ok (.aload_n 2, 1) := by decide +kernel
theorem dL_law_933 : decode cL_law 933 = .ok (.invokevirtual 85, 3) := by decide +kernel
theorem dL_law_936 : decode cL_law 936 = .ok (.iload 5, 2) := by decide +kernel
theorem dL_law_938 : decode cL_law 938 = .ok (.if_icmp .eq 5, 3) := by decide +kernel
theorem dL_law_941 : decode cL_law 941 = .ok (.iconst 0, 1) := by decide +kernel
theorem dL_law_942 : decode cL_law 942 = .ok (.ireturn, 1) := by decide +kernel
theorem dL_law_943 : decode cL_law 943 = .ok (.iload 5, 2) := by decide +kernel
theorem dL_law_945 : decode cL_law 945 = .ok (.ifCond .ne 15, 3) := by decide +kernel
theorem dL_law_948 : decode cL_law 948 = .ok (.aload_n 3, 1) := by decide +kernel
theorem dL_law_949 : decode cL_law 949 = .ok (.iconst 0, 1) := by decide +kernel
theorem dL_law_950 : decode cL_law 950 = .ok (.laload, 1) := by decide +kernel
theorem dL_law_951 : decode cL_law 951 = .ok (.iload 6, 2) := by decide +kernel
theorem dL_law_953 : decode cL_law 953 = .ok (.i2l, 1) := by decide +kernel
theorem dL_law_954 : decode cL_law 954 = .ok (.lcmp, 1) := by decide +kernel
theorem dL_law_955 : decode cL_law 955 = .ok (.ifCond .eq 5, 3) := by decide +kernel
theorem dL_law_958 : decode cL_law 958 = .ok (.iconst 0, 1) := by decide +kernel
theorem dL_law_959 : decode cL_law 959 = .ok (.ireturn, 1) := by decide +kernel
theorem dL_law_960 : decode cL_law 960 = .ok (.goto 455, 3) := by decide +kernel
theorem dL_law_963 : decode cL_law 963 = .ok (.aload_n 1, 1) := by decide +kernel
theorem dL_law_964 : decode cL_law 964 = .ok (.aload_n 0, 1) := by decide +kernel
theorem dL_law_965 : decode cL_law 965 = .ok (.iload 4, 2) := by decide +kernel
theorem dL_law_967 : decode cL_law 967 = .ok (.iconst 1, 1) := by decide +kernel
theorem dL_law_968 : decode cL_law 968 = .ok (.iadd, 1) := by decide +kernel
theorem dL_law_969 : decode cL_law 969 = .ok (.iaload, 1) := by decide +kernel
theorem dL_law_970 : decode cL_law 970 = .ok (.aload_n 0, 1) := by decide +kernel
theorem dL_law_971 : decode cL_law 971 = .ok (.iload 4, 2) := by decide +kernel
theorem dL_law_973 : decode cL_law 973 = .ok (.iconst 2, 1) := by decide +kernel
theorem dL_law_974 : decode cL_law 974 = .ok (.iadd, 1) := by decide +kernel
theorem dL_law_975 : decode cL_law 975 = .ok (.iaload, 1) := by decide +kernel
theorem dL_law_976 : decode cL_law 976 = .ok (.aload_n 3, 1) := by decide +kernel
theorem dL_law_977 : decode cL_law 977 = .ok (.invokestatic 127, 3) := by decide +kernel
theorem dL_law_980 : decode cL_law 980 = .ok (.istore 5, 2) := by decide +kernel
theorem dL_law_982 : decode cL_law 982 = .ok (.aload_n 2, 1) := by decide +kernel
theorem dL_law_983 : decode cL_law 983 = .ok (.aload_n 0, 1) := by decide +kernel
theorem dL_law_984 : decode cL_law 984 = .ok (.iload 4, 2) := by decide +kernel
theorem dL_law_986 : decode cL_law 986 = .ok (.iconst 1, 1) := by decide +kernel
theorem dL_law_987 : decode cL_law 987 = .ok (.iadd, 1) := by decide +kernel
theorem dL_law_988 : decode cL_law 988 = .ok (.iaload, 1) := by decide +kernel
theorem dL_law_989 : decode cL_law 989 = .ok (.aload_n 0, 1) := by decide +kernel
theorem dL_law_990 : decode cL_law 990 = .ok (.iload 4, 2) := by decide +kernel
theorem dL_law_992 : decode cL_law 992 = .ok (.iconst 2, 1) := by decide +kernel
theorem dL_law_993 : decode cL_law 993 = .ok (.iadd, 1) := by decide +kernel
theorem dL_law_994 : decode cL_law 994 = .ok (.iaload, 1) := by decide +kernel
theorem dL_law_995 : decode cL_law 995 = .ok (.invokevirtual 129, 3) := by decide +kernel
theorem dL_law_998 : decode cL_law 998 = .ok (.istore 6, 2) := by decide +kernel
theorem dL_law_1000 : decode cL_law 1000 = .ok (.aload_n 2, 1) := by decide +kernel
theorem dL_law_1001 : decode cL_law 1001 = .ok (.invokevirtual 85, 3) := by decide +kernel
theorem dL_law_1004 : decode cL_law 1004 = .ok (.iload 5, 2) := by decide +kernel
theorem dL_law_1006 : decode cL_law 1006 = .ok (.if_icmp .eq 5, 3) := by decide +kernel
theorem dL_law_1009 : decode cL_law 1009 = .ok (.iconst 0, 1) := by decide +kernel
theorem dL_law_1010 : decode cL_law 1010 = .ok (.ireturn, 1) := by decide +kernel
theorem dL_law_1011 : decode cL_law 1011 = .ok (.iload 5, 2) := by decide +kernel
theorem dL_law_1013 : decode cL_law 1013 = .ok (.ifCond .ne 15, 3) := by decide +kernel
theorem dL_law_1016 : decode cL_law 1016 = .ok (.aload_n 3, 1) := by decide +kernel
theorem dL_law_1017 : decode cL_law 1017 = .ok (.iconst 0, 1) := by decide +kernel
theorem dL_law_1018 : decode cL_law 1018 = .ok (.laload, 1) := by decide +kernel
theorem dL_law_1019 : decode cL_law 1019 = .ok (.iload 6, 2) := by decide +kernel
theorem dL_law_1021 : decode cL_law 1021 = .ok (.i2l, 1) := by decide +kernel
theorem dL_law_1022 : decode cL_law 1022 = .ok (.lcmp, 1) := by decide +kernel
theorem dL_law_1023 : decode cL_law 1023 = .ok (.ifCond .eq 5, 3) := by decide +kernel
theorem dL_law_1026 : decode cL_law 1026 = .ok (.iconst 0, 1) := by decide +kernel
theorem dL_law_1027 : decode cL_law 1027 = .ok (.ireturn, 1) := by decide +kernel
theorem dL_law_1028 : decode cL_law 1028 = .ok (.goto 387, 3) := by decide +kernel
theorem dL_law_1031 : decode cL_law 1031 = .ok (.aload_n 1, 1) := by decide +kernel
theorem dL_law_1032 : decode cL_law 1032 = .ok (.aload_n 0, 1) := by decide +kernel
theorem dL_law_1033 : decode cL_law 1033 = .ok (.iload 4, 2) := by decide +kernel
theorem dL_law_1035 : decode cL_law 1035 = .ok (.iconst 1, 1) := by decide +kernel
theorem dL_law_1036 : decode cL_law 1036 = .ok (.iadd, 1) := by decide +kernel
theorem dL_law_1037 : decode cL_law 1037 = .ok (.iaload, 1) := by decide +kernel
theorem dL_law_1038 : decode cL_law 1038 = .ok (.aload_n 3, 1) := by decide +kernel
theorem dL_law_1039 : decode cL_law 1039 = .ok (.invokestatic 130, 3) := by decide +kernel
theorem dL_law_1042 : decode cL_law 1042 = .ok (.istore 5, 2) := by decide +kernel
theorem dL_law_1044 : decode cL_law 1044 = .ok (.aload_n 2, 1) := by decide +kernel
theorem dL_law_1045 : decode cL_law 1045 = .ok (.aload_n 0, 1) := by decide +kernel
theorem dL_law_1046 : decode cL_law 1046 = .ok (.iload 4, 2) := by decide +kernel
theorem dL_law_1048 : decode cL_law 1048 = .ok (.iconst 1, 1) := by decide +kernel
theorem dL_law_1049 : decode cL_law 1049 = .ok (.iadd, 1) := by decide +kernel
theorem dL_law_1050 : decode cL_law 1050 = .ok (.iaload, 1) := by decide +kernel
theorem dL_law_1051 : decode cL_law 1051 = .ok (.invokevirtual 132, 3) := by decide +kernel
theorem dL_law_1054 : decode cL_law 1054 = .ok (.istore 6, 2) := by decide +kernel
theorem dL_law_1056 : decode cL_law 1056 = .ok (.aload_n 2, 1) := by decide +kernel
theorem dL_law_1057 : decode cL_law 1057 = .ok (.invokevirtual 85, 3) := by decide +kernel
theorem dL_law_1060 : decode cL_law 1060 = .ok (.iload 5, 2) := by decide +kernel
theorem dL_law_1062 : decode cL_law 1062 = .ok (.if_icmp .eq 5, 3) := by decide +kernel
theorem dL_law_1065 : decode cL_law 1065 = .ok (.iconst 0, 1) := by decide +kernel
theorem dL_law_1066 : decode cL_law 1066 = .ok (.ireturn, 1) := by decide +kernel
theorem dL_law_1067 : decode cL_law 1067 = .ok (.iload 5, 2) := by decide +kernel
theorem dL_law_1069 : decode cL_law 1069 = .ok (.ifCond .ne 15, 3) := by decide +kernel
theorem dL_law_1072 : decode cL_law 1072 = .ok (.aload_n 3, 1) := by decide +kernel
theorem dL_law_1073 : decode cL_law 1073 = .ok (.iconst 0, 1) := by decide +kernel
theorem dL_law_1074 : decode cL_law 1074 = .ok (.laload, 1) := by decide +kernel
theorem dL_law_1075 : decode cL_law 1075 = .ok (.iload 6, 2) := by decide +kernel
theorem dL_law_1077 : decode cL_law 1077 = .ok (.i2l, 1) := by decide +kernel
theorem dL_law_1078 : decode cL_law 1078 = .ok (.lcmp, 1) := by decide +kernel
theorem dL_law_1079 : decode cL_law 1079 = .ok (.ifCond .eq 5, 3) := by decide +kernel
theorem dL_law_1082 : decode cL_law 1082 = .ok (.iconst 0, 1) := by decide +kernel
theorem dL_law_1083 : decode cL_law 1083 = .ok (.ireturn, 1) := by decide +kernel
theorem dL_law_1084 : decode cL_law 1084 = .ok (.goto 331, 3) := by decide +kernel
theorem dL_law_1087 : decode cL_law 1087 = .ok (.aload_n 1, 1) := by decide +kernel
theorem dL_law_1088 : decode cL_law 1088 = .ok (.aload_n 0, 1) := by decide +kernel
theorem dL_law_1089 : decode cL_law 1089 = .ok (.iload 4, 2) := by decide +kernel
theorem dL_law_1091 : decode cL_law 1091 = .ok (.iconst 1, 1) := by decide +kernel
theorem dL_law_1092 : decode cL_law 1092 = .ok (.iadd, 1) := by decide +kernel
theorem dL_law_1093 : decode cL_law 1093 = .ok (.iaload, 1) := by decide +kernel
theorem dL_law_1094 : decode cL_law 1094 = .ok (.aload_n 3, 1) := by decide +kernel
theorem dL_law_1095 : decode cL_law 1095 = .ok (.invokestatic 133, 3) := by decide +kernel
theorem dL_law_1098 : decode cL_law 1098 = .ok (.istore 5, 2) := by decide +kernel
theorem dL_law_1100 : decode cL_law 1100 = .ok (.aload_n 2, 1) := by decide +kernel
theorem dL_law_1101 : decode cL_law 1101 = .ok (.aload_n 0, 1) := by decide +kernel
theorem dL_law_1102 : decode cL_law 1102 = .ok (.iload 4, 2) := by decide +kernel
theorem dL_law_1104 : decode cL_law 1104 = .ok (.iconst 1, 1) := by decide +kernel
theorem dL_law_1105 : decode cL_law 1105 = .ok (.iadd, 1) := by decide +kernel
theorem dL_law_1106 : decode cL_law 1106 = .ok (.iaload, 1) := by decide +kernel
theorem dL_law_1107 : decode cL_law 1107 = .ok (.invokevirtual 135, 3) := by decide +kernel
theorem dL_law_1110 : decode cL_law 1110 = .ok (.istore 6, 2) := by decide +kernel
theorem dL_law_1112 : decode cL_law 1112 = .ok (.aload_n 2, 1) := by decide +kernel
theorem dL_law_1113 : decode cL_law 1113 = .ok (.invokevirtual 85, 3) := by decide +kernel
theorem dL_law_1116 : decode cL_law 1116 = .ok (.iload 5, 2) := by decide +kernel
theorem dL_law_1118 : decode cL_law 1118 = .ok (.if_icmp .eq 5, 3) := by decide +kernel
theorem dL_law_1121 : decode cL_law 1121 = .ok (.iconst 0, 1) := by decide +kernel
theorem dL_law_1122 : decode cL_law 1122 = .ok (.ireturn, 1) := by decide +kernel
theorem dL_law_1123 : decode cL_law 1123 = .ok (.iload 5, 2) := by decide +kernel
theorem dL_law_1125 : decode cL_law 1125 = .ok (.ifCond .ne 15, 3) := by decide +kernel
theorem dL_law_1128 : decode cL_law 1128 = .ok (.aload_n 3, 1) := by decide +kernel
theorem dL_law_1129 : decode cL_law 1129 = .ok (.iconst 0, 1) := by decide +kernel
theorem dL_law_1130 : decode cL_law 1130 = .ok (.laload, 1) := by decide +kernel
theorem dL_law_1131 : decode cL_law 1131 = .ok (.iload 6, 2) := by decide +kernel
theorem dL_law_1133 : decode cL_law 1133 = .ok (.i2l, 1) := by decide +kernel
theorem dL_law_1134 : decode cL_law 1134 = .ok (.lcmp, 1) := by decide +kernel
theorem dL_law_1135 : decode cL_law 1135 = .ok (.ifCond .eq 5, 3) := by decide +kernel
theorem dL_law_1138 : decode cL_law 1138 = .ok (.iconst 0, 1) := by decide +kernel
theorem dL_law_1139 : decode cL_law 1139 = .ok (.ireturn, 1) := by decide +kernel
theorem dL_law_1140 : decode cL_law 1140 = .ok (.goto 275, 3) := by decide +kernel
theorem dL_law_1143 : decode cL_law 1143 = .ok (.aload_n 1, 1) := by decide +kernel
theorem dL_law_1144 : decode cL_law 1144 = .ok (.aload_n 0, 1) := by decide +kernel
theorem dL_law_1145 : decode cL_law 1145 = .ok (.iload 4, 2) := by decide +kernel
theorem dL_law_1147 : decode cL_law 1147 = .ok (.iconst 1, 1) := by decide +kernel
theorem dL_law_1148 : decode cL_law 1148 = .ok (.iadd, 1) := by decide +kernel
theorem dL_law_1149 : decode cL_law 1149 = .ok (.iaload, 1) := by decide +kernel
theorem dL_law_1150 : decode cL_law 1150 = .ok (.aload_n 0, 1) := by decide +kernel
theorem dL_law_1151 : decode cL_law 1151 = .ok (.iload 4, 2) := by decide +kernel
theorem dL_law_1153 : decode cL_law 1153 = .ok (.iconst 2, 1) := by decide +kernel
theorem dL_law_1154 : decode cL_law 1154 = .ok (.iadd, 1) := by decide +kernel
theorem dL_law_1155 : decode cL_law 1155 = .ok (.iaload, 1) := by decide +kernel
theorem dL_law_1156 : decode cL_law 1156 = .ok (.aload_n 0, 1) := by decide +kernel
theorem dL_law_1157 : decode cL_law 1157 = .ok (.iload 4, 2) := by decide +kernel
theorem dL_law_1159 : decode cL_law 1159 = .ok (.iconst 3, 1) := by decide +kernel
theorem dL_law_1160 : decode cL_law 1160 = .ok (.iadd, 1) := by decide +kernel
theorem dL_law_1161 : decode cL_law 1161 = .ok (.iaload, 1) := by decide +kernel
theorem dL_law_1162 : decode cL_law 1162 = .ok (.aload_n 3, 1) := by decide +kernel
theorem dL_law_1163 : decode cL_law 1163 = .ok (.invokestatic 136, 3) := by decide +kernel
theorem dL_law_1166 : decode cL_law 1166 = .ok (.istore 5, 2) := by decide +kernel
theorem dL_law_1168 : decode cL_law 1168 = .ok (.aload_n 2, 1) := by decide +kernel
theorem dL_law_1169 : decode cL_law 1169 = .ok (.aload_n 0, 1) := by decide +kernel
theorem dL_law_1170 : decode cL_law 1170 = .ok (.iload 4, 2) := by decide +kernel
theorem dL_law_1172 : decode cL_law 1172 = .ok (.iconst 1, 1) := by decide +kernel
theorem dL_law_1173 : decode cL_law 1173 = .ok (.iadd, 1) := by decide +kernel
theorem dL_law_1174 : decode cL_law 1174 = .ok (.iaload, 1) := by decide +kernel
theorem dL_law_1175 : decode cL_law 1175 = .ok (.aload_n 0, 1) := by decide +kernel
theorem dL_law_1176 : decode cL_law 1176 = .ok (.iload 4, 2) := by decide +kernel
theorem dL_law_1178 : decode cL_law 1178 = .ok (.iconst 2, 1) := by decide +kernel
theorem dL_law_1179 : decode cL_law 1179 = .ok (.iadd, 1) := by decide +kernel
theorem dL_law_1180 : decode cL_law 1180 = .ok (.iaload, 1) := by decide +kernel
theorem dL_law_1181 : decode cL_law 1181 = .ok (.aload_n 0, 1) := by decide +kernel
theorem dL_law_1182 : decode cL_law 1182 = .ok (.iload 4, 2) := by decide +kernel
theorem dL_law_1184 : decode cL_law 1184 = .ok (.iconst 3, 1) := by decide +kernel
theorem dL_law_1185 : decode cL_law 1185 = .ok (.iadd, 1) := by decide +kernel
theorem dL_law_1186 : decode cL_law 1186 = .ok (.iaload, 1) := by decide +kernel
theorem dL_law_1187 : decode cL_law 1187 = .ok (.invokevirtual 139, 3) := by decide +kernel
theorem dL_law_1190 : decode cL_law 1190 = .ok (.istore 6, 2) := by decide +kernel
theorem dL_law_1192 : decode cL_law 1192 = .ok (.aload_n 2, 1) := by decide +kernel
theorem dL_law_1193 : decode cL_law 1193 = .ok (.invokevirtual 85, 3) := by decide +kernel
theorem dL_law_1196 : decode cL_law 1196 = .ok (.iload 5, 2) := by decide +kernel
theorem dL_law_1198 : decode cL_law 1198 = .ok (.if_icmp .eq 5, 3) := by decide +kernel
theorem dL_law_1201 : decode cL_law 1201 = .ok (.iconst 0, 1) := by decide +kernel
theorem dL_law_1202 : decode cL_law 1202 = .ok (.ireturn, 1) := by decide +kernel
theorem dL_law_1203 : decode cL_law 1203 = .ok (.iload 5, 2) := by decide +kernel
theorem dL_law_1205 : decode cL_law 1205 = .ok (.ifCond .ne 15, 3) := by decide +kernel
theorem dL_law_1208 : decode cL_law 1208 = .ok (.aload_n 3, 1) := by decide +kernel
theorem dL_law_1209 : decode cL_law 1209 = .ok (.iconst 0, 1) := by decide +kernel
theorem dL_law_1210 : decode cL_law 1210 = .ok (.laload, 1) := by decide +kernel
theorem dL_law_1211 : decode cL_law 1211 = .ok (.iload 6, 2) := by decide +kernel
theorem dL_law_1213 : decode cL_law 1213 = .ok (.i2l, 1) := by decide +kernel
theorem dL_law_1214 : decode cL_law 1214 = .ok (.lcmp, 1) := by decide +kernel
theorem dL_law_1215 : decode cL_law 1215 = .ok (.ifCond .eq 5, 3) := by decide +kernel
theorem dL_law_1218 : decode cL_law 1218 = .ok (.iconst 0, 1) := by decide +kernel
theorem dL_law_1219 : decode cL_law 1219 = .ok (.ireturn, 1) := by decide +kernel
theorem dL_law_1220 : decode cL_law 1220 = .ok (.goto 195, 3) := by decide +kernel
theorem dL_law_1223 : decode cL_law 1223 = .ok (.aload_n 1, 1) := by decide +kernel
theorem dL_law_1224 : decode cL_law 1224 = .ok (.aload_n 0, 1) := by decide +kernel
theorem dL_law_1225 : decode cL_law 1225 = .ok (.iload 4, 2) := by decide +kernel
theorem dL_law_1227 : decode cL_law 1227 = .ok (.iconst 1, 1) := by decide +kernel
theorem dL_law_1228 : decode cL_law 1228 = .ok (.iadd, 1) := by decide +kernel
theorem dL_law_1229 : decode cL_law 1229 = .ok (.iaload, 1) := by decide +kernel
theorem dL_law_1230 : decode cL_law 1230 = .ok (.aload_n 3, 1) := by decide +kernel
theorem dL_law_1231 : decode cL_law 1231 = .ok (.invokestatic 140, 3) := by decide +kernel
theorem dL_law_1234 : decode cL_law 1234 = .ok (.istore 5, 2) := by decide +kernel
theorem dL_law_1236 : decode cL_law 1236 = .ok (.aload_n 2, 1) := by decide +kernel
theorem dL_law_1237 : decode cL_law 1237 = .ok (.aload_n 0, 1) := by decide +kernel
theorem dL_law_1238 : decode cL_law 1238 = .ok (.iload 4, 2) := by decide +kernel
theorem dL_law_1240 : decode cL_law 1240 = .ok (.iconst 1, 1) := by decide +kernel
theorem dL_law_1241 : decode cL_law 1241 = .ok (.iadd, 1) := by decide +kernel
theorem dL_law_1242 : decode cL_law 1242 = .ok (.iaload, 1) := by decide +kernel
theorem dL_law_1243 : decode cL_law 1243 = .ok (.invokevirtual 142, 3) := by decide +kernel
theorem dL_law_1246 : decode cL_law 1246 = .ok (.istore 6, 2) := by decide +kernel
theorem dL_law_1248 : decode cL_law 1248 = .ok (.aload_n 2, 1) := by decide +kernel
theorem dL_law_1249 : decode cL_law 1249 = .ok (.invokevirtual 85, 3) := by decide +kernel
theorem dL_law_1252 : decode cL_law 1252 = .ok (.iload 5, 2) := by decide +kernel
theorem dL_law_1254 : decode cL_law 1254 = .ok (.if_icmp .eq 5, 3) := by decide +kernel
theorem dL_law_1257 : decode cL_law 1257 = .ok (.iconst 0, 1) := by decide +kernel
theorem dL_law_1258 : decode cL_law 1258 = .ok (.ireturn, 1) := by decide +kernel
theorem dL_law_1259 : decode cL_law 1259 = .ok (.iload 5, 2) := by decide +kernel
theorem dL_law_1261 : decode cL_law 1261 = .ok (.ifCond .ne 15, 3) := by decide +kernel
theorem dL_law_1264 : decode cL_law 1264 = .ok (.aload_n 3, 1) := by decide +kernel
theorem dL_law_1265 : decode cL_law 1265 = .ok (.iconst 0, 1) := by decide +kernel
theorem dL_law_1266 : decode cL_law 1266 = .ok (.laload, 1) := by decide +kernel
theorem dL_law_1267 : decode cL_law 1267 = .ok (.iload 6, 2) := by decide +kernel
theorem dL_law_1269 : decode cL_law 1269 = .ok (.i2l, 1) := by decide +kernel
theorem dL_law_1270 : decode cL_law 1270 = .ok (.lcmp, 1) := by decide +kernel
theorem dL_law_1271 : decode cL_law 1271 = .ok (.ifCond .eq 5, 3) := by decide +kernel
theorem dL_law_1274 : decode cL_law 1274 = .ok (.iconst 0, 1) := by decide +kernel
theorem dL_law_1275 : decode cL_law 1275 = .ok (.ireturn, 1) := by decide +kernel
theorem dL_law_1276 : decode cL_law 1276 = .ok (.goto 139, 3) := by decide +kernel
theorem dL_law_1279 : decode cL_law 1279 = .ok (.aload_n 1, 1) := by decide +kernel
theorem dL_law_1280 : decode cL_law 1280 = .ok (.aload_n 0, 1) := by decide +kernel
theorem dL_law_1281 : decode cL_law 1281 = .ok (.iload 4, 2) := by decide +kernel
theorem dL_law_1283 : decode cL_law 1283 = .ok (.iconst 1, 1) := by decide +kernel
theorem dL_law_1284 : decode cL_law 1284 = .ok (.iadd, 1) := by decide +kernel
theorem dL_law_1285 : decode cL_law 1285 = .ok (.iaload, 1) := by decide +kernel
theorem dL_law_1286 : decode cL_law 1286 = .ok (.aload_n 0, 1) := by decide +kernel
theorem dL_law_1287 : decode cL_law 1287 = .ok (.iload 4, 2) := by decide +kernel
theorem dL_law_1289 : decode cL_law 1289 = .ok (.iconst 2, 1) := by decide +kernel
theorem dL_law_1290 : decode cL_law 1290 = .ok (.iadd, 1) := by decide +kernel
theorem dL_law_1291 : decode cL_law 1291 = .ok (.iaload, 1) := by decide +kernel
theorem dL_law_1292 : decode cL_law 1292 = .ok (.aload_n 3, 1) := by decide +kernel
theorem dL_law_1293 : decode cL_law 1293 = .ok (.invokestatic 143, 3) := by decide +kernel
theorem dL_law_1296 : decode cL_law 1296 = .ok (.istore 5, 2) := by decide +kernel
theorem dL_law_1298 : decode cL_law 1298 = .ok (.aload_n 2, 1) := by decide +kernel
theorem dL_law_1299 : decode cL_law 1299 = .ok (.aload_n 0, 1) := by decide +kernel
theorem dL_law_1300 : decode cL_law 1300 = .ok (.iload 4, 2) := by decide +kernel
theorem dL_law_1302 : decode cL_law 1302 = .ok (.iconst 1, 1) := by decide +kernel
theorem dL_law_1303 : decode cL_law 1303 = .ok (.iadd, 1) := by decide +kernel
theorem dL_law_1304 : decode cL_law 1304 = .ok (.iaload, 1) := by decide +kernel
theorem dL_law_1305 : decode cL_law 1305 = .ok (.aload_n 0, 1) := by decide +kernel
theorem dL_law_1306 : decode cL_law 1306 = .ok (.iload 4, 2) := by decide +kernel
theorem dL_law_1308 : decode cL_law 1308 = .ok (.iconst 2, 1) := by decide +kernel
theorem dL_law_1309 : decode cL_law 1309 = .ok (.iadd, 1) := by decide +kernel
theorem dL_law_1310 : decode cL_law 1310 = .ok (.iaload, 1) := by decide +kernel
theorem dL_law_1311 : decode cL_law 1311 = .ok (.invokevirtual 145, 3) := by decide +kernel
theorem dL_law_1314 : decode cL_law 1314 = .ok (.istore 6, 2) := by decide +kernel
theorem dL_law_1316 : decode cL_law 1316 = .ok (.aload_n 2, 1) := by decide +kernel
theorem dL_law_1317 : decode cL_law 1317 = .ok (.invokevirtual 85, 3) := by decide +kernel
theorem dL_law_1320 : decode cL_law 1320 = .ok (.iload 5, 2) := by decide +kernel
theorem dL_law_1322 : decode cL_law 1322 = .ok (.if_icmp .eq 5, 3) := by decide +kernel
theorem dL_law_1325 : decode cL_law 1325 = .ok (.iconst 0, 1) := by decide +kernel
theorem dL_law_1326 : decode cL_law 1326 = .ok (.ireturn, 1) := by decide +kernel
theorem dL_law_1327 : decode cL_law 1327 = .ok (.iload 5, 2) := by decide +kernel
theorem dL_law_1329 : decode cL_law 1329 = .ok (.ifCond .ne 15, 3) := by decide +kernel
theorem dL_law_1332 : decode cL_law 1332 = .ok (.aload_n 3, 1) := by decide +kernel
theorem dL_law_1333 : decode cL_law 1333 = .ok (.iconst 0, 1) := by decide +kernel
theorem dL_law_1334 : decode cL_law 1334 = .ok (.laload, 1) := by decide +kernel
theorem dL_law_1335 : decode cL_law 1335 = .ok (.iload 6, 2) := by decide +kernel
theorem dL_law_1337 : decode cL_law 1337 = .ok (.i2l, 1) := by decide +kernel
theorem dL_law_1338 : decode cL_law 1338 = .ok (.lcmp, 1) := by decide +kernel
theorem dL_law_1339 : decode cL_law 1339 = .ok (.ifCond .eq 5, 3) := by decide +kernel
theorem dL_law_1342 : decode cL_law 1342 = .ok (.iconst 0, 1) := by decide +kernel
theorem dL_law_1343 : decode cL_law 1343 = .ok (.ireturn, 1) := by decide +kernel
theorem dL_law_1344 : decode cL_law 1344 = .ok (.goto 71, 3) := by decide +kernel
theorem dL_law_1347 : decode cL_law 1347 = .ok (.aload_n 1, 1) := by decide +kernel
theorem dL_law_1348 : decode cL_law 1348 = .ok (.aload_n 0, 1) := by decide +kernel
theorem dL_law_1349 : decode cL_law 1349 = .ok (.iload 4, 2) := by decide +kernel
theorem dL_law_1351 : decode cL_law 1351 = .ok (.iconst 1, 1) := by decide +kernel
theorem dL_law_1352 : decode cL_law 1352 = .ok (.iadd, 1) := by decide +kernel
theorem dL_law_1353 : decode cL_law 1353 = .ok (.iaload, 1) := by decide +kernel
theorem dL_law_1354 : decode cL_law 1354 = .ok (.aload_n 0, 1) := by decide +kernel
theorem dL_law_1355 : decode cL_law 1355 = .ok (.iload 4, 2) := by decide +kernel
theorem dL_law_1357 : decode cL_law 1357 = .ok (.iconst 2, 1) := by decide +kernel
theorem dL_law_1358 : decode cL_law 1358 = .ok (.iadd, 1) := by decide +kernel
theorem dL_law_1359 : decode cL_law 1359 = .ok (.iaload, 1) := by decide +kernel
theorem dL_law_1360 : decode cL_law 1360 = .ok (.aload_n 3, 1) := by decide +kernel
theorem dL_law_1361 : decode cL_law 1361 = .ok (.invokestatic 146, 3) := by decide +kernel
theorem dL_law_1364 : decode cL_law 1364 = .ok (.istore 5, 2) := by decide +kernel
theorem dL_law_1366 : decode cL_law 1366 = .ok (.aload_n 2, 1) := by decide +kernel
theorem dL_law_1367 : decode cL_law 1367 = .ok (.aload_n 0, 1) := by decide +kernel
theorem dL_law_1368 : decode cL_law 1368 = .ok (.iload 4, 2) := by decide +kernel
theorem dL_law_1370 : decode cL_law 1370 = .ok (.iconst 1, 1) := by decide +kernel
theorem dL_law_1371 : decode cL_law 1371 = .ok (.iadd, 1) := by decide +kernel
theorem dL_law_1372 : decode cL_law 1372 = .ok (.iaload, 1) := by decide +kernel
theorem dL_law_1373 : decode cL_law 1373 = .ok (.aload_n 0, 1) := by decide +kernel
theorem dL_law_1374 : decode cL_law 1374 = .ok (.iload 4, 2) := by decide +kernel
theorem dL_law_1376 : decode cL_law 1376 = .ok (.iconst 2, 1) := by decide +kernel
theorem dL_law_1377 : decode cL_law 1377 = .ok (.iadd, 1) := by decide +kernel
theorem dL_law_1378 : decode cL_law 1378 = .ok (.iaload, 1) := by decide +kernel
theorem dL_law_1379 : decode cL_law 1379 = .ok (.invokevirtual 148, 3) := by decide +kernel
theorem dL_law_1382 : decode cL_law 1382 = .ok (.istore 6, 2) := by decide +kernel
theorem dL_law_1384 : decode cL_law 1384 = .ok (.aload_n 2, 1) := by decide +kernel
theorem dL_law_1385 : decode cL_law 1385 = .ok (.invokevirtual 85, 3) := by decide +kernel
theorem dL_law_1388 : decode cL_law 1388 = .ok (.iload 5, 2) := by decide +kernel
theorem dL_law_1390 : decode cL_law 1390 = .ok (.if_icmp .eq 5, 3) := by decide +kernel
theorem dL_law_1393 : decode cL_law 1393 = .ok (.iconst 0, 1) := by decide +kernel
theorem dL_law_1394 : decode cL_law 1394 = .ok (.ireturn, 1) := by decide +kernel
theorem dL_law_1395 : decode cL_law 1395 = .ok (.iload 5, 2) := by decide +kernel
theorem dL_law_1397 : decode cL_law 1397 = .ok (.ifCond .ne 15, 3) := by decide +kernel
theorem dL_law_1400 : decode cL_law 1400 = .ok (.aload_n 3, 1) := by decide +kernel
theorem dL_law_1401 : decode cL_law 1401 = .ok (.iconst 0, 1) := by decide +kernel
theorem dL_law_1402 : decode cL_law 1402 = .ok (.laload, 1) := by decide +kernel
theorem dL_law_1403 : decode cL_law 1403 = .ok (.iload 6, 2) := by decide +kernel
theorem dL_law_1405 : decode cL_law 1405 = .ok (.i2l, 1) := by decide +kernel
theorem dL_law_1406 : decode cL_law 1406 = .ok (.lcmp, 1) := by decide +kernel
theorem dL_law_1407 : decode cL_law 1407 = .ok (.ifCond .eq 5, 3) := by decide +kernel
theorem dL_law_1410 : decode cL_law 1410 = .ok (.iconst 0, 1) := by decide +kernel
theorem dL_law_1411 : decode cL_law 1411 = .ok (.ireturn, 1) := by decide +kernel
theorem dL_law_1412 : decode cL_law 1412 = .ok (.goto 3, 3) := by decide +kernel
theorem dL_law_1415 : decode cL_law 1415 = .ok (.iinc 4 6, 3) := by decide +kernel
theorem dL_law_1418 : decode cL_law 1418 = .ok (.goto (-1395), 3) := by decide +kernel
theorem dL_law_1421 : decode cL_law 1421 = .ok (.iconst 1, 1) := by decide +kernel
theorem dL_law_1422 : decode cL_law 1422 = .ok (.ireturn, 1) := by decide +kernel
abbrev vwCl : List vw_C := [(RJx4a65c, TJx4a65c, 3), (RX0, TX0, 7), (RX1, TX1, 5), (RX2, TX2, 1), (RX3, TX3, 5), (RX4, TX4, 18)]
end
section
abbrev MSTR : List (String × Nat × String) := [("RosterPay", 38, "no such rank"), ("RosterPay", 53, "no more rules"), ("RosterPay", 73, "no such day"), ("RosterPay", 75, "no more workers"), ("RosterPay", 94, "no room for the shift"), ("RosterPay", 166, "an argument is out of range"), ("RosterPay", 168, "the shift was cancelled"), ("RosterPay", 172, "no such quarter"), ("RosterPay", 175, "no such rule"), ("RosterPay", 177, "no such worker"), ("RosterPay", 179, "no such shift")]
/-! THE WORLD: what the objects hold, by names (numbers), and the names' addresses -/
/-- the launch's own: (first free address, the empty static row), classes and slots, (int[], boolean[]), (Object[], long[]) -/
abbrev mG : Type := (Nat × Nat) × va_G × (ClassId × ClassId) × (ClassId × (ClassId × Nat))
abbrev mV : Type := Nat → Option va_E
def vup (V : mV) (i : Nat) (e : va_E) : mV := fun j => if j = i then some e else V j
theorem vup_s (V : mV) (i : Nat) (e : va_E) : vup V i e i = some e := by simp [vup]
theorem vup_n (V : mV) {i j : Nat} (e : va_E) (h : j ≠ i) : vup V i e j = V j := by simp [vup, h]
theorem aup_s {α : Type} (f : Nat → α) (i : Nat) (x : α) : va_up f i x i = x := va_up_self f i x
theorem aup_n {α : Type} (f : Nat → α) {i j : Nat} (x : α) (h : j ≠ i) : va_up f i x j = f j := va_up_ne f x h
abbrev mtys (G : mG) : List (ClassId × FieldType) := [(G.2.2.1.1, .int), (G.2.2.1.2, .boolean), (G.2.2.2.1, .object "java/lang/Object"), (G.2.2.2.2.1, .long)]
def mfree (G : mG) : Nat → Prop := fun q => G.1.1 ≤ q
def mstr (U : State) : Prop := ∀ q : String × Nat × String, q ∈ MSTR → ∃ a : Nat, vk_R q.1 q.2.1 q.2.2 a U
abbrev MCA : List (String × String) := [("java/lang/IllegalArgumentException", "java/lang/IllegalArgumentException"), ("java/lang/IllegalStateException", "java/lang/IllegalStateException"), ("java/lang/IndexOutOfBoundsException", "java/lang/IndexOutOfBoundsException"), ("RosterPay$Rule", "java/lang/Object"), ("RosterPay$Shift", "java/lang/Object"), ("RosterPay$Worker", "java/lang/Object")]
abbrev MDE : List MethodName := [⟨"java/lang/RuntimeException", "<init>", "(Ljava/lang/String;)V"⟩, ⟨"java/lang/Exception", "<init>", "(Ljava/lang/String;)V"⟩, ⟨"java/lang/Throwable", "<init>", "(Ljava/lang/String;)V"⟩, ⟨"java/lang/Object", "getClass", "()Ljava/lang/Class;"⟩]
abbrev MNC : List (String × String) := [("java/lang/IllegalArgumentException", "java/lang/IndexOutOfBoundsException"), ("java/lang/IllegalStateException", "java/lang/IndexOutOfBoundsException"), ("java/lang/IllegalStateException", "java/lang/IllegalArgumentException")]
def mtab (G : mG) (U : State) : Prop := mstr U ∧ (∀ q ∈ MCA, va_Nw (.castable q.1 q.2) U) ∧ (∀ x ∈ MDE, va_Nw (.declares x) U) ∧ (∀ q ∈ MNC, va_Nc q.1 q.2 U) ∧ va_Mi "[Ljava/lang/Object;" G.2.2.2.2.2 U ∧ va_AO "java/lang/Object" U
theorem mtab.warm {G : mG} {s U : State} (hW : s.WarmedH U.vm) (h : mtab G s) : mtab G U := ⟨fun q hq => by obtain ⟨a, ha⟩ := h.1 q hq; exact ⟨a, vk_R.warm hW ha⟩, fun q hq => va_Nw.warmC hW (h.2.1 q hq), fun q hq => va_Nw.warmD hW (h.2.2.1 q hq), fun q hq => va_Nc.moved hW.alike (h.2.2.2.1 q hq), va_Mi.moved hW.alike h.2.2.2.2.1, va_AO.moved hW.alike h.2.2.2.2.2⟩
theorem mtab.same {G : mG} {u U : State} (hv : U.vm = u.vm) (h : mtab G u) : mtab G U := ⟨fun q hq => by obtain ⟨a, ha⟩ := h.1 q hq; exact ⟨a, vk_R.same hv ha⟩, fun q hq => va_Nw.same rfl hv.symm (h.2.1 q hq), fun q hq => va_Nw.same rfl hv.symm (h.2.2.1 q hq), fun q hq => va_Nc.moved (by rw [hv]; exact Vm.Alike.refl _) (h.2.2.2.1 q hq), va_Mi.moved (by rw [hv]; exact Vm.Alike.refl _) h.2.2.2.2.1, va_AO.moved (by rw [hv]; exact Vm.Alike.refl _) h.2.2.2.2.2⟩
def mZ (G : mG) (U : State) (H : Heap) : Prop := vx_Zq Bundle.tN "UNASSIGNED_STACK" Bundle.steD (mfree G) U H ∧ vx_Zq Bundle.tN "SUPPRESSED_SENTINEL" Bundle.listD (mfree G) U H ∧ va_Z "java/util/ArrayList" "DEFAULTCAPACITY_EMPTY_ELEMENTDATA" "[Ljava/lang/Object;" (.ref G.1.2) (mfree G) U H ∧ va_T (.object "java/lang/Object") G.1.2 0 (fun _ => .null) (mfree G) U H
def mH (G : mG) (V : mV) (α : Nat → Nat) (H : Heap) : Prop := (∀ (i : Nat) (e : va_E), V i = some e → va_at G.2.1 vwCl (α i, e) H ∧ mfree G (α i)) ∧ (∀ (i j : Nat) (e f : va_E), V i = some e → V j = some f → α i = α j → i = j) ∧ G.1.1 ≤ H.size
def mW (G : mG) (V : mV) (α : Nat → Nat) (U : State) (H : Heap) : Prop := (va_K G.2.1 vwCl (mtys G) U ∧ mtab G U) ∧ mZ G U H ∧ mH G V α H
theorem mZ.kept {G : mG} {U : State} {H H1 : Heap} (h : mZ G U H) (hq : ∀ a : Nat, a < H.size → ¬ mfree G a → H1[a]? = H[a]?) : mZ G U H1 := ⟨vx_Zq.kept h.1 hq, vx_Zq.kept h.2.1 hq, va_Z.kept h.2.2.1 hq, va_T.kept h.2.2.2 hq⟩
theorem mZ.moved {G : mG} {u U : State} {H : Heap} (hvm : u.vm.Alike U.vm) (h : mZ G u H) : mZ G U H := ⟨vx_Zq.moved hvm h.1, vx_Zq.moved hvm h.2.1, va_Z.moved hvm h.2.2.1, va_T.moved hvm h.2.2.2⟩
theorem mW.warm {G : mG} {V : mV} {α : Nat → Nat} {s U : State} {H : Heap} (hW : s.WarmedH U.vm) (h : mW G V α s H) : mW G V α U H :=
  ⟨⟨va_K.moved hW.alike h.1.1, h.1.2.warm hW⟩, h.2.1.moved hW.alike, h.2.2⟩
theorem mW.same {G : mG} {V : mV} {α : Nat → Nat} {u U : State} {H : Heap} (hv : U.vm = u.vm) (h : mW G V α u H) : mW G V α U H :=
  ⟨⟨va_K.moved (by rw [hv]; exact Vm.Alike.refl _) h.1.1, h.1.2.same hv⟩, h.2.1.moved (by rw [hv]; exact Vm.Alike.refl _), h.2.2⟩
/-- the world at a new heap that agrees with the old one where nobody writes -/
theorem mW.at {G : mG} {V V1 : mV} {α α1 : Nat → Nat} {s : State} {H H1 : Heap} (h : mW G V α s H) (hq : ∀ a : Nat, a < H.size → ¬ mfree G a → H1[a]? = H[a]?) (hH : mH G V1 α1 H1) : mW G V1 α1 s H1 := ⟨h.1, h.2.1.kept hq, hH⟩
theorem mH.P {G : mG} {V : mV} {α : Nat → Nat} {H : Heap} (h : mH G V α H) {i : Nat} {e : va_E} (hv : V i = some e) : va_P G.2.1 vwCl [(α i, e)] H := fun k q hk => by
  have hz : k < 1 := (List.getElem?_eq_some_iff.mp hk).1
  have h0 : k = 0 := by omega
  subst h0
  cases hk
  exact (h.1 i e hv).1
theorem mH.set {G : mG} {V : mV} {α : Nat → Nat} {H H1 : Heap} {i : Nat} {e0 e : va_E} (h : mH G V α H) (hv : V i = some e0) (z : H1.size = H.size) (oq : ∀ q : Nat, q ≠ α i → H1[q]? = H[q]?) (he : va_at G.2.1 vwCl (α i, e) H1) : mH G (vup V i e) α H1 := by
  have key : ∀ (j : Nat) (f : va_E), vup V i e j = some f → ∃ g, V j = some g := by
    intro j f hj
    by_cases hji : j = i
    · subst hji
      exact ⟨e0, hv⟩
    · rw [vup_n V e hji] at hj
      exact ⟨f, hj⟩
  refine ⟨fun j f hj => ?_, fun j k f g hj hk hjk => ?_, by rw [z]; exact h.2.2⟩
  · by_cases hji : j = i
    · subst hji
      rw [vup_s] at hj
      cases hj
      exact ⟨he, (h.1 j e0 hv).2⟩
    · rw [vup_n V e hji] at hj
      refine ⟨((h.1 j f hj).1).kept (oq _ (fun hq => hji (h.2.1 j i f e0 hj hv hq))), (h.1 j f hj).2⟩
  · obtain ⟨f', hf'⟩ := key j f hj
    obtain ⟨g', hg'⟩ := key k g hk
    exact h.2.1 j k f' g' hf' hg' hjk
theorem mH.new {G : mG} {V : mV} {α : Nat → Nat} {H H1 : Heap} {i : Nat} {e : va_E} (h : mH G V α H) (hv : V i = none) (z : H.size ≤ H1.size) (oq : ∀ q : Nat, q < H.size → H1[q]? = H[q]?) (he : va_at G.2.1 vwCl (H.size, e) H1) : mH G (vup V i e) (va_up α i H.size) H1 := by
  have key : ∀ (j : Nat) (f : va_E), j ≠ i → vup V i e j = some f → V j = some f ∧ va_up α i H.size j = α j ∧ α j < H.size := by
    intro j f hji hj
    rw [vup_n V e hji] at hj
    exact ⟨hj, va_up_ne _ _ hji, ((h.1 j f hj).1).lt⟩
  refine ⟨fun j f hj => ?_, fun j k f g hj hk hjk => ?_, Nat.le_trans h.2.2 z⟩
  · by_cases hji : j = i
    · subst hji
      rw [vup_s] at hj
      cases hj
      rw [va_up_self]
      exact ⟨he, h.2.2⟩
    · obtain ⟨h1, h2, h3⟩ := key j f hji hj
      rw [h2]
      exact ⟨((h.1 j f h1).1).kept (oq _ h3), (h.1 j f h1).2⟩
  · by_cases hji : j = i <;> by_cases hki : k = i
    · rw [hji, hki]
    · obtain ⟨h1, h2, h3⟩ := key k g hki hk
      rw [hji, va_up_self, h2] at hjk
      omega
    · obtain ⟨h1, h2, h3⟩ := key j f hji hj
      rw [hki, va_up_self, h2] at hjk
      omega
    · obtain ⟨h1, h2, h3⟩ := key j f hji hj
      obtain ⟨h4, h5, h6⟩ := key k g hki hk
      rw [h2, h5] at hjk
      exact h.2.1 j k f g h1 h4 hjk
theorem mH.grow {G : mG} {V : mV} {α : Nat → Nat} {H H1 : Heap} (h : mH G V α H) (z : H.size ≤ H1.size) (oq : ∀ q : Nat, q < H.size → H1[q]? = H[q]?) : mH G V α H1 :=
  ⟨fun j f hj => ⟨((h.1 j f hj).1).kept (oq _ ((h.1 j f hj).1).lt), (h.1 j f hj).2⟩, h.2.1, Nat.le_trans h.2.2 z⟩
theorem mH.out {G : mG} {V : mV} {α : Nat → Nat} {H : Heap} (h : mH G V α H) {i : Nat} {e : va_E} (hv : V i = some e) {q : Nat} (hq : ¬ mfree G q) : q ≠ α i := fun z => hq (z ▸ (h.1 i e hv).2)
theorem mPcB {G : mG} {V : mV} {α : Nat → Nat} {av : List Value} : FrameBlind (va_Pc av (fun U => mW G V α U U.heap)) := fun a U g mk q => ⟨q.1, mW.same (u := U) (U := U.calling g mk a) rfl q.2⟩
section MR
variable {p : Program} {l : Launch} {e : Env} {R : Room} {s : State} {m : MethodId} {args : Array Value} {below : List Frame} {meth : Method} {c : Code} {H : Heap} {locs : List Loc} {cells slots : Nat} {Q : State → Prop}
variable {cc : ByteArray} {pc : Nat} {ls : Array Slot} {rest : List Value} {G : mG} {V : mV} {α : Nat → Nat}
theorem mget (hexec : p.tables.exec = Jvm.exec) (hb : c.code = cc) {own C : String} {T : u_T} {N ci index : Nat} {Ts : List Cond} (hts : ∀ w ∈ Ts, w.before args s = true) (hin : ∀ w ∈ u_ws C T N, w ∈ Ts) (hown : s.vm.findClass own = some m.cls) (hw : mW G V α s H) {i : Nat} {fs : List Value} (hv : V i = some (.inr (ci, fs))) (hc : vwCl[ci]? = some (C, T, N)) (k : Nat) (hk : k < N) (hlink : (Cond.fieldLink own index (T k).1 (T k).2.1 (T k).2.2.1).before args s = true) {v : Value} (hf : fs[k]? = some v) (hdg : decode cc pc = .ok (.getfield index, 3))
    (kk : W p l e R s m args below meth c H locs cells slots Q (F0 m (pc + 3) ls (v :: rest))) : W p l e R s m args below meth c H locs cells slots Q (F0 m pc ls (.ref (α i) :: rest)) :=
  va_get (ws := [(α i, .inr (ci, fs))]) hexec hb hts hin hown hw.1.1 (hw.2.2.P hv) 0 rfl hc k hk hlink (fun _ h9 => h9) hf hdg kk
theorem mput (hexec : p.tables.exec = Jvm.exec) (hb : c.code = cc) {own C : String} {T : u_T} {N ci index : Nat} {Ts : List Cond} (hts : ∀ w ∈ Ts, w.before args s = true) (hin : ∀ w ∈ u_ws C T N, w ∈ Ts) (ty0 : Nat → FieldType) (hty : ∀ k, k < N → parseFieldDescriptor (T k).2.2.1 = some (ty0 k)) (hnm : ∀ a, a < N → ∀ b, b < N → a ≠ b → (T a).2.1 ≠ (T b).2.1) (hown : s.vm.findClass own = some m.cls) (hw : mW G V α s H) (hS0 : va_S (mfree G) s.heap H locs) {i : Nat} {fs : List Value} (hv : V i = some (.inr (ci, fs))) (hc : vwCl[ci]? = some (C, T, N)) (k : Nat) (hk : k < N) (hlink : (Cond.fieldLink own index (T k).1 (T k).2.1 (T k).2.2.1).before args s = true) (hfin : (T k).2.2.2 = false) {v : Value} (hn : narrow (ty0 k) v = v) (hfit : fits (ty0 k) v = true) (hl : k < fs.length)
    (hdg : decode cc pc = .ok (.putfield index, 3)) (kk : ∀ (H1 : Heap) (locs1 : List Loc), mW G (vup V i (.inr (ci, fs.set k v))) α s H1 → va_S (mfree G) s.heap H1 locs1 → W p l e R s m args below meth c H1 locs1 cells slots Q (F0 m (pc + 3) ls rest)) : W p l e R s m args below meth c H locs cells slots Q (F0 m pc ls (v :: .ref (α i) :: rest)) := by
  have hK := hw.1.1
  have hap := va_apart (own := own) hts hin ty0 hty hnm hK hc
  obtain ⟨r, h1, cell, q1, q2, q3, q4⟩ := (hw.2.2.1 i _ hv).1
  have hr : r = (C, T, N) := Option.some.inj (h1.symm.trans hc)
  subst hr
  obtain ⟨hS, hfc, kC, hkC, hkind⟩ := hK.1 ci _ hc
  obtain ⟨cf, kf, fi, f, hi, hsl⟩ := hS k hk
  have hlay := hts _ (hin _ (u_in_lay hk))
  unfold u_lay at hlay
  rw [if_neg (by rw [hfin]; decide)] at hlay
  have hst := (u_facts hfc hkC (u_lays hts hin hk) hi).1
  have h6 := u_store hfc hkC hkind hlay hi (hty k hk) hn hfit
  refine W.putK hexec hb (f := f) ⟨hown, hlink, ⟨_, _, _, hi⟩, hst⟩ (by rw [q2]; exact h6) q1 q3 (by rw [hsl]; exact k2_hasslot (q4 k hk)) rfl rfl hdg fun H' e1 e2 e3 => ?_
  rw [hsl] at e1 ⊢
  exact kk H' _ (hw.at (fun a _ ha => e3 a (hw.2.2.out hv ha)) (hw.2.2.set hv e2 e3 ⟨_, hc, t_OB.to (V := updV (vp_V fs) k v) ⟨_, e1, q2, q3, t_set q4 hap hk v⟩ (fun j _ => vp_updV_set hl v j)⟩)) (hS0.put e2 e3 (hw.2.2.1 i _ hv).2)
theorem mputF (hexec : p.tables.exec = Jvm.exec) (hb : c.code = cc) {own C : String} {T : u_T} {N ci index : Nat} {Ts : List Cond} (hts : ∀ w ∈ Ts, w.before args s = true) (hin : ∀ w ∈ u_ws C T N, w ∈ Ts) (ty0 : Nat → FieldType) (hty : ∀ k, k < N → parseFieldDescriptor (T k).2.2.1 = some (ty0 k)) (hnm : ∀ a, a < N → ∀ b, b < N → a ≠ b → (T a).2.1 ≠ (T b).2.1) (hown : s.vm.findClass own = some m.cls) (hw : mW G V α s H) (hS0 : va_S (mfree G) s.heap H locs) {i : Nat} {fs : List Value} (hv : V i = some (.inr (ci, fs))) (hc : vwCl[ci]? = some (C, T, N)) (k : Nat) (hk : k < N) (hlink : (Cond.fieldLink own index (T k).1 (T k).2.1 (T k).2.2.1).before args s = true) (hfin : (T k).2.2.2 = true) (hin2 : meth.name = "<init>") (hdecl : (T k).1 = own) {v : Value} (hn : narrow (ty0 k) v = v) (hfit : fits (ty0 k) v = true) (hl : k < fs.length)
    (hdg : decode cc pc = .ok (.putfield index, 3)) (kk : ∀ (H1 : Heap) (locs1 : List Loc), mW G (vup V i (.inr (ci, fs.set k v))) α s H1 → va_S (mfree G) s.heap H1 locs1 → W p l e R s m args below meth c H1 locs1 cells slots Q (F0 m (pc + 3) ls rest)) : W p l e R s m args below meth c H locs cells slots Q (F0 m pc ls (v :: .ref (α i) :: rest)) := by
  have hK := hw.1.1
  have hap := va_apart (own := own) hts hin ty0 hty hnm hK hc
  obtain ⟨r, h1, cell, q1, q2, q3, q4⟩ := (hw.2.2.1 i _ hv).1
  have hr : r = (C, T, N) := Option.some.inj (h1.symm.trans hc)
  subst hr
  obtain ⟨hS, hfc, kC, hkC, hkind⟩ := hK.1 ci _ hc
  obtain ⟨cf, kf, fi, f, hi, hsl⟩ := hS k hk
  have hlay := hts _ (hin _ (u_in_lay hk))
  unfold u_lay at hlay
  rw [if_pos hfin] at hlay
  have hst := (u_facts hfc hkC (u_lays hts hin hk) hi).1
  have hcf : m.cls = cf := by
    obtain ⟨_, _, c', _, _, _, -, -, hf', -, -, -, hown2, -⟩ := Cond.laysFinal_spec hlay
    have e1 : c' = cf := by have := hi.symm.trans hf'; simp at this; exact this.1.symm
    rw [hdecl] at hown2
    rw [← e1]; exact Option.some.inj (hown.symm.trans hown2)
  have h6 := u_fits hfc hkC hkind (Or.inr hlay) hi (hty k hk) hn hfit
  refine W.putFinK hexec hb hown hlink hi hst hcf hin2 (by rw [q2]; exact h6) q1 q3 (by rw [hsl]; exact k2_hasslot (q4 k hk)) rfl rfl hdg fun H' e1 e2 e3 => ?_
  rw [hsl] at e1 ⊢
  exact kk H' _ (hw.at (fun a _ ha => e3 a (hw.2.2.out hv ha)) (hw.2.2.set hv e2 e3 ⟨_, hc, t_OB.to (V := updV (vp_V fs) k v) ⟨_, e1, q2, q3, t_set q4 hap hk v⟩ (fun j _ => vp_updV_set hl v j)⟩)) (hS0.put e2 e3 (hw.2.2.1 i _ hv).2)
theorem miald (hexec : p.tables.exec = Jvm.exec) (hb : c.code = cc) (hw : mW G V α s H) {i : Nat} {n : Nat} {f : Nat → Int32} (hv : V i = some (.inl (G.2.2.1.1, n, .inl f))) {j : Int32} (hin : vp_in j n) (hdg : decode cc pc = .ok (.iaload, 1))
    (kk : W p l e R s m args below meth c H locs cells slots Q (F0 m (pc + 1) ls (.int (f j.toNatClampNeg) :: rest))) : W p l e R s m args below meth c H locs cells slots Q (F0 m pc ls (.int j :: .ref (α i) :: rest)) :=
  va_iald (ws := [(α i, .inl (G.2.2.1.1, n, .inl f))]) hexec hb hw.1.1 (hw.2.2.P hv) 0 0 rfl rfl hin hdg kk
theorem mzald (hexec : p.tables.exec = Jvm.exec) (hb : c.code = cc) (hw : mW G V α s H) {i : Nat} {n : Nat} {f : Nat → Int32} (hv : V i = some (.inl (G.2.2.1.2, n, .inl f))) {j : Int32} (hin : vp_in j n) (hdg : decode cc pc = .ok (.baload, 1))
    (kk : W p l e R s m args below meth c H locs cells slots Q (F0 m (pc + 1) ls (.int (f j.toNatClampNeg) :: rest))) : W p l e R s m args below meth c H locs cells slots Q (F0 m pc ls (.int j :: .ref (α i) :: rest)) :=
  va_zald (ws := [(α i, .inl (G.2.2.1.2, n, .inl f))]) hexec hb hw.1.1 (hw.2.2.P hv) 0 1 rfl rfl hin hdg kk
theorem mlald (hexec : p.tables.exec = Jvm.exec) (hb : c.code = cc) (hw : mW G V α s H) {i : Nat} {n : Nat} {f : Nat → Int64} (hv : V i = some (.inl (G.2.2.2.2.1, n, .inr (.inl f)))) {j : Int32} (hin : vp_in j n) (hdg : decode cc pc = .ok (.laload, 1))
    (kk : W p l e R s m args below meth c H locs cells slots Q (F0 m (pc + 1) ls (.long (f j.toNatClampNeg) :: rest))) : W p l e R s m args below meth c H locs cells slots Q (F0 m pc ls (.int j :: .ref (α i) :: rest)) :=
  va_lald (ws := [(α i, .inl (G.2.2.2.2.1, n, .inr (.inl f)))]) hexec hb hw.1.1 (hw.2.2.P hv) 0 3 rfl rfl hin hdg kk
theorem maald (hexec : p.tables.exec = Jvm.exec) (hb : c.code = cc) (hw : mW G V α s H) {i : Nat} {n : Nat} {f : Nat → Option Nat} (hv : V i = some (.inl (G.2.2.2.1, n, .inr (.inr (.inr (.inr f)))))) {j : Int32} (hin : vp_in j n) (hdg : decode cc pc = .ok (.aaload, 1))
    (kk : W p l e R s m args below meth c H locs cells slots Q (F0 m (pc + 1) ls (va_rf (f j.toNatClampNeg) :: rest))) : W p l e R s m args below meth c H locs cells slots Q (F0 m pc ls (.int j :: .ref (α i) :: rest)) :=
  va_aldq (ws := [(α i, .inl (G.2.2.2.1, n, .inr (.inr (.inr (.inr f)))))]) hexec hb hw.1.1 (hw.2.2.P hv) 0 2 rfl rfl hin hdg kk
theorem mialen (hexec : p.tables.exec = Jvm.exec) (hb : c.code = cc) (hw : mW G V α s H) {i : Nat} {n : Nat} {f : Nat → Int32} (hv : V i = some (.inl (G.2.2.1.1, n, .inl f))) (hdg : decode cc pc = .ok (.arraylength, 1))
    (kk : W p l e R s m args below meth c H locs cells slots Q (F0 m (pc + 1) ls (.int (nI n) :: rest))) : W p l e R s m args below meth c H locs cells slots Q (F0 m pc ls (.ref (α i) :: rest)) :=
  W.alen hexec hb (hw.2.2.1 i _ hv).1 ((hw.1.1.2 0 _ rfl).1 n (fun j => .int (f j))) (by show (arrV _ _ _).slots.size.toInt32 = _; rw [arrV_size]; rfl) rfl rfl hdg kk
theorem mzalen (hexec : p.tables.exec = Jvm.exec) (hb : c.code = cc) (hw : mW G V α s H) {i : Nat} {n : Nat} {f : Nat → Int32} (hv : V i = some (.inl (G.2.2.1.2, n, .inl f))) (hdg : decode cc pc = .ok (.arraylength, 1))
    (kk : W p l e R s m args below meth c H locs cells slots Q (F0 m (pc + 1) ls (.int (nI n) :: rest))) : W p l e R s m args below meth c H locs cells slots Q (F0 m pc ls (.ref (α i) :: rest)) :=
  W.alen hexec hb (hw.2.2.1 i _ hv).1 ((hw.1.1.2 1 _ rfl).1 n (fun j => .int (f j))) (by show (arrV _ _ _).slots.size.toInt32 = _; rw [arrV_size]; rfl) rfl rfl hdg kk
theorem maalen (hexec : p.tables.exec = Jvm.exec) (hb : c.code = cc) (hw : mW G V α s H) {i : Nat} {n : Nat} {f : Nat → Option Nat} (hv : V i = some (.inl (G.2.2.2.1, n, .inr (.inr (.inr (.inr f)))))) (hdg : decode cc pc = .ok (.arraylength, 1))
    (kk : W p l e R s m args below meth c H locs cells slots Q (F0 m (pc + 1) ls (.int (nI n) :: rest))) : W p l e R s m args below meth c H locs cells slots Q (F0 m pc ls (.ref (α i) :: rest)) :=
  W.alen hexec hb (hw.2.2.1 i _ hv).1 ((hw.1.1.2 2 _ rfl).1 n (fun j => va_rf (f j))) (by show (arrV _ _ _).slots.size.toInt32 = _; rw [arrV_size]; rfl) rfl rfl hdg kk
theorem miast (hexec : p.tables.exec = Jvm.exec) (hb : c.code = cc) (hw : mW G V α s H) (hS0 : va_S (mfree G) s.heap H locs) {i : Nat} {n : Nat} {f : Nat → Int32} (hv : V i = some (.inl (G.2.2.1.1, n, .inl f))) {j x : Int32} (hin : vp_in j n) (hdg : decode cc pc = .ok (.iastore, 1))
    (kk : ∀ (H1 : Heap) (locs1 : List Loc), mW G (vup V i (.inl (G.2.2.1.1, n, .inl (upd f j.toNatClampNeg x)))) α s H1 → va_S (mfree G) s.heap H1 locs1 → W p l e R s m args below meth c H1 locs1 cells slots Q (F0 m (pc + 1) ls rest)) : W p l e R s m args below meth c H locs cells slots Q (F0 m pc ls (.int x :: .int j :: .ref (α i) :: rest)) := by
  refine W.iast hexec hb (hw.2.2.1 i _ hv).1 ((hw.1.1.2 0 _ rfl).1 n (fun j => .int (f j))) (fun q => by cases q) (by show ¬ (j < 0 ∨ (arrV _ _ _).slots.size ≤ _); rw [arrV_size]; exact hin) rfl rfl hdg fun H1 e z oq => ?_
  refine kk H1 _ (hw.at (fun a _ ha => oq a (hw.2.2.out hv ha)) (hw.2.2.set hv z oq ?_)) (hS0.put z oq (hw.2.2.1 i _ hv).2)
  show H1[α i]? = some (vp_cell _ _)
  rw [e]
  rw [vp_cell_i, vp_cell_i, arrV_store]
  congr 2
  funext q
  by_cases hq : q = j.toNatClampNeg
  · subst hq
    simp [updV, upd]
  · simp [updV, upd, hq]
theorem mzast (hexec : p.tables.exec = Jvm.exec) (hb : c.code = cc) (hw : mW G V α s H) (hS0 : va_S (mfree G) s.heap H locs) {i : Nat} {n : Nat} {f : Nat → Int32} (hv : V i = some (.inl (G.2.2.1.2, n, .inl f))) {j x : Int32} (hin : vp_in j n) (hdg : decode cc pc = .ok (.bastore, 1))
    (kk : ∀ (H1 : Heap) (locs1 : List Loc), mW G (vup V i (.inl (G.2.2.1.2, n, .inl (upd f j.toNatClampNeg (vp_nar .boolean x))))) α s H1 → va_S (mfree G) s.heap H1 locs1 → W p l e R s m args below meth c H1 locs1 cells slots Q (F0 m (pc + 1) ls rest)) : W p l e R s m args below meth c H locs cells slots Q (F0 m pc ls (.int x :: .int j :: .ref (α i) :: rest)) := by
  refine W.zast hexec hb (hw.2.2.1 i _ hv).1 ((hw.1.1.2 1 _ rfl).1 n (fun j => .int (f j))) (fun q => by cases q) (by show ¬ (j < 0 ∨ (arrV _ _ _).slots.size ≤ _); rw [arrV_size]; exact hin) rfl rfl hdg fun H1 e z oq => ?_
  refine kk H1 _ (hw.at (fun a _ ha => oq a (hw.2.2.out hv ha)) (hw.2.2.set hv z oq ?_)) (hS0.put z oq (hw.2.2.1 i _ hv).2)
  show H1[α i]? = some (vp_cell _ _)
  rw [e]
  rw [vp_cell_i, vp_cell_i, arrV_store]
  congr 2
  funext q
  by_cases hq : q = j.toNatClampNeg
  · subst hq
    simp [updV, upd, vp_nar]
    try rfl
  · simp [updV, upd, hq]
theorem mlast (hexec : p.tables.exec = Jvm.exec) (hb : c.code = cc) (hw : mW G V α s H) (hS0 : va_S (mfree G) s.heap H locs) {i : Nat} {n : Nat} {f : Nat → Int64} (hv : V i = some (.inl (G.2.2.2.2.1, n, .inr (.inl f)))) {j : Int32} {x : Int64} (hin : vp_in j n) (hdg : decode cc pc = .ok (.lastore, 1))
    (kk : ∀ (H1 : Heap) (locs1 : List Loc), mW G (vup V i (.inl (G.2.2.2.2.1, n, .inr (.inl (vp_updL f j.toNatClampNeg x))))) α s H1 → va_S (mfree G) s.heap H1 locs1 → W p l e R s m args below meth c H1 locs1 cells slots Q (F0 m (pc + 1) ls rest)) : W p l e R s m args below meth c H locs cells slots Q (F0 m pc ls (.long x :: .int j :: .ref (α i) :: rest)) := by
  refine W.last hexec hb (hw.2.2.1 i _ hv).1 ((hw.1.1.2 3 _ rfl).1 n (fun j => .long (f j))) (fun q => by cases q) (by show ¬ (j < 0 ∨ (arrV _ _ _).slots.size ≤ _); rw [arrV_size]; exact hin) rfl rfl hdg fun H1 e z oq => ?_
  refine kk H1 _ (hw.at (fun a _ ha => oq a (hw.2.2.out hv ha)) (hw.2.2.set hv z oq ?_)) (hS0.put z oq (hw.2.2.1 i _ hv).2)
  show H1[α i]? = some (vp_cell _ _)
  rw [e]
  rw [vp_cell_l, vp_cell_l, arrV_store]
  congr 2
  funext q
  by_cases hq : q = j.toNatClampNeg
  · subst hq
    simp [updV, vp_updL]
  · simp [updV, vp_updL, hq]
theorem mnew (hexec : p.tables.exec = Jvm.exec) (hb : c.code = cc) {own C : String} {T : u_T} {N ci index : Nat} {Ts : List Cond} (hts : ∀ w ∈ Ts, w.before args s = true) (hin : ∀ w ∈ u_ws C T N, w ∈ Ts) (ty : Nat → FieldType) (hty : ∀ k, k < N → parseFieldDescriptor (T k).2.2.1 = some (ty k)) (hown : s.vm.findClass own = some m.cls) (hcl : (Cond.classLink own index C).before args s = true) (hinst : (Cond.instantiable C N).before args s = true) (hini : (Cond.initialized C).before args s = true)
    (hw : mW G V α s H) (hS : va_S (mfree G) s.heap H locs) (hc : vwCl[ci]? = some (C, T, N)) (i : Nat) (hi : V i = none) {fs : List Value} (hfs : ∀ j, j < N → defaultValue (ty j) = vp_V fs j) (hcells : cells + 1 ≤ R.cells) (hslots : slots + N ≤ R.slots) (hdg : decode cc pc = .ok (.new index, 3))
    (kk : ∀ (α1 : Nat → Nat) (H1 : Heap), (∀ j, j ≠ i → α1 j = α j) → mW G (vup V i (.inr (ci, fs))) α1 s H1 → va_S (mfree G) s.heap H1 locs →
      W p l e R s m args below meth c H1 locs (cells + 1) (slots + N) Q (F0 m (pc + 3) ls (.ref (α1 i) :: rest))) : W p l e R s m args below meth c H locs cells slots Q (F0 m pc ls rest) := by
  have hKn := hw.1.1.1 ci _ hc
  refine W.newcK hexec hb hown hcl hinst hini rfl hdg hcells hslots hKn.2.1 rfl fun H1 kC hkC e1 z1 o1 => ?_
  have hk := kk (va_up α i H.size) H1 (fun j hj => va_up_ne _ _ hj) (hw.at (fun a ha _ => o1 a ha) (hw.2.2.new hi (by omega) o1 ⟨_, hc, (u_born ty hts hin hKn hkC e1 hty).to hfs⟩)) ⟨Nat.le_trans hS.1 (by omega), fun x h1 h2 => (o1 x (Nat.lt_of_lt_of_le h1 hS.1)).trans (hS.2.1 x h1 h2), hS.2.2⟩
  rw [va_up_self] at hk
  exact hk
theorem mnewa (hexec : p.tables.exec = Jvm.exec) (hb : c.code = cc) {atype : ArrayType} (harr : (Cond.arrayClass (newarray.typeOf atype)).before args s = true) {ty : FieldType} {cA : ClassId} (t0 : Nat) (ht : (mtys G)[t0]? = some (cA, ty)) (hty : newarray.typeOf atype = ty) (hw : mW G V α s H) (hS : va_S (mfree G) s.heap H locs)
    {n : Int32} {N' : Nat} {a0 : vp_A} (ha : vp_cell cA a0 = arrV cA N' (fun _ => defaultValue ty)) (hn : ¬ n < 0) (hN : n.toNatClampNeg = N') (hbytes : N' * componentBytes ty ≤ 536870912) (i : Nat) (hi : V i = none) (hcells : cells + 1 ≤ R.cells) (hslots : slots + N' ≤ R.slots) (hdg : decode cc pc = .ok (.newarray atype, 2))
    (kk : ∀ (α1 : Nat → Nat) (H1 : Heap), (∀ j, j ≠ i → α1 j = α j) → mW G (vup V i (.inl (cA, a0))) α1 s H1 → va_S (mfree G) s.heap H1 locs →
      W p l e R s m args below meth c H1 locs (cells + 1) (slots + N') Q (F0 m (pc + 2) ls (.ref (α1 i) :: rest))) : W p l e R s m args below meth c H locs cells slots Q (F0 m pc ls (.int n :: rest)) := by
  subst hty
  refine va_newaK hexec hb harr rfl hdg rfl hn hN hbytes hcells hslots rfl fun H1 cB e1 z1 o1 hAr hNm => ?_
  have hcc : cB = cA := by
    have h2 := (hw.1.1.2 t0 _ ht).2
    cases atype <;> exact Option.some.inj (hNm.symm.trans h2)
  subst hcc
  have hk := kk (va_up α i H.size) H1 (fun j hj => va_up_ne _ _ hj) (hw.at (fun a h _ => o1 a h) (hw.2.2.new hi (by omega) o1 (show H1[H.size]? = some (vp_cell _ _) by rw [ha]; exact e1))) ⟨Nat.le_trans hS.1 (by omega), fun x h1 h2 => (o1 x (Nat.lt_of_lt_of_le h1 hS.1)).trans (hS.2.1 x h1 h2), hS.2.2⟩
  rw [va_up_self] at hk
  exact hk
theorem mrecv (hw : mW G V α s H) {i ci : Nat} {q : vw_C} {fs : List Value} (hv : V i = some (.inr (ci, fs))) (hc : vwCl[ci]? = some q) : ∃ cell : Cell, H[α i]? = some cell ∧ cell.vm.isStatics = false ∧ s.vm.findClass q.1 = some cell.cls :=
  va_recv (q0 := 0) hw.1.1 (hw.2.2.P hv) hc rfl
theorem mcast (hexec : p.tables.exec = Jvm.exec) (hb : c.code = cc) {own nm : String} {index : Nat} (hown : s.vm.findClass own = some m.cls) (hlink : (Cond.classLink own index nm).before args s = true) (hw : mW G V α s H) {i ci N : Nat} {T : u_T} {fs : List Value} (hv : V i = some (.inr (ci, fs))) (hc : vwCl[ci]? = some (nm, T, N)) (hdg : decode cc pc = .ok (.checkcast index, 3))
    (k : W p l e R s m args below meth c H locs cells slots Q (F0 m (pc + 3) ls (.ref (α i) :: rest))) : W p l e R s m args below meth c H locs cells slots Q (F0 m pc ls (.ref (α i) :: rest)) :=
  va_castS hexec hb hown hlink (hw.1.1.1 ci _ hc).2 (mrecv hw hv hc) hdg k
/-- a call that only reads -/
theorem mcallVi {y : MethodName} {bytes : ByteArray} {maxL nL n index ci i : Nat} {ret : Option FieldType} {ws Ts : List Cond} {rm : Room} {own C : String} {As st0 : List Value} {x : Int32} {fs : List Value} {q : vw_C} (hw : mW G V α s H) (hv : V i = some (.inr (ci, fs))) (hc : vwCl[ci]? = some q) (hC : q.1 = C) (S : CallFix p m c cc nL s args Ts own) (hM : Met l y ws rm (va_Pc (.ref (α i) :: As) (fun U => mW G V α U U.heap)) (vp_Si (fun r => r = x)) 0 0 (fun _ => False)) (cw : CallW R s args own C index y bytes maxL ret ws rm 0 0 n)
    (hn : As.length = n) (hsize : ls.size = nL) (hstack : st0 = As.reverse ++ .ref (α i) :: rest) (hW : (rest.map fun v => v.category).sum ≤ 8) (hdg : decode cc pc = .ok (.invokevirtual index, 3)) (hf : cells ≤ R.cells ∧ slots ≤ R.slots)
    (kk : W p l e R s m args below meth c H locs cells slots Q (F0 m (pc + 3) ls (.int x :: rest))) : W p l e R s m args below meth c H locs cells slots Q (F0 m pc ls st0) := by
  subst hstack
  subst hC
  exact vp_callSi (W.runV (g := F0 m pc ls (As.reverse ++ .ref (α i) :: rest)) S hM cw ⟨mPcB, mrecv hw hv hc, fun U hU hWm => ⟨rfl, by show mW G V α U U.heap; rw [hU]; exact hw.warm hWm⟩⟩ rfl hn hsize rfl (lv_room hW) hdg hf) (fun r hr => by subst hr; exact kk)
theorem mcallVq {y : MethodName} {bytes : ByteArray} {maxL nL n index ci i : Nat} {ret : Option FieldType} {ws Ts : List Cond} {rm : Room} {own C : String} {As st0 : List Value} {x : Option Nat} {fs : List Value} {q : vw_C} (hw : mW G V α s H) (hv : V i = some (.inr (ci, fs))) (hc : vwCl[ci]? = some q) (hC : q.1 = C) (S : CallFix p m c cc nL s args Ts own) (hM : Met l y ws rm (va_Pc (.ref (α i) :: As) (fun U => mW G V α U U.heap)) (va_Sq (fun r => r = x)) 0 0 (fun _ => False)) (cw : CallW R s args own C index y bytes maxL ret ws rm 0 0 n)
    (hn : As.length = n) (hsize : ls.size = nL) (hstack : st0 = As.reverse ++ .ref (α i) :: rest) (hW : (rest.map fun v => v.category).sum ≤ 8) (hdg : decode cc pc = .ok (.invokevirtual index, 3)) (hf : cells ≤ R.cells ∧ slots ≤ R.slots)
    (kk : W p l e R s m args below meth c H locs cells slots Q (F0 m (pc + 3) ls (va_rf x :: rest))) : W p l e R s m args below meth c H locs cells slots Q (F0 m pc ls st0) := by
  subst hstack
  subst hC
  exact va_csq (W.runV (g := F0 m pc ls (As.reverse ++ .ref (α i) :: rest)) S hM cw ⟨mPcB, mrecv hw hv hc, fun U hU hWm => ⟨rfl, by show mW G V α U U.heap; rw [hU]; exact hw.warm hWm⟩⟩ rfl hn hsize rfl (lv_room hW) hdg hf) (fun r hr => by subst hr; exact kk)
theorem mcallSi {y : MethodName} {bytes : ByteArray} {maxL nL n index : Nat} {ret : Option FieldType} {ws Ts : List Cond} {rm : Room} {own : String} {As st0 : List Value} {x : Int32} (hw : mW G V α s H) (S : CallFix p m c cc nL s args Ts own) (hM : Met l y ws rm (va_Pc As (fun U => mW G V α U U.heap)) (vp_Si (fun r => r = x)) 0 0 (fun _ => False)) (cw : CallB R s args own index y bytes maxL ret ws rm 0 0 n ∧ (Cond.static y).before args s = true)
    (hn : As.length = n) (hsize : ls.size = nL) (hstack : st0 = As.reverse ++ rest) (hW : (rest.map fun v => v.category).sum ≤ 8) (hdg : decode cc pc = .ok (.invokestatic index, 3)) (hf : cells ≤ R.cells ∧ slots ≤ R.slots)
    (kk : W p l e R s m args below meth c H locs cells slots Q (F0 m (pc + 3) ls (.int x :: rest))) : W p l e R s m args below meth c H locs cells slots Q (F0 m pc ls st0) := by
  subst hstack
  exact vp_callSi (W.runS (g := F0 m pc ls (As.reverse ++ rest)) S hM cw ⟨mPcB, fun U hU hWm => ⟨rfl, by show mW G V α U U.heap; rw [hU]; exact hw.warm hWm⟩⟩ rfl hn hsize rfl (lv_room hW) hdg hf) (fun r hr => by subst hr; exact kk)
end MR
end
section
def bI (P : Prop) [Decidable P] : Int32 := if P then 1 else 0
theorem bI_t {P : Prop} [Decidable P] (h : P) : bI P = 1 := if_pos h
theorem bI_f {P : Prop} [Decidable P] (h : ¬ P) : bI P = 0 := if_neg h
theorem bI_0 {P : Prop} [Decidable P] (h : bI P = 0) : ¬ P := fun hp => by rw [bI_t hp] at h; exact absurd h (by decide)
theorem bI_n0 {P : Prop} [Decidable P] (h : ¬ bI P = 0) : P := by
  by_cases hp : P
  · exact hp
  · exact absurd (bI_f hp) h
theorem bI_nar {P : Prop} [Decidable P] : narrow .boolean (.int (bI P)) = .int (bI P) := by
  by_cases hp : P
  · rw [bI_t hp]; rfl
  · rw [bI_f hp]; rfl
theorem bI_c {P R : Prop} [Decidable P] [Decidable R] (h : P ↔ R) : bI P = bI R := by
  by_cases hp : P
  · rw [bI_t hp, bI_t (h.mp hp)]
  · rw [bI_f hp, bI_f (fun z => hp (h.mpr z))]
theorem bI_eq0 {P : Prop} [Decidable P] : bI P = 0 ↔ ¬ P := ⟨bI_0, bI_f⟩
theorem va_rfc (x : Option Nat) : ((va_rf x).category == 2) = false := by cases x <;> rfl
section MX
variable {p : Program} {l : Launch} {e : Env} {R : Room} {s : State} {m : MethodId} {args : Array Value} {below : List Frame} {meth : Method} {c : Code} {H : Heap} {locs : List Loc} {cells slots : Nat} {Q : State → Prop}
variable {cc : ByteArray} {pc : Nat} {ls : Array Slot} {rest : List Value} {G : mG} {V : mV} {α : Nat → Nat}
theorem maload_nq (hexec : p.tables.exec = Jvm.exec) (hb : c.code = cc) {k : Fin 4} {i : Nat} {x : Option Nat} (hdg : decode cc pc = .ok (.aload_n k, 1)) (hi : (k : Nat) = i) (hl : ls[i]? = some (.val (va_rf x)))
    (kk : W p l e R s m args below meth c H locs cells slots Q (F0 m (pc + 1) ls (va_rf x :: rest))) : W p l e R s m args below meth c H locs cells slots Q (F0 m pc ls rest) := by
  cases x with
  | none => exact lv_aload_nN hexec hb hdg hi hl kk
  | some a => exact lv_aload_n hexec hb hdg hi hl kk
theorem maloadq (hexec : p.tables.exec = Jvm.exec) (hb : c.code = cc) {i : Nat} {x : Option Nat} (hdg : decode cc pc = .ok (.aload i, 2)) (hl : ls[i]? = some (.val (va_rf x)))
    (kk : W p l e R s m args below meth c H locs cells slots Q (F0 m (pc + 2) ls (va_rf x :: rest))) : W p l e R s m args below meth c H locs cells slots Q (F0 m pc ls rest) := by
  cases x with
  | none => exact lv_aloadN hexec hb hdg hl kk
  | some a => exact lv_aload hexec hb hdg hl kk
theorem mastore_nq (hexec : p.tables.exec = Jvm.exec) (hb : c.code = cc) {k : Fin 4} {i nL : Nat} {x : Option Nat} {lv lv' : List (Nat × Value)} (hdg : decode cc pc = .ok (.astore_n k, 1)) (hi : (k : Nat) = i) (h : lv_has ls nL lv) (hn : i < nL) (hl : (i, va_rf x) :: lv.filter (fun q => !(q.1 == i) && !(q.1 + 1 == i && q.2.category == 2)) = lv')
    (kk : ∀ ls' : Array Slot, lv_has ls' nL lv' → W p l e R s m args below meth c H locs cells slots Q (F0 m (pc + 1) ls' rest)) : W p l e R s m args below meth c H locs cells slots Q (F0 m pc ls (va_rf x :: rest)) := by
  cases x with
  | none => exact lv_astore_nN hexec hb hdg hi h hn hl kk
  | some a => exact lv_astore_n hexec hb hdg hi h hn hl kk
theorem mastoreq (hexec : p.tables.exec = Jvm.exec) (hb : c.code = cc) {i nL : Nat} {x : Option Nat} {lv lv' : List (Nat × Value)} (hdg : decode cc pc = .ok (.astore i, 2)) (h : lv_has ls nL lv) (hn : i < nL) (hl : (i, va_rf x) :: lv.filter (fun q => !(q.1 == i) && !(q.1 + 1 == i && q.2.category == 2)) = lv')
    (kk : ∀ ls' : Array Slot, lv_has ls' nL lv' → W p l e R s m args below meth c H locs cells slots Q (F0 m (pc + 2) ls' rest)) : W p l e R s m args below meth c H locs cells slots Q (F0 m pc ls (va_rf x :: rest)) := by
  cases x with
  | none => exact lv_astoreN hexec hb hdg h hn hl kk
  | some a => exact lv_astore hexec hb hdg h hn hl kk
theorem mif_eqB (hexec : p.tables.exec = Jvm.exec) (hb : c.code = cc) {P : Prop} [Decidable P] {off : Int} {tgt : Nat} (hdg : decode cc pc = .ok (.ifCond .eq off, 3)) (ht : (pc : Int) + off = (tgt : Int))
    (kt : ¬ P → W p l e R s m args below meth c H locs cells slots Q (F0 m tgt ls rest)) (kf : P → W p l e R s m args below meth c H locs cells slots Q (F0 m (pc + 3) ls rest)) : W p l e R s m args below meth c H locs cells slots Q (F0 m pc ls (.int (bI P) :: rest)) :=
  lv_if_eq hexec hb hdg ht (fun h => kt (bI_0 h)) (fun h => kf (bI_n0 h))
theorem mif_neB (hexec : p.tables.exec = Jvm.exec) (hb : c.code = cc) {P : Prop} [Decidable P] {off : Int} {tgt : Nat} (hdg : decode cc pc = .ok (.ifCond .ne off, 3)) (ht : (pc : Int) + off = (tgt : Int))
    (kt : P → W p l e R s m args below meth c H locs cells slots Q (F0 m tgt ls rest)) (kf : ¬ P → W p l e R s m args below meth c H locs cells slots Q (F0 m (pc + 3) ls rest)) : W p l e R s m args below meth c H locs cells slots Q (F0 m pc ls (.int (bI P) :: rest)) :=
  lv_if_ne hexec hb hdg ht (fun h => kt (bI_n0 h)) (fun h => kf (bI_0 h))
theorem macmp_ne (hexec : p.tables.exec = Jvm.exec) (hb : c.code = cc) {x y : Nat} {off : Int} {tgt : Nat} (hdg : decode cc pc = .ok (.if_acmp .ne off, 3)) (ht : (pc : Int) + off = (tgt : Int))
    (kt : ¬ x = y → W p l e R s m args below meth c H locs cells slots Q (F0 m tgt ls rest)) (kf : x = y → W p l e R s m args below meth c H locs cells slots Q (F0 m (pc + 3) ls rest)) : W p l e R s m args below meth c H locs cells slots Q (F0 m pc ls (.ref y :: .ref x :: rest)) :=
  lv_acmp_ne (rx := some x) (ry := some y) hexec hb hdg ht (fun h => kt (fun z => h (by rw [z]))) (fun h => kf (Option.some.inj h))
theorem mifnonnullq (hexec : p.tables.exec = Jvm.exec) (hb : c.code = cc) {x : Option Nat} {off : Int} {tgt : Nat} (hdg : decode cc pc = .ok (.ifnonnull off, 3)) (ht : (pc : Int) + off = (tgt : Int))
    (kt : ¬ x = none → W p l e R s m args below meth c H locs cells slots Q (F0 m tgt ls rest)) (kf : x = none → W p l e R s m args below meth c H locs cells slots Q (F0 m (pc + 3) ls rest)) : W p l e R s m args below meth c H locs cells slots Q (F0 m pc ls (va_rf x :: rest)) := by
  cases x with
  | none => exact lv_ifnonnullN hexec hb hdg (kf rfl)
  | some a => exact lv_ifnonnull hexec hb hdg ht (kt (fun z => by cases z))
theorem mifnullq (hexec : p.tables.exec = Jvm.exec) (hb : c.code = cc) {x : Option Nat} {off : Int} {tgt : Nat} (hdg : decode cc pc = .ok (.ifnull off, 3)) (ht : (pc : Int) + off = (tgt : Int))
    (kt : x = none → W p l e R s m args below meth c H locs cells slots Q (F0 m tgt ls rest)) (kf : ¬ x = none → W p l e R s m args below meth c H locs cells slots Q (F0 m (pc + 3) ls rest)) : W p l e R s m args below meth c H locs cells slots Q (F0 m pc ls (va_rf x :: rest)) := by
  cases x with
  | none => exact lv_ifnullN hexec hb hdg ht (kt rfl)
  | some a => exact lv_ifnull hexec hb hdg (kf (fun z => by cases z))
theorem mcallVr {y : MethodName} {bytes : ByteArray} {maxL nL n index ci i : Nat} {ret : Option FieldType} {ws Ts : List Cond} {rm : Room} {own C : String} {As st0 : List Value} {x : Nat} {fs : List Value} {q : vw_C} (hw : mW G V α s H) (hv : V i = some (.inr (ci, fs))) (hc : vwCl[ci]? = some q) (hC : q.1 = C) (S : CallFix p m c cc nL s args Ts own) (hM : Met l y ws rm (va_Pc (.ref (α i) :: As) (fun U => mW G V α U U.heap)) (va_Sq (fun r => r = some x)) 0 0 (fun _ => False)) (cw : CallW R s args own C index y bytes maxL ret ws rm 0 0 n)
    (hn : As.length = n) (hsize : ls.size = nL) (hstack : st0 = As.reverse ++ .ref (α i) :: rest) (hW : (rest.map fun v => v.category).sum ≤ 8) (hdg : decode cc pc = .ok (.invokevirtual index, 3)) (hf : cells ≤ R.cells ∧ slots ≤ R.slots)
    (kk : W p l e R s m args below meth c H locs cells slots Q (F0 m (pc + 3) ls (.ref x :: rest))) : W p l e R s m args below meth c H locs cells slots Q (F0 m pc ls st0) :=
  mcallVq (x := some x) hw hv hc hC S hM cw hn hsize hstack hW hdg hf kk
theorem miald' (hexec : p.tables.exec = Jvm.exec) (hb : c.code = cc) (hw : mW G V α s H) {i : Nat} {n : Nat} {f : Nat → Int32} (hv : V i = some (.inl (G.2.2.1.1, n, .inl f))) {j : Int32} {k : Nat} (hj : j = nI k) (hk : k < n) (hn : n < 2 ^ 31) (hdg : decode cc pc = .ok (.iaload, 1))
    (kk : W p l e R s m args below meth c H locs cells slots Q (F0 m (pc + 1) ls (.int (f k) :: rest))) : W p l e R s m args below meth c H locs cells slots Q (F0 m pc ls (.int j :: .ref (α i) :: rest)) := by
  subst hj
  exact miald hexec hb hw hv (vp_in_nI hk hn) hdg (by rw [nI_clamp (by omega)]; exact kk)
theorem mzald' (hexec : p.tables.exec = Jvm.exec) (hb : c.code = cc) (hw : mW G V α s H) {i : Nat} {n : Nat} {f : Nat → Int32} (hv : V i = some (.inl (G.2.2.1.2, n, .inl f))) {j : Int32} {k : Nat} (hj : j = nI k) (hk : k < n) (hn : n < 2 ^ 31) (hdg : decode cc pc = .ok (.baload, 1))
    (kk : W p l e R s m args below meth c H locs cells slots Q (F0 m (pc + 1) ls (.int (f k) :: rest))) : W p l e R s m args below meth c H locs cells slots Q (F0 m pc ls (.int j :: .ref (α i) :: rest)) := by
  subst hj
  exact mzald hexec hb hw hv (vp_in_nI hk hn) hdg (by rw [nI_clamp (by omega)]; exact kk)
theorem mlald' (hexec : p.tables.exec = Jvm.exec) (hb : c.code = cc) (hw : mW G V α s H) {i : Nat} {n : Nat} {f : Nat → Int64} (hv : V i = some (.inl (G.2.2.2.2.1, n, .inr (.inl f)))) {j : Int32} {k : Nat} (hj : j = nI k) (hk : k < n) (hn : n < 2 ^ 31) (hdg : decode cc pc = .ok (.laload, 1))
    (kk : W p l e R s m args below meth c H locs cells slots Q (F0 m (pc + 1) ls (.long (f k) :: rest))) : W p l e R s m args below meth c H locs cells slots Q (F0 m pc ls (.int j :: .ref (α i) :: rest)) := by
  subst hj
  exact mlald hexec hb hw hv (vp_in_nI hk hn) hdg (by rw [nI_clamp (by omega)]; exact kk)
theorem maald' (hexec : p.tables.exec = Jvm.exec) (hb : c.code = cc) (hw : mW G V α s H) {i : Nat} {n : Nat} {f : Nat → Option Nat} (hv : V i = some (.inl (G.2.2.2.1, n, .inr (.inr (.inr (.inr f)))))) {j : Int32} {k : Nat} (hj : j = nI k) (hk : k < n) (hn : n < 2 ^ 31) (hdg : decode cc pc = .ok (.aaload, 1))
    (kk : W p l e R s m args below meth c H locs cells slots Q (F0 m (pc + 1) ls (va_rf (f k) :: rest))) : W p l e R s m args below meth c H locs cells slots Q (F0 m pc ls (.int j :: .ref (α i) :: rest)) := by
  subst hj
  exact maald hexec hb hw hv (vp_in_nI hk hn) hdg (by rw [nI_clamp (by omega)]; exact kk)
theorem mjoin {E : Int32} {pcJ : Nat} {st st0 : List Value} (J : W p l e R s m args below meth c H locs cells slots Q (F0 m pcJ ls (.int E :: st)))
    (kk : (∀ z : Int32, z = E → W p l e R s m args below meth c H locs cells slots Q (F0 m pcJ ls (.int z :: st))) → W p l e R s m args below meth c H locs cells slots Q (F0 m pc ls st0)) : W p l e R s m args below meth c H locs cells slots Q (F0 m pc ls st0) := kk (fun z hz => by subst hz; exact J)
/-- a counted loop: at its head the locals are L j -/
theorem mloop {nL : Nat} (N : Nat) (L : Nat → List (Nat × Value)) {head : Nat} (hz : ∀ ls : Array Slot, lv_has ls nL (L N) → W p l e R s m args below meth c H locs cells slots Q (F0 m head ls []))
    (hs : ∀ j : Nat, j < N → (∀ ls : Array Slot, lv_has ls nL (L (j + 1)) → W p l e R s m args below meth c H locs cells slots Q (F0 m head ls [])) → ∀ ls : Array Slot, lv_has ls nL (L j) → W p l e R s m args below meth c H locs cells slots Q (F0 m head ls [])) :
    ∀ (ls : Array Slot), lv_has ls nL (L 0) → W p l e R s m args below meth c H locs cells slots Q (F0 m head ls []) := by
  have key : ∀ (n j : Nat), j + n = N → ∀ ls : Array Slot, lv_has ls nL (L j) → W p l e R s m args below meth c H locs cells slots Q (F0 m head ls []) := by
    intro n
    induction n with
    | zero => intro j hj ls hl; have : j = N := by omega
              subst this; exact hz ls hl
    | succ n ih => intro j hj ls hl; exact hs j (by omega) (ih (j + 1) (by omega)) ls hl
  exact key N 0 (by omega)
/-- the same with a word that holds at its head -/
theorem mloopI {nL : Nat} (N : Nat) (L : Nat → List (Nat × Value)) (I : Nat → Prop) {head : Nat} (hz : I N → ∀ ls : Array Slot, lv_has ls nL (L N) → W p l e R s m args below meth c H locs cells slots Q (F0 m head ls []))
    (hs : ∀ j : Nat, j < N → I j → (I (j + 1) → ∀ ls : Array Slot, lv_has ls nL (L (j + 1)) → W p l e R s m args below meth c H locs cells slots Q (F0 m head ls [])) → ∀ ls : Array Slot, lv_has ls nL (L j) → W p l e R s m args below meth c H locs cells slots Q (F0 m head ls [])) :
    I 0 → ∀ (ls : Array Slot), lv_has ls nL (L 0) → W p l e R s m args below meth c H locs cells slots Q (F0 m head ls []) := by
  have key : ∀ (n j : Nat), j + n = N → I j → ∀ ls : Array Slot, lv_has ls nL (L j) → W p l e R s m args below meth c H locs cells slots Q (F0 m head ls []) := by
    intro n
    induction n with
    | zero => intro j hj hi ls hl; have : j = N := by omega
              subst this; exact hz hi ls hl
    | succ n ih => intro j hj hi ls hl; exact hs j (by omega) hi (ih (j + 1) (by omega)) ls hl
  exact key N 0 (by omega)
theorem mcallVv {y : MethodName} {bytes : ByteArray} {maxL nL n index ci i : Nat} {ret : Option FieldType} {ws Ts : List Cond} {rm : Room} {own C : String} {As st0 : List Value} {fs : List Value} {q : vw_C} (hw : mW G V α s H) (hv : V i = some (.inr (ci, fs))) (hc : vwCl[ci]? = some q) (hC : q.1 = C) (S : CallFix p m c cc nL s args Ts own) (hM : Met l y ws rm (va_Pc (.ref (α i) :: As) (fun U => mW G V α U U.heap)) (va_Sv (fun _ => True)) 0 0 (fun _ => False)) (cw : CallW R s args own C index y bytes maxL ret ws rm 0 0 n)
    (hn : As.length = n) (hsize : ls.size = nL) (hstack : st0 = As.reverse ++ .ref (α i) :: rest) (hW : (rest.map fun v => v.category).sum ≤ 8) (hdg : decode cc pc = .ok (.invokevirtual index, 3)) (hf : cells ≤ R.cells ∧ slots ≤ R.slots)
    (kk : W p l e R s m args below meth c H locs cells slots Q (F0 m (pc + 3) ls rest)) : W p l e R s m args below meth c H locs cells slots Q (F0 m pc ls st0) := by
  subst hstack
  subst hC
  exact va_csv (W.runV (g := F0 m pc ls (As.reverse ++ .ref (α i) :: rest)) S hM cw ⟨mPcB, mrecv hw hv hc, fun U hU hWm => ⟨rfl, by show mW G V α U U.heap; rw [hU]; exact hw.warm hWm⟩⟩ rfl hn hsize rfl (lv_room hW) hdg hf) (fun _ => kk)
theorem mcallSv {y : MethodName} {bytes : ByteArray} {maxL nL n index : Nat} {ret : Option FieldType} {ws Ts : List Cond} {rm : Room} {own : String} {As st0 : List Value} (hw : mW G V α s H) (S : CallFix p m c cc nL s args Ts own) (hM : Met l y ws rm (va_Pc As (fun U => mW G V α U U.heap)) (va_Sv (fun _ => True)) 0 0 (fun _ => False)) (cw : CallB R s args own index y bytes maxL ret ws rm 0 0 n ∧ (Cond.static y).before args s = true)
    (hn : As.length = n) (hsize : ls.size = nL) (hstack : st0 = As.reverse ++ rest) (hW : (rest.map fun v => v.category).sum ≤ 8) (hdg : decode cc pc = .ok (.invokestatic index, 3)) (hf : cells ≤ R.cells ∧ slots ≤ R.slots)
    (kk : W p l e R s m args below meth c H locs cells slots Q (F0 m (pc + 3) ls rest)) : W p l e R s m args below meth c H locs cells slots Q (F0 m pc ls st0) := by
  subst hstack
  exact va_csv (W.runS (g := F0 m pc ls (As.reverse ++ rest)) S hM cw ⟨mPcB, fun U hU hWm => ⟨rfl, by show mW G V α U U.heap; rw [hU]; exact hw.warm hWm⟩⟩ rfl hn hsize rfl (lv_room hW) hdg hf) (fun _ => kk)
theorem miast' (hexec : p.tables.exec = Jvm.exec) (hb : c.code = cc) (hw : mW G V α s H) (hS0 : va_S (mfree G) s.heap H locs) {i : Nat} {n : Nat} {f : Nat → Int32} (hv : V i = some (.inl (G.2.2.1.1, n, .inl f))) {j x : Int32} {k : Nat} (hj : j = nI k) (hk : k < n) (hn : n < 2 ^ 31) (hdg : decode cc pc = .ok (.iastore, 1))
    (kk : ∀ (H1 : Heap) (locs1 : List Loc), mW G (vup V i (.inl (G.2.2.1.1, n, .inl (upd f k x)))) α s H1 → va_S (mfree G) s.heap H1 locs1 → W p l e R s m args below meth c H1 locs1 cells slots Q (F0 m (pc + 1) ls rest)) : W p l e R s m args below meth c H locs cells slots Q (F0 m pc ls (.int x :: .int j :: .ref (α i) :: rest)) := by
  subst hj
  exact miast hexec hb hw hS0 hv (vp_in_nI hk hn) hdg (fun H1 locs1 h1 h2 => kk H1 locs1 (by rw [nI_clamp (by omega)] at h1; exact h1) h2)
theorem mzast' (hexec : p.tables.exec = Jvm.exec) (hb : c.code = cc) (hw : mW G V α s H) (hS0 : va_S (mfree G) s.heap H locs) {i : Nat} {n : Nat} {f : Nat → Int32} (hv : V i = some (.inl (G.2.2.1.2, n, .inl f))) {j x : Int32} {k : Nat} (hj : j = nI k) (hk : k < n) (hn : n < 2 ^ 31) (hx1 : vp_nar .boolean x = x) (hdg : decode cc pc = .ok (.bastore, 1))
    (kk : ∀ (H1 : Heap) (locs1 : List Loc), mW G (vup V i (.inl (G.2.2.1.2, n, .inl (upd f k x)))) α s H1 → va_S (mfree G) s.heap H1 locs1 → W p l e R s m args below meth c H1 locs1 cells slots Q (F0 m (pc + 1) ls rest)) : W p l e R s m args below meth c H locs cells slots Q (F0 m pc ls (.int x :: .int j :: .ref (α i) :: rest)) := by
  subst hj
  exact mzast hexec hb hw hS0 hv (vp_in_nI hk hn) hdg (fun H1 locs1 h1 h2 => kk H1 locs1 (by rw [nI_clamp (by omega), hx1] at h1; exact h1) h2)
/-- a call that writes or makes -/
theorem mcallVw {y : MethodName} {bytes : ByteArray} {maxL nL n index ci i mc ms : Nat} {ret : Option FieldType} {ws Ts : List Cond} {rm : Room} {own C : String} {As st0 : List Value} {post : Int32 → mV × (Nat → Nat) → Prop} {fs : List Value} {q : vw_C} (hw : mW G V α s H) (hv : V i = some (.inr (ci, fs))) (hc : vwCl[ci]? = some q) (hC : q.1 = C) (S : CallFix p m c cc nL s args Ts own) (hS : va_S (mfree G) s.heap H locs) (hM : Met l y ws rm (va_Pc (.ref (α i) :: As) (fun U => mW G V α U U.heap)) (va_Qi post (fun u t => mH G u.1 u.2 t.heap) (mfree G)) mc ms (mfree G)) (cw : CallW R s args own C index y bytes maxL ret ws rm mc ms n)
    (hn : As.length = n) (hsize : ls.size = nL) (hstack : st0 = As.reverse ++ .ref (α i) :: rest) (hW : (rest.map fun v => v.category).sum ≤ 8) (hdg : decode cc pc = .ok (.invokevirtual index, 3)) (hf : cells + mc ≤ R.cells ∧ slots + ms ≤ R.slots)
    (kk : ∀ (r : Int32) (V1 : mV) (α1 : Nat → Nat) (H1 : Heap) (locs1 : List Loc), post r (V1, α1) → mW G V1 α1 s H1 → va_S (mfree G) s.heap H1 locs1 → W p l e R s m args below meth c H1 locs1 (cells + mc) (slots + ms) Q (F0 m (pc + 3) ls (.int r :: rest))) : W p l e R s m args below meth c H locs cells slots Q (F0 m pc ls st0) := by
  subst hstack
  subst hC
  exact va_calli (va_runV (g := F0 m pc ls (As.reverse ++ .ref (α i) :: rest)) S hM cw ⟨mPcB, mrecv hw hv hc, fun U hU hWm => ⟨rfl, by show mW G V α U U.heap; rw [hU]; exact hw.warm hWm⟩⟩ rfl hn hsize rfl (lv_room hW) hdg hf) hS (fun q _ h => h) (fun q h => h)
    (fun r u t H1 locs1 ht hvm hp hB hz hk hS1 => kk r u.1 u.2 H1 locs1 hp (hw.at hk (by rw [← ht]; exact hB)) hS1)
end MX
section MY
variable {p : Program} {l : Launch} {e : Env} {R : Room} {s : State} {m : MethodId} {args : Array Value} {below : List Frame} {meth : Method} {c : Code} {cells slots : Nat} {Q : State → Prop} {G : mG} {α : Nat → Nat}
/-- a counted loop that writes: its world at the head keeps I j -/
theorem mloopW {nL : Nat} (N : Nat) (L : Nat → List (Nat × Value)) (I : Nat → mV → Prop) {head : Nat}
    (hz : ∀ (V : mV) (H : Heap) (locs : List Loc), I N V → mW G V α s H → va_S (mfree G) s.heap H locs → ∀ ls : Array Slot, lv_has ls nL (L N) → W p l e R s m args below meth c H locs cells slots Q (F0 m head ls []))
    (hs : ∀ j : Nat, j < N → (∀ (V : mV) (H : Heap) (locs : List Loc), I (j + 1) V → mW G V α s H → va_S (mfree G) s.heap H locs → ∀ ls : Array Slot, lv_has ls nL (L (j + 1)) → W p l e R s m args below meth c H locs cells slots Q (F0 m head ls [])) → ∀ (V : mV) (H : Heap) (locs : List Loc), I j V → mW G V α s H → va_S (mfree G) s.heap H locs → ∀ ls : Array Slot, lv_has ls nL (L j) → W p l e R s m args below meth c H locs cells slots Q (F0 m head ls [])) :
    ∀ (V : mV) (H : Heap) (locs : List Loc), I 0 V → mW G V α s H → va_S (mfree G) s.heap H locs → ∀ (ls : Array Slot), lv_has ls nL (L 0) → W p l e R s m args below meth c H locs cells slots Q (F0 m head ls []) := by
  have key : ∀ (n j : Nat), j + n = N → ∀ (V : mV) (H : Heap) (locs : List Loc), I j V → mW G V α s H → va_S (mfree G) s.heap H locs → ∀ ls : Array Slot, lv_has ls nL (L j) → W p l e R s m args below meth c H locs cells slots Q (F0 m head ls []) := by
    intro n
    induction n with
    | zero => intro j hj; have : j = N := by omega
              subst this; exact hz
    | succ n ih => intro j hj; exact hs j (by omega) (ih (j + 1) (by omega))
  exact key N 0 (by omega)
end MY
end
section
/-! what the numbers mean: f 0 base, 1 weekdays, 2 from, 3 to, 4 ranks, 5 percent, 6 off, 7 holiday, 8 rank, 9 by, 10 start, 11 length, 12 taken, 13 gone -/
abbrev sT : Type := Nat → Nat → Int32
theorem mdiv {a : Nat} (h : a < 2 ^ 31) (d : Nat) (h0 : 0 < d) (hd : d < 2 ^ 31) : nI a / nI d = nI (a / d) := pk_div h h0 hd
theorem mrem {a : Nat} (h : a < 2 ^ 31) (d : Nat) (h0 : 0 < d) (hd : d < 2 ^ 31) : nI a - nI a / nI d * nI d = nI (a % d) := pk_rem h h0 hd
def s_ovt (q : Int32) : Int32 := if q < 40 then (if q < 32 then 100 else 150) else 200
def s_paid (f : sT) (s : Nat) : Int32 := if f 13 s = 0 then (if 12 ≤ f 11 s then f 11 s else 12) else 0
def s_owed (x : Int32) : Int32 := if x < 40 then (if x < 20 then 0 else 1) else 2
def s_lacks (f : sT) (s : Nat) : Int32 := if f 13 s = 0 then (if f 12 s ≤ s_owed (f 11 s) then s_owed (f 11 s) - f 12 s else 0) else 0
def s_on (f : sT) (k d : Nat) : Int32 := if f 1 k = 0 then f 7 d else bI ((f 1 k >>> ((nI d - nI d / 7 * 7) &&& 31)) &&& 1 = 1)
abbrev s_ap (f : sT) (k n : Nat) (r : Int32) : Prop := ¬ s_on f k (n / 96) = 0 ∧ f 6 k = 0 ∧ (f 4 k >>> (r &&& 31)) &&& 1 = 1 ∧ ¬ nI (n % 96) < f 2 k ∧ ¬ f 3 k ≤ nI (n % 96)
/-- the greatest percentage among the first rules -/
def s_P (f : sT) (w a q : Nat) : Nat → Int32
  | 0 => s_ovt (nI q)
  | k + 1 => if ¬ f 5 k ≤ s_P f w a q k ∧ s_ap f k (a + q) (f 8 w) then f 5 k else s_P f w a q k
/-- the first rule with this percentage that applies, among the first rules -/
def s_G (f : sT) (w a q : Nat) (x : Int32) : Nat → Option Nat
  | 0 => none
  | k + 1 => match s_G f w a q x k with
    | some i => some i
    | none => if f 5 k = x ∧ s_ap f k (a + q) (f 8 w) then some k else none
theorem s_G_mono {f : sT} {w a q : Nat} {x : Int32} {j i : Nat} (h : s_G f w a q x j = some i) : ∀ n, s_G f w a q x (j + n) = some i
  | 0 => h
  | n + 1 => by
    have e : s_G f w a q x (j + (n + 1)) = match s_G f w a q x (j + n) with
      | some i => some i
      | none => if f 5 (j + n) = x ∧ s_ap f (j + n) (a + q) (f 8 w) then some (j + n) else none := rfl
    rw [e, s_G_mono h n]
theorem s_G_le {f : sT} {w a q : Nat} {x : Int32} {j i n : Nat} (h : s_G f w a q x j = some i) (hn : j ≤ n) : s_G f w a q x n = some i := by
  have := s_G_mono h (n - j)
  rwa [show j + (n - j) = n by omega] at this
theorem s_G_hit {f : sT} {w a q : Nat} {x : Int32} {j : Nat} (h : s_G f w a q x j = none) (c : f 5 j = x ∧ s_ap f j (a + q) (f 8 w)) : s_G f w a q x (j + 1) = some j := by
  have e : s_G f w a q x (j + 1) = match s_G f w a q x j with
      | some i => some i
      | none => if f 5 j = x ∧ s_ap f j (a + q) (f 8 w) then some j else none := rfl
  rw [e, h]
  exact if_pos c
theorem s_G_miss {f : sT} {w a q : Nat} {x : Int32} {j : Nat} (h : s_G f w a q x j = none) (c : ¬ (f 5 j = x ∧ s_ap f j (a + q) (f 8 w))) : s_G f w a q x (j + 1) = none := by
  have e : s_G f w a q x (j + 1) = match s_G f w a q x j with
      | some i => some i
      | none => if f 5 j = x ∧ s_ap f j (a + q) (f 8 w) then some j else none := rfl
  rw [e, h]
  exact if_neg c
def s_R0 (o : Option Nat) (x y : Int32) : Int32 := match o with
  | some k => nI k
  | none => if x ≤ 100 then -1 else if x = y then -2 else -1
def s_R (f : sT) (nr w a q : Nat) : Int32 := s_R0 (s_G f w a q (s_P f w a q nr) nr) (s_P f w a q nr) (s_ovt (nI q))
def s_amt (f : sT) (nr w a r q : Nat) : Int32 := f 0 r * s_P f w a q nr / 100
def s_sum (f : sT) (nr s w a r : Nat) : Nat → Int32
  | 0 => 2 * s_lacks f s * f 0 r
  | j + 1 => s_sum f nr s w a r j + s_amt f nr w a r j
abbrev inn (x lo hi : Int32) : Prop := ¬ x < lo ∧ ¬ hi < x
abbrev mobj (α : Nat → Nat) (nr nw ns : Nat) (th : Int32) : va_E := .inr (5, [.ref (α 11), .int (nI nr), .ref (α 12), .ref (α 13), .ref (α 14), .ref (α 15), .ref (α 16), .ref (α 17), .ref (α 18), .int (nI nw), .ref (α 19), .int (nI ns), .ref (α 20), .ref (α 21), .ref (α 22), .ref (α 23), .ref (α 24), .int th])
/-- the model's cells -/
def mM (G : mG) (V : mV) (α : Nat → Nat) (f : sT) (nr nw ns : Nat) (th : Int32) : Prop :=
  V 10 = some (mobj α nr nw ns th) ∧
  V 11 = some (.inl (G.2.2.1.1, 4, .inl (f 0))) ∧ V 12 = some (.inl (G.2.2.1.1, 16, .inl (f 1))) ∧ V 13 = some (.inl (G.2.2.1.1, 16, .inl (f 2))) ∧ V 14 = some (.inl (G.2.2.1.1, 16, .inl (f 3))) ∧ V 15 = some (.inl (G.2.2.1.1, 16, .inl (f 4))) ∧ V 16 = some (.inl (G.2.2.1.1, 16, .inl (f 5))) ∧ V 17 = some (.inl (G.2.2.1.2, 16, .inl (f 6))) ∧ V 18 = some (.inl (G.2.2.1.2, 365, .inl (f 7))) ∧ V 19 = some (.inl (G.2.2.1.1, 12, .inl (f 8))) ∧ V 20 = some (.inl (G.2.2.1.1, 80, .inl (f 9))) ∧ V 21 = some (.inl (G.2.2.1.1, 80, .inl (f 10))) ∧ V 22 = some (.inl (G.2.2.1.1, 80, .inl (f 11))) ∧ V 23 = some (.inl (G.2.2.1.1, 80, .inl (f 12))) ∧ V 24 = some (.inl (G.2.2.1.2, 80, .inl (f 13)))
def u2 (f : sT) (j k : Nat) (x : Int32) : sT := fun i => if i = j then upd (f j) k x else f i
theorem u2_n (f : sT) (j k : Nat) (x : Int32) {i : Nat} (h : i ≠ j) : u2 f j k x i = f i := if_neg h
theorem u2_s (f : sT) (j k : Nat) (x : Int32) : u2 f j k x j = upd (f j) k x := if_pos rfl
theorem mM.obj {G : mG} {V : mV} {α : Nat → Nat} {f : sT} {nr nw ns : Nat} {th : Int32} (h : mM G V α f nr nw ns th) (nr1 nw1 ns1 : Nat) (th1 : Int32) : mM G (vup V 10 (mobj α nr1 nw1 ns1 th1)) α f nr1 nw1 ns1 th1 := by
  obtain ⟨m10, m11, m12, m13, m14, m15, m16, m17, m18, m19, m20, m21, m22, m23, m24⟩ := h
  exact ⟨vup_s _ _ _, (vup_n _ _ (by decide)).trans m11, (vup_n _ _ (by decide)).trans m12, (vup_n _ _ (by decide)).trans m13, (vup_n _ _ (by decide)).trans m14, (vup_n _ _ (by decide)).trans m15, (vup_n _ _ (by decide)).trans m16, (vup_n _ _ (by decide)).trans m17, (vup_n _ _ (by decide)).trans m18, (vup_n _ _ (by decide)).trans m19, (vup_n _ _ (by decide)).trans m20, (vup_n _ _ (by decide)).trans m21, (vup_n _ _ (by decide)).trans m22, (vup_n _ _ (by decide)).trans m23, (vup_n _ _ (by decide)).trans m24⟩
theorem mM.a0 {G : mG} {V : mV} {α : Nat → Nat} {f : sT} {nr nw ns : Nat} {th : Int32} (h : mM G V α f nr nw ns th) (k : Nat) (x : Int32) : mM G (vup V 11 (.inl (G.2.2.1.1, 4, .inl (upd (f 0) k x)))) α (u2 f 0 k x) nr nw ns th := by
  obtain ⟨m10, m11, m12, m13, m14, m15, m16, m17, m18, m19, m20, m21, m22, m23, m24⟩ := h
  exact ⟨(vup_n _ _ (by decide)).trans m10, by rw [vup_s, u2_s], by rw [vup_n _ _ (by decide), u2_n _ _ _ _ (by decide)]; exact m12, by rw [vup_n _ _ (by decide), u2_n _ _ _ _ (by decide)]; exact m13, by rw [vup_n _ _ (by decide), u2_n _ _ _ _ (by decide)]; exact m14, by rw [vup_n _ _ (by decide), u2_n _ _ _ _ (by decide)]; exact m15, by rw [vup_n _ _ (by decide), u2_n _ _ _ _ (by decide)]; exact m16, by rw [vup_n _ _ (by decide), u2_n _ _ _ _ (by decide)]; exact m17, by rw [vup_n _ _ (by decide), u2_n _ _ _ _ (by decide)]; exact m18, by rw [vup_n _ _ (by decide), u2_n _ _ _ _ (by decide)]; exact m19, by rw [vup_n _ _ (by decide), u2_n _ _ _ _ (by decide)]; exact m20, by rw [vup_n _ _ (by decide), u2_n _ _ _ _ (by decide)]; exact m21, by rw [vup_n _ _ (by decide), u2_n _ _ _ _ (by decide)]; exact m22, by rw [vup_n _ _ (by decide), u2_n _ _ _ _ (by decide)]; exact m23, by rw [vup_n _ _ (by decide), u2_n _ _ _ _ (by decide)]; exact m24⟩
theorem mM.a1 {G : mG} {V : mV} {α : Nat → Nat} {f : sT} {nr nw ns : Nat} {th : Int32} (h : mM G V α f nr nw ns th) (k : Nat) (x : Int32) : mM G (vup V 12 (.inl (G.2.2.1.1, 16, .inl (upd (f 1) k x)))) α (u2 f 1 k x) nr nw ns th := by
  obtain ⟨m10, m11, m12, m13, m14, m15, m16, m17, m18, m19, m20, m21, m22, m23, m24⟩ := h
  exact ⟨(vup_n _ _ (by decide)).trans m10, by rw [vup_n _ _ (by decide), u2_n _ _ _ _ (by decide)]; exact m11, by rw [vup_s, u2_s], by rw [vup_n _ _ (by decide), u2_n _ _ _ _ (by decide)]; exact m13, by rw [vup_n _ _ (by decide), u2_n _ _ _ _ (by decide)]; exact m14, by rw [vup_n _ _ (by decide), u2_n _ _ _ _ (by decide)]; exact m15, by rw [vup_n _ _ (by decide), u2_n _ _ _ _ (by decide)]; exact m16, by rw [vup_n _ _ (by decide), u2_n _ _ _ _ (by decide)]; exact m17, by rw [vup_n _ _ (by decide), u2_n _ _ _ _ (by decide)]; exact m18, by rw [vup_n _ _ (by decide), u2_n _ _ _ _ (by decide)]; exact m19, by rw [vup_n _ _ (by decide), u2_n _ _ _ _ (by decide)]; exact m20, by rw [vup_n _ _ (by decide), u2_n _ _ _ _ (by decide)]; exact m21, by rw [vup_n _ _ (by decide), u2_n _ _ _ _ (by decide)]; exact m22, by rw [vup_n _ _ (by decide), u2_n _ _ _ _ (by decide)]; exact m23, by rw [vup_n _ _ (by decide), u2_n _ _ _ _ (by decide)]; exact m24⟩
theorem mM.a2 {G : mG} {V : mV} {α : Nat → Nat} {f : sT} {nr nw ns : Nat} {th : Int32} (h : mM G V α f nr nw ns th) (k : Nat) (x : Int32) : mM G (vup V 13 (.inl (G.2.2.1.1, 16, .inl (upd (f 2) k x)))) α (u2 f 2 k x) nr nw ns th := by
  obtain ⟨m10, m11, m12, m13, m14, m15, m16, m17, m18, m19, m20, m21, m22, m23, m24⟩ := h
  exact ⟨(vup_n _ _ (by decide)).trans m10, by rw [vup_n _ _ (by decide), u2_n _ _ _ _ (by decide)]; exact m11, by rw [vup_n _ _ (by decide), u2_n _ _ _ _ (by decide)]; exact m12, by rw [vup_s, u2_s], by rw [vup_n _ _ (by decide), u2_n _ _ _ _ (by decide)]; exact m14, by rw [vup_n _ _ (by decide), u2_n _ _ _ _ (by decide)]; exact m15, by rw [vup_n _ _ (by decide), u2_n _ _ _ _ (by decide)]; exact m16, by rw [vup_n _ _ (by decide), u2_n _ _ _ _ (by decide)]; exact m17, by rw [vup_n _ _ (by decide), u2_n _ _ _ _ (by decide)]; exact m18, by rw [vup_n _ _ (by decide), u2_n _ _ _ _ (by decide)]; exact m19, by rw [vup_n _ _ (by decide), u2_n _ _ _ _ (by decide)]; exact m20, by rw [vup_n _ _ (by decide), u2_n _ _ _ _ (by decide)]; exact m21, by rw [vup_n _ _ (by decide), u2_n _ _ _ _ (by decide)]; exact m22, by rw [vup_n _ _ (by decide), u2_n _ _ _ _ (by decide)]; exact m23, by rw [vup_n _ _ (by decide), u2_n _ _ _ _ (by decide)]; exact m24⟩
theorem mM.a3 {G : mG} {V : mV} {α : Nat → Nat} {f : sT} {nr nw ns : Nat} {th : Int32} (h : mM G V α f nr nw ns th) (k : Nat) (x : Int32) : mM G (vup V 14 (.inl (G.2.2.1.1, 16, .inl (upd (f 3) k x)))) α (u2 f 3 k x) nr nw ns th := by
  obtain ⟨m10, m11, m12, m13, m14, m15, m16, m17, m18, m19, m20, m21, m22, m23, m24⟩ := h
  exact ⟨(vup_n _ _ (by decide)).trans m10, by rw [vup_n _ _ (by decide), u2_n _ _ _ _ (by decide)]; exact m11, by rw [vup_n _ _ (by decide), u2_n _ _ _ _ (by decide)]; exact m12, by rw [vup_n _ _ (by decide), u2_n _ _ _ _ (by decide)]; exact m13, by rw [vup_s, u2_s], by rw [vup_n _ _ (by decide), u2_n _ _ _ _ (by decide)]; exact m15, by rw [vup_n _ _ (by decide), u2_n _ _ _ _ (by decide)]; exact m16, by rw [vup_n _ _ (by decide), u2_n _ _ _ _ (by decide)]; exact m17, by rw [vup_n _ _ (by decide), u2_n _ _ _ _ (by decide)]; exact m18, by rw [vup_n _ _ (by decide), u2_n _ _ _ _ (by decide)]; exact m19, by rw [vup_n _ _ (by decide), u2_n _ _ _ _ (by decide)]; exact m20, by rw [vup_n _ _ (by decide), u2_n _ _ _ _ (by decide)]; exact m21, by rw [vup_n _ _ (by decide), u2_n _ _ _ _ (by decide)]; exact m22, by rw [vup_n _ _ (by decide), u2_n _ _ _ _ (by decide)]; exact m23, by rw [vup_n _ _ (by decide), u2_n _ _ _ _ (by decide)]; exact m24⟩
theorem mM.a4 {G : mG} {V : mV} {α : Nat → Nat} {f : sT} {nr nw ns : Nat} {th : Int32} (h : mM G V α f nr nw ns th) (k : Nat) (x : Int32) : mM G (vup V 15 (.inl (G.2.2.1.1, 16, .inl (upd (f 4) k x)))) α (u2 f 4 k x) nr nw ns th := by
  obtain ⟨m10, m11, m12, m13, m14, m15, m16, m17, m18, m19, m20, m21, m22, m23, m24⟩ := h
  exact ⟨(vup_n _ _ (by decide)).trans m10, by rw [vup_n _ _ (by decide), u2_n _ _ _ _ (by decide)]; exact m11, by rw [vup_n _ _ (by decide), u2_n _ _ _ _ (by decide)]; exact m12, by rw [vup_n _ _ (by decide), u2_n _ _ _ _ (by decide)]; exact m13, by rw [vup_n _ _ (by decide), u2_n _ _ _ _ (by decide)]; exact m14, by rw [vup_s, u2_s], by rw [vup_n _ _ (by decide), u2_n _ _ _ _ (by decide)]; exact m16, by rw [vup_n _ _ (by decide), u2_n _ _ _ _ (by decide)]; exact m17, by rw [vup_n _ _ (by decide), u2_n _ _ _ _ (by decide)]; exact m18, by rw [vup_n _ _ (by decide), u2_n _ _ _ _ (by decide)]; exact m19, by rw [vup_n _ _ (by decide), u2_n _ _ _ _ (by decide)]; exact m20, by rw [vup_n _ _ (by decide), u2_n _ _ _ _ (by decide)]; exact m21, by rw [vup_n _ _ (by decide), u2_n _ _ _ _ (by decide)]; exact m22, by rw [vup_n _ _ (by decide), u2_n _ _ _ _ (by decide)]; exact m23, by rw [vup_n _ _ (by decide), u2_n _ _ _ _ (by decide)]; exact m24⟩
theorem mM.a5 {G : mG} {V : mV} {α : Nat → Nat} {f : sT} {nr nw ns : Nat} {th : Int32} (h : mM G V α f nr nw ns th) (k : Nat) (x : Int32) : mM G (vup V 16 (.inl (G.2.2.1.1, 16, .inl (upd (f 5) k x)))) α (u2 f 5 k x) nr nw ns th := by
  obtain ⟨m10, m11, m12, m13, m14, m15, m16, m17, m18, m19, m20, m21, m22, m23, m24⟩ := h
  exact ⟨(vup_n _ _ (by decide)).trans m10, by rw [vup_n _ _ (by decide), u2_n _ _ _ _ (by decide)]; exact m11, by rw [vup_n _ _ (by decide), u2_n _ _ _ _ (by decide)]; exact m12, by rw [vup_n _ _ (by decide), u2_n _ _ _ _ (by decide)]; exact m13, by rw [vup_n _ _ (by decide), u2_n _ _ _ _ (by decide)]; exact m14, by rw [vup_n _ _ (by decide), u2_n _ _ _ _ (by decide)]; exact m15, by rw [vup_s, u2_s], by rw [vup_n _ _ (by decide), u2_n _ _ _ _ (by decide)]; exact m17, by rw [vup_n _ _ (by decide), u2_n _ _ _ _ (by decide)]; exact m18, by rw [vup_n _ _ (by decide), u2_n _ _ _ _ (by decide)]; exact m19, by rw [vup_n _ _ (by decide), u2_n _ _ _ _ (by decide)]; exact m20, by rw [vup_n _ _ (by decide), u2_n _ _ _ _ (by decide)]; exact m21, by rw [vup_n _ _ (by decide), u2_n _ _ _ _ (by decide)]; exact m22, by rw [vup_n _ _ (by decide), u2_n _ _ _ _ (by decide)]; exact m23, by rw [vup_n _ _ (by decide), u2_n _ _ _ _ (by decide)]; exact m24⟩
theorem mM.a6 {G : mG} {V : mV} {α : Nat → Nat} {f : sT} {nr nw ns : Nat} {th : Int32} (h : mM G V α f nr nw ns th) (k : Nat) (x : Int32) : mM G (vup V 17 (.inl (G.2.2.1.2, 16, .inl (upd (f 6) k x)))) α (u2 f 6 k x) nr nw ns th := by
  obtain ⟨m10, m11, m12, m13, m14, m15, m16, m17, m18, m19, m20, m21, m22, m23, m24⟩ := h
  exact ⟨(vup_n _ _ (by decide)).trans m10, by rw [vup_n _ _ (by decide), u2_n _ _ _ _ (by decide)]; exact m11, by rw [vup_n _ _ (by decide), u2_n _ _ _ _ (by decide)]; exact m12, by rw [vup_n _ _ (by decide), u2_n _ _ _ _ (by decide)]; exact m13, by rw [vup_n _ _ (by decide), u2_n _ _ _ _ (by decide)]; exact m14, by rw [vup_n _ _ (by decide), u2_n _ _ _ _ (by decide)]; exact m15, by rw [vup_n _ _ (by decide), u2_n _ _ _ _ (by decide)]; exact m16, by rw [vup_s, u2_s], by rw [vup_n _ _ (by decide), u2_n _ _ _ _ (by decide)]; exact m18, by rw [vup_n _ _ (by decide), u2_n _ _ _ _ (by decide)]; exact m19, by rw [vup_n _ _ (by decide), u2_n _ _ _ _ (by decide)]; exact m20, by rw [vup_n _ _ (by decide), u2_n _ _ _ _ (by decide)]; exact m21, by rw [vup_n _ _ (by decide), u2_n _ _ _ _ (by decide)]; exact m22, by rw [vup_n _ _ (by decide), u2_n _ _ _ _ (by decide)]; exact m23, by rw [vup_n _ _ (by decide), u2_n _ _ _ _ (by decide)]; exact m24⟩
theorem mM.a7 {G : mG} {V : mV} {α : Nat → Nat} {f : sT} {nr nw ns : Nat} {th : Int32} (h : mM G V α f nr nw ns th) (k : Nat) (x : Int32) : mM G (vup V 18 (.inl (G.2.2.1.2, 365, .inl (upd (f 7) k x)))) α (u2 f 7 k x) nr nw ns th := by
  obtain ⟨m10, m11, m12, m13, m14, m15, m16, m17, m18, m19, m20, m21, m22, m23, m24⟩ := h
  exact ⟨(vup_n _ _ (by decide)).trans m10, by rw [vup_n _ _ (by decide), u2_n _ _ _ _ (by decide)]; exact m11, by rw [vup_n _ _ (by decide), u2_n _ _ _ _ (by decide)]; exact m12, by rw [vup_n _ _ (by decide), u2_n _ _ _ _ (by decide)]; exact m13, by rw [vup_n _ _ (by decide), u2_n _ _ _ _ (by decide)]; exact m14, by rw [vup_n _ _ (by decide), u2_n _ _ _ _ (by decide)]; exact m15, by rw [vup_n _ _ (by decide), u2_n _ _ _ _ (by decide)]; exact m16, by rw [vup_n _ _ (by decide), u2_n _ _ _ _ (by decide)]; exact m17, by rw [vup_s, u2_s], by rw [vup_n _ _ (by decide), u2_n _ _ _ _ (by decide)]; exact m19, by rw [vup_n _ _ (by decide), u2_n _ _ _ _ (by decide)]; exact m20, by rw [vup_n _ _ (by decide), u2_n _ _ _ _ (by decide)]; exact m21, by rw [vup_n _ _ (by decide), u2_n _ _ _ _ (by decide)]; exact m22, by rw [vup_n _ _ (by decide), u2_n _ _ _ _ (by decide)]; exact m23, by rw [vup_n _ _ (by decide), u2_n _ _ _ _ (by decide)]; exact m24⟩
theorem mM.a8 {G : mG} {V : mV} {α : Nat → Nat} {f : sT} {nr nw ns : Nat} {th : Int32} (h : mM G V α f nr nw ns th) (k : Nat) (x : Int32) : mM G (vup V 19 (.inl (G.2.2.1.1, 12, .inl (upd (f 8) k x)))) α (u2 f 8 k x) nr nw ns th := by
  obtain ⟨m10, m11, m12, m13, m14, m15, m16, m17, m18, m19, m20, m21, m22, m23, m24⟩ := h
  exact ⟨(vup_n _ _ (by decide)).trans m10, by rw [vup_n _ _ (by decide), u2_n _ _ _ _ (by decide)]; exact m11, by rw [vup_n _ _ (by decide), u2_n _ _ _ _ (by decide)]; exact m12, by rw [vup_n _ _ (by decide), u2_n _ _ _ _ (by decide)]; exact m13, by rw [vup_n _ _ (by decide), u2_n _ _ _ _ (by decide)]; exact m14, by rw [vup_n _ _ (by decide), u2_n _ _ _ _ (by decide)]; exact m15, by rw [vup_n _ _ (by decide), u2_n _ _ _ _ (by decide)]; exact m16, by rw [vup_n _ _ (by decide), u2_n _ _ _ _ (by decide)]; exact m17, by rw [vup_n _ _ (by decide), u2_n _ _ _ _ (by decide)]; exact m18, by rw [vup_s, u2_s], by rw [vup_n _ _ (by decide), u2_n _ _ _ _ (by decide)]; exact m20, by rw [vup_n _ _ (by decide), u2_n _ _ _ _ (by decide)]; exact m21, by rw [vup_n _ _ (by decide), u2_n _ _ _ _ (by decide)]; exact m22, by rw [vup_n _ _ (by decide), u2_n _ _ _ _ (by decide)]; exact m23, by rw [vup_n _ _ (by decide), u2_n _ _ _ _ (by decide)]; exact m24⟩
theorem mM.a9 {G : mG} {V : mV} {α : Nat → Nat} {f : sT} {nr nw ns : Nat} {th : Int32} (h : mM G V α f nr nw ns th) (k : Nat) (x : Int32) : mM G (vup V 20 (.inl (G.2.2.1.1, 80, .inl (upd (f 9) k x)))) α (u2 f 9 k x) nr nw ns th := by
  obtain ⟨m10, m11, m12, m13, m14, m15, m16, m17, m18, m19, m20, m21, m22, m23, m24⟩ := h
  exact ⟨(vup_n _ _ (by decide)).trans m10, by rw [vup_n _ _ (by decide), u2_n _ _ _ _ (by decide)]; exact m11, by rw [vup_n _ _ (by decide), u2_n _ _ _ _ (by decide)]; exact m12, by rw [vup_n _ _ (by decide), u2_n _ _ _ _ (by decide)]; exact m13, by rw [vup_n _ _ (by decide), u2_n _ _ _ _ (by decide)]; exact m14, by rw [vup_n _ _ (by decide), u2_n _ _ _ _ (by decide)]; exact m15, by rw [vup_n _ _ (by decide), u2_n _ _ _ _ (by decide)]; exact m16, by rw [vup_n _ _ (by decide), u2_n _ _ _ _ (by decide)]; exact m17, by rw [vup_n _ _ (by decide), u2_n _ _ _ _ (by decide)]; exact m18, by rw [vup_n _ _ (by decide), u2_n _ _ _ _ (by decide)]; exact m19, by rw [vup_s, u2_s], by rw [vup_n _ _ (by decide), u2_n _ _ _ _ (by decide)]; exact m21, by rw [vup_n _ _ (by decide), u2_n _ _ _ _ (by decide)]; exact m22, by rw [vup_n _ _ (by decide), u2_n _ _ _ _ (by decide)]; exact m23, by rw [vup_n _ _ (by decide), u2_n _ _ _ _ (by decide)]; exact m24⟩
theorem mM.a10 {G : mG} {V : mV} {α : Nat → Nat} {f : sT} {nr nw ns : Nat} {th : Int32} (h : mM G V α f nr nw ns th) (k : Nat) (x : Int32) : mM G (vup V 21 (.inl (G.2.2.1.1, 80, .inl (upd (f 10) k x)))) α (u2 f 10 k x) nr nw ns th := by
  obtain ⟨m10, m11, m12, m13, m14, m15, m16, m17, m18, m19, m20, m21, m22, m23, m24⟩ := h
  exact ⟨(vup_n _ _ (by decide)).trans m10, by rw [vup_n _ _ (by decide), u2_n _ _ _ _ (by decide)]; exact m11, by rw [vup_n _ _ (by decide), u2_n _ _ _ _ (by decide)]; exact m12, by rw [vup_n _ _ (by decide), u2_n _ _ _ _ (by decide)]; exact m13, by rw [vup_n _ _ (by decide), u2_n _ _ _ _ (by decide)]; exact m14, by rw [vup_n _ _ (by decide), u2_n _ _ _ _ (by decide)]; exact m15, by rw [vup_n _ _ (by decide), u2_n _ _ _ _ (by decide)]; exact m16, by rw [vup_n _ _ (by decide), u2_n _ _ _ _ (by decide)]; exact m17, by rw [vup_n _ _ (by decide), u2_n _ _ _ _ (by decide)]; exact m18, by rw [vup_n _ _ (by decide), u2_n _ _ _ _ (by decide)]; exact m19, by rw [vup_n _ _ (by decide), u2_n _ _ _ _ (by decide)]; exact m20, by rw [vup_s, u2_s], by rw [vup_n _ _ (by decide), u2_n _ _ _ _ (by decide)]; exact m22, by rw [vup_n _ _ (by decide), u2_n _ _ _ _ (by decide)]; exact m23, by rw [vup_n _ _ (by decide), u2_n _ _ _ _ (by decide)]; exact m24⟩
theorem mM.a11 {G : mG} {V : mV} {α : Nat → Nat} {f : sT} {nr nw ns : Nat} {th : Int32} (h : mM G V α f nr nw ns th) (k : Nat) (x : Int32) : mM G (vup V 22 (.inl (G.2.2.1.1, 80, .inl (upd (f 11) k x)))) α (u2 f 11 k x) nr nw ns th := by
  obtain ⟨m10, m11, m12, m13, m14, m15, m16, m17, m18, m19, m20, m21, m22, m23, m24⟩ := h
  exact ⟨(vup_n _ _ (by decide)).trans m10, by rw [vup_n _ _ (by decide), u2_n _ _ _ _ (by decide)]; exact m11, by rw [vup_n _ _ (by decide), u2_n _ _ _ _ (by decide)]; exact m12, by rw [vup_n _ _ (by decide), u2_n _ _ _ _ (by decide)]; exact m13, by rw [vup_n _ _ (by decide), u2_n _ _ _ _ (by decide)]; exact m14, by rw [vup_n _ _ (by decide), u2_n _ _ _ _ (by decide)]; exact m15, by rw [vup_n _ _ (by decide), u2_n _ _ _ _ (by decide)]; exact m16, by rw [vup_n _ _ (by decide), u2_n _ _ _ _ (by decide)]; exact m17, by rw [vup_n _ _ (by decide), u2_n _ _ _ _ (by decide)]; exact m18, by rw [vup_n _ _ (by decide), u2_n _ _ _ _ (by decide)]; exact m19, by rw [vup_n _ _ (by decide), u2_n _ _ _ _ (by decide)]; exact m20, by rw [vup_n _ _ (by decide), u2_n _ _ _ _ (by decide)]; exact m21, by rw [vup_s, u2_s], by rw [vup_n _ _ (by decide), u2_n _ _ _ _ (by decide)]; exact m23, by rw [vup_n _ _ (by decide), u2_n _ _ _ _ (by decide)]; exact m24⟩
theorem mM.a12 {G : mG} {V : mV} {α : Nat → Nat} {f : sT} {nr nw ns : Nat} {th : Int32} (h : mM G V α f nr nw ns th) (k : Nat) (x : Int32) : mM G (vup V 23 (.inl (G.2.2.1.1, 80, .inl (upd (f 12) k x)))) α (u2 f 12 k x) nr nw ns th := by
  obtain ⟨m10, m11, m12, m13, m14, m15, m16, m17, m18, m19, m20, m21, m22, m23, m24⟩ := h
  exact ⟨(vup_n _ _ (by decide)).trans m10, by rw [vup_n _ _ (by decide), u2_n _ _ _ _ (by decide)]; exact m11, by rw [vup_n _ _ (by decide), u2_n _ _ _ _ (by decide)]; exact m12, by rw [vup_n _ _ (by decide), u2_n _ _ _ _ (by decide)]; exact m13, by rw [vup_n _ _ (by decide), u2_n _ _ _ _ (by decide)]; exact m14, by rw [vup_n _ _ (by decide), u2_n _ _ _ _ (by decide)]; exact m15, by rw [vup_n _ _ (by decide), u2_n _ _ _ _ (by decide)]; exact m16, by rw [vup_n _ _ (by decide), u2_n _ _ _ _ (by decide)]; exact m17, by rw [vup_n _ _ (by decide), u2_n _ _ _ _ (by decide)]; exact m18, by rw [vup_n _ _ (by decide), u2_n _ _ _ _ (by decide)]; exact m19, by rw [vup_n _ _ (by decide), u2_n _ _ _ _ (by decide)]; exact m20, by rw [vup_n _ _ (by decide), u2_n _ _ _ _ (by decide)]; exact m21, by rw [vup_n _ _ (by decide), u2_n _ _ _ _ (by decide)]; exact m22, by rw [vup_s, u2_s], by rw [vup_n _ _ (by decide), u2_n _ _ _ _ (by decide)]; exact m24⟩
theorem mM.a13 {G : mG} {V : mV} {α : Nat → Nat} {f : sT} {nr nw ns : Nat} {th : Int32} (h : mM G V α f nr nw ns th) (k : Nat) (x : Int32) : mM G (vup V 24 (.inl (G.2.2.1.2, 80, .inl (upd (f 13) k x)))) α (u2 f 13 k x) nr nw ns th := by
  obtain ⟨m10, m11, m12, m13, m14, m15, m16, m17, m18, m19, m20, m21, m22, m23, m24⟩ := h
  exact ⟨(vup_n _ _ (by decide)).trans m10, by rw [vup_n _ _ (by decide), u2_n _ _ _ _ (by decide)]; exact m11, by rw [vup_n _ _ (by decide), u2_n _ _ _ _ (by decide)]; exact m12, by rw [vup_n _ _ (by decide), u2_n _ _ _ _ (by decide)]; exact m13, by rw [vup_n _ _ (by decide), u2_n _ _ _ _ (by decide)]; exact m14, by rw [vup_n _ _ (by decide), u2_n _ _ _ _ (by decide)]; exact m15, by rw [vup_n _ _ (by decide), u2_n _ _ _ _ (by decide)]; exact m16, by rw [vup_n _ _ (by decide), u2_n _ _ _ _ (by decide)]; exact m17, by rw [vup_n _ _ (by decide), u2_n _ _ _ _ (by decide)]; exact m18, by rw [vup_n _ _ (by decide), u2_n _ _ _ _ (by decide)]; exact m19, by rw [vup_n _ _ (by decide), u2_n _ _ _ _ (by decide)]; exact m20, by rw [vup_n _ _ (by decide), u2_n _ _ _ _ (by decide)]; exact m21, by rw [vup_n _ _ (by decide), u2_n _ _ _ _ (by decide)]; exact m22, by rw [vup_n _ _ (by decide), u2_n _ _ _ _ (by decide)]; exact m23, by rw [vup_s, u2_s]⟩
/-- the model behind a call: nothing but its own cells has changed -/
def mQ (G : mG) (V : mV) (α : Nat → Nat) (u : mV × (Nat → Nat)) (f : sT) (nr nw ns : Nat) (th : Int32) : Prop := mM G u.1 α f nr nw ns th ∧ (∀ j, ¬ (10 ≤ j ∧ j < 25) → u.1 j = V j) ∧ α = u.2
theorem inn_ix {k n : Nat} (hk : k < n) (hn : n < 2 ^ 31) : inn (nI k) 0 (nI n - 1) := by
  obtain ⟨j, rfl⟩ : ∃ j, n = j + 1 := ⟨n - 1, by omega⟩
  rw [nI_pred]
  exact ⟨nI_pos (by omega), nI_nlt (by omega) (by omega)⟩
theorem ix_inn {x : Int32} {n : Nat} (hn : n < 2 ^ 31) (h : inn x 0 (nI n - 1)) : ∃ k, k < n ∧ x = nI k := by
  rcases Nat.eq_zero_or_pos n with h0 | h0
  · subst h0
    exact absurd (Int32.lt_of_lt_of_le (show nI 0 - 1 < 0 by decide) (Int32.not_lt.mp h.1)) h.2
  · obtain ⟨j, rfl⟩ : ∃ j, n = j + 1 := ⟨n - 1, by omega⟩
    rw [nI_pred] at h
    obtain ⟨i, h1, h2⟩ := nI_of2 (nI_toInt (by omega)) h.1 (Int32.not_lt.mp h.2)
    exact ⟨i, by omega, h2⟩
theorem bI_vn {P : Prop} [Decidable P] : vp_nar .boolean (bI P) = bI P := by
  by_cases hp : P
  · rw [bI_t hp]; rfl
  · rw [bI_f hp]; rfl
theorem z1_vn {x : Int32} (h : x = 0 ∨ x = 1) : vp_nar .boolean x = x := by
  rcases h with h | h <;> subst h <;> rfl
theorem z1_nar {x : Int32} (h : x = 0 ∨ x = 1) : narrow .boolean (.int x) = .int x := by
  rcases h with h | h <;> subst h <;> rfl
/-- what the numbers keep to -/
def mwf (f : sT) (nr nw ns : Nat) : Prop := (nr ≤ 16 ∧ nw ≤ 12 ∧ ns ≤ 80) ∧ (∀ s, s < ns → (∃ w, w < nw ∧ f 9 s = nI w) ∧ (∃ a, a < 34848 ∧ f 10 s = nI a) ∧ (∃ n, 1 ≤ n ∧ n ≤ 64 ∧ f 11 s = nI n) ∧ (∃ t, t ≤ 5 ∧ f 12 s = nI t) ∧ (f 13 s = 0 ∨ f 13 s = 1)) ∧ (∀ w, w < nw → ∃ r, r < 4 ∧ f 8 w = nI r) ∧ (∀ k, k < nr → f 6 k = 0 ∨ f 6 k = 1) ∧ (∀ d, f 7 d = 0 ∨ f 7 d = 1) ∧ (∀ k, nr ≤ k → f 6 k = 0) ∧ (∀ k, ns ≤ k → f 12 k = 0 ∧ f 13 k = 0)
theorem s_R0n (x y : Int32) : s_R0 none x y = if x ≤ 100 then -1 else if x = y then -2 else -1 := rfl
/-- the quarters of a shift between lo and hi -/
def s_fi (f : sT) (lo : Int32) (k : Nat) : Int32 := if f 10 k ≤ lo then lo else f 10 k
def s_en (f : sT) (hi : Int32) (k : Nat) : Int32 := if hi ≤ f 10 k + f 11 k then hi else f 10 k + f 11 k
def s_h1 (f : sT) (x lo hi : Int32) (k : Nat) : Int32 := if f 13 k = 0 then (if f 9 k = x then (if s_en f hi k ≤ s_fi f lo k then 0 else s_en f hi k - s_fi f lo k) else 0) else 0
def s_hr (f : sT) (x lo hi : Int32) : Nat → Int32
  | 0 => 0
  | k + 1 => s_hr f x lo hi k + s_h1 f x lo hi k
theorem inn_3 {k : Nat} (hk : k < 4) : inn (nI k) 0 3 := inn_ix (n := 4) hk (by decide)
theorem inn_n {k : Nat} (a b : Nat) (ha : a ≤ k) (hk : k ≤ b) (hb : b < 2 ^ 31) : inn (nI k) (nI a) (nI b) := ⟨nI_nlt ha (by omega), nI_nlt hk hb⟩
end
section
theorem z1_sub {b : Int32} (h : b = 0 ∨ b = 1) : 1 - b = 0 ∨ 1 - b = 1 := by
  rcases h with h | h <;> subst h
  · exact Or.inr (by decide)
  · exact Or.inl (by decide)
theorem nI_ne {a : Nat} (b : Nat) (ha : a < 2 ^ 31) (hb : b < 2 ^ 31) (h : a ≠ b) : ¬ nI a = nI b := fun z => h ((nI_eq ha hb).mp z)
def wN (f : sT) (s : Nat) : Nat := (f 9 s).toNatClampNeg
def aN (f : sT) (s : Nat) : Nat := (f 10 s).toNatClampNeg
def rN (f : sT) (w : Nat) : Nat := (f 8 w).toNatClampNeg
def pN (f : sT) (s : Nat) : Nat := (s_paid f s).toNatClampNeg
theorem nI_self {x : Int32} {n : Nat} (h : x = nI n) (hn : n < 2 ^ 31) : x = nI x.toNatClampNeg ∧ x.toNatClampNeg = n := by
  subst h
  rw [nI_clamp hn]
  exact ⟨rfl, rfl⟩
theorem s_paid_N {f : sT} {s n : Nat} (h11 : f 11 s = nI n) (hn : n ≤ 64) : ∃ k, k ≤ 64 ∧ s_paid f s = nI k := by
  unfold s_paid
  by_cases h : f 13 s = 0
  · rw [if_pos h, h11]
    by_cases h2 : (12 : Int32) ≤ nI n
    · rw [if_pos h2]; exact ⟨n, hn, rfl⟩
    · rw [if_neg h2]; exact ⟨12, by omega, rfl⟩
  · rw [if_neg h]; exact ⟨0, by omega, rfl⟩
theorem mwf.sh {f : sT} {nr nw ns : Nat} (h : mwf f nr nw ns) (s : Nat) (hs : s < ns) : (wN f s < nw ∧ wN f s < 12) ∧ f 9 s = nI (wN f s) ∧ aN f s < 34848 ∧ f 10 s = nI (aN f s) ∧ rN f (wN f s) < 4 ∧ f 8 (wN f s) = nI (rN f (wN f s)) ∧ pN f s ≤ 64 ∧ s_paid f s = nI (pN f s) := by
  obtain ⟨⟨h1, h2, h3⟩, hsh, hrk, -⟩ := h
  obtain ⟨⟨w, hw, e9⟩, ⟨a, ha, e10⟩, ⟨n, hn1, hn2, e11⟩, -⟩ := hsh s hs
  obtain ⟨e9a, e9b⟩ := nI_self e9 (by omega)
  obtain ⟨e10a, e10b⟩ := nI_self e10 (by omega)
  obtain ⟨r, hr, e8⟩ := hrk w hw
  obtain ⟨e8a, e8b⟩ := nI_self e8 (by omega)
  obtain ⟨k, hk, ep⟩ := s_paid_N e11 hn2
  obtain ⟨epa, epb⟩ := nI_self ep (by omega)
  have ew : wN f s = w := e9b
  have ea : aN f s = a := e10b
  have er : rN f (wN f s) = r := by rw [ew]; exact e8b
  have ek : pN f s = k := epb
  refine ⟨⟨by omega, by omega⟩, e9a, by omega, e10a, by omega, ?_, by omega, epa⟩
  rw [ew]
  exact e8a
def s_pay (f : sT) (nr s : Nat) : Int32 := s_sum f nr s (wN f s) (aN f s) (rN f (wN f s)) (pN f s)
def s_po1 (f : sT) (nr : Nat) (x lo hi : Int32) (k : Nat) : Int32 := if f 9 k = x then (if inn (f 10 k / 96) lo hi then s_pay f nr k else 0) else 0
def s_po (f : sT) (nr : Nat) (x lo hi : Int32) : Nat → Int32
  | 0 => 0
  | k + 1 => s_po f nr x lo hi k + s_po1 f nr x lo hi k
def s_pb1 (f : sT) (nr : Nat) (x : Int32) (s i : Nat) : Int32 := if s_R f nr (wN f s) (aN f s) i = x then s_amt f nr (wN f s) (aN f s) (rN f (wN f s)) i else 0
def s_pbI (f : sT) (nr : Nat) (x : Int32) (s : Nat) (S0 : Int32) : Nat → Int32
  | 0 => S0
  | i + 1 => s_pbI f nr x s S0 i + s_pb1 f nr x s i
def s_pb (f : sT) (nr : Nat) (x : Int32) : Nat → Int32
  | 0 => 0
  | k + 1 => s_pbI f nr x k (s_pb f nr x k) (pN f k)
def s_ex (v : Int32) : Int32 := if v ≤ 0 then 0 else v
abbrev s_over (f : sT) (x its ln : Int32) (k : Nat) : Prop := f 13 k = 0 ∧ f 9 k = x ∧ ¬ f 10 k + f 11 k ≤ its ∧ ¬ its + ln ≤ f 10 k
def s_ov (f : sT) (n : Nat) (x its ln : Int32) : Nat → Int32
  | 0 => if n = 80 then 3 else 0
  | k + 1 => if s_over f x its ln k then 3 else s_ov f n x its ln k
end
section
/-! methods that throw: nothing of the world changes, one object comes -/
def mXC (G : mG) (V : mV) (α : Nat → Nat) (EX : String) : String → State → State → Prop := fun E st t => E = EX ∧ va_F (mfree G) st t ∧ mH G V α t.heap
def mNo : Array Value → State → Outcome → State → Prop := fun _ _ _ _ => False
section ME
variable {p : Program} {l : Launch} {e : Env} {R : Room} {s : State} {m : MethodId} {args : Array Value} {below : List Frame} {meth : Method} {c : Code} {H : Heap} {locs : List Loc} {cells slots : Nat} {Q : State → Prop}
variable {cc : ByteArray} {pc : Nat} {ls : Array Slot} {rest : List Value} {G : mG} {V : mV} {α : Nat → Nat} {Qc : Array Value → State → Outcome → State → Prop}
theorem mthrowS (hexec : p.tables.exec = Jvm.exec) (hb : c.code = cc) (hl : l.stackTraces = false) {own cls text : String} {ik is ic : Nat}
    (hown : s.vm.findClass own = some m.cls) (hcls : Bundle.fit cls = true) (hk : (Cond.classLink own ik cls).before args s = true) (hini : (Cond.initialized cls).before args s = true)
    (hat : ∀ w ∈ (vx_atS own ic cls ["java/lang/RuntimeException", "java/lang/Exception"]).filter goodWord, w.before args s = true)
    (hbadw : ∀ w ∈ (vx_atS own ic cls ["java/lang/RuntimeException", "java/lang/Exception"]).filter (fun w => !goodWord w), w ∈ (MCA.map (fun q => Cond.castable q.1 q.2) ++ MDE.map (fun x => Cond.declares x)))
    (hgood : ∀ w ∈ Cond.classLink own ik cls :: Cond.initialized cls :: vx_atS own ic cls ["java/lang/RuntimeException", "java/lang/Exception"], vx_ot w = true)
    (hstr : (own, is, text) ∈ MSTR) (hw : mW G V α s s.heap) (hS : va_S (mfree G) s.heap s.heap locs) (hsize : ls.size = c.maxLocals)
    (d0 : decode cc pc = .ok (.new ik, 3)) (d3 : decode cc (pc + 3) = .ok (.dup, 1)) (d4 : decode cc (pc + 4) = .ok (.ldc is, 2)) (d6 : decode cc (pc + 6) = .ok (.invokespecial ic, 3)) (d9 : decode cc (pc + 9) = .ok (.athrow, 1))
    (hout : ∀ x ∈ c.exceptionTable.toList, False)
    (hRframes : 5 < R.frames) (hRlocals : (rest.map fun v => v.category).sum + 82 ≤ R.locals) (hRcells : 1 ≤ R.cells) (hRslots : 6 ≤ R.slots) (hlocks : meth.locks = false) :
    W p l e R s m args below meth c s.heap locs 0 0 (vx_MQ below Qc (mXC G V α cls) args s 1 6 (mfree G)) (F0 m pc ls rest) := by
  obtain ⟨sa, hsa⟩ := hw.1.2.1 _ hstr
  have hB : ∀ w ∈ (MCA.map (fun q => Cond.castable q.1 q.2) ++ MDE.map (fun x => Cond.declares x)), w.before args s = true := by
    intro w hwm
    rcases List.mem_append.mp hwm with h | h
    · obtain ⟨q, hq, rfl⟩ := List.mem_map.mp h
      exact va_Nw.use rfl (hw.1.2.2.1 q hq)
    · obtain ⟨x, hx, rfl⟩ := List.mem_map.mp h
      exact va_Nw.use rfl (hw.1.2.2.2.1 x hx)
  exact vx_throwS (names := ["java/lang/RuntimeException", "java/lang/Exception"]) (free := mfree G) (A := mfree G) hexec hb hl hown hcls (by decide) hk hini hsa (vx_hat hat hbadw hB) hgood hw.2.1.1 hw.2.1.2.1 hS hsize d0 d3 d4 d6 d9 (fun x hx => (hout x hx).elim) hRframes hRlocals (by omega) (by omega) hlocks
    (fun t _ hz ho => ⟨rfl, ⟨hz, fun q hq _ => ho q hq⟩, hw.2.2.grow hz ho⟩) hS.2.2 (by omega) (by omega)
/-- a call of a method that throws: on with the thrown object -/
theorem mcallTV {y : MethodName} {bytes : ByteArray} {maxL nL n index ci i : Nat} {ret : Option FieldType} {ws Ts : List Cond} {rm : Room} {own C EX : String} {As st0 : List Value} {fs : List Value} {q : vw_C} (hw : mW G V α s H) (hv : V i = some (.inr (ci, fs))) (hc : vwCl[ci]? = some q) (hC : q.1 = C) (S : CallFix p m c cc nL s args Ts own) (hS : va_S (mfree G) s.heap H locs) (hM : vx_Met l y ws rm (va_Pc (.ref (α i) :: As) (fun U => mW G V α U U.heap)) mNo (mXC G V α EX) 1 6 (mfree G)) (cw : CallW R s args own C index y bytes maxL ret ws rm 1 6 n)
    (hn : As.length = n) (hsize : ls.size = nL) (hstack : st0 = As.reverse ++ .ref (α i) :: rest) (hW : (rest.map fun v => v.category).sum ≤ 8) (hdg : decode cc pc = .ok (.invokevirtual index, 3)) (hf : cells + 1 ≤ R.cells ∧ slots + 6 ≤ R.slots)
    (kx : ∀ (q9 : Nat) (ce : Cell) (H1 : Heap) (locs1 : List Loc), mW G V α s H1 → va_S (mfree G) s.heap H1 locs1 → H1[q9]? = some ce → ce.vm = .none → s.vm.findClass EX = some ce.cls → vx_W p l e R s m args below meth c H1 locs1 (cells + 1) (slots + 6) Q (F0 m pc ls rest) q9) : W p l e R s m args below meth c H locs cells slots Q (F0 m pc ls st0) := by
  subst hstack
  subst hC
  intro T hT X
  rcases vx_runV (g := F0 m pc ls (As.reverse ++ .ref (α i) :: rest)) S hM cw ⟨mPcB, mrecv hw hv hc, fun U hU hWm => ⟨rfl, by show mW G V α U U.heap; rw [hU]; exact hw.warm hWm⟩⟩ rfl hn hsize rfl (lv_room hW) hdg hf T hT X with ⟨_, _, _, _, _, _, _, _, _, _, h, _⟩ | ⟨q9, st₀, t, T', L, E, ce, h0, X', hL, e1, e2, ⟨hE, hF, hH⟩, hce, hcv, hcl, st⟩
  · exact h.elim
  · subst hE
    obtain ⟨k1, k2, k3⟩ := vx_keep h0 e1 hS (fun q _ h => h) (fun q h => h) hL hF
    obtain ⟨t2, a1, b1⟩ := kx q9 ce T'.heap (locs ++ L) (hw.at k2 (by rw [e1]; exact hH)) k3 (by rw [e1]; exact hce) hcv hcl T' rfl X'
    exact ⟨t2, st.trans a1, b1⟩
theorem mcallTS {y : MethodName} {bytes : ByteArray} {maxL nL n index : Nat} {ret : Option FieldType} {ws Ts : List Cond} {rm : Room} {own EX : String} {As st0 : List Value} (hw : mW G V α s H) (S : CallFix p m c cc nL s args Ts own) (hS : va_S (mfree G) s.heap H locs) (hM : vx_Met l y ws rm (va_Pc As (fun U => mW G V α U U.heap)) mNo (mXC G V α EX) 1 6 (mfree G)) (cw : CallB R s args own index y bytes maxL ret ws rm 1 6 n ∧ (Cond.static y).before args s = true)
    (hn : As.length = n) (hsize : ls.size = nL) (hstack : st0 = As.reverse ++ rest) (hW : (rest.map fun v => v.category).sum ≤ 8) (hdg : decode cc pc = .ok (.invokestatic index, 3)) (hf : cells + 1 ≤ R.cells ∧ slots + 6 ≤ R.slots)
    (kx : ∀ (q9 : Nat) (ce : Cell) (H1 : Heap) (locs1 : List Loc), mW G V α s H1 → va_S (mfree G) s.heap H1 locs1 → H1[q9]? = some ce → ce.vm = .none → s.vm.findClass EX = some ce.cls → vx_W p l e R s m args below meth c H1 locs1 (cells + 1) (slots + 6) Q (F0 m pc ls rest) q9) : W p l e R s m args below meth c H locs cells slots Q (F0 m pc ls st0) := by
  subst hstack
  intro T hT X
  rcases vx_runS (g := F0 m pc ls (As.reverse ++ rest)) S hM cw ⟨mPcB, fun U hU hWm => ⟨rfl, by show mW G V α U U.heap; rw [hU]; exact hw.warm hWm⟩⟩ rfl hn hsize rfl (lv_room hW) hdg hf T hT X with ⟨_, _, _, _, _, _, _, _, _, _, h, _⟩ | ⟨q9, st₀, t, T', L, E, ce, h0, X', hL, e1, e2, ⟨hE, hF, hH⟩, hce, hcv, hcl, st⟩
  · exact h.elim
  · subst hE
    obtain ⟨k1, k2, k3⟩ := vx_keep h0 e1 hS (fun q _ h => h) (fun q h => h) hL hF
    obtain ⟨t2, a1, b1⟩ := kx q9 ce T'.heap (locs ++ L) (hw.at k2 (by rw [e1]; exact hH)) k3 (by rw [e1]; exact hce) hcv hcl T' rfl X'
    exact ⟨t2, st.trans a1, b1⟩
/-- out of a method without handlers, with what its callee threw -/
theorem mout {EX : String} {q9 : Nat} {ce : Cell} {H1 : Heap} {locs1 : List Loc} (hout : ∀ x ∈ c.exceptionTable.toList, False) (hlocks : meth.locks = false) (hw : mW G V α s H1) (hS : va_S (mfree G) s.heap H1 locs1) (hce : H1[q9]? = some ce) (hcv : ce.vm = .none) (hcl : s.vm.findClass EX = some ce.cls) :
    vx_W p l e R s m args below meth c H1 locs1 (0 + 1) (0 + 6) (vx_MQ below Qc (mXC G V α EX) args s 1 6 (mfree G)) (F0 m pc ls rest) q9 :=
  vx_out (fun x hx => (hout x hx).elim) hlocks hce hcv hcl (fun t ht _ => ⟨rfl, by have := hS.F ht; exact this, by rw [ht]; exact hw.2.2⟩) hS.2.2 (by omega) (by omega)
end ME
end
section
/-! rows that make, copy and hand on: objects, rows of references, lists -/
theorem mH.set2 {G : mG} {V : mV} {α : Nat → Nat} {H H1 : Heap} {i : Nat} {e0 e : va_E} (h : mH G V α H) (hv : V i = some e0) (z : H.size ≤ H1.size) (oq : ∀ q : Nat, q < H.size → q ≠ α i → H1[q]? = H[q]?) (he : va_at G.2.1 vwCl (α i, e) H1) : mH G (vup V i e) α H1 := by
  have key : ∀ (j : Nat) (f : va_E), vup V i e j = some f → ∃ g, V j = some g := by
    intro j f hj
    by_cases hji : j = i
    · subst hji
      exact ⟨e0, hv⟩
    · rw [vup_n V e hji] at hj
      exact ⟨f, hj⟩
  refine ⟨fun j f hj => ?_, fun j k f g hj hk hjk => ?_, Nat.le_trans h.2.2 z⟩
  · by_cases hji : j = i
    · subst hji
      rw [vup_s] at hj
      cases hj
      exact ⟨he, (h.1 j e0 hv).2⟩
    · rw [vup_n V e hji] at hj
      refine ⟨((h.1 j f hj).1).kept (oq _ ((h.1 j f hj).1).lt (fun hq => hji (h.2.1 j i f e0 hj hv hq))), (h.1 j f hj).2⟩
  · obtain ⟨f', hf'⟩ := key j f hj
    obtain ⟨g', hg'⟩ := key k g hk
    exact h.2.1 j k f' g' hf' hg' hjk
section MJ
variable {p : Program} {l : Launch} {e : Env} {R : Room} {s : State} {m : MethodId} {args : Array Value} {below : List Frame} {meth : Method} {c : Code} {H : Heap} {locs : List Loc} {cells slots : Nat} {Q : State → Prop}
variable {cc : ByteArray} {pc : Nat} {ls : Array Slot} {rest : List Value} {G : mG} {V : mV} {α : Nat → Nat}
theorem mgetR (hexec : p.tables.exec = Jvm.exec) (hb : c.code = cc) {own ref C : String} {T : u_T} {N ci index : Nat} {Ts : List Cond} (hts : ∀ w ∈ Ts, w.before args s = true) (hin : ∀ w ∈ u_ws C T N, w ∈ Ts) (hown : s.vm.findClass own = some m.cls) (hw : mW G V α s H) {i : Nat} {fs : List Value} (hv : V i = some (.inr (ci, fs))) (hc : vwCl[ci]? = some (C, T, N)) (k : Nat) (hk : k < N) (hlink : (Cond.fieldLink own index ref (T k).2.1 (T k).2.2.1).before args s = true) (hsame : ∀ x, s.fieldFound? (T k).1 (T k).2.1 (T k).2.2.1 = some x → s.fieldFound? ref (T k).2.1 (T k).2.2.1 = some x) {v : Value} (hf : fs[k]? = some v) (hdg : decode cc pc = .ok (.getfield index, 3))
    (kk : W p l e R s m args below meth c H locs cells slots Q (F0 m (pc + 3) ls (v :: rest))) : W p l e R s m args below meth c H locs cells slots Q (F0 m pc ls (.ref (α i) :: rest)) :=
  va_get (ws := [(α i, .inr (ci, fs))]) hexec hb hts hin hown hw.1.1 (hw.2.2.P hv) 0 rfl hc k hk hlink hsame hf hdg kk
theorem mputR (hexec : p.tables.exec = Jvm.exec) (hb : c.code = cc) {own ref C : String} {T : u_T} {N ci index : Nat} {Ts : List Cond} (hts : ∀ w ∈ Ts, w.before args s = true) (hin : ∀ w ∈ u_ws C T N, w ∈ Ts) (ty0 : Nat → FieldType) (hty : ∀ k, k < N → parseFieldDescriptor (T k).2.2.1 = some (ty0 k)) (hnm : ∀ a, a < N → ∀ b, b < N → a ≠ b → (T a).2.1 ≠ (T b).2.1) (hown : s.vm.findClass own = some m.cls) (hw : mW G V α s H) (hS0 : va_S (mfree G) s.heap H locs) {i : Nat} {fs : List Value} (hv : V i = some (.inr (ci, fs))) (hc : vwCl[ci]? = some (C, T, N)) (k : Nat) (hk : k < N) (hlink : (Cond.fieldLink own index ref (T k).2.1 (T k).2.2.1).before args s = true) (hsame : ∀ x, s.fieldFound? (T k).1 (T k).2.1 (T k).2.2.1 = some x → s.fieldFound? ref (T k).2.1 (T k).2.2.1 = some x) (hfin : (T k).2.2.2 = false) {v : Value} (hn : narrow (ty0 k) v = v) (hfit : fits (ty0 k) v = true) (hl : k < fs.length)
    (hdg : decode cc pc = .ok (.putfield index, 3)) (kk : ∀ (H1 : Heap) (locs1 : List Loc), mW G (vup V i (.inr (ci, fs.set k v))) α s H1 → va_S (mfree G) s.heap H1 locs1 → W p l e R s m args below meth c H1 locs1 cells slots Q (F0 m (pc + 3) ls rest)) : W p l e R s m args below meth c H locs cells slots Q (F0 m pc ls (v :: .ref (α i) :: rest)) := by
  have hK := hw.1.1
  have hap := va_apart (own := own) hts hin ty0 hty hnm hK hc
  obtain ⟨r, h1, cell, q1, q2, q3, q4⟩ := (hw.2.2.1 i _ hv).1
  have hr : r = (C, T, N) := Option.some.inj (h1.symm.trans hc)
  subst hr
  obtain ⟨hS, hfc, kC, hkC, hkind⟩ := hK.1 ci _ hc
  obtain ⟨cf, kf, fi, f, hi, hsl⟩ := hS k hk
  have hlay := hts _ (hin _ (u_in_lay hk))
  unfold u_lay at hlay
  rw [if_neg (by rw [hfin]; decide)] at hlay
  have hst := (u_facts hfc hkC (u_lays hts hin hk) hi).1
  have h6 := u_store hfc hkC hkind hlay hi (hty k hk) hn hfit
  refine W.putK hexec hb (f := f) ⟨hown, hlink, ⟨_, _, _, hsame _ hi⟩, hst⟩ (by rw [q2]; exact h6) q1 q3 (by rw [hsl]; exact k2_hasslot (q4 k hk)) rfl rfl hdg fun H' e1 e2 e3 => ?_
  rw [hsl] at e1 ⊢
  exact kk H' _ (hw.at (fun a _ ha => e3 a (hw.2.2.out hv ha)) (hw.2.2.set hv e2 e3 ⟨_, hc, t_OB.to (V := updV (vp_V fs) k v) ⟨_, e1, q2, q3, t_set q4 hap hk v⟩ (fun j _ => vp_updV_set hl v j)⟩)) (hS0.put e2 e3 (hw.2.2.1 i _ hv).2)
theorem manewa (hexec : p.tables.exec = Jvm.exec) (hb : c.code = cc) {own : String} {index : Nat} (hown : s.vm.findClass own = some m.cls) (hclink : (Cond.classLink own index "java/lang/Object").before args s = true) (hw : mW G V α s H) (hS : va_S (mfree G) s.heap H locs)
    {n : Int32} {N : Nat} (hn : n = nI N) (hN : N ≤ 1000) (i : Nat) (hi : V i = none) (hcells : cells + 1 ≤ R.cells) (hslots : slots + N ≤ R.slots) (hdg : decode cc pc = .ok (.anewarray index, 3))
    (kk : ∀ (α1 : Nat → Nat) (H1 : Heap), (∀ j, j ≠ i → α1 j = α j) → mW G (vup V i (.inl (G.2.2.2.1, N, .inr (.inr (.inr (.inr (fun _ => none))))))) α1 s H1 → va_S (mfree G) s.heap H1 locs →
      W p l e R s m args below meth c H1 locs (cells + 1) (slots + N) Q (F0 m (pc + 3) ls (.ref (α1 i) :: rest))) : W p l e R s m args below meth c H locs cells slots Q (F0 m pc ls (.int n :: rest)) := by
  subst hn
  have hNc : (nI N).toNatClampNeg = N := nI_clamp (by omega)
  refine W.anew hexec hb hown hclink (va_AO.use hw.1.2.2.2.2.2.2) rfl hdg rfl (nI_pos (by omega)) (by rw [hNc]; omega) hcells (by rw [hNc]; exact hslots) fun cA kA comp f1 f2 f3 f4 => ?_
  rw [hNc]
  generalize hH1 : H.push ({ cls := cA, slots := Array.replicate N .null, vm := .none } : Cell) = H1
  have z1 : H1.size = H.size + 1 := by rw [← hH1, Array.size_push]
  have e1 : H1[H.size]? = some (arrV cA N (fun _ => .null)) := by rw [← hH1, Array.getElem?_push_size, ← arrV_new]
  have o1 : ∀ q : Nat, q < H.size → H1[q]? = H[q]? := fun q hq => by rw [← hH1, Array.getElem?_push, if_neg (Nat.ne_of_lt hq)]
  have hcc : cA = G.2.2.2.1 := by
    obtain ⟨_, _, _, _, _, h2⟩ := (hw.1.1.2 2 _ rfl).2
    exact Option.some.inj (f1.symm.trans h2)
  subst hcc
  have hk := kk (va_up α i H.size) H1 (fun j hj => va_up_ne _ _ hj) (hw.at (fun a h _ => o1 a h) (hw.2.2.new hi (by omega) o1 (show H1[H.size]? = some (vp_cell _ _) by rw [vp_cell_q]; exact e1))) ⟨Nat.le_trans hS.1 (by omega), fun x h1 h2 => (o1 x (Nat.lt_of_lt_of_le h1 hS.1)).trans (hS.2.1 x h1 h2), hS.2.2⟩
  rw [va_up_self] at hk
  exact hk
theorem maast (hexec : p.tables.exec = Jvm.exec) (hb : c.code = cc) (hw : mW G V α s H) (hS0 : va_S (mfree G) s.heap H locs) {i iv ci : Nat} {n : Nat} {r : vw_C} {vs : List Value} {f : Nat → Option Nat} (hv : V i = some (.inl (G.2.2.2.1, n, .inr (.inr (.inr (.inr f)))))) (hx : V iv = some (.inr (ci, vs))) (hc : vwCl[ci]? = some r) (hca : (r.1, "java/lang/Object") ∈ MCA) {j : Int32} {k : Nat} (hj : j = nI k) (hk : k < n) (hn : n < 2 ^ 31) (hdg : decode cc pc = .ok (.aastore, 1))
    (kk : ∀ (H1 : Heap) (locs1 : List Loc), mW G (vup V i (.inl (G.2.2.2.1, n, .inr (.inr (.inr (.inr (va_up f k (some (α iv)))))))) ) α s H1 → va_S (mfree G) s.heap H1 locs1 → W p l e R s m args below meth c H1 locs1 cells slots Q (F0 m (pc + 1) ls rest)) : W p l e R s m args below meth c H locs cells slots Q (F0 m pc ls (.ref (α iv) :: .int j :: .ref (α i) :: rest)) := by
  subst hj
  have hin : vp_in (nI k) n := vp_in_nI hk hn
  have hkc : (nI k).toNatClampNeg = k := nI_clamp (by omega)
  have hlt : (nI k).toNatClampNeg < n := Nat.not_le.mp fun q => hin (Or.inr q)
  have h0 : ¬ nI k < 0 := fun q => hin (Or.inl q)
  obtain ⟨r', hr', cellV, g1, g2, g3, -⟩ := (hw.2.2.1 iv _ hx).1
  have hcls := (hw.1.1.1 ci r hc).2
  obtain ⟨kA, comp, k1, k2, k3, -⟩ := (hw.1.1.2 2 _ rfl).2
  obtain ⟨kE, hkE, -⟩ := Vm.findClass_spec k3
  obtain ⟨c0, t1, f1, f2, f3⟩ := Cond.castable_spec (va_Nw.use (A := args) rfl (hw.1.2.2.1 _ hca))
  cases hcls.1.symm.trans f1
  cases k3.symm.trans f2
  obtain ⟨kC, hkC, -⟩ := hcls.2
  refine W.aast hexec hb (hw.2.2.1 i _ hv).1 (fun q h => by cases h) (fun h => by cases h) k1 k2 rfl hkE ⟨h0, by show _ < (arrV _ _ _).slots.size; rw [arrV_size]; exact hlt⟩ g1 (fun q h => by rw [g3] at h; cases h) (by rw [g2]; exact hkC) (by rw [g2]; exact f3) rfl rfl hdg fun H1 e z oq => ?_
  refine kk H1 _ (hw.at (fun a _ ha => oq a (hw.2.2.out hv ha)) (hw.2.2.set hv z oq ?_)) (hS0.put z oq (hw.2.2.1 i _ hv).2)
  show H1[α i]? = some (vp_cell _ _)
  rw [e]
  rw [vp_cell_q, vp_cell_q, arrV_store]
  congr 2
  funext q
  rw [hkc]
  by_cases hq : q = k
  · subst hq
    simp [updV, va_up, va_rf]
  · simp [updV, va_up, hq]
theorem macmp_eq (hexec : p.tables.exec = Jvm.exec) (hb : c.code = cc) {x y : Nat} {off : Int} {tgt : Nat} (hdg : decode cc pc = .ok (.if_acmp .eq off, 3)) (ht : (pc : Int) + off = (tgt : Int))
    (kt : x = y → W p l e R s m args below meth c H locs cells slots Q (F0 m tgt ls rest)) (kf : ¬ x = y → W p l e R s m args below meth c H locs cells slots Q (F0 m (pc + 3) ls rest)) : W p l e R s m args below meth c H locs cells slots Q (F0 m pc ls (.ref y :: .ref x :: rest)) :=
  lv_acmp_eq (rx := some x) (ry := some y) hexec hb hdg ht (fun h => kt (Option.some.inj h)) (fun h => kf (fun z => h (by rw [z])))
theorem mcopy {cc : ByteArray} (hexec : p.tables.exec = Jvm.exec) (hb : c.code = cc) (hml : c.maxLocals = ls.size) {own : String} {index : Nat} (hown : s.vm.findClass own = some m.cls) (hlink : (Cond.methodLink own index arraycopyName).before args s = true) (hnat : (Cond.native arraycopyName).before args s = true) (hstat : (Cond.static arraycopyName).before args s = true) (hini : (Cond.initialized "java/lang/System").before args s = true)
    (hw : mW G V α s H) (hS : va_S (mfree G) s.heap H []) {i0 i1 n0 n1 : Nat} {f g : Nat → Option Nat} (h01 : i0 ≠ i1) (hv0 : V i0 = some (.inl (G.2.2.2.1, n0, .inr (.inr (.inr (.inr f)))))) (hv1 : V i1 = some (.inl (G.2.2.2.1, n1, .inr (.inr (.inr (.inr g))))))
    {n : Nat} (hn : n < 2 ^ 31) (h4 : n ≤ n0) (h5 : n ≤ n1) (hel : ∀ i : Nat, i < n → ∀ y : Nat, f i = some y → va_Any "java/lang/Object" s H y)
    (hframes : 1 ≤ R.frames) (hlocals : (rest.map fun v => v.category).sum + (nativeFrameWords "java/lang/System" "arraycopy" 5 + 11) ≤ R.locals) (hdg : decode cc pc = .ok (.invokestatic index, 3))
    (kk : ∀ (H1 : Heap) (locs1 : List Loc), mW G (vup V i1 (.inl (G.2.2.2.1, n1, .inr (.inr (.inr (.inr (va_cpy f g 0 0 n))))))) α s H1 → va_S (mfree G) s.heap H1 locs1 → W p l e R s m args below meth c H1 locs1 cells slots Q (F0 m (pc + 3) ls rest)) : W p l e R s m args below meth c H [] cells slots Q (F0 m pc ls (.int (nI n) :: .int 0 :: .ref (α i1) :: .int 0 :: .ref (α i0) :: rest)) := by
  have hP : va_P G.2.1 vwCl [(α i0, .inl (G.2.2.2.1, n0, .inr (.inr (.inr (.inr f))))), (α i1, .inl (G.2.2.2.1, n1, .inr (.inr (.inr (.inr g)))))] H := by
    intro k q hk
    rcases k with _ | _ | k
    · cases hk; exact (hw.2.2.1 _ _ hv0).1
    · cases hk; exact (hw.2.2.1 _ _ hv1).1
    · simp at hk
  have hne : α i0 ≠ α i1 := fun z => h01 (hw.2.2.2.1 _ _ _ _ hv0 hv1 z)
  have hD : va_D (fun q => q = α i0 ∨ q = α i1) [(α i0, .inl (G.2.2.2.1, n0, .inr (.inr (.inr (.inr f))))), (α i1, (.inl (G.2.2.2.1, n1, .inr (.inr (.inr (.inr g)))) : va_E))] := by
    refine ⟨fun i j x y hi hj hxy => ?_, fun k q hk => ?_⟩
    · rcases i with _ | _ | i <;> rcases j with _ | _ | j <;> first | rfl | (simp at hi hj; done) | (cases hi; cases hj; exact absurd hxy hne) | (cases hi; cases hj; exact absurd hxy.symm hne) | simp at hi | simp at hj
    · rcases k with _ | _ | k
      · cases hk; exact Or.inl rfl
      · cases hk; exact Or.inr rfl
      · simp at hk
  have hS0 : va_S (fun q => q = α i0 ∨ q = α i1) H H [] := va_S.rf
  refine va_copyM hexec hb hml hown hlink hnat hstat hini hw.1.1 hP hD hS0 0 1 2 2 rfl rfl rfl rfl (sp := 0) (dp := 0) (n := nI n) (by decide) (by decide) (nI_pos hn) (by rw [nI_clamp hn]; show 0 + n ≤ n0; omega) (by rw [nI_clamp hn]; show 0 + n ≤ n1; omega) (fun i hi y hy => hel i (by rw [nI_clamp hn] at hi; exact hi) y (by rw [show (0 : Int32).toNatClampNeg = 0 from rfl, Nat.zero_add] at hy; exact hy)) hframes hlocals hdg (fun H1 locs1 hP1 hD1 hS1 => ?_)
  rw [nI_clamp hn] at hP1
  have h0 : H1[α i0]? = H[α i0]? := by
    have a0 := hP1 0 _ rfl
    have b0 := (hw.2.2.1 _ _ hv0).1
    exact Eq.trans a0 b0.symm
  have hoth : ∀ q : Nat, q < H.size → q ≠ α i1 → H1[q]? = H[q]? := by
    intro q hq hq1
    by_cases hq0 : q = α i0
    · rw [hq0]; exact h0
    · exact hS1.2.1 q hq (fun z => z.elim hq0 hq1)
  refine kk H1 locs1 (hw.at (fun a ha hf => hoth a ha (hw.2.2.out hv1 hf)) (hw.2.2.set2 hv1 hS1.1 hoth (hP1 1 _ rfl))) ⟨Nat.le_trans hS.1 hS1.1, fun q h1 h2 => (hoth q (Nat.lt_of_lt_of_le h1 hS.1) (hw.2.2.out hv1 h2)).trans (hS.2.1 q h1 h2), fun q hq => ?_⟩
  rcases hS1.2.2 q hq with h | h
  · rw [h]; exact (hw.2.2.1 _ _ hv0).2
  · rw [h]; exact (hw.2.2.1 _ _ hv1).2
theorem mcallVwq {y : MethodName} {bytes : ByteArray} {maxL nL n index ci i mc ms : Nat} {ret : Option FieldType} {ws Ts : List Cond} {rm : Room} {own C : String} {As st0 : List Value} {post : Option Nat → mV × (Nat → Nat) → Prop} {fs : List Value} {q : vw_C} (hw : mW G V α s H) (hv : V i = some (.inr (ci, fs))) (hc : vwCl[ci]? = some q) (hC : q.1 = C) (S : CallFix p m c cc nL s args Ts own) (hS : va_S (mfree G) s.heap H locs) (hM : Met l y ws rm (va_Pc (.ref (α i) :: As) (fun U => mW G V α U U.heap)) (va_Qq post (fun u t => mH G u.1 u.2 t.heap) (mfree G)) mc ms (mfree G)) (cw : CallW R s args own C index y bytes maxL ret ws rm mc ms n)
    (hn : As.length = n) (hsize : ls.size = nL) (hstack : st0 = As.reverse ++ .ref (α i) :: rest) (hW : (rest.map fun v => v.category).sum ≤ 8) (hdg : decode cc pc = .ok (.invokevirtual index, 3)) (hf : cells + mc ≤ R.cells ∧ slots + ms ≤ R.slots)
    (kk : ∀ (r : Option Nat) (V1 : mV) (α1 : Nat → Nat) (H1 : Heap) (locs1 : List Loc), post r (V1, α1) → mW G V1 α1 s H1 → va_S (mfree G) s.heap H1 locs1 → W p l e R s m args below meth c H1 locs1 (cells + mc) (slots + ms) Q (F0 m (pc + 3) ls (va_rf r :: rest))) : W p l e R s m args below meth c H locs cells slots Q (F0 m pc ls st0) := by
  subst hstack
  subst hC
  exact va_callq (va_runV (g := F0 m pc ls (As.reverse ++ .ref (α i) :: rest)) S hM cw ⟨mPcB, mrecv hw hv hc, fun U hU hWm => ⟨rfl, by show mW G V α U U.heap; rw [hU]; exact hw.warm hWm⟩⟩ rfl hn hsize rfl (lv_room hW) hdg hf) hS (fun q _ h => h) (fun q h => h)
    (fun r u t H1 locs1 ht hvm hp hB hz hk hS1 => kk r u.1 u.2 H1 locs1 hp (hw.at hk (by rw [← ht]; exact hB)) hS1)
theorem mcallVwv {y : MethodName} {bytes : ByteArray} {maxL nL n index ci i mc ms : Nat} {ret : Option FieldType} {ws Ts : List Cond} {rm : Room} {own C : String} {As st0 : List Value} {post : mV × (Nat → Nat) → Prop} {fs : List Value} {q : vw_C} (hw : mW G V α s H) (hv : V i = some (.inr (ci, fs))) (hc : vwCl[ci]? = some q) (hC : q.1 = C) (S : CallFix p m c cc nL s args Ts own) (hS : va_S (mfree G) s.heap H locs) (hM : Met l y ws rm (va_Pc (.ref (α i) :: As) (fun U => mW G V α U U.heap)) (va_Qv post (fun u t => mH G u.1 u.2 t.heap) (mfree G)) mc ms (mfree G)) (cw : CallW R s args own C index y bytes maxL ret ws rm mc ms n)
    (hn : As.length = n) (hsize : ls.size = nL) (hstack : st0 = As.reverse ++ .ref (α i) :: rest) (hW : (rest.map fun v => v.category).sum ≤ 8) (hdg : decode cc pc = .ok (.invokevirtual index, 3)) (hf : cells + mc ≤ R.cells ∧ slots + ms ≤ R.slots)
    (kk : ∀ (V1 : mV) (α1 : Nat → Nat) (H1 : Heap) (locs1 : List Loc), post (V1, α1) → mW G V1 α1 s H1 → va_S (mfree G) s.heap H1 locs1 → W p l e R s m args below meth c H1 locs1 (cells + mc) (slots + ms) Q (F0 m (pc + 3) ls rest)) : W p l e R s m args below meth c H locs cells slots Q (F0 m pc ls st0) := by
  subst hstack
  subst hC
  exact va_callv (va_runV (g := F0 m pc ls (As.reverse ++ .ref (α i) :: rest)) S hM cw ⟨mPcB, mrecv hw hv hc, fun U hU hWm => ⟨rfl, by show mW G V α U U.heap; rw [hU]; exact hw.warm hWm⟩⟩ rfl hn hsize rfl (lv_room hW) hdg hf) hS (fun q _ h => h) (fun q h => h)
    (fun u t H1 locs1 ht hvm hp hB hz hk hS1 => kk u.1 u.2 H1 locs1 hp (hw.at hk (by rw [← ht]; exact hB)) hS1)
theorem mcallSwq {y : MethodName} {bytes : ByteArray} {maxL nL n index mc ms : Nat} {ret : Option FieldType} {ws Ts : List Cond} {rm : Room} {own : String} {As st0 : List Value} {post : Option Nat → mV × (Nat → Nat) → Prop} (hw : mW G V α s H) (S : CallFix p m c cc nL s args Ts own) (hS : va_S (mfree G) s.heap H locs) (hM : Met l y ws rm (va_Pc As (fun U => mW G V α U U.heap)) (va_Qq post (fun u t => mH G u.1 u.2 t.heap) (mfree G)) mc ms (mfree G)) (cw : CallB R s args own index y bytes maxL ret ws rm mc ms n ∧ (Cond.static y).before args s = true)
    (hn : As.length = n) (hsize : ls.size = nL) (hstack : st0 = As.reverse ++ rest) (hW : (rest.map fun v => v.category).sum ≤ 8) (hdg : decode cc pc = .ok (.invokestatic index, 3)) (hf : cells + mc ≤ R.cells ∧ slots + ms ≤ R.slots)
    (kk : ∀ (r : Option Nat) (V1 : mV) (α1 : Nat → Nat) (H1 : Heap) (locs1 : List Loc), post r (V1, α1) → mW G V1 α1 s H1 → va_S (mfree G) s.heap H1 locs1 → W p l e R s m args below meth c H1 locs1 (cells + mc) (slots + ms) Q (F0 m (pc + 3) ls (va_rf r :: rest))) : W p l e R s m args below meth c H locs cells slots Q (F0 m pc ls st0) := by
  subst hstack
  exact va_callq (va_runS (g := F0 m pc ls (As.reverse ++ rest)) S hM cw ⟨mPcB, fun U hU hWm => ⟨rfl, by show mW G V α U U.heap; rw [hU]; exact hw.warm hWm⟩⟩ rfl hn hsize rfl (lv_room hW) hdg hf) hS (fun q _ h => h) (fun q h => h)
    (fun r u t H1 locs1 ht hvm hp hB hz hk hS1 => kk r u.1 u.2 H1 locs1 hp (hw.at hk (by rw [← ht]; exact hB)) hS1)
theorem mcallSwv {y : MethodName} {bytes : ByteArray} {maxL nL n index mc ms : Nat} {ret : Option FieldType} {ws Ts : List Cond} {rm : Room} {own : String} {As st0 : List Value} {post : mV × (Nat → Nat) → Prop} (hw : mW G V α s H) (S : CallFix p m c cc nL s args Ts own) (hS : va_S (mfree G) s.heap H locs) (hM : Met l y ws rm (va_Pc As (fun U => mW G V α U U.heap)) (va_Qv post (fun u t => mH G u.1 u.2 t.heap) (mfree G)) mc ms (mfree G)) (cw : CallB R s args own index y bytes maxL ret ws rm mc ms n ∧ (Cond.static y).before args s = true)
    (hn : As.length = n) (hsize : ls.size = nL) (hstack : st0 = As.reverse ++ rest) (hW : (rest.map fun v => v.category).sum ≤ 8) (hdg : decode cc pc = .ok (.invokestatic index, 3)) (hf : cells + mc ≤ R.cells ∧ slots + ms ≤ R.slots)
    (kk : ∀ (V1 : mV) (α1 : Nat → Nat) (H1 : Heap) (locs1 : List Loc), post (V1, α1) → mW G V1 α1 s H1 → va_S (mfree G) s.heap H1 locs1 → W p l e R s m args below meth c H1 locs1 (cells + mc) (slots + ms) Q (F0 m (pc + 3) ls rest)) : W p l e R s m args below meth c H locs cells slots Q (F0 m pc ls st0) := by
  subst hstack
  exact va_callv (va_runS (g := F0 m pc ls (As.reverse ++ rest)) S hM cw ⟨mPcB, fun U hU hWm => ⟨rfl, by show mW G V α U U.heap; rw [hU]; exact hw.warm hWm⟩⟩ rfl hn hsize rfl (lv_room hW) hdg hf) hS (fun q _ h => h) (fun q h => h)
    (fun u t H1 locs1 ht hvm hp hB hz hk hS1 => kk u.1 u.2 H1 locs1 hp (hw.at hk (by rw [← ht]; exact hB)) hS1)
theorem mcallIwv {y : MethodName} {bytes : ByteArray} {maxL nL n index i mc ms : Nat} {ws Ts : List Cond} {rm : Room} {own : String} {As st0 : List Value} {post : mV × (Nat → Nat) → Prop} (hw : mW G V α s H) (S : CallFix p m c cc nL s args Ts own) (hS : va_S (mfree G) s.heap H locs) (hM : Met l y ws rm (va_Pc (.ref (α i) :: As) (fun U => mW G V α U U.heap)) (va_Qv post (fun u t => mH G u.1 u.2 t.heap) (mfree G)) mc ms (mfree G)) (cw : CallB R s args own index y bytes maxL none ws rm mc ms n ∧ y.name = "<init>" ∧ (Cond.instanceMethod y).before args s = true)
    (hn : As.length = n) (hsize : ls.size = nL) (hstack : st0 = As.reverse ++ .ref (α i) :: rest) (hW : (rest.map fun v => v.category).sum ≤ 8) (hdg : decode cc pc = .ok (.invokespecial index, 3)) (hf : cells + mc ≤ R.cells ∧ slots + ms ≤ R.slots)
    (kk : ∀ (V1 : mV) (α1 : Nat → Nat) (H1 : Heap) (locs1 : List Loc), post (V1, α1) → mW G V1 α1 s H1 → va_S (mfree G) s.heap H1 locs1 → W p l e R s m args below meth c H1 locs1 (cells + mc) (slots + ms) Q (F0 m (pc + 3) ls rest)) : W p l e R s m args below meth c H locs cells slots Q (F0 m pc ls st0) := by
  subst hstack
  exact va_callv (va_runI (g := F0 m pc ls (As.reverse ++ .ref (α i) :: rest)) S hM cw ⟨mPcB, fun U hU hWm => ⟨rfl, by show mW G V α U U.heap; rw [hU]; exact hw.warm hWm⟩⟩ rfl hn hsize rfl (lv_room hW) hdg hf) hS (fun q _ h => h) (fun q h => h)
    (fun u t H1 locs1 ht hvm hp hB hz hk hS1 => kk u.1 u.2 H1 locs1 hp (hw.at hk (by rw [← ht]; exact hB)) hS1)
end MJ
end
section
theorem nl_sum {n : Nat} (h2 : 2 ≤ n) (hn : n ≤ 120) : nI n + (if (1 : Int32) < nI (n / 2) then nI (n / 2) else 1) = nI (n + n / 2) := by
  by_cases c : (1 : Int32) < nI (n / 2)
  · rw [if_pos c, nI_add]
  · rw [if_neg c]
    have h1 : ¬ 1 < n / 2 := fun z => c ((nI_ltI (a := 1) (by decide) (by omega)).mpr z)
    rw [show n / 2 = 1 by omega]
    exact nI_1 n
theorem vne {V : mV} {i z : Nat} {e : va_E} (h : V i = some e) (hz : V z = none) : i ≠ z := fun q => by rw [q, hz] at h; cases h
/-- what may lie in a row of objects -/
def mEl (V : mV) (α : Nat → Nat) (n : Nat) (row : Nat → Option Nat) : Prop := ∀ i, i < n → ∀ y, row i = some y → ∃ (iv ci : Nat) (vs : List Value) (r : vw_C), y = α iv ∧ V iv = some (.inr (ci, vs)) ∧ vwCl[ci]? = some r ∧ (r.1, "java/lang/Object") ∈ MCA
theorem mEl.keep {V V1 : mV} {α α1 : Nat → Nat} {n : Nat} {row : Nat → Option Nat} (h : mEl V α n row) (hV : ∀ iv e, V iv = some e → V1 iv = some e ∧ α1 iv = α iv) : mEl V1 α1 n row := by
  intro i hi y hy
  obtain ⟨iv, ci, vs, r, rfl, hv, hc, hm⟩ := h i hi y hy
  obtain ⟨h1, h2⟩ := hV iv _ hv
  exact ⟨iv, ci, vs, r, h2.symm, h1, hc, hm⟩
theorem mEl.any {G : mG} {V : mV} {α : Nat → Nat} {s : State} {H : Heap} {n : Nat} {row : Nat → Option Nat} (h : mEl V α n row) (hw : mW G V α s H) : ∀ i : Nat, i < n → ∀ y : Nat, row i = some y → va_Any "java/lang/Object" s H y := by
  intro i hi y hy
  obtain ⟨iv, ci, vs, r, rfl, hv, hc, hm⟩ := h i hi y hy
  refine va_rAny (q0 := 0) hw.1.1 (hw.2.2.P hv) rfl hc (fun comp c0 h1 h2 => ?_)
  obtain ⟨x, t1, f1, f2, f3⟩ := Cond.castable_spec (va_Nw.use (A := #[]) rfl (hw.1.2.2.1 _ hm))
  cases h1.symm.trans f2
  cases h2.symm.trans f1
  exact f3

set_option maxHeartbeats 4000000 in
set_option maxRecDepth 100000 in
theorem c_J8_newLength_cabcc {l : Launch} {G : mG} {V : mV} {α : Nat → Nat} (n : Nat) (h2 : 2 ≤ n) (hn : n ≤ 120)  : Met l yJ8_newLength_cabcc wsJ8_newLength_cabcc ({ frames := 1, cells := 0, slots := 0, locals := 21 }) (va_Pc [.int (nI (n)), .int (1), .int (nI (n / 2))] (fun U => mW G V α U U.heap)) (vp_Si (fun r9 => r9 = nI (n + n / 2))) 0 0 (fun _ => False) := by
  refine Met.ofW (cc := cJ8_newLength_cabcc) (maxL := 4) (ret := (some .int)) (by decide) rfl ?_
  intro p e s m args below meth c s₁ B hml hv
  obtain ⟨rfl, hw⟩ := hv
  have hx := B.exec
  have hb := B.bytes
  have hr := B.returns
  have hts := atoms_spec (ws := wsJ8_newLength_cabcc) B.pre
  have hown : s.vm.findClass RJ8 = some m.cls := findClass_of_methodNamed B.named
  have hlocks := B.notSynchronized
  have mm_194 := hts (.methodLink RJ8 194 Lib.Math.max.name) (by decide +kernel)
  have ms_194 := hts (.static Lib.Math.max.name) (by decide +kernel)
  have mi_194 := hts (.initialized "java/lang/Math") (by decide +kernel)
  have mc_194 := hts (.code Lib.Math.max.name Lib.Math.max.code 2 (some .int)) (by decide +kernel)
  have k200 := hts (.constant RJ8 200 (2147483639)) (by decide +kernel)
  have hl := lv_entry ([.int (nI (n)), .int (1), .int (nI (n / 2))]) (n := 4) (Nat.le_of_ble_eq_true rfl)
  rw [lg_entry_eq]
  generalize (lg_sl ([.int (nI (n)), .int (1), .int (nI (n / 2))]) ++ List.replicate (4 - (lg_sl ([.int (nI (n)), .int (1), .int (nI (n / 2))])).length) Slot.unset).toArray = ls at hl ⊢
  have hl : lv_has ls 4 [(0, .int (nI (n))), (1, .int (1)), (2, .int (nI (n / 2)))] := hl
  refine lv_iload_n hx hb dJ8_newLength_cabcc_0 rfl (lv_at hl 0 rfl) ?_
  refine lv_iload_n hx hb dJ8_newLength_cabcc_1 rfl (lv_at hl 1 rfl) ?_
  refine lv_iload_n hx hb dJ8_newLength_cabcc_2 rfl (lv_at hl 2 rfl) ?_
  refine va_mmax hx hb (hml.trans hl.1.symm) hown mm_194 ms_194 mi_194 mc_194 (Nat.le_of_ble_eq_true rfl) (Nat.le_of_ble_eq_true rfl) (Nat.zero_le _) (Nat.zero_le _) dJ8_newLength_cabcc_3 ?_
  refine lv_iadd hx hb dJ8_newLength_cabcc_6 ?_
  refine lv_topi (fun y1 ey1 => ?_)
  obtain rfl : y1 = (nI (n + n / 2)) := ey1.trans (nl_sum h2 hn)
  refine lv_istore_n (lv' := [(3, .int (nI (n + n / 2))), (0, .int (nI (n))), (1, .int (1)), (2, .int (nI (n / 2)))]) hx hb dJ8_newLength_cabcc_7 rfl hl (by decide) rfl (fun ls hl => ?_)
  refine lv_iconst (v := (0)) hx hb dJ8_newLength_cabcc_8 (by decide) ?_
  refine lv_iload_n hx hb dJ8_newLength_cabcc_9 rfl (lv_at hl 0 rfl) ?_
  refine lv_icmp_ge (tgt := 21) hx hb dJ8_newLength_cabcc_10 (by decide) (fun z => absurd z ((nI_nle (by omega) (by omega)))) (fun c2 => ?_)
  refine lv_iload_n hx hb dJ8_newLength_cabcc_13 rfl (lv_at hl 0 rfl) ?_
  refine lv_ldc hx hb hown k200 dJ8_newLength_cabcc_14 ?_
  refine lv_icmp_gt (tgt := 21) hx hb dJ8_newLength_cabcc_16 (by decide) (fun z => absurd z ((nI_nlt (a := 2147483639) (b := n + n / 2) (by omega) (by decide)))) (fun c3 => ?_)
  refine lv_iload_n hx hb dJ8_newLength_cabcc_19 rfl (lv_at hl 0 rfl) ?_
  exact W.iret (v := nI (n + n / 2)) hx hb hr (fun t ht hW => ⟨_, rfl, rfl, ht⟩) (fun _ h => absurd h List.not_mem_nil) dJ8_newLength_cabcc_20

theorem vup2 (V : mV) (i : Nat) (e e1 : va_E) : vup (vup V i e) i e1 = vup V i e1 := by
  funext j
  by_cases h : j = i
  · subst h; rw [vup_s, vup_s]
  · rw [vup_n _ _ h, vup_n _ _ h, vup_n _ _ h]

set_option maxHeartbeats 4000000 in
set_option maxRecDepth 100000 in
theorem c_J7_copyOf_6403c {l : Launch} {G : mG} {V : mV} {α : Nat → Nat} {j n N z : Nat} {row : Nat → Option Nat} (hj : V j = some (.inl (G.2.2.2.1, n, .inr (.inr (.inr (.inr row)))))) (hz : V z = none) (hnN : n ≤ N) (hN : N ≤ 200) (hel : mEl V α n row) : Met l yJ7_copyOf_6403c wsJ7_copyOf_6403c ({ frames := 1, cells := 1, slots := 200, locals := 60 }) (va_Pc [.ref (α (j)), .int (nI (N)), .ref (G.2.2.2.2.2)] (fun U => mW G V α U U.heap)) (va_Qq (fun (r9 : Option Nat) (u : mV × (Nat → Nat)) => r9 = some (u.2 z) ∧ (∀ x, x ≠ z → u.2 x = α x) ∧ u.1 = vup V z (.inl (G.2.2.2.1, N, .inr (.inr (.inr (.inr (va_cpy row (fun _ => none) 0 0 n))))))) (fun u t => mH G u.1 u.2 t.heap) (mfree G)) 1 200 (mfree G) := by
  refine Met.ofW (cc := cJ7_copyOf_6403c) (maxL := 4) (ret := (some (.array (.object "java/lang/Object")))) (by decide) rfl ?_
  intro p e s m args below meth c s₁ B hml hv
  obtain ⟨rfl, hw⟩ := hv
  have hw0 := hw
  have hx := B.exec
  have hb := B.bytes
  have hr := B.returns
  have hts := atoms_spec (ws := wsJ7_copyOf_6403c) B.pre
  have hown : s.vm.findClass RJ7 = some m.cls := findClass_of_methodNamed B.named
  have hlocks := B.notSynchronized
  have hS : va_S (mfree G) s.heap s.heap [] := va_S.rf
  have cl110 := hts (.classLink RJ7 110 "[Ljava/lang/Object;") (by decide +kernel)
  have cl2 := hts (.classLink RJ7 2 "java/lang/Object") (by decide +kernel)
  have ac1 := hts (.methodLink RJ7 150 arraycopyName) (by decide +kernel)
  have ac2 := hts (.native arraycopyName) (by decide +kernel)
  have ac3 := hts (.static arraycopyName) (by decide +kernel)
  have ac4 := hts (.initialized "java/lang/System") (by decide +kernel)
  have mm_304 := hts (.methodLink RJ7 304 Lib.Math.min.name) (by decide +kernel)
  have ms_304 := hts (.static Lib.Math.min.name) (by decide +kernel)
  have mi_304 := hts (.initialized "java/lang/Math") (by decide +kernel)
  have mc_304 := hts (.code Lib.Math.min.name Lib.Math.min.code 2 (some .int)) (by decide +kernel)
  have hl := lv_entry ([.ref (α (j)), .int (nI (N)), .ref (G.2.2.2.2.2)]) (n := 4) (Nat.le_of_ble_eq_true rfl)
  rw [lg_entry_eq]
  generalize (lg_sl ([.ref (α (j)), .int (nI (N)), .ref (G.2.2.2.2.2)]) ++ List.replicate (4 - (lg_sl ([.ref (α (j)), .int (nI (N)), .ref (G.2.2.2.2.2)])).length) Slot.unset).toArray = ls at hl ⊢
  have hl : lv_has ls 4 [(0, .ref (α (j))), (1, .int (nI (N))), (2, .ref (G.2.2.2.2.2))] := hl
  refine lv_aload_n hx hb dJ7_copyOf_6403c_0 rfl (lv_at hl 2 rfl) ?_
  refine va_ldcM hx hb hown cl110 hw.1.2.2.2.2.2.1 dJ7_copyOf_6403c_1 ?_
  refine macmp_ne (tgt := 13) hx hb dJ7_copyOf_6403c_3 (by decide) (fun z => absurd rfl z) (fun _ => ?_)
  refine lv_iload_n hx hb dJ7_copyOf_6403c_6 rfl (lv_at hl 1 rfl) ?_
  refine manewa (N := N) hx hb hown cl2 hw hS rfl (by omega) z hz (Nat.le_of_ble_eq_true rfl) (by show 0 + N ≤ 200; omega) dJ7_copyOf_6403c_7 (fun α1 H h1 hw hS => ?_)
  have ej : α j = α1 j := (h1 j (fun q => by rw [q, hz] at hj; cases hj)).symm
  have hjz : j ≠ z := fun q => by rw [q, hz] at hj; cases hj
  refine lv_goto (tgt := 24) hx hb dJ7_copyOf_6403c_10 (by decide) ?_
  refine lv_astore_n (lv' := [(3, .ref (α1 (z))), (0, .ref (α (j))), (1, .int (nI (N))), (2, .ref (G.2.2.2.2.2))]) hx hb dJ7_copyOf_6403c_24 rfl hl (by decide) rfl (fun ls hl => ?_)
  have hl : lv_has ls 4 [(3, .ref (α1 (z))), (0, .ref (α1 (j))), (1, .int (nI (N))), (2, .ref (G.2.2.2.2.2))] := by rw [← ej]; exact hl
  have hj1 := (vup_n V (.inl (G.2.2.2.1, N, .inr (.inr (.inr (.inr (fun _ => none)))))) hjz).trans hj
  refine lv_aload_n hx hb dJ7_copyOf_6403c_25 rfl (lv_at hl 1 rfl) ?_
  refine lv_iconst (v := (0)) hx hb dJ7_copyOf_6403c_26 (by decide) ?_
  refine lv_aload_n hx hb dJ7_copyOf_6403c_27 rfl (lv_at hl 0 rfl) ?_
  refine lv_iconst (v := (0)) hx hb dJ7_copyOf_6403c_28 (by decide) ?_
  refine lv_aload_n hx hb dJ7_copyOf_6403c_29 rfl (lv_at hl 1 rfl) ?_
  refine maalen hx hb hw hj1 dJ7_copyOf_6403c_30 ?_
  refine lv_iload_n hx hb dJ7_copyOf_6403c_31 rfl (lv_at hl 2 rfl) ?_
  refine va_mmin hx hb (hml.trans hl.1.symm) hown mm_304 ms_304 mi_304 mc_304 (Nat.le_of_ble_eq_true rfl) (Nat.le_of_ble_eq_true rfl) (by show 0 + 1 ≤ 1; omega) (by show 0 + N ≤ 200; omega) dJ7_copyOf_6403c_32 ?_
  refine lv_topi (fun y1 ey1 => ?_)
  obtain rfl : y1 = nI n := ey1.trans (if_neg (nI_nlt hnN (by omega)))
  refine mcopy hx hb (hml.trans hl.1.symm) hown ac1 ac2 ac3 ac4 hw hS hjz hj1 (vup_s _ _ _) (by omega) (Nat.le_refl n) hnN ((hel.keep (fun iv e9 he9 => ⟨(vup_n _ _ (vne he9 hz)).trans he9, h1 iv (vne he9 hz)⟩)).any hw) (Nat.le_of_ble_eq_true rfl) (Nat.le_of_ble_eq_true rfl) dJ7_copyOf_6403c_35 (fun H locs hw hS => ?_)
  refine lv_aload_n hx hb dJ7_copyOf_6403c_38 rfl (lv_at hl 0 rfl) ?_
  refine W.widen (k := 1) (n := 200) (by omega) (by omega) ?_
  exact W.aret (v := .ref (α1 z)) hx hb hr (Or.inr ⟨_, rfl⟩) (Or.inr ⟨_, rfl⟩) (fun t ht hW => ⟨⟨some (α1 z), (_, α1), rfl, ⟨rfl, h1, vup2 _ _ _ _⟩, by show mH G _ α1 t.heap; rw [ht]; exact hw.2.2⟩, hS.F ht⟩) hS.2.2 dJ7_copyOf_6403c_39

theorem marr {G : mG} {V : mV} {α : Nat → Nat} {s : State} {H : Heap} {j n : Nat} {row : Nat → Option Nat} (hw : mW G V α s H) (hj : V j = some (.inl (G.2.2.2.1, n, .inr (.inr (.inr (.inr row)))))) : ∃ cell : Cell, H[α j]? = some cell ∧ cell.vm.isStatics = false ∧ s.vm.findClass "[Ljava/lang/Object;" = some cell.cls :=
  ⟨_, (hw.2.2.1 j _ hj).1, rfl, va_nmO (hw.1.1.2 2 _ rfl).2 (by decide)⟩

set_option maxHeartbeats 4000000 in
set_option maxRecDepth 100000 in
theorem c_J7_copyOf_1904c {l : Launch} {G : mG} {V : mV} {α : Nat → Nat} {j n N z : Nat} {row : Nat → Option Nat} (hj : V j = some (.inl (G.2.2.2.1, n, .inr (.inr (.inr (.inr row)))))) (hz : V z = none) (hnN : n ≤ N) (hN : N ≤ 200) (hel : mEl V α n row) : Met l yJ7_copyOf_1904c wsJ7_copyOf_1904c ({ frames := 2, cells := 1, slots := 200, locals := 95 }) (va_Pc [.ref (α (j)), .int (nI (N))] (fun U => mW G V α U U.heap)) (va_Qq (fun (r9 : Option Nat) (u : mV × (Nat → Nat)) => r9 = some (u.2 z) ∧ (∀ x, x ≠ z → u.2 x = α x) ∧ u.1 = vup V z (.inl (G.2.2.2.1, N, .inr (.inr (.inr (.inr (va_cpy row (fun _ => none) 0 0 n))))))) (fun u t => mH G u.1 u.2 t.heap) (mfree G)) 1 200 (mfree G) := by
  refine Met.ofW (cc := cJ7_copyOf_1904c) (maxL := 2) (ret := (some (.array (.object "java/lang/Object")))) (by decide) rfl ?_
  intro p e s m args below meth c s₁ B hml hv
  obtain ⟨rfl, hw⟩ := hv
  have hw0 := hw
  have hx := B.exec
  have hb := B.bytes
  have hr := B.returns
  have hts := atoms_spec (ws := wsJ7_copyOf_1904c) B.pre
  have hown : s.vm.findClass RJ7 = some m.cls := findClass_of_methodNamed B.named
  have hlocks := B.notSynchronized
  have hS : va_S (mfree G) s.heap s.heap [] := va_S.rf
  have q1 := hts (.methodLink RJ7 86 ⟨"java/lang/Object", "getClass", "()Ljava/lang/Class;"⟩) (by decide +kernel)
  have q2 := hts (.selects "[Ljava/lang/Object;" ⟨"java/lang/Object", "getClass", "()Ljava/lang/Class;"⟩ ⟨"java/lang/Object", "getClass", "()Ljava/lang/Class;"⟩) (by decide +kernel)
  have q3 := hts (.instanceMethod ⟨"java/lang/Object", "getClass", "()Ljava/lang/Class;"⟩) (by decide +kernel)
  have q4 := hts (.native ⟨"java/lang/Object", "getClass", "()Ljava/lang/Class;"⟩) (by decide +kernel)
  have hl := lv_entry ([.ref (α (j)), .int (nI (N))]) (n := 2) (Nat.le_of_ble_eq_true rfl)
  rw [lg_entry_eq]
  generalize (lg_sl ([.ref (α (j)), .int (nI (N))]) ++ List.replicate (2 - (lg_sl ([.ref (α (j)), .int (nI (N))])).length) Slot.unset).toArray = ls at hl ⊢
  have hl : lv_has ls 2 [(0, .ref (α (j))), (1, .int (nI (N)))] := hl
  refine lv_aload_n hx hb dJ7_copyOf_1904c_0 rfl (lv_at hl 0 rfl) ?_
  refine lv_iload_n hx hb dJ7_copyOf_1904c_1 rfl (lv_at hl 1 rfl) ?_
  refine lv_aload_n hx hb dJ7_copyOf_1904c_2 rfl (lv_at hl 0 rfl) ?_
  refine va_getC (C := "[Ljava/lang/Object;") hx hb (hml.trans hl.1.symm) hown q1 (va_Nw.use rfl (hw.1.2.2.2.1 _ (List.mem_of_getElem? (i := 3) rfl))) q2 q3 q4 hw.1.2.2.2.2.2.1 (marr hw hj) (Nat.le_of_ble_eq_true rfl) (Nat.le_of_ble_eq_true rfl) dJ7_copyOf_1904c_3 ?_
  refine mcallSwq hw ⟨hx, hb, hml, hown, hts⟩ hS (c_J7_copyOf_6403c hj hz hnN hN hel) (va_cwS 3 hts gJ7_copyOf_1904c_J7_copyOf_6403c rfl rfl rfl (by decide +kernel) ⟨Nat.le_of_ble_eq_true rfl, Nat.le_of_ble_eq_true rfl⟩) rfl hl.1 rfl (Nat.le_of_ble_eq_true rfl) dJ7_copyOf_1904c_6 ⟨Nat.le_of_ble_eq_true rfl, Nat.le_of_ble_eq_true rfl⟩ (fun r9 V1 α1 H locs hp hw hS => ?_)
  obtain ⟨rfl, h1, h2⟩ := hp
  dsimp only at h1 h2
  exact W.aret (v := .ref (α1 z)) hx hb hr (Or.inr ⟨_, rfl⟩) (Or.inr ⟨_, rfl⟩) (fun t ht hW => ⟨⟨some (α1 z), (V1, α1), rfl, ⟨rfl, h1, h2⟩, by show mH G V1 α1 t.heap; rw [ht]; exact hw.2.2⟩, hS.F ht⟩) hS.2.2 dJ7_copyOf_1904c_9

set_option maxHeartbeats 4000000 in
set_option maxRecDepth 100000 in
theorem c_growI_A {l : Launch} {G : mG} {V : mV} {α : Nat → Nat} {i z : Nat} {md : Int32} (hv : V i = some (.inr (0, [.int md, .ref G.1.2, .int (nI 0)]))) (hz : V z = none) : Met l yJx4a65c_grow_92f84 wsJx4a65c_grow_92f84 ({ frames := 3, cells := 1, slots := 200, locals := 140 }) (va_Pc [.ref (α (i)), .int (nI (0 + 1))] (fun U => mW G V α U U.heap)) (va_Qq (fun (r9 : Option Nat) (u : mV × (Nat → Nat)) => r9 = some (u.2 z) ∧ (∀ x, x ≠ z → u.2 x = α x) ∧ u.1 = vup (vup V z (.inl (G.2.2.2.1, 10, .inr (.inr (.inr (.inr (fun _ => none))))))) i (.inr (0, [.int md, .ref (u.2 z), .int (nI 0)]))) (fun u t => mH G u.1 u.2 t.heap) (mfree G)) 1 200 (mfree G) := by
  refine Met.ofW (cc := cJx4a65c_grow_92f84) (maxL := 4) (ret := (some (.array (.object "java/lang/Object")))) (by decide) rfl ?_
  intro p e s m args below meth c s₁ B hml hv
  obtain ⟨rfl, hw⟩ := hv
  have hw0 := hw
  have hx := B.exec
  have hb := B.bytes
  have hr := B.returns
  have hts := atoms_spec (ws := wsJx4a65c_grow_92f84) B.pre
  have hown : s.vm.findClass RJx4a65c = some m.cls := findClass_of_methodNamed B.named
  have hlocks := B.notSynchronized
  have hS : va_S (mfree G) s.heap s.heap [] := va_S.rf
  have gs39 := hts (.fieldLink RJx4a65c 39 "java/util/ArrayList" "DEFAULTCAPACITY_EMPTY_ELEMENTDATA" "[Ljava/lang/Object;") (by decide +kernel)
  have cl7 := hts (.classLink RJx4a65c 7 "java/lang/Object") (by decide +kernel)
  have fl_9 := hts (.fieldLink RJx4a65c 9 "java/util/ArrayList" "elementData" "[Ljava/lang/Object;") (by decide +kernel)
  have in_Jx4a65c : ∀ w ∈ u_ws RJx4a65c TJx4a65c 3, w ∈ wsJx4a65c_grow_92f84 := by decide +kernel
  have mm_79 := hts (.methodLink RJx4a65c 79 Lib.Math.max.name) (by decide +kernel)
  have ms_79 := hts (.static Lib.Math.max.name) (by decide +kernel)
  have mi_79 := hts (.initialized "java/lang/Math") (by decide +kernel)
  have mc_79 := hts (.code Lib.Math.max.name Lib.Math.max.code 2 (some .int)) (by decide +kernel)
  have hl := lv_entry ([.ref (α (i)), .int (nI (0 + 1))]) (n := 4) (Nat.le_of_ble_eq_true rfl)
  rw [lg_entry_eq]
  generalize (lg_sl ([.ref (α (i)), .int (nI (0 + 1))]) ++ List.replicate (4 - (lg_sl ([.ref (α (i)), .int (nI (0 + 1))])).length) Slot.unset).toArray = ls at hl ⊢
  have hl : lv_has ls 4 [(0, .ref (α (i))), (1, .int (nI (0 + 1)))] := hl
  refine lv_aload_n hx hb dJx4a65c_grow_92f84_0 rfl (lv_at hl 0 rfl) ?_
  refine mget (C := RJx4a65c) (T := TJx4a65c) (N := 3) (ci := 0) hx hb hts in_Jx4a65c hown hw (hv) rfl 1 (by decide) fl_9 rfl dJx4a65c_grow_92f84_1 ?_
  refine va_tlen hx hb hw0.2.1.2.2.2 hS rfl dJx4a65c_grow_92f84_4 ?_
  refine lv_istore_n (lv' := [(2, .int (0)), (0, .ref (α (i))), (1, .int (nI (0 + 1)))]) hx hb dJx4a65c_grow_92f84_5 rfl hl (by decide) rfl (fun ls hl => ?_)
  refine lv_iload_n hx hb dJx4a65c_grow_92f84_6 rfl (lv_at hl 0 rfl) ?_
  refine lv_if_gt (tgt := 20) hx hb dJx4a65c_grow_92f84_7 (by decide) (fun z => absurd z ((by decide))) (fun c1 => ?_)
  refine lv_aload_n hx hb dJx4a65c_grow_92f84_10 rfl (lv_at hl 1 rfl) ?_
  refine mget (C := RJx4a65c) (T := TJx4a65c) (N := 3) (ci := 0) hx hb hts in_Jx4a65c hown hw (hv) rfl 1 (by decide) fl_9 rfl dJx4a65c_grow_92f84_11 ?_
  refine va_gets hx hb hw0.2.1.2.2.1 hS hown gs39 (fun _ h9 => h9) dJx4a65c_grow_92f84_14 ?_
  refine macmp_eq (tgt := 45) hx hb dJx4a65c_grow_92f84_17 (by decide) (fun _ => ?_) (fun z => absurd rfl z)
  refine lv_aload_n hx hb dJx4a65c_grow_92f84_45 rfl (lv_at hl 1 rfl) ?_
  refine lv_bipush (v := (10)) hx hb dJx4a65c_grow_92f84_46 (by decide) ?_
  refine lv_iload_n hx hb dJx4a65c_grow_92f84_48 rfl (lv_at hl 2 rfl) ?_
  refine va_mmax hx hb (hml.trans hl.1.symm) hown mm_79 ms_79 mi_79 mc_79 (Nat.le_of_ble_eq_true rfl) (Nat.le_of_ble_eq_true rfl) (Nat.zero_le _) (Nat.zero_le _) dJx4a65c_grow_92f84_49 ?_
  refine lv_topi (fun y1 ey1 => ?_)
  obtain rfl : y1 = nI 10 := ey1.trans (by decide)
  refine manewa (N := 10) hx hb hown cl7 hw hS rfl (by omega) z hz (Nat.le_of_ble_eq_true rfl) (Nat.le_of_ble_eq_true rfl) dJx4a65c_grow_92f84_52 (fun α1 H h1 hw hS => ?_)
  have hiz : i ≠ z := fun q => by rw [q, hz] at hv; cases hv
  have ei : α i = α1 i := (h1 i hiz).symm
  have hv1 := (vup_n V (.inl (G.2.2.2.1, 10, .inr (.inr (.inr (.inr (fun _ => none)))))) hiz).trans hv
  refine W.eq (g2 := F0 m 55 ls [.ref (α1 z), .ref (α1 i)]) (by rw [ei]) ?_
  refine lv_dup_x1 hx hb dJx4a65c_grow_92f84_55 rfl rfl ?_
  refine mput (C := RJx4a65c) (T := TJx4a65c) (N := 3) (ci := 0) hx hb hts in_Jx4a65c tyJx4a65c tyJx4a65c_ok nmJx4a65c hown hw hS (hv1) rfl 1 (by decide) fl_9 rfl rfl rfl (Nat.le_of_ble_eq_true rfl) dJx4a65c_grow_92f84_56 (fun H locs hw hS => ?_)
  refine W.widen (k := 1) (n := 200) (by omega) (by omega) ?_
  exact W.aret (v := .ref (α1 z)) hx hb hr (Or.inr ⟨_, rfl⟩) (Or.inr ⟨_, rfl⟩) (fun t ht hW => ⟨⟨some (α1 z), (_, α1), rfl, ⟨rfl, h1, rfl⟩, by show mH G _ α1 t.heap; rw [ht]; exact hw.2.2⟩, hS.F ht⟩) hS.2.2 dJx4a65c_grow_92f84_59

set_option maxHeartbeats 4000000 in
set_option maxRecDepth 100000 in
theorem c_growI_B {l : Launch} {G : mG} {V : mV} {α : Nat → Nat} {i j n z : Nat} {md : Int32} {row : Nat → Option Nat} (hv : V i = some (.inr (0, [.int md, .ref (α j), .int (nI n)]))) (hj : V j = some (.inl (G.2.2.2.1, n, .inr (.inr (.inr (.inr row)))))) (hz : V z = none) (h2 : 2 ≤ n) (hn : n ≤ 120) (hel : mEl V α n row) : Met l yJx4a65c_grow_92f84 wsJx4a65c_grow_92f84 ({ frames := 3, cells := 1, slots := 200, locals := 140 }) (va_Pc [.ref (α (i)), .int (nI (n + 1))] (fun U => mW G V α U U.heap)) (va_Qq (fun (r9 : Option Nat) (u : mV × (Nat → Nat)) => r9 = some (u.2 z) ∧ (∀ x, x ≠ z → u.2 x = α x) ∧ u.1 = vup (vup V z (.inl (G.2.2.2.1, n + n / 2, .inr (.inr (.inr (.inr (va_cpy row (fun _ => none) 0 0 n))))))) i (.inr (0, [.int md, .ref (u.2 z), .int (nI n)]))) (fun u t => mH G u.1 u.2 t.heap) (mfree G)) 1 200 (mfree G) := by
  refine Met.ofW (cc := cJx4a65c_grow_92f84) (maxL := 4) (ret := (some (.array (.object "java/lang/Object")))) (by decide) rfl ?_
  intro p e s m args below meth c s₁ B hml hv
  obtain ⟨rfl, hw⟩ := hv
  have hw0 := hw
  have hx := B.exec
  have hb := B.bytes
  have hr := B.returns
  have hts := atoms_spec (ws := wsJx4a65c_grow_92f84) B.pre
  have hown : s.vm.findClass RJx4a65c = some m.cls := findClass_of_methodNamed B.named
  have hlocks := B.notSynchronized
  have hS : va_S (mfree G) s.heap s.heap [] := va_S.rf
  have fl_9 := hts (.fieldLink RJx4a65c 9 "java/util/ArrayList" "elementData" "[Ljava/lang/Object;") (by decide +kernel)
  have in_Jx4a65c : ∀ w ∈ u_ws RJx4a65c TJx4a65c 3, w ∈ wsJx4a65c_grow_92f84 := by decide +kernel
  have hl := lv_entry ([.ref (α (i)), .int (nI (n + 1))]) (n := 4) (Nat.le_of_ble_eq_true rfl)
  rw [lg_entry_eq]
  generalize (lg_sl ([.ref (α (i)), .int (nI (n + 1))]) ++ List.replicate (4 - (lg_sl ([.ref (α (i)), .int (nI (n + 1))])).length) Slot.unset).toArray = ls at hl ⊢
  have hl : lv_has ls 4 [(0, .ref (α (i))), (1, .int (nI (n + 1)))] := hl
  refine lv_aload_n hx hb dJx4a65c_grow_92f84_0 rfl (lv_at hl 0 rfl) ?_
  refine mget (C := RJx4a65c) (T := TJx4a65c) (N := 3) (ci := 0) hx hb hts in_Jx4a65c hown hw (hv) rfl 1 (by decide) fl_9 rfl dJx4a65c_grow_92f84_1 ?_
  refine maalen hx hb hw (hj) dJx4a65c_grow_92f84_4 ?_
  refine lv_istore_n (lv' := [(2, .int (nI (n))), (0, .ref (α (i))), (1, .int (nI (n + 1)))]) hx hb dJx4a65c_grow_92f84_5 rfl hl (by decide) rfl (fun ls hl => ?_)
  refine lv_iload_n hx hb dJx4a65c_grow_92f84_6 rfl (lv_at hl 0 rfl) ?_
  refine lv_if_gt (tgt := 20) hx hb dJx4a65c_grow_92f84_7 (by decide) (fun c1 => ?_) (fun z => absurd ((nI_lt (a := 0) (by omega) (by omega))) z)
  refine lv_iload_n hx hb dJx4a65c_grow_92f84_20 rfl (lv_at hl 0 rfl) ?_
  refine lv_iload_n hx hb dJx4a65c_grow_92f84_21 rfl (lv_at hl 2 rfl) ?_
  refine lv_iload_n hx hb dJx4a65c_grow_92f84_22 rfl (lv_at hl 0 rfl) ?_
  refine lv_isub hx hb dJx4a65c_grow_92f84_23 ?_
  refine lv_topi (fun y1 ey1 => ?_)
  obtain rfl : y1 = 1 := ey1.trans (by rw [show nI (n + 1) - nI n = nI (n + 1 - n) from pk_sub (by omega), Nat.add_sub_cancel_left]; rfl)
  refine lv_iload_n hx hb dJx4a65c_grow_92f84_24 rfl (lv_at hl 0 rfl) ?_
  refine lv_iconst (v := (1)) hx hb dJx4a65c_grow_92f84_25 (by decide) ?_
  refine lv_ishr hx hb dJx4a65c_grow_92f84_26 ?_
  refine lv_topi (fun y1 ey1 => ?_)
  obtain rfl : y1 = nI (n / 2) := ey1.trans (by have k9 := pk_shrN (n := n) (by omega) ((1 : Int32) &&& 31) 1 (by decide); rw [Nat.pow_one] at k9; exact k9)
  refine mcallSi hw ⟨hx, hb, hml, hown, hts⟩ (c_J8_newLength_cabcc n h2 hn) (va_cwS 3 hts gJx4a65c_grow_92f84_J8_newLength_cabcc rfl rfl rfl (by decide +kernel) ⟨Nat.le_of_ble_eq_true rfl, Nat.le_of_ble_eq_true rfl⟩) rfl hl.1 rfl (Nat.le_of_ble_eq_true rfl) dJx4a65c_grow_92f84_27 ⟨Nat.le_of_ble_eq_true rfl, Nat.le_of_ble_eq_true rfl⟩ ?_
  refine lv_istore_n (lv' := [(3, .int (nI (n + n / 2))), (2, .int (nI (n))), (0, .ref (α (i))), (1, .int (nI (n + 1)))]) hx hb dJx4a65c_grow_92f84_30 rfl hl (by decide) rfl (fun ls hl => ?_)
  refine lv_aload_n hx hb dJx4a65c_grow_92f84_31 rfl (lv_at hl 2 rfl) ?_
  refine lv_aload_n hx hb dJx4a65c_grow_92f84_32 rfl (lv_at hl 2 rfl) ?_
  refine mget (C := RJx4a65c) (T := TJx4a65c) (N := 3) (ci := 0) hx hb hts in_Jx4a65c hown hw (hv) rfl 1 (by decide) fl_9 rfl dJx4a65c_grow_92f84_33 ?_
  refine lv_iload_n hx hb dJx4a65c_grow_92f84_36 rfl (lv_at hl 0 rfl) ?_
  refine mcallSwq hw ⟨hx, hb, hml, hown, hts⟩ hS (c_J7_copyOf_1904c hj hz (by omega) (by omega) hel) (va_cwS 2 hts gJx4a65c_grow_92f84_J7_copyOf_1904c rfl rfl rfl (by decide +kernel) ⟨Nat.le_of_ble_eq_true rfl, Nat.le_of_ble_eq_true rfl⟩) rfl hl.1 rfl (Nat.le_of_ble_eq_true rfl) dJx4a65c_grow_92f84_37 ⟨Nat.le_of_ble_eq_true rfl, Nat.le_of_ble_eq_true rfl⟩ (fun r9 V1 α1 H locs hp hw hS => ?_)
  obtain ⟨rfl, h1, h2⟩ := hp
  dsimp only at h1 h2
  subst h2
  have hiz : i ≠ z := fun q => by rw [q, hz] at hv; cases hv
  have ei : α i = α1 i := (h1 i hiz).symm
  have hjz : j ≠ z := fun q => by rw [q, hz] at hj; cases hj
  have ej : α j = α1 j := (h1 j hjz).symm
  have hv1 := (vup_n V (.inl (G.2.2.2.1, n + n / 2, .inr (.inr (.inr (.inr (va_cpy row (fun _ => none) 0 0 n)))))) hiz).trans hv
  refine W.eq (g2 := F0 m 40 ls [.ref (α1 z), .ref (α1 i)]) (by show F0 m 40 ls [.ref (α1 z), .ref (α i)] = _; rw [ei]) ?_
  refine lv_dup_x1 hx hb dJx4a65c_grow_92f84_40 rfl rfl ?_
  refine mput (C := RJx4a65c) (T := TJx4a65c) (N := 3) (ci := 0) hx hb hts in_Jx4a65c tyJx4a65c tyJx4a65c_ok nmJx4a65c hown hw hS (hv1) rfl 1 (by decide) fl_9 rfl rfl rfl (Nat.le_of_ble_eq_true rfl) dJx4a65c_grow_92f84_41 (fun H locs hw hS => ?_)
  exact W.aret (v := .ref (α1 z)) hx hb hr (Or.inr ⟨_, rfl⟩) (Or.inr ⟨_, rfl⟩) (fun t ht hW => ⟨⟨some (α1 z), (_, α1), rfl, ⟨rfl, h1, rfl⟩, by show mH G _ α1 t.heap; rw [ht]; exact hw.2.2⟩, hS.F ht⟩) hS.2.2 dJx4a65c_grow_92f84_44

set_option maxHeartbeats 4000000 in
set_option maxRecDepth 100000 in
theorem c_grow_A {l : Launch} {G : mG} {V : mV} {α : Nat → Nat} {i z : Nat} {md : Int32} (hv : V i = some (.inr (0, [.int md, .ref G.1.2, .int (nI 0)]))) (hz : V z = none) : Met l yJx4a65c_grow_d5877 wsJx4a65c_grow_d5877 ({ frames := 4, cells := 1, slots := 200, locals := 170 }) (va_Pc [.ref (α (i))] (fun U => mW G V α U U.heap)) (va_Qq (fun (r9 : Option Nat) (u : mV × (Nat → Nat)) => r9 = some (u.2 z) ∧ (∀ x, x ≠ z → u.2 x = α x) ∧ u.1 = vup (vup V z (.inl (G.2.2.2.1, 10, .inr (.inr (.inr (.inr (fun _ => none))))))) i (.inr (0, [.int md, .ref (u.2 z), .int (nI 0)]))) (fun u t => mH G u.1 u.2 t.heap) (mfree G)) 1 200 (mfree G) := by
  refine Met.ofW (cc := cJx4a65c_grow_d5877) (maxL := 1) (ret := (some (.array (.object "java/lang/Object")))) (by decide) rfl ?_
  intro p e s m args below meth c s₁ B hml hv
  obtain ⟨rfl, hw⟩ := hv
  have hw0 := hw
  have hx := B.exec
  have hb := B.bytes
  have hr := B.returns
  have hts := atoms_spec (ws := wsJx4a65c_grow_d5877) B.pre
  have hown : s.vm.findClass RJx4a65c = some m.cls := findClass_of_methodNamed B.named
  have hlocks := B.notSynchronized
  have hS : va_S (mfree G) s.heap s.heap [] := va_S.rf
  have fl_48 := hts (.fieldLink RJx4a65c 48 "java/util/ArrayList" "size" "I") (by decide +kernel)
  have in_Jx4a65c : ∀ w ∈ u_ws RJx4a65c TJx4a65c 3, w ∈ wsJx4a65c_grow_d5877 := by decide +kernel
  have hl := lv_entry ([.ref (α (i))]) (n := 1) (Nat.le_of_ble_eq_true rfl)
  rw [lg_entry_eq]
  generalize (lg_sl ([.ref (α (i))]) ++ List.replicate (1 - (lg_sl ([.ref (α (i))])).length) Slot.unset).toArray = ls at hl ⊢
  have hl : lv_has ls 1 [(0, .ref (α (i)))] := hl
  refine lv_aload_n hx hb dJx4a65c_grow_d5877_0 rfl (lv_at hl 0 rfl) ?_
  refine lv_aload_n hx hb dJx4a65c_grow_d5877_1 rfl (lv_at hl 0 rfl) ?_
  refine mget (C := RJx4a65c) (T := TJx4a65c) (N := 3) (ci := 0) hx hb hts in_Jx4a65c hown hw (hv) rfl 2 (by decide) fl_48 rfl dJx4a65c_grow_d5877_2 ?_
  refine lv_iconst (v := (1)) hx hb dJx4a65c_grow_d5877_5 (by decide) ?_
  refine lv_iadd hx hb dJx4a65c_grow_d5877_6 ?_
  refine lv_topi (fun y1 ey1 => ?_)
  obtain rfl : y1 = nI (0 + 1) := ey1.trans (nI_1 0)
  refine mcallVwq hw (hv) rfl rfl ⟨hx, hb, hml, hown, hts⟩ hS (c_growI_A hv hz) (cwV 1 hts gJx4a65c_grow_d5877_Jx4a65c_grow_92f84 rfl rfl rfl (by decide +kernel) ⟨Nat.le_of_ble_eq_true rfl, Nat.le_of_ble_eq_true rfl⟩) rfl hl.1 rfl (Nat.le_of_ble_eq_true rfl) dJx4a65c_grow_d5877_7 ⟨Nat.le_of_ble_eq_true rfl, Nat.le_of_ble_eq_true rfl⟩ (fun r9 V1 α1 H locs hp hw hS => ?_)
  obtain ⟨rfl, h1, h3⟩ := hp
  dsimp only at h1 h3
  exact W.aret (v := .ref (α1 z)) hx hb hr (Or.inr ⟨_, rfl⟩) (Or.inr ⟨_, rfl⟩) (fun t ht hW => ⟨⟨some (α1 z), (V1, α1), rfl, ⟨rfl, h1, h3⟩, by show mH G V1 α1 t.heap; rw [ht]; exact hw.2.2⟩, hS.F ht⟩) hS.2.2 dJx4a65c_grow_d5877_10

set_option maxHeartbeats 4000000 in
set_option maxRecDepth 100000 in
theorem c_grow_B {l : Launch} {G : mG} {V : mV} {α : Nat → Nat} {i j n z : Nat} {md : Int32} {row : Nat → Option Nat} (hv : V i = some (.inr (0, [.int md, .ref (α j), .int (nI n)]))) (hj : V j = some (.inl (G.2.2.2.1, n, .inr (.inr (.inr (.inr row)))))) (hz : V z = none) (h2 : 2 ≤ n) (hn : n ≤ 120) (hel : mEl V α n row) : Met l yJx4a65c_grow_d5877 wsJx4a65c_grow_d5877 ({ frames := 4, cells := 1, slots := 200, locals := 170 }) (va_Pc [.ref (α (i))] (fun U => mW G V α U U.heap)) (va_Qq (fun (r9 : Option Nat) (u : mV × (Nat → Nat)) => r9 = some (u.2 z) ∧ (∀ x, x ≠ z → u.2 x = α x) ∧ u.1 = vup (vup V z (.inl (G.2.2.2.1, n + n / 2, .inr (.inr (.inr (.inr (va_cpy row (fun _ => none) 0 0 n))))))) i (.inr (0, [.int md, .ref (u.2 z), .int (nI n)]))) (fun u t => mH G u.1 u.2 t.heap) (mfree G)) 1 200 (mfree G) := by
  refine Met.ofW (cc := cJx4a65c_grow_d5877) (maxL := 1) (ret := (some (.array (.object "java/lang/Object")))) (by decide) rfl ?_
  intro p e s m args below meth c s₁ B hml hv
  obtain ⟨rfl, hw⟩ := hv
  have hw0 := hw
  have hx := B.exec
  have hb := B.bytes
  have hr := B.returns
  have hts := atoms_spec (ws := wsJx4a65c_grow_d5877) B.pre
  have hown : s.vm.findClass RJx4a65c = some m.cls := findClass_of_methodNamed B.named
  have hlocks := B.notSynchronized
  have hS : va_S (mfree G) s.heap s.heap [] := va_S.rf
  have fl_48 := hts (.fieldLink RJx4a65c 48 "java/util/ArrayList" "size" "I") (by decide +kernel)
  have in_Jx4a65c : ∀ w ∈ u_ws RJx4a65c TJx4a65c 3, w ∈ wsJx4a65c_grow_d5877 := by decide +kernel
  have hl := lv_entry ([.ref (α (i))]) (n := 1) (Nat.le_of_ble_eq_true rfl)
  rw [lg_entry_eq]
  generalize (lg_sl ([.ref (α (i))]) ++ List.replicate (1 - (lg_sl ([.ref (α (i))])).length) Slot.unset).toArray = ls at hl ⊢
  have hl : lv_has ls 1 [(0, .ref (α (i)))] := hl
  refine lv_aload_n hx hb dJx4a65c_grow_d5877_0 rfl (lv_at hl 0 rfl) ?_
  refine lv_aload_n hx hb dJx4a65c_grow_d5877_1 rfl (lv_at hl 0 rfl) ?_
  refine mget (C := RJx4a65c) (T := TJx4a65c) (N := 3) (ci := 0) hx hb hts in_Jx4a65c hown hw (hv) rfl 2 (by decide) fl_48 rfl dJx4a65c_grow_d5877_2 ?_
  refine lv_iconst (v := (1)) hx hb dJx4a65c_grow_d5877_5 (by decide) ?_
  refine lv_iadd hx hb dJx4a65c_grow_d5877_6 ?_
  refine lv_topi (fun y1 ey1 => ?_)
  obtain rfl : y1 = nI (n + 1) := ey1.trans (nI_1 n)
  refine mcallVwq hw (hv) rfl rfl ⟨hx, hb, hml, hown, hts⟩ hS (c_growI_B hv hj hz h2 hn hel) (cwV 1 hts gJx4a65c_grow_d5877_Jx4a65c_grow_92f84 rfl rfl rfl (by decide +kernel) ⟨Nat.le_of_ble_eq_true rfl, Nat.le_of_ble_eq_true rfl⟩) rfl hl.1 rfl (Nat.le_of_ble_eq_true rfl) dJx4a65c_grow_d5877_7 ⟨Nat.le_of_ble_eq_true rfl, Nat.le_of_ble_eq_true rfl⟩ (fun r9 V1 α1 H locs hp hw hS => ?_)
  obtain ⟨rfl, h1, h3⟩ := hp
  dsimp only at h1 h3
  exact W.aret (v := .ref (α1 z)) hx hb hr (Or.inr ⟨_, rfl⟩) (Or.inr ⟨_, rfl⟩) (fun t ht hW => ⟨⟨some (α1 z), (V1, α1), rfl, ⟨rfl, h1, h3⟩, by show mH G V1 α1 t.heap; rw [ht]; exact hw.2.2⟩, hS.F ht⟩) hS.2.2 dJx4a65c_grow_d5877_10
end
