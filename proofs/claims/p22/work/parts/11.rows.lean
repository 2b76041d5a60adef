def bI (P : Prop) [Decidable P] : Int32 := if P then 1 else 0
theorem bI_t {P : Prop} [Decidable P] (h : P) : bI P = 1 := if_pos h
theorem bI_f {P : Prop} [Decidable P] (h : ¬ P) : bI P = 0 := if_neg h
theorem bI_0 {P : Prop} [Decidable P] (h : bI P = 0) : ¬ P := fun hp => by rw [bI_t hp] at h; exact absurd h (by decide)
theorem bI_n0 {P : Prop} [Decidable P] (h : ¬ bI P = 0) : P := by
  by_cases hp : P
  · exact hp
  · exact absurd (bI_f hp) h
theorem bI_nar {P : Prop} [Decidable P] : narrow .boolean (.int (bI P)) = .int (bI P) := by
  by_cases hp : P
  · rw [bI_t hp]; rfl
  · rw [bI_f hp]; rfl
theorem bI_c {P R : Prop} [Decidable P] [Decidable R] (h : P ↔ R) : bI P = bI R := by
  by_cases hp : P
  · rw [bI_t hp, bI_t (h.mp hp)]
  · rw [bI_f hp, bI_f (fun z => hp (h.mpr z))]
theorem bI_eq0 {P : Prop} [Decidable P] : bI P = 0 ↔ ¬ P := ⟨bI_0, bI_f⟩
theorem va_rfc (x : Option Nat) : ((va_rf x).category == 2) = false := by cases x <;> rfl
section MX
variable {p : Program} {l : Launch} {e : Env} {R : Room} {s : State} {m : MethodId} {args : Array Value} {below : List Frame} {meth : Method} {c : Code} {H : Heap} {locs : List Loc} {cells slots : Nat} {Q : State → Prop}
variable {cc : ByteArray} {pc : Nat} {ls : Array Slot} {rest : List Value} {G : mG} {V : mV} {α : Nat → Nat}
theorem maload_nq (hexec : p.tables.exec = Jvm.exec) (hb : c.code = cc) {k : Fin 4} {i : Nat} {x : Option Nat} (hdg : decode cc pc = .ok (.aload_n k, 1)) (hi : (k : Nat) = i) (hl : ls[i]? = some (.val (va_rf x)))
    (kk : W p l e R s m args below meth c H locs cells slots Q (F0 m (pc + 1) ls (va_rf x :: rest))) : W p l e R s m args below meth c H locs cells slots Q (F0 m pc ls rest) := by
  cases x with
  | none => exact lv_aload_nN hexec hb hdg hi hl kk
  | some a => exact lv_aload_n hexec hb hdg hi hl kk
theorem maloadq (hexec : p.tables.exec = Jvm.exec) (hb : c.code = cc) {i : Nat} {x : Option Nat} (hdg : decode cc pc = .ok (.aload i, 2)) (hl : ls[i]? = some (.val (va_rf x)))
    (kk : W p l e R s m args below meth c H locs cells slots Q (F0 m (pc + 2) ls (va_rf x :: rest))) : W p l e R s m args below meth c H locs cells slots Q (F0 m pc ls rest) := by
  cases x with
  | none => exact lv_aloadN hexec hb hdg hl kk
  | some a => exact lv_aload hexec hb hdg hl kk
theorem mastore_nq (hexec : p.tables.exec = Jvm.exec) (hb : c.code = cc) {k : Fin 4} {i nL : Nat} {x : Option Nat} {lv lv' : List (Nat × Value)} (hdg : decode cc pc = .ok (.astore_n k, 1)) (hi : (k : Nat) = i) (h : lv_has ls nL lv) (hn : i < nL) (hl : (i, va_rf x) :: lv.filter (fun q => !(q.1 == i) && !(q.1 + 1 == i && q.2.category == 2)) = lv')
    (kk : ∀ ls' : Array Slot, lv_has ls' nL lv' → W p l e R s m args below meth c H locs cells slots Q (F0 m (pc + 1) ls' rest)) : W p l e R s m args below meth c H locs cells slots Q (F0 m pc ls (va_rf x :: rest)) := by
  cases x with
  | none => exact lv_astore_nN hexec hb hdg hi h hn hl kk
  | some a => exact lv_astore_n hexec hb hdg hi h hn hl kk
theorem mastoreq (hexec : p.tables.exec = Jvm.exec) (hb : c.code = cc) {i nL : Nat} {x : Option Nat} {lv lv' : List (Nat × Value)} (hdg : decode cc pc = .ok (.astore i, 2)) (h : lv_has ls nL lv) (hn : i < nL) (hl : (i, va_rf x) :: lv.filter (fun q => !(q.1 == i) && !(q.1 + 1 == i && q.2.category == 2)) = lv')
    (kk : ∀ ls' : Array Slot, lv_has ls' nL lv' → W p l e R s m args below meth c H locs cells slots Q (F0 m (pc + 2) ls' rest)) : W p l e R s m args below meth c H locs cells slots Q (F0 m pc ls (va_rf x :: rest)) := by
  cases x with
  | none => exact lv_astoreN hexec hb hdg h hn hl kk
  | some a => exact lv_astore hexec hb hdg h hn hl kk
theorem mif_eqB (hexec : p.tables.exec = Jvm.exec) (hb : c.code = cc) {P : Prop} [Decidable P] {off : Int} {tgt : Nat} (hdg : decode cc pc = .ok (.ifCond .eq off, 3)) (ht : (pc : Int) + off = (tgt : Int))
    (kt : ¬ P → W p l e R s m args below meth c H locs cells slots Q (F0 m tgt ls rest)) (kf : P → W p l e R s m args below meth c H locs cells slots Q (F0 m (pc + 3) ls rest)) : W p l e R s m args below meth c H locs cells slots Q (F0 m pc ls (.int (bI P) :: rest)) :=
  lv_if_eq hexec hb hdg ht (fun h => kt (bI_0 h)) (fun h => kf (bI_n0 h))
theorem mif_neB (hexec : p.tables.exec = Jvm.exec) (hb : c.code = cc) {P : Prop} [Decidable P] {off : Int} {tgt : Nat} (hdg : decode cc pc = .ok (.ifCond .ne off, 3)) (ht : (pc : Int) + off = (tgt : Int))
    (kt : P → W p l e R s m args below meth c H locs cells slots Q (F0 m tgt ls rest)) (kf : ¬ P → W p l e R s m args below meth c H locs cells slots Q (F0 m (pc + 3) ls rest)) : W p l e R s m args below meth c H locs cells slots Q (F0 m pc ls (.int (bI P) :: rest)) :=
  lv_if_ne hexec hb hdg ht (fun h => kt (bI_n0 h)) (fun h => kf (bI_0 h))
theorem macmp_ne (hexec : p.tables.exec = Jvm.exec) (hb : c.code = cc) {x y : Nat} {off : Int} {tgt : Nat} (hdg : decode cc pc = .ok (.if_acmp .ne off, 3)) (ht : (pc : Int) + off = (tgt : Int))
    (kt : ¬ x = y → W p l e R s m args below meth c H locs cells slots Q (F0 m tgt ls rest)) (kf : x = y → W p l e R s m args below meth c H locs cells slots Q (F0 m (pc + 3) ls rest)) : W p l e R s m args below meth c H locs cells slots Q (F0 m pc ls (.ref y :: .ref x :: rest)) :=
  lv_acmp_ne (rx := some x) (ry := some y) hexec hb hdg ht (fun h => kt (fun z => h (by rw [z]))) (fun h => kf (Option.some.inj h))
theorem mifnonnullq (hexec : p.tables.exec = Jvm.exec) (hb : c.code = cc) {x : Option Nat} {off : Int} {tgt : Nat} (hdg : decode cc pc = .ok (.ifnonnull off, 3)) (ht : (pc : Int) + off = (tgt : Int))
    (kt : ¬ x = none → W p l e R s m args below meth c H locs cells slots Q (F0 m tgt ls rest)) (kf : x = none → W p l e R s m args below meth c H locs cells slots Q (F0 m (pc + 3) ls rest)) : W p l e R s m args below meth c H locs cells slots Q (F0 m pc ls (va_rf x :: rest)) := by
  cases x with
  | none => exact lv_ifnonnullN hexec hb hdg (kf rfl)
  | some a => exact lv_ifnonnull hexec hb hdg ht (kt (fun z => by cases z))
theorem mifnullq (hexec : p.tables.exec = Jvm.exec) (hb : c.code = cc) {x : Option Nat} {off : Int} {tgt : Nat} (hdg : decode cc pc = .ok (.ifnull off, 3)) (ht : (pc : Int) + off = (tgt : Int))
    (kt : x = none → W p l e R s m args below meth c H locs cells slots Q (F0 m tgt ls rest)) (kf : ¬ x = none → W p l e R s m args below meth c H locs cells slots Q (F0 m (pc + 3) ls rest)) : W p l e R s m args below meth c H locs cells slots Q (F0 m pc ls (va_rf x :: rest)) := by
  cases x with
  | none => exact lv_ifnullN hexec hb hdg ht (kt rfl)
  | some a => exact lv_ifnull hexec hb hdg (kf (fun z => by cases z))
theorem mcallVr {y : MethodName} {bytes : ByteArray} {maxL nL n index ci i : Nat} {ret : Option FieldType} {ws Ts : List Cond} {rm : Room} {own C : String} {As st0 : List Value} {x : Nat} {fs : List Value} {q : vw_C} (hw : mW G V α s H) (hv : V i = some (.inr (ci, fs))) (hc : vwCl[ci]? = some q) (hC : q.1 = C) (S : CallFix p m c cc nL s args Ts own) (hM : Met l y ws rm (va_Pc (.ref (α i) :: As) (fun U => mW G V α U U.heap)) (va_Sq (fun r => r = some x)) 0 0 (fun _ => False)) (cw : CallW R s args own C index y bytes maxL ret ws rm 0 0 n)
    (hn : As.length = n) (hsize : ls.size = nL) (hstack : st0 = As.reverse ++ .ref (α i) :: rest) (hW : (rest.map fun v => v.category).sum ≤ 8) (hdg : decode cc pc = .ok (.invokevirtual index, 3)) (hf : cells ≤ R.cells ∧ slots ≤ R.slots)
    (kk : W p l e R s m args below meth c H locs cells slots Q (F0 m (pc + 3) ls (.ref x :: rest))) : W p l e R s m args below meth c H locs cells slots Q (F0 m pc ls st0) :=
  mcallVq (x := some x) hw hv hc hC S hM cw hn hsize hstack hW hdg hf kk
theorem miald' (hexec : p.tables.exec = Jvm.exec) (hb : c.code = cc) (hw : mW G V α s H) {i : Nat} {n : Nat} {f : Nat → Int32} (hv : V i = some (.inl (G.2.2.1.1, n, .inl f))) {j : Int32} {k : Nat} (hj : j = nI k) (hk : k < n) (hn : n < 2 ^ 31) (hdg : decode cc pc = .ok (.iaload, 1))
    (kk : W p l e R s m args below meth c H locs cells slots Q (F0 m (pc + 1) ls (.int (f k) :: rest))) : W p l e R s m args below meth c H locs cells slots Q (F0 m pc ls (.int j :: .ref (α i) :: rest)) := by
  subst hj
  exact miald hexec hb hw hv (vp_in_nI hk hn) hdg (by rw [nI_clamp (by omega)]; exact kk)
theorem mzald' (hexec : p.tables.exec = Jvm.exec) (hb : c.code = cc) (hw : mW G V α s H) {i : Nat} {n : Nat} {f : Nat → Int32} (hv : V i = some (.inl (G.2.2.1.2, n, .inl f))) {j : Int32} {k : Nat} (hj : j = nI k) (hk : k < n) (hn : n < 2 ^ 31) (hdg : decode cc pc = .ok (.baload, 1))
    (kk : W p l e R s m args below meth c H locs cells slots Q (F0 m (pc + 1) ls (.int (f k) :: rest))) : W p l e R s m args below meth c H locs cells slots Q (F0 m pc ls (.int j :: .ref (α i) :: rest)) := by
  subst hj
  exact mzald hexec hb hw hv (vp_in_nI hk hn) hdg (by rw [nI_clamp (by omega)]; exact kk)
theorem maald' (hexec : p.tables.exec = Jvm.exec) (hb : c.code = cc) (hw : mW G V α s H) {i : Nat} {n : Nat} {f : Nat → Option Nat} (hv : V i = some (.inl (G.2.2.2.1, n, .inr (.inr (.inr (.inr f)))))) {j : Int32} {k : Nat} (hj : j = nI k) (hk : k < n) (hn : n < 2 ^ 31) (hdg : decode cc pc = .ok (.aaload, 1))
    (kk : W p l e R s m args below meth c H locs cells slots Q (F0 m (pc + 1) ls (va_rf (f k) :: rest))) : W p l e R s m args below meth c H locs cells slots Q (F0 m pc ls (.int j :: .ref (α i) :: rest)) := by
  subst hj
  exact maald hexec hb hw hv (vp_in_nI hk hn) hdg (by rw [nI_clamp (by omega)]; exact kk)
theorem mjoin {E : Int32} {pcJ : Nat} {st st0 : List Value} (J : W p l e R s m args below meth c H locs cells slots Q (F0 m pcJ ls (.int E :: st)))
    (kk : (∀ z : Int32, z = E → W p l e R s m args below meth c H locs cells slots Q (F0 m pcJ ls (.int z :: st))) → W p l e R s m args below meth c H locs cells slots Q (F0 m pc ls st0)) : W p l e R s m args below meth c H locs cells slots Q (F0 m pc ls st0) := kk (fun z hz => by subst hz; exact J)
/-- a counted loop: at its head the locals are L j -/
theorem mloop {nL : Nat} (N : Nat) (L : Nat → List (Nat × Value)) {head : Nat} (hz : ∀ ls : Array Slot, lv_has ls nL (L N) → W p l e R s m args below meth c H locs cells slots Q (F0 m head ls []))
    (hs : ∀ j : Nat, j < N → (∀ ls : Array Slot, lv_has ls nL (L (j + 1)) → W p l e R s m args below meth c H locs cells slots Q (F0 m head ls [])) → ∀ ls : Array Slot, lv_has ls nL (L j) → W p l e R s m args below meth c H locs cells slots Q (F0 m head ls [])) :
    ∀ (ls : Array Slot), lv_has ls nL (L 0) → W p l e R s m args below meth c H locs cells slots Q (F0 m head ls []) := by
  have key : ∀ (n j : Nat), j + n = N → ∀ ls : Array Slot, lv_has ls nL (L j) → W p l e R s m args below meth c H locs cells slots Q (F0 m head ls []) := by
    intro n
    induction n with
    | zero => intro j hj ls hl; have : j = N := by omega
              subst this; exact hz ls hl
    | succ n ih => intro j hj ls hl; exact hs j (by omega) (ih (j + 1) (by omega)) ls hl
  exact key N 0 (by omega)
/-- the same with a word that holds at its head -/
theorem mloopI {nL : Nat} (N : Nat) (L : Nat → List (Nat × Value)) (I : Nat → Prop) {head : Nat} (hz : I N → ∀ ls : Array Slot, lv_has ls nL (L N) → W p l e R s m args below meth c H locs cells slots Q (F0 m head ls []))
    (hs : ∀ j : Nat, j < N → I j → (I (j + 1) → ∀ ls : Array Slot, lv_has ls nL (L (j + 1)) → W p l e R s m args below meth c H locs cells slots Q (F0 m head ls [])) → ∀ ls : Array Slot, lv_has ls nL (L j) → W p l e R s m args below meth c H locs cells slots Q (F0 m head ls [])) :
    I 0 → ∀ (ls : Array Slot), lv_has ls nL (L 0) → W p l e R s m args below meth c H locs cells slots Q (F0 m head ls []) := by
  have key : ∀ (n j : Nat), j + n = N → I j → ∀ ls : Array Slot, lv_has ls nL (L j) → W p l e R s m args below meth c H locs cells slots Q (F0 m head ls []) := by
    intro n
    induction n with
    | zero => intro j hj hi ls hl; have : j = N := by omega
              subst this; exact hz hi ls hl
    | succ n ih => intro j hj hi ls hl; exact hs j (by omega) hi (ih (j + 1) (by omega)) ls hl
  exact key N 0 (by omega)
theorem mcallVv {y : MethodName} {bytes : ByteArray} {maxL nL n index ci i : Nat} {ret : Option FieldType} {ws Ts : List Cond} {rm : Room} {own C : String} {As st0 : List Value} {fs : List Value} {q : vw_C} (hw : mW G V α s H) (hv : V i = some (.inr (ci, fs))) (hc : vwCl[ci]? = some q) (hC : q.1 = C) (S : CallFix p m c cc nL s args Ts own) (hM : Met l y ws rm (va_Pc (.ref (α i) :: As) (fun U => mW G V α U U.heap)) (va_Sv (fun _ => True)) 0 0 (fun _ => False)) (cw : CallW R s args own C index y bytes maxL ret ws rm 0 0 n)
    (hn : As.length = n) (hsize : ls.size = nL) (hstack : st0 = As.reverse ++ .ref (α i) :: rest) (hW : (rest.map fun v => v.category).sum ≤ 8) (hdg : decode cc pc = .ok (.invokevirtual index, 3)) (hf : cells ≤ R.cells ∧ slots ≤ R.slots)
    (kk : W p l e R s m args below meth c H locs cells slots Q (F0 m (pc + 3) ls rest)) : W p l e R s m args below meth c H locs cells slots Q (F0 m pc ls st0) := by
  subst hstack
  subst hC
  exact va_csv (W.runV (g := F0 m pc ls (As.reverse ++ .ref (α i) :: rest)) S hM cw ⟨mPcB, mrecv hw hv hc, fun U hU hWm => ⟨rfl, by show mW G V α U U.heap; rw [hU]; exact hw.warm hWm⟩⟩ rfl hn hsize rfl (lv_room hW) hdg hf) (fun _ => kk)
theorem mcallSv {y : MethodName} {bytes : ByteArray} {maxL nL n index : Nat} {ret : Option FieldType} {ws Ts : List Cond} {rm : Room} {own : String} {As st0 : List Value} (hw : mW G V α s H) (S : CallFix p m c cc nL s args Ts own) (hM : Met l y ws rm (va_Pc As (fun U => mW G V α U U.heap)) (va_Sv (fun _ => True)) 0 0 (fun _ => False)) (cw : CallB R s args own index y bytes maxL ret ws rm 0 0 n ∧ (Cond.static y).before args s = true)
    (hn : As.length = n) (hsize : ls.size = nL) (hstack : st0 = As.reverse ++ rest) (hW : (rest.map fun v => v.category).sum ≤ 8) (hdg : decode cc pc = .ok (.invokestatic index, 3)) (hf : cells ≤ R.cells ∧ slots ≤ R.slots)
    (kk : W p l e R s m args below meth c H locs cells slots Q (F0 m (pc + 3) ls rest)) : W p l e R s m args below meth c H locs cells slots Q (F0 m pc ls st0) := by
  subst hstack
  exact va_csv (W.runS (g := F0 m pc ls (As.reverse ++ rest)) S hM cw ⟨mPcB, fun U hU hWm => ⟨rfl, by show mW G V α U U.heap; rw [hU]; exact hw.warm hWm⟩⟩ rfl hn hsize rfl (lv_room hW) hdg hf) (fun _ => kk)
theorem miast' (hexec : p.tables.exec = Jvm.exec) (hb : c.code = cc) (hw : mW G V α s H) (hS0 : va_S (mfree G) s.heap H locs) {i : Nat} {n : Nat} {f : Nat → Int32} (hv : V i = some (.inl (G.2.2.1.1, n, .inl f))) {j x : Int32} {k : Nat} (hj : j = nI k) (hk : k < n) (hn : n < 2 ^ 31) (hdg : decode cc pc = .ok (.iastore, 1))
    (kk : ∀ (H1 : Heap) (locs1 : List Loc), mW G (vup V i (.inl (G.2.2.1.1, n, .inl (upd f k x)))) α s H1 → va_S (mfree G) s.heap H1 locs1 → W p l e R s m args below meth c H1 locs1 cells slots Q (F0 m (pc + 1) ls rest)) : W p l e R s m args below meth c H locs cells slots Q (F0 m pc ls (.int x :: .int j :: .ref (α i) :: rest)) := by
  subst hj
  exact miast hexec hb hw hS0 hv (vp_in_nI hk hn) hdg (fun H1 locs1 h1 h2 => kk H1 locs1 (by rw [nI_clamp (by omega)] at h1; exact h1) h2)
theorem mzast' (hexec : p.tables.exec = Jvm.exec) (hb : c.code = cc) (hw : mW G V α s H) (hS0 : va_S (mfree G) s.heap H locs) {i : Nat} {n : Nat} {f : Nat → Int32} (hv : V i = some (.inl (G.2.2.1.2, n, .inl f))) {j x : Int32} {k : Nat} (hj : j = nI k) (hk : k < n) (hn : n < 2 ^ 31) (hx1 : vp_nar .boolean x = x) (hdg : decode cc pc = .ok (.bastore, 1))
    (kk : ∀ (H1 : Heap) (locs1 : List Loc), mW G (vup V i (.inl (G.2.2.1.2, n, .inl (upd f k x)))) α s H1 → va_S (mfree G) s.heap H1 locs1 → W p l e R s m args below meth c H1 locs1 cells slots Q (F0 m (pc + 1) ls rest)) : W p l e R s m args below meth c H locs cells slots Q (F0 m pc ls (.int x :: .int j :: .ref (α i) :: rest)) := by
  subst hj
  exact mzast hexec hb hw hS0 hv (vp_in_nI hk hn) hdg (fun H1 locs1 h1 h2 => kk H1 locs1 (by rw [nI_clamp (by omega), hx1] at h1; exact h1) h2)
/-- a call that writes or makes -/
theorem mcallVw {y : MethodName} {bytes : ByteArray} {maxL nL n index ci i mc ms : Nat} {ret : Option FieldType} {ws Ts : List Cond} {rm : Room} {own C : String} {As st0 : List Value} {post : Int32 → mV × (Nat → Nat) → Prop} {fs : List Value} {q : vw_C} (hw : mW G V α s H) (hv : V i = some (.inr (ci, fs))) (hc : vwCl[ci]? = some q) (hC : q.1 = C) (S : CallFix p m c cc nL s args Ts own) (hS : va_S (mfree G) s.heap H locs) (hM : Met l y ws rm (va_Pc (.ref (α i) :: As) (fun U => mW G V α U U.heap)) (va_Qi post (fun u t => mH G u.1 u.2 t.heap) (mfree G)) mc ms (mfree G)) (cw : CallW R s args own C index y bytes maxL ret ws rm mc ms n)
    (hn : As.length = n) (hsize : ls.size = nL) (hstack : st0 = As.reverse ++ .ref (α i) :: rest) (hW : (rest.map fun v => v.category).sum ≤ 8) (hdg : decode cc pc = .ok (.invokevirtual index, 3)) (hf : cells + mc ≤ R.cells ∧ slots + ms ≤ R.slots)
    (kk : ∀ (r : Int32) (V1 : mV) (α1 : Nat → Nat) (H1 : Heap) (locs1 : List Loc), post r (V1, α1) → mW G V1 α1 s H1 → va_S (mfree G) s.heap H1 locs1 → W p l e R s m args below meth c H1 locs1 (cells + mc) (slots + ms) Q (F0 m (pc + 3) ls (.int r :: rest))) : W p l e R s m args below meth c H locs cells slots Q (F0 m pc ls st0) := by
  subst hstack
  subst hC
  exact va_calli (va_runV (g := F0 m pc ls (As.reverse ++ .ref (α i) :: rest)) S hM cw ⟨mPcB, mrecv hw hv hc, fun U hU hWm => ⟨rfl, by show mW G V α U U.heap; rw [hU]; exact hw.warm hWm⟩⟩ rfl hn hsize rfl (lv_room hW) hdg hf) hS (fun q _ h => h) (fun q h => h)
    (fun r u t H1 locs1 ht hvm hp hB hz hk hS1 => kk r u.1 u.2 H1 locs1 hp (hw.at hk (by rw [← ht]; exact hB)) hS1)
end MX
section MY
variable {p : Program} {l : Launch} {e : Env} {R : Room} {s : State} {m : MethodId} {args : Array Value} {below : List Frame} {meth : Method} {c : Code} {cells slots : Nat} {Q : State → Prop} {G : mG} {α : Nat → Nat}
/-- a counted loop that writes: its world at the head keeps I j -/
theorem mloopW {nL : Nat} (N : Nat) (L : Nat → List (Nat × Value)) (I : Nat → mV → Prop) {head : Nat}
    (hz : ∀ (V : mV) (H : Heap) (locs : List Loc), I N V → mW G V α s H → va_S (mfree G) s.heap H locs → ∀ ls : Array Slot, lv_has ls nL (L N) → W p l e R s m args below meth c H locs cells slots Q (F0 m head ls []))
    (hs : ∀ j : Nat, j < N → (∀ (V : mV) (H : Heap) (locs : List Loc), I (j + 1) V → mW G V α s H → va_S (mfree G) s.heap H locs → ∀ ls : Array Slot, lv_has ls nL (L (j + 1)) → W p l e R s m args below meth c H locs cells slots Q (F0 m head ls [])) → ∀ (V : mV) (H : Heap) (locs : List Loc), I j V → mW G V α s H → va_S (mfree G) s.heap H locs → ∀ ls : Array Slot, lv_has ls nL (L j) → W p l e R s m args below meth c H locs cells slots Q (F0 m head ls [])) :
    ∀ (V : mV) (H : Heap) (locs : List Loc), I 0 V → mW G V α s H → va_S (mfree G) s.heap H locs → ∀ (ls : Array Slot), lv_has ls nL (L 0) → W p l e R s m args below meth c H locs cells slots Q (F0 m head ls []) := by
  have key : ∀ (n j : Nat), j + n = N → ∀ (V : mV) (H : Heap) (locs : List Loc), I j V → mW G V α s H → va_S (mfree G) s.heap H locs → ∀ ls : Array Slot, lv_has ls nL (L j) → W p l e R s m args below meth c H locs cells slots Q (F0 m head ls []) := by
    intro n
    induction n with
    | zero => intro j hj; have : j = N := by omega
              subst this; exact hz
    | succ n ih => intro j hj; exact hs j (by omega) (ih (j + 1) (by omega))
  exact key N 0 (by omega)
end MY
