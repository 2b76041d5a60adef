/-! what the numbers mean: f 0 base, 1 weekdays, 2 from, 3 to, 4 ranks, 5 percent, 6 off, 7 holiday, 8 rank, 9 by, 10 start, 11 length, 12 taken, 13 gone -/
abbrev sT : Type := Nat → Nat → Int32
theorem mdiv {a : Nat} (h : a < 2 ^ 31) (d : Nat) (h0 : 0 < d) (hd : d < 2 ^ 31) : nI a / nI d = nI (a / d) := pk_div h h0 hd
theorem mrem {a : Nat} (h : a < 2 ^ 31) (d : Nat) (h0 : 0 < d) (hd : d < 2 ^ 31) : nI a - nI a / nI d * nI d = nI (a % d) := pk_rem h h0 hd
def s_ovt (q : Int32) : Int32 := if q < 40 then (if q < 32 then 100 else 150) else 200
def s_paid (f : sT) (s : Nat) : Int32 := if f 13 s = 0 then (if 12 ≤ f 11 s then f 11 s else 12) else 0
def s_owed (x : Int32) : Int32 := if x < 40 then (if x < 20 then 0 else 1) else 2
def s_lacks (f : sT) (s : Nat) : Int32 := if f 13 s = 0 then (if f 12 s ≤ s_owed (f 11 s) then s_owed (f 11 s) - f 12 s else 0) else 0
def s_on (f : sT) (k d : Nat) : Int32 := if f 1 k = 0 then f 7 d else bI ((f 1 k >>> ((nI d - nI d / 7 * 7) &&& 31)) &&& 1 = 1)
abbrev s_ap (f : sT) (k n : Nat) (r : Int32) : Prop := ¬ s_on f k (n / 96) = 0 ∧ f 6 k = 0 ∧ (f 4 k >>> (r &&& 31)) &&& 1 = 1 ∧ ¬ nI (n % 96) < f 2 k ∧ ¬ f 3 k ≤ nI (n % 96)
/-- the greatest percentage among the first rules -/
def s_P (f : sT) (w a q : Nat) : Nat → Int32
  | 0 => s_ovt (nI q)
  | k + 1 => if ¬ f 5 k ≤ s_P f w a q k ∧ s_ap f k (a + q) (f 8 w) then f 5 k else s_P f w a q k
/-- the first rule with this percentage that applies, among the first rules -/
def s_G (f : sT) (w a q : Nat) (x : Int32) : Nat → Option Nat
  | 0 => none
  | k + 1 => match s_G f w a q x k with
    | some i => some i
    | none => if f 5 k = x ∧ s_ap f k (a + q) (f 8 w) then some k else none
theorem s_G_mono {f : sT} {w a q : Nat} {x : Int32} {j i : Nat} (h : s_G f w a q x j = some i) : ∀ n, s_G f w a q x (j + n) = some i
  | 0 => h
  | n + 1 => by
    have e : s_G f w a q x (j + (n + 1)) = match s_G f w a q x (j + n) with
      | some i => some i
      | none => if f 5 (j + n) = x ∧ s_ap f (j + n) (a + q) (f 8 w) then some (j + n) else none := rfl
    rw [e, s_G_mono h n]
theorem s_G_le {f : sT} {w a q : Nat} {x : Int32} {j i n : Nat} (h : s_G f w a q x j = some i) (hn : j ≤ n) : s_G f w a q x n = some i := by
  have := s_G_mono h (n - j)
  rwa [show j + (n - j) = n by omega] at this
theorem s_G_hit {f : sT} {w a q : Nat} {x : Int32} {j : Nat} (h : s_G f w a q x j = none) (c : f 5 j = x ∧ s_ap f j (a + q) (f 8 w)) : s_G f w a q x (j + 1) = some j := by
  have e : s_G f w a q x (j + 1) = match s_G f w a q x j with
      | some i => some i
      | none => if f 5 j = x ∧ s_ap f j (a + q) (f 8 w) then some j else none := rfl
  rw [e, h]
  exact if_pos c
theorem s_G_miss {f : sT} {w a q : Nat} {x : Int32} {j : Nat} (h : s_G f w a q x j = none) (c : ¬ (f 5 j = x ∧ s_ap f j (a + q) (f 8 w))) : s_G f w a q x (j + 1) = none := by
  have e : s_G f w a q x (j + 1) = match s_G f w a q x j with
      | some i => some i
      | none => if f 5 j = x ∧ s_ap f j (a + q) (f 8 w) then some j else none := rfl
  rw [e, h]
  exact if_neg c
def s_R0 (o : Option Nat) (x y : Int32) : Int32 := match o with
  | some k => nI k
  | none => if x ≤ 100 then -1 else if x = y then -2 else -1
def s_R (f : sT) (nr w a q : Nat) : Int32 := s_R0 (s_G f w a q (s_P f w a q nr) nr) (s_P f w a q nr) (s_ovt (nI q))
def s_amt (f : sT) (nr w a r q : Nat) : Int32 := f 0 r * s_P f w a q nr / 100
def s_sum (f : sT) (nr s w a r : Nat) : Nat → Int32
  | 0 => 2 * s_lacks f s * f 0 r
  | j + 1 => s_sum f nr s w a r j + s_amt f nr w a r j
/-- the model's cells -/
def mM (G : mG) (V : mV) (α : Nat → Nat) (f : sT) (nr nw ns : Nat) (th : Int32) : Prop :=
  V 10 = some (.inr (5, [.ref (α 11), .int (nI nr), .ref (α 12), .ref (α 13), .ref (α 14), .ref (α 15), .ref (α 16), .ref (α 17), .ref (α 18), .int (nI nw), .ref (α 19), .int (nI ns), .ref (α 20), .ref (α 21), .ref (α 22), .ref (α 23), .ref (α 24), .int th])) ∧
  V 11 = some (.inl (G.2.2.1.1, 4, .inl (f 0))) ∧ V 12 = some (.inl (G.2.2.1.1, 16, .inl (f 1))) ∧ V 13 = some (.inl (G.2.2.1.1, 16, .inl (f 2))) ∧ V 14 = some (.inl (G.2.2.1.1, 16, .inl (f 3))) ∧ V 15 = some (.inl (G.2.2.1.1, 16, .inl (f 4))) ∧ V 16 = some (.inl (G.2.2.1.1, 16, .inl (f 5))) ∧ V 17 = some (.inl (G.2.2.1.2, 16, .inl (f 6))) ∧ V 18 = some (.inl (G.2.2.1.2, 365, .inl (f 7))) ∧ V 19 = some (.inl (G.2.2.1.1, 12, .inl (f 8))) ∧ V 20 = some (.inl (G.2.2.1.1, 80, .inl (f 9))) ∧ V 21 = some (.inl (G.2.2.1.1, 80, .inl (f 10))) ∧ V 22 = some (.inl (G.2.2.1.1, 80, .inl (f 11))) ∧ V 23 = some (.inl (G.2.2.1.1, 80, .inl (f 12))) ∧ V 24 = some (.inl (G.2.2.1.2, 80, .inl (f 13)))
/-- what the numbers keep to -/
def mwf (f : sT) (nr nw ns : Nat) : Prop := (nr ≤ 16 ∧ nw ≤ 12 ∧ ns ≤ 80) ∧ (∀ s, s < ns → (∃ w, w < nw ∧ f 9 s = nI w) ∧ (∃ a, a < 34848 ∧ f 10 s = nI a) ∧ (∃ n, 1 ≤ n ∧ n ≤ 64 ∧ f 11 s = nI n) ∧ (∃ t, t ≤ 5 ∧ f 12 s = nI t) ∧ (f 13 s = 0 ∨ f 13 s = 1)) ∧ (∀ w, w < nw → ∃ r, r < 4 ∧ f 8 w = nI r) ∧ (∀ k, k < nr → f 6 k = 0 ∨ f 6 k = 1) ∧ (∀ d, f 7 d = 0 ∨ f 7 d = 1)
theorem s_R0n (x y : Int32) : s_R0 none x y = if x ≤ 100 then -1 else if x = y then -2 else -1 := rfl
/-- the quarters of a shift between lo and hi -/
def s_fi (f : sT) (lo : Int32) (k : Nat) : Int32 := if f 10 k ≤ lo then lo else f 10 k
def s_en (f : sT) (hi : Int32) (k : Nat) : Int32 := if hi ≤ f 10 k + f 11 k then hi else f 10 k + f 11 k
def s_h1 (f : sT) (x lo hi : Int32) (k : Nat) : Int32 := if f 13 k = 0 then (if f 9 k = x then (if s_en f hi k ≤ s_fi f lo k then 0 else s_en f hi k - s_fi f lo k) else 0) else 0
def s_hr (f : sT) (x lo hi : Int32) : Nat → Int32
  | 0 => 0
  | k + 1 => s_hr f x lo hi k + s_h1 f x lo hi k
