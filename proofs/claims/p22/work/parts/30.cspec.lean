/-! the class's cells -/
def mLs (G : mG) (V : mV) (α : Nat → Nat) (i n base : Nat) : Prop := ∃ (md : Int32) (cap : Nat) (row : Nat → Option Nat), n ≤ cap ∧ cap ≤ 200 ∧ (∀ c, cap < c → V (400 + 3 * c + i) = none) ∧
  ((n = 0 ∧ cap = 0 ∧ V i = some (.inr (0, [.int md, .ref G.1.2, .int (nI n)]))) ∨
   (2 ≤ cap ∧ V i = some (.inr (0, [.int md, .ref (α (400 + 3 * cap + i)), .int (nI n)])) ∧ V (400 + 3 * cap + i) = some (.inl (G.2.2.2.1, cap, .inr (.inr (.inr (.inr row))))) ∧ ∀ k, k < n → row k = some (α (base + k))))
theorem mLs.obj {G : mG} {V : mV} {α : Nat → Nat} {i n base : Nat} (h : mLs G V α i n base) : ∃ (md : Int32) (ed : Nat), V i = some (.inr (0, [.int md, .ref ed, .int (nI n)])) := by
  obtain ⟨md, cap, row, -, -, -, ⟨h1, h2, h3⟩ | ⟨h1, h2, h3, h4⟩⟩ := h
  · exact ⟨md, _, h3⟩
  · exact ⟨md, _, h2⟩
abbrev cobj (α : Nat → Nat) : va_E := .inr (4, [.ref (α 1), .ref (α 2), .ref (α 3), .ref (α 4), .ref (α 5)])
abbrev robj (f : sT) (k : Nat) : va_E := .inr (1, [.int (nI k), .int (f 1 k), .int (f 2 k), .int (f 3 k), .int (f 4 k), .int (f 5 k), .int (1 - f 6 k)])
abbrev wobj (f : sT) (w : Nat) : va_E := .inr (3, [.int (f 8 w)])
abbrev sobj (α : Nat → Nat) (f : sT) (k : Nat) : va_E := .inr (2, [.ref (α (200 + wN f k)), .int (f 10 k), .int (f 11 k), .int (f 12 k), .int (f 13 k)])
def mC (G : mG) (V : mV) (α : Nat → Nat) (f : sT) (nr nw ns : Nat) : Prop :=
  V 0 = some (cobj α) ∧ V 1 = some (.inl (G.2.2.1.1, 4, .inl (f 0))) ∧ V 2 = some (.inl (G.2.2.1.2, 364, .inl (f 7))) ∧ mLs G V α 3 nr 100 ∧ mLs G V α 4 nw 200 ∧ mLs G V α 5 ns 300 ∧
  (∀ k, k < nr → V (100 + k) = some (robj f k)) ∧ (∀ w, w < nw → V (200 + w) = some (wobj f w)) ∧ (∀ k, k < ns → V (300 + k) = some (sobj α f k)) ∧
  (∀ k, nr ≤ k → k < 16 → V (100 + k) = none) ∧ (∀ k, nw ≤ k → k < 12 → V (200 + k) = none) ∧ (∀ k, ns ≤ k → k < 80 → V (300 + k) = none)
/-- the deciding rule among the first rules -/
def s_D (f : sT) (w a q : Nat) : Nat → Option Nat
  | 0 => none
  | k + 1 => if (s_P f w a q k < f 5 k ∨ (f 5 k = s_P f w a q k ∧ s_D f w a q k = none)) ∧ s_ap f k (a + q) (f 8 w) then some k else s_D f w a q k
abbrev s_due (f : sT) (w a q k : Nat) : Prop := s_P f w a q k < f 5 k ∨ (f 5 k = s_P f w a q k ∧ s_D f w a q k = none)
theorem s_D_s (f : sT) (w a q k : Nat) : s_D f w a q (k + 1) = if s_due f w a q k ∧ s_ap f k (a + q) (f 8 w) then some k else s_D f w a q k := rfl
theorem s_P_s (f : sT) (w a q k : Nat) : s_P f w a q (k + 1) = if ¬ f 5 k ≤ s_P f w a q k ∧ s_ap f k (a + q) (f 8 w) then f 5 k else s_P f w a q k := rfl
theorem s_D_hit {f : sT} {w a q k : Nat} (h : s_due f w a q k) (h2 : s_ap f k (a + q) (f 8 w)) : s_D f w a q (k + 1) = some k := by rw [s_D_s, if_pos ⟨h, h2⟩]
theorem s_D_miss {f : sT} {w a q k : Nat} (h : ¬ (s_due f w a q k ∧ s_ap f k (a + q) (f 8 w))) : s_D f w a q (k + 1) = s_D f w a q k := by rw [s_D_s, if_neg h]
theorem s_P_hit {f : sT} {w a q k : Nat} (h : s_due f w a q k) (h2 : s_ap f k (a + q) (f 8 w)) : s_P f w a q (k + 1) = f 5 k := by
  rw [s_P_s]
  rcases h with h | ⟨h, -⟩
  · rw [if_pos ⟨Int32.not_le.mpr h, h2⟩]
  · by_cases c : ¬ f 5 k ≤ s_P f w a q k ∧ s_ap f k (a + q) (f 8 w)
    · rw [if_pos c]
    · rw [if_neg c]; exact h.symm
theorem s_P_miss {f : sT} {w a q k : Nat} (h : ¬ (s_due f w a q k ∧ s_ap f k (a + q) (f 8 w))) : s_P f w a q (k + 1) = s_P f w a q k := by
  rw [s_P_s, if_neg]
  intro c
  exact h ⟨Or.inl (Int32.not_le.mp c.1), c.2⟩
theorem s_D_lt {f : sT} {w a q : Nat} : ∀ {n k : Nat}, s_D f w a q n = some k → k < n
  | 0, k, h => by cases h
  | n + 1, k, h => by
    by_cases c : s_due f w a q n ∧ s_ap f n (a + q) (f 8 w)
    · rw [s_D_hit c.1 c.2] at h
      cases h
      omega
    · rw [s_D_miss c] at h
      have := s_D_lt h
      omega
/-- none decides: the percentage is overtime's, and nobody has it; one decides: it is the first that has it -/
theorem s_D_key (f : sT) (w a q : Nat) : ∀ n : Nat, (s_D f w a q n = none → s_P f w a q n = s_ovt (nI q) ∧ s_G f w a q (s_P f w a q n) n = none) ∧ (∀ k, s_D f w a q n = some k → f 5 k = s_P f w a q n ∧ s_G f w a q (s_P f w a q n) n = some k) ∧ (∀ x, s_P f w a q n < x → s_G f w a q x n = none)
  | 0 => ⟨fun _ => ⟨rfl, rfl⟩, fun k h => (by cases h), fun _ _ => rfl⟩
  | n + 1 => by
    obtain ⟨i1, i2, i3⟩ := s_D_key f w a q n
    by_cases c : s_due f w a q n ∧ s_ap f n (a + q) (f 8 w)
    · have eD := s_D_hit c.1 c.2
      have eP := s_P_hit c.1 c.2
      have eG : s_G f w a q (f 5 n) n = none := by
        rcases c.1 with h | ⟨h, hn⟩
        · exact i3 _ h
        · rw [h]; exact (i1 hn).2
      refine ⟨fun h => (by rw [eD] at h; cases h), fun k h => ?_, fun x hx => ?_⟩
      · rw [eD] at h
        cases h
        rw [eP]
        exact ⟨rfl, s_G_hit eG ⟨rfl, c.2⟩⟩
      · rw [eP] at hx
        have h0 : s_P f w a q n < x := by
          rcases c.1 with h | ⟨h, -⟩
          · exact Int32.lt_trans h hx
          · rw [← h]; exact hx
        exact s_G_miss (i3 x h0) (fun z => absurd hx (by rw [z.1]; exact Int32.lt_irrefl))
    · have eD := s_D_miss c
      have eP := s_P_miss c
      refine ⟨fun h => ?_, fun k h => ?_, fun x hx => ?_⟩
      · rw [eD] at h
        rw [eP]
        refine ⟨(i1 h).1, s_G_miss (i1 h).2 (fun z => c ⟨Or.inr ⟨z.1, h⟩, z.2⟩)⟩
      · rw [eD] at h
        rw [eP]
        exact ⟨(i2 k h).1, s_G_le (i2 k h).2 (by omega)⟩
      · rw [eP] at hx
        refine s_G_miss (i3 x hx) (fun z => c ⟨Or.inl (by rw [z.1]; exact hx), z.2⟩)
theorem s_ovt_100 (x : Int32) (h : x < 32) : s_ovt x = 100 := by
  have h4 : x < 40 := Int32.lt_trans h (by decide)
  unfold s_ovt
  rw [if_pos h4, if_pos h]
theorem s_ovt_n100 (x : Int32) (h : ¬ x < 32) : ¬ s_ovt x ≤ 100 := by
  unfold s_ovt
  by_cases h4 : x < 40
  · rw [if_pos h4, if_neg h]; decide
  · rw [if_neg h4]; decide
theorem s_R_some {f : sT} {nr w a q k : Nat} (h : s_D f w a q nr = some k) : s_R f nr w a q = nI k := by
  unfold s_R
  rw [((s_D_key f w a q nr).2.1 k h).2]
  rfl
theorem s_R_none {f : sT} {nr w a q : Nat} (h : s_D f w a q nr = none) : s_R f nr w a q = if nI q < 32 then -1 else -2 := by
  obtain ⟨e1, e2⟩ := (s_D_key f w a q nr).1 h
  unfold s_R
  rw [e2, s_R0n, e1]
  by_cases c : nI q < 32
  · rw [if_pos c, s_ovt_100 _ c]; rfl
  · rw [if_neg c, if_neg (s_ovt_n100 _ c), if_pos rfl]
theorem s_paid_mx {f : sT} {s : Nat} (h : f 13 s = 0) : (if f 11 s < 12 then 12 else f 11 s) = s_paid f s := by
  unfold s_paid
  rw [if_pos h]
  by_cases c : f 11 s < 12
  · rw [if_pos c, if_neg (fun z => absurd (Int32.lt_of_le_of_lt z c) Int32.lt_irrefl)]
  · rw [if_neg c, if_pos (Int32.not_lt.mp c)]
theorem s_owed_N (x : Int32) : s_owed x = 0 ∨ s_owed x = 1 ∨ s_owed x = 2 := by
  unfold s_owed
  by_cases h : x < 40
  · rw [if_pos h]
    by_cases h2 : x < 20
    · rw [if_pos h2]; exact Or.inl rfl
    · rw [if_neg h2]; exact Or.inr (Or.inl rfl)
  · rw [if_neg h]; exact Or.inr (Or.inr rfl)
theorem s_lacks_mx {f : sT} {s t : Nat} (h : f 13 s = 0) (h12 : f 12 s = nI t) (ht : t ≤ 5) : (if s_owed (f 11 s) - f 12 s < 0 then 0 else s_owed (f 11 s) - f 12 s) = s_lacks f s := by
  unfold s_lacks
  rw [if_pos h, h12]
  have ht2 : t = 0 ∨ t = 1 ∨ t = 2 ∨ t = 3 ∨ t = 4 ∨ t = 5 := by omega
  rcases s_owed_N (f 11 s) with e | e | e <;> rw [e] <;> rcases ht2 with h | h | h | h | h | h <;> subst h <;> decide
theorem on_ne {x : Int32} (h : 1 - x = 0) (h0 : x = 0) : False := by rw [h0] at h; exact absurd h (by decide)
theorem on_eq {x : Int32} (h01 : x = 0 ∨ x = 1) (h : ¬ 1 - x = 0) : x = 0 := h01.resolve_right (fun z => h (by rw [z]; decide))
theorem s_on_01 {f : sT} {k d : Nat} (h7 : f 7 d = 0 ∨ f 7 d = 1) : s_on f k d = 0 ∨ s_on f k d = 1 := by
  unfold s_on
  by_cases h : f 1 k = 0
  · rw [if_pos h]; exact h7
  · rw [if_neg h]
    by_cases c : (f 1 k >>> ((nI d - nI d / 7 * 7) &&& 31)) &&& 1 = 1
    · exact Or.inr (bI_t c)
    · exact Or.inl (bI_f c)
def s_own (f : sT) (s : Nat) (lo hi : Int32) : Int32 := (if ((if hi < f 10 s + f 11 s then hi else f 10 s + f 11 s) - (if f 10 s < lo then lo else f 10 s)) < 0 then 0 else ((if hi < f 10 s + f 11 s then hi else f 10 s + f 11 s) - (if f 10 s < lo then lo else f 10 s)))
def s_wb (f : sT) (x : Nat) (lo hi : Int32) : Nat → Int32
  | 0 => 0
  | k + 1 => if wN f k = x ∧ f 13 k = 0 then s_wb f x lo hi k + s_own f k lo hi else s_wb f x lo hi k
theorem s_pbI_add (f : sT) (nr : Nat) (x : Int32) (s : Nat) (S0 : Int32) : ∀ n, s_pbI f nr x s S0 n = S0 + s_pbI f nr x s 0 n
  | 0 => (Int32.add_zero S0).symm
  | n + 1 => by
    show s_pbI f nr x s S0 n + s_pb1 f nr x s n = S0 + (s_pbI f nr x s 0 n + s_pb1 f nr x s n)
    rw [s_pbI_add f nr x s S0 n, Int32.add_assoc]
