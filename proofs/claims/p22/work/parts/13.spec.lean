theorem z1_sub {b : Int32} (h : b = 0 ∨ b = 1) : 1 - b = 0 ∨ 1 - b = 1 := by
  rcases h with h | h <;> subst h
  · exact Or.inr (by decide)
  · exact Or.inl (by decide)
theorem nI_ne {a : Nat} (b : Nat) (ha : a < 2 ^ 31) (hb : b < 2 ^ 31) (h : a ≠ b) : ¬ nI a = nI b := fun z => h ((nI_eq ha hb).mp z)
def wN (f : sT) (s : Nat) : Nat := (f 9 s).toNatClampNeg
def aN (f : sT) (s : Nat) : Nat := (f 10 s).toNatClampNeg
def rN (f : sT) (w : Nat) : Nat := (f 8 w).toNatClampNeg
def pN (f : sT) (s : Nat) : Nat := (s_paid f s).toNatClampNeg
theorem nI_self {x : Int32} {n : Nat} (h : x = nI n) (hn : n < 2 ^ 31) : x = nI x.toNatClampNeg ∧ x.toNatClampNeg = n := by
  subst h
  rw [nI_clamp hn]
  exact ⟨rfl, rfl⟩
theorem s_paid_N {f : sT} {s n : Nat} (h11 : f 11 s = nI n) (hn : n ≤ 64) : ∃ k, k ≤ 64 ∧ s_paid f s = nI k := by
  unfold s_paid
  by_cases h : f 13 s = 0
  · rw [if_pos h, h11]
    by_cases h2 : (12 : Int32) ≤ nI n
    · rw [if_pos h2]; exact ⟨n, hn, rfl⟩
    · rw [if_neg h2]; exact ⟨12, by omega, rfl⟩
  · rw [if_neg h]; exact ⟨0, by omega, rfl⟩
theorem mwf.sh {f : sT} {nr nw ns : Nat} (h : mwf f nr nw ns) (s : Nat) (hs : s < ns) : (wN f s < nw ∧ wN f s < 12) ∧ f 9 s = nI (wN f s) ∧ aN f s < 34848 ∧ f 10 s = nI (aN f s) ∧ rN f (wN f s) < 4 ∧ f 8 (wN f s) = nI (rN f (wN f s)) ∧ pN f s ≤ 64 ∧ s_paid f s = nI (pN f s) := by
  obtain ⟨⟨h1, h2, h3⟩, hsh, hrk, -⟩ := h
  obtain ⟨⟨w, hw, e9⟩, ⟨a, ha, e10⟩, ⟨n, hn1, hn2, e11⟩, -⟩ := hsh s hs
  obtain ⟨e9a, e9b⟩ := nI_self e9 (by omega)
  obtain ⟨e10a, e10b⟩ := nI_self e10 (by omega)
  obtain ⟨r, hr, e8⟩ := hrk w hw
  obtain ⟨e8a, e8b⟩ := nI_self e8 (by omega)
  obtain ⟨k, hk, ep⟩ := s_paid_N e11 hn2
  obtain ⟨epa, epb⟩ := nI_self ep (by omega)
  have ew : wN f s = w := e9b
  have ea : aN f s = a := e10b
  have er : rN f (wN f s) = r := by rw [ew]; exact e8b
  have ek : pN f s = k := epb
  refine ⟨⟨by omega, by omega⟩, e9a, by omega, e10a, by omega, ?_, by omega, epa⟩
  rw [ew]
  exact e8a
def s_pay (f : sT) (nr s : Nat) : Int32 := s_sum f nr s (wN f s) (aN f s) (rN f (wN f s)) (pN f s)
def s_po1 (f : sT) (nr : Nat) (x lo hi : Int32) (k : Nat) : Int32 := if f 9 k = x then (if inn (f 10 k / 96) lo hi then s_pay f nr k else 0) else 0
def s_po (f : sT) (nr : Nat) (x lo hi : Int32) : Nat → Int32
  | 0 => 0
  | k + 1 => s_po f nr x lo hi k + s_po1 f nr x lo hi k
def s_pb1 (f : sT) (nr : Nat) (x : Int32) (s i : Nat) : Int32 := if s_R f nr (wN f s) (aN f s) i = x then s_amt f nr (wN f s) (aN f s) (rN f (wN f s)) i else 0
def s_pbI (f : sT) (nr : Nat) (x : Int32) (s : Nat) (S0 : Int32) : Nat → Int32
  | 0 => S0
  | i + 1 => s_pbI f nr x s S0 i + s_pb1 f nr x s i
def s_pb (f : sT) (nr : Nat) (x : Int32) : Nat → Int32
  | 0 => 0
  | k + 1 => s_pbI f nr x k (s_pb f nr x k) (pN f k)
def s_ex (v : Int32) : Int32 := if v ≤ 0 then 0 else v
abbrev s_over (f : sT) (x its ln : Int32) (k : Nat) : Prop := f 13 k = 0 ∧ f 9 k = x ∧ ¬ f 10 k + f 11 k ≤ its ∧ ¬ its + ln ≤ f 10 k
def s_ov (f : sT) (n : Nat) (x its ln : Int32) : Nat → Int32
  | 0 => if n = 80 then 3 else 0
  | k + 1 => if s_over f x its ln k then 3 else s_ov f n x its ln k
