/-! what the drawn roster's numbers are -/
theorem ushr8 (x : Int32) : ∃ X, X < 2 ^ 24 ∧ (x.toUInt32 >>> ((8 : Int32).toUInt32 &&& Int32.toUInt32 31)).toInt32 = nI X := by
  have hx : x.toBitVec.toNat < 2 ^ 32 := x.toBitVec.isLt
  refine ⟨x.toBitVec.toNat / 2 ^ 8, by omega, ?_⟩
  apply Int32.toBitVec_inj.mp
  apply BitVec.eq_of_toNat_eq
  rw [pk_ushr x 8 8 (by decide), pk_tn (by omega)]
def lI (f : sT) (k : Nat) : Prop := (∀ r, r < 4 → f 0 r = 500) ∧ (∀ j, j < k → ∃ q, 100 ≤ q ∧ q ≤ 400 ∧ f 5 j = nI q) ∧ (∀ j, j < k → ∃ a n, f 10 j = nI a ∧ f 11 j = nI n ∧ a < 34848 ∧ n ≤ 64 ∧ a + n ≤ 288 * k)
theorem own0 {f : sT} {j a n L U : Nat} (h10 : f 10 j = nI a) (h11 : f 11 j = nI n) (ha : a < 34848) (hn : n ≤ 64) (hL : L < 2 ^ 30) (hU : U < 2 ^ 30) (h : a + n ≤ L) : s_own f j (nI L) (nI U) = 0 := by
  rw [own_N h10 h11 ha hn hL hU, show min (a + n) U - max a L = 0 by omega]
  rfl
theorem wb0 {f : sT} {x : Nat} {lo hi : Int32} : ∀ n, (∀ j, j < n → s_own f j lo hi = 0) → s_wb f x lo hi n = 0
  | 0, _ => rfl
  | n + 1, h => by
    have ih := wb0 (x := x) n (fun j hj => h j (by omega))
    show (if wN f n = x ∧ f 13 n = 0 then s_wb f x lo hi n + s_own f n lo hi else s_wb f x lo hi n) = 0
    rw [ih, h n (by omega)]
    by_cases c : wN f n = x ∧ f 13 n = 0
    · rw [if_pos c]; rfl
    · rw [if_neg c]
theorem ovt_N (x : Int32) : ∃ q, 100 ≤ q ∧ q ≤ 400 ∧ s_ovt x = nI q := by
  unfold s_ovt
  by_cases h : x < 40
  · rw [if_pos h]
    by_cases h2 : x < 32
    · rw [if_pos h2]; exact ⟨100, by omega, by omega, rfl⟩
    · rw [if_neg h2]; exact ⟨150, by omega, by omega, rfl⟩
  · rw [if_neg h]; exact ⟨200, by omega, by omega, rfl⟩
theorem sP_N {f : sT} {w a q : Nat} : ∀ n, (∀ j, j < n → ∃ z, 100 ≤ z ∧ z ≤ 400 ∧ f 5 j = nI z) → ∃ z, 100 ≤ z ∧ z ≤ 400 ∧ s_P f w a q n = nI z
  | 0, _ => ovt_N (nI q)
  | n + 1, h => by
    rw [s_P_s]
    by_cases c : ¬ f 5 n ≤ s_P f w a q n ∧ s_ap f n (a + q) (f 8 w)
    · rw [if_pos c]; exact h n (by omega)
    · rw [if_neg c]; exact sP_N n (fun j hj => h j (by omega))
theorem lacks_N {f : sT} {s : Nat} (h12 : f 12 s = 0) (h13 : f 13 s = 0) : ∃ l, l ≤ 2 ∧ s_lacks f s = nI l := by
  unfold s_lacks
  rw [if_pos h13, h12]
  rcases s_owed_N (f 11 s) with e | e | e <;> rw [e]
  · exact ⟨0, by omega, by decide⟩
  · exact ⟨1, by omega, by decide⟩
  · exact ⟨2, by omega, by decide⟩
theorem sum_N {f : sT} {nr s w a r l : Nat} (h0 : f 0 r = 500) (hl : s_lacks f s = nI l) (hl2 : l ≤ 2) (h5 : ∀ j, j < nr → ∃ z, 100 ≤ z ∧ z ≤ 400 ∧ f 5 j = nI z) : ∀ n, n ≤ 64 → ∃ S, 500 * n ≤ S ∧ S ≤ 2000 + 2000 * n ∧ s_sum f nr s w a r n = nI S
  | 0, _ => by
    refine ⟨2 * l * 500, by omega, by omega, ?_⟩
    show 2 * s_lacks f s * f 0 r = _
    rw [hl, h0, show (2 : Int32) * nI l = nI (2 * l) from pk_mul 2 l]
    exact pk_mul (2 * l) 500
  | n + 1, hn => by
    obtain ⟨S, h1, h2, h3⟩ := sum_N h0 hl hl2 h5 n (by omega)
    obtain ⟨z, z1, z2, z3⟩ := sP_N (f := f) (w := w) (a := a) (q := n) nr h5
    refine ⟨S + 500 * z / 100, by omega, by omega, ?_⟩
    show s_sum f nr s w a r n + s_amt f nr w a r n = _
    unfold s_amt
    rw [h3, h0, z3, show (500 : Int32) * nI z = nI (500 * z) from pk_mul 500 z, show nI (500 * z) / (100 : Int32) = nI (500 * z / 100) from mdiv (by omega) 100 (by omega) (by omega), nI_add]
/-- the quarters that are paid, and the pay, of the shift that was added last -/
theorem new_paid {f : sT} {nr nw ns k : Nat} (hwf : mwf f nr nw ns) (hk : k < ns) (h12 : f 12 k = 0) (h13 : f 13 k = 0) (h0 : ∀ r, r < 4 → f 0 r = 500) (h5 : ∀ j, j < nr → ∃ z, 100 ≤ z ∧ z ≤ 400 ∧ f 5 j = nI z) : ∃ P S, 12 ≤ P ∧ P ≤ 64 ∧ s_paid f k = nI P ∧ 500 * P ≤ S ∧ S < 2 ^ 30 ∧ s_pay f nr k = nI S := by
  obtain ⟨-, -, -, -, hr, -, hp, ep⟩ := hwf.sh k hk
  obtain ⟨l, l1, l2⟩ := lacks_N h12 h13
  obtain ⟨S, s1, s2, s3⟩ := sum_N (nr := nr) (w := wN f k) (a := aN f k) (h0 _ hr) l2 l1 h5 (pN f k) hp
  refine ⟨pN f k, S, ?_, hp, ep, s1, by omega, s3⟩
  obtain ⟨-, ⟨n, n1, n2, e11⟩, -⟩ := (hwf.2.1 k hk).2
  have h : s_paid f k = nI (max 12 n) := by
    unfold s_paid
    rw [if_pos h13, e11]
    by_cases c : (12 : Int32) ≤ nI n
    · rw [if_pos c]
      have : ¬ n < 12 := fun z => Int32.lt_irrefl (Int32.lt_of_lt_of_le ((nI_ltI (a := n) (b := 12) (by omega) (by omega)).mpr z) c)
      rw [show max 12 n = n by omega]
    · rw [if_neg c]
      have : ¬ 12 ≤ n := fun z => c (nI_le (a := 12) z (by omega))
      rw [show max 12 n = 12 by omega]
      rfl
  have : pN f k = max 12 n := by
    have e := ep.symm.trans h
    exact (nI_eq (by omega) (by omega)).mp e
  omega
abbrev lF (f : sT) (k x1 x2 x3 x4 x5 : Nat) : sT := u2 (u2 (u2 (u2 (u2 f 1 k (nI x1)) 2 k (nI x2)) 3 k (nI x3)) 4 k (nI x4)) 5 k (nI x5)
abbrev lG (f : sT) (k a n : Nat) : sT := u2 (u2 (u2 f 9 k (nI 0)) 10 k (nI a)) 11 k (nI n)
theorem lF_n (f : sT) (k x1 x2 x3 x4 x5 : Nat) {i : Nat} (h : i = 0 ∨ 6 ≤ i) : lF f k x1 x2 x3 x4 x5 i = f i := by
  unfold lF
  rw [u2_n _ _ _ _ (by omega), u2_n _ _ _ _ (by omega), u2_n _ _ _ _ (by omega), u2_n _ _ _ _ (by omega), u2_n _ _ _ _ (by omega)]
theorem lF_5 (f : sT) (k x1 x2 x3 x4 x5 j : Nat) : lF f k x1 x2 x3 x4 x5 5 j = if j = k then nI x5 else f 5 j := by
  unfold lF
  rw [u2_s, u2_n _ _ _ _ (by omega), u2_n _ _ _ _ (by omega), u2_n _ _ _ _ (by omega), u2_n _ _ _ _ (by omega)]
  rfl
theorem lG_n (f : sT) (k a n : Nat) {i : Nat} (h : i < 9 ∨ 12 ≤ i) : lG f k a n i = f i := by
  unfold lG
  rw [u2_n _ _ _ _ (by omega), u2_n _ _ _ _ (by omega), u2_n _ _ _ _ (by omega)]
theorem lG_10 (f : sT) (k a n j : Nat) : lG f k a n 10 j = if j = k then nI a else f 10 j := by
  unfold lG
  rw [u2_n _ _ _ _ (by omega), u2_s, u2_n _ _ _ _ (by omega)]
  rfl
theorem lG_11 (f : sT) (k a n j : Nat) : lG f k a n 11 j = if j = k then nI n else f 11 j := by
  unfold lG
  rw [u2_s, u2_n _ _ _ _ (by omega), u2_n _ _ _ _ (by omega)]
  rfl
theorem lI_next {f : sT} {k x1 x2 x3 x4 x5 a n : Nat} (h : lI f k) (h5 : 100 ≤ x5) (h5b : x5 ≤ 400) (ha : a < 34848) (hn : n ≤ 64) (han : a + n ≤ 288 * (k + 1)) : lI (lG (lF f k x1 x2 x3 x4 x5) k a n) (k + 1) := by
  obtain ⟨i0, i5, i10⟩ := h
  refine ⟨fun r hr => ?_, fun j hj => ?_, fun j hj => ?_⟩
  · rw [lG_n _ _ _ _ (by omega), lF_n _ _ _ _ _ _ _ (by omega)]; exact i0 r hr
  · rw [lG_n _ _ _ _ (by omega), lF_5]
    by_cases c : j = k
    · rw [if_pos c]; exact ⟨x5, h5, h5b, rfl⟩
    · rw [if_neg c]; exact i5 j (by omega)
  · rw [lG_10, lG_11]
    by_cases c : j = k
    · rw [if_pos c, if_pos c]; exact ⟨a, n, rfl, rfl, ha, hn, han⟩
    · rw [if_neg c, if_neg c, lF_n _ _ _ _ _ _ _ (by omega), lF_n _ _ _ _ _ _ _ (by omega)]
      obtain ⟨a1, n1, e1, e2, e3, e4, e5⟩ := i10 j (by omega)
      exact ⟨a1, n1, e1, e2, e3, e4, by omega⟩
theorem l_ov {f : sT} {k x1 x2 x3 x4 x5 L U : Nat} (h : lI f k) (hL : 288 * k ≤ L) (hL2 : L < 2 ^ 30) (hU : U < 2 ^ 30) : ¬ 0 < s_wb (lF f k x1 x2 x3 x4 x5) 0 (nI L) (nI U) k := by
  rw [wb0 k (fun j hj => by
    obtain ⟨a1, n1, e1, e2, e3, e4, e5⟩ := h.2.2 j hj
    exact own0 (by rw [lF_n _ _ _ _ _ _ _ (by omega)]; exact e1) (by rw [lF_n _ _ _ _ _ _ _ (by omega)]; exact e2) e3 e4 hL2 hU (by omega))]
  decide
