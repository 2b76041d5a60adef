theorem pbI_none {f : sT} {nr s : Nat} {x S0 : Int32} : ∀ n, (∀ i, i < n → ¬ s_R f nr (wN f s) (aN f s) i = x) → s_pbI f nr x s S0 n = S0
  | 0, _ => rfl
  | n + 1, h => by
    show s_pbI f nr x s S0 n + s_pb1 f nr x s n = S0
    unfold s_pb1
    rw [pbI_none n (fun i hi => h i (by omega)), if_neg (h n (by omega)), Int32.add_zero]
theorem pb_none {f : sT} {nr : Nat} {x : Int32} : ∀ n, (∀ s, s < n → ∀ i, i < pN f s → ¬ s_R f nr (wN f s) (aN f s) i = x) → s_pb f nr x n = 0
  | 0, _ => rfl
  | n + 1, h => by
    show s_pbI f nr x n (s_pb f nr x n) (pN f n) = 0
    rw [pbI_none _ (h n (by omega)), pb_none n (fun s hs => h s (by omega))]
/-- a rule before one that applies where it does, with more percent, is never the reason -/
theorem sR14 {f : sT} {w a q : Nat} (h5 : f 5 14 < f 5 15) (e1 : f 1 14 = f 1 15) (e2 : f 2 14 = f 2 15) (e3 : f 3 14 = f 3 15) (e4 : f 4 14 = f 4 15) (e6 : f 6 14 = f 6 15) : ¬ s_R f 16 w a q = nI 14 := by
  intro h
  cases hD : s_D f w a q 16 with
  | none =>
    rw [s_R_none hD] at h
    by_cases c : nI q < 32
    · rw [if_pos c] at h; exact absurd h (by decide)
    · rw [if_neg c] at h; exact absurd h (by decide)
  | some k =>
    rw [s_R_some hD] at h
    have hk : k < 16 := s_D_lt hD
    obtain rfl : k = 14 := (nI_eq (by omega) (by omega)).mp h
    have e := s_D_s f w a q 15
    rw [hD] at e
    by_cases c : s_due f w a q 15 ∧ s_ap f 15 (a + q) (f 8 w)
    · rw [if_pos c] at e
      exact absurd (Option.some.inj e) (by decide)
    · rw [if_neg c] at e
      have e9 := s_D_s f w a q 14
      by_cases c2 : s_due f w a q 14 ∧ s_ap f 14 (a + q) (f 8 w)
      · refine c ⟨Or.inl ?_, ?_⟩
        · rw [s_P_hit c2.1 c2.2]; exact h5
        · obtain ⟨a1, a2, a3, a4, a5⟩ := c2.2
          refine ⟨?_, by rw [← e6]; exact a2, by rw [← e4]; exact a3, by rw [← e2]; exact a4, by rw [← e3]; exact a5⟩
          unfold s_on at a1 ⊢
          rw [← e1]
          exact a1
      · rw [if_neg c2] at e9
        have := s_D_lt (e9.symm.trans e.symm)
        omega
