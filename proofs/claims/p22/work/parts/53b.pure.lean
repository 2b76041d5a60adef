/-! the two sides say the same -/
theorem sub_mx {x y : Nat} (hx : x < 2 ^ 30) (hy : y < 2 ^ 30) : (if nI x - nI y < 0 then 0 else nI x - nI y) = nI (x - y) := by
  by_cases c : x < y
  · rw [if_pos (pk_sneg hy c), show x - y = 0 by omega]
    exact nI_0.symm
  · rw [pk_sub (by omega), if_neg (nI_pos (by omega))]
theorem sub_lez {x y : Nat} (hx : x < 2 ^ 30) (hy : y < 2 ^ 30) : (if nI x ≤ nI y then 0 else nI x - nI y) = nI (x - y) := by
  by_cases c : x ≤ y
  · rw [if_pos (nI_le c (by omega)), show x - y = 0 by omega]
    exact nI_0.symm
  · rw [if_neg (nI_ge (by omega) (by omega)), pk_sub (by omega)]
theorem mn_lt {x y : Nat} (hx : x < 2 ^ 30) (hy : y < 2 ^ 30) : (if nI y < nI x then nI y else nI x) = nI (min x y) := by
  by_cases c : y < x
  · rw [if_pos (nI_lt c (by omega)), show min x y = y by omega]
  · rw [if_neg (nI_nlt (by omega) (by omega)), show min x y = x by omega]
theorem mx_lt {x y : Nat} (hx : x < 2 ^ 30) (hy : y < 2 ^ 30) : (if nI x < nI y then nI y else nI x) = nI (max x y) := by
  by_cases c : x < y
  · rw [if_pos (nI_lt c (by omega)), show max x y = y by omega]
  · rw [if_neg (nI_nlt (by omega) (by omega)), show max x y = x by omega]
theorem mn_le {x y : Nat} (hx : x < 2 ^ 30) (hy : y < 2 ^ 30) : (if nI y ≤ nI x then nI y else nI x) = nI (min x y) := by
  by_cases c : y ≤ x
  · rw [if_pos (nI_le c (by omega)), show min x y = y by omega]
  · rw [if_neg (nI_ge (by omega) (by omega)), show min x y = x by omega]
theorem mx_le {x y : Nat} (hx : x < 2 ^ 30) (hy : y < 2 ^ 30) : (if nI x ≤ nI y then nI y else nI x) = nI (max x y) := by
  by_cases c : x ≤ y
  · rw [if_pos (nI_le c (by omega)), show max x y = y by omega]
  · rw [if_neg (nI_ge (by omega) (by omega)), show max x y = x by omega]
theorem own_N {f : sT} {s a n L U : Nat} (h10 : f 10 s = nI a) (h11 : f 11 s = nI n) (ha : a < 34848) (hn : n ≤ 64) (hL : L < 2 ^ 30) (hU : U < 2 ^ 30) : s_own f s (nI L) (nI U) = nI (min (a + n) U - max a L) := by
  unfold s_own
  rw [h10, h11, nI_add, mn_lt (by omega) hU, mx_lt (by omega) hL, sub_mx (by omega) (by omega)]
theorem mwf.cg {f f' : sT} {nr nw ns : Nat} (h : mwf f nr nw ns) (e : ∀ j, 6 ≤ j → j ≤ 13 → f' j = f j) : mwf f' nr nw ns := by
  obtain ⟨h0, h1, h2, h3, h4, h5, h6⟩ := h
  refine ⟨h0, ?_, ?_, ?_, ?_, ?_, ?_⟩
  · rw [e 9 (by omega) (by omega), e 10 (by omega) (by omega), e 11 (by omega) (by omega), e 12 (by omega) (by omega), e 13 (by omega) (by omega)]; exact h1
  · rw [e 8 (by omega) (by omega)]; exact h2
  · rw [e 6 (by omega) (by omega)]; exact h3
  · rw [e 7 (by omega) (by omega)]; exact h4
  · rw [e 6 (by omega) (by omega)]; exact h5
  · rw [e 12 (by omega) (by omega), e 13 (by omega) (by omega)]; exact h6
theorem wf_base {f : sT} {nr nw ns : Nat} (h : mwf f nr nw ns) (k : Nat) (x : Int32) : mwf (u2 f 0 k x) nr nw ns := h.cg (fun j h1 _ => u2_n _ _ _ _ (by omega))
theorem wf_addR {f : sT} {nr nw ns : Nat} (h : mwf f nr nw ns) (hn : nr < 16) (x1 x2 x3 x4 x5 : Int32) : mwf (u2 (u2 (u2 (u2 (u2 f 1 nr x1) 2 nr x2) 3 nr x3) 4 nr x4) 5 nr x5) (nr + 1) nw ns := by
  have h9 : mwf f (nr + 1) nw ns := by
    obtain ⟨⟨a0, b0, c0⟩, h1, h2, h3, h4, h5, h6⟩ := h
    refine ⟨⟨by omega, b0, c0⟩, h1, h2, fun k hk => ?_, h4, fun k hk => h5 k (by omega), h6⟩
    by_cases c : k = nr
    · exact Or.inl (h5 k (by omega))
    · exact h3 k (by omega)
  exact h9.cg (fun j h1 _ => by rw [u2_n _ _ _ _ (by omega), u2_n _ _ _ _ (by omega), u2_n _ _ _ _ (by omega), u2_n _ _ _ _ (by omega), u2_n _ _ _ _ (by omega)])
theorem wf_rule {f : sT} {nr nw ns : Nat} (h : mwf f nr nw ns) {k : Nat} (hk : k < nr) {y : Int32} (hy : y = 0 ∨ y = 1) : mwf (u2 f 6 k y) nr nw ns := by
  obtain ⟨h0, h1, h2, h3, h4, h5, h6⟩ := h
  refine ⟨h0, ?_, ?_, ?_, ?_, ?_, ?_⟩
  · rw [u2_n _ _ _ _ (by decide), u2_n _ _ _ _ (by decide), u2_n _ _ _ _ (by decide), u2_n _ _ _ _ (by decide), u2_n _ _ _ _ (by decide)]; exact h1
  · rw [u2_n _ _ _ _ (by decide)]; exact h2
  · rw [u2_s]
    intro j hj
    by_cases c : j = k
    · rw [c, upd_s]; exact hy
    · rw [upd_n _ _ c]; exact h3 j hj
  · rw [u2_n _ _ _ _ (by decide)]; exact h4
  · rw [u2_s]
    intro j hj
    rw [upd_n _ _ (by omega)]; exact h5 j hj
  · rw [u2_n _ _ _ _ (by decide), u2_n _ _ _ _ (by decide)]; exact h6
theorem wf_hol {f : sT} {nr nw ns : Nat} (h : mwf f nr nw ns) (k : Nat) {y : Int32} (hy : y = 0 ∨ y = 1) : mwf (u2 f 7 k y) nr nw ns := by
  obtain ⟨h0, h1, h2, h3, h4, h5, h6⟩ := h
  refine ⟨h0, ?_, ?_, ?_, ?_, ?_, ?_⟩
  · rw [u2_n _ _ _ _ (by decide), u2_n _ _ _ _ (by decide), u2_n _ _ _ _ (by decide), u2_n _ _ _ _ (by decide), u2_n _ _ _ _ (by decide)]; exact h1
  · rw [u2_n _ _ _ _ (by decide)]; exact h2
  · rw [u2_n _ _ _ _ (by decide)]; exact h3
  · rw [u2_s]
    intro j
    by_cases c : j = k
    · rw [c, upd_s]; exact hy
    · rw [upd_n _ _ c]; exact h4 j
  · rw [u2_n _ _ _ _ (by decide)]; exact h5
  · rw [u2_n _ _ _ _ (by decide), u2_n _ _ _ _ (by decide)]; exact h6
theorem wf_rank {f : sT} {nr nw ns : Nat} (h : mwf f nr nw ns) (k : Nat) {r : Nat} (hr : r < 4) : mwf (u2 f 8 k (nI r)) nr nw ns := by
  obtain ⟨h0, h1, h2, h3, h4, h5, h6⟩ := h
  refine ⟨h0, ?_, ?_, ?_, ?_, ?_, ?_⟩
  · rw [u2_n _ _ _ _ (by decide), u2_n _ _ _ _ (by decide), u2_n _ _ _ _ (by decide), u2_n _ _ _ _ (by decide), u2_n _ _ _ _ (by decide)]; exact h1
  · rw [u2_s]
    intro j hj
    by_cases c : j = k
    · rw [c, upd_s]; exact ⟨r, hr, rfl⟩
    · rw [upd_n _ _ c]; exact h2 j hj
  · rw [u2_n _ _ _ _ (by decide)]; exact h3
  · rw [u2_n _ _ _ _ (by decide)]; exact h4
  · rw [u2_n _ _ _ _ (by decide)]; exact h5
  · rw [u2_n _ _ _ _ (by decide), u2_n _ _ _ _ (by decide)]; exact h6
theorem wf_addW {f : sT} {nr nw ns : Nat} (h : mwf f nr nw ns) (hn : nw < 12) {r : Nat} (hr : r < 4) : mwf (u2 f 8 nw (nI r)) nr (nw + 1) ns := by
  obtain ⟨⟨a0, b0, c0⟩, h1, h2, h3, h4, h5, h6⟩ := h
  refine ⟨⟨a0, by omega, c0⟩, ?_, ?_, ?_, ?_, ?_, ?_⟩
  · rw [u2_n _ _ _ _ (by decide), u2_n _ _ _ _ (by decide), u2_n _ _ _ _ (by decide), u2_n _ _ _ _ (by decide), u2_n _ _ _ _ (by decide)]
    intro s hs
    obtain ⟨⟨w, q1, q2⟩, q3⟩ := h1 s hs
    exact ⟨⟨w, by omega, q2⟩, q3⟩
  · rw [u2_s]
    intro j hj
    by_cases c : j = nw
    · rw [c, upd_s]; exact ⟨r, hr, rfl⟩
    · rw [upd_n _ _ c]; exact h2 j (by omega)
  · rw [u2_n _ _ _ _ (by decide)]; exact h3
  · rw [u2_n _ _ _ _ (by decide)]; exact h4
  · rw [u2_n _ _ _ _ (by decide)]; exact h5
  · rw [u2_n _ _ _ _ (by decide), u2_n _ _ _ _ (by decide)]; exact h6
theorem wf_gone {f : sT} {nr nw ns : Nat} (h : mwf f nr nw ns) {k : Nat} (hk : k < ns) {y : Int32} (hy : y = 0 ∨ y = 1) : mwf (u2 f 13 k y) nr nw ns := by
  obtain ⟨h0, h1, h2, h3, h4, h5, h6⟩ := h
  refine ⟨h0, ?_, ?_, ?_, ?_, ?_, ?_⟩
  · rw [u2_n _ _ _ _ (by decide), u2_n _ _ _ _ (by decide), u2_n _ _ _ _ (by decide), u2_n _ _ _ _ (by decide), u2_s]
    intro s hs
    obtain ⟨q1, q2, q3, q4, q5⟩ := h1 s hs
    refine ⟨q1, q2, q3, q4, ?_⟩
    by_cases c : s = k
    · rw [c, upd_s]; exact hy
    · rw [upd_n _ _ c]; exact q5
  · rw [u2_n _ _ _ _ (by decide)]; exact h2
  · rw [u2_n _ _ _ _ (by decide)]; exact h3
  · rw [u2_n _ _ _ _ (by decide)]; exact h4
  · rw [u2_n _ _ _ _ (by decide)]; exact h5
  · rw [u2_n _ _ _ _ (by decide), u2_s]
    intro j hj
    rw [upd_n _ _ (by omega)]; exact h6 j hj
theorem wf_taken {f : sT} {nr nw ns : Nat} (h : mwf f nr nw ns) {k : Nat} (hk : k < ns) {t : Nat} (ht : t ≤ 5) : mwf (u2 f 12 k (nI t)) nr nw ns := by
  obtain ⟨h0, h1, h2, h3, h4, h5, h6⟩ := h
  refine ⟨h0, ?_, ?_, ?_, ?_, ?_, ?_⟩
  · rw [u2_n _ _ _ _ (by decide), u2_n _ _ _ _ (by decide), u2_n _ _ _ _ (by decide), u2_s, u2_n _ _ _ _ (by decide)]
    intro s hs
    obtain ⟨q1, q2, q3, q4, q5⟩ := h1 s hs
    refine ⟨q1, q2, q3, ?_, q5⟩
    by_cases c : s = k
    · rw [c, upd_s]; exact ⟨t, ht, rfl⟩
    · rw [upd_n _ _ c]; exact q4
  · rw [u2_n _ _ _ _ (by decide)]; exact h2
  · rw [u2_n _ _ _ _ (by decide)]; exact h3
  · rw [u2_n _ _ _ _ (by decide)]; exact h4
  · rw [u2_n _ _ _ _ (by decide)]; exact h5
  · rw [u2_s, u2_n _ _ _ _ (by decide)]
    intro j hj
    rw [upd_n _ _ (by omega)]; exact h6 j hj
theorem wf_addS {f : sT} {nr nw ns : Nat} (h : mwf f nr nw ns) (hn : ns < 80) {k a ln : Nat} (hk : k < nw) (ha : a < 34848) (h1 : 1 ≤ ln) (h2 : ln ≤ 64) : mwf (u2 (u2 (u2 f 9 ns (nI k)) 10 ns (nI a)) 11 ns (nI ln)) nr nw (ns + 1) := by
  obtain ⟨⟨a0, b0, c0⟩, g1, g2, g3, g4, g5, g6⟩ := h
  have e9 : u2 (u2 (u2 f 9 ns (nI k)) 10 ns (nI a)) 11 ns (nI ln) 9 = upd (f 9) ns (nI k) := by rw [u2_n _ _ _ _ (by decide), u2_n _ _ _ _ (by decide), u2_s]
  have e10 : u2 (u2 (u2 f 9 ns (nI k)) 10 ns (nI a)) 11 ns (nI ln) 10 = upd (f 10) ns (nI a) := by rw [u2_n _ _ _ _ (by decide), u2_s, u2_n _ _ _ _ (by decide)]
  have e11 : u2 (u2 (u2 f 9 ns (nI k)) 10 ns (nI a)) 11 ns (nI ln) 11 = upd (f 11) ns (nI ln) := by rw [u2_s, u2_n _ _ _ _ (by decide), u2_n _ _ _ _ (by decide)]
  have eo : ∀ j, j ≠ 9 → j ≠ 10 → j ≠ 11 → u2 (u2 (u2 f 9 ns (nI k)) 10 ns (nI a)) 11 ns (nI ln) j = f j := fun j z1 z2 z3 => by rw [u2_n _ _ _ _ z3, u2_n _ _ _ _ z2, u2_n _ _ _ _ z1]
  refine ⟨⟨a0, b0, by omega⟩, ?_, ?_, ?_, ?_, ?_, ?_⟩
  · rw [e9, e10, e11, eo 12 (by decide) (by decide) (by decide), eo 13 (by decide) (by decide) (by decide)]
    intro s hs
    by_cases c : s = ns
    · rw [c, upd_s, upd_s, upd_s]
      exact ⟨⟨k, hk, rfl⟩, ⟨a, ha, rfl⟩, ⟨ln, h1, h2, rfl⟩, ⟨0, by omega, (g6 ns (Nat.le_refl _)).1.trans nI_0.symm⟩, Or.inl (g6 ns (Nat.le_refl _)).2⟩
    · rw [upd_n _ _ c, upd_n _ _ c, upd_n _ _ c]
      exact g1 s (by omega)
  · rw [eo 8 (by decide) (by decide) (by decide)]; exact g2
  · rw [eo 6 (by decide) (by decide) (by decide)]; exact g3
  · rw [eo 7 (by decide) (by decide) (by decide)]; exact g4
  · rw [eo 6 (by decide) (by decide) (by decide)]; exact g5
  · rw [eo 12 (by decide) (by decide) (by decide), eo 13 (by decide) (by decide) (by decide)]
    intro j hj
    exact g6 j (by omega)
