/-! the two sides say the same -/
theorem sub_mx {x y : Nat} (hx : x < 2 ^ 30) (hy : y < 2 ^ 30) : (if nI x - nI y < 0 then 0 else nI x - nI y) = nI (x - y) := by
  by_cases c : x < y
  · rw [if_pos (pk_sneg hy c), show x - y = 0 by omega]
    exact nI_0.symm
  · rw [pk_sub (by omega), if_neg (nI_pos (by omega))]
theorem sub_lez {x y : Nat} (hx : x < 2 ^ 30) (hy : y < 2 ^ 30) : (if nI x ≤ nI y then 0 else nI x - nI y) = nI (x - y) := by
  by_cases c : x ≤ y
  · rw [if_pos (nI_le c (by omega)), show x - y = 0 by omega]
    exact nI_0.symm
  · rw [if_neg (nI_ge (by omega) (by omega)), pk_sub (by omega)]
theorem mn_lt {x y : Nat} (hx : x < 2 ^ 30) (hy : y < 2 ^ 30) : (if nI y < nI x then nI y else nI x) = nI (min x y) := by
  by_cases c : y < x
  · rw [if_pos (nI_lt c (by omega)), show min x y = y by omega]
  · rw [if_neg (nI_nlt (by omega) (by omega)), show min x y = x by omega]
theorem mx_lt {x y : Nat} (hx : x < 2 ^ 30) (hy : y < 2 ^ 30) : (if nI x < nI y then nI y else nI x) = nI (max x y) := by
  by_cases c : x < y
  · rw [if_pos (nI_lt c (by omega)), show max x y = y by omega]
  · rw [if_neg (nI_nlt (by omega) (by omega)), show max x y = x by omega]
theorem mn_le {x y : Nat} (hx : x < 2 ^ 30) (hy : y < 2 ^ 30) : (if nI y ≤ nI x then nI y else nI x) = nI (min x y) := by
  by_cases c : y ≤ x
  · rw [if_pos (nI_le c (by omega)), show min x y = y by omega]
  · rw [if_neg (nI_ge (by omega) (by omega)), show min x y = x by omega]
theorem mx_le {x y : Nat} (hx : x < 2 ^ 30) (hy : y < 2 ^ 30) : (if nI x ≤ nI y then nI y else nI x) = nI (max x y) := by
  by_cases c : x ≤ y
  · rw [if_pos (nI_le c (by omega)), show max x y = y by omega]
  · rw [if_neg (nI_ge (by omega) (by omega)), show max x y = x by omega]
theorem own_N {f : sT} {s a n L U : Nat} (h10 : f 10 s = nI a) (h11 : f 11 s = nI n) (ha : a < 34848) (hn : n ≤ 64) (hL : L < 2 ^ 30) (hU : U < 2 ^ 30) : s_own f s (nI L) (nI U) = nI (min (a + n) U - max a L) := by
  unfold s_own
  rw [h10, h11, nI_add, mn_lt (by omega) hU, mx_lt (by omega) hL, sub_mx (by omega) (by omega)]
theorem h1_N {f : sT} {s a n L U : Nat} {x : Int32} (h10 : f 10 s = nI a) (h11 : f 11 s = nI n) (ha : a < 34848) (hn : n ≤ 64) (hL : L < 2 ^ 30) (hU : U < 2 ^ 30) (h13 : f 13 s = 0) (h9 : f 9 s = x) : s_h1 f x (nI L) (nI U) s = nI (min (a + n) U - max a L) := by
  unfold s_h1 s_en s_fi
  rw [if_pos h13, if_pos h9, h10, h11, nI_add, mn_le (by omega) hU, mx_le (by omega) hL, sub_lez (by omega) (by omega)]
theorem wb_hr {f : sT} {nr nw ns k L U : Nat} (hwf : mwf f nr nw ns) (hk : k < nw) (hL : L < 2 ^ 30) (hU : U < 2 ^ 30) : ∀ n, n ≤ ns → s_wb f k (nI L) (nI U) n = s_hr f (nI k) (nI L) (nI U) n := by
  intro n
  induction n with
  | zero => intro _; rfl
  | succ j ih =>
    intro hj
    have ih := ih (by omega)
    obtain ⟨⟨hw1, hw2⟩, h9, -⟩ := hwf.sh j (by omega)
    obtain ⟨-, ⟨a, ha, h10⟩, ⟨n, -, hn, h11⟩, -⟩ := hwf.2.1 j (by omega)
    have hnw : nw ≤ 12 := hwf.1.2.1
    show (if wN f j = k ∧ f 13 j = 0 then s_wb f k (nI L) (nI U) j + s_own f j (nI L) (nI U) else s_wb f k (nI L) (nI U) j) = s_hr f (nI k) (nI L) (nI U) j + s_h1 f (nI k) (nI L) (nI U) j
    by_cases c : wN f j = k ∧ f 13 j = 0
    · rw [if_pos c, own_N h10 h11 ha hn hL hU, h1_N h10 h11 ha hn hL hU c.2 (by rw [h9, c.1]), ih]
    · rw [if_neg c, ih]
      have h0 : s_h1 f (nI k) (nI L) (nI U) j = 0 := by
        unfold s_h1
        by_cases c2 : f 13 j = 0
        · rw [if_pos c2, if_neg]
          intro q
          rw [h9] at q
          exact c ⟨(nI_eq (by omega) (by omega)).mp q, c2⟩
        · rw [if_neg c2]
      rw [h0]
      exact (Int32.add_zero _).symm
theorem wk_same {f : sT} {nr nw ns k z : Nat} (hwf : mwf f nr nw ns) (hk : k < nw) (hz : z < 52) : s_wb f k (nI z * 672) ((nI z + 1) * 672) ns = s_hr f (nI k) (nI (96 * (7 * z))) (nI (96 * (7 * z + 7))) ns := by
  have e1 : nI z * 672 = nI (96 * (7 * z)) := by
    show nI z * nI 672 = _
    rw [pk_mul]
    congr 1
    omega
  have e2 : (nI z + 1) * 672 = nI (96 * (7 * z + 7)) := by
    rw [nI_1]
    show nI (z + 1) * nI 672 = _
    rw [pk_mul]
    congr 1
    omega
  rw [e1, e2]
  exact wb_hr hwf hk (by omega) (by omega) ns (Nat.le_refl _)
theorem mx_ex (v : Int32) : s_mx v 0 = s_ex v := by
  unfold s_mx s_ex
  by_cases c : v < 0
  · rw [if_pos c, if_pos (Int32.le_of_lt c)]
  · rw [if_neg c]
    by_cases c2 : v ≤ 0
    · rw [if_pos c2]
      exact Int32.le_antisymm c2 (Int32.not_lt.mp c)
    · rw [if_neg c2]
theorem exc_same {f : sT} {nr nw ns k z : Nat} (hwf : mwf f nr nw ns) (hk : k < nw) (hz : z < 13) : s_mx (s_wb f k (nI z * 4 * 672) ((nI z * 4 + 4) * 672) ns - 608) 0 = s_ex (s_hr f (nI k) (nI (96 * (28 * z))) (nI (96 * (28 * z + 28))) ns - 608) := by
  have e0 : nI z * 4 = nI (z * 4) := pk_mul z 4
  have e1 : nI z * 4 * 672 = nI (96 * (28 * z)) := by
    rw [e0]
    show nI (z * 4) * nI 672 = _
    rw [pk_mul]
    congr 1
    omega
  have e2 : (nI z * 4 + 4) * 672 = nI (96 * (28 * z + 28)) := by
    rw [e0]
    show (nI (z * 4) + nI 4) * nI 672 = _
    rw [nI_add, pk_mul]
    congr 1
    omega
  rw [e1, e2, wb_hr hwf hk (by omega) (by omega) ns (Nat.le_refl _)]
  exact mx_ex _
theorem ov_hit {f : sT} {N : Nat} {x its ln : Int32} {j : Nat} (h : s_over f x its ln j) : ∀ n, j < n → s_ov f N x its ln n = 3 := by
  intro n
  induction n with
  | zero => intro c; omega
  | succ i ih =>
    intro c
    show (if s_over f x its ln i then 3 else s_ov f N x its ln i) = 3
    by_cases c2 : s_over f x its ln i
    · rw [if_pos c2]
    · rw [if_neg c2]
      exact ih (Nat.lt_of_le_of_ne (by omega) (fun q => c2 (q ▸ h)))
theorem ov_miss {f : sT} {N : Nat} {x its ln : Int32} : ∀ n, (∀ j, j < n → ¬ s_over f x its ln j) → s_ov f N x its ln n = s_ov f N x its ln 0 := by
  intro n
  induction n with
  | zero => intro _; rfl
  | succ i ih =>
    intro h
    show (if s_over f x its ln i then 3 else s_ov f N x its ln i) = _
    rw [if_neg (h i (by omega))]
    exact ih (fun j hj => h j (by omega))
theorem wb_S {f : sT} {nr nw ns k t ln : Nat} (hwf : mwf f nr nw ns) (hk : k < nw) (ht : t < 34848) (h1 : 1 ≤ ln) (h2 : ln ≤ 64) : ∀ n, n ≤ ns → ∃ S, S ≤ 64 * n ∧ s_wb f k (nI t) (nI (t + ln)) n = nI S ∧ ((S = 0 ∧ ∀ j, j < n → ¬ s_over f (nI k) (nI t) (nI ln) j) ∨ (0 < S ∧ ∃ j, j < n ∧ s_over f (nI k) (nI t) (nI ln) j)) := by
  intro n
  induction n with
  | zero => intro _; exact ⟨0, by omega, rfl, Or.inl ⟨rfl, fun j hj => by omega⟩⟩
  | succ j ih =>
    intro hj
    obtain ⟨S, hS, e, hc⟩ := ih (by omega)
    obtain ⟨⟨hw1, hw2⟩, h9, -⟩ := hwf.sh j (by omega)
    obtain ⟨-, ⟨a, ha, h10⟩, ⟨n, hn1, hn, h11⟩, -⟩ := hwf.2.1 j (by omega)
    have hnw : nw ≤ 12 := hwf.1.2.1
    have hns : ns ≤ 80 := hwf.1.2.2
    have hov : s_over f (nI k) (nI t) (nI ln) j ↔ f 13 j = 0 ∧ wN f j = k ∧ t < a + n ∧ a < t + ln := by
      show (f 13 j = 0 ∧ f 9 j = nI k ∧ ¬ f 10 j + f 11 j ≤ nI t ∧ ¬ nI t + nI ln ≤ f 10 j) ↔ _
      rw [h9, h10, h11, nI_add, nI_add, nI_eq (by omega) (by omega), nI_leI (by omega) (by omega), nI_leI (by omega) (by omega)]
      constructor
      · rintro ⟨b1, b2, b3, b4⟩
        exact ⟨b1, b2, by omega, by omega⟩
      · rintro ⟨b1, b2, b3, b4⟩
        exact ⟨b1, b2, by omega, by omega⟩
    have hu : s_wb f k (nI t) (nI (t + ln)) (j + 1) = if wN f j = k ∧ f 13 j = 0 then s_wb f k (nI t) (nI (t + ln)) j + s_own f j (nI t) (nI (t + ln)) else s_wb f k (nI t) (nI (t + ln)) j := rfl
    have hold : ∀ S', ((S = 0 ∧ ∀ i, i < j → ¬ s_over f (nI k) (nI t) (nI ln) i) ∨ (0 < S ∧ ∃ i, i < j ∧ s_over f (nI k) (nI t) (nI ln) i)) → S' = S → ¬ s_over f (nI k) (nI t) (nI ln) j → ((S' = 0 ∧ ∀ i, i < j + 1 → ¬ s_over f (nI k) (nI t) (nI ln) i) ∨ (0 < S' ∧ ∃ i, i < j + 1 ∧ s_over f (nI k) (nI t) (nI ln) i)) := by
      intro S' hc0 eS hno
      subst eS
      rcases hc0 with ⟨q1, q2⟩ | ⟨q1, i, q2, q3⟩
      · exact Or.inl ⟨q1, fun i hi => by
          by_cases c : i = j
          · rw [c]; exact hno
          · exact q2 i (by omega)⟩
      · exact Or.inr ⟨q1, i, by omega, q3⟩
    by_cases c : wN f j = k ∧ f 13 j = 0
    · rw [hu, if_pos c, own_N h10 h11 ha hn (by omega) (by omega), e, nI_add]
      refine ⟨_, by omega, rfl, ?_⟩
      by_cases c2 : t < a + n ∧ a < t + ln
      · exact Or.inr ⟨by omega, j, by omega, hov.mpr ⟨c.2, c.1, c2.1, c2.2⟩⟩
      · exact hold _ hc (by omega) (fun q => c2 (hov.mp q).2.2)
    · rw [hu, if_neg c]
      exact ⟨S, by omega, e, hold _ hc rfl (fun q => c ⟨(hov.mp q).2.1, (hov.mp q).1⟩)⟩
theorem ov_same {f : sT} {nr nw ns k t ln : Nat} (hwf : mwf f nr nw ns) (hk : k < nw) (ht : t < 34848) (h1 : 1 ≤ ln) (h2 : ln ≤ 64) :
    (s_ov f ns (nI k) (nI t) (nI ln) ns = 3 ∧ (ns = 80 ∨ 0 < s_wb f k (nI t) (nI (t + ln)) ns)) ∨ (s_ov f ns (nI k) (nI t) (nI ln) ns = 0 ∧ ns < 80 ∧ ¬ 0 < s_wb f k (nI t) (nI (t + ln)) ns) := by
  obtain ⟨S, hS, e, ⟨q1, q2⟩ | ⟨q1, j, q2, q3⟩⟩ := wb_S hwf hk ht h1 h2 ns (Nat.le_refl _)
  · have hns : ns ≤ 80 := hwf.1.2.2
    rw [ov_miss ns q2, e, q1]
    show ((if ns = 80 then (3 : Int32) else 0) = 3 ∧ _) ∨ ((if ns = 80 then (3 : Int32) else 0) = 0 ∧ _)
    by_cases c : ns = 80
    · exact Or.inl ⟨if_pos c, Or.inl c⟩
    · exact Or.inr ⟨if_neg c, by omega, by decide +kernel⟩
  · have hns : ns ≤ 80 := hwf.1.2.2
    refine Or.inl ⟨ov_hit q3 ns q2, Or.inr ?_⟩
    rw [e]
    exact nI_lt (a := 0) q1 (by omega)
/-! what is kept by every change -/
theorem mwf.cg {f f' : sT} {nr nw ns : Nat} (h : mwf f nr nw ns) (e : ∀ j, 6 ≤ j → j ≤ 13 → f' j = f j) : mwf f' nr nw ns := by
  obtain ⟨h0, h1, h2, h3, h4, h5, h6⟩ := h
  refine ⟨h0, ?_, ?_, ?_, ?_, ?_, ?_⟩
  · rw [e 9 (by omega) (by omega), e 10 (by omega) (by omega), e 11 (by omega) (by omega), e 12 (by omega) (by omega), e 13 (by omega) (by omega)]; exact h1
  · rw [e 8 (by omega) (by omega)]; exact h2
  · rw [e 6 (by omega) (by omega)]; exact h3
  · rw [e 7 (by omega) (by omega)]; exact h4
  · rw [e 6 (by omega) (by omega)]; exact h5
  · rw [e 12 (by omega) (by omega), e 13 (by omega) (by omega)]; exact h6
theorem wf_base {f : sT} {nr nw ns : Nat} (h : mwf f nr nw ns) (k : Nat) (x : Int32) : mwf (u2 f 0 k x) nr nw ns := h.cg (fun j h1 _ => u2_n _ _ _ _ (by omega))
theorem wf_addR {f : sT} {nr nw ns : Nat} (h : mwf f nr nw ns) (hn : nr < 16) (x1 x2 x3 x4 x5 : Int32) : mwf (u2 (u2 (u2 (u2 (u2 f 1 nr x1) 2 nr x2) 3 nr x3) 4 nr x4) 5 nr x5) (nr + 1) nw ns := by
  have h9 : mwf f (nr + 1) nw ns := by
    obtain ⟨⟨a0, b0, c0⟩, h1, h2, h3, h4, h5, h6⟩ := h
    refine ⟨⟨by omega, b0, c0⟩, h1, h2, fun k hk => ?_, h4, fun k hk => h5 k (by omega), h6⟩
    by_cases c : k = nr
    · exact Or.inl (h5 k (by omega))
    · exact h3 k (by omega)
  exact h9.cg (fun j h1 _ => by rw [u2_n _ _ _ _ (by omega), u2_n _ _ _ _ (by omega), u2_n _ _ _ _ (by omega), u2_n _ _ _ _ (by omega), u2_n _ _ _ _ (by omega)])
theorem wf_rule {f : sT} {nr nw ns : Nat} (h : mwf f nr nw ns) {k : Nat} (hk : k < nr) {y : Int32} (hy : y = 0 ∨ y = 1) : mwf (u2 f 6 k y) nr nw ns := by
  obtain ⟨h0, h1, h2, h3, h4, h5, h6⟩ := h
  refine ⟨h0, ?_, ?_, ?_, ?_, ?_, ?_⟩
  · rw [u2_n _ _ _ _ (by decide), u2_n _ _ _ _ (by decide), u2_n _ _ _ _ (by decide), u2_n _ _ _ _ (by decide), u2_n _ _ _ _ (by decide)]; exact h1
  · rw [u2_n _ _ _ _ (by decide)]; exact h2
  · rw [u2_s]
    intro j hj
    by_cases c : j = k
    · rw [c, upd_s]; exact hy
    · rw [upd_n _ _ c]; exact h3 j hj
  · rw [u2_n _ _ _ _ (by decide)]; exact h4
  · rw [u2_s]
    intro j hj
    rw [upd_n _ _ (by omega)]; exact h5 j hj
  · rw [u2_n _ _ _ _ (by decide), u2_n _ _ _ _ (by decide)]; exact h6
theorem wf_hol {f : sT} {nr nw ns : Nat} (h : mwf f nr nw ns) (k : Nat) {y : Int32} (hy : y = 0 ∨ y = 1) : mwf (u2 f 7 k y) nr nw ns := by
  obtain ⟨h0, h1, h2, h3, h4, h5, h6⟩ := h
  refine ⟨h0, ?_, ?_, ?_, ?_, ?_, ?_⟩
  · rw [u2_n _ _ _ _ (by decide), u2_n _ _ _ _ (by decide), u2_n _ _ _ _ (by decide), u2_n _ _ _ _ (by decide), u2_n _ _ _ _ (by decide)]; exact h1
  · rw [u2_n _ _ _ _ (by decide)]; exact h2
  · rw [u2_n _ _ _ _ (by decide)]; exact h3
  · rw [u2_s]
    intro j
    by_cases c : j = k
    · rw [c, upd_s]; exact hy
    · rw [upd_n _ _ c]; exact h4 j
  · rw [u2_n _ _ _ _ (by decide)]; exact h5
  · rw [u2_n _ _ _ _ (by decide), u2_n _ _ _ _ (by decide)]; exact h6
theorem wf_rank {f : sT} {nr nw ns : Nat} (h : mwf f nr nw ns) (k : Nat) {r : Nat} (hr : r < 4) : mwf (u2 f 8 k (nI r)) nr nw ns := by
  obtain ⟨h0, h1, h2, h3, h4, h5, h6⟩ := h
  refine ⟨h0, ?_, ?_, ?_, ?_, ?_, ?_⟩
  · rw [u2_n _ _ _ _ (by decide), u2_n _ _ _ _ (by decide), u2_n _ _ _ _ (by decide), u2_n _ _ _ _ (by decide), u2_n _ _ _ _ (by decide)]; exact h1
  · rw [u2_s]
    intro j hj
    by_cases c : j = k
    · rw [c, upd_s]; exact ⟨r, hr, rfl⟩
    · rw [upd_n _ _ c]; exact h2 j hj
  · rw [u2_n _ _ _ _ (by decide)]; exact h3
  · rw [u2_n _ _ _ _ (by decide)]; exact h4
  · rw [u2_n _ _ _ _ (by decide)]; exact h5
  · rw [u2_n _ _ _ _ (by decide), u2_n _ _ _ _ (by decide)]; exact h6
theorem wf_addW {f : sT} {nr nw ns : Nat} (h : mwf f nr nw ns) (hn : nw < 12) {r : Nat} (hr : r < 4) : mwf (u2 f 8 nw (nI r)) nr (nw + 1) ns := by
  obtain ⟨⟨a0, b0, c0⟩, h1, h2, h3, h4, h5, h6⟩ := h
  refine ⟨⟨a0, by omega, c0⟩, ?_, ?_, ?_, ?_, ?_, ?_⟩
  · rw [u2_n _ _ _ _ (by decide), u2_n _ _ _ _ (by decide), u2_n _ _ _ _ (by decide), u2_n _ _ _ _ (by decide), u2_n _ _ _ _ (by decide)]
    intro s hs
    obtain ⟨⟨w, q1, q2⟩, q3⟩ := h1 s hs
    exact ⟨⟨w, by omega, q2⟩, q3⟩
  · rw [u2_s]
    intro j hj
    by_cases c : j = nw
    · rw [c, upd_s]; exact ⟨r, hr, rfl⟩
    · rw [upd_n _ _ c]; exact h2 j (by omega)
  · rw [u2_n _ _ _ _ (by decide)]; exact h3
  · rw [u2_n _ _ _ _ (by decide)]; exact h4
  · rw [u2_n _ _ _ _ (by decide)]; exact h5
  · rw [u2_n _ _ _ _ (by decide), u2_n _ _ _ _ (by decide)]; exact h6
theorem wf_gone {f : sT} {nr nw ns : Nat} (h : mwf f nr nw ns) {k : Nat} (hk : k < ns) {y : Int32} (hy : y = 0 ∨ y = 1) : mwf (u2 f 13 k y) nr nw ns := by
  obtain ⟨h0, h1, h2, h3, h4, h5, h6⟩ := h
  refine ⟨h0, ?_, ?_, ?_, ?_, ?_, ?_⟩
  · rw [u2_n _ _ _ _ (by decide), u2_n _ _ _ _ (by decide), u2_n _ _ _ _ (by decide), u2_n _ _ _ _ (by decide), u2_s]
    intro s hs
    obtain ⟨q1, q2, q3, q4, q5⟩ := h1 s hs
    refine ⟨q1, q2, q3, q4, ?_⟩
    by_cases c : s = k
    · rw [c, upd_s]; exact hy
    · rw [upd_n _ _ c]; exact q5
  · rw [u2_n _ _ _ _ (by decide)]; exact h2
  · rw [u2_n _ _ _ _ (by decide)]; exact h3
  · rw [u2_n _ _ _ _ (by decide)]; exact h4
  · rw [u2_n _ _ _ _ (by decide)]; exact h5
  · rw [u2_n _ _ _ _ (by decide), u2_s]
    intro j hj
    rw [upd_n _ _ (by omega)]; exact h6 j hj
theorem wf_taken {f : sT} {nr nw ns : Nat} (h : mwf f nr nw ns) {k : Nat} (hk : k < ns) {t : Nat} (ht : t ≤ 5) : mwf (u2 f 12 k (nI t)) nr nw ns := by
  obtain ⟨h0, h1, h2, h3, h4, h5, h6⟩ := h
  refine ⟨h0, ?_, ?_, ?_, ?_, ?_, ?_⟩
  · rw [u2_n _ _ _ _ (by decide), u2_n _ _ _ _ (by decide), u2_n _ _ _ _ (by decide), u2_s, u2_n _ _ _ _ (by decide)]
    intro s hs
    obtain ⟨q1, q2, q3, q4, q5⟩ := h1 s hs
    refine ⟨q1, q2, q3, ?_, q5⟩
    by_cases c : s = k
    · rw [c, upd_s]; exact ⟨t, ht, rfl⟩
    · rw [upd_n _ _ c]; exact q4
  · rw [u2_n _ _ _ _ (by decide)]; exact h2
  · rw [u2_n _ _ _ _ (by decide)]; exact h3
  · rw [u2_n _ _ _ _ (by decide)]; exact h4
  · rw [u2_n _ _ _ _ (by decide)]; exact h5
  · rw [u2_s, u2_n _ _ _ _ (by decide)]
    intro j hj
    rw [upd_n _ _ (by omega)]; exact h6 j hj
theorem wf_addS {f : sT} {nr nw ns : Nat} (h : mwf f nr nw ns) (hn : ns < 80) {k a ln : Nat} (hk : k < nw) (ha : a < 34848) (h1 : 1 ≤ ln) (h2 : ln ≤ 64) : mwf (u2 (u2 (u2 f 9 ns (nI k)) 10 ns (nI a)) 11 ns (nI ln)) nr nw (ns + 1) := by
  obtain ⟨⟨a0, b0, c0⟩, g1, g2, g3, g4, g5, g6⟩ := h
  have e9 : u2 (u2 (u2 f 9 ns (nI k)) 10 ns (nI a)) 11 ns (nI ln) 9 = upd (f 9) ns (nI k) := by rw [u2_n _ _ _ _ (by decide), u2_n _ _ _ _ (by decide), u2_s]
  have e10 : u2 (u2 (u2 f 9 ns (nI k)) 10 ns (nI a)) 11 ns (nI ln) 10 = upd (f 10) ns (nI a) := by rw [u2_n _ _ _ _ (by decide), u2_s, u2_n _ _ _ _ (by decide)]
  have e11 : u2 (u2 (u2 f 9 ns (nI k)) 10 ns (nI a)) 11 ns (nI ln) 11 = upd (f 11) ns (nI ln) := by rw [u2_s, u2_n _ _ _ _ (by decide), u2_n _ _ _ _ (by decide)]
  have eo : ∀ j, j ≠ 9 → j ≠ 10 → j ≠ 11 → u2 (u2 (u2 f 9 ns (nI k)) 10 ns (nI a)) 11 ns (nI ln) j = f j := fun j z1 z2 z3 => by rw [u2_n _ _ _ _ z3, u2_n _ _ _ _ z2, u2_n _ _ _ _ z1]
  refine ⟨⟨a0, b0, by omega⟩, ?_, ?_, ?_, ?_, ?_, ?_⟩
  · rw [e9, e10, e11, eo 12 (by decide) (by decide) (by decide), eo 13 (by decide) (by decide) (by decide)]
    intro s hs
    by_cases c : s = ns
    · rw [c, upd_s, upd_s, upd_s]
      exact ⟨⟨k, hk, rfl⟩, ⟨a, ha, rfl⟩, ⟨ln, h1, h2, rfl⟩, ⟨0, by omega, (g6 ns (Nat.le_refl _)).1.trans nI_0.symm⟩, Or.inl (g6 ns (Nat.le_refl _)).2⟩
    · rw [upd_n _ _ c, upd_n _ _ c, upd_n _ _ c]
      exact g1 s (by omega)
  · rw [eo 8 (by decide) (by decide) (by decide)]; exact g2
  · rw [eo 6 (by decide) (by decide) (by decide)]; exact g3
  · rw [eo 7 (by decide) (by decide) (by decide)]; exact g4
  · rw [eo 6 (by decide) (by decide) (by decide)]; exact g5
  · rw [eo 12 (by decide) (by decide) (by decide), eo 13 (by decide) (by decide) (by decide)]
    intro j hj
    exact g6 j (by omega)
