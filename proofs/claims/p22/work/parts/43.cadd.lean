theorem mC.addR {G : mG} {V V3 : mV} {α α1 α3 : Nat → Nat} {f : sT} {nr nw ns : Nat} {x1 x2 x3 x4 x5 : Int32} (h : mC G V α f nr nw ns) (hwN : ∀ k, k < ns → wN f k < 12) (h6 : f 6 nr = 0) (hnr : nr < 16) (hnw : nw ≤ 12) (hns : ns ≤ 80) (hα1 : ∀ j, j ≠ 100 + nr → α1 j = α j)
    (hq : mLQ G (vup V (100 + nr) (.inr (1, [.int (nI nr), .int x1, .int x2, .int x3, .int x4, .int x5, .int 1]))) α1 (V3, α3) 3 nr 100) (hz : ∀ j, j < 100 → α3 j = α j) :
    mCQ G V α (V3, α3) (u2 (u2 (u2 (u2 (u2 f 1 nr x1) 2 nr x2) 3 nr x3) 4 nr x4) 5 nr x5) (nr + 1) nw ns := by
  obtain ⟨k0, k1, k2, l3, l4, l5, cR, cW, cS, fR, fW, fS⟩ := h
  obtain ⟨q1, q2, q3⟩ := hq
  dsimp only at q1 q2 q3
  have eV : ∀ x, x ≠ 3 → (∀ c, x ≠ 400 + 3 * c + 3) → x ≠ 100 + nr → V3 x = V x := fun x a b c => (q2 x a b).trans (vup_n _ _ c)
  have eα : ∀ x, (∀ c, x ≠ 400 + 3 * c + 3) → x ≠ 100 + nr → α3 x = α x := fun x b c => (q3 x b).trans (hα1 x c)
  refine ⟨⟨?_, (eV 1 (by decide) (fun c => by omega) (by omega)).trans k1, (eV 2 (by decide) (fun c => by omega) (by omega)).trans k2, q1, l4.mv (fun j hj => eV j (by omega) (fun c => by omega) (by omega)) (fun j hj => eα j (fun c => by omega) (by omega)), l5.mv (fun j hj => eV j (by omega) (fun c => by omega) (by omega)) (fun j hj => eα j (fun c => by omega) (by omega)),
    fun k hk => ?_, fun w hw => (eV _ (by omega) (fun c => by omega) (by omega)).trans (cW w hw), fun k hk => ?_, fun k h1 h2 => (eV _ (by omega) (fun c => by omega) (by omega)).trans (fR k (by omega) h2), fun k h1 h2 => (eV _ (by omega) (fun c => by omega) (by omega)).trans (fW k h1 h2), fun k h1 h2 => (eV _ (by omega) (fun c => by omega) (by omega)).trans (fS k h1 h2)⟩, fun j hj => ⟨fun h9 => eV j (by omega) (fun c => by omega) (by omega), hz j hj⟩⟩
  · show V3 0 = some (.inr (4, [.ref (α3 1), .ref (α3 2), .ref (α3 3), .ref (α3 4), .ref (α3 5)]))
    rw [hz 1 (by decide), hz 2 (by decide), hz 3 (by decide), hz 4 (by decide), hz 5 (by decide)]
    exact (eV 0 (by decide) (fun c => by omega) (by omega)).trans k0
  · show V3 (100 + k) = some (.inr (1, [.int (nI k), .int (upd (f 1) nr x1 k), .int (upd (f 2) nr x2 k), .int (upd (f 3) nr x3 k), .int (upd (f 4) nr x4 k), .int (upd (f 5) nr x5 k), .int (1 - f 6 k)]))
    by_cases c : k = nr
    · subst c
      rw [q2 _ (by omega) (fun c => by omega), vup_s, upd_s, upd_s, upd_s, upd_s, upd_s, h6]
      rfl
    · rw [upd_n _ _ c, upd_n _ _ c, upd_n _ _ c, upd_n _ _ c, upd_n _ _ c]
      exact (eV _ (by omega) (fun c => by omega) (by omega)).trans (cR k (by omega))
  · show V3 (300 + k) = some (.inr (2, [.ref (α3 (200 + wN f k)), .int (f 10 k), .int (f 11 k), .int (f 12 k), .int (f 13 k)]))
    rw [eα _ (fun c => by have := hwN k hk; omega) (by have := hwN k hk; omega)]
    exact (eV _ (by omega) (fun c => by omega) (by omega)).trans (cS k hk)
theorem mC.addW {G : mG} {V V3 : mV} {α α1 α3 : Nat → Nat} {f : sT} {nr nw ns : Nat} {x : Int32} (h : mC G V α f nr nw ns) (hwN : ∀ k, k < ns → wN f k < nw) (hnr : nr ≤ 16) (hnw : nw < 12) (hns : ns ≤ 80) (hα1 : ∀ j, j ≠ 200 + nw → α1 j = α j)
    (hq : mLQ G (vup V (200 + nw) (.inr (3, [.int x]))) α1 (V3, α3) 4 nw 200) (hz : ∀ j, j < 100 → α3 j = α j) :
    mCQ G V α (V3, α3) (u2 f 8 nw x) nr (nw + 1) ns := by
  obtain ⟨k0, k1, k2, l3, l4, l5, cR, cW, cS, fR, fW, fS⟩ := h
  obtain ⟨q1, q2, q3⟩ := hq
  dsimp only at q1 q2 q3
  have eV : ∀ x, x ≠ 4 → (∀ c, x ≠ 400 + 3 * c + 4) → x ≠ 200 + nw → V3 x = V x := fun x a b c => (q2 x a b).trans (vup_n _ _ c)
  have eα : ∀ x, (∀ c, x ≠ 400 + 3 * c + 4) → x ≠ 200 + nw → α3 x = α x := fun x b c => (q3 x b).trans (hα1 x c)
  refine ⟨⟨?_, (eV 1 (by decide) (fun c => by omega) (by omega)).trans k1, (eV 2 (by decide) (fun c => by omega) (by omega)).trans k2, l3.mv (fun j hj => eV j (by omega) (fun c => by omega) (by omega)) (fun j hj => eα j (fun c => by omega) (by omega)), q1, l5.mv (fun j hj => eV j (by omega) (fun c => by omega) (by omega)) (fun j hj => eα j (fun c => by omega) (by omega)),
    fun k hk => (eV _ (by omega) (fun c => by omega) (by omega)).trans (cR k hk), fun w hw => ?_, fun k hk => ?_, fun k h1 h2 => (eV _ (by omega) (fun c => by omega) (by omega)).trans (fR k h1 h2), fun k h1 h2 => (eV _ (by omega) (fun c => by omega) (by omega)).trans (fW k (by omega) h2), fun k h1 h2 => (eV _ (by omega) (fun c => by omega) (by omega)).trans (fS k h1 h2)⟩, fun j hj => ⟨fun h9 => eV j (by omega) (fun c => by omega) (by omega), hz j hj⟩⟩
  · show V3 0 = some (.inr (4, [.ref (α3 1), .ref (α3 2), .ref (α3 3), .ref (α3 4), .ref (α3 5)]))
    rw [hz 1 (by decide), hz 2 (by decide), hz 3 (by decide), hz 4 (by decide), hz 5 (by decide)]
    exact (eV 0 (by decide) (fun c => by omega) (by omega)).trans k0
  · show V3 (200 + w) = some (.inr (3, [.int (upd (f 8) nw x w)]))
    by_cases c : w = nw
    · subst c
      rw [q2 _ (by omega) (fun c => by omega), vup_s, upd_s]
    · rw [upd_n _ _ c]
      exact (eV _ (by omega) (fun c => by omega) (by omega)).trans (cW w (by omega))
  · show V3 (300 + k) = some (.inr (2, [.ref (α3 (200 + wN f k)), .int (f 10 k), .int (f 11 k), .int (f 12 k), .int (f 13 k)]))
    rw [eα _ (fun c => by have := hwN k hk; omega) (by have := hwN k hk; omega)]
    exact (eV _ (by omega) (fun c => by omega) (by omega)).trans (cS k hk)
theorem mC.addS {G : mG} {V V3 : mV} {α α1 α3 : Nat → Nat} {f : sT} {nr nw ns w : Nat} {y z : Int32} (h : mC G V α f nr nw ns) (hwN : ∀ k, k < ns → wN f k < nw) (h12 : f 12 ns = 0) (h13 : f 13 ns = 0) (hnr : nr ≤ 16) (hnw : nw ≤ 12) (hns : ns < 80) (hwi : w < nw) (hα1 : ∀ j, j ≠ 300 + ns → α1 j = α j)
    (hq : mLQ G (vup V (300 + ns) (.inr (2, [.ref (α (200 + w)), .int y, .int z, .int 0, .int 0]))) α1 (V3, α3) 5 ns 300) (hz : ∀ j, j < 100 → α3 j = α j) :
    mCQ G V α (V3, α3) (u2 (u2 (u2 f 9 ns (nI w)) 10 ns y) 11 ns z) nr nw (ns + 1) := by
  obtain ⟨k0, k1, k2, l3, l4, l5, cR, cW, cS, fR, fW, fS⟩ := h
  obtain ⟨q1, q2, q3⟩ := hq
  dsimp only at q1 q2 q3
  have eV : ∀ x, x ≠ 5 → (∀ c, x ≠ 400 + 3 * c + 5) → x ≠ 300 + ns → V3 x = V x := fun x a b c => (q2 x a b).trans (vup_n _ _ c)
  have eα : ∀ x, (∀ c, x ≠ 400 + 3 * c + 5) → x ≠ 300 + ns → α3 x = α x := fun x b c => (q3 x b).trans (hα1 x c)
  refine ⟨⟨?_, (eV 1 (by decide) (fun c => by omega) (by omega)).trans k1, (eV 2 (by decide) (fun c => by omega) (by omega)).trans k2, l3.mv (fun j hj => eV j (by omega) (fun c => by omega) (by omega)) (fun j hj => eα j (fun c => by omega) (by omega)), l4.mv (fun j hj => eV j (by omega) (fun c => by omega) (by omega)) (fun j hj => eα j (fun c => by omega) (by omega)), q1,
    fun k hk => (eV _ (by omega) (fun c => by omega) (by omega)).trans (cR k hk), fun w hw => (eV _ (by omega) (fun c => by omega) (by omega)).trans (cW w hw), fun k hk => ?_, fun k h1 h2 => (eV _ (by omega) (fun c => by omega) (by omega)).trans (fR k h1 h2), fun k h1 h2 => (eV _ (by omega) (fun c => by omega) (by omega)).trans (fW k h1 h2), fun k h1 h2 => (eV _ (by omega) (fun c => by omega) (by omega)).trans (fS k (by omega) h2)⟩, fun j hj => ⟨fun h9 => eV j (by omega) (fun c => by omega) (by omega), hz j hj⟩⟩
  · show V3 0 = some (.inr (4, [.ref (α3 1), .ref (α3 2), .ref (α3 3), .ref (α3 4), .ref (α3 5)]))
    rw [hz 1 (by decide), hz 2 (by decide), hz 3 (by decide), hz 4 (by decide), hz 5 (by decide)]
    exact (eV 0 (by decide) (fun c => by omega) (by omega)).trans k0
  · show V3 (300 + k) = some (.inr (2, [.ref (α3 (200 + (upd (f 9) ns (nI w) k).toNatClampNeg)), .int (upd (f 10) ns y k), .int (upd (f 11) ns z k), .int (f 12 k), .int (f 13 k)]))
    by_cases c : k = ns
    · subst c
      rw [q2 _ (by omega) (fun c => by omega), vup_s, upd_s, upd_s, upd_s, nI_clamp (by omega), h12, h13, eα _ (fun c => by omega) (by omega)]
    · rw [upd_n _ _ c, upd_n _ _ c, upd_n _ _ c]
      show V3 (300 + k) = some (.inr (2, [.ref (α3 (200 + wN f k)), .int (f 10 k), .int (f 11 k), .int (f 12 k), .int (f 13 k)]))
      rw [eα _ (fun c => by have := hwN k (by omega); omega) (by have := hwN k (by omega); omega)]
      exact (eV _ (by omega) (fun c => by omega) (by omega)).trans (cS k (by omega))
