theorem mLs.keep {G : mG} {V V1 : mV} {α : Nat → Nat} {i n base : Nat} (h : mLs G V α i n base) (hV : ∀ j, (j = i ∨ 400 ≤ j) → V1 j = V j) : mLs G V1 α i n base := by
  obtain ⟨md, cap, row, h1, h2, h3, h4⟩ := h
  refine ⟨md, cap, row, h1, h2, fun c hc => (hV _ (Or.inr (by omega))).trans (h3 c hc), ?_⟩
  rcases h4 with ⟨g1, g2, g3⟩ | ⟨g1, g2, g3, g4⟩
  · exact Or.inl ⟨g1, g2, (hV _ (Or.inl rfl)).trans g3⟩
  · exact Or.inr ⟨g1, (hV _ (Or.inl rfl)).trans g2, (hV _ (Or.inr (by omega))).trans g3, g4⟩
theorem upd_s (f : Nat → Int32) (k : Nat) (x : Int32) : upd f k x k = x := if_pos rfl
theorem upd_n (f : Nat → Int32) {k j : Nat} (x : Int32) (h : j ≠ k) : upd f k x j = f j := if_neg h
theorem sub_sub1 (b : Int32) : 1 - (1 - b) = b := by
  have h : ∀ x : BitVec 32, 1 - (1 - x) = x := fun x => by bv_omega
  exact Int32.toBitVec_inj.mp (by simpa using h b.toBitVec)
theorem mC.base {G : mG} {V : mV} {α : Nat → Nat} {f : sT} {nr nw ns : Nat} (h : mC G V α f nr nw ns) (k : Nat) (x : Int32) : mC G (vup V 1 (.inl (G.2.2.1.1, 4, .inl (upd (f 0) k x)))) α (u2 f 0 k x) nr nw ns := by
  obtain ⟨k0, k1, k2, l3, l4, l5, cR, cW, cS, fR, fW, fS⟩ := h
  exact ⟨(vup_n _ _ (by decide)).trans k0, by rw [vup_s, u2_s], by rw [vup_n _ _ (by decide), u2_n _ _ _ _ (by decide)]; exact k2, l3.keep (fun j hj => vup_n _ _ (by omega)), l4.keep (fun j hj => vup_n _ _ (by omega)), l5.keep (fun j hj => vup_n _ _ (by omega)),
    fun z hz => (vup_n _ _ (by omega)).trans (cR z hz), fun z hz => (vup_n _ _ (by omega)).trans (cW z hz), fun z hz => (vup_n _ _ (by omega)).trans (cS z hz), fun z h1 h2 => (vup_n _ _ (by omega)).trans (fR z h1 h2), fun z h1 h2 => (vup_n _ _ (by omega)).trans (fW z h1 h2), fun z h1 h2 => (vup_n _ _ (by omega)).trans (fS z h1 h2)⟩
theorem mC.hol {G : mG} {V : mV} {α : Nat → Nat} {f : sT} {nr nw ns : Nat} (h : mC G V α f nr nw ns) (k : Nat) (x : Int32) : mC G (vup V 2 (.inl (G.2.2.1.2, 364, .inl (upd (f 7) k x)))) α (u2 f 7 k x) nr nw ns := by
  obtain ⟨k0, k1, k2, l3, l4, l5, cR, cW, cS, fR, fW, fS⟩ := h
  exact ⟨(vup_n _ _ (by decide)).trans k0, by rw [vup_n _ _ (by decide), u2_n _ _ _ _ (by decide)]; exact k1, by rw [vup_s, u2_s], l3.keep (fun j hj => vup_n _ _ (by omega)), l4.keep (fun j hj => vup_n _ _ (by omega)), l5.keep (fun j hj => vup_n _ _ (by omega)),
    fun z hz => (vup_n _ _ (by omega)).trans (cR z hz), fun z hz => (vup_n _ _ (by omega)).trans (cW z hz), fun z hz => (vup_n _ _ (by omega)).trans (cS z hz), fun z h1 h2 => (vup_n _ _ (by omega)).trans (fR z h1 h2), fun z h1 h2 => (vup_n _ _ (by omega)).trans (fW z h1 h2), fun z h1 h2 => (vup_n _ _ (by omega)).trans (fS z h1 h2)⟩
theorem mC.rule {G : mG} {V : mV} {α : Nat → Nat} {f : sT} {nr nw ns : Nat} (h : mC G V α f nr nw ns) (hnr : nr ≤ 16) (k : Nat) (hk : k < nr) (b : Int32) : mC G (vup V (100 + k) (.inr (1, [.int (nI k), .int (f 1 k), .int (f 2 k), .int (f 3 k), .int (f 4 k), .int (f 5 k), .int b]))) α (u2 f 6 k (1 - b)) nr nw ns := by
  obtain ⟨k0, k1, k2, l3, l4, l5, cR, cW, cS, fR, fW, fS⟩ := h
  refine ⟨(vup_n _ _ (by omega)).trans k0, (vup_n _ _ (by omega)).trans k1, (vup_n _ _ (by omega)).trans k2, l3.keep (fun j hj => vup_n _ _ (by omega)), l4.keep (fun j hj => vup_n _ _ (by omega)), l5.keep (fun j hj => vup_n _ _ (by omega)),
    fun z hz => ?_, fun z hz => (vup_n _ _ (by omega)).trans (cW z hz), fun z hz => (vup_n _ _ (by omega)).trans (cS z hz), fun z h1 h2 => (vup_n _ _ (by omega)).trans (fR z h1 h2), fun z h1 h2 => (vup_n _ _ (by omega)).trans (fW z h1 h2), fun z h1 h2 => (vup_n _ _ (by omega)).trans (fS z h1 h2)⟩
  by_cases c : z = k
  · subst c
    rw [vup_s]
    show (some (.inr (1, [.int (nI z), .int (f 1 z), .int (f 2 z), .int (f 3 z), .int (f 4 z), .int (f 5 z), .int b])) : Option va_E) = some (.inr (1, [.int (nI z), .int (f 1 z), .int (f 2 z), .int (f 3 z), .int (f 4 z), .int (f 5 z), .int (1 - upd (f 6) z (1 - b) z)]))
    rw [upd_s, sub_sub1]
  · rw [vup_n _ _ (by omega), cR z hz]
    show (some (.inr (1, [.int (nI z), .int (f 1 z), .int (f 2 z), .int (f 3 z), .int (f 4 z), .int (f 5 z), .int (1 - f 6 z)])) : Option va_E) = some (.inr (1, [.int (nI z), .int (f 1 z), .int (f 2 z), .int (f 3 z), .int (f 4 z), .int (f 5 z), .int (1 - upd (f 6) k (1 - b) z)]))
    rw [upd_n _ _ c]
theorem mC.work {G : mG} {V : mV} {α : Nat → Nat} {f : sT} {nr nw ns : Nat} (h : mC G V α f nr nw ns) (hnr : nr ≤ 16) (hnw : nw ≤ 12) (k : Nat) (hk : k < nw) (x : Int32) : mC G (vup V (200 + k) (.inr (3, [.int x]))) α (u2 f 8 k x) nr nw ns := by
  obtain ⟨k0, k1, k2, l3, l4, l5, cR, cW, cS, fR, fW, fS⟩ := h
  refine ⟨(vup_n _ _ (by omega)).trans k0, (vup_n _ _ (by omega)).trans k1, (vup_n _ _ (by omega)).trans k2, l3.keep (fun j hj => vup_n _ _ (by omega)), l4.keep (fun j hj => vup_n _ _ (by omega)), l5.keep (fun j hj => vup_n _ _ (by omega)),
    fun z hz => ?_, fun z hz => ?_, fun z hz => (vup_n _ _ (by omega)).trans (cS z hz), fun z h1 h2 => (vup_n _ _ (by omega)).trans (fR z h1 h2), fun z h1 h2 => (vup_n _ _ (by omega)).trans (fW z h1 h2), fun z h1 h2 => (vup_n _ _ (by omega)).trans (fS z h1 h2)⟩
  · by_cases c : 100 + z = 200 + k
    · exact absurd (fR z) (by intro q; omega)
    · exact (vup_n _ _ c).trans (cR z hz)
  · by_cases c : z = k
    · subst c
      rw [vup_s]
      show (some (.inr (3, [.int x])) : Option va_E) = some (.inr (3, [.int (upd (f 8) z x z)]))
      rw [upd_s]
    · rw [vup_n _ _ (by omega), cW z hz]
      show (some (.inr (3, [.int (f 8 z)])) : Option va_E) = some (.inr (3, [.int (upd (f 8) k x z)]))
      rw [upd_n _ _ c]
theorem mC.taken {G : mG} {V : mV} {α : Nat → Nat} {f : sT} {nr nw ns : Nat} (h : mC G V α f nr nw ns) (hnr : nr ≤ 16) (hnw : nw ≤ 12) (hns : ns ≤ 80) (k : Nat) (hk : k < ns) (x : Int32) : mC G (vup V (300 + k) (.inr (2, [.ref (α (200 + wN f k)), .int (f 10 k), .int (f 11 k), .int x, .int (f 13 k)]))) α (u2 f 12 k x) nr nw ns := by
  obtain ⟨k0, k1, k2, l3, l4, l5, cR, cW, cS, fR, fW, fS⟩ := h
  refine ⟨(vup_n _ _ (by omega)).trans k0, (vup_n _ _ (by omega)).trans k1, (vup_n _ _ (by omega)).trans k2, l3.keep (fun j hj => vup_n _ _ (by omega)), l4.keep (fun j hj => vup_n _ _ (by omega)), l5.keep (fun j hj => vup_n _ _ (by omega)),
    fun z hz => (vup_n _ _ (by omega)).trans (cR z hz), fun z hz => (vup_n _ _ (by omega)).trans (cW z hz), fun z hz => ?_, fun z h1 h2 => (vup_n _ _ (by omega)).trans (fR z h1 h2), fun z h1 h2 => (vup_n _ _ (by omega)).trans (fW z h1 h2), fun z h1 h2 => (vup_n _ _ (by omega)).trans (fS z h1 h2)⟩
  by_cases c : z = k
  · subst c
    rw [vup_s]
    show (some (.inr (2, [.ref (α (200 + wN f z)), .int (f 10 z), .int (f 11 z), .int x, .int (f 13 z)])) : Option va_E) = some (.inr (2, [.ref (α (200 + wN f z)), .int (f 10 z), .int (f 11 z), .int (upd (f 12) z x z), .int (f 13 z)]))
    rw [upd_s]
  · rw [vup_n _ _ (by omega), cS z hz]
    show (some (.inr (2, [.ref (α (200 + wN f z)), .int (f 10 z), .int (f 11 z), .int (f 12 z), .int (f 13 z)])) : Option va_E) = some (.inr (2, [.ref (α (200 + wN f z)), .int (f 10 z), .int (f 11 z), .int (upd (f 12) k x z), .int (f 13 z)]))
    rw [upd_n _ _ c]
theorem mC.gone {G : mG} {V : mV} {α : Nat → Nat} {f : sT} {nr nw ns : Nat} (h : mC G V α f nr nw ns) (hnr : nr ≤ 16) (hnw : nw ≤ 12) (hns : ns ≤ 80) (k : Nat) (hk : k < ns) (x : Int32) : mC G (vup V (300 + k) (.inr (2, [.ref (α (200 + wN f k)), .int (f 10 k), .int (f 11 k), .int (f 12 k), .int x]))) α (u2 f 13 k x) nr nw ns := by
  obtain ⟨k0, k1, k2, l3, l4, l5, cR, cW, cS, fR, fW, fS⟩ := h
  refine ⟨(vup_n _ _ (by omega)).trans k0, (vup_n _ _ (by omega)).trans k1, (vup_n _ _ (by omega)).trans k2, l3.keep (fun j hj => vup_n _ _ (by omega)), l4.keep (fun j hj => vup_n _ _ (by omega)), l5.keep (fun j hj => vup_n _ _ (by omega)),
    fun z hz => (vup_n _ _ (by omega)).trans (cR z hz), fun z hz => (vup_n _ _ (by omega)).trans (cW z hz), fun z hz => ?_, fun z h1 h2 => (vup_n _ _ (by omega)).trans (fR z h1 h2), fun z h1 h2 => (vup_n _ _ (by omega)).trans (fW z h1 h2), fun z h1 h2 => (vup_n _ _ (by omega)).trans (fS z h1 h2)⟩
  by_cases c : z = k
  · subst c
    rw [vup_s]
    show (some (.inr (2, [.ref (α (200 + wN f z)), .int (f 10 z), .int (f 11 z), .int (f 12 z), .int x])) : Option va_E) = some (.inr (2, [.ref (α (200 + wN f z)), .int (f 10 z), .int (f 11 z), .int (f 12 z), .int (upd (f 13) z x z)]))
    rw [upd_s]
  · rw [vup_n _ _ (by omega), cS z hz]
    show (some (.inr (2, [.ref (α (200 + wN f z)), .int (f 10 z), .int (f 11 z), .int (f 12 z), .int (f 13 z)])) : Option va_E) = some (.inr (2, [.ref (α (200 + wN f z)), .int (f 10 z), .int (f 11 z), .int (f 12 z), .int (upd (f 13) k x z)]))
    rw [upd_n _ _ c]
