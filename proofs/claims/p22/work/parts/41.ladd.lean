/-- a list behind an adding -/
def mLQ (G : mG) (V : mV) (α : Nat → Nat) (u : mV × (Nat → Nat)) (i n base : Nat) : Prop := mLs G u.1 u.2 i (n + 1) base ∧ (∀ x, x ≠ i → (∀ c, x ≠ 400 + 3 * c + i) → u.1 x = V x) ∧ (∀ x, (∀ c, x ≠ 400 + 3 * c + i) → u.2 x = α x)
theorem mLs.md {G : mG} {V : mV} {α : Nat → Nat} {i n base ed : Nat} {md : Int32} (h : mLs G V α i n base) (hi : i < 400) (hv : V i = some (.inr (0, [.int md, .ref ed, .int (nI n)]))) (md1 : Int32) : mLs G (vup V i (.inr (0, [.int md1, .ref ed, .int (nI n)]))) α i n base := by
  obtain ⟨md0, cap, row, h1, h2, h3, h4⟩ := h
  refine ⟨md1, cap, row, h1, h2, fun c hc => (vup_n _ _ (by omega)).trans (h3 c hc), ?_⟩
  rcases h4 with ⟨g1, g2, g3⟩ | ⟨g1, g2, g3, g4⟩
  · rw [g3] at hv
    cases hv
    exact Or.inl ⟨g1, g2, vup_s _ _ _⟩
  · rw [g2] at hv
    cases hv
    exact Or.inr ⟨g1, vup_s _ _ _, (vup_n _ _ (by omega)).trans g3, g4⟩
theorem mLQ.N {G : mG} {V : mV} {α : Nat → Nat} {i n base cap : Nat} {md : Int32} {row : Nat → Option Nat} (hi : i < 400) (hcap : cap ≤ 200) (hn : n < cap) (h2 : 2 ≤ cap) (hfree : ∀ c, cap < c → V (400 + 3 * c + i) = none) (hrow : ∀ k, k < n → row k = some (α (base + k))) :
    mLQ G V α (vup (vup V (400 + 3 * cap + i) (.inl (G.2.2.2.1, cap, .inr (.inr (.inr (.inr (va_up row n (some (α (base + n)))))))))) i (.inr (0, [.int md, .ref (α (400 + 3 * cap + i)), .int (nI (n + 1))])), α) i n base := by
  refine ⟨⟨md, cap, va_up row n (some (α (base + n))), by omega, hcap, fun c hc => ?_, Or.inr ⟨h2, vup_s _ _ _, ?_, fun k hk => ?_⟩⟩, fun x h1 h2 => ?_, fun _ _ => rfl⟩
  · show vup _ _ _ _ = _
    rw [vup_n _ _ (by omega), vup_n _ _ (by omega)]
    exact hfree c hc
  · show vup _ _ _ _ = _
    rw [vup_n _ _ (by omega), vup_s]
  · by_cases c : k = n
    · subst c; exact va_up_self _ _ _
    · rw [va_up_ne _ _ c]; exact hrow k (by omega)
  · show vup _ _ _ _ = _
    rw [vup_n _ _ h1, vup_n _ _ (h2 cap)]
theorem mLQ.G {G : mG} {V : mV} {α α1 : Nat → Nat} {i n base cap0 cap : Nat} {md : Int32} {row : Nat → Option Nat} {e1 e2 : va_E} (hi : i < 400) (hcap : cap ≤ 200) (hn : n < cap) (h2 : 2 ≤ cap) (h02 : cap0 < cap) (hfree : ∀ c, cap0 < c → V (400 + 3 * c + i) = none) (h1 : ∀ x, x ≠ 400 + 3 * cap + i → α1 x = α x) (hrow : ∀ k, k < n → row k = some (α (base + k))) (hb : base + n < 400) :
    mLQ G V α (vup (vup (vup (vup V (400 + 3 * cap + i) e1) i e2) (400 + 3 * cap + i) (.inl (G.2.2.2.1, cap, .inr (.inr (.inr (.inr (va_up row n (some (α1 (base + n)))))))))) i (.inr (0, [.int md, .ref (α1 (400 + 3 * cap + i)), .int (nI (n + 1))])), α1) i n base := by
  refine ⟨⟨md, cap, va_up row n (some (α1 (base + n))), by omega, hcap, fun c hc => ?_, Or.inr ⟨h2, vup_s _ _ _, ?_, fun k hk => ?_⟩⟩, fun x h1 h2 => ?_, fun x hx => h1 x (hx cap)⟩
  · show vup _ _ _ _ = _
    rw [vup_n _ _ (by omega), vup_n _ _ (by omega), vup_n _ _ (by omega), vup_n _ _ (by omega)]
    exact hfree c (by omega)
  · show vup _ _ _ _ = _
    rw [vup_n _ _ (by omega), vup_s]
  · by_cases c : k = n
    · subst c; exact va_up_self _ _ _
    · rw [va_up_ne _ _ c, hrow k (by omega)]; exact congrArg some (h1 (base + k) (by omega)).symm
  · show vup _ _ _ _ = _
    rw [vup_n _ _ h1, vup_n _ _ (h2 cap), vup_n _ _ h1, vup_n _ _ (h2 cap)]
theorem cpy_row {row : Nat → Option Nat} {α : Nat → Nat} {base n : Nat} (hrow : ∀ k, k < n → row k = some (α (base + k))) : ∀ k, k < n → va_cpy row (fun _ => none) 0 0 n k = some (α (base + k)) := fun k hk => by
  rw [pk_cpy_in (f := row) (g := fun _ => none) (sp := 0) (dp := 0) (n := n) (j := k) (Nat.zero_le _) (by omega), Nat.sub_zero, Nat.zero_add]
  exact hrow k hk
theorem vup_nn {V : mV} {i x : Nat} {e : va_E} (h : V x ≠ none) : vup V i e x ≠ none := by
  by_cases c : x = i
  · rw [c, vup_s]; exact fun z => by cases z
  · rw [vup_n _ _ c]; exact h
theorem mLs.mv {G : mG} {V V1 : mV} {α α1 : Nat → Nat} {i n base : Nat} (h : mLs G V α i n base) (hV : ∀ j, (j = i ∨ ∃ c, j = 400 + 3 * c + i) → V1 j = V j) (hα : ∀ j, ((∃ c, j = 400 + 3 * c + i) ∨ (base ≤ j ∧ j < base + n)) → α1 j = α j) : mLs G V1 α1 i n base := by
  obtain ⟨md, cap, row, h1, h2, h3, h4⟩ := h
  refine ⟨md, cap, row, h1, h2, fun c hc => (hV _ (Or.inr ⟨c, rfl⟩)).trans (h3 c hc), ?_⟩
  rcases h4 with ⟨g1, g2, g3⟩ | ⟨g1, g2, g3, g4⟩
  · exact Or.inl ⟨g1, g2, (hV _ (Or.inl rfl)).trans g3⟩
  · refine Or.inr ⟨g1, ?_, (hV _ (Or.inr ⟨cap, rfl⟩)).trans g3, fun k hk => ?_⟩
    · rw [hα _ (Or.inl ⟨cap, rfl⟩)]; exact (hV _ (Or.inl rfl)).trans g2
    · rw [hα _ (Or.inr ⟨by omega, by omega⟩)]; exact g4 k hk
theorem cobj_mv {α α1 : Nat → Nat} (h : ∀ j, j < 400 → α1 j = α j) : cobj α1 = cobj α := by
  show (.inr (4, [.ref (α1 1), .ref (α1 2), .ref (α1 3), .ref (α1 4), .ref (α1 5)]) : va_E) = .inr (4, [.ref (α 1), .ref (α 2), .ref (α 3), .ref (α 4), .ref (α 5)])
  rw [h 1 (by decide), h 2 (by decide), h 3 (by decide), h 4 (by decide), h 5 (by decide)]
theorem sobj_mv {α α1 : Nat → Nat} (f : sT) {k : Nat} (hk : wN f k < 12) (h : ∀ w, w < 12 → α1 (200 + w) = α (200 + w)) : sobj α1 f k = sobj α f k := by
  show (.inr (2, [.ref (α1 (200 + wN f k)), .int (f 10 k), .int (f 11 k), .int (f 12 k), .int (f 13 k)]) : va_E) = .inr (2, [.ref (α (200 + wN f k)), .int (f 10 k), .int (f 11 k), .int (f 12 k), .int (f 13 k)])
  rw [h _ hk]
