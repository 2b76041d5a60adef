/-- a list behind an adding -/
def mLQ (G : mG) (V : mV) (α : Nat → Nat) (u : mV × (Nat → Nat)) (i n base : Nat) : Prop := mLs G u.1 u.2 i (n + 1) base ∧ (∀ x, x ≠ i → (∀ c, x ≠ 400 + 3 * c + i) → u.1 x = V x) ∧ (∀ x, V x ≠ none → u.2 x = α x)
theorem mLs.md {G : mG} {V : mV} {α : Nat → Nat} {i n base ed : Nat} {md : Int32} (h : mLs G V α i n base) (hi : i < 400) (hv : V i = some (.inr (0, [.int md, .ref ed, .int (nI n)]))) (md1 : Int32) : mLs G (vup V i (.inr (0, [.int md1, .ref ed, .int (nI n)]))) α i n base := by
  obtain ⟨md0, cap, row, h1, h2, h3, h4⟩ := h
  refine ⟨md1, cap, row, h1, h2, fun c hc => (vup_n _ _ (by omega)).trans (h3 c hc), ?_⟩
  rcases h4 with ⟨g1, g2, g3⟩ | ⟨g1, g2, g3, g4⟩
  · rw [g3] at hv
    cases hv
    exact Or.inl ⟨g1, g2, vup_s _ _ _⟩
  · rw [g2] at hv
    cases hv
    exact Or.inr ⟨g1, vup_s _ _ _, (vup_n _ _ (by omega)).trans g3, g4⟩
theorem mLQ.N {G : mG} {V : mV} {α : Nat → Nat} {i n base cap : Nat} {md : Int32} {row : Nat → Option Nat} (hi : i < 400) (hcap : cap ≤ 200) (hn : n < cap) (h2 : 2 ≤ cap) (hfree : ∀ c, cap < c → V (400 + 3 * c + i) = none) (hrow : ∀ k, k < n → row k = some (α (base + k))) :
    mLQ G V α (vup (vup V (400 + 3 * cap + i) (.inl (G.2.2.2.1, cap, .inr (.inr (.inr (.inr (va_up row n (some (α (base + n)))))))))) i (.inr (0, [.int md, .ref (α (400 + 3 * cap + i)), .int (nI (n + 1))])), α) i n base := by
  refine ⟨⟨md, cap, va_up row n (some (α (base + n))), by omega, hcap, fun c hc => ?_, Or.inr ⟨h2, vup_s _ _ _, ?_, fun k hk => ?_⟩⟩, fun x h1 h2 => ?_, fun _ _ => rfl⟩
  · show vup _ _ _ _ = _
    rw [vup_n _ _ (by omega), vup_n _ _ (by omega)]
    exact hfree c hc
  · show vup _ _ _ _ = _
    rw [vup_n _ _ (by omega), vup_s]
  · by_cases c : k = n
    · subst c; exact va_up_self _ _ _
    · rw [va_up_ne _ _ c]; exact hrow k (by omega)
  · show vup _ _ _ _ = _
    rw [vup_n _ _ h1, vup_n _ _ (h2 cap)]
theorem mLQ.G {G : mG} {V : mV} {α α1 : Nat → Nat} {i n base cap0 cap : Nat} {md : Int32} {row : Nat → Option Nat} {e1 e2 : va_E} (hi : i < 400) (hcap : cap ≤ 200) (hn : n < cap) (h2 : 2 ≤ cap) (h02 : cap0 < cap) (hfree : ∀ c, cap0 < c → V (400 + 3 * c + i) = none) (h1 : ∀ x, x ≠ 400 + 3 * cap + i → α1 x = α x) (hrow : ∀ k, k < n → row k = some (α (base + k))) (hb : base + n < 400) :
    mLQ G V α (vup (vup (vup (vup V (400 + 3 * cap + i) e1) i e2) (400 + 3 * cap + i) (.inl (G.2.2.2.1, cap, .inr (.inr (.inr (.inr (va_up row n (some (α1 (base + n)))))))))) i (.inr (0, [.int md, .ref (α1 (400 + 3 * cap + i)), .int (nI (n + 1))])), α1) i n base := by
  refine ⟨⟨md, cap, va_up row n (some (α1 (base + n))), by omega, hcap, fun c hc => ?_, Or.inr ⟨h2, vup_s _ _ _, ?_, fun k hk => ?_⟩⟩, fun x h1 h2 => ?_, fun x hx => h1 x (fun q => hx (by rw [q]; exact hfree cap h02))⟩
  · show vup _ _ _ _ = _
    rw [vup_n _ _ (by omega), vup_n _ _ (by omega), vup_n _ _ (by omega), vup_n _ _ (by omega)]
    exact hfree c (by omega)
  · show vup _ _ _ _ = _
    rw [vup_n _ _ (by omega), vup_s]
  · by_cases c : k = n
    · subst c; exact va_up_self _ _ _
    · rw [va_up_ne _ _ c, hrow k (by omega)]; exact congrArg some (h1 (base + k) (by omega)).symm
  · show vup _ _ _ _ = _
    rw [vup_n _ _ h1, vup_n _ _ (h2 cap), vup_n _ _ h1, vup_n _ _ (h2 cap)]
theorem cpy_row {row : Nat → Option Nat} {α : Nat → Nat} {base n : Nat} (hrow : ∀ k, k < n → row k = some (α (base + k))) : ∀ k, k < n → va_cpy row (fun _ => none) 0 0 n k = some (α (base + k)) := fun k hk => by
  rw [pk_cpy_in (f := row) (g := fun _ => none) (sp := 0) (dp := 0) (n := n) (j := k) (Nat.zero_le _) (by omega), Nat.sub_zero, Nat.zero_add]
  exact hrow k hk
theorem vup_nn {V : mV} {i x : Nat} {e : va_E} (h : V x ≠ none) : vup V i e x ≠ none := by
  by_cases c : x = i
  · rw [c, vup_s]; exact fun z => by cases z
  · rw [vup_n _ _ c]; exact h
