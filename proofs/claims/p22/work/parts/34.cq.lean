/-- the class behind a call: the law's row and the model's cells have not changed -/
def mCQ (G : mG) (V : mV) (α : Nat → Nat) (u : mV × (Nat → Nat)) (f : sT) (nr nw ns : Nat) : Prop := mC G u.1 u.2 f nr nw ns ∧ ∀ j, j < 100 → (9 ≤ j → u.1 j = V j) ∧ u.2 j = α j
theorem z1_fit {x : Int32} (h : x = 0 ∨ x = 1) : fits .boolean (.int x) = true := by
  rcases h with h | h <;> subst h <;> rfl
theorem s_po_hit {f : sT} {nr wi j : Nat} {lo hi : Int32} (h9 : f 9 j = nI (wN f j)) (e : wN f j = wi) {d : Int32} (hd : f 10 j / 96 = d) (h1 : ¬ d < lo) (h2 : ¬ hi < d) : s_po f nr (nI wi) lo hi (j + 1) = s_po f nr (nI wi) lo hi j + s_pay f nr j := by
  show _ + s_po1 f nr (nI wi) lo hi j = _
  unfold s_po1
  rw [if_pos (by rw [h9, e]), hd, if_pos ⟨h1, h2⟩]
theorem s_po_miss {f : sT} {nr wi j : Nat} {lo hi : Int32} (h9 : f 9 j = nI (wN f j)) (hwl : wN f j < 12) (hwi : wi < 12) {d : Int32} (hd : f 10 j / 96 = d) (h : wN f j = wi → ¬ d < lo → ¬ hi < d → False) : s_po f nr (nI wi) lo hi (j + 1) = s_po f nr (nI wi) lo hi j := by
  show _ + s_po1 f nr (nI wi) lo hi j = _
  unfold s_po1
  by_cases e : wN f j = wi
  · rw [if_pos (by rw [h9, e]), hd, if_neg (fun z => h e z.1 z.2), Int32.add_zero]
  · rw [if_neg (fun z => e ((nI_eq (by omega) (by omega)).mp (h9.symm.trans z))), Int32.add_zero]
def s_mx (x y : Int32) : Int32 := if x < y then y else x
