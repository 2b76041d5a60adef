def hFS : Nat → sT
  | 0 => hF21
  | j + 1 => u2 (u2 (u2 (hFS j) 9 (18 + j) (nI 0)) 10 (18 + j) (nI ((60 + 4 * (18 + j)) * 96 + 0))) 11 (18 + j) (nI 5)
theorem wf_hFS : ∀ j, j ≤ 58 → mwf (hFS j) 0 1 (18 + j)
  | 0, _ => wf_hF21
  | j + 1, h => wf_addS (wf_hFS j (by omega)) (by omega) (by decide) (by omega) (by decide) (by decide)
set_option maxRecDepth 100000 in
theorem hFS_ov : ∀ j, j < 58 → ¬ 0 < s_wb (hFS j) 0 (nI ((60 + 4 * (18 + j)) * 96 + 0)) (nI ((60 + 4 * (18 + j)) * 96 + 0 + 5)) (18 + j) := by decide +kernel
def hFe : sT := hFS 58
theorem wf_hFe : mwf hFe 0 1 76 := wf_hFS 58 (by decide)
