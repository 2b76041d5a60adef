/-! the runs by hand: their states, one behind the other -/
theorem mH0 {G : mG} {H : Heap} (h : G.1.1 ≤ H.size) : mH G (fun _ => none) (fun _ => 0) H := ⟨fun i e h => (by cases h), fun i j e f h => (by cases h), h⟩
theorem wf00 : mwf f00 0 0 0 := ⟨⟨by omega, by omega, by omega⟩, fun s hs => by omega, fun w hw => by omega, fun k hk => by omega, fun d => Or.inl rfl, fun k _ => rfl, fun k _ => ⟨rfl, rfl⟩⟩
theorem wf_f00 : mwf f00 0 0 0 := wf00
set_option maxRecDepth 100000 in
theorem av0 : nI 0 = 0 := by decide +kernel
def aF1 : sT := u2 f00 8 0 (nI 0)
theorem wf_aF1 : mwf aF1 0 1 0 := wf_addW wf_f00 (by decide) (by decide)
def aF2 : sT := u2 aF1 8 1 (nI 2)
theorem wf_aF2 : mwf aF2 0 2 0 := wf_addW wf_aF1 (by decide) (by decide)
def aF3 : sT := u2 (u2 (u2 (u2 (u2 aF2 1 0 96) 2 0 0) 3 0 96) 4 0 15) 5 0 150
theorem wf_aF3 : mwf aF3 1 2 0 := wf_addR wf_aF2 (by decide) 96 0 96 15 150
def aF4 : sT := u2 (u2 (u2 (u2 (u2 aF3 1 1 127) 2 1 80) 3 1 96) 4 1 1) 5 1 125
theorem wf_aF4 : mwf aF4 2 2 0 := wf_addR wf_aF3 (by decide) 127 80 96 1 125
def aF5 : sT := u2 (u2 (u2 (u2 (u2 aF4 1 2 0) 2 2 0) 3 2 96) 4 2 3) 5 2 250
theorem wf_aF5 : mwf aF5 3 2 0 := wf_addR wf_aF4 (by decide) 0 0 96 3 250
def aF6 : sT := u2 (u2 (u2 (u2 (u2 aF5 1 3 127) 2 3 0) 3 3 24) 4 3 15) 5 3 130
theorem wf_aF6 : mwf aF6 4 2 0 := wf_addR wf_aF5 (by decide) 127 0 24 15 130
set_option maxRecDepth 100000 in
theorem av1 : ¬ 0 < s_wb aF6 0 (nI (0 * 96 + 76)) (nI (0 * 96 + 76 + 8)) 0 := by decide +kernel
def aF7 : sT := u2 (u2 (u2 aF6 9 0 (nI 0)) 10 0 (nI (0 * 96 + 76))) 11 0 (nI 8)
theorem wf_aF7 : mwf aF7 4 2 1 := wf_addS wf_aF6 (by decide) (by decide) (by decide) (by decide) (by decide)
set_option maxRecDepth 100000 in
theorem av2 : s_paid aF7 0 = 12 := by decide +kernel
set_option maxRecDepth 100000 in
theorem av3 : 3 < pN aF7 0 := by decide +kernel
set_option maxRecDepth 100000 in
theorem av4 : s_P aF7 (wN aF7 0) (aN aF7 0) 3 4 = 100 := by decide +kernel
set_option maxRecDepth 100000 in
theorem av5 : s_R aF7 4 (wN aF7 0) (aN aF7 0) 3 = (-1) := by decide +kernel
set_option maxRecDepth 100000 in
theorem av6 : 4 < pN aF7 0 := by decide +kernel
set_option maxRecDepth 100000 in
theorem av7 : s_P aF7 (wN aF7 0) (aN aF7 0) 4 4 = 125 := by decide +kernel
set_option maxRecDepth 100000 in
theorem av8 : s_R aF7 4 (wN aF7 0) (aN aF7 0) 4 = 1 := by decide +kernel
set_option maxRecDepth 100000 in
theorem av9 : 11 < pN aF7 0 := by decide +kernel
set_option maxRecDepth 100000 in
theorem av10 : s_P aF7 (wN aF7 0) (aN aF7 0) 11 4 = 125 := by decide +kernel
set_option maxRecDepth 100000 in
theorem av11 : s_R aF7 4 (wN aF7 0) (aN aF7 0) 11 = 1 := by decide +kernel
set_option maxRecDepth 100000 in
theorem av12 : ¬ inn 12 0 (s_paid aF7 0 - 1) := by decide +kernel
set_option maxRecDepth 100000 in
theorem av13 : s_pay aF7 4 0 = 7000 := by decide +kernel
set_option maxRecDepth 100000 in
theorem av14 : s_lacks aF7 0 = 0 := by decide +kernel
set_option maxRecDepth 100000 in
theorem av15 : s_pb aF7 4 (nI 1) 1 = 5000 := by decide +kernel
set_option maxRecDepth 100000 in
theorem av16 : aF7 7 0 = 0 := by decide +kernel
def aF8 : sT := u2 aF7 7 0 1
theorem wf_aF8 : mwf aF8 4 2 1 := wf_hol wf_aF7 0 (by decide)
set_option maxRecDepth 100000 in
theorem av17 : 0 < pN aF8 0 := by decide +kernel
set_option maxRecDepth 100000 in
theorem av18 : s_P aF8 (wN aF8 0) (aN aF8 0) 0 4 = 250 := by decide +kernel
set_option maxRecDepth 100000 in
theorem av19 : s_R aF8 4 (wN aF8 0) (aN aF8 0) 0 = 2 := by decide +kernel
set_option maxRecDepth 100000 in
theorem av20 : s_pay aF8 4 0 = 15000 := by decide +kernel
set_option maxRecDepth 100000 in
theorem av21 : s_pb aF8 4 (nI 1) 1 = 0 := by decide +kernel
set_option maxRecDepth 100000 in
theorem av22 : s_pb aF8 4 (nI 2) 1 = 15000 := by decide +kernel
set_option maxRecDepth 100000 in
theorem av23 : aF8 8 0 = 0 := by decide +kernel
def aF9 : sT := u2 aF8 8 0 (nI 2)
theorem wf_aF9 : mwf aF9 4 2 1 := wf_rank wf_aF8 0 (by decide)
set_option maxRecDepth 100000 in
theorem av24 : s_pay aF9 4 0 = 6000 := by decide +kernel
set_option maxRecDepth 100000 in
theorem av25 : aF9 8 0 = 2 := by decide +kernel
def aF10 : sT := u2 aF9 8 0 (nI 0)
theorem wf_aF10 : mwf aF10 4 2 1 := wf_rank wf_aF9 0 (by decide)
set_option maxRecDepth 100000 in
theorem av26 : aF10 7 0 = 1 := by decide +kernel
def aF11 : sT := u2 aF10 7 0 0
theorem wf_aF11 : mwf aF11 4 2 1 := wf_hol wf_aF10 0 (by decide)
set_option maxRecDepth 100000 in
theorem av27 : s_pay aF11 4 0 = 7000 := by decide +kernel
set_option maxRecDepth 100000 in
theorem av28 : ¬ 0 < s_wb aF11 0 (nI (4 * 96 + 90)) (nI (4 * 96 + 90 + 20)) 1 := by decide +kernel
def aF12 : sT := u2 (u2 (u2 aF11 9 1 (nI 0)) 10 1 (nI (4 * 96 + 90))) 11 1 (nI 20)
theorem wf_aF12 : mwf aF12 4 2 2 := wf_addS wf_aF11 (by decide) (by decide) (by decide) (by decide) (by decide)
set_option maxRecDepth 100000 in
theorem av29 : s_paid aF12 1 = 20 := by decide +kernel
set_option maxRecDepth 100000 in
theorem av30 : 5 < pN aF12 1 := by decide +kernel
set_option maxRecDepth 100000 in
theorem av31 : s_P aF12 (wN aF12 1) (aN aF12 1) 5 4 = 125 := by decide +kernel
set_option maxRecDepth 100000 in
theorem av32 : s_R aF12 4 (wN aF12 1) (aN aF12 1) 5 = 1 := by decide +kernel
set_option maxRecDepth 100000 in
theorem av33 : 6 < pN aF12 1 := by decide +kernel
set_option maxRecDepth 100000 in
theorem av34 : s_P aF12 (wN aF12 1) (aN aF12 1) 6 4 = 150 := by decide +kernel
set_option maxRecDepth 100000 in
theorem av35 : s_R aF12 4 (wN aF12 1) (aN aF12 1) 6 = 0 := by decide +kernel
set_option maxRecDepth 100000 in
theorem av36 : s_lacks aF12 1 = 1 := by decide +kernel
set_option maxRecDepth 100000 in
theorem av37 : s_pay aF12 4 1 = 15250 := by decide +kernel
set_option maxRecDepth 100000 in
theorem av38 : aF12 13 1 = 0 := by decide +kernel
set_option maxRecDepth 100000 in
theorem av39 : aF12 12 1 = 0 := by decide +kernel
def aF13 : sT := u2 aF12 12 1 (nI 1)
theorem wf_aF13 : mwf aF13 4 2 2 := wf_taken wf_aF12 (by decide) (by decide)
set_option maxRecDepth 100000 in
theorem av40 : s_pay aF13 4 1 = 14250 := by decide +kernel
set_option maxRecDepth 100000 in
theorem av41 : aF13 13 1 = 0 := by decide +kernel
set_option maxRecDepth 100000 in
theorem av42 : aF13 12 1 = 1 := by decide +kernel
def aF14 : sT := u2 aF13 12 1 (nI 5)
theorem wf_aF14 : mwf aF14 4 2 2 := wf_taken wf_aF13 (by decide) (by decide)
set_option maxRecDepth 100000 in
theorem av43 : s_lacks aF14 1 = 0 := by decide +kernel
set_option maxRecDepth 100000 in
theorem av44 : 1 - aF14 6 0 = 1 := by decide +kernel
def aF15 : sT := u2 aF14 6 0 (1 - 0)
theorem wf_aF15 : mwf aF15 4 2 2 := wf_rule wf_aF14 (by decide) (by decide)
set_option maxRecDepth 100000 in
theorem av45 : 1 - aF15 6 0 = 0 := by decide +kernel
def aF16 : sT := u2 aF15 6 0 (1 - 0)
theorem wf_aF16 : mwf aF16 4 2 2 := wf_rule wf_aF15 (by decide) (by decide)
set_option maxRecDepth 100000 in
theorem av46 : 19 < pN aF16 1 := by decide +kernel
set_option maxRecDepth 100000 in
theorem av47 : s_P aF16 (wN aF16 1) (aN aF16 1) 19 4 = 130 := by decide +kernel
set_option maxRecDepth 100000 in
theorem av48 : s_R aF16 4 (wN aF16 1) (aN aF16 1) 19 = 3 := by decide +kernel
set_option maxRecDepth 100000 in
theorem av49 : s_pay aF16 4 1 = 12850 := by decide +kernel
set_option maxRecDepth 100000 in
theorem av50 : s_pb aF16 4 (nI 0) 2 = 0 := by decide +kernel
set_option maxRecDepth 100000 in
theorem av51 : s_pb aF16 4 (nI 3) 2 = 9100 := by decide +kernel
set_option maxRecDepth 100000 in
theorem av52 : 1 - aF16 6 0 = 0 := by decide +kernel
def aF17 : sT := u2 aF16 6 0 (1 - 1)
theorem wf_aF17 : mwf aF17 4 2 2 := wf_rule wf_aF16 (by decide) (by decide)
set_option maxRecDepth 100000 in
theorem av53 : s_po aF17 4 (nI 0) 0 3 2 = 7000 := by decide +kernel
set_option maxRecDepth 100000 in
theorem av54 : s_po aF17 4 (nI 0) 4 4 2 = 14250 := by decide +kernel
set_option maxRecDepth 100000 in
theorem av55 : s_po aF17 4 (nI 0) 5 363 2 = 0 := by decide +kernel
set_option maxRecDepth 100000 in
theorem av56 : s_po aF17 4 (nI 0) 0 363 2 = 21250 := by decide +kernel
set_option maxRecDepth 100000 in
theorem av57 : s_po aF17 4 (nI 1) 0 363 2 = 0 := by decide +kernel
set_option maxRecDepth 100000 in
theorem av58 : s_wb aF17 0 (nI 0 * 672) ((nI 0 + 1) * 672) 2 = 28 := by decide +kernel
set_option maxRecDepth 100000 in
theorem av59 : s_wb aF17 0 (nI 1 * 672) ((nI 1 + 1) * 672) 2 = 0 := by decide +kernel
set_option maxRecDepth 100000 in
theorem av60 : ¬ 0 < s_wb aF17 1 (nI (1 * 96 + 30)) (nI (1 * 96 + 30 + 45)) 2 := by decide +kernel
def aF18 : sT := u2 (u2 (u2 aF17 9 2 (nI 1)) 10 2 (nI (1 * 96 + 30))) 11 2 (nI 45)
theorem wf_aF18 : mwf aF18 4 2 3 := wf_addS wf_aF17 (by decide) (by decide) (by decide) (by decide) (by decide)
set_option maxRecDepth 100000 in
theorem av61 : 31 < pN aF18 2 := by decide +kernel
set_option maxRecDepth 100000 in
theorem av62 : s_P aF18 (wN aF18 2) (aN aF18 2) 31 4 = 100 := by decide +kernel
set_option maxRecDepth 100000 in
theorem av63 : s_R aF18 4 (wN aF18 2) (aN aF18 2) 31 = (-1) := by decide +kernel
set_option maxRecDepth 100000 in
theorem av64 : 32 < pN aF18 2 := by decide +kernel
set_option maxRecDepth 100000 in
theorem av65 : s_P aF18 (wN aF18 2) (aN aF18 2) 32 4 = 150 := by decide +kernel
set_option maxRecDepth 100000 in
theorem av66 : s_R aF18 4 (wN aF18 2) (aN aF18 2) 32 = (-2) := by decide +kernel
set_option maxRecDepth 100000 in
theorem av67 : 39 < pN aF18 2 := by decide +kernel
set_option maxRecDepth 100000 in
theorem av68 : s_P aF18 (wN aF18 2) (aN aF18 2) 39 4 = 150 := by decide +kernel
set_option maxRecDepth 100000 in
theorem av69 : s_R aF18 4 (wN aF18 2) (aN aF18 2) 39 = (-2) := by decide +kernel
set_option maxRecDepth 100000 in
theorem av70 : 40 < pN aF18 2 := by decide +kernel
set_option maxRecDepth 100000 in
theorem av71 : s_P aF18 (wN aF18 2) (aN aF18 2) 40 4 = 200 := by decide +kernel
set_option maxRecDepth 100000 in
theorem av72 : s_R aF18 4 (wN aF18 2) (aN aF18 2) 40 = (-2) := by decide +kernel
set_option maxRecDepth 100000 in
theorem av73 : s_lacks aF18 2 = 2 := by decide +kernel
set_option maxRecDepth 100000 in
theorem av74 : s_pay aF18 4 2 = 29000 := by decide +kernel
def aF19 : sT := u2 (u2 (u2 (u2 (u2 aF18 1 4 2) 2 4 62) 3 4 66) 4 4 4) 5 4 150
theorem wf_aF19 : mwf aF19 5 2 3 := wf_addR wf_aF18 (by decide) 2 62 66 4 150
set_option maxRecDepth 100000 in
theorem av75 : 31 < pN aF19 2 := by decide +kernel
set_option maxRecDepth 100000 in
theorem av76 : s_P aF19 (wN aF19 2) (aN aF19 2) 31 5 = 100 := by decide +kernel
set_option maxRecDepth 100000 in
theorem av77 : s_R aF19 5 (wN aF19 2) (aN aF19 2) 31 = (-1) := by decide +kernel
set_option maxRecDepth 100000 in
theorem av78 : 32 < pN aF19 2 := by decide +kernel
set_option maxRecDepth 100000 in
theorem av79 : s_P aF19 (wN aF19 2) (aN aF19 2) 32 5 = 150 := by decide +kernel
set_option maxRecDepth 100000 in
theorem av80 : s_R aF19 5 (wN aF19 2) (aN aF19 2) 32 = 4 := by decide +kernel
set_option maxRecDepth 100000 in
theorem av81 : 35 < pN aF19 2 := by decide +kernel
set_option maxRecDepth 100000 in
theorem av82 : s_P aF19 (wN aF19 2) (aN aF19 2) 35 5 = 150 := by decide +kernel
set_option maxRecDepth 100000 in
theorem av83 : s_R aF19 5 (wN aF19 2) (aN aF19 2) 35 = 4 := by decide +kernel
set_option maxRecDepth 100000 in
theorem av84 : 36 < pN aF19 2 := by decide +kernel
set_option maxRecDepth 100000 in
theorem av85 : s_P aF19 (wN aF19 2) (aN aF19 2) 36 5 = 150 := by decide +kernel
set_option maxRecDepth 100000 in
theorem av86 : s_R aF19 5 (wN aF19 2) (aN aF19 2) 36 = (-2) := by decide +kernel
set_option maxRecDepth 100000 in
theorem av87 : s_pay aF19 5 2 = 29000 := by decide +kernel
set_option maxRecDepth 100000 in
theorem av88 : s_pb aF19 5 (nI 4) 3 = 3000 := by decide +kernel
def aF20 : sT := u2 (u2 (u2 (u2 (u2 aF19 1 5 127) 2 5 30) 3 5 31) 4 5 4) 5 5 100
theorem wf_aF20 : mwf aF20 6 2 3 := wf_addR wf_aF19 (by decide) 127 30 31 4 100
set_option maxRecDepth 100000 in
theorem av89 : 0 < pN aF20 2 := by decide +kernel
set_option maxRecDepth 100000 in
theorem av90 : s_P aF20 (wN aF20 2) (aN aF20 2) 0 6 = 100 := by decide +kernel
set_option maxRecDepth 100000 in
theorem av91 : s_R aF20 6 (wN aF20 2) (aN aF20 2) 0 = 5 := by decide +kernel
set_option maxRecDepth 100000 in
theorem av92 : s_pb aF20 6 (nI 5) 3 = 500 := by decide +kernel
set_option maxRecDepth 100000 in
theorem av93 : aF20 0 2 = 500 := by decide +kernel
def aF21 : sT := u2 aF20 0 2 333
theorem wf_aF21 : mwf aF21 6 2 3 := wf_base wf_aF20 2 333
set_option maxRecDepth 100000 in
theorem av94 : s_pay aF21 6 2 = 19310 := by decide +kernel
set_option maxRecDepth 100000 in
theorem av95 : s_pb aF21 6 (nI 4) 3 = 1996 := by decide +kernel
set_option maxRecDepth 100000 in
theorem av96 : aF21 13 2 = 0 := by decide +kernel
set_option maxRecDepth 100000 in
theorem av97 : aF21 12 2 = 0 := by decide +kernel
def aF22 : sT := u2 aF21 12 2 (nI 1)
theorem wf_aF22 : mwf aF22 6 2 3 := wf_taken wf_aF21 (by decide) (by decide)
set_option maxRecDepth 100000 in
theorem av98 : s_lacks aF22 2 = 1 := by decide +kernel
set_option maxRecDepth 100000 in
theorem av99 : aF22 13 1 = 0 := by decide +kernel
set_option maxRecDepth 100000 in
theorem av100 : s_pay aF22 6 1 = 14250 := by decide +kernel
def aF23 : sT := u2 aF22 13 1 1
theorem wf_aF23 : mwf aF23 6 2 3 := wf_gone wf_aF22 (by decide) (by decide)
set_option maxRecDepth 100000 in
theorem av101 : ¬ aF23 13 1 = 0 := by decide +kernel
set_option maxRecDepth 100000 in
theorem av102 : s_paid aF23 1 = 0 := by decide +kernel
set_option maxRecDepth 100000 in
theorem av103 : ¬ inn 0 0 (s_paid aF23 1 - 1) := by decide +kernel
set_option maxRecDepth 100000 in
theorem av104 : s_lacks aF23 1 = 0 := by decide +kernel
set_option maxRecDepth 100000 in
theorem av105 : s_pay aF23 6 1 = 0 := by decide +kernel
set_option maxRecDepth 100000 in
theorem av106 : s_wb aF23 0 (nI 0 * 672) ((nI 0 + 1) * 672) 3 = 8 := by decide +kernel
set_option maxRecDepth 100000 in
theorem av107 : s_pb aF23 6 (nI 0) 3 = 0 := by decide +kernel
set_option maxRecDepth 100000 in
theorem av108 : s_po aF23 6 (nI 0) 0 363 3 = 7000 := by decide +kernel
set_option maxRecDepth 100000 in
theorem av109 : nI 3 = 3 := by decide +kernel
