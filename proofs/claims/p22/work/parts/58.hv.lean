def hF1 : sT := u2 f00 8 0 (nI 3)
theorem wf_hF1 : mwf hF1 0 1 0 := wf_addW wf_f00 (by decide) (by decide)
set_option maxRecDepth 100000 in
theorem hv0 : ¬ 0 < s_wb hF1 0 (nI (0 * 96 + 76)) (nI (0 * 96 + 76 + 8)) 0 := by decide +kernel
def hF2 : sT := u2 (u2 (u2 hF1 9 0 (nI 0)) 10 0 (nI (0 * 96 + 76))) 11 0 (nI 8)
theorem wf_hF2 : mwf hF2 0 1 1 := wf_addS wf_hF1 (by decide) (by decide) (by decide) (by decide) (by decide)
set_option maxRecDepth 100000 in
theorem hv1 : 0 < s_wb hF2 0 (nI (0 * 96 + 83)) (nI (0 * 96 + 83 + 5)) 1 := by decide +kernel
set_option maxRecDepth 100000 in
theorem hv2 : 0 < s_wb hF2 0 (nI (0 * 96 + 70)) (nI (0 * 96 + 70 + 7)) 1 := by decide +kernel
set_option maxRecDepth 100000 in
theorem hv3 : ¬ 0 < s_wb hF2 0 (nI (0 * 96 + 84)) (nI (0 * 96 + 84 + 1)) 1 := by decide +kernel
def hF3 : sT := u2 (u2 (u2 hF2 9 1 (nI 0)) 10 1 (nI (0 * 96 + 84))) 11 1 (nI 1)
theorem wf_hF3 : mwf hF3 0 1 2 := wf_addS wf_hF2 (by decide) (by decide) (by decide) (by decide) (by decide)
set_option maxRecDepth 100000 in
theorem hv4 : ¬ 0 < s_wb hF3 0 (nI (0 * 96 + 75)) (nI (0 * 96 + 75 + 1)) 2 := by decide +kernel
def hF4 : sT := u2 (u2 (u2 hF3 9 2 (nI 0)) 10 2 (nI (0 * 96 + 75))) 11 2 (nI 1)
theorem wf_hF4 : mwf hF4 0 1 3 := wf_addS wf_hF3 (by decide) (by decide) (by decide) (by decide) (by decide)
set_option maxRecDepth 100000 in
theorem hv5 : ¬ 0 < s_wb hF4 0 (nI (6 * 96 + 90)) (nI (6 * 96 + 90 + 10)) 3 := by decide +kernel
def hF5 : sT := u2 (u2 (u2 hF4 9 3 (nI 0)) 10 3 (nI (6 * 96 + 90))) 11 3 (nI 10)
theorem wf_hF5 : mwf hF5 0 1 4 := wf_addS wf_hF4 (by decide) (by decide) (by decide) (by decide) (by decide)
set_option maxRecDepth 100000 in
theorem hv6 : 0 < s_wb hF5 0 (nI (7 * 96 + 3)) (nI (7 * 96 + 3 + 1)) 4 := by decide +kernel
set_option maxRecDepth 100000 in
theorem hv7 : ¬ 0 < s_wb hF5 0 (nI (7 * 96 + 4)) (nI (7 * 96 + 4 + 1)) 4 := by decide +kernel
def hF6 : sT := u2 (u2 (u2 hF5 9 4 (nI 0)) 10 4 (nI (7 * 96 + 4))) 11 4 (nI 1)
theorem wf_hF6 : mwf hF6 0 1 5 := wf_addS wf_hF5 (by decide) (by decide) (by decide) (by decide) (by decide)
set_option maxRecDepth 100000 in
theorem hv8 : s_wb hF6 0 (nI 0 * 672) ((nI 0 + 1) * 672) 5 = 16 := by decide +kernel
set_option maxRecDepth 100000 in
theorem hv9 : s_wb hF6 0 (nI 1 * 672) ((nI 1 + 1) * 672) 5 = 5 := by decide +kernel
set_option maxRecDepth 100000 in
theorem hv10 : s_mx (s_wb hF6 0 (nI 0 * 4 * 672) ((nI 0 * 4 + 4) * 672) 5 - 608) 0 = 0 := by decide +kernel
set_option maxRecDepth 100000 in
theorem hv11 : hF6 13 3 = 0 := by decide +kernel
set_option maxRecDepth 100000 in
theorem hv12 : s_pay hF6 0 3 = 6000 := by decide +kernel
def hF7 : sT := u2 hF6 13 3 1
theorem wf_hF7 : mwf hF7 0 1 5 := wf_gone wf_hF6 (by decide) (by decide)
set_option maxRecDepth 100000 in
theorem hv13 : ¬ 0 < s_wb hF7 0 (nI (7 * 96 + 0)) (nI (7 * 96 + 0 + 4)) 5 := by decide +kernel
def hF8 : sT := u2 (u2 (u2 hF7 9 5 (nI 0)) 10 5 (nI (7 * 96 + 0))) 11 5 (nI 4)
theorem wf_hF8 : mwf hF8 0 1 6 := wf_addS wf_hF7 (by decide) (by decide) (by decide) (by decide) (by decide)
set_option maxRecDepth 100000 in
theorem hv14 : s_wb hF8 0 (nI 0 * 672) ((nI 0 + 1) * 672) 6 = 10 := by decide +kernel
set_option maxRecDepth 100000 in
theorem hv15 : s_wb hF8 0 (nI 1 * 672) ((nI 1 + 1) * 672) 6 = 5 := by decide +kernel
set_option maxRecDepth 100000 in
theorem hv16 : ¬ 0 < s_wb hF8 0 (nI (28 * 96 + 40)) (nI (28 * 96 + 40 + 64)) 6 := by decide +kernel
def hF9 : sT := u2 (u2 (u2 hF8 9 6 (nI 0)) 10 6 (nI (28 * 96 + 40))) 11 6 (nI 64)
theorem wf_hF9 : mwf hF9 0 1 7 := wf_addS wf_hF8 (by decide) (by decide) (by decide) (by decide) (by decide)
set_option maxRecDepth 100000 in
theorem hv17 : s_mx (s_wb hF9 0 (nI 1 * 4 * 672) ((nI 1 * 4 + 4) * 672) 7 - 608) 0 = 0 := by decide +kernel
set_option maxRecDepth 100000 in
theorem hv18 : ¬ 0 < s_wb hF9 0 (nI (30 * 96 + 40)) (nI (30 * 96 + 40 + 64)) 7 := by decide +kernel
def hF10 : sT := u2 (u2 (u2 hF9 9 7 (nI 0)) 10 7 (nI (30 * 96 + 40))) 11 7 (nI 64)
theorem wf_hF10 : mwf hF10 0 1 8 := wf_addS wf_hF9 (by decide) (by decide) (by decide) (by decide) (by decide)
set_option maxRecDepth 100000 in
theorem hv19 : s_mx (s_wb hF10 0 (nI 1 * 4 * 672) ((nI 1 * 4 + 4) * 672) 8 - 608) 0 = 0 := by decide +kernel
set_option maxRecDepth 100000 in
theorem hv20 : ¬ 0 < s_wb hF10 0 (nI (32 * 96 + 40)) (nI (32 * 96 + 40 + 64)) 8 := by decide +kernel
def hF11 : sT := u2 (u2 (u2 hF10 9 8 (nI 0)) 10 8 (nI (32 * 96 + 40))) 11 8 (nI 64)
theorem wf_hF11 : mwf hF11 0 1 9 := wf_addS wf_hF10 (by decide) (by decide) (by decide) (by decide) (by decide)
set_option maxRecDepth 100000 in
theorem hv21 : s_mx (s_wb hF11 0 (nI 1 * 4 * 672) ((nI 1 * 4 + 4) * 672) 9 - 608) 0 = 0 := by decide +kernel
set_option maxRecDepth 100000 in
theorem hv22 : ¬ 0 < s_wb hF11 0 (nI (34 * 96 + 40)) (nI (34 * 96 + 40 + 64)) 9 := by decide +kernel
def hF12 : sT := u2 (u2 (u2 hF11 9 9 (nI 0)) 10 9 (nI (34 * 96 + 40))) 11 9 (nI 64)
theorem wf_hF12 : mwf hF12 0 1 10 := wf_addS wf_hF11 (by decide) (by decide) (by decide) (by decide) (by decide)
set_option maxRecDepth 100000 in
theorem hv23 : s_mx (s_wb hF12 0 (nI 1 * 4 * 672) ((nI 1 * 4 + 4) * 672) 10 - 608) 0 = 0 := by decide +kernel
set_option maxRecDepth 100000 in
theorem hv24 : ¬ 0 < s_wb hF12 0 (nI (36 * 96 + 40)) (nI (36 * 96 + 40 + 64)) 10 := by decide +kernel
def hF13 : sT := u2 (u2 (u2 hF12 9 10 (nI 0)) 10 10 (nI (36 * 96 + 40))) 11 10 (nI 64)
theorem wf_hF13 : mwf hF13 0 1 11 := wf_addS wf_hF12 (by decide) (by decide) (by decide) (by decide) (by decide)
set_option maxRecDepth 100000 in
theorem hv25 : s_mx (s_wb hF13 0 (nI 1 * 4 * 672) ((nI 1 * 4 + 4) * 672) 11 - 608) 0 = 0 := by decide +kernel
set_option maxRecDepth 100000 in
theorem hv26 : ¬ 0 < s_wb hF13 0 (nI (38 * 96 + 40)) (nI (38 * 96 + 40 + 64)) 11 := by decide +kernel
def hF14 : sT := u2 (u2 (u2 hF13 9 11 (nI 0)) 10 11 (nI (38 * 96 + 40))) 11 11 (nI 64)
theorem wf_hF14 : mwf hF14 0 1 12 := wf_addS wf_hF13 (by decide) (by decide) (by decide) (by decide) (by decide)
set_option maxRecDepth 100000 in
theorem hv27 : s_mx (s_wb hF14 0 (nI 1 * 4 * 672) ((nI 1 * 4 + 4) * 672) 12 - 608) 0 = 0 := by decide +kernel
set_option maxRecDepth 100000 in
theorem hv28 : ¬ 0 < s_wb hF14 0 (nI (40 * 96 + 40)) (nI (40 * 96 + 40 + 64)) 12 := by decide +kernel
def hF15 : sT := u2 (u2 (u2 hF14 9 12 (nI 0)) 10 12 (nI (40 * 96 + 40))) 11 12 (nI 64)
theorem wf_hF15 : mwf hF15 0 1 13 := wf_addS wf_hF14 (by decide) (by decide) (by decide) (by decide) (by decide)
set_option maxRecDepth 100000 in
theorem hv29 : s_mx (s_wb hF15 0 (nI 1 * 4 * 672) ((nI 1 * 4 + 4) * 672) 13 - 608) 0 = 0 := by decide +kernel
set_option maxRecDepth 100000 in
theorem hv30 : ¬ 0 < s_wb hF15 0 (nI (42 * 96 + 40)) (nI (42 * 96 + 40 + 64)) 13 := by decide +kernel
def hF16 : sT := u2 (u2 (u2 hF15 9 13 (nI 0)) 10 13 (nI (42 * 96 + 40))) 11 13 (nI 64)
theorem wf_hF16 : mwf hF16 0 1 14 := wf_addS wf_hF15 (by decide) (by decide) (by decide) (by decide) (by decide)
set_option maxRecDepth 100000 in
theorem hv31 : s_mx (s_wb hF16 0 (nI 1 * 4 * 672) ((nI 1 * 4 + 4) * 672) 14 - 608) 0 = 0 := by decide +kernel
set_option maxRecDepth 100000 in
theorem hv32 : ¬ 0 < s_wb hF16 0 (nI (44 * 96 + 40)) (nI (44 * 96 + 40 + 64)) 14 := by decide +kernel
def hF17 : sT := u2 (u2 (u2 hF16 9 14 (nI 0)) 10 14 (nI (44 * 96 + 40))) 11 14 (nI 64)
theorem wf_hF17 : mwf hF17 0 1 15 := wf_addS wf_hF16 (by decide) (by decide) (by decide) (by decide) (by decide)
set_option maxRecDepth 100000 in
theorem hv33 : s_mx (s_wb hF17 0 (nI 1 * 4 * 672) ((nI 1 * 4 + 4) * 672) 15 - 608) 0 = 0 := by decide +kernel
set_option maxRecDepth 100000 in
theorem hv34 : ¬ 0 < s_wb hF17 0 (nI (46 * 96 + 40)) (nI (46 * 96 + 40 + 64)) 15 := by decide +kernel
def hF18 : sT := u2 (u2 (u2 hF17 9 15 (nI 0)) 10 15 (nI (46 * 96 + 40))) 11 15 (nI 64)
theorem wf_hF18 : mwf hF18 0 1 16 := wf_addS wf_hF17 (by decide) (by decide) (by decide) (by decide) (by decide)
set_option maxRecDepth 100000 in
theorem hv35 : s_mx (s_wb hF18 0 (nI 1 * 4 * 672) ((nI 1 * 4 + 4) * 672) 16 - 608) 0 = 32 := by decide +kernel
set_option maxRecDepth 100000 in
theorem hv36 : s_wb hF18 0 (nI 4 * 672) ((nI 4 + 1) * 672) 16 = 248 := by decide +kernel
set_option maxRecDepth 100000 in
theorem hv37 : s_wb hF18 0 (nI 5 * 672) ((nI 5 + 1) * 672) 16 = 200 := by decide +kernel
set_option maxRecDepth 100000 in
theorem hv38 : s_wb hF18 0 (nI 6 * 672) ((nI 6 + 1) * 672) 16 = 192 := by decide +kernel
set_option maxRecDepth 100000 in
theorem hv39 : s_wb hF18 0 (nI 7 * 672) ((nI 7 + 1) * 672) 16 = 0 := by decide +kernel
set_option maxRecDepth 100000 in
theorem hv40 : ¬ 0 < s_wb hF18 0 (nI (55 * 96 + 90)) (nI (55 * 96 + 90 + 20)) 16 := by decide +kernel
def hF19 : sT := u2 (u2 (u2 hF18 9 16 (nI 0)) 10 16 (nI (55 * 96 + 90))) 11 16 (nI 20)
theorem wf_hF19 : mwf hF19 0 1 17 := wf_addS wf_hF18 (by decide) (by decide) (by decide) (by decide) (by decide)
set_option maxRecDepth 100000 in
theorem hv41 : s_mx (s_wb hF19 0 (nI 1 * 4 * 672) ((nI 1 * 4 + 4) * 672) 17 - 608) 0 = 38 := by decide +kernel
set_option maxRecDepth 100000 in
theorem hv42 : s_wb hF19 0 (nI 8 * 672) ((nI 8 + 1) * 672) 17 = 14 := by decide +kernel
set_option maxRecDepth 100000 in
theorem hv43 : s_mx (s_wb hF19 0 (nI 12 * 4 * 672) ((nI 12 * 4 + 4) * 672) 17 - 608) 0 = 0 := by decide +kernel
set_option maxRecDepth 100000 in
theorem hv44 : ¬ 0 < s_wb hF19 0 (nI (362 * 96 + 95)) (nI (362 * 96 + 95 + 64)) 17 := by decide +kernel
def hF20 : sT := u2 (u2 (u2 hF19 9 17 (nI 0)) 10 17 (nI (362 * 96 + 95))) 11 17 (nI 64)
theorem wf_hF20 : mwf hF20 0 1 18 := wf_addS wf_hF19 (by decide) (by decide) (by decide) (by decide) (by decide)
set_option maxRecDepth 100000 in
theorem hv45 : s_wb hF20 0 (nI 51 * 672) ((nI 51 + 1) * 672) 18 = 64 := by decide +kernel
set_option maxRecDepth 100000 in
theorem hv46 : s_pay hF20 0 17 = 48000 := by decide +kernel
set_option maxRecDepth 100000 in
theorem hv47 : hF20 7 363 = 0 := by decide +kernel
def hF21 : sT := u2 hF20 7 363 1
theorem wf_hF21 : mwf hF21 0 1 18 := wf_hol wf_hF20 363 (by decide)
