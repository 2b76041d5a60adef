set_option maxRecDepth 100000 in
theorem mv0 : ¬ 0 < s_wb hFe 0 (nI (1 * 96 + 76)) (nI (1 * 96 + 76 + 1)) 76 := by decide +kernel
def mF1 : sT := u2 (u2 (u2 hFe 9 76 (nI 0)) 10 76 (nI (1 * 96 + 76))) 11 76 (nI 1)
theorem wf_mF1 : mwf mF1 0 1 77 := wf_addS wf_hFe (by decide) (by decide) (by decide) (by decide) (by decide)
set_option maxRecDepth 100000 in
theorem mv1 : ¬ 0 < s_wb mF1 0 (nI (1 * 96 + 77)) (nI (1 * 96 + 77 + 1)) 77 := by decide +kernel
def mF2 : sT := u2 (u2 (u2 mF1 9 77 (nI 0)) 10 77 (nI (1 * 96 + 77))) 11 77 (nI 1)
theorem wf_mF2 : mwf mF2 0 1 78 := wf_addS wf_mF1 (by decide) (by decide) (by decide) (by decide) (by decide)
set_option maxRecDepth 100000 in
theorem mv2 : ¬ 0 < s_wb mF2 0 (nI (1 * 96 + 78)) (nI (1 * 96 + 78 + 1)) 78 := by decide +kernel
def mF3 : sT := u2 (u2 (u2 mF2 9 78 (nI 0)) 10 78 (nI (1 * 96 + 78))) 11 78 (nI 1)
theorem wf_mF3 : mwf mF3 0 1 79 := wf_addS wf_mF2 (by decide) (by decide) (by decide) (by decide) (by decide)
set_option maxRecDepth 100000 in
theorem mv3 : ¬ 0 < s_wb mF3 0 (nI (1 * 96 + 79)) (nI (1 * 96 + 79 + 1)) 79 := by decide +kernel
def mF4 : sT := u2 (u2 (u2 mF3 9 79 (nI 0)) 10 79 (nI (1 * 96 + 79))) 11 79 (nI 1)
theorem wf_mF4 : mwf mF4 0 1 80 := wf_addS wf_mF3 (by decide) (by decide) (by decide) (by decide) (by decide)
def mF5 : sT := u2 mF4 8 1 (nI 1)
theorem wf_mF5 : mwf mF5 0 2 80 := wf_addW wf_mF4 (by decide) (by decide)
def mF6 : sT := u2 mF5 8 2 (nI 2)
theorem wf_mF6 : mwf mF6 0 3 80 := wf_addW wf_mF5 (by decide) (by decide)
def mF7 : sT := u2 mF6 8 3 (nI 3)
theorem wf_mF7 : mwf mF7 0 4 80 := wf_addW wf_mF6 (by decide) (by decide)
def mF8 : sT := u2 mF7 8 4 (nI 0)
theorem wf_mF8 : mwf mF8 0 5 80 := wf_addW wf_mF7 (by decide) (by decide)
def mF9 : sT := u2 mF8 8 5 (nI 1)
theorem wf_mF9 : mwf mF9 0 6 80 := wf_addW wf_mF8 (by decide) (by decide)
def mF10 : sT := u2 mF9 8 6 (nI 2)
theorem wf_mF10 : mwf mF10 0 7 80 := wf_addW wf_mF9 (by decide) (by decide)
def mF11 : sT := u2 mF10 8 7 (nI 3)
theorem wf_mF11 : mwf mF11 0 8 80 := wf_addW wf_mF10 (by decide) (by decide)
def mF12 : sT := u2 mF11 8 8 (nI 0)
theorem wf_mF12 : mwf mF12 0 9 80 := wf_addW wf_mF11 (by decide) (by decide)
def mF13 : sT := u2 mF12 8 9 (nI 1)
theorem wf_mF13 : mwf mF13 0 10 80 := wf_addW wf_mF12 (by decide) (by decide)
def mF14 : sT := u2 mF13 8 10 (nI 2)
theorem wf_mF14 : mwf mF14 0 11 80 := wf_addW wf_mF13 (by decide) (by decide)
def mF15 : sT := u2 mF14 8 11 (nI 3)
theorem wf_mF15 : mwf mF15 0 12 80 := wf_addW wf_mF14 (by decide) (by decide)
def mF16 : sT := u2 (u2 (u2 (u2 (u2 mF15 1 0 127) 2 0 0) 3 0 96) 4 0 8) 5 0 100
theorem wf_mF16 : mwf mF16 1 12 80 := wf_addR wf_mF15 (by decide) 127 0 96 8 100
def mF17 : sT := u2 (u2 (u2 (u2 (u2 mF16 1 1 127) 2 1 0) 3 1 96) 4 1 8) 5 1 101
theorem wf_mF17 : mwf mF17 2 12 80 := wf_addR wf_mF16 (by decide) 127 0 96 8 101
def mF18 : sT := u2 (u2 (u2 (u2 (u2 mF17 1 2 127) 2 2 0) 3 2 96) 4 2 8) 5 2 102
theorem wf_mF18 : mwf mF18 3 12 80 := wf_addR wf_mF17 (by decide) 127 0 96 8 102
def mF19 : sT := u2 (u2 (u2 (u2 (u2 mF18 1 3 127) 2 3 0) 3 3 96) 4 3 8) 5 3 103
theorem wf_mF19 : mwf mF19 4 12 80 := wf_addR wf_mF18 (by decide) 127 0 96 8 103
def mF20 : sT := u2 (u2 (u2 (u2 (u2 mF19 1 4 127) 2 4 0) 3 4 96) 4 4 8) 5 4 104
theorem wf_mF20 : mwf mF20 5 12 80 := wf_addR wf_mF19 (by decide) 127 0 96 8 104
def mF21 : sT := u2 (u2 (u2 (u2 (u2 mF20 1 5 127) 2 5 0) 3 5 96) 4 5 8) 5 5 105
theorem wf_mF21 : mwf mF21 6 12 80 := wf_addR wf_mF20 (by decide) 127 0 96 8 105
def mF22 : sT := u2 (u2 (u2 (u2 (u2 mF21 1 6 127) 2 6 0) 3 6 96) 4 6 8) 5 6 106
theorem wf_mF22 : mwf mF22 7 12 80 := wf_addR wf_mF21 (by decide) 127 0 96 8 106
def mF23 : sT := u2 (u2 (u2 (u2 (u2 mF22 1 7 127) 2 7 0) 3 7 96) 4 7 8) 5 7 107
theorem wf_mF23 : mwf mF23 8 12 80 := wf_addR wf_mF22 (by decide) 127 0 96 8 107
def mF24 : sT := u2 (u2 (u2 (u2 (u2 mF23 1 8 127) 2 8 0) 3 8 96) 4 8 8) 5 8 108
theorem wf_mF24 : mwf mF24 9 12 80 := wf_addR wf_mF23 (by decide) 127 0 96 8 108
def mF25 : sT := u2 (u2 (u2 (u2 (u2 mF24 1 9 127) 2 9 0) 3 9 96) 4 9 8) 5 9 109
theorem wf_mF25 : mwf mF25 10 12 80 := wf_addR wf_mF24 (by decide) 127 0 96 8 109
def mF26 : sT := u2 (u2 (u2 (u2 (u2 mF25 1 10 127) 2 10 0) 3 10 96) 4 10 8) 5 10 110
theorem wf_mF26 : mwf mF26 11 12 80 := wf_addR wf_mF25 (by decide) 127 0 96 8 110
def mF27 : sT := u2 (u2 (u2 (u2 (u2 mF26 1 11 127) 2 11 0) 3 11 96) 4 11 8) 5 11 111
theorem wf_mF27 : mwf mF27 12 12 80 := wf_addR wf_mF26 (by decide) 127 0 96 8 111
def mF28 : sT := u2 (u2 (u2 (u2 (u2 mF27 1 12 127) 2 12 0) 3 12 96) 4 12 8) 5 12 112
theorem wf_mF28 : mwf mF28 13 12 80 := wf_addR wf_mF27 (by decide) 127 0 96 8 112
def mF29 : sT := u2 (u2 (u2 (u2 (u2 mF28 1 13 127) 2 13 0) 3 13 96) 4 13 8) 5 13 113
theorem wf_mF29 : mwf mF29 14 12 80 := wf_addR wf_mF28 (by decide) 127 0 96 8 113
def mF30 : sT := u2 (u2 (u2 (u2 (u2 mF29 1 14 127) 2 14 0) 3 14 96) 4 14 8) 5 14 114
theorem wf_mF30 : mwf mF30 15 12 80 := wf_addR wf_mF29 (by decide) 127 0 96 8 114
def mF31 : sT := u2 (u2 (u2 (u2 (u2 mF30 1 15 127) 2 15 0) 3 15 96) 4 15 8) 5 15 115
theorem wf_mF31 : mwf mF31 16 12 80 := wf_addR wf_mF30 (by decide) 127 0 96 8 115
theorem mv4 : s_pb mF31 16 (nI 14) 80 = 0 := pb_none 80 (fun s hs i hi => sR14 (by decide +kernel) (by decide +kernel) (by decide +kernel) (by decide +kernel) (by decide +kernel) (by decide +kernel))
set_option maxRecDepth 100000 in
theorem mv5 : 0 < pN mF31 0 := by decide +kernel
set_option maxRecDepth 100000 in
theorem mv6 : s_P mF31 (wN mF31 0) (aN mF31 0) 0 16 = 115 := by decide +kernel
set_option maxRecDepth 100000 in
theorem mv7 : s_R mF31 16 (wN mF31 0) (aN mF31 0) 0 = 15 := by decide +kernel
