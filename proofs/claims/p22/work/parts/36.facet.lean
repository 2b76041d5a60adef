set_option maxHeartbeats 4000000 in
set_option maxRecDepth 100000 in
theorem t_X3_setBase {l : Launch} (hl0 : l.stackTraces = false) {G : mG} {V : mV} {α : Nat → Nat} {f : sT} {nr nw ns : Nat} (hC : mC G V α f nr nw ns) (hwf : mwf f nr nw ns) (y x : Int32) (hbad : ¬ (inn y 0 3 ∧ inn x 1 10000)) : vx_Met l yX3_setBase wsX3_setBase ({ frames := 7, cells := 1, slots := 6, locals := 104 }) (va_Pc [.ref (α (0)), .int (y), .int (x)] (fun U => mW G V α U U.heap)) mNo (mXC G V α "java/lang/IllegalArgumentException") 1 6 (mfree G) := by
  refine vx_ofW (cc := cX3_setBase) (maxL := 4) (ret := (some .int)) (by decide) rfl ?_
  intro p e s m args below meth c s₁ B hml hout hv
  obtain ⟨rfl, hw⟩ := hv
  have hx := B.exec
  have hb := B.bytes
  have hr := B.returns
  have hts := atoms_spec (ws := wsX3_setBase) B.pre
  have hown : s.vm.findClass RX3 = some m.cls := findClass_of_methodNamed B.named
  have hlocks := B.notSynchronized
  have hS : va_S (mfree G) s.heap s.heap [] := va_S.rf
  obtain ⟨k0, k1, k2, hL3, hL4, hL5, cR, cW, cS, -, -, -⟩ := id hC
  obtain ⟨md3, ed3, v3⟩ := hL3.obj
  obtain ⟨md4, ed4, v4⟩ := hL4.obj
  obtain ⟨md5, ed5, v5⟩ := hL5.obj
  obtain ⟨⟨hnr, hnw, hns⟩, -, -, h6w, h7w, -⟩ := id hwf
  have tk_36 := hts (.classLink RX3 36 "java/lang/IllegalArgumentException") (by decide +kernel)
  have ti_36 := hts (.initialized "java/lang/IllegalArgumentException") (by decide +kernel)
  have hat_40 : ∀ w ∈ (vx_atS RX3 40 "java/lang/IllegalArgumentException" ["java/lang/RuntimeException", "java/lang/Exception"]).filter goodWord, w ∈ wsX3_setBase := by decide +kernel
  have fl_9 := hts (.fieldLink RX3 9 "RosterPay" "bases" "[I") (by decide +kernel)
  have in_X3 : ∀ w ∈ u_ws RX3 TX3 5, w ∈ wsX3_setBase := by decide +kernel
  have hl := lv_entry ([.ref (α (0)), .int (y), .int (x)]) (n := 4) (Nat.le_of_ble_eq_true rfl)
  rw [lg_entry_eq]
  generalize (lg_sl ([.ref (α (0)), .int (y), .int (x)]) ++ List.replicate (4 - (lg_sl ([.ref (α (0)), .int (y), .int (x)])).length) Slot.unset).toArray = ls at hl ⊢
  have hl : lv_has ls 4 [(0, .ref (α (0))), (1, .int (y)), (2, .int (x))] := hl
  refine lv_iload_n hx hb dX3_setBase_0 rfl (lv_at hl 1 rfl) ?_
  refine lv_if_lt (tgt := 13) hx hb dX3_setBase_1 (by decide) (fun c1 => ?_) (fun c1 => ?_)
  ·
    exact mthrowS (text := "no such rank") hx hb hl0 hown (by decide +kernel) tk_36 ti_36 (fun w h9 => hts w (hat_40 w h9)) (by decide +kernel) (by decide +kernel) (by decide) hw hS (hl.1.trans hml.symm) dX3_setBase_13 dX3_setBase_16 dX3_setBase_17 dX3_setBase_19 dX3_setBase_22 hout (Nat.le_of_ble_eq_true rfl) (Nat.le_of_ble_eq_true rfl) (Nat.le_of_ble_eq_true rfl) (Nat.le_of_ble_eq_true rfl) hlocks
  ·
    refine lv_iload_n hx hb dX3_setBase_4 rfl (lv_at hl 1 rfl) ?_
    refine lv_aload_n hx hb dX3_setBase_5 rfl (lv_at hl 0 rfl) ?_
    refine mget (C := RX3) (T := TX3) (N := 5) (ci := 4) hx hb hts in_X3 hown hw (k0) rfl 0 (by decide) fl_9 rfl dX3_setBase_6 ?_
    refine mialen hx hb hw (k1) dX3_setBase_9 ?_
    refine lv_icmp_lt (tgt := 23) hx hb dX3_setBase_10 (by decide) (fun c2 => ?_) (fun c2 => ?_)
    ·
      refine lv_iload_n hx hb dX3_setBase_23 rfl (lv_at hl 2 rfl) ?_
      refine lv_iconst (v := (1)) hx hb dX3_setBase_24 (by decide) ?_
      refine lv_sipush (v := (10000)) hx hb dX3_setBase_25 (by decide) ?_
      exact mcallTS (EX := "java/lang/IllegalArgumentException") hw ⟨hx, hb, hml, hown, hts⟩ hS (t_X3_checkArgument hl0 (x) (1) (10000) (fun z => hbad ⟨inn_of (n := 4) (by decide) c1 c2, z⟩)) (va_cwS 3 hts gX3_setBase_X3_checkArgument rfl rfl rfl (by decide +kernel) ⟨Nat.le_of_ble_eq_true rfl, Nat.le_of_ble_eq_true rfl⟩) rfl hl.1 rfl (Nat.le_of_ble_eq_true rfl) dX3_setBase_28 ⟨Nat.le_of_ble_eq_true rfl, Nat.le_of_ble_eq_true rfl⟩ (fun q9 ce H1 locs1 hw1 hS1 hce hcv hcl => mout hout hlocks hw1 hS1 hce hcv hcl)
    ·
      exact mthrowS (text := "no such rank") hx hb hl0 hown (by decide +kernel) tk_36 ti_36 (fun w h9 => hts w (hat_40 w h9)) (by decide +kernel) (by decide +kernel) (by decide) hw hS (hl.1.trans hml.symm) dX3_setBase_13 dX3_setBase_16 dX3_setBase_17 dX3_setBase_19 dX3_setBase_22 hout (Nat.le_of_ble_eq_true rfl) (Nat.le_of_ble_eq_true rfl) (Nat.le_of_ble_eq_true rfl) (Nat.le_of_ble_eq_true rfl) hlocks

set_option maxHeartbeats 4000000 in
set_option maxRecDepth 100000 in
theorem t_X3_setHoliday {l : Launch} (hl0 : l.stackTraces = false) {G : mG} {V : mV} {α : Nat → Nat} {f : sT} {nr nw ns : Nat} (hC : mC G V α f nr nw ns) (hwf : mwf f nr nw ns) (y b : Int32) (hbad : ¬ inn y 0 363) : vx_Met l yX3_setHoliday wsX3_setHoliday ({ frames := 6, cells := 1, slots := 6, locals := 82 }) (va_Pc [.ref (α (0)), .int (y), .int (b)] (fun U => mW G V α U U.heap)) mNo (mXC G V α "java/lang/IllegalArgumentException") 1 6 (mfree G) := by
  refine vx_ofW (cc := cX3_setHoliday) (maxL := 4) (ret := (some .boolean)) (by decide) rfl ?_
  intro p e s m args below meth c s₁ B hml hout hv
  obtain ⟨rfl, hw⟩ := hv
  have hx := B.exec
  have hb := B.bytes
  have hr := B.returns
  have hts := atoms_spec (ws := wsX3_setHoliday) B.pre
  have hown : s.vm.findClass RX3 = some m.cls := findClass_of_methodNamed B.named
  have hlocks := B.notSynchronized
  have hS : va_S (mfree G) s.heap s.heap [] := va_S.rf
  obtain ⟨k0, k1, k2, hL3, hL4, hL5, cR, cW, cS, -, -, -⟩ := id hC
  obtain ⟨md3, ed3, v3⟩ := hL3.obj
  obtain ⟨md4, ed4, v4⟩ := hL4.obj
  obtain ⟨md5, ed5, v5⟩ := hL5.obj
  obtain ⟨⟨hnr, hnw, hns⟩, -, -, h6w, h7w, -⟩ := id hwf
  have tk_36 := hts (.classLink RX3 36 "java/lang/IllegalArgumentException") (by decide +kernel)
  have ti_36 := hts (.initialized "java/lang/IllegalArgumentException") (by decide +kernel)
  have hat_40 : ∀ w ∈ (vx_atS RX3 40 "java/lang/IllegalArgumentException" ["java/lang/RuntimeException", "java/lang/Exception"]).filter goodWord, w ∈ wsX3_setHoliday := by decide +kernel
  have fl_19 := hts (.fieldLink RX3 19 "RosterPay" "holidays" "[Z") (by decide +kernel)
  have in_X3 : ∀ w ∈ u_ws RX3 TX3 5, w ∈ wsX3_setHoliday := by decide +kernel
  have hl := lv_entry ([.ref (α (0)), .int (y), .int (b)]) (n := 4) (Nat.le_of_ble_eq_true rfl)
  rw [lg_entry_eq]
  generalize (lg_sl ([.ref (α (0)), .int (y), .int (b)]) ++ List.replicate (4 - (lg_sl ([.ref (α (0)), .int (y), .int (b)])).length) Slot.unset).toArray = ls at hl ⊢
  have hl : lv_has ls 4 [(0, .ref (α (0))), (1, .int (y)), (2, .int (b))] := hl
  refine lv_iload_n hx hb dX3_setHoliday_0 rfl (lv_at hl 1 rfl) ?_
  refine lv_if_lt (tgt := 13) hx hb dX3_setHoliday_1 (by decide) (fun c1 => ?_) (fun c1 => ?_)
  ·
    exact mthrowS (text := "no such day") hx hb hl0 hown (by decide +kernel) tk_36 ti_36 (fun w h9 => hts w (hat_40 w h9)) (by decide +kernel) (by decide +kernel) (by decide) hw hS (hl.1.trans hml.symm) dX3_setHoliday_13 dX3_setHoliday_16 dX3_setHoliday_17 dX3_setHoliday_19 dX3_setHoliday_22 hout (Nat.le_of_ble_eq_true rfl) (Nat.le_of_ble_eq_true rfl) (Nat.le_of_ble_eq_true rfl) (Nat.le_of_ble_eq_true rfl) hlocks
  ·
    refine lv_iload_n hx hb dX3_setHoliday_4 rfl (lv_at hl 1 rfl) ?_
    refine lv_aload_n hx hb dX3_setHoliday_5 rfl (lv_at hl 0 rfl) ?_
    refine mget (C := RX3) (T := TX3) (N := 5) (ci := 4) hx hb hts in_X3 hown hw (k0) rfl 1 (by decide) fl_19 rfl dX3_setHoliday_6 ?_
    refine mzalen hx hb hw (k2) dX3_setHoliday_9 ?_
    refine lv_icmp_lt (tgt := 23) hx hb dX3_setHoliday_10 (by decide) (fun c2 => ?_) (fun c2 => ?_)
    ·
      exact absurd (inn_of (n := 364) (by decide) c1 c2) hbad
    ·
      exact mthrowS (text := "no such day") hx hb hl0 hown (by decide +kernel) tk_36 ti_36 (fun w h9 => hts w (hat_40 w h9)) (by decide +kernel) (by decide +kernel) (by decide) hw hS (hl.1.trans hml.symm) dX3_setHoliday_13 dX3_setHoliday_16 dX3_setHoliday_17 dX3_setHoliday_19 dX3_setHoliday_22 hout (Nat.le_of_ble_eq_true rfl) (Nat.le_of_ble_eq_true rfl) (Nat.le_of_ble_eq_true rfl) (Nat.le_of_ble_eq_true rfl) hlocks

set_option maxHeartbeats 4000000 in
set_option maxRecDepth 100000 in
theorem t_X3_setRule {l : Launch} (hl0 : l.stackTraces = false) {G : mG} {V : mV} {α : Nat → Nat} {f : sT} {nr nw ns : Nat} (hC : mC G V α f nr nw ns) (hwf : mwf f nr nw ns) (y b : Int32) (hbad : ¬ inn y 0 (nI nr - 1)) : vx_Met l yX3_setRule wsX3_setRule ({ frames := 7, cells := 1, slots := 6, locals := 103 }) (va_Pc [.ref (α (0)), .int (y), .int (b)] (fun U => mW G V α U U.heap)) mNo (mXC G V α "java/lang/IndexOutOfBoundsException") 1 6 (mfree G) := by
  refine vx_ofW (cc := cX3_setRule) (maxL := 5) (ret := (some .boolean)) (by decide) rfl ?_
  intro p e s m args below meth c s₁ B hml hout hv
  obtain ⟨rfl, hw⟩ := hv
  have hx := B.exec
  have hb := B.bytes
  have hr := B.returns
  have hts := atoms_spec (ws := wsX3_setRule) B.pre
  have hown : s.vm.findClass RX3 = some m.cls := findClass_of_methodNamed B.named
  have hlocks := B.notSynchronized
  have hS : va_S (mfree G) s.heap s.heap [] := va_S.rf
  obtain ⟨k0, k1, k2, hL3, hL4, hL5, cR, cW, cS, -, -, -⟩ := id hC
  obtain ⟨md3, ed3, v3⟩ := hL3.obj
  obtain ⟨md4, ed4, v4⟩ := hL4.obj
  obtain ⟨md5, ed5, v5⟩ := hL5.obj
  obtain ⟨⟨hnr, hnw, hns⟩, -, -, h6w, h7w, -⟩ := id hwf
  have hl := lv_entry ([.ref (α (0)), .int (y), .int (b)]) (n := 5) (Nat.le_of_ble_eq_true rfl)
  rw [lg_entry_eq]
  generalize (lg_sl ([.ref (α (0)), .int (y), .int (b)]) ++ List.replicate (5 - (lg_sl ([.ref (α (0)), .int (y), .int (b)])).length) Slot.unset).toArray = ls at hl ⊢
  have hl : lv_has ls 5 [(0, .ref (α (0))), (1, .int (y)), (2, .int (b))] := hl
  refine lv_aload_n hx hb dX3_setRule_0 rfl (lv_at hl 0 rfl) ?_
  refine lv_iload_n hx hb dX3_setRule_1 rfl (lv_at hl 1 rfl) ?_
  exact mcallTV (EX := "java/lang/IndexOutOfBoundsException") hw (k0) rfl rfl ⟨hx, hb, hml, hown, hts⟩ hS (t_X3_findRule hl0 hC (by omega) y hbad) (cwV 1 hts gX3_setRule_X3_findRule rfl rfl rfl (by decide +kernel) ⟨Nat.le_of_ble_eq_true rfl, Nat.le_of_ble_eq_true rfl⟩) rfl hl.1 rfl (Nat.le_of_ble_eq_true rfl) dX3_setRule_2 ⟨Nat.le_of_ble_eq_true rfl, Nat.le_of_ble_eq_true rfl⟩ (fun q9 ce H1 locs1 hw1 hS1 hce hcv hcl => mout hout hlocks hw1 hS1 hce hcv hcl)

set_option maxHeartbeats 4000000 in
set_option maxRecDepth 100000 in
theorem t_X3_addRule_1 {l : Launch} (hl0 : l.stackTraces = false) {G : mG} {V : mV} {α : Nat → Nat} {f : sT} {nr nw ns : Nat} (hC : mC G V α f nr nw ns) (hwf : mwf f nr nw ns) (x1 x2 x3 x4 x5 : Int32) (hbad : ¬ (inn x1 0 127 ∧ inn x2 0 95 ∧ inn x3 (x2 + 1) 96 ∧ inn x4 1 15 ∧ inn x5 100 400)) : vx_Met l yX3_addRule wsX3_addRule ({ frames := 7, cells := 1, slots := 6, locals := 104 }) (va_Pc [.ref (α (0)), .int (x1), .int (x2), .int (x3), .int (x4), .int (x5)] (fun U => mW G V α U U.heap)) mNo (mXC G V α "java/lang/IllegalArgumentException") 1 6 (mfree G) := by
  refine vx_ofW (cc := cX3_addRule) (maxL := 7) (ret := (some .int)) (by decide) rfl ?_
  intro p e s m args below meth c s₁ B hml hout hv
  obtain ⟨rfl, hw⟩ := hv
  have hx := B.exec
  have hb := B.bytes
  have hr := B.returns
  have hts := atoms_spec (ws := wsX3_addRule) B.pre
  have hown : s.vm.findClass RX3 = some m.cls := findClass_of_methodNamed B.named
  have hlocks := B.notSynchronized
  have hS : va_S (mfree G) s.heap s.heap [] := va_S.rf
  obtain ⟨k0, k1, k2, hL3, hL4, hL5, cR, cW, cS, -, -, -⟩ := id hC
  obtain ⟨md3, ed3, v3⟩ := hL3.obj
  obtain ⟨md4, ed4, v4⟩ := hL4.obj
  obtain ⟨md5, ed5, v5⟩ := hL5.obj
  obtain ⟨⟨hnr, hnw, hns⟩, -, -, h6w, h7w, -⟩ := id hwf
  have hl := lv_entry ([.ref (α (0)), .int (x1), .int (x2), .int (x3), .int (x4), .int (x5)]) (n := 7) (Nat.le_of_ble_eq_true rfl)
  rw [lg_entry_eq]
  generalize (lg_sl ([.ref (α (0)), .int (x1), .int (x2), .int (x3), .int (x4), .int (x5)]) ++ List.replicate (7 - (lg_sl ([.ref (α (0)), .int (x1), .int (x2), .int (x3), .int (x4), .int (x5)])).length) Slot.unset).toArray = ls at hl ⊢
  have hl : lv_has ls 7 [(0, .ref (α (0))), (1, .int (x1)), (2, .int (x2)), (3, .int (x3)), (4, .int (x4)), (5, .int (x5))] := hl
  refine lv_iload_n hx hb dX3_addRule_0 rfl (lv_at hl 1 rfl) ?_
  refine lv_iconst (v := (0)) hx hb dX3_addRule_1 (by decide) ?_
  refine lv_bipush (v := (127)) hx hb dX3_addRule_2 (by decide) ?_
  by_cases q1 : inn (x1) (0) (127)
  ·
    refine mcallSv hw ⟨hx, hb, hml, hown, hts⟩ (c_X3_checkArgument (x1) (0) (127) (q1)) (va_cwS 3 hts gX3_addRule_X3_checkArgument rfl rfl rfl (by decide +kernel) ⟨Nat.le_of_ble_eq_true rfl, Nat.le_of_ble_eq_true rfl⟩) rfl hl.1 rfl (Nat.le_of_ble_eq_true rfl) dX3_addRule_4 ⟨Nat.le_of_ble_eq_true rfl, Nat.le_of_ble_eq_true rfl⟩ ?_
    refine lv_iload_n hx hb dX3_addRule_7 rfl (lv_at hl 2 rfl) ?_
    refine lv_iconst (v := (0)) hx hb dX3_addRule_8 (by decide) ?_
    refine lv_bipush (v := (95)) hx hb dX3_addRule_9 (by decide) ?_
    by_cases q2 : inn (x2) (0) (95)
    ·
      refine mcallSv hw ⟨hx, hb, hml, hown, hts⟩ (c_X3_checkArgument (x2) (0) (95) (q2)) (va_cwS 3 hts gX3_addRule_X3_checkArgument rfl rfl rfl (by decide +kernel) ⟨Nat.le_of_ble_eq_true rfl, Nat.le_of_ble_eq_true rfl⟩) rfl hl.1 rfl (Nat.le_of_ble_eq_true rfl) dX3_addRule_11 ⟨Nat.le_of_ble_eq_true rfl, Nat.le_of_ble_eq_true rfl⟩ ?_
      refine lv_iload_n hx hb dX3_addRule_14 rfl (lv_at hl 3 rfl) ?_
      refine lv_iload_n hx hb dX3_addRule_15 rfl (lv_at hl 2 rfl) ?_
      refine lv_iconst (v := (1)) hx hb dX3_addRule_16 (by decide) ?_
      refine lv_iadd hx hb dX3_addRule_17 ?_
      refine lv_bipush (v := (96)) hx hb dX3_addRule_18 (by decide) ?_
      by_cases q3 : inn (x3) ((x2 + 1)) (96)
      ·
        refine mcallSv hw ⟨hx, hb, hml, hown, hts⟩ (c_X3_checkArgument (x3) ((x2 + 1)) (96) (q3)) (va_cwS 3 hts gX3_addRule_X3_checkArgument rfl rfl rfl (by decide +kernel) ⟨Nat.le_of_ble_eq_true rfl, Nat.le_of_ble_eq_true rfl⟩) rfl hl.1 rfl (Nat.le_of_ble_eq_true rfl) dX3_addRule_20 ⟨Nat.le_of_ble_eq_true rfl, Nat.le_of_ble_eq_true rfl⟩ ?_
        refine lv_iload hx hb dX3_addRule_23 (lv_at hl 4 rfl) ?_
        refine lv_iconst (v := (1)) hx hb dX3_addRule_25 (by decide) ?_
        refine lv_bipush (v := (15)) hx hb dX3_addRule_26 (by decide) ?_
        by_cases q4 : inn (x4) (1) (15)
        ·
          refine mcallSv hw ⟨hx, hb, hml, hown, hts⟩ (c_X3_checkArgument (x4) (1) (15) (q4)) (va_cwS 3 hts gX3_addRule_X3_checkArgument rfl rfl rfl (by decide +kernel) ⟨Nat.le_of_ble_eq_true rfl, Nat.le_of_ble_eq_true rfl⟩) rfl hl.1 rfl (Nat.le_of_ble_eq_true rfl) dX3_addRule_28 ⟨Nat.le_of_ble_eq_true rfl, Nat.le_of_ble_eq_true rfl⟩ ?_
          refine lv_iload hx hb dX3_addRule_31 (lv_at hl 5 rfl) ?_
          refine lv_bipush (v := (100)) hx hb dX3_addRule_33 (by decide) ?_
          refine lv_sipush (v := (400)) hx hb dX3_addRule_35 (by decide) ?_
          by_cases q5 : inn (x5) (100) (400)
          ·
            refine mcallSv hw ⟨hx, hb, hml, hown, hts⟩ (c_X3_checkArgument (x5) (100) (400) (q5)) (va_cwS 3 hts gX3_addRule_X3_checkArgument rfl rfl rfl (by decide +kernel) ⟨Nat.le_of_ble_eq_true rfl, Nat.le_of_ble_eq_true rfl⟩) rfl hl.1 rfl (Nat.le_of_ble_eq_true rfl) dX3_addRule_38 ⟨Nat.le_of_ble_eq_true rfl, Nat.le_of_ble_eq_true rfl⟩ ?_
            exact absurd (⟨q1, q2, q3, q4, q5⟩) hbad
          ·
            exact mcallTS (EX := "java/lang/IllegalArgumentException") hw ⟨hx, hb, hml, hown, hts⟩ hS (t_X3_checkArgument hl0 (x5) (100) (400) (q5)) (va_cwS 3 hts gX3_addRule_X3_checkArgument rfl rfl rfl (by decide +kernel) ⟨Nat.le_of_ble_eq_true rfl, Nat.le_of_ble_eq_true rfl⟩) rfl hl.1 rfl (Nat.le_of_ble_eq_true rfl) dX3_addRule_38 ⟨Nat.le_of_ble_eq_true rfl, Nat.le_of_ble_eq_true rfl⟩ (fun q9 ce H1 locs1 hw1 hS1 hce hcv hcl => mout hout hlocks hw1 hS1 hce hcv hcl)
        ·
          exact mcallTS (EX := "java/lang/IllegalArgumentException") hw ⟨hx, hb, hml, hown, hts⟩ hS (t_X3_checkArgument hl0 (x4) (1) (15) (q4)) (va_cwS 3 hts gX3_addRule_X3_checkArgument rfl rfl rfl (by decide +kernel) ⟨Nat.le_of_ble_eq_true rfl, Nat.le_of_ble_eq_true rfl⟩) rfl hl.1 rfl (Nat.le_of_ble_eq_true rfl) dX3_addRule_28 ⟨Nat.le_of_ble_eq_true rfl, Nat.le_of_ble_eq_true rfl⟩ (fun q9 ce H1 locs1 hw1 hS1 hce hcv hcl => mout hout hlocks hw1 hS1 hce hcv hcl)
      ·
        exact mcallTS (EX := "java/lang/IllegalArgumentException") hw ⟨hx, hb, hml, hown, hts⟩ hS (t_X3_checkArgument hl0 (x3) ((x2 + 1)) (96) (q3)) (va_cwS 3 hts gX3_addRule_X3_checkArgument rfl rfl rfl (by decide +kernel) ⟨Nat.le_of_ble_eq_true rfl, Nat.le_of_ble_eq_true rfl⟩) rfl hl.1 rfl (Nat.le_of_ble_eq_true rfl) dX3_addRule_20 ⟨Nat.le_of_ble_eq_true rfl, Nat.le_of_ble_eq_true rfl⟩ (fun q9 ce H1 locs1 hw1 hS1 hce hcv hcl => mout hout hlocks hw1 hS1 hce hcv hcl)
    ·
      exact mcallTS (EX := "java/lang/IllegalArgumentException") hw ⟨hx, hb, hml, hown, hts⟩ hS (t_X3_checkArgument hl0 (x2) (0) (95) (q2)) (va_cwS 3 hts gX3_addRule_X3_checkArgument rfl rfl rfl (by decide +kernel) ⟨Nat.le_of_ble_eq_true rfl, Nat.le_of_ble_eq_true rfl⟩) rfl hl.1 rfl (Nat.le_of_ble_eq_true rfl) dX3_addRule_11 ⟨Nat.le_of_ble_eq_true rfl, Nat.le_of_ble_eq_true rfl⟩ (fun q9 ce H1 locs1 hw1 hS1 hce hcv hcl => mout hout hlocks hw1 hS1 hce hcv hcl)
  ·
    exact mcallTS (EX := "java/lang/IllegalArgumentException") hw ⟨hx, hb, hml, hown, hts⟩ hS (t_X3_checkArgument hl0 (x1) (0) (127) (q1)) (va_cwS 3 hts gX3_addRule_X3_checkArgument rfl rfl rfl (by decide +kernel) ⟨Nat.le_of_ble_eq_true rfl, Nat.le_of_ble_eq_true rfl⟩) rfl hl.1 rfl (Nat.le_of_ble_eq_true rfl) dX3_addRule_4 ⟨Nat.le_of_ble_eq_true rfl, Nat.le_of_ble_eq_true rfl⟩ (fun q9 ce H1 locs1 hw1 hS1 hce hcv hcl => mout hout hlocks hw1 hS1 hce hcv hcl)

set_option maxHeartbeats 4000000 in
set_option maxRecDepth 100000 in
theorem t_X3_addRule_2 {l : Launch} (hl0 : l.stackTraces = false) {G : mG} {V : mV} {α : Nat → Nat} {f : sT} {nr nw ns : Nat} (hC : mC G V α f nr nw ns) (hwf : mwf f nr nw ns) (x1 x2 x3 x4 x5 : Int32) (q1 : inn x1 0 127) (q2 : inn x2 0 95) (q3 : inn x3 (x2 + 1) 96) (q4 : inn x4 1 15) (q5 : inn x5 100 400) (hfull : nr = 16) : vx_Met l yX3_addRule wsX3_addRule ({ frames := 6, cells := 1, slots := 6, locals := 82 }) (va_Pc [.ref (α (0)), .int (x1), .int (x2), .int (x3), .int (x4), .int (x5)] (fun U => mW G V α U U.heap)) mNo (mXC G V α "java/lang/IllegalStateException") 1 6 (mfree G) := by
  refine vx_ofW (cc := cX3_addRule) (maxL := 7) (ret := (some .int)) (by decide) rfl ?_
  intro p e s m args below meth c s₁ B hml hout hv
  obtain ⟨rfl, hw⟩ := hv
  have hx := B.exec
  have hb := B.bytes
  have hr := B.returns
  have hts := atoms_spec (ws := wsX3_addRule) B.pre
  have hown : s.vm.findClass RX3 = some m.cls := findClass_of_methodNamed B.named
  have hlocks := B.notSynchronized
  have hS : va_S (mfree G) s.heap s.heap [] := va_S.rf
  obtain ⟨k0, k1, k2, hL3, hL4, hL5, cR, cW, cS, -, -, -⟩ := id hC
  obtain ⟨md3, ed3, v3⟩ := hL3.obj
  obtain ⟨md4, ed4, v4⟩ := hL4.obj
  obtain ⟨md5, ed5, v5⟩ := hL5.obj
  obtain ⟨⟨hnr, hnw, hns⟩, -, -, h6w, h7w, -⟩ := id hwf
  have fl_26 := hts (.fieldLink RX3 26 "RosterPay" "rules" "Ljava/util/ArrayList;") (by decide +kernel)
  have in_X3 : ∀ w ∈ u_ws RX3 TX3 5, w ∈ wsX3_addRule := by decide +kernel
  have tk_51 := hts (.classLink RX3 51 "java/lang/IllegalStateException") (by decide +kernel)
  have ti_51 := hts (.initialized "java/lang/IllegalStateException") (by decide +kernel)
  have hat_55 : ∀ w ∈ (vx_atS RX3 55 "java/lang/IllegalStateException" ["java/lang/RuntimeException", "java/lang/Exception"]).filter goodWord, w ∈ wsX3_addRule := by decide +kernel
  have hl := lv_entry ([.ref (α (0)), .int (x1), .int (x2), .int (x3), .int (x4), .int (x5)]) (n := 7) (Nat.le_of_ble_eq_true rfl)
  rw [lg_entry_eq]
  generalize (lg_sl ([.ref (α (0)), .int (x1), .int (x2), .int (x3), .int (x4), .int (x5)]) ++ List.replicate (7 - (lg_sl ([.ref (α (0)), .int (x1), .int (x2), .int (x3), .int (x4), .int (x5)])).length) Slot.unset).toArray = ls at hl ⊢
  have hl : lv_has ls 7 [(0, .ref (α (0))), (1, .int (x1)), (2, .int (x2)), (3, .int (x3)), (4, .int (x4)), (5, .int (x5))] := hl
  refine lv_iload_n hx hb dX3_addRule_0 rfl (lv_at hl 1 rfl) ?_
  refine lv_iconst (v := (0)) hx hb dX3_addRule_1 (by decide) ?_
  refine lv_bipush (v := (127)) hx hb dX3_addRule_2 (by decide) ?_
  refine mcallSv hw ⟨hx, hb, hml, hown, hts⟩ (c_X3_checkArgument (x1) (0) (127) (q1)) (va_cwS 3 hts gX3_addRule_X3_checkArgument rfl rfl rfl (by decide +kernel) ⟨Nat.le_of_ble_eq_true rfl, Nat.le_of_ble_eq_true rfl⟩) rfl hl.1 rfl (Nat.le_of_ble_eq_true rfl) dX3_addRule_4 ⟨Nat.le_of_ble_eq_true rfl, Nat.le_of_ble_eq_true rfl⟩ ?_
  refine lv_iload_n hx hb dX3_addRule_7 rfl (lv_at hl 2 rfl) ?_
  refine lv_iconst (v := (0)) hx hb dX3_addRule_8 (by decide) ?_
  refine lv_bipush (v := (95)) hx hb dX3_addRule_9 (by decide) ?_
  refine mcallSv hw ⟨hx, hb, hml, hown, hts⟩ (c_X3_checkArgument (x2) (0) (95) (q2)) (va_cwS 3 hts gX3_addRule_X3_checkArgument rfl rfl rfl (by decide +kernel) ⟨Nat.le_of_ble_eq_true rfl, Nat.le_of_ble_eq_true rfl⟩) rfl hl.1 rfl (Nat.le_of_ble_eq_true rfl) dX3_addRule_11 ⟨Nat.le_of_ble_eq_true rfl, Nat.le_of_ble_eq_true rfl⟩ ?_
  refine lv_iload_n hx hb dX3_addRule_14 rfl (lv_at hl 3 rfl) ?_
  refine lv_iload_n hx hb dX3_addRule_15 rfl (lv_at hl 2 rfl) ?_
  refine lv_iconst (v := (1)) hx hb dX3_addRule_16 (by decide) ?_
  refine lv_iadd hx hb dX3_addRule_17 ?_
  refine lv_bipush (v := (96)) hx hb dX3_addRule_18 (by decide) ?_
  refine mcallSv hw ⟨hx, hb, hml, hown, hts⟩ (c_X3_checkArgument (x3) ((x2 + 1)) (96) (q3)) (va_cwS 3 hts gX3_addRule_X3_checkArgument rfl rfl rfl (by decide +kernel) ⟨Nat.le_of_ble_eq_true rfl, Nat.le_of_ble_eq_true rfl⟩) rfl hl.1 rfl (Nat.le_of_ble_eq_true rfl) dX3_addRule_20 ⟨Nat.le_of_ble_eq_true rfl, Nat.le_of_ble_eq_true rfl⟩ ?_
  refine lv_iload hx hb dX3_addRule_23 (lv_at hl 4 rfl) ?_
  refine lv_iconst (v := (1)) hx hb dX3_addRule_25 (by decide) ?_
  refine lv_bipush (v := (15)) hx hb dX3_addRule_26 (by decide) ?_
  refine mcallSv hw ⟨hx, hb, hml, hown, hts⟩ (c_X3_checkArgument (x4) (1) (15) (q4)) (va_cwS 3 hts gX3_addRule_X3_checkArgument rfl rfl rfl (by decide +kernel) ⟨Nat.le_of_ble_eq_true rfl, Nat.le_of_ble_eq_true rfl⟩) rfl hl.1 rfl (Nat.le_of_ble_eq_true rfl) dX3_addRule_28 ⟨Nat.le_of_ble_eq_true rfl, Nat.le_of_ble_eq_true rfl⟩ ?_
  refine lv_iload hx hb dX3_addRule_31 (lv_at hl 5 rfl) ?_
  refine lv_bipush (v := (100)) hx hb dX3_addRule_33 (by decide) ?_
  refine lv_sipush (v := (400)) hx hb dX3_addRule_35 (by decide) ?_
  refine mcallSv hw ⟨hx, hb, hml, hown, hts⟩ (c_X3_checkArgument (x5) (100) (400) (q5)) (va_cwS 3 hts gX3_addRule_X3_checkArgument rfl rfl rfl (by decide +kernel) ⟨Nat.le_of_ble_eq_true rfl, Nat.le_of_ble_eq_true rfl⟩) rfl hl.1 rfl (Nat.le_of_ble_eq_true rfl) dX3_addRule_38 ⟨Nat.le_of_ble_eq_true rfl, Nat.le_of_ble_eq_true rfl⟩ ?_
  refine lv_aload_n hx hb dX3_addRule_41 rfl (lv_at hl 0 rfl) ?_
  refine mget (C := RX3) (T := TX3) (N := 5) (ci := 4) hx hb hts in_X3 hown hw (k0) rfl 2 (by decide) fl_26 rfl dX3_addRule_42 ?_
  refine mcallVi hw (v3) rfl rfl ⟨hx, hb, hml, hown, hts⟩ (c_lsize hL3) (cwV 0 hts gX3_addRule_Jx4a65c_size_8abf5 rfl rfl rfl (by decide +kernel) ⟨Nat.le_of_ble_eq_true rfl, Nat.le_of_ble_eq_true rfl⟩) rfl hl.1 rfl (Nat.le_of_ble_eq_true rfl) dX3_addRule_45 ⟨Nat.le_of_ble_eq_true rfl, Nat.le_of_ble_eq_true rfl⟩ ?_
  refine lv_istore (lv' := [(6, .int (nI (nr))), (0, .ref (α (0))), (1, .int (x1)), (2, .int (x2)), (3, .int (x3)), (4, .int (x4)), (5, .int (x5))]) hx hb dX3_addRule_48 hl (by decide) rfl (fun ls hl => ?_)
  refine lv_iload hx hb dX3_addRule_50 (lv_at hl 0 rfl) ?_
  refine lv_bipush (v := (16)) hx hb dX3_addRule_52 (by decide) ?_
  refine lv_icmp_lt (tgt := 67) hx hb dX3_addRule_54 (by decide) (fun z => absurd z ((by rw [hfull]; decide))) (fun c1 => ?_)
  exact mthrowS (text := "no more rules") hx hb hl0 hown (by decide +kernel) tk_51 ti_51 (fun w h9 => hts w (hat_55 w h9)) (by decide +kernel) (by decide +kernel) (by decide) hw hS (hl.1.trans hml.symm) dX3_addRule_57 dX3_addRule_60 dX3_addRule_61 dX3_addRule_63 dX3_addRule_66 hout (Nat.le_of_ble_eq_true rfl) (Nat.le_of_ble_eq_true rfl) (Nat.le_of_ble_eq_true rfl) (Nat.le_of_ble_eq_true rfl) hlocks

set_option maxHeartbeats 4000000 in
set_option maxRecDepth 100000 in
theorem t_X3_addWorker_1 {l : Launch} (hl0 : l.stackTraces = false) {G : mG} {V : mV} {α : Nat → Nat} {f : sT} {nr nw ns : Nat} (hC : mC G V α f nr nw ns) (hwf : mwf f nr nw ns) (y : Int32) (hbad : ¬ inn y 0 3) : vx_Met l yX3_addWorker wsX3_addWorker ({ frames := 7, cells := 1, slots := 6, locals := 104 }) (va_Pc [.ref (α (0)), .int (y)] (fun U => mW G V α U U.heap)) mNo (mXC G V α "java/lang/IllegalArgumentException") 1 6 (mfree G) := by
  refine vx_ofW (cc := cX3_addWorker) (maxL := 3) (ret := (some .int)) (by decide) rfl ?_
  intro p e s m args below meth c s₁ B hml hout hv
  obtain ⟨rfl, hw⟩ := hv
  have hx := B.exec
  have hb := B.bytes
  have hr := B.returns
  have hts := atoms_spec (ws := wsX3_addWorker) B.pre
  have hown : s.vm.findClass RX3 = some m.cls := findClass_of_methodNamed B.named
  have hlocks := B.notSynchronized
  have hS : va_S (mfree G) s.heap s.heap [] := va_S.rf
  obtain ⟨k0, k1, k2, hL3, hL4, hL5, cR, cW, cS, -, -, -⟩ := id hC
  obtain ⟨md3, ed3, v3⟩ := hL3.obj
  obtain ⟨md4, ed4, v4⟩ := hL4.obj
  obtain ⟨md5, ed5, v5⟩ := hL5.obj
  obtain ⟨⟨hnr, hnw, hns⟩, -, -, h6w, h7w, -⟩ := id hwf
  have hl := lv_entry ([.ref (α (0)), .int (y)]) (n := 3) (Nat.le_of_ble_eq_true rfl)
  rw [lg_entry_eq]
  generalize (lg_sl ([.ref (α (0)), .int (y)]) ++ List.replicate (3 - (lg_sl ([.ref (α (0)), .int (y)])).length) Slot.unset).toArray = ls at hl ⊢
  have hl : lv_has ls 3 [(0, .ref (α (0))), (1, .int (y))] := hl
  refine lv_iload_n hx hb dX3_addWorker_0 rfl (lv_at hl 1 rfl) ?_
  refine lv_iconst (v := (0)) hx hb dX3_addWorker_1 (by decide) ?_
  refine lv_iconst (v := (3)) hx hb dX3_addWorker_2 (by decide) ?_
  exact mcallTS (EX := "java/lang/IllegalArgumentException") hw ⟨hx, hb, hml, hown, hts⟩ hS (t_X3_checkArgument hl0 (y) (0) (3) (hbad)) (va_cwS 3 hts gX3_addWorker_X3_checkArgument rfl rfl rfl (by decide +kernel) ⟨Nat.le_of_ble_eq_true rfl, Nat.le_of_ble_eq_true rfl⟩) rfl hl.1 rfl (Nat.le_of_ble_eq_true rfl) dX3_addWorker_3 ⟨Nat.le_of_ble_eq_true rfl, Nat.le_of_ble_eq_true rfl⟩ (fun q9 ce H1 locs1 hw1 hS1 hce hcv hcl => mout hout hlocks hw1 hS1 hce hcv hcl)

set_option maxHeartbeats 4000000 in
set_option maxRecDepth 100000 in
theorem t_X3_addWorker_2 {l : Launch} (hl0 : l.stackTraces = false) {G : mG} {V : mV} {α : Nat → Nat} {f : sT} {nr nw ns : Nat} (hC : mC G V α f nr nw ns) (hwf : mwf f nr nw ns) (y : Int32) (hy : inn y 0 3) (hfull : nw = 12) : vx_Met l yX3_addWorker wsX3_addWorker ({ frames := 6, cells := 1, slots := 6, locals := 82 }) (va_Pc [.ref (α (0)), .int (y)] (fun U => mW G V α U U.heap)) mNo (mXC G V α "java/lang/IllegalStateException") 1 6 (mfree G) := by
  refine vx_ofW (cc := cX3_addWorker) (maxL := 3) (ret := (some .int)) (by decide) rfl ?_
  intro p e s m args below meth c s₁ B hml hout hv
  obtain ⟨rfl, hw⟩ := hv
  have hx := B.exec
  have hb := B.bytes
  have hr := B.returns
  have hts := atoms_spec (ws := wsX3_addWorker) B.pre
  have hown : s.vm.findClass RX3 = some m.cls := findClass_of_methodNamed B.named
  have hlocks := B.notSynchronized
  have hS : va_S (mfree G) s.heap s.heap [] := va_S.rf
  obtain ⟨k0, k1, k2, hL3, hL4, hL5, cR, cW, cS, -, -, -⟩ := id hC
  obtain ⟨md3, ed3, v3⟩ := hL3.obj
  obtain ⟨md4, ed4, v4⟩ := hL4.obj
  obtain ⟨md5, ed5, v5⟩ := hL5.obj
  obtain ⟨⟨hnr, hnw, hns⟩, -, -, h6w, h7w, -⟩ := id hwf
  have fl_30 := hts (.fieldLink RX3 30 "RosterPay" "workers" "Ljava/util/ArrayList;") (by decide +kernel)
  have in_X3 : ∀ w ∈ u_ws RX3 TX3 5, w ∈ wsX3_addWorker := by decide +kernel
  have tk_51 := hts (.classLink RX3 51 "java/lang/IllegalStateException") (by decide +kernel)
  have ti_51 := hts (.initialized "java/lang/IllegalStateException") (by decide +kernel)
  have hat_55 : ∀ w ∈ (vx_atS RX3 55 "java/lang/IllegalStateException" ["java/lang/RuntimeException", "java/lang/Exception"]).filter goodWord, w ∈ wsX3_addWorker := by decide +kernel
  have hl := lv_entry ([.ref (α (0)), .int (y)]) (n := 3) (Nat.le_of_ble_eq_true rfl)
  rw [lg_entry_eq]
  generalize (lg_sl ([.ref (α (0)), .int (y)]) ++ List.replicate (3 - (lg_sl ([.ref (α (0)), .int (y)])).length) Slot.unset).toArray = ls at hl ⊢
  have hl : lv_has ls 3 [(0, .ref (α (0))), (1, .int (y))] := hl
  refine lv_iload_n hx hb dX3_addWorker_0 rfl (lv_at hl 1 rfl) ?_
  refine lv_iconst (v := (0)) hx hb dX3_addWorker_1 (by decide) ?_
  refine lv_iconst (v := (3)) hx hb dX3_addWorker_2 (by decide) ?_
  refine mcallSv hw ⟨hx, hb, hml, hown, hts⟩ (c_X3_checkArgument (y) (0) (3) (hy)) (va_cwS 3 hts gX3_addWorker_X3_checkArgument rfl rfl rfl (by decide +kernel) ⟨Nat.le_of_ble_eq_true rfl, Nat.le_of_ble_eq_true rfl⟩) rfl hl.1 rfl (Nat.le_of_ble_eq_true rfl) dX3_addWorker_3 ⟨Nat.le_of_ble_eq_true rfl, Nat.le_of_ble_eq_true rfl⟩ ?_
  refine lv_aload_n hx hb dX3_addWorker_6 rfl (lv_at hl 0 rfl) ?_
  refine mget (C := RX3) (T := TX3) (N := 5) (ci := 4) hx hb hts in_X3 hown hw (k0) rfl 3 (by decide) fl_30 rfl dX3_addWorker_7 ?_
  refine mcallVi hw (v4) rfl rfl ⟨hx, hb, hml, hown, hts⟩ (c_lsize hL4) (cwV 0 hts gX3_addWorker_Jx4a65c_size_8abf5 rfl rfl rfl (by decide +kernel) ⟨Nat.le_of_ble_eq_true rfl, Nat.le_of_ble_eq_true rfl⟩) rfl hl.1 rfl (Nat.le_of_ble_eq_true rfl) dX3_addWorker_10 ⟨Nat.le_of_ble_eq_true rfl, Nat.le_of_ble_eq_true rfl⟩ ?_
  refine lv_istore_n (lv' := [(2, .int (nI (nw))), (0, .ref (α (0))), (1, .int (y))]) hx hb dX3_addWorker_13 rfl hl (by decide) rfl (fun ls hl => ?_)
  refine lv_iload_n hx hb dX3_addWorker_14 rfl (lv_at hl 0 rfl) ?_
  refine lv_bipush (v := (12)) hx hb dX3_addWorker_15 (by decide) ?_
  refine lv_icmp_lt (tgt := 30) hx hb dX3_addWorker_17 (by decide) (fun z => absurd z ((by rw [hfull]; decide))) (fun c1 => ?_)
  exact mthrowS (text := "no more workers") hx hb hl0 hown (by decide +kernel) tk_51 ti_51 (fun w h9 => hts w (hat_55 w h9)) (by decide +kernel) (by decide +kernel) (by decide) hw hS (hl.1.trans hml.symm) dX3_addWorker_20 dX3_addWorker_23 dX3_addWorker_24 dX3_addWorker_26 dX3_addWorker_29 hout (Nat.le_of_ble_eq_true rfl) (Nat.le_of_ble_eq_true rfl) (Nat.le_of_ble_eq_true rfl) (Nat.le_of_ble_eq_true rfl) hlocks

set_option maxHeartbeats 4000000 in
set_option maxRecDepth 100000 in
theorem t_X3_setRank_1 {l : Launch} (hl0 : l.stackTraces = false) {G : mG} {V : mV} {α : Nat → Nat} {f : sT} {nr nw ns : Nat} (hC : mC G V α f nr nw ns) (hwf : mwf f nr nw ns) (y x : Int32) (hbad : ¬ inn y 0 (nI nw - 1)) : vx_Met l yX3_setRank wsX3_setRank ({ frames := 7, cells := 1, slots := 6, locals := 103 }) (va_Pc [.ref (α (0)), .int (y), .int (x)] (fun U => mW G V α U U.heap)) mNo (mXC G V α "java/lang/IndexOutOfBoundsException") 1 6 (mfree G) := by
  refine vx_ofW (cc := cX3_setRank) (maxL := 5) (ret := (some .int)) (by decide) rfl ?_
  intro p e s m args below meth c s₁ B hml hout hv
  obtain ⟨rfl, hw⟩ := hv
  have hx := B.exec
  have hb := B.bytes
  have hr := B.returns
  have hts := atoms_spec (ws := wsX3_setRank) B.pre
  have hown : s.vm.findClass RX3 = some m.cls := findClass_of_methodNamed B.named
  have hlocks := B.notSynchronized
  have hS : va_S (mfree G) s.heap s.heap [] := va_S.rf
  obtain ⟨k0, k1, k2, hL3, hL4, hL5, cR, cW, cS, -, -, -⟩ := id hC
  obtain ⟨md3, ed3, v3⟩ := hL3.obj
  obtain ⟨md4, ed4, v4⟩ := hL4.obj
  obtain ⟨md5, ed5, v5⟩ := hL5.obj
  obtain ⟨⟨hnr, hnw, hns⟩, -, -, h6w, h7w, -⟩ := id hwf
  have hl := lv_entry ([.ref (α (0)), .int (y), .int (x)]) (n := 5) (Nat.le_of_ble_eq_true rfl)
  rw [lg_entry_eq]
  generalize (lg_sl ([.ref (α (0)), .int (y), .int (x)]) ++ List.replicate (5 - (lg_sl ([.ref (α (0)), .int (y), .int (x)])).length) Slot.unset).toArray = ls at hl ⊢
  have hl : lv_has ls 5 [(0, .ref (α (0))), (1, .int (y)), (2, .int (x))] := hl
  refine lv_aload_n hx hb dX3_setRank_0 rfl (lv_at hl 0 rfl) ?_
  refine lv_iload_n hx hb dX3_setRank_1 rfl (lv_at hl 1 rfl) ?_
  exact mcallTV (EX := "java/lang/IndexOutOfBoundsException") hw (k0) rfl rfl ⟨hx, hb, hml, hown, hts⟩ hS (t_X3_findWorker hl0 hC (by omega) y hbad) (cwV 1 hts gX3_setRank_X3_findWorker rfl rfl rfl (by decide +kernel) ⟨Nat.le_of_ble_eq_true rfl, Nat.le_of_ble_eq_true rfl⟩) rfl hl.1 rfl (Nat.le_of_ble_eq_true rfl) dX3_setRank_2 ⟨Nat.le_of_ble_eq_true rfl, Nat.le_of_ble_eq_true rfl⟩ (fun q9 ce H1 locs1 hw1 hS1 hce hcv hcl => mout hout hlocks hw1 hS1 hce hcv hcl)

set_option maxHeartbeats 4000000 in
set_option maxRecDepth 100000 in
theorem t_X3_setRank_2 {l : Launch} (hl0 : l.stackTraces = false) {G : mG} {V : mV} {α : Nat → Nat} {f : sT} {nr nw ns : Nat} (hC : mC G V α f nr nw ns) (hwf : mwf f nr nw ns) (k : Nat) (hk : k < nw) (x : Int32) (hbad : ¬ inn x 0 3) : vx_Met l yX3_setRank wsX3_setRank ({ frames := 7, cells := 1, slots := 6, locals := 104 }) (va_Pc [.ref (α (0)), .int (nI (k)), .int (x)] (fun U => mW G V α U U.heap)) mNo (mXC G V α "java/lang/IllegalArgumentException") 1 6 (mfree G) := by
  refine vx_ofW (cc := cX3_setRank) (maxL := 5) (ret := (some .int)) (by decide) rfl ?_
  intro p e s m args below meth c s₁ B hml hout hv
  obtain ⟨rfl, hw⟩ := hv
  have hx := B.exec
  have hb := B.bytes
  have hr := B.returns
  have hts := atoms_spec (ws := wsX3_setRank) B.pre
  have hown : s.vm.findClass RX3 = some m.cls := findClass_of_methodNamed B.named
  have hlocks := B.notSynchronized
  have hS : va_S (mfree G) s.heap s.heap [] := va_S.rf
  obtain ⟨k0, k1, k2, hL3, hL4, hL5, cR, cW, cS, -, -, -⟩ := id hC
  obtain ⟨md3, ed3, v3⟩ := hL3.obj
  obtain ⟨md4, ed4, v4⟩ := hL4.obj
  obtain ⟨md5, ed5, v5⟩ := hL5.obj
  obtain ⟨⟨hnr, hnw, hns⟩, -, -, h6w, h7w, -⟩ := id hwf
  have hl := lv_entry ([.ref (α (0)), .int (nI (k)), .int (x)]) (n := 5) (Nat.le_of_ble_eq_true rfl)
  rw [lg_entry_eq]
  generalize (lg_sl ([.ref (α (0)), .int (nI (k)), .int (x)]) ++ List.replicate (5 - (lg_sl ([.ref (α (0)), .int (nI (k)), .int (x)])).length) Slot.unset).toArray = ls at hl ⊢
  have hl : lv_has ls 5 [(0, .ref (α (0))), (1, .int (nI (k))), (2, .int (x))] := hl
  refine lv_aload_n hx hb dX3_setRank_0 rfl (lv_at hl 0 rfl) ?_
  refine lv_iload_n hx hb dX3_setRank_1 rfl (lv_at hl 1 rfl) ?_
  refine mcallVr hw (k0) rfl rfl ⟨hx, hb, hml, hown, hts⟩ (c_X3_findWorker hC (by omega) k (by omega)) (cwV 1 hts gX3_setRank_X3_findWorker rfl rfl rfl (by decide +kernel) ⟨Nat.le_of_ble_eq_true rfl, Nat.le_of_ble_eq_true rfl⟩) rfl hl.1 rfl (Nat.le_of_ble_eq_true rfl) dX3_setRank_2 ⟨Nat.le_of_ble_eq_true rfl, Nat.le_of_ble_eq_true rfl⟩ ?_
  refine lv_astore_n (lv' := [(3, .ref (α (200 + k))), (0, .ref (α (0))), (1, .int (nI (k))), (2, .int (x))]) hx hb dX3_setRank_5 rfl hl (by decide) rfl (fun ls hl => ?_)
  refine lv_iload_n hx hb dX3_setRank_6 rfl (lv_at hl 3 rfl) ?_
  refine lv_iconst (v := (0)) hx hb dX3_setRank_7 (by decide) ?_
  refine lv_iconst (v := (3)) hx hb dX3_setRank_8 (by decide) ?_
  exact mcallTS (EX := "java/lang/IllegalArgumentException") hw ⟨hx, hb, hml, hown, hts⟩ hS (t_X3_checkArgument hl0 (x) (0) (3) (hbad)) (va_cwS 3 hts gX3_setRank_X3_checkArgument rfl rfl rfl (by decide +kernel) ⟨Nat.le_of_ble_eq_true rfl, Nat.le_of_ble_eq_true rfl⟩) rfl hl.1 rfl (Nat.le_of_ble_eq_true rfl) dX3_setRank_9 ⟨Nat.le_of_ble_eq_true rfl, Nat.le_of_ble_eq_true rfl⟩ (fun q9 ce H1 locs1 hw1 hS1 hce hcv hcl => mout hout hlocks hw1 hS1 hce hcv hcl)

set_option maxHeartbeats 4000000 in
set_option maxRecDepth 100000 in
theorem t_X3_addShift_1 {l : Launch} (hl0 : l.stackTraces = false) {G : mG} {V : mV} {α : Nat → Nat} {f : sT} {nr nw ns : Nat} (hC : mC G V α f nr nw ns) (hwf : mwf f nr nw ns) (y x1 x2 x3 : Int32) (hbad : ¬ inn y 0 (nI nw - 1)) : vx_Met l yX3_addShift wsX3_addShift ({ frames := 7, cells := 1, slots := 6, locals := 103 }) (va_Pc [.ref (α (0)), .int (y), .int (x1), .int (x2), .int (x3)] (fun U => mW G V α U U.heap)) mNo (mXC G V α "java/lang/IndexOutOfBoundsException") 1 6 (mfree G) := by
  refine vx_ofW (cc := cX3_addShift) (maxL := 8) (ret := (some .int)) (by decide) rfl ?_
  intro p e s m args below meth c s₁ B hml hout hv
  obtain ⟨rfl, hw⟩ := hv
  have hx := B.exec
  have hb := B.bytes
  have hr := B.returns
  have hts := atoms_spec (ws := wsX3_addShift) B.pre
  have hown : s.vm.findClass RX3 = some m.cls := findClass_of_methodNamed B.named
  have hlocks := B.notSynchronized
  have hS : va_S (mfree G) s.heap s.heap [] := va_S.rf
  obtain ⟨k0, k1, k2, hL3, hL4, hL5, cR, cW, cS, -, -, -⟩ := id hC
  obtain ⟨md3, ed3, v3⟩ := hL3.obj
  obtain ⟨md4, ed4, v4⟩ := hL4.obj
  obtain ⟨md5, ed5, v5⟩ := hL5.obj
  obtain ⟨⟨hnr, hnw, hns⟩, -, -, h6w, h7w, -⟩ := id hwf
  have hl := lv_entry ([.ref (α (0)), .int (y), .int (x1), .int (x2), .int (x3)]) (n := 8) (Nat.le_of_ble_eq_true rfl)
  rw [lg_entry_eq]
  generalize (lg_sl ([.ref (α (0)), .int (y), .int (x1), .int (x2), .int (x3)]) ++ List.replicate (8 - (lg_sl ([.ref (α (0)), .int (y), .int (x1), .int (x2), .int (x3)])).length) Slot.unset).toArray = ls at hl ⊢
  have hl : lv_has ls 8 [(0, .ref (α (0))), (1, .int (y)), (2, .int (x1)), (3, .int (x2)), (4, .int (x3))] := hl
  refine lv_aload_n hx hb dX3_addShift_0 rfl (lv_at hl 0 rfl) ?_
  refine lv_iload_n hx hb dX3_addShift_1 rfl (lv_at hl 1 rfl) ?_
  exact mcallTV (EX := "java/lang/IndexOutOfBoundsException") hw (k0) rfl rfl ⟨hx, hb, hml, hown, hts⟩ hS (t_X3_findWorker hl0 hC (by omega) y hbad) (cwV 1 hts gX3_addShift_X3_findWorker rfl rfl rfl (by decide +kernel) ⟨Nat.le_of_ble_eq_true rfl, Nat.le_of_ble_eq_true rfl⟩) rfl hl.1 rfl (Nat.le_of_ble_eq_true rfl) dX3_addShift_2 ⟨Nat.le_of_ble_eq_true rfl, Nat.le_of_ble_eq_true rfl⟩ (fun q9 ce H1 locs1 hw1 hS1 hce hcv hcl => mout hout hlocks hw1 hS1 hce hcv hcl)

set_option maxHeartbeats 4000000 in
set_option maxRecDepth 100000 in
theorem t_X3_addShift_2 {l : Launch} (hl0 : l.stackTraces = false) {G : mG} {V : mV} {α : Nat → Nat} {f : sT} {nr nw ns : Nat} (hC : mC G V α f nr nw ns) (hwf : mwf f nr nw ns) (k : Nat) (hk : k < nw) (x1 x2 x3 : Int32) (hbad : ¬ (inn x1 0 362 ∧ inn x2 0 95 ∧ inn x3 1 64)) : vx_Met l yX3_addShift wsX3_addShift ({ frames := 7, cells := 1, slots := 6, locals := 104 }) (va_Pc [.ref (α (0)), .int (nI (k)), .int (x1), .int (x2), .int (x3)] (fun U => mW G V α U U.heap)) mNo (mXC G V α "java/lang/IllegalArgumentException") 1 6 (mfree G) := by
  refine vx_ofW (cc := cX3_addShift) (maxL := 8) (ret := (some .int)) (by decide) rfl ?_
  intro p e s m args below meth c s₁ B hml hout hv
  obtain ⟨rfl, hw⟩ := hv
  have hx := B.exec
  have hb := B.bytes
  have hr := B.returns
  have hts := atoms_spec (ws := wsX3_addShift) B.pre
  have hown : s.vm.findClass RX3 = some m.cls := findClass_of_methodNamed B.named
  have hlocks := B.notSynchronized
  have hS : va_S (mfree G) s.heap s.heap [] := va_S.rf
  obtain ⟨k0, k1, k2, hL3, hL4, hL5, cR, cW, cS, -, -, -⟩ := id hC
  obtain ⟨md3, ed3, v3⟩ := hL3.obj
  obtain ⟨md4, ed4, v4⟩ := hL4.obj
  obtain ⟨md5, ed5, v5⟩ := hL5.obj
  obtain ⟨⟨hnr, hnw, hns⟩, -, -, h6w, h7w, -⟩ := id hwf
  have hl := lv_entry ([.ref (α (0)), .int (nI (k)), .int (x1), .int (x2), .int (x3)]) (n := 8) (Nat.le_of_ble_eq_true rfl)
  rw [lg_entry_eq]
  generalize (lg_sl ([.ref (α (0)), .int (nI (k)), .int (x1), .int (x2), .int (x3)]) ++ List.replicate (8 - (lg_sl ([.ref (α (0)), .int (nI (k)), .int (x1), .int (x2), .int (x3)])).length) Slot.unset).toArray = ls at hl ⊢
  have hl : lv_has ls 8 [(0, .ref (α (0))), (1, .int (nI (k))), (2, .int (x1)), (3, .int (x2)), (4, .int (x3))] := hl
  refine lv_aload_n hx hb dX3_addShift_0 rfl (lv_at hl 0 rfl) ?_
  refine lv_iload_n hx hb dX3_addShift_1 rfl (lv_at hl 1 rfl) ?_
  refine mcallVr hw (k0) rfl rfl ⟨hx, hb, hml, hown, hts⟩ (c_X3_findWorker hC (by omega) k (by omega)) (cwV 1 hts gX3_addShift_X3_findWorker rfl rfl rfl (by decide +kernel) ⟨Nat.le_of_ble_eq_true rfl, Nat.le_of_ble_eq_true rfl⟩) rfl hl.1 rfl (Nat.le_of_ble_eq_true rfl) dX3_addShift_2 ⟨Nat.le_of_ble_eq_true rfl, Nat.le_of_ble_eq_true rfl⟩ ?_
  refine lv_astore (lv' := [(5, .ref (α (200 + k))), (0, .ref (α (0))), (1, .int (nI (k))), (2, .int (x1)), (3, .int (x2)), (4, .int (x3))]) hx hb dX3_addShift_5 hl (by decide) rfl (fun ls hl => ?_)
  refine lv_iload_n hx hb dX3_addShift_7 rfl (lv_at hl 3 rfl) ?_
  refine lv_iconst (v := (0)) hx hb dX3_addShift_8 (by decide) ?_
  refine lv_sipush (v := (362)) hx hb dX3_addShift_9 (by decide) ?_
  by_cases q1 : inn (x1) (0) (362)
  ·
    refine mcallSv hw ⟨hx, hb, hml, hown, hts⟩ (c_X3_checkArgument (x1) (0) (362) (q1)) (va_cwS 3 hts gX3_addShift_X3_checkArgument rfl rfl rfl (by decide +kernel) ⟨Nat.le_of_ble_eq_true rfl, Nat.le_of_ble_eq_true rfl⟩) rfl hl.1 rfl (Nat.le_of_ble_eq_true rfl) dX3_addShift_12 ⟨Nat.le_of_ble_eq_true rfl, Nat.le_of_ble_eq_true rfl⟩ ?_
    refine lv_iload_n hx hb dX3_addShift_15 rfl (lv_at hl 4 rfl) ?_
    refine lv_iconst (v := (0)) hx hb dX3_addShift_16 (by decide) ?_
    refine lv_bipush (v := (95)) hx hb dX3_addShift_17 (by decide) ?_
    by_cases q2 : inn (x2) (0) (95)
    ·
      refine mcallSv hw ⟨hx, hb, hml, hown, hts⟩ (c_X3_checkArgument (x2) (0) (95) (q2)) (va_cwS 3 hts gX3_addShift_X3_checkArgument rfl rfl rfl (by decide +kernel) ⟨Nat.le_of_ble_eq_true rfl, Nat.le_of_ble_eq_true rfl⟩) rfl hl.1 rfl (Nat.le_of_ble_eq_true rfl) dX3_addShift_19 ⟨Nat.le_of_ble_eq_true rfl, Nat.le_of_ble_eq_true rfl⟩ ?_
      refine lv_iload hx hb dX3_addShift_22 (lv_at hl 5 rfl) ?_
      refine lv_iconst (v := (1)) hx hb dX3_addShift_24 (by decide) ?_
      refine lv_bipush (v := (64)) hx hb dX3_addShift_25 (by decide) ?_
      by_cases q3 : inn (x3) (1) (64)
      ·
        refine mcallSv hw ⟨hx, hb, hml, hown, hts⟩ (c_X3_checkArgument (x3) (1) (64) (q3)) (va_cwS 3 hts gX3_addShift_X3_checkArgument rfl rfl rfl (by decide +kernel) ⟨Nat.le_of_ble_eq_true rfl, Nat.le_of_ble_eq_true rfl⟩) rfl hl.1 rfl (Nat.le_of_ble_eq_true rfl) dX3_addShift_27 ⟨Nat.le_of_ble_eq_true rfl, Nat.le_of_ble_eq_true rfl⟩ ?_
        exact absurd (⟨q1, q2, q3⟩) hbad
      ·
        exact mcallTS (EX := "java/lang/IllegalArgumentException") hw ⟨hx, hb, hml, hown, hts⟩ hS (t_X3_checkArgument hl0 (x3) (1) (64) (q3)) (va_cwS 3 hts gX3_addShift_X3_checkArgument rfl rfl rfl (by decide +kernel) ⟨Nat.le_of_ble_eq_true rfl, Nat.le_of_ble_eq_true rfl⟩) rfl hl.1 rfl (Nat.le_of_ble_eq_true rfl) dX3_addShift_27 ⟨Nat.le_of_ble_eq_true rfl, Nat.le_of_ble_eq_true rfl⟩ (fun q9 ce H1 locs1 hw1 hS1 hce hcv hcl => mout hout hlocks hw1 hS1 hce hcv hcl)
    ·
      exact mcallTS (EX := "java/lang/IllegalArgumentException") hw ⟨hx, hb, hml, hown, hts⟩ hS (t_X3_checkArgument hl0 (x2) (0) (95) (q2)) (va_cwS 3 hts gX3_addShift_X3_checkArgument rfl rfl rfl (by decide +kernel) ⟨Nat.le_of_ble_eq_true rfl, Nat.le_of_ble_eq_true rfl⟩) rfl hl.1 rfl (Nat.le_of_ble_eq_true rfl) dX3_addShift_19 ⟨Nat.le_of_ble_eq_true rfl, Nat.le_of_ble_eq_true rfl⟩ (fun q9 ce H1 locs1 hw1 hS1 hce hcv hcl => mout hout hlocks hw1 hS1 hce hcv hcl)
  ·
    exact mcallTS (EX := "java/lang/IllegalArgumentException") hw ⟨hx, hb, hml, hown, hts⟩ hS (t_X3_checkArgument hl0 (x1) (0) (362) (q1)) (va_cwS 3 hts gX3_addShift_X3_checkArgument rfl rfl rfl (by decide +kernel) ⟨Nat.le_of_ble_eq_true rfl, Nat.le_of_ble_eq_true rfl⟩) rfl hl.1 rfl (Nat.le_of_ble_eq_true rfl) dX3_addShift_12 ⟨Nat.le_of_ble_eq_true rfl, Nat.le_of_ble_eq_true rfl⟩ (fun q9 ce H1 locs1 hw1 hS1 hce hcv hcl => mout hout hlocks hw1 hS1 hce hcv hcl)

set_option maxHeartbeats 4000000 in
set_option maxRecDepth 100000 in
theorem t_X3_addShift_3 {l : Launch} (hl0 : l.stackTraces = false) {G : mG} {V : mV} {α : Nat → Nat} {f : sT} {nr nw ns : Nat} (hC : mC G V α f nr nw ns) (hwf : mwf f nr nw ns) (k d qq ln : Nat) (hk : k < nw) (hd : d < 363) (hqq : qq < 96) (hln : 1 ≤ ln) (hln2 : ln ≤ 64) (hov : ns = 80 ∨ 0 < s_wb f k (nI (d * 96 + qq)) (nI (d * 96 + qq + ln)) ns) : vx_Met l yX3_addShift wsX3_addShift ({ frames := 6, cells := 1, slots := 6, locals := 113 }) (va_Pc [.ref (α (0)), .int (nI (k)), .int (nI (d)), .int (nI (qq)), .int (nI (ln))] (fun U => mW G V α U U.heap)) mNo (mXC G V α "java/lang/IllegalStateException") 1 6 (mfree G) := by
  refine vx_ofW (cc := cX3_addShift) (maxL := 8) (ret := (some .int)) (by decide) rfl ?_
  intro p e s m args below meth c s₁ B hml hout hv
  obtain ⟨rfl, hw⟩ := hv
  have hx := B.exec
  have hb := B.bytes
  have hr := B.returns
  have hts := atoms_spec (ws := wsX3_addShift) B.pre
  have hown : s.vm.findClass RX3 = some m.cls := findClass_of_methodNamed B.named
  have hlocks := B.notSynchronized
  have hS : va_S (mfree G) s.heap s.heap [] := va_S.rf
  obtain ⟨k0, k1, k2, hL3, hL4, hL5, cR, cW, cS, -, -, -⟩ := id hC
  obtain ⟨md3, ed3, v3⟩ := hL3.obj
  obtain ⟨md4, ed4, v4⟩ := hL4.obj
  obtain ⟨md5, ed5, v5⟩ := hL5.obj
  obtain ⟨⟨hnr, hnw, hns⟩, -, -, h6w, h7w, -⟩ := id hwf
  have fl_33 := hts (.fieldLink RX3 33 "RosterPay" "roster" "Ljava/util/ArrayList;") (by decide +kernel)
  have in_X3 : ∀ w ∈ u_ws RX3 TX3 5, w ∈ wsX3_addShift := by decide +kernel
  have tk_51 := hts (.classLink RX3 51 "java/lang/IllegalStateException") (by decide +kernel)
  have ti_51 := hts (.initialized "java/lang/IllegalStateException") (by decide +kernel)
  have hat_55 : ∀ w ∈ (vx_atS RX3 55 "java/lang/IllegalStateException" ["java/lang/RuntimeException", "java/lang/Exception"]).filter goodWord, w ∈ wsX3_addShift := by decide +kernel
  have hl := lv_entry ([.ref (α (0)), .int (nI (k)), .int (nI (d)), .int (nI (qq)), .int (nI (ln))]) (n := 8) (Nat.le_of_ble_eq_true rfl)
  rw [lg_entry_eq]
  generalize (lg_sl ([.ref (α (0)), .int (nI (k)), .int (nI (d)), .int (nI (qq)), .int (nI (ln))]) ++ List.replicate (8 - (lg_sl ([.ref (α (0)), .int (nI (k)), .int (nI (d)), .int (nI (qq)), .int (nI (ln))])).length) Slot.unset).toArray = ls at hl ⊢
  have hl : lv_has ls 8 [(0, .ref (α (0))), (1, .int (nI (k))), (2, .int (nI (d))), (3, .int (nI (qq))), (4, .int (nI (ln)))] := hl
  refine lv_aload_n hx hb dX3_addShift_0 rfl (lv_at hl 0 rfl) ?_
  refine lv_iload_n hx hb dX3_addShift_1 rfl (lv_at hl 1 rfl) ?_
  refine mcallVr hw (k0) rfl rfl ⟨hx, hb, hml, hown, hts⟩ (c_X3_findWorker hC (by omega) k (by omega)) (cwV 1 hts gX3_addShift_X3_findWorker rfl rfl rfl (by decide +kernel) ⟨Nat.le_of_ble_eq_true rfl, Nat.le_of_ble_eq_true rfl⟩) rfl hl.1 rfl (Nat.le_of_ble_eq_true rfl) dX3_addShift_2 ⟨Nat.le_of_ble_eq_true rfl, Nat.le_of_ble_eq_true rfl⟩ ?_
  refine lv_astore (lv' := [(5, .ref (α (200 + k))), (0, .ref (α (0))), (1, .int (nI (k))), (2, .int (nI (d))), (3, .int (nI (qq))), (4, .int (nI (ln)))]) hx hb dX3_addShift_5 hl (by decide) rfl (fun ls hl => ?_)
  refine lv_iload_n hx hb dX3_addShift_7 rfl (lv_at hl 3 rfl) ?_
  refine lv_iconst (v := (0)) hx hb dX3_addShift_8 (by decide) ?_
  refine lv_sipush (v := (362)) hx hb dX3_addShift_9 (by decide) ?_
  refine mcallSv hw ⟨hx, hb, hml, hown, hts⟩ (c_X3_checkArgument (nI (d)) (0) (362) (inn_ix (n := 363) hd (by decide))) (va_cwS 3 hts gX3_addShift_X3_checkArgument rfl rfl rfl (by decide +kernel) ⟨Nat.le_of_ble_eq_true rfl, Nat.le_of_ble_eq_true rfl⟩) rfl hl.1 rfl (Nat.le_of_ble_eq_true rfl) dX3_addShift_12 ⟨Nat.le_of_ble_eq_true rfl, Nat.le_of_ble_eq_true rfl⟩ ?_
  refine lv_iload_n hx hb dX3_addShift_15 rfl (lv_at hl 4 rfl) ?_
  refine lv_iconst (v := (0)) hx hb dX3_addShift_16 (by decide) ?_
  refine lv_bipush (v := (95)) hx hb dX3_addShift_17 (by decide) ?_
  refine mcallSv hw ⟨hx, hb, hml, hown, hts⟩ (c_X3_checkArgument (nI (qq)) (0) (95) (inn_ix (n := 96) hqq (by decide))) (va_cwS 3 hts gX3_addShift_X3_checkArgument rfl rfl rfl (by decide +kernel) ⟨Nat.le_of_ble_eq_true rfl, Nat.le_of_ble_eq_true rfl⟩) rfl hl.1 rfl (Nat.le_of_ble_eq_true rfl) dX3_addShift_19 ⟨Nat.le_of_ble_eq_true rfl, Nat.le_of_ble_eq_true rfl⟩ ?_
  refine lv_iload hx hb dX3_addShift_22 (lv_at hl 5 rfl) ?_
  refine lv_iconst (v := (1)) hx hb dX3_addShift_24 (by decide) ?_
  refine lv_bipush (v := (64)) hx hb dX3_addShift_25 (by decide) ?_
  refine mcallSv hw ⟨hx, hb, hml, hown, hts⟩ (c_X3_checkArgument (nI (ln)) (1) (64) (inn_n 1 64 hln hln2 (by decide))) (va_cwS 3 hts gX3_addShift_X3_checkArgument rfl rfl rfl (by decide +kernel) ⟨Nat.le_of_ble_eq_true rfl, Nat.le_of_ble_eq_true rfl⟩) rfl hl.1 rfl (Nat.le_of_ble_eq_true rfl) dX3_addShift_27 ⟨Nat.le_of_ble_eq_true rfl, Nat.le_of_ble_eq_true rfl⟩ ?_
  refine lv_iload_n hx hb dX3_addShift_30 rfl (lv_at hl 3 rfl) ?_
  refine lv_bipush (v := (96)) hx hb dX3_addShift_31 (by decide) ?_
  refine lv_imul hx hb dX3_addShift_33 ?_
  refine lv_iload_n hx hb dX3_addShift_34 rfl (lv_at hl 4 rfl) ?_
  refine lv_iadd hx hb dX3_addShift_35 ?_
  refine lv_topi (fun y1 ey1 => ?_)
  obtain rfl : y1 = (nI (d * 96 + qq)) := ey1.trans (by rw [show nI (d) * (96 : Int32) = nI (d * 96) from pk_mul d 96, nI_add])
  refine lv_istore (lv' := [(6, .int (nI (d * 96 + qq))), (5, .ref (α (200 + k))), (0, .ref (α (0))), (1, .int (nI (k))), (2, .int (nI (d))), (3, .int (nI (qq))), (4, .int (nI (ln)))]) hx hb dX3_addShift_36 hl (by decide) rfl (fun ls hl => ?_)
  refine lv_aload_n hx hb dX3_addShift_38 rfl (lv_at hl 2 rfl) ?_
  refine mget (C := RX3) (T := TX3) (N := 5) (ci := 4) hx hb hts in_X3 hown hw (k0) rfl 4 (by decide) fl_33 rfl dX3_addShift_39 ?_
  refine mcallVi hw (v5) rfl rfl ⟨hx, hb, hml, hown, hts⟩ (c_lsize hL5) (cwV 0 hts gX3_addShift_Jx4a65c_size_8abf5 rfl rfl rfl (by decide +kernel) ⟨Nat.le_of_ble_eq_true rfl, Nat.le_of_ble_eq_true rfl⟩) rfl hl.1 rfl (Nat.le_of_ble_eq_true rfl) dX3_addShift_42 ⟨Nat.le_of_ble_eq_true rfl, Nat.le_of_ble_eq_true rfl⟩ ?_
  refine lv_istore (lv' := [(7, .int (nI (ns))), (6, .int (nI (d * 96 + qq))), (5, .ref (α (200 + k))), (0, .ref (α (0))), (1, .int (nI (k))), (2, .int (nI (d))), (3, .int (nI (qq))), (4, .int (nI (ln)))]) hx hb dX3_addShift_45 hl (by decide) rfl (fun ls hl => ?_)
  refine lv_iload hx hb dX3_addShift_47 (lv_at hl 0 rfl) ?_
  refine lv_bipush (v := (80)) hx hb dX3_addShift_49 (by decide) ?_
  refine lv_icmp_ge (tgt := 70) hx hb dX3_addShift_51 (by decide) (fun c2 => ?_) (fun c2 => ?_)
  ·
    exact mthrowS (text := "no room for the shift") hx hb hl0 hown (by decide +kernel) tk_51 ti_51 (fun w h9 => hts w (hat_55 w h9)) (by decide +kernel) (by decide +kernel) (by decide) hw hS (hl.1.trans hml.symm) dX3_addShift_70 dX3_addShift_73 dX3_addShift_74 dX3_addShift_76 dX3_addShift_79 hout (Nat.le_of_ble_eq_true rfl) (Nat.le_of_ble_eq_true rfl) (Nat.le_of_ble_eq_true rfl) (Nat.le_of_ble_eq_true rfl) hlocks
  ·
    refine lv_aload_n hx hb dX3_addShift_54 rfl (lv_at hl 3 rfl) ?_
    refine lv_aload hx hb dX3_addShift_55 (lv_at hl 2 rfl) ?_
    refine lv_iload hx hb dX3_addShift_57 (lv_at hl 1 rfl) ?_
    refine lv_iload hx hb dX3_addShift_59 (lv_at hl 1 rfl) ?_
    refine lv_iload hx hb dX3_addShift_61 (lv_at hl 7 rfl) ?_
    refine lv_iadd hx hb dX3_addShift_63 ?_
    refine lv_topi (fun y3 ey3 => ?_)
    obtain rfl : y3 = (nI (d * 96 + qq + ln)) := ey3.trans (nI_add (d * 96 + qq) ln)
    refine mcallVi hw (k0) rfl rfl ⟨hx, hb, hml, hown, hts⟩ (c_X3_overlapsAnother hC hwf k hk (nI (d * 96 + qq)) (nI (d * 96 + qq + ln))) (cwV 3 hts gX3_addShift_X3_overlapsAnother rfl rfl rfl (by decide +kernel) ⟨Nat.le_of_ble_eq_true rfl, Nat.le_of_ble_eq_true rfl⟩) rfl hl.1 rfl (Nat.le_of_ble_eq_true rfl) dX3_addShift_64 ⟨Nat.le_of_ble_eq_true rfl, Nat.le_of_ble_eq_true rfl⟩ ?_
    refine mif_eqB (tgt := 80) hx hb dX3_addShift_67 (by decide) (fun c4 => ?_) (fun c4 => ?_)
    ·
      exact absurd hov (fun z => z.elim (fun z2 => c2 (by rw [z2]; decide)) c4)
    ·
      exact mthrowS (text := "no room for the shift") hx hb hl0 hown (by decide +kernel) tk_51 ti_51 (fun w h9 => hts w (hat_55 w h9)) (by decide +kernel) (by decide +kernel) (by decide) hw hS (hl.1.trans hml.symm) dX3_addShift_70 dX3_addShift_73 dX3_addShift_74 dX3_addShift_76 dX3_addShift_79 hout (Nat.le_of_ble_eq_true rfl) (Nat.le_of_ble_eq_true rfl) (Nat.le_of_ble_eq_true rfl) (Nat.le_of_ble_eq_true rfl) hlocks

set_option maxHeartbeats 4000000 in
set_option maxRecDepth 100000 in
theorem t_X3_cancel_1 {l : Launch} (hl0 : l.stackTraces = false) {G : mG} {V : mV} {α : Nat → Nat} {f : sT} {nr nw ns : Nat} (hC : mC G V α f nr nw ns) (hwf : mwf f nr nw ns) (y : Int32) (hbad : ¬ inn y 0 (nI ns - 1)) : vx_Met l yX3_cancel wsX3_cancel ({ frames := 7, cells := 1, slots := 6, locals := 103 }) (va_Pc [.ref (α (0)), .int (y)] (fun U => mW G V α U U.heap)) mNo (mXC G V α "java/lang/IndexOutOfBoundsException") 1 6 (mfree G) := by
  refine vx_ofW (cc := cX3_cancel) (maxL := 4) (ret := (some .int)) (by decide) rfl ?_
  intro p e s m args below meth c s₁ B hml hout hv
  obtain ⟨rfl, hw⟩ := hv
  have hx := B.exec
  have hb := B.bytes
  have hr := B.returns
  have hts := atoms_spec (ws := wsX3_cancel) B.pre
  have hown : s.vm.findClass RX3 = some m.cls := findClass_of_methodNamed B.named
  have hlocks := B.notSynchronized
  have hS : va_S (mfree G) s.heap s.heap [] := va_S.rf
  obtain ⟨k0, k1, k2, hL3, hL4, hL5, cR, cW, cS, -, -, -⟩ := id hC
  obtain ⟨md3, ed3, v3⟩ := hL3.obj
  obtain ⟨md4, ed4, v4⟩ := hL4.obj
  obtain ⟨md5, ed5, v5⟩ := hL5.obj
  obtain ⟨⟨hnr, hnw, hns⟩, -, -, h6w, h7w, -⟩ := id hwf
  have hl := lv_entry ([.ref (α (0)), .int (y)]) (n := 4) (Nat.le_of_ble_eq_true rfl)
  rw [lg_entry_eq]
  generalize (lg_sl ([.ref (α (0)), .int (y)]) ++ List.replicate (4 - (lg_sl ([.ref (α (0)), .int (y)])).length) Slot.unset).toArray = ls at hl ⊢
  have hl : lv_has ls 4 [(0, .ref (α (0))), (1, .int (y))] := hl
  refine lv_aload_n hx hb dX3_cancel_0 rfl (lv_at hl 0 rfl) ?_
  refine lv_iload_n hx hb dX3_cancel_1 rfl (lv_at hl 1 rfl) ?_
  exact mcallTV (EX := "java/lang/IndexOutOfBoundsException") hw (k0) rfl rfl ⟨hx, hb, hml, hown, hts⟩ hS (t_X3_findShift hl0 hC (by omega) y hbad) (cwV 1 hts gX3_cancel_X3_findShift rfl rfl rfl (by decide +kernel) ⟨Nat.le_of_ble_eq_true rfl, Nat.le_of_ble_eq_true rfl⟩) rfl hl.1 rfl (Nat.le_of_ble_eq_true rfl) dX3_cancel_2 ⟨Nat.le_of_ble_eq_true rfl, Nat.le_of_ble_eq_true rfl⟩ (fun q9 ce H1 locs1 hw1 hS1 hce hcv hcl => mout hout hlocks hw1 hS1 hce hcv hcl)

set_option maxHeartbeats 4000000 in
set_option maxRecDepth 100000 in
theorem t_X3_cancel_2 {l : Launch} (hl0 : l.stackTraces = false) {G : mG} {V : mV} {α : Nat → Nat} {f : sT} {nr nw ns : Nat} (hC : mC G V α f nr nw ns) (hwf : mwf f nr nw ns) (si : Nat) (hs : si < ns) (hg : ¬ f 13 si = 0) : vx_Met l yX3_cancel wsX3_cancel ({ frames := 7, cells := 1, slots := 6, locals := 102 }) (va_Pc [.ref (α (0)), .int (nI (si))] (fun U => mW G V α U U.heap)) mNo (mXC G V α "java/lang/IllegalStateException") 1 6 (mfree G) := by
  refine vx_ofW (cc := cX3_cancel) (maxL := 4) (ret := (some .int)) (by decide) rfl ?_
  intro p e s m args below meth c s₁ B hml hout hv
  obtain ⟨rfl, hw⟩ := hv
  have hx := B.exec
  have hb := B.bytes
  have hr := B.returns
  have hts := atoms_spec (ws := wsX3_cancel) B.pre
  have hown : s.vm.findClass RX3 = some m.cls := findClass_of_methodNamed B.named
  have hlocks := B.notSynchronized
  have hS : va_S (mfree G) s.heap s.heap [] := va_S.rf
  obtain ⟨k0, k1, k2, hL3, hL4, hL5, cR, cW, cS, -, -, -⟩ := id hC
  obtain ⟨md3, ed3, v3⟩ := hL3.obj
  obtain ⟨md4, ed4, v4⟩ := hL4.obj
  obtain ⟨md5, ed5, v5⟩ := hL5.obj
  obtain ⟨⟨hnr, hnw, hns⟩, -, -, h6w, h7w, -⟩ := id hwf
  obtain ⟨⟨hw0si, hw1si⟩, h9si, hasi, h10si, hr0si, h8si, hN2si, hNsi⟩ := hwf.sh si (by omega)
  obtain ⟨-, -, ⟨n11, hn11a, hn11b, h11⟩, ⟨t12, ht12, h12⟩, h13⟩ := hwf.2.1 si hs
  have hl := lv_entry ([.ref (α (0)), .int (nI (si))]) (n := 4) (Nat.le_of_ble_eq_true rfl)
  rw [lg_entry_eq]
  generalize (lg_sl ([.ref (α (0)), .int (nI (si))]) ++ List.replicate (4 - (lg_sl ([.ref (α (0)), .int (nI (si))])).length) Slot.unset).toArray = ls at hl ⊢
  have hl : lv_has ls 4 [(0, .ref (α (0))), (1, .int (nI (si)))] := hl
  refine lv_aload_n hx hb dX3_cancel_0 rfl (lv_at hl 0 rfl) ?_
  refine lv_iload_n hx hb dX3_cancel_1 rfl (lv_at hl 1 rfl) ?_
  refine mcallVr hw (k0) rfl rfl ⟨hx, hb, hml, hown, hts⟩ (c_X3_findShift hC (by omega) si (by omega)) (cwV 1 hts gX3_cancel_X3_findShift rfl rfl rfl (by decide +kernel) ⟨Nat.le_of_ble_eq_true rfl, Nat.le_of_ble_eq_true rfl⟩) rfl hl.1 rfl (Nat.le_of_ble_eq_true rfl) dX3_cancel_2 ⟨Nat.le_of_ble_eq_true rfl, Nat.le_of_ble_eq_true rfl⟩ ?_
  refine lv_astore_n (lv' := [(2, .ref (α (300 + si))), (0, .ref (α (0))), (1, .int (nI (si)))]) hx hb dX3_cancel_5 rfl hl (by decide) rfl (fun ls hl => ?_)
  refine lv_aload_n hx hb dX3_cancel_6 rfl (lv_at hl 0 rfl) ?_
  exact mcallTS (EX := "java/lang/IllegalStateException") hw ⟨hx, hb, hml, hown, hts⟩ hS (t_X3_checkNotCancelled hl0 si (cS si hs) hg) (va_cwS 1 hts gX3_cancel_X3_checkNotCancelled rfl rfl rfl (by decide +kernel) ⟨Nat.le_of_ble_eq_true rfl, Nat.le_of_ble_eq_true rfl⟩) rfl hl.1 rfl (Nat.le_of_ble_eq_true rfl) dX3_cancel_7 ⟨Nat.le_of_ble_eq_true rfl, Nat.le_of_ble_eq_true rfl⟩ (fun q9 ce H1 locs1 hw1 hS1 hce hcv hcl => mout hout hlocks hw1 hS1 hce hcv hcl)

set_option maxHeartbeats 4000000 in
set_option maxRecDepth 100000 in
theorem t_X3_takeBreaks_1 {l : Launch} (hl0 : l.stackTraces = false) {G : mG} {V : mV} {α : Nat → Nat} {f : sT} {nr nw ns : Nat} (hC : mC G V α f nr nw ns) (hwf : mwf f nr nw ns) (y : Int32) (hbad : ¬ inn y 0 (nI ns - 1)) (x : Int32) : vx_Met l yX3_takeBreaks wsX3_takeBreaks ({ frames := 7, cells := 1, slots := 6, locals := 103 }) (va_Pc [.ref (α (0)), .int (y), .int (x)] (fun U => mW G V α U U.heap)) mNo (mXC G V α "java/lang/IndexOutOfBoundsException") 1 6 (mfree G) := by
  refine vx_ofW (cc := cX3_takeBreaks) (maxL := 5) (ret := (some .int)) (by decide) rfl ?_
  intro p e s m args below meth c s₁ B hml hout hv
  obtain ⟨rfl, hw⟩ := hv
  have hx := B.exec
  have hb := B.bytes
  have hr := B.returns
  have hts := atoms_spec (ws := wsX3_takeBreaks) B.pre
  have hown : s.vm.findClass RX3 = some m.cls := findClass_of_methodNamed B.named
  have hlocks := B.notSynchronized
  have hS : va_S (mfree G) s.heap s.heap [] := va_S.rf
  obtain ⟨k0, k1, k2, hL3, hL4, hL5, cR, cW, cS, -, -, -⟩ := id hC
  obtain ⟨md3, ed3, v3⟩ := hL3.obj
  obtain ⟨md4, ed4, v4⟩ := hL4.obj
  obtain ⟨md5, ed5, v5⟩ := hL5.obj
  obtain ⟨⟨hnr, hnw, hns⟩, -, -, h6w, h7w, -⟩ := id hwf
  have hl := lv_entry ([.ref (α (0)), .int (y), .int (x)]) (n := 5) (Nat.le_of_ble_eq_true rfl)
  rw [lg_entry_eq]
  generalize (lg_sl ([.ref (α (0)), .int (y), .int (x)]) ++ List.replicate (5 - (lg_sl ([.ref (α (0)), .int (y), .int (x)])).length) Slot.unset).toArray = ls at hl ⊢
  have hl : lv_has ls 5 [(0, .ref (α (0))), (1, .int (y)), (2, .int (x))] := hl
  refine lv_aload_n hx hb dX3_takeBreaks_0 rfl (lv_at hl 0 rfl) ?_
  refine lv_iload_n hx hb dX3_takeBreaks_1 rfl (lv_at hl 1 rfl) ?_
  exact mcallTV (EX := "java/lang/IndexOutOfBoundsException") hw (k0) rfl rfl ⟨hx, hb, hml, hown, hts⟩ hS (t_X3_findShift hl0 hC (by omega) y hbad) (cwV 1 hts gX3_takeBreaks_X3_findShift rfl rfl rfl (by decide +kernel) ⟨Nat.le_of_ble_eq_true rfl, Nat.le_of_ble_eq_true rfl⟩) rfl hl.1 rfl (Nat.le_of_ble_eq_true rfl) dX3_takeBreaks_2 ⟨Nat.le_of_ble_eq_true rfl, Nat.le_of_ble_eq_true rfl⟩ (fun q9 ce H1 locs1 hw1 hS1 hce hcv hcl => mout hout hlocks hw1 hS1 hce hcv hcl)

set_option maxHeartbeats 4000000 in
set_option maxRecDepth 100000 in
theorem t_X3_takeBreaks_2 {l : Launch} (hl0 : l.stackTraces = false) {G : mG} {V : mV} {α : Nat → Nat} {f : sT} {nr nw ns : Nat} (hC : mC G V α f nr nw ns) (hwf : mwf f nr nw ns) (si : Nat) (hs : si < ns) (x : Int32) (hbad : ¬ inn x 0 5) : vx_Met l yX3_takeBreaks wsX3_takeBreaks ({ frames := 7, cells := 1, slots := 6, locals := 104 }) (va_Pc [.ref (α (0)), .int (nI (si)), .int (x)] (fun U => mW G V α U U.heap)) mNo (mXC G V α "java/lang/IllegalArgumentException") 1 6 (mfree G) := by
  refine vx_ofW (cc := cX3_takeBreaks) (maxL := 5) (ret := (some .int)) (by decide) rfl ?_
  intro p e s m args below meth c s₁ B hml hout hv
  obtain ⟨rfl, hw⟩ := hv
  have hx := B.exec
  have hb := B.bytes
  have hr := B.returns
  have hts := atoms_spec (ws := wsX3_takeBreaks) B.pre
  have hown : s.vm.findClass RX3 = some m.cls := findClass_of_methodNamed B.named
  have hlocks := B.notSynchronized
  have hS : va_S (mfree G) s.heap s.heap [] := va_S.rf
  obtain ⟨k0, k1, k2, hL3, hL4, hL5, cR, cW, cS, -, -, -⟩ := id hC
  obtain ⟨md3, ed3, v3⟩ := hL3.obj
  obtain ⟨md4, ed4, v4⟩ := hL4.obj
  obtain ⟨md5, ed5, v5⟩ := hL5.obj
  obtain ⟨⟨hnr, hnw, hns⟩, -, -, h6w, h7w, -⟩ := id hwf
  obtain ⟨⟨hw0si, hw1si⟩, h9si, hasi, h10si, hr0si, h8si, hN2si, hNsi⟩ := hwf.sh si (by omega)
  obtain ⟨-, -, ⟨n11, hn11a, hn11b, h11⟩, ⟨t12, ht12, h12⟩, h13⟩ := hwf.2.1 si hs
  have hl := lv_entry ([.ref (α (0)), .int (nI (si)), .int (x)]) (n := 5) (Nat.le_of_ble_eq_true rfl)
  rw [lg_entry_eq]
  generalize (lg_sl ([.ref (α (0)), .int (nI (si)), .int (x)]) ++ List.replicate (5 - (lg_sl ([.ref (α (0)), .int (nI (si)), .int (x)])).length) Slot.unset).toArray = ls at hl ⊢
  have hl : lv_has ls 5 [(0, .ref (α (0))), (1, .int (nI (si))), (2, .int (x))] := hl
  refine lv_aload_n hx hb dX3_takeBreaks_0 rfl (lv_at hl 0 rfl) ?_
  refine lv_iload_n hx hb dX3_takeBreaks_1 rfl (lv_at hl 1 rfl) ?_
  refine mcallVr hw (k0) rfl rfl ⟨hx, hb, hml, hown, hts⟩ (c_X3_findShift hC (by omega) si (by omega)) (cwV 1 hts gX3_takeBreaks_X3_findShift rfl rfl rfl (by decide +kernel) ⟨Nat.le_of_ble_eq_true rfl, Nat.le_of_ble_eq_true rfl⟩) rfl hl.1 rfl (Nat.le_of_ble_eq_true rfl) dX3_takeBreaks_2 ⟨Nat.le_of_ble_eq_true rfl, Nat.le_of_ble_eq_true rfl⟩ ?_
  refine lv_astore_n (lv' := [(3, .ref (α (300 + si))), (0, .ref (α (0))), (1, .int (nI (si))), (2, .int (x))]) hx hb dX3_takeBreaks_5 rfl hl (by decide) rfl (fun ls hl => ?_)
  refine lv_iload_n hx hb dX3_takeBreaks_6 rfl (lv_at hl 3 rfl) ?_
  refine lv_iconst (v := (0)) hx hb dX3_takeBreaks_7 (by decide) ?_
  refine lv_iconst (v := (5)) hx hb dX3_takeBreaks_8 (by decide) ?_
  exact mcallTS (EX := "java/lang/IllegalArgumentException") hw ⟨hx, hb, hml, hown, hts⟩ hS (t_X3_checkArgument hl0 (x) (0) (5) (hbad)) (va_cwS 3 hts gX3_takeBreaks_X3_checkArgument rfl rfl rfl (by decide +kernel) ⟨Nat.le_of_ble_eq_true rfl, Nat.le_of_ble_eq_true rfl⟩) rfl hl.1 rfl (Nat.le_of_ble_eq_true rfl) dX3_takeBreaks_9 ⟨Nat.le_of_ble_eq_true rfl, Nat.le_of_ble_eq_true rfl⟩ (fun q9 ce H1 locs1 hw1 hS1 hce hcv hcl => mout hout hlocks hw1 hS1 hce hcv hcl)

set_option maxHeartbeats 4000000 in
set_option maxRecDepth 100000 in
theorem t_X3_takeBreaks_3 {l : Launch} (hl0 : l.stackTraces = false) {G : mG} {V : mV} {α : Nat → Nat} {f : sT} {nr nw ns : Nat} (hC : mC G V α f nr nw ns) (hwf : mwf f nr nw ns) (si : Nat) (hs : si < ns) (x : Int32) (hx1 : inn x 0 5) (hg : ¬ f 13 si = 0) : vx_Met l yX3_takeBreaks wsX3_takeBreaks ({ frames := 7, cells := 1, slots := 6, locals := 102 }) (va_Pc [.ref (α (0)), .int (nI (si)), .int (x)] (fun U => mW G V α U U.heap)) mNo (mXC G V α "java/lang/IllegalStateException") 1 6 (mfree G) := by
  refine vx_ofW (cc := cX3_takeBreaks) (maxL := 5) (ret := (some .int)) (by decide) rfl ?_
  intro p e s m args below meth c s₁ B hml hout hv
  obtain ⟨rfl, hw⟩ := hv
  have hx := B.exec
  have hb := B.bytes
  have hr := B.returns
  have hts := atoms_spec (ws := wsX3_takeBreaks) B.pre
  have hown : s.vm.findClass RX3 = some m.cls := findClass_of_methodNamed B.named
  have hlocks := B.notSynchronized
  have hS : va_S (mfree G) s.heap s.heap [] := va_S.rf
  obtain ⟨k0, k1, k2, hL3, hL4, hL5, cR, cW, cS, -, -, -⟩ := id hC
  obtain ⟨md3, ed3, v3⟩ := hL3.obj
  obtain ⟨md4, ed4, v4⟩ := hL4.obj
  obtain ⟨md5, ed5, v5⟩ := hL5.obj
  obtain ⟨⟨hnr, hnw, hns⟩, -, -, h6w, h7w, -⟩ := id hwf
  obtain ⟨⟨hw0si, hw1si⟩, h9si, hasi, h10si, hr0si, h8si, hN2si, hNsi⟩ := hwf.sh si (by omega)
  obtain ⟨-, -, ⟨n11, hn11a, hn11b, h11⟩, ⟨t12, ht12, h12⟩, h13⟩ := hwf.2.1 si hs
  have hl := lv_entry ([.ref (α (0)), .int (nI (si)), .int (x)]) (n := 5) (Nat.le_of_ble_eq_true rfl)
  rw [lg_entry_eq]
  generalize (lg_sl ([.ref (α (0)), .int (nI (si)), .int (x)]) ++ List.replicate (5 - (lg_sl ([.ref (α (0)), .int (nI (si)), .int (x)])).length) Slot.unset).toArray = ls at hl ⊢
  have hl : lv_has ls 5 [(0, .ref (α (0))), (1, .int (nI (si))), (2, .int (x))] := hl
  refine lv_aload_n hx hb dX3_takeBreaks_0 rfl (lv_at hl 0 rfl) ?_
  refine lv_iload_n hx hb dX3_takeBreaks_1 rfl (lv_at hl 1 rfl) ?_
  refine mcallVr hw (k0) rfl rfl ⟨hx, hb, hml, hown, hts⟩ (c_X3_findShift hC (by omega) si (by omega)) (cwV 1 hts gX3_takeBreaks_X3_findShift rfl rfl rfl (by decide +kernel) ⟨Nat.le_of_ble_eq_true rfl, Nat.le_of_ble_eq_true rfl⟩) rfl hl.1 rfl (Nat.le_of_ble_eq_true rfl) dX3_takeBreaks_2 ⟨Nat.le_of_ble_eq_true rfl, Nat.le_of_ble_eq_true rfl⟩ ?_
  refine lv_astore_n (lv' := [(3, .ref (α (300 + si))), (0, .ref (α (0))), (1, .int (nI (si))), (2, .int (x))]) hx hb dX3_takeBreaks_5 rfl hl (by decide) rfl (fun ls hl => ?_)
  refine lv_iload_n hx hb dX3_takeBreaks_6 rfl (lv_at hl 3 rfl) ?_
  refine lv_iconst (v := (0)) hx hb dX3_takeBreaks_7 (by decide) ?_
  refine lv_iconst (v := (5)) hx hb dX3_takeBreaks_8 (by decide) ?_
  refine mcallSv hw ⟨hx, hb, hml, hown, hts⟩ (c_X3_checkArgument (x) (0) (5) (hx1)) (va_cwS 3 hts gX3_takeBreaks_X3_checkArgument rfl rfl rfl (by decide +kernel) ⟨Nat.le_of_ble_eq_true rfl, Nat.le_of_ble_eq_true rfl⟩) rfl hl.1 rfl (Nat.le_of_ble_eq_true rfl) dX3_takeBreaks_9 ⟨Nat.le_of_ble_eq_true rfl, Nat.le_of_ble_eq_true rfl⟩ ?_
  refine lv_aload_n hx hb dX3_takeBreaks_12 rfl (lv_at hl 0 rfl) ?_
  exact mcallTS (EX := "java/lang/IllegalStateException") hw ⟨hx, hb, hml, hown, hts⟩ hS (t_X3_checkNotCancelled hl0 si (cS si hs) hg) (va_cwS 1 hts gX3_takeBreaks_X3_checkNotCancelled rfl rfl rfl (by decide +kernel) ⟨Nat.le_of_ble_eq_true rfl, Nat.le_of_ble_eq_true rfl⟩) rfl hl.1 rfl (Nat.le_of_ble_eq_true rfl) dX3_takeBreaks_13 ⟨Nat.le_of_ble_eq_true rfl, Nat.le_of_ble_eq_true rfl⟩ (fun q9 ce H1 locs1 hw1 hS1 hce hcv hcl => mout hout hlocks hw1 hS1 hce hcv hcl)

set_option maxHeartbeats 4000000 in
set_option maxRecDepth 100000 in
theorem t_X3_paidQuarters_1 {l : Launch} (hl0 : l.stackTraces = false) {G : mG} {V : mV} {α : Nat → Nat} {f : sT} {nr nw ns : Nat} (hC : mC G V α f nr nw ns) (hwf : mwf f nr nw ns) (y : Int32) (hbad : ¬ inn y 0 (nI ns - 1)) : vx_Met l yX3_paidQuarters wsX3_paidQuarters ({ frames := 7, cells := 1, slots := 6, locals := 103 }) (va_Pc [.ref (α (0)), .int (y)] (fun U => mW G V α U U.heap)) mNo (mXC G V α "java/lang/IndexOutOfBoundsException") 1 6 (mfree G) := by
  refine vx_ofW (cc := cX3_paidQuarters) (maxL := 2) (ret := (some .int)) (by decide) rfl ?_
  intro p e s m args below meth c s₁ B hml hout hv
  obtain ⟨rfl, hw⟩ := hv
  have hx := B.exec
  have hb := B.bytes
  have hr := B.returns
  have hts := atoms_spec (ws := wsX3_paidQuarters) B.pre
  have hown : s.vm.findClass RX3 = some m.cls := findClass_of_methodNamed B.named
  have hlocks := B.notSynchronized
  have hS : va_S (mfree G) s.heap s.heap [] := va_S.rf
  obtain ⟨k0, k1, k2, hL3, hL4, hL5, cR, cW, cS, -, -, -⟩ := id hC
  obtain ⟨md3, ed3, v3⟩ := hL3.obj
  obtain ⟨md4, ed4, v4⟩ := hL4.obj
  obtain ⟨md5, ed5, v5⟩ := hL5.obj
  obtain ⟨⟨hnr, hnw, hns⟩, -, -, h6w, h7w, -⟩ := id hwf
  have hl := lv_entry ([.ref (α (0)), .int (y)]) (n := 2) (Nat.le_of_ble_eq_true rfl)
  rw [lg_entry_eq]
  generalize (lg_sl ([.ref (α (0)), .int (y)]) ++ List.replicate (2 - (lg_sl ([.ref (α (0)), .int (y)])).length) Slot.unset).toArray = ls at hl ⊢
  have hl : lv_has ls 2 [(0, .ref (α (0))), (1, .int (y))] := hl
  refine lv_aload_n hx hb dX3_paidQuarters_0 rfl (lv_at hl 0 rfl) ?_
  refine lv_iload_n hx hb dX3_paidQuarters_1 rfl (lv_at hl 1 rfl) ?_
  exact mcallTV (EX := "java/lang/IndexOutOfBoundsException") hw (k0) rfl rfl ⟨hx, hb, hml, hown, hts⟩ hS (t_X3_findShift hl0 hC (by omega) y hbad) (cwV 1 hts gX3_paidQuarters_X3_findShift rfl rfl rfl (by decide +kernel) ⟨Nat.le_of_ble_eq_true rfl, Nat.le_of_ble_eq_true rfl⟩) rfl hl.1 rfl (Nat.le_of_ble_eq_true rfl) dX3_paidQuarters_2 ⟨Nat.le_of_ble_eq_true rfl, Nat.le_of_ble_eq_true rfl⟩ (fun q9 ce H1 locs1 hw1 hS1 hce hcv hcl => mout hout hlocks hw1 hS1 hce hcv hcl)

set_option maxHeartbeats 4000000 in
set_option maxRecDepth 100000 in
theorem t_X3_percentAt_1 {l : Launch} (hl0 : l.stackTraces = false) {G : mG} {V : mV} {α : Nat → Nat} {f : sT} {nr nw ns : Nat} (hC : mC G V α f nr nw ns) (hwf : mwf f nr nw ns) (y : Int32) (hbad : ¬ inn y 0 (nI ns - 1)) (x : Int32) : vx_Met l yX3_percentAt wsX3_percentAt ({ frames := 7, cells := 1, slots := 6, locals := 103 }) (va_Pc [.ref (α (0)), .int (y), .int (x)] (fun U => mW G V α U U.heap)) mNo (mXC G V α "java/lang/IndexOutOfBoundsException") 1 6 (mfree G) := by
  refine vx_ofW (cc := cX3_percentAt) (maxL := 4) (ret := (some .int)) (by decide) rfl ?_
  intro p e s m args below meth c s₁ B hml hout hv
  obtain ⟨rfl, hw⟩ := hv
  have hx := B.exec
  have hb := B.bytes
  have hr := B.returns
  have hts := atoms_spec (ws := wsX3_percentAt) B.pre
  have hown : s.vm.findClass RX3 = some m.cls := findClass_of_methodNamed B.named
  have hlocks := B.notSynchronized
  have hS : va_S (mfree G) s.heap s.heap [] := va_S.rf
  obtain ⟨k0, k1, k2, hL3, hL4, hL5, cR, cW, cS, -, -, -⟩ := id hC
  obtain ⟨md3, ed3, v3⟩ := hL3.obj
  obtain ⟨md4, ed4, v4⟩ := hL4.obj
  obtain ⟨md5, ed5, v5⟩ := hL5.obj
  obtain ⟨⟨hnr, hnw, hns⟩, -, -, h6w, h7w, -⟩ := id hwf
  have hl := lv_entry ([.ref (α (0)), .int (y), .int (x)]) (n := 4) (Nat.le_of_ble_eq_true rfl)
  rw [lg_entry_eq]
  generalize (lg_sl ([.ref (α (0)), .int (y), .int (x)]) ++ List.replicate (4 - (lg_sl ([.ref (α (0)), .int (y), .int (x)])).length) Slot.unset).toArray = ls at hl ⊢
  have hl : lv_has ls 4 [(0, .ref (α (0))), (1, .int (y)), (2, .int (x))] := hl
  refine lv_aload_n hx hb dX3_percentAt_0 rfl (lv_at hl 0 rfl) ?_
  refine lv_iload_n hx hb dX3_percentAt_1 rfl (lv_at hl 1 rfl) ?_
  exact mcallTV (EX := "java/lang/IndexOutOfBoundsException") hw (k0) rfl rfl ⟨hx, hb, hml, hown, hts⟩ hS (t_X3_findShift hl0 hC (by omega) y hbad) (cwV 1 hts gX3_percentAt_X3_findShift rfl rfl rfl (by decide +kernel) ⟨Nat.le_of_ble_eq_true rfl, Nat.le_of_ble_eq_true rfl⟩) rfl hl.1 rfl (Nat.le_of_ble_eq_true rfl) dX3_percentAt_2 ⟨Nat.le_of_ble_eq_true rfl, Nat.le_of_ble_eq_true rfl⟩ (fun q9 ce H1 locs1 hw1 hS1 hce hcv hcl => mout hout hlocks hw1 hS1 hce hcv hcl)

set_option maxHeartbeats 4000000 in
set_option maxRecDepth 100000 in
theorem t_X3_reasonAt_1 {l : Launch} (hl0 : l.stackTraces = false) {G : mG} {V : mV} {α : Nat → Nat} {f : sT} {nr nw ns : Nat} (hC : mC G V α f nr nw ns) (hwf : mwf f nr nw ns) (y : Int32) (hbad : ¬ inn y 0 (nI ns - 1)) (x : Int32) : vx_Met l yX3_reasonAt wsX3_reasonAt ({ frames := 7, cells := 1, slots := 6, locals := 103 }) (va_Pc [.ref (α (0)), .int (y), .int (x)] (fun U => mW G V α U U.heap)) mNo (mXC G V α "java/lang/IndexOutOfBoundsException") 1 6 (mfree G) := by
  refine vx_ofW (cc := cX3_reasonAt) (maxL := 5) (ret := (some .int)) (by decide) rfl ?_
  intro p e s m args below meth c s₁ B hml hout hv
  obtain ⟨rfl, hw⟩ := hv
  have hx := B.exec
  have hb := B.bytes
  have hr := B.returns
  have hts := atoms_spec (ws := wsX3_reasonAt) B.pre
  have hown : s.vm.findClass RX3 = some m.cls := findClass_of_methodNamed B.named
  have hlocks := B.notSynchronized
  have hS : va_S (mfree G) s.heap s.heap [] := va_S.rf
  obtain ⟨k0, k1, k2, hL3, hL4, hL5, cR, cW, cS, -, -, -⟩ := id hC
  obtain ⟨md3, ed3, v3⟩ := hL3.obj
  obtain ⟨md4, ed4, v4⟩ := hL4.obj
  obtain ⟨md5, ed5, v5⟩ := hL5.obj
  obtain ⟨⟨hnr, hnw, hns⟩, -, -, h6w, h7w, -⟩ := id hwf
  have hl := lv_entry ([.ref (α (0)), .int (y), .int (x)]) (n := 5) (Nat.le_of_ble_eq_true rfl)
  rw [lg_entry_eq]
  generalize (lg_sl ([.ref (α (0)), .int (y), .int (x)]) ++ List.replicate (5 - (lg_sl ([.ref (α (0)), .int (y), .int (x)])).length) Slot.unset).toArray = ls at hl ⊢
  have hl : lv_has ls 5 [(0, .ref (α (0))), (1, .int (y)), (2, .int (x))] := hl
  refine lv_aload_n hx hb dX3_reasonAt_0 rfl (lv_at hl 0 rfl) ?_
  refine lv_iload_n hx hb dX3_reasonAt_1 rfl (lv_at hl 1 rfl) ?_
  exact mcallTV (EX := "java/lang/IndexOutOfBoundsException") hw (k0) rfl rfl ⟨hx, hb, hml, hown, hts⟩ hS (t_X3_findShift hl0 hC (by omega) y hbad) (cwV 1 hts gX3_reasonAt_X3_findShift rfl rfl rfl (by decide +kernel) ⟨Nat.le_of_ble_eq_true rfl, Nat.le_of_ble_eq_true rfl⟩) rfl hl.1 rfl (Nat.le_of_ble_eq_true rfl) dX3_reasonAt_2 ⟨Nat.le_of_ble_eq_true rfl, Nat.le_of_ble_eq_true rfl⟩ (fun q9 ce H1 locs1 hw1 hS1 hce hcv hcl => mout hout hlocks hw1 hS1 hce hcv hcl)

set_option maxHeartbeats 4000000 in
set_option maxRecDepth 100000 in
theorem t_X3_missed_1 {l : Launch} (hl0 : l.stackTraces = false) {G : mG} {V : mV} {α : Nat → Nat} {f : sT} {nr nw ns : Nat} (hC : mC G V α f nr nw ns) (hwf : mwf f nr nw ns) (y : Int32) (hbad : ¬ inn y 0 (nI ns - 1)) : vx_Met l yX3_missed wsX3_missed ({ frames := 7, cells := 1, slots := 6, locals := 103 }) (va_Pc [.ref (α (0)), .int (y)] (fun U => mW G V α U U.heap)) mNo (mXC G V α "java/lang/IndexOutOfBoundsException") 1 6 (mfree G) := by
  refine vx_ofW (cc := cX3_missed) (maxL := 2) (ret := (some .int)) (by decide) rfl ?_
  intro p e s m args below meth c s₁ B hml hout hv
  obtain ⟨rfl, hw⟩ := hv
  have hx := B.exec
  have hb := B.bytes
  have hr := B.returns
  have hts := atoms_spec (ws := wsX3_missed) B.pre
  have hown : s.vm.findClass RX3 = some m.cls := findClass_of_methodNamed B.named
  have hlocks := B.notSynchronized
  have hS : va_S (mfree G) s.heap s.heap [] := va_S.rf
  obtain ⟨k0, k1, k2, hL3, hL4, hL5, cR, cW, cS, -, -, -⟩ := id hC
  obtain ⟨md3, ed3, v3⟩ := hL3.obj
  obtain ⟨md4, ed4, v4⟩ := hL4.obj
  obtain ⟨md5, ed5, v5⟩ := hL5.obj
  obtain ⟨⟨hnr, hnw, hns⟩, -, -, h6w, h7w, -⟩ := id hwf
  have hl := lv_entry ([.ref (α (0)), .int (y)]) (n := 2) (Nat.le_of_ble_eq_true rfl)
  rw [lg_entry_eq]
  generalize (lg_sl ([.ref (α (0)), .int (y)]) ++ List.replicate (2 - (lg_sl ([.ref (α (0)), .int (y)])).length) Slot.unset).toArray = ls at hl ⊢
  have hl : lv_has ls 2 [(0, .ref (α (0))), (1, .int (y))] := hl
  refine lv_aload_n hx hb dX3_missed_0 rfl (lv_at hl 0 rfl) ?_
  refine lv_iload_n hx hb dX3_missed_1 rfl (lv_at hl 1 rfl) ?_
  exact mcallTV (EX := "java/lang/IndexOutOfBoundsException") hw (k0) rfl rfl ⟨hx, hb, hml, hown, hts⟩ hS (t_X3_findShift hl0 hC (by omega) y hbad) (cwV 1 hts gX3_missed_X3_findShift rfl rfl rfl (by decide +kernel) ⟨Nat.le_of_ble_eq_true rfl, Nat.le_of_ble_eq_true rfl⟩) rfl hl.1 rfl (Nat.le_of_ble_eq_true rfl) dX3_missed_2 ⟨Nat.le_of_ble_eq_true rfl, Nat.le_of_ble_eq_true rfl⟩ (fun q9 ce H1 locs1 hw1 hS1 hce hcv hcl => mout hout hlocks hw1 hS1 hce hcv hcl)

set_option maxHeartbeats 4000000 in
set_option maxRecDepth 100000 in
theorem t_X3_pay_1 {l : Launch} (hl0 : l.stackTraces = false) {G : mG} {V : mV} {α : Nat → Nat} {f : sT} {nr nw ns : Nat} (hC : mC G V α f nr nw ns) (hwf : mwf f nr nw ns) (y : Int32) (hbad : ¬ inn y 0 (nI ns - 1)) : vx_Met l yX3_pay wsX3_pay ({ frames := 7, cells := 1, slots := 6, locals := 103 }) (va_Pc [.ref (α (0)), .int (y)] (fun U => mW G V α U U.heap)) mNo (mXC G V α "java/lang/IndexOutOfBoundsException") 1 6 (mfree G) := by
  refine vx_ofW (cc := cX3_pay) (maxL := 2) (ret := (some .int)) (by decide) rfl ?_
  intro p e s m args below meth c s₁ B hml hout hv
  obtain ⟨rfl, hw⟩ := hv
  have hx := B.exec
  have hb := B.bytes
  have hr := B.returns
  have hts := atoms_spec (ws := wsX3_pay) B.pre
  have hown : s.vm.findClass RX3 = some m.cls := findClass_of_methodNamed B.named
  have hlocks := B.notSynchronized
  have hS : va_S (mfree G) s.heap s.heap [] := va_S.rf
  obtain ⟨k0, k1, k2, hL3, hL4, hL5, cR, cW, cS, -, -, -⟩ := id hC
  obtain ⟨md3, ed3, v3⟩ := hL3.obj
  obtain ⟨md4, ed4, v4⟩ := hL4.obj
  obtain ⟨md5, ed5, v5⟩ := hL5.obj
  obtain ⟨⟨hnr, hnw, hns⟩, -, -, h6w, h7w, -⟩ := id hwf
  have hl := lv_entry ([.ref (α (0)), .int (y)]) (n := 2) (Nat.le_of_ble_eq_true rfl)
  rw [lg_entry_eq]
  generalize (lg_sl ([.ref (α (0)), .int (y)]) ++ List.replicate (2 - (lg_sl ([.ref (α (0)), .int (y)])).length) Slot.unset).toArray = ls at hl ⊢
  have hl : lv_has ls 2 [(0, .ref (α (0))), (1, .int (y))] := hl
  refine lv_aload_n hx hb dX3_pay_0 rfl (lv_at hl 0 rfl) ?_
  refine lv_aload_n hx hb dX3_pay_1 rfl (lv_at hl 0 rfl) ?_
  refine lv_iload_n hx hb dX3_pay_2 rfl (lv_at hl 1 rfl) ?_
  exact mcallTV (EX := "java/lang/IndexOutOfBoundsException") hw (k0) rfl rfl ⟨hx, hb, hml, hown, hts⟩ hS (t_X3_findShift hl0 hC (by omega) y hbad) (cwV 1 hts gX3_pay_X3_findShift rfl rfl rfl (by decide +kernel) ⟨Nat.le_of_ble_eq_true rfl, Nat.le_of_ble_eq_true rfl⟩) rfl hl.1 rfl (Nat.le_of_ble_eq_true rfl) dX3_pay_3 ⟨Nat.le_of_ble_eq_true rfl, Nat.le_of_ble_eq_true rfl⟩ (fun q9 ce H1 locs1 hw1 hS1 hce hcv hcl => mout hout hlocks hw1 hS1 hce hcv hcl)

set_option maxHeartbeats 4000000 in
set_option maxRecDepth 100000 in
theorem t_X3_percentAt_2 {l : Launch} (hl0 : l.stackTraces = false) {G : mG} {V : mV} {α : Nat → Nat} {f : sT} {nr nw ns : Nat} (hC : mC G V α f nr nw ns) (hwf : mwf f nr nw ns) (si : Nat) (hs : si < ns) (x : Int32) (hbad : ¬ inn x 0 (s_paid f si - 1)) : vx_Met l yX3_percentAt wsX3_percentAt ({ frames := 7, cells := 1, slots := 6, locals := 103 }) (va_Pc [.ref (α (0)), .int (nI (si)), .int (x)] (fun U => mW G V α U U.heap)) mNo (mXC G V α "java/lang/IndexOutOfBoundsException") 1 6 (mfree G) := by
  refine vx_ofW (cc := cX3_percentAt) (maxL := 4) (ret := (some .int)) (by decide) rfl ?_
  intro p e s m args below meth c s₁ B hml hout hv
  obtain ⟨rfl, hw⟩ := hv
  have hx := B.exec
  have hb := B.bytes
  have hr := B.returns
  have hts := atoms_spec (ws := wsX3_percentAt) B.pre
  have hown : s.vm.findClass RX3 = some m.cls := findClass_of_methodNamed B.named
  have hlocks := B.notSynchronized
  have hS : va_S (mfree G) s.heap s.heap [] := va_S.rf
  obtain ⟨k0, k1, k2, hL3, hL4, hL5, cR, cW, cS, -, -, -⟩ := id hC
  obtain ⟨md3, ed3, v3⟩ := hL3.obj
  obtain ⟨md4, ed4, v4⟩ := hL4.obj
  obtain ⟨md5, ed5, v5⟩ := hL5.obj
  obtain ⟨⟨hnr, hnw, hns⟩, -, -, h6w, h7w, -⟩ := id hwf
  obtain ⟨⟨hw0si, hw1si⟩, h9si, hasi, h10si, hr0si, h8si, hN2si, hNsi⟩ := hwf.sh si (by omega)
  obtain ⟨-, -, ⟨n11, hn11a, hn11b, h11⟩, ⟨t12, ht12, h12⟩, h13⟩ := hwf.2.1 si hs
  have hl := lv_entry ([.ref (α (0)), .int (nI (si)), .int (x)]) (n := 4) (Nat.le_of_ble_eq_true rfl)
  rw [lg_entry_eq]
  generalize (lg_sl ([.ref (α (0)), .int (nI (si)), .int (x)]) ++ List.replicate (4 - (lg_sl ([.ref (α (0)), .int (nI (si)), .int (x)])).length) Slot.unset).toArray = ls at hl ⊢
  have hl : lv_has ls 4 [(0, .ref (α (0))), (1, .int (nI (si))), (2, .int (x))] := hl
  refine lv_aload_n hx hb dX3_percentAt_0 rfl (lv_at hl 0 rfl) ?_
  refine lv_iload_n hx hb dX3_percentAt_1 rfl (lv_at hl 1 rfl) ?_
  refine mcallVr hw (k0) rfl rfl ⟨hx, hb, hml, hown, hts⟩ (c_X3_findShift hC (by omega) si (by omega)) (cwV 1 hts gX3_percentAt_X3_findShift rfl rfl rfl (by decide +kernel) ⟨Nat.le_of_ble_eq_true rfl, Nat.le_of_ble_eq_true rfl⟩) rfl hl.1 rfl (Nat.le_of_ble_eq_true rfl) dX3_percentAt_2 ⟨Nat.le_of_ble_eq_true rfl, Nat.le_of_ble_eq_true rfl⟩ ?_
  refine lv_astore_n (lv' := [(3, .ref (α (300 + si))), (0, .ref (α (0))), (1, .int (nI (si))), (2, .int (x))]) hx hb dX3_percentAt_5 rfl hl (by decide) rfl (fun ls hl => ?_)
  refine lv_aload_n hx hb dX3_percentAt_6 rfl (lv_at hl 0 rfl) ?_
  refine lv_iload_n hx hb dX3_percentAt_7 rfl (lv_at hl 3 rfl) ?_
  exact mcallTS (EX := "java/lang/IndexOutOfBoundsException") hw ⟨hx, hb, hml, hown, hts⟩ hS (t_X3_checkPaidQuarter hl0 si (cS si hs) (pN f si) hNsi hN2si x hbad) (va_cwS 2 hts gX3_percentAt_X3_checkPaidQuarter rfl rfl rfl (by decide +kernel) ⟨Nat.le_of_ble_eq_true rfl, Nat.le_of_ble_eq_true rfl⟩) rfl hl.1 rfl (Nat.le_of_ble_eq_true rfl) dX3_percentAt_8 ⟨Nat.le_of_ble_eq_true rfl, Nat.le_of_ble_eq_true rfl⟩ (fun q9 ce H1 locs1 hw1 hS1 hce hcv hcl => mout hout hlocks hw1 hS1 hce hcv hcl)

set_option maxHeartbeats 4000000 in
set_option maxRecDepth 100000 in
theorem t_X3_reasonAt_2 {l : Launch} (hl0 : l.stackTraces = false) {G : mG} {V : mV} {α : Nat → Nat} {f : sT} {nr nw ns : Nat} (hC : mC G V α f nr nw ns) (hwf : mwf f nr nw ns) (si : Nat) (hs : si < ns) (x : Int32) (hbad : ¬ inn x 0 (s_paid f si - 1)) : vx_Met l yX3_reasonAt wsX3_reasonAt ({ frames := 7, cells := 1, slots := 6, locals := 103 }) (va_Pc [.ref (α (0)), .int (nI (si)), .int (x)] (fun U => mW G V α U U.heap)) mNo (mXC G V α "java/lang/IndexOutOfBoundsException") 1 6 (mfree G) := by
  refine vx_ofW (cc := cX3_reasonAt) (maxL := 5) (ret := (some .int)) (by decide) rfl ?_
  intro p e s m args below meth c s₁ B hml hout hv
  obtain ⟨rfl, hw⟩ := hv
  have hx := B.exec
  have hb := B.bytes
  have hr := B.returns
  have hts := atoms_spec (ws := wsX3_reasonAt) B.pre
  have hown : s.vm.findClass RX3 = some m.cls := findClass_of_methodNamed B.named
  have hlocks := B.notSynchronized
  have hS : va_S (mfree G) s.heap s.heap [] := va_S.rf
  obtain ⟨k0, k1, k2, hL3, hL4, hL5, cR, cW, cS, -, -, -⟩ := id hC
  obtain ⟨md3, ed3, v3⟩ := hL3.obj
  obtain ⟨md4, ed4, v4⟩ := hL4.obj
  obtain ⟨md5, ed5, v5⟩ := hL5.obj
  obtain ⟨⟨hnr, hnw, hns⟩, -, -, h6w, h7w, -⟩ := id hwf
  obtain ⟨⟨hw0si, hw1si⟩, h9si, hasi, h10si, hr0si, h8si, hN2si, hNsi⟩ := hwf.sh si (by omega)
  obtain ⟨-, -, ⟨n11, hn11a, hn11b, h11⟩, ⟨t12, ht12, h12⟩, h13⟩ := hwf.2.1 si hs
  have hl := lv_entry ([.ref (α (0)), .int (nI (si)), .int (x)]) (n := 5) (Nat.le_of_ble_eq_true rfl)
  rw [lg_entry_eq]
  generalize (lg_sl ([.ref (α (0)), .int (nI (si)), .int (x)]) ++ List.replicate (5 - (lg_sl ([.ref (α (0)), .int (nI (si)), .int (x)])).length) Slot.unset).toArray = ls at hl ⊢
  have hl : lv_has ls 5 [(0, .ref (α (0))), (1, .int (nI (si))), (2, .int (x))] := hl
  refine lv_aload_n hx hb dX3_reasonAt_0 rfl (lv_at hl 0 rfl) ?_
  refine lv_iload_n hx hb dX3_reasonAt_1 rfl (lv_at hl 1 rfl) ?_
  refine mcallVr hw (k0) rfl rfl ⟨hx, hb, hml, hown, hts⟩ (c_X3_findShift hC (by omega) si (by omega)) (cwV 1 hts gX3_reasonAt_X3_findShift rfl rfl rfl (by decide +kernel) ⟨Nat.le_of_ble_eq_true rfl, Nat.le_of_ble_eq_true rfl⟩) rfl hl.1 rfl (Nat.le_of_ble_eq_true rfl) dX3_reasonAt_2 ⟨Nat.le_of_ble_eq_true rfl, Nat.le_of_ble_eq_true rfl⟩ ?_
  refine lv_astore_n (lv' := [(3, .ref (α (300 + si))), (0, .ref (α (0))), (1, .int (nI (si))), (2, .int (x))]) hx hb dX3_reasonAt_5 rfl hl (by decide) rfl (fun ls hl => ?_)
  refine lv_aload_n hx hb dX3_reasonAt_6 rfl (lv_at hl 0 rfl) ?_
  refine lv_iload_n hx hb dX3_reasonAt_7 rfl (lv_at hl 3 rfl) ?_
  exact mcallTS (EX := "java/lang/IndexOutOfBoundsException") hw ⟨hx, hb, hml, hown, hts⟩ hS (t_X3_checkPaidQuarter hl0 si (cS si hs) (pN f si) hNsi hN2si x hbad) (va_cwS 2 hts gX3_reasonAt_X3_checkPaidQuarter rfl rfl rfl (by decide +kernel) ⟨Nat.le_of_ble_eq_true rfl, Nat.le_of_ble_eq_true rfl⟩) rfl hl.1 rfl (Nat.le_of_ble_eq_true rfl) dX3_reasonAt_8 ⟨Nat.le_of_ble_eq_true rfl, Nat.le_of_ble_eq_true rfl⟩ (fun q9 ce H1 locs1 hw1 hS1 hce hcv hcl => mout hout hlocks hw1 hS1 hce hcv hcl)

set_option maxHeartbeats 4000000 in
set_option maxRecDepth 100000 in
theorem t_X3_payOf_1 {l : Launch} (hl0 : l.stackTraces = false) {G : mG} {V : mV} {α : Nat → Nat} {f : sT} {nr nw ns : Nat} (hC : mC G V α f nr nw ns) (hwf : mwf f nr nw ns) (y lo hi : Int32) (hbad : ¬ inn y 0 (nI nw - 1)) : vx_Met l yX3_payOf wsX3_payOf ({ frames := 7, cells := 1, slots := 6, locals := 103 }) (va_Pc [.ref (α (0)), .int (y), .int (lo), .int (hi)] (fun U => mW G V α U U.heap)) mNo (mXC G V α "java/lang/IndexOutOfBoundsException") 1 6 (mfree G) := by
  refine vx_ofW (cc := cX3_payOf) (maxL := 9) (ret := (some .int)) (by decide) rfl ?_
  intro p e s m args below meth c s₁ B hml hout hv
  obtain ⟨rfl, hw⟩ := hv
  have hx := B.exec
  have hb := B.bytes
  have hr := B.returns
  have hts := atoms_spec (ws := wsX3_payOf) B.pre
  have hown : s.vm.findClass RX3 = some m.cls := findClass_of_methodNamed B.named
  have hlocks := B.notSynchronized
  have hS : va_S (mfree G) s.heap s.heap [] := va_S.rf
  obtain ⟨k0, k1, k2, hL3, hL4, hL5, cR, cW, cS, -, -, -⟩ := id hC
  obtain ⟨md3, ed3, v3⟩ := hL3.obj
  obtain ⟨md4, ed4, v4⟩ := hL4.obj
  obtain ⟨md5, ed5, v5⟩ := hL5.obj
  obtain ⟨⟨hnr, hnw, hns⟩, -, -, h6w, h7w, -⟩ := id hwf
  have hl := lv_entry ([.ref (α (0)), .int (y), .int (lo), .int (hi)]) (n := 9) (Nat.le_of_ble_eq_true rfl)
  rw [lg_entry_eq]
  generalize (lg_sl ([.ref (α (0)), .int (y), .int (lo), .int (hi)]) ++ List.replicate (9 - (lg_sl ([.ref (α (0)), .int (y), .int (lo), .int (hi)])).length) Slot.unset).toArray = ls at hl ⊢
  have hl : lv_has ls 9 [(0, .ref (α (0))), (1, .int (y)), (2, .int (lo)), (3, .int (hi))] := hl
  refine lv_aload_n hx hb dX3_payOf_0 rfl (lv_at hl 0 rfl) ?_
  refine lv_iload_n hx hb dX3_payOf_1 rfl (lv_at hl 1 rfl) ?_
  exact mcallTV (EX := "java/lang/IndexOutOfBoundsException") hw (k0) rfl rfl ⟨hx, hb, hml, hown, hts⟩ hS (t_X3_findWorker hl0 hC (by omega) y hbad) (cwV 1 hts gX3_payOf_X3_findWorker rfl rfl rfl (by decide +kernel) ⟨Nat.le_of_ble_eq_true rfl, Nat.le_of_ble_eq_true rfl⟩) rfl hl.1 rfl (Nat.le_of_ble_eq_true rfl) dX3_payOf_2 ⟨Nat.le_of_ble_eq_true rfl, Nat.le_of_ble_eq_true rfl⟩ (fun q9 ce H1 locs1 hw1 hS1 hce hcv hcl => mout hout hlocks hw1 hS1 hce hcv hcl)

set_option maxHeartbeats 4000000 in
set_option maxRecDepth 100000 in
theorem t_X3_payOf_2 {l : Launch} (hl0 : l.stackTraces = false) {G : mG} {V : mV} {α : Nat → Nat} {f : sT} {nr nw ns : Nat} (hC : mC G V α f nr nw ns) (hwf : mwf f nr nw ns) (k : Nat) (hk : k < nw) (lo hi : Int32) (hbad : ¬ (inn lo 0 363 ∧ inn hi lo 363)) : vx_Met l yX3_payOf wsX3_payOf ({ frames := 7, cells := 1, slots := 6, locals := 104 }) (va_Pc [.ref (α (0)), .int (nI (k)), .int (lo), .int (hi)] (fun U => mW G V α U U.heap)) mNo (mXC G V α "java/lang/IllegalArgumentException") 1 6 (mfree G) := by
  refine vx_ofW (cc := cX3_payOf) (maxL := 9) (ret := (some .int)) (by decide) rfl ?_
  intro p e s m args below meth c s₁ B hml hout hv
  obtain ⟨rfl, hw⟩ := hv
  have hx := B.exec
  have hb := B.bytes
  have hr := B.returns
  have hts := atoms_spec (ws := wsX3_payOf) B.pre
  have hown : s.vm.findClass RX3 = some m.cls := findClass_of_methodNamed B.named
  have hlocks := B.notSynchronized
  have hS : va_S (mfree G) s.heap s.heap [] := va_S.rf
  obtain ⟨k0, k1, k2, hL3, hL4, hL5, cR, cW, cS, -, -, -⟩ := id hC
  obtain ⟨md3, ed3, v3⟩ := hL3.obj
  obtain ⟨md4, ed4, v4⟩ := hL4.obj
  obtain ⟨md5, ed5, v5⟩ := hL5.obj
  obtain ⟨⟨hnr, hnw, hns⟩, -, -, h6w, h7w, -⟩ := id hwf
  have hl := lv_entry ([.ref (α (0)), .int (nI (k)), .int (lo), .int (hi)]) (n := 9) (Nat.le_of_ble_eq_true rfl)
  rw [lg_entry_eq]
  generalize (lg_sl ([.ref (α (0)), .int (nI (k)), .int (lo), .int (hi)]) ++ List.replicate (9 - (lg_sl ([.ref (α (0)), .int (nI (k)), .int (lo), .int (hi)])).length) Slot.unset).toArray = ls at hl ⊢
  have hl : lv_has ls 9 [(0, .ref (α (0))), (1, .int (nI (k))), (2, .int (lo)), (3, .int (hi))] := hl
  refine lv_aload_n hx hb dX3_payOf_0 rfl (lv_at hl 0 rfl) ?_
  refine lv_iload_n hx hb dX3_payOf_1 rfl (lv_at hl 1 rfl) ?_
  refine mcallVr hw (k0) rfl rfl ⟨hx, hb, hml, hown, hts⟩ (c_X3_findWorker hC (by omega) k (by omega)) (cwV 1 hts gX3_payOf_X3_findWorker rfl rfl rfl (by decide +kernel) ⟨Nat.le_of_ble_eq_true rfl, Nat.le_of_ble_eq_true rfl⟩) rfl hl.1 rfl (Nat.le_of_ble_eq_true rfl) dX3_payOf_2 ⟨Nat.le_of_ble_eq_true rfl, Nat.le_of_ble_eq_true rfl⟩ ?_
  refine lv_astore (lv' := [(4, .ref (α (200 + k))), (0, .ref (α (0))), (1, .int (nI (k))), (2, .int (lo)), (3, .int (hi))]) hx hb dX3_payOf_5 hl (by decide) rfl (fun ls hl => ?_)
  refine lv_iload_n hx hb dX3_payOf_7 rfl (lv_at hl 3 rfl) ?_
  refine lv_iconst (v := (0)) hx hb dX3_payOf_8 (by decide) ?_
  refine lv_sipush (v := (363)) hx hb dX3_payOf_9 (by decide) ?_
  by_cases q1 : inn (lo) (0) (363)
  ·
    refine mcallSv hw ⟨hx, hb, hml, hown, hts⟩ (c_X3_checkArgument (lo) (0) (363) (q1)) (va_cwS 3 hts gX3_payOf_X3_checkArgument rfl rfl rfl (by decide +kernel) ⟨Nat.le_of_ble_eq_true rfl, Nat.le_of_ble_eq_true rfl⟩) rfl hl.1 rfl (Nat.le_of_ble_eq_true rfl) dX3_payOf_12 ⟨Nat.le_of_ble_eq_true rfl, Nat.le_of_ble_eq_true rfl⟩ ?_
    refine lv_iload_n hx hb dX3_payOf_15 rfl (lv_at hl 4 rfl) ?_
    refine lv_iload_n hx hb dX3_payOf_16 rfl (lv_at hl 3 rfl) ?_
    refine lv_sipush (v := (363)) hx hb dX3_payOf_17 (by decide) ?_
    by_cases q2 : inn (hi) (lo) (363)
    ·
      refine mcallSv hw ⟨hx, hb, hml, hown, hts⟩ (c_X3_checkArgument (hi) (lo) (363) (q2)) (va_cwS 3 hts gX3_payOf_X3_checkArgument rfl rfl rfl (by decide +kernel) ⟨Nat.le_of_ble_eq_true rfl, Nat.le_of_ble_eq_true rfl⟩) rfl hl.1 rfl (Nat.le_of_ble_eq_true rfl) dX3_payOf_20 ⟨Nat.le_of_ble_eq_true rfl, Nat.le_of_ble_eq_true rfl⟩ ?_
      exact absurd (⟨q1, q2⟩) hbad
    ·
      exact mcallTS (EX := "java/lang/IllegalArgumentException") hw ⟨hx, hb, hml, hown, hts⟩ hS (t_X3_checkArgument hl0 (hi) (lo) (363) (q2)) (va_cwS 3 hts gX3_payOf_X3_checkArgument rfl rfl rfl (by decide +kernel) ⟨Nat.le_of_ble_eq_true rfl, Nat.le_of_ble_eq_true rfl⟩) rfl hl.1 rfl (Nat.le_of_ble_eq_true rfl) dX3_payOf_20 ⟨Nat.le_of_ble_eq_true rfl, Nat.le_of_ble_eq_true rfl⟩ (fun q9 ce H1 locs1 hw1 hS1 hce hcv hcl => mout hout hlocks hw1 hS1 hce hcv hcl)
  ·
    exact mcallTS (EX := "java/lang/IllegalArgumentException") hw ⟨hx, hb, hml, hown, hts⟩ hS (t_X3_checkArgument hl0 (lo) (0) (363) (q1)) (va_cwS 3 hts gX3_payOf_X3_checkArgument rfl rfl rfl (by decide +kernel) ⟨Nat.le_of_ble_eq_true rfl, Nat.le_of_ble_eq_true rfl⟩) rfl hl.1 rfl (Nat.le_of_ble_eq_true rfl) dX3_payOf_12 ⟨Nat.le_of_ble_eq_true rfl, Nat.le_of_ble_eq_true rfl⟩ (fun q9 ce H1 locs1 hw1 hS1 hce hcv hcl => mout hout hlocks hw1 hS1 hce hcv hcl)

set_option maxHeartbeats 4000000 in
set_option maxRecDepth 100000 in
theorem t_X3_paidBy_1 {l : Launch} (hl0 : l.stackTraces = false) {G : mG} {V : mV} {α : Nat → Nat} {f : sT} {nr nw ns : Nat} (hC : mC G V α f nr nw ns) (hwf : mwf f nr nw ns) (y : Int32) (hbad : ¬ inn y 0 (nI nr - 1)) : vx_Met l yX3_paidBy wsX3_paidBy ({ frames := 7, cells := 1, slots := 6, locals := 103 }) (va_Pc [.ref (α (0)), .int (y)] (fun U => mW G V α U U.heap)) mNo (mXC G V α "java/lang/IndexOutOfBoundsException") 1 6 (mfree G) := by
  refine vx_ofW (cc := cX3_paidBy) (maxL := 5) (ret := (some .int)) (by decide) rfl ?_
  intro p e s m args below meth c s₁ B hml hout hv
  obtain ⟨rfl, hw⟩ := hv
  have hx := B.exec
  have hb := B.bytes
  have hr := B.returns
  have hts := atoms_spec (ws := wsX3_paidBy) B.pre
  have hown : s.vm.findClass RX3 = some m.cls := findClass_of_methodNamed B.named
  have hlocks := B.notSynchronized
  have hS : va_S (mfree G) s.heap s.heap [] := va_S.rf
  obtain ⟨k0, k1, k2, hL3, hL4, hL5, cR, cW, cS, -, -, -⟩ := id hC
  obtain ⟨md3, ed3, v3⟩ := hL3.obj
  obtain ⟨md4, ed4, v4⟩ := hL4.obj
  obtain ⟨md5, ed5, v5⟩ := hL5.obj
  obtain ⟨⟨hnr, hnw, hns⟩, -, -, h6w, h7w, -⟩ := id hwf
  have hl := lv_entry ([.ref (α (0)), .int (y)]) (n := 5) (Nat.le_of_ble_eq_true rfl)
  rw [lg_entry_eq]
  generalize (lg_sl ([.ref (α (0)), .int (y)]) ++ List.replicate (5 - (lg_sl ([.ref (α (0)), .int (y)])).length) Slot.unset).toArray = ls at hl ⊢
  have hl : lv_has ls 5 [(0, .ref (α (0))), (1, .int (y))] := hl
  refine lv_aload_n hx hb dX3_paidBy_0 rfl (lv_at hl 0 rfl) ?_
  refine lv_iload_n hx hb dX3_paidBy_1 rfl (lv_at hl 1 rfl) ?_
  exact mcallTV (EX := "java/lang/IndexOutOfBoundsException") hw (k0) rfl rfl ⟨hx, hb, hml, hown, hts⟩ hS (t_X3_findRule hl0 hC (by omega) y hbad) (cwV 1 hts gX3_paidBy_X3_findRule rfl rfl rfl (by decide +kernel) ⟨Nat.le_of_ble_eq_true rfl, Nat.le_of_ble_eq_true rfl⟩) rfl hl.1 rfl (Nat.le_of_ble_eq_true rfl) dX3_paidBy_2 ⟨Nat.le_of_ble_eq_true rfl, Nat.le_of_ble_eq_true rfl⟩ (fun q9 ce H1 locs1 hw1 hS1 hce hcv hcl => mout hout hlocks hw1 hS1 hce hcv hcl)

set_option maxHeartbeats 4000000 in
set_option maxRecDepth 100000 in
theorem t_X3_worked_1 {l : Launch} (hl0 : l.stackTraces = false) {G : mG} {V : mV} {α : Nat → Nat} {f : sT} {nr nw ns : Nat} (hC : mC G V α f nr nw ns) (hwf : mwf f nr nw ns) (y x : Int32) (hbad : ¬ inn y 0 (nI nw - 1)) : vx_Met l yX3_worked wsX3_worked ({ frames := 7, cells := 1, slots := 6, locals := 103 }) (va_Pc [.ref (α (0)), .int (y), .int (x)] (fun U => mW G V α U U.heap)) mNo (mXC G V α "java/lang/IndexOutOfBoundsException") 1 6 (mfree G) := by
  refine vx_ofW (cc := cX3_worked) (maxL := 4) (ret := (some .int)) (by decide) rfl ?_
  intro p e s m args below meth c s₁ B hml hout hv
  obtain ⟨rfl, hw⟩ := hv
  have hx := B.exec
  have hb := B.bytes
  have hr := B.returns
  have hts := atoms_spec (ws := wsX3_worked) B.pre
  have hown : s.vm.findClass RX3 = some m.cls := findClass_of_methodNamed B.named
  have hlocks := B.notSynchronized
  have hS : va_S (mfree G) s.heap s.heap [] := va_S.rf
  obtain ⟨k0, k1, k2, hL3, hL4, hL5, cR, cW, cS, -, -, -⟩ := id hC
  obtain ⟨md3, ed3, v3⟩ := hL3.obj
  obtain ⟨md4, ed4, v4⟩ := hL4.obj
  obtain ⟨md5, ed5, v5⟩ := hL5.obj
  obtain ⟨⟨hnr, hnw, hns⟩, -, -, h6w, h7w, -⟩ := id hwf
  have hl := lv_entry ([.ref (α (0)), .int (y), .int (x)]) (n := 4) (Nat.le_of_ble_eq_true rfl)
  rw [lg_entry_eq]
  generalize (lg_sl ([.ref (α (0)), .int (y), .int (x)]) ++ List.replicate (4 - (lg_sl ([.ref (α (0)), .int (y), .int (x)])).length) Slot.unset).toArray = ls at hl ⊢
  have hl : lv_has ls 4 [(0, .ref (α (0))), (1, .int (y)), (2, .int (x))] := hl
  refine lv_aload_n hx hb dX3_worked_0 rfl (lv_at hl 0 rfl) ?_
  refine lv_iload_n hx hb dX3_worked_1 rfl (lv_at hl 1 rfl) ?_
  exact mcallTV (EX := "java/lang/IndexOutOfBoundsException") hw (k0) rfl rfl ⟨hx, hb, hml, hown, hts⟩ hS (t_X3_findWorker hl0 hC (by omega) y hbad) (cwV 1 hts gX3_worked_X3_findWorker rfl rfl rfl (by decide +kernel) ⟨Nat.le_of_ble_eq_true rfl, Nat.le_of_ble_eq_true rfl⟩) rfl hl.1 rfl (Nat.le_of_ble_eq_true rfl) dX3_worked_2 ⟨Nat.le_of_ble_eq_true rfl, Nat.le_of_ble_eq_true rfl⟩ (fun q9 ce H1 locs1 hw1 hS1 hce hcv hcl => mout hout hlocks hw1 hS1 hce hcv hcl)

set_option maxHeartbeats 4000000 in
set_option maxRecDepth 100000 in
theorem t_X3_worked_2 {l : Launch} (hl0 : l.stackTraces = false) {G : mG} {V : mV} {α : Nat → Nat} {f : sT} {nr nw ns : Nat} (hC : mC G V α f nr nw ns) (hwf : mwf f nr nw ns) (k : Nat) (hk : k < nw) (x : Int32) (hbad : ¬ inn x 0 51) : vx_Met l yX3_worked wsX3_worked ({ frames := 7, cells := 1, slots := 6, locals := 104 }) (va_Pc [.ref (α (0)), .int (nI (k)), .int (x)] (fun U => mW G V α U U.heap)) mNo (mXC G V α "java/lang/IllegalArgumentException") 1 6 (mfree G) := by
  refine vx_ofW (cc := cX3_worked) (maxL := 4) (ret := (some .int)) (by decide) rfl ?_
  intro p e s m args below meth c s₁ B hml hout hv
  obtain ⟨rfl, hw⟩ := hv
  have hx := B.exec
  have hb := B.bytes
  have hr := B.returns
  have hts := atoms_spec (ws := wsX3_worked) B.pre
  have hown : s.vm.findClass RX3 = some m.cls := findClass_of_methodNamed B.named
  have hlocks := B.notSynchronized
  have hS : va_S (mfree G) s.heap s.heap [] := va_S.rf
  obtain ⟨k0, k1, k2, hL3, hL4, hL5, cR, cW, cS, -, -, -⟩ := id hC
  obtain ⟨md3, ed3, v3⟩ := hL3.obj
  obtain ⟨md4, ed4, v4⟩ := hL4.obj
  obtain ⟨md5, ed5, v5⟩ := hL5.obj
  obtain ⟨⟨hnr, hnw, hns⟩, -, -, h6w, h7w, -⟩ := id hwf
  have hl := lv_entry ([.ref (α (0)), .int (nI (k)), .int (x)]) (n := 4) (Nat.le_of_ble_eq_true rfl)
  rw [lg_entry_eq]
  generalize (lg_sl ([.ref (α (0)), .int (nI (k)), .int (x)]) ++ List.replicate (4 - (lg_sl ([.ref (α (0)), .int (nI (k)), .int (x)])).length) Slot.unset).toArray = ls at hl ⊢
  have hl : lv_has ls 4 [(0, .ref (α (0))), (1, .int (nI (k))), (2, .int (x))] := hl
  refine lv_aload_n hx hb dX3_worked_0 rfl (lv_at hl 0 rfl) ?_
  refine lv_iload_n hx hb dX3_worked_1 rfl (lv_at hl 1 rfl) ?_
  refine mcallVr hw (k0) rfl rfl ⟨hx, hb, hml, hown, hts⟩ (c_X3_findWorker hC (by omega) k (by omega)) (cwV 1 hts gX3_worked_X3_findWorker rfl rfl rfl (by decide +kernel) ⟨Nat.le_of_ble_eq_true rfl, Nat.le_of_ble_eq_true rfl⟩) rfl hl.1 rfl (Nat.le_of_ble_eq_true rfl) dX3_worked_2 ⟨Nat.le_of_ble_eq_true rfl, Nat.le_of_ble_eq_true rfl⟩ ?_
  refine lv_astore_n (lv' := [(3, .ref (α (200 + k))), (0, .ref (α (0))), (1, .int (nI (k))), (2, .int (x))]) hx hb dX3_worked_5 rfl hl (by decide) rfl (fun ls hl => ?_)
  refine lv_iload_n hx hb dX3_worked_6 rfl (lv_at hl 3 rfl) ?_
  refine lv_iconst (v := (0)) hx hb dX3_worked_7 (by decide) ?_
  refine lv_bipush (v := (51)) hx hb dX3_worked_8 (by decide) ?_
  exact mcallTS (EX := "java/lang/IllegalArgumentException") hw ⟨hx, hb, hml, hown, hts⟩ hS (t_X3_checkArgument hl0 (x) (0) (51) (hbad)) (va_cwS 3 hts gX3_worked_X3_checkArgument rfl rfl rfl (by decide +kernel) ⟨Nat.le_of_ble_eq_true rfl, Nat.le_of_ble_eq_true rfl⟩) rfl hl.1 rfl (Nat.le_of_ble_eq_true rfl) dX3_worked_10 ⟨Nat.le_of_ble_eq_true rfl, Nat.le_of_ble_eq_true rfl⟩ (fun q9 ce H1 locs1 hw1 hS1 hce hcv hcl => mout hout hlocks hw1 hS1 hce hcv hcl)

set_option maxHeartbeats 4000000 in
set_option maxRecDepth 100000 in
theorem t_X3_excess_1 {l : Launch} (hl0 : l.stackTraces = false) {G : mG} {V : mV} {α : Nat → Nat} {f : sT} {nr nw ns : Nat} (hC : mC G V α f nr nw ns) (hwf : mwf f nr nw ns) (y x : Int32) (hbad : ¬ inn y 0 (nI nw - 1)) : vx_Met l yX3_excess wsX3_excess ({ frames := 7, cells := 1, slots := 6, locals := 103 }) (va_Pc [.ref (α (0)), .int (y), .int (x)] (fun U => mW G V α U U.heap)) mNo (mXC G V α "java/lang/IndexOutOfBoundsException") 1 6 (mfree G) := by
  refine vx_ofW (cc := cX3_excess) (maxL := 5) (ret := (some .int)) (by decide) rfl ?_
  intro p e s m args below meth c s₁ B hml hout hv
  obtain ⟨rfl, hw⟩ := hv
  have hx := B.exec
  have hb := B.bytes
  have hr := B.returns
  have hts := atoms_spec (ws := wsX3_excess) B.pre
  have hown : s.vm.findClass RX3 = some m.cls := findClass_of_methodNamed B.named
  have hlocks := B.notSynchronized
  have hS : va_S (mfree G) s.heap s.heap [] := va_S.rf
  obtain ⟨k0, k1, k2, hL3, hL4, hL5, cR, cW, cS, -, -, -⟩ := id hC
  obtain ⟨md3, ed3, v3⟩ := hL3.obj
  obtain ⟨md4, ed4, v4⟩ := hL4.obj
  obtain ⟨md5, ed5, v5⟩ := hL5.obj
  obtain ⟨⟨hnr, hnw, hns⟩, -, -, h6w, h7w, -⟩ := id hwf
  have hl := lv_entry ([.ref (α (0)), .int (y), .int (x)]) (n := 5) (Nat.le_of_ble_eq_true rfl)
  rw [lg_entry_eq]
  generalize (lg_sl ([.ref (α (0)), .int (y), .int (x)]) ++ List.replicate (5 - (lg_sl ([.ref (α (0)), .int (y), .int (x)])).length) Slot.unset).toArray = ls at hl ⊢
  have hl : lv_has ls 5 [(0, .ref (α (0))), (1, .int (y)), (2, .int (x))] := hl
  refine lv_aload_n hx hb dX3_excess_0 rfl (lv_at hl 0 rfl) ?_
  refine lv_iload_n hx hb dX3_excess_1 rfl (lv_at hl 1 rfl) ?_
  exact mcallTV (EX := "java/lang/IndexOutOfBoundsException") hw (k0) rfl rfl ⟨hx, hb, hml, hown, hts⟩ hS (t_X3_findWorker hl0 hC (by omega) y hbad) (cwV 1 hts gX3_excess_X3_findWorker rfl rfl rfl (by decide +kernel) ⟨Nat.le_of_ble_eq_true rfl, Nat.le_of_ble_eq_true rfl⟩) rfl hl.1 rfl (Nat.le_of_ble_eq_true rfl) dX3_excess_2 ⟨Nat.le_of_ble_eq_true rfl, Nat.le_of_ble_eq_true rfl⟩ (fun q9 ce H1 locs1 hw1 hS1 hce hcv hcl => mout hout hlocks hw1 hS1 hce hcv hcl)

set_option maxHeartbeats 4000000 in
set_option maxRecDepth 100000 in
theorem t_X3_excess_2 {l : Launch} (hl0 : l.stackTraces = false) {G : mG} {V : mV} {α : Nat → Nat} {f : sT} {nr nw ns : Nat} (hC : mC G V α f nr nw ns) (hwf : mwf f nr nw ns) (k : Nat) (hk : k < nw) (x : Int32) (hbad : ¬ inn x 0 12) : vx_Met l yX3_excess wsX3_excess ({ frames := 7, cells := 1, slots := 6, locals := 104 }) (va_Pc [.ref (α (0)), .int (nI (k)), .int (x)] (fun U => mW G V α U U.heap)) mNo (mXC G V α "java/lang/IllegalArgumentException") 1 6 (mfree G) := by
  refine vx_ofW (cc := cX3_excess) (maxL := 5) (ret := (some .int)) (by decide) rfl ?_
  intro p e s m args below meth c s₁ B hml hout hv
  obtain ⟨rfl, hw⟩ := hv
  have hx := B.exec
  have hb := B.bytes
  have hr := B.returns
  have hts := atoms_spec (ws := wsX3_excess) B.pre
  have hown : s.vm.findClass RX3 = some m.cls := findClass_of_methodNamed B.named
  have hlocks := B.notSynchronized
  have hS : va_S (mfree G) s.heap s.heap [] := va_S.rf
  obtain ⟨k0, k1, k2, hL3, hL4, hL5, cR, cW, cS, -, -, -⟩ := id hC
  obtain ⟨md3, ed3, v3⟩ := hL3.obj
  obtain ⟨md4, ed4, v4⟩ := hL4.obj
  obtain ⟨md5, ed5, v5⟩ := hL5.obj
  obtain ⟨⟨hnr, hnw, hns⟩, -, -, h6w, h7w, -⟩ := id hwf
  have hl := lv_entry ([.ref (α (0)), .int (nI (k)), .int (x)]) (n := 5) (Nat.le_of_ble_eq_true rfl)
  rw [lg_entry_eq]
  generalize (lg_sl ([.ref (α (0)), .int (nI (k)), .int (x)]) ++ List.replicate (5 - (lg_sl ([.ref (α (0)), .int (nI (k)), .int (x)])).length) Slot.unset).toArray = ls at hl ⊢
  have hl : lv_has ls 5 [(0, .ref (α (0))), (1, .int (nI (k))), (2, .int (x))] := hl
  refine lv_aload_n hx hb dX3_excess_0 rfl (lv_at hl 0 rfl) ?_
  refine lv_iload_n hx hb dX3_excess_1 rfl (lv_at hl 1 rfl) ?_
  refine mcallVr hw (k0) rfl rfl ⟨hx, hb, hml, hown, hts⟩ (c_X3_findWorker hC (by omega) k (by omega)) (cwV 1 hts gX3_excess_X3_findWorker rfl rfl rfl (by decide +kernel) ⟨Nat.le_of_ble_eq_true rfl, Nat.le_of_ble_eq_true rfl⟩) rfl hl.1 rfl (Nat.le_of_ble_eq_true rfl) dX3_excess_2 ⟨Nat.le_of_ble_eq_true rfl, Nat.le_of_ble_eq_true rfl⟩ ?_
  refine lv_astore_n (lv' := [(3, .ref (α (200 + k))), (0, .ref (α (0))), (1, .int (nI (k))), (2, .int (x))]) hx hb dX3_excess_5 rfl hl (by decide) rfl (fun ls hl => ?_)
  refine lv_iload_n hx hb dX3_excess_6 rfl (lv_at hl 3 rfl) ?_
  refine lv_iconst (v := (0)) hx hb dX3_excess_7 (by decide) ?_
  refine lv_bipush (v := (12)) hx hb dX3_excess_8 (by decide) ?_
  exact mcallTS (EX := "java/lang/IllegalArgumentException") hw ⟨hx, hb, hml, hown, hts⟩ hS (t_X3_checkArgument hl0 (x) (0) (12) (hbad)) (va_cwS 3 hts gX3_excess_X3_checkArgument rfl rfl rfl (by decide +kernel) ⟨Nat.le_of_ble_eq_true rfl, Nat.le_of_ble_eq_true rfl⟩) rfl hl.1 rfl (Nat.le_of_ble_eq_true rfl) dX3_excess_10 ⟨Nat.le_of_ble_eq_true rfl, Nat.le_of_ble_eq_true rfl⟩ (fun q9 ce H1 locs1 hw1 hS1 hce hcv hcl => mout hout hlocks hw1 hS1 hce hcv hcl)
