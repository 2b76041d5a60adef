def mFix (p : Program) (l : Launch) (s : State) (m : MethodId) (args : Array Value) (c : Code) (G : mG) (b L : Nat) (xs : Nat → Int32) : Prop := l.stackTraces = false ∧ p.tables.exec = Jvm.exec ∧ c.code = cL_law ∧ c.maxLocals = 5 ∧ s.vm.findClass RL = some m.cls ∧ (∀ w ∈ wsL_law, w.before args s = true) ∧ va_X b L xs s s.heap ∧ b < s.heap.size ∧ ¬ mfree G b ∧ L ≤ 260
set_option maxHeartbeats 40000000 in
set_option maxRecDepth 100000 in
theorem law_it {p : Program} {l : Launch} {e : Env} {s : State} {m : MethodId} {args : Array Value} {below : List Frame} {meth : Method} {c : Code} {Q : State → Prop} {G : mG} {b L : Nat} {xs : Nat → Int32} (hF : mFix p l s m args c G b L xs) {k X : Nat} (hk : k < 16) (hX2 : X < 2 ^ 24) {V : mV} {α : Nat → Nat} {f : sT} (hC : mC G V α f k 1 k) (hwf : mwf f k 1 k) (hI : lI f k) {cells slots : Nat} (hcl : cells + 140 ≤ 669568) (hsl : slots + 1236 ≤ 7092993)
    (kk : ∀ (V : mV) (α : Nat → Nat) (f : sT) (H : Heap) (locs : List Loc) (ls : Array Slot), mC G V α f (k + 1) 1 (k + 1) → mwf f (k + 1) 1 (k + 1) → lI f (k + 1) → lv_has ls 5 [(0, .ref (b)), (1, .ref (α (0))), (2, .int (nI (k + 1)))] → mW G V α s H → va_S (mfree G) s.heap H locs → W p l e room_1 s m args below meth c H locs (cells + 140) (slots + 1236) Q (F0 m 34 ls []))
    (H : Heap) (locs : List Loc) (ls : Array Slot) (hl : lv_has ls 5 [(0, .ref (b)), (1, .ref (α (0))), (2, .int (nI (k)))]) (hw : mW G V α s H) (hS : va_S (mfree G) s.heap H locs) : W p l e room_1 s m args below meth c H locs cells slots Q (F0 m 61 ls [.int (nI X)]) := by
  obtain ⟨hl0, hx, hb, hml, hown, hts, hX, hbl, hbA, hL⟩ := id hF
  obtain ⟨Y, hY⟩ : ∃ Y, Y = X % 96 := ⟨_, rfl⟩
  have hY2 : Y < 96 := by omega
  obtain ⟨T, hT⟩ : ∃ T, T = Y + 1 + X / 96 % (96 - Y) := ⟨_, rfl⟩
  have hT2 : Y + 1 ≤ T ∧ T ≤ 96 := by have := Nat.mod_lt (X / 96) (show 0 < 96 - Y by omega); omega
  refine lv_istore_n (lv' := [(3, .int (nI X)), (0, .ref (b)), (1, .ref (α (0))), (2, .int (nI (k)))]) hx hb dL_law_61 rfl hl (by decide) rfl (fun ls hl => ?_)
  refine lv_iload_n hx hb dL_law_62 rfl (lv_at hl 0 rfl) ?_
  refine lv_bipush (v := 96) hx hb dL_law_63 (by decide) ?_
  refine lv_irem hx hb dL_law_65 (by decide) ?_
  refine lv_topi (fun y ey => ?_)
  obtain rfl : y = nI Y := ey.trans (by rw [hY]; exact mrem (by omega) 96 (by omega) (by omega))
  refine lv_istore (lv' := [(4, .int (nI Y)), (3, .int (nI X)), (0, .ref (b)), (1, .ref (α (0))), (2, .int (nI (k)))]) hx hb dL_law_66 hl (by decide) rfl (fun ls hl => ?_)
  refine lv_aload_n hx hb dL_law_68 rfl (lv_at hl 3 rfl) ?_
  refine lv_iload_n hx hb dL_law_69 rfl (lv_at hl 1 rfl) ?_
  refine lv_sipush (v := 128) hx hb dL_law_70 (by decide) ?_
  refine lv_irem hx hb dL_law_73 (by decide) ?_
  refine lv_topi (fun y ey => ?_)
  obtain rfl : y = nI (X % 128) := ey.trans (mrem (by omega) 128 (by omega) (by omega))
  refine lv_iload hx hb dL_law_74 (lv_at hl 0 rfl) ?_
  refine lv_iload hx hb dL_law_76 (lv_at hl 0 rfl) ?_
  refine lv_iconst (v := 1) hx hb dL_law_78 (by decide) ?_
  refine lv_iadd hx hb dL_law_79 ?_
  refine lv_topi (fun y ey => ?_)
  obtain rfl : y = nI (Y + 1) := ey.trans (nI_1 Y)
  refine lv_iload_n hx hb dL_law_80 rfl (lv_at hl 1 rfl) ?_
  refine lv_bipush (v := 96) hx hb dL_law_81 (by decide) ?_
  refine lv_idiv hx hb dL_law_83 (by decide) ?_
  refine lv_topi (fun y ey => ?_)
  obtain rfl : y = nI (X / 96) := ey.trans (mdiv (by omega) 96 (by omega) (by omega))
  refine lv_bipush (v := 96) hx hb dL_law_84 (by decide) ?_
  refine lv_iload hx hb dL_law_86 (lv_at hl 0 rfl) ?_
  refine lv_isub hx hb dL_law_88 ?_
  refine lv_topi (fun y ey => ?_)
  obtain rfl : y = nI (96 - Y) := ey.trans (pk_sub (a := 96) (by omega))
  refine lv_irem hx hb dL_law_89 (nI_ne 0 (by omega) (by omega) (by omega)) ?_
  refine lv_topi (fun y ey => ?_)
  obtain rfl : y = nI (X / 96 % (96 - Y)) := ey.trans (mrem (by omega) (96 - Y) (by omega) (by omega))
  refine lv_iadd hx hb dL_law_90 ?_
  refine lv_topi (fun y ey => ?_)
  obtain rfl : y = nI T := ey.trans (by rw [hT]; exact nI_add (Y + 1) (X / 96 % (96 - Y)))
  refine lv_iconst (v := 1) hx hb dL_law_91 (by decide) ?_
  refine lv_iload_n hx hb dL_law_92 rfl (lv_at hl 1 rfl) ?_
  refine lv_bipush (v := 15) hx hb dL_law_93 (by decide) ?_
  refine lv_irem hx hb dL_law_95 (by decide) ?_
  refine lv_topi (fun y ey => ?_)
  obtain rfl : y = nI (X % 15) := ey.trans (mrem (by omega) 15 (by omega) (by omega))
  refine lv_iadd hx hb dL_law_96 ?_
  refine lv_topi (fun y ey => ?_)
  obtain rfl : y = nI (1 + X % 15) := ey.trans (nI_add 1 (X % 15))
  refine lv_bipush (v := 100) hx hb dL_law_97 (by decide) ?_
  refine lv_iload_n hx hb dL_law_99 rfl (lv_at hl 1 rfl) ?_
  refine lv_sipush (v := 301) hx hb dL_law_100 (by decide) ?_
  refine lv_irem hx hb dL_law_103 (by decide) ?_
  refine lv_topi (fun y ey => ?_)
  obtain rfl : y = nI (X % 301) := ey.trans (mrem (by omega) 301 (by omega) (by omega))
  refine lv_iadd hx hb dL_law_104 ?_
  refine lv_topi (fun y ey => ?_)
  obtain rfl : y = nI (100 + X % 301) := ey.trans (nI_add 100 (X % 301))
  have q3 : inn (nI T) (nI Y + 1) 96 := by rw [nI_1]; exact inn_n (Y + 1) 96 (by omega) (by omega) (by omega)
  refine mcallSWi (rest := []) hw ⟨hx, hb, hml, hown, hts⟩ hS (w_X3_addRule hC hwf (nI (X % 128)) (nI Y) (nI T) (nI (1 + X % 15)) (nI (100 + X % 301)) (inn_n 0 127 (by omega) (by omega) (by omega)) (inn_n 0 95 (by omega) (by omega) (by omega)) q3 (inn_n 1 15 (by omega) (by omega) (by omega)) (inn_n 100 400 (by omega) (by omega) (by omega)) hk) (vx_cwSW 6 hts gL_law_L_rule rfl rfl rfl (by decide +kernel) ⟨Nat.le_of_ble_eq_true rfl, Nat.le_of_ble_eq_true rfl⟩) rfl hl.1 rfl (Nat.le_of_ble_eq_true rfl) dL_law_105 ⟨(by show cells + 2 ≤ 669568; omega), (by show slots + 210 ≤ 7092993; omega)⟩ (fun r9 V1 α1 H locs hq hw hS => ?_)
  obtain ⟨er, hC, hO⟩ := hq
  have hC : mC G V1 α1 (lF f k (X % 128) Y T (1 + X % 15) (100 + X % 301)) (k + 1) 1 k := hC
  have hwf : mwf (lF f k (X % 128) Y T (1 + X % 15) (100 + X % 301)) (k + 1) 1 k := wf_addR hwf hk (nI (X % 128)) (nI Y) (nI T) (nI (1 + X % 15)) (nI (100 + X % 301))
  have e0 : α1 0 = α 0 := (hO 0 (by omega)).2
  subst er
  have hl : lv_has ls 5 [(4, .int (nI Y)), (3, .int (nI X)), (0, .ref (b)), (1, .ref (α1 (0))), (2, .int (nI (k)))] := by rw [e0]; exact hl
  refine lv_iload_n hx hb dL_law_108 rfl (lv_at hl 4 rfl) ?_
  refine lv_icmp_ne (tgt := 182) hx hb dL_law_109 (by decide) (fun z => absurd rfl z) (fun _ => ?_)
  refine lv_aload_n hx hb dL_law_112 rfl (lv_at hl 3 rfl) ?_
  refine lv_iconst (v := 0) hx hb dL_law_113 (by decide) ?_
  refine lv_iconst (v := 3) hx hb dL_law_114 (by decide) ?_
  refine lv_iload_n hx hb dL_law_115 rfl (lv_at hl 4 rfl) ?_
  refine lv_imul hx hb dL_law_116 ?_
  refine lv_topi (fun y ey => ?_)
  obtain rfl : y = nI (3 * k) := ey.trans (pk_mul 3 k)
  refine lv_iload_n hx hb dL_law_117 rfl (lv_at hl 1 rfl) ?_
  refine lv_iconst (v := 2) hx hb dL_law_118 (by decide) ?_
  refine lv_irem hx hb dL_law_119 (by decide) ?_
  refine lv_topi (fun y ey => ?_)
  obtain rfl : y = nI (X % 2) := ey.trans (mrem (by omega) 2 (by omega) (by omega))
  refine lv_iadd hx hb dL_law_120 ?_
  refine lv_topi (fun y ey => ?_)
  obtain rfl : y = nI (3 * k + X % 2) := ey.trans (nI_add (3 * k) (X % 2))
  refine lv_iload_n hx hb dL_law_121 rfl (lv_at hl 1 rfl) ?_
  refine lv_bipush (v := 96) hx hb dL_law_122 (by decide) ?_
  refine lv_irem hx hb dL_law_124 (by decide) ?_
  refine lv_topi (fun y ey => ?_)
  obtain rfl : y = nI Y := ey.trans (by rw [hY]; exact mrem (by omega) 96 (by omega) (by omega))
  refine lv_iconst (v := 1) hx hb dL_law_125 (by decide) ?_
  refine lv_iload_n hx hb dL_law_126 rfl (lv_at hl 1 rfl) ?_
  refine lv_bipush (v := 64) hx hb dL_law_127 (by decide) ?_
  refine lv_irem hx hb dL_law_129 (by decide) ?_
  refine lv_topi (fun y ey => ?_)
  obtain rfl : y = nI (X % 64) := ey.trans (mrem (by omega) 64 (by omega) (by omega))
  refine lv_iadd hx hb dL_law_130 ?_
  refine lv_topi (fun y ey => ?_)
  obtain rfl : y = nI (1 + X % 64) := ey.trans (nI_add 1 (X % 64))
  refine mcallVw (rest := []) hw hC.1 rfl rfl ⟨hx, hb, hml, hown, hts⟩ hS (c_X3_addShift hC hwf 0 (3 * k + X % 2) Y (1 + X % 64) (by decide) (by omega) (by omega) (by omega) (by omega) (by omega) (l_ov hI (by omega) (by omega) (by omega))) (cwV 4 hts gL_law_X3_addShift rfl rfl rfl (by decide +kernel) ⟨Nat.le_of_ble_eq_true rfl, Nat.le_of_ble_eq_true rfl⟩) rfl hl.1 rfl (Nat.le_of_ble_eq_true rfl) dL_law_131 ⟨(by show cells + 2 + 2 ≤ 669568; omega), (by show slots + 210 + 210 ≤ 7092993; omega)⟩ (fun r9 V2 α2 H locs hq hw hS => ?_)
  obtain ⟨er, hC, hO⟩ := hq
  have hC : mC G V2 α2 (lG (lF f k (X % 128) Y T (1 + X % 15) (100 + X % 301)) k ((3 * k + X % 2) * 96 + Y) (1 + X % 64)) (k + 1) 1 (k + 1) := hC
  have hwf2 : mwf (lG (lF f k (X % 128) Y T (1 + X % 15) (100 + X % 301)) k ((3 * k + X % 2) * 96 + Y) (1 + X % 64)) (k + 1) 1 (k + 1) := wf_addS hwf (by omega) (by decide) (by omega) (by omega) (by omega)
  have hI2 : lI (lG (lF f k (X % 128) Y T (1 + X % 15) (100 + X % 301)) k ((3 * k + X % 2) * 96 + Y) (1 + X % 64)) (k + 1) := lI_next hI (by omega) (by omega) (by omega) (by omega) (by omega)
  have e0 : α2 0 = α1 0 := (hO 0 (by omega)).2
  subst er
  have hl : lv_has ls 5 [(4, .int (nI Y)), (3, .int (nI X)), (0, .ref (b)), (1, .ref (α2 (0))), (2, .int (nI (k)))] := by rw [e0]; exact hl
  refine lv_iload_n hx hb dL_law_134 rfl (lv_at hl 4 rfl) ?_
  refine lv_icmp_ne (tgt := 182) hx hb dL_law_135 (by decide) (fun z => absurd rfl z) (fun _ => ?_)
  have h12 : (lG (lF f k (X % 128) Y T (1 + X % 15) (100 + X % 301)) k ((3 * k + X % 2) * 96 + Y) (1 + X % 64)) 12 k = 0 := by rw [lG_n _ _ _ _ (by omega)]; exact (hwf.2.2.2.2.2.2 k (Nat.le_refl _)).1
  have h13 : (lG (lF f k (X % 128) Y T (1 + X % 15) (100 + X % 301)) k ((3 * k + X % 2) * 96 + Y) (1 + X % 64)) 13 k = 0 := by rw [lG_n _ _ _ _ (by omega)]; exact (hwf.2.2.2.2.2.2 k (Nat.le_refl _)).2
  obtain ⟨P, S, hP1, hP2, eP, hS1, hS2, eS⟩ := new_paid hwf2 (show k < k + 1 by omega) h12 h13 hI2.1 hI2.2.1
  refine lv_aload_n hx hb dL_law_138 rfl (lv_at hl 3 rfl) ?_
  refine lv_iload_n hx hb dL_law_139 rfl (lv_at hl 4 rfl) ?_
  refine mcallVi (rest := []) hw hC.1 rfl rfl ⟨hx, hb, hml, hown, hts⟩ (c_X3_paidQuarters hC hwf2 k (by omega)) (cwV 1 hts gL_law_X3_paidQuarters rfl rfl rfl (by decide +kernel) ⟨Nat.le_of_ble_eq_true rfl, Nat.le_of_ble_eq_true rfl⟩) rfl hl.1 rfl (Nat.le_of_ble_eq_true rfl) dL_law_140 ⟨(by show cells + 2 + 2 ≤ 669568; omega), (by show slots + 210 + 210 ≤ 7092993; omega)⟩ ?_
  refine lv_topi (fun y ey => ?_)
  obtain rfl : y = nI P := ey.trans (eP)
  refine lv_bipush (v := 12) hx hb dL_law_143 (by decide) ?_
  refine lv_icmp_lt (tgt := 182) hx hb dL_law_145 (by decide) (fun z => absurd z (nI_nlt (b := 12) hP1 (by omega))) (fun _ => ?_)
  refine lv_aload_n hx hb dL_law_148 rfl (lv_at hl 3 rfl) ?_
  refine lv_iload_n hx hb dL_law_149 rfl (lv_at hl 4 rfl) ?_
  refine mcallVi (rest := []) hw hC.1 rfl rfl ⟨hx, hb, hml, hown, hts⟩ (c_X3_pay hC hwf2 k (by omega)) (cwV 1 hts gL_law_X3_pay rfl rfl rfl (by decide +kernel) ⟨Nat.le_of_ble_eq_true rfl, Nat.le_of_ble_eq_true rfl⟩) rfl hl.1 rfl (Nat.le_of_ble_eq_true rfl) dL_law_150 ⟨(by show cells + 2 + 2 ≤ 669568; omega), (by show slots + 210 + 210 ≤ 7092993; omega)⟩ ?_
  refine lv_topi (fun y ey => ?_)
  obtain rfl : y = nI S := ey.trans (eS)
  refine lv_sipush (v := 500) hx hb dL_law_153 (by decide) ?_
  refine lv_aload_n hx hb dL_law_156 rfl (lv_at hl 3 rfl) ?_
  refine lv_iload_n hx hb dL_law_157 rfl (lv_at hl 4 rfl) ?_
  refine mcallVi (rest := [.int 500, .int (nI S)]) hw hC.1 rfl rfl ⟨hx, hb, hml, hown, hts⟩ (c_X3_paidQuarters hC hwf2 k (by omega)) (cwV 1 hts gL_law_X3_paidQuarters rfl rfl rfl (by decide +kernel) ⟨Nat.le_of_ble_eq_true rfl, Nat.le_of_ble_eq_true rfl⟩) rfl hl.1 rfl (Nat.le_of_ble_eq_true rfl) dL_law_158 ⟨(by show cells + 2 + 2 ≤ 669568; omega), (by show slots + 210 + 210 ≤ 7092993; omega)⟩ ?_
  refine lv_topi (fun y ey => ?_)
  obtain rfl : y = nI P := ey.trans (eP)
  refine lv_imul hx hb dL_law_161 ?_
  refine lv_topi (fun y ey => ?_)
  obtain rfl : y = nI (500 * P) := ey.trans (pk_mul 500 P)
  refine lv_icmp_lt (tgt := 182) hx hb dL_law_162 (by decide) (fun z => absurd z (nI_nlt hS1 (by omega))) (fun _ => ?_)
  refine lv_iload_n hx hb dL_law_165 rfl (lv_at hl 4 rfl) ?_
  refine lv_iconst (v := 5) hx hb dL_law_166 (by decide) ?_
  refine lv_irem hx hb dL_law_167 (by decide) ?_
  refine lv_topi (fun y ey => ?_)
  obtain rfl : y = nI (k % 5) := ey.trans (mrem (by omega) 5 (by omega) (by omega))
  refine lv_if_ne (tgt := 184) hx hb dL_law_168 (by decide) (fun _ => ?_) (fun _ => ?_)
  ·
    refine lv_iinc (v := nI (k + 1)) (lv' := [(2, .int (nI (k + 1))), (4, .int (nI Y)), (3, .int (nI X)), (0, .ref (b)), (1, .ref (α2 (0)))]) hx hb dL_law_184 hl (k := 4) rfl (nI_1 k) (by decide) rfl (fun ls hl => ?_)
    refine lv_goto (tgt := 34) hx hb dL_law_187 (by decide) ?_
    refine W.widen (k := cells + 140) (n := slots + 1236) (by omega) (by omega) ?_
    exact kk V2 α2 _ H locs ls hC hwf2 hI2 (lv_sub hl [3, 4, 0] rfl) hw hS
  ·
    refine lv_aload_n hx hb dL_law_171 rfl (lv_at hl 3 rfl) ?_
    refine lv_iload_n hx hb dL_law_172 rfl (lv_at hl 4 rfl) ?_
    refine lv_iconst (v := 1) hx hb dL_law_173 (by decide) ?_
    refine lv_iadd hx hb dL_law_174 ?_
    refine lv_topi (fun y ey => ?_)
    obtain rfl : y = nI (k + 1) := ey.trans (nI_1 k)
    refine lv_iconst (v := 1) hx hb dL_law_175 (by decide) ?_
    refine mcallSi2 (V2 := V2) (α2 := α2) (rest := []) hw ⟨hx, hb, hml, hown, hts⟩ hS (w_refusesB hl0 hC hwf2 (by decide) (by omega)) (va_cwS 3 hts gL_law_L_refuses rfl rfl rfl (by decide +kernel) ⟨Nat.le_of_ble_eq_true rfl, Nat.le_of_ble_eq_true rfl⟩) rfl hl.1 rfl (Nat.le_of_ble_eq_true rfl) dL_law_176 ⟨(by show cells + 2 + 2 + 136 ≤ 669568; omega), (by show slots + 210 + 210 + 816 ≤ 7092993; omega)⟩ (fun H locs hw hS => ?_)
    refine lv_if_ne (tgt := 184) hx hb dL_law_179 (by decide) (fun _ => ?_) (fun z => absurd z (by decide))
    refine lv_iinc (v := nI (k + 1)) (lv' := [(2, .int (nI (k + 1))), (4, .int (nI Y)), (3, .int (nI X)), (0, .ref (b)), (1, .ref (α2 (0)))]) hx hb dL_law_184 hl (k := 4) rfl (nI_1 k) (by decide) rfl (fun ls hl => ?_)
    refine lv_goto (tgt := 34) hx hb dL_law_187 (by decide) ?_
    refine W.widen (k := cells + 140) (n := slots + 1236) (by omega) (by omega) ?_
    exact kk V2 α2 _ H locs ls hC hwf2 hI2 (lv_sub hl [3, 4, 0] rfl) hw hS

set_option maxHeartbeats 4000000 in
set_option maxRecDepth 100000 in
theorem law_loop {p : Program} {l : Launch} {e : Env} {s : State} {m : MethodId} {args : Array Value} {below : List Frame} {meth : Method} {c : Code} {Q : State → Prop} {G : mG} {b L : Nat} {xs : Nat → Int32} (hF : mFix p l s m args c G b L xs)
    (hE : ∀ (H : Heap) (locs : List Loc) (cells slots : Nat) (ls : Array Slot), va_S (mfree G) s.heap H locs → cells ≤ 669568 → slots ≤ 7092993 → W p l e room_1 s m args below meth c H locs cells slots Q (F0 m 190 ls [])) :
    ∀ (n k : Nat) (V : mV) (α : Nat → Nat) (f : sT) (H : Heap) (locs : List Loc) (ls : Array Slot) (cells slots : Nat), k + n = 16 → cells + 140 * n ≤ 669568 → slots + 1236 * n ≤ 7092993 → mC G V α f k 1 k → mwf f k 1 k → lI f k → lv_has ls 5 [(0, .ref (b)), (1, .ref (α (0))), (2, .int (nI (k)))] → mW G V α s H → va_S (mfree G) s.heap H locs → W p l e room_1 s m args below meth c H locs cells slots Q (F0 m 34 ls []) := by
  intro n
  induction n with
  | zero =>
    intro k V α f H locs ls cells slots hkn hc hs hC hwf hI hl hw hS
    obtain ⟨hl0, hx, hb, hml, hown, hts, hX, hbl, hbA, hL⟩ := id hF
    obtain rfl : k = 16 := by omega
    refine lv_iload_n hx hb dL_law_34 rfl (lv_at hl 2 rfl) ?_
    refine lv_bipush (v := 16) hx hb dL_law_35 (by decide) ?_
    refine lv_icmp_ge (tgt := 190) hx hb dL_law_37 (by decide) (fun _ => ?_) (fun z => absurd (by decide) z)
    exact hE _ _ _ _ _ hS (by omega) (by omega)
  | succ n ih =>
    intro k V α f H locs ls cells slots hkn hc hs hC hwf hI hl hw hS
    obtain ⟨hl0, hx, hb, hml, hown, hts, hX, hbl, hbA, hL⟩ := id hF
    have go : ∀ (X : Nat) (ls : Array Slot), X < 2 ^ 24 → lv_has ls 5 [(0, .ref (b)), (1, .ref (α (0))), (2, .int (nI (k)))] → W p l e room_1 s m args below meth c H locs cells slots Q (F0 m 61 ls [.int (nI X)]) := fun X ls hX2 hl => law_it hF (by omega) hX2 hC hwf hI (by omega) (by omega) (fun V α f H locs ls hC hwf hI hl hw hS => ih (k + 1) V α f H locs ls _ _ (by omega) (by omega) (by omega) hC hwf hI hl hw hS) H locs ls hl hw hS
    refine lv_iload_n hx hb dL_law_34 rfl (lv_at hl 2 rfl) ?_
    refine lv_bipush (v := 16) hx hb dL_law_35 (by decide) ?_
    refine lv_icmp_ge (tgt := 190) hx hb dL_law_37 (by decide) (fun z => absurd z (nI_ge (show k < 16 by omega) (by decide))) (fun _ => ?_)
    refine lv_aload_n hx hb dL_law_40 rfl (lv_at hl 0 rfl) ?_
    refine va_slen hx hb hX hbl hbA hS dL_law_41 ?_
    refine lv_if_ne (tgt := 52) hx hb dL_law_42 (by decide) (fun c1 => ?_) (fun c1 => ?_)
    ·
      have hLp : 0 < L := Nat.pos_of_ne_zero (fun z => c1 (by rw [z] <;> rfl))
      refine lv_aload_n hx hb dL_law_52 rfl (lv_at hl 0 rfl) ?_
      refine lv_iload_n hx hb dL_law_53 rfl (lv_at hl 2 rfl) ?_
      refine lv_aload_n hx hb dL_law_54 rfl (lv_at hl 0 rfl) ?_
      refine va_slen hx hb hX hbl hbA hS dL_law_55 ?_
      refine lv_irem hx hb dL_law_56 (nI_ne 0 (by omega) (by omega) (by omega)) ?_
      refine lv_topi (fun y ey => ?_)
      obtain rfl : y = nI (k % L) := ey.trans (mrem (by omega) L hLp (by omega))
      refine va_sld hx hb hX hbl hbA hS (vp_in_nI (Nat.mod_lt k hLp) (by omega)) dL_law_57 ?_
      refine lv_bipush (v := 8) hx hb dL_law_58 (by decide) ?_
      obtain ⟨X, hX2, eX⟩ := ushr8 (xs (nI (k % L)).toNatClampNeg)
      refine lv_iushr hx hb dL_law_60 eX ?_
      exact go X ls hX2 hl
    ·
      refine lv_bipush (v := 29) hx hb dL_law_45 (by decide) ?_
      refine lv_iload_n hx hb dL_law_47 rfl (lv_at hl 2 rfl) ?_
      refine lv_imul hx hb dL_law_48 ?_
      refine lv_topi (fun y ey => ?_)
      obtain rfl : y = nI (29 * k) := ey.trans (pk_mul 29 k)
      refine lv_goto (tgt := 61) hx hb dL_law_49 (by decide) ?_
      exact go (29 * k) ls (by omega) hl

set_option maxHeartbeats 4000000 in
set_option maxRecDepth 100000 in
theorem law_entry {p : Program} {l : Launch} {e : Env} {s : State} {m : MethodId} {args : Array Value} {below : List Frame} {meth : Method} {c : Code} {Q : State → Prop} {G : mG} {b L : Nat} {xs : Nat → Int32} {ls : Array Slot} (hF : mFix p l s m args c G b L xs)
    (hE : ∀ (H : Heap) (locs : List Loc) (cells slots : Nat) (ls : Array Slot), va_S (mfree G) s.heap H locs → cells ≤ 669568 → slots ≤ 7092993 → W p l e room_1 s m args below meth c H locs cells slots Q (F0 m 190 ls []))
    (hw : mW G (fun _ => none) (fun _ => 0) s s.heap) (hl : lv_has ls 5 [(0, .ref (b))]) : W p l e room_1 s m args below meth c s.heap [] 0 0 Q (F0 m 0 ls []) := by
  obtain ⟨hl0, hx, hb, hml, hown, hts, hX, hbl, hbA, hL⟩ := id hF
  have hS : va_S (mfree G) s.heap s.heap [] := va_S.rf
  have nk1 := hts (.classLink RL 8 RX3) (by decide +kernel)
  have nk2 := hts (.instantiable RX3 5) (by decide +kernel)
  have nk3 := hts (.initialized RX3) (by decide +kernel)
  have ml1 := hts (.methodLink RL 89 yX3_init) (by decide +kernel)
  have mi1 := hts (.instanceMethod yX3_init) (by decide +kernel)
  have inl9 : ∀ w ∈ wsX30, w ∈ wsL_law := by decide +kernel
  refine mcallSi2 (V2 := (fun _ => none)) (α2 := (fun _ => 0)) (rest := []) hw ⟨hx, hb, hml, hown, hts⟩ hS (w_pays hl0) (va_cwS 0 hts gL_law_L_pays rfl rfl rfl (by decide +kernel) ⟨Nat.le_of_ble_eq_true rfl, Nat.le_of_ble_eq_true rfl⟩) rfl hl.1 rfl (Nat.le_of_ble_eq_true rfl) dL_law_0 ⟨Nat.le_of_ble_eq_true rfl, Nat.le_of_ble_eq_true rfl⟩ (fun H locs hw hS => ?_)
  refine lv_if_eq (tgt := 12) hx hb dL_law_3 (by decide) (fun z => absurd z (by decide)) (fun _ => ?_)
  refine mcallSi2 (V2 := (fun _ => none)) (α2 := (fun _ => 0)) (rest := []) hw ⟨hx, hb, hml, hown, hts⟩ hS (w_hours hl0) (va_cwS 0 hts gL_law_L_hours rfl rfl rfl (by decide +kernel) ⟨Nat.le_of_ble_eq_true rfl, Nat.le_of_ble_eq_true rfl⟩) rfl hl.1 rfl (Nat.le_of_ble_eq_true rfl) dL_law_6 ⟨Nat.le_of_ble_eq_true rfl, Nat.le_of_ble_eq_true rfl⟩ (fun H locs hw hS => ?_)
  refine lv_if_ne (tgt := 14) hx hb dL_law_9 (by decide) (fun _ => ?_) (fun z => absurd z (by decide))
  refine mnew (C := RX3) (T := TX3) (N := 5) (ci := 4) (fs := [.null, .null, .null, .null, .null]) hx hb hts inl9 tyX3 tyX3_ok hown nk1 nk2 nk3 hw hS rfl 0 rfl (fun j hj => by rcases (show j = 0 ∨ j = 1 ∨ j = 2 ∨ j = 3 ∨ j = 4 by omega) with rfl | rfl | rfl | rfl | rfl <;> rfl) (Nat.le_of_ble_eq_true rfl) (Nat.le_of_ble_eq_true rfl) dL_law_14 (fun α1 H pa1 hw hS => ?_)
  refine lv_dup hx hb dL_law_17 rfl ?_
  refine mcallIwv (rest := [.ref (α1 0)]) hw ⟨hx, hb, hml, hown, hts⟩ hS (c_X3_init (vup_s _ _ _) (fun j hj => vup_n _ _ (by omega))) (cwI 0 hts gL_law_X3_init rfl rfl rfl nk3 ml1 mi1 rfl (by decide +kernel) ⟨Nat.le_of_ble_eq_true rfl, Nat.le_of_ble_eq_true rfl⟩) rfl hl.1 rfl (Nat.le_of_ble_eq_true rfl) dL_law_18 ⟨Nat.le_of_ble_eq_true rfl, Nat.le_of_ble_eq_true rfl⟩ (fun V2 α2 H locs hp hw hS => ?_)
  obtain ⟨hC, hN2, e0⟩ := hp
  dsimp only at hC hN2 e0
  refine W.eq (g2 := F0 m 21 ls [.ref (α2 0)]) (by rw [e0]) ?_
  refine lv_astore_n (lv' := [(1, .ref (α2 (0))), (0, .ref (b))]) hx hb dL_law_21 rfl hl (by decide) rfl (fun ls hl => ?_)
  refine lv_aload_n hx hb dL_law_22 rfl (lv_at hl 0 rfl) ?_
  refine lv_iconst (v := 1) hx hb dL_law_23 (by decide) ?_
  refine mcallVw (rest := []) hw hC.1 rfl rfl ⟨hx, hb, hml, hown, hts⟩ hS (c_X3_addWorker hC wf00 1 (by decide) (by decide)) (cwV 1 hts gL_law_X3_addWorker rfl rfl rfl (by decide +kernel) ⟨Nat.le_of_ble_eq_true rfl, Nat.le_of_ble_eq_true rfl⟩) rfl hl.1 rfl (Nat.le_of_ble_eq_true rfl) dL_law_24 ⟨Nat.le_of_ble_eq_true rfl, Nat.le_of_ble_eq_true rfl⟩ (fun r9 V3 α3 H locs hq hw hS => ?_)
  obtain ⟨er, hC, hO⟩ := hq
  have hC : mC G V3 α3 (u2 f00 8 0 (nI 1)) 0 1 0 := hC
  have e3 : α3 0 = α2 0 := (hO 0 (by omega)).2
  obtain rfl : r9 = 0 := er.symm.trans (by decide)
  have hl : lv_has ls 5 [(1, .ref (α3 (0))), (0, .ref (b))] := by rw [e3]; exact hl
  refine lv_if_eq (tgt := 32) hx hb dL_law_27 (by decide) (fun _ => ?_) (fun z => absurd rfl z)
  refine lv_iconst (v := 0) hx hb dL_law_32 (by decide) ?_
  refine lv_istore_n (lv' := [(2, .int (0)), (1, .ref (α3 (0))), (0, .ref (b))]) hx hb dL_law_33 rfl hl (by decide) rfl (fun ls hl => ?_)
  exact law_loop hF hE 16 0 V3 α3 _ H locs ls _ _ (by decide) (by exact Nat.le_of_ble_eq_true rfl) (by exact Nat.le_of_ble_eq_true rfl) hC (wf_addW wf00 (by decide) (by decide)) ⟨fun r hr => by rcases (show r = 0 ∨ r = 1 ∨ r = 2 ∨ r = 3 by omega) with rfl | rfl | rfl | rfl <;> decide +kernel, fun j hj => by omega, fun j hj => by omega⟩ (lv_sub hl [2, 1, 0] rfl) hw hS
