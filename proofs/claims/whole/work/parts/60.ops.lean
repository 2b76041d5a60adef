/-! one step of the law, by its kind -/
section LX
variable {p : Program} {l : Launch} {e : Env} {R : Room} {s : State} {m : MethodId} {args : Array Value} {below : List Frame} {meth : Method} {c : Code} {H : Heap} {locs : List Loc} {cells slots : Nat} {Q : State → Prop} {cc : ByteArray} {pc : Nat} {ls : Array Slot} {rest : List Value}
theorem lv_lcmp0 (hexec : p.tables.exec = Jvm.exec) (hb : c.code = cc) {x y : Int64} (hxy : x = y) (hdg : decode cc pc = .ok (.lcmp, 1))
    (k : W p l e R s m args below meth c H locs cells slots Q (F0 m (pc + 1) ls (.int 0 :: rest))) : W p l e R s m args below meth c H locs cells slots Q (F0 m pc ls (.long x :: .long y :: rest)) := by
  subst hxy
  intro T hT X
  obtain ⟨t, a, b⟩ := k T hT X
  refine ⟨t, ?_, b⟩
  have h0 : ¬ x > x := Int64.lt_irrefl
  jvm_step X.here [X.here.top, hexec, hb, hdg, h0]
  exact a
theorem msld (hexec : p.tables.exec = Jvm.exec) (hb : c.code = cc) {A : Nat → Prop} {H0 : Heap} {b L : Nat} {xs : Nat → Int32} (hX : va_X b L xs s H0) (hbl : b < H0.size) (hbA : ¬ A b) (hS : va_S A H0 H locs) {i v : Int32} {k : Nat} (hi : i = nI k) (hk : k < L) (hL : L < 2 ^ 31) (hv : xs k = v) (hdg : decode cc pc = .ok (.iaload, 1))
    (kk : W p l e R s m args below meth c H locs cells slots Q (F0 m (pc + 1) ls (.int v :: rest))) : W p l e R s m args below meth c H locs cells slots Q (F0 m pc ls (.int i :: .ref b :: rest)) := by
  subst hi
  refine va_sld hexec hb hX hbl hbA hS (vp_in_nI hk hL) hdg ?_
  rw [nI_clamp (by omega), hv]
  exact kk
end LX
theorem mC.mvM {G : mG} {V V1 : mV} {α : Nat → Nat} {f : sT} {nr nw ns : Nat} (h : mC G V α f nr nw ns) (hV : ∀ j, ¬ (10 ≤ j ∧ j < 25) → V1 j = V j) : mC G V1 α f nr nw ns := by
  obtain ⟨k0, k1, k2, l3, l4, l5, cR, cW, cS, fR, fW, fS⟩ := h
  exact ⟨(hV _ (by omega)).trans k0, (hV _ (by omega)).trans k1, (hV _ (by omega)).trans k2, l3.keep (fun j hj => hV _ (by omega)), l4.keep (fun j hj => hV _ (by omega)), l5.keep (fun j hj => hV _ (by omega)),
    fun z hz => (hV _ (by omega)).trans (cR z hz), fun z hz => (hV _ (by omega)).trans (cW z hz), fun z hz => (hV _ (by omega)).trans (cS z hz), fun z h1 h2 => (hV _ (by omega)).trans (fR z h1 h2), fun z h1 h2 => (hV _ (by omega)).trans (fW z h1 h2), fun z h1 h2 => (hV _ (by omega)).trans (fS z h1 h2)⟩
theorem mM.mvC {G : mG} {V V1 : mV} {α α1 : Nat → Nat} {f : sT} {nr nw ns : Nat} {th : Int32} (h : mM G V α f nr nw ns th) (hV : ∀ j, 10 ≤ j → j < 25 → V1 j = V j) (hα : ∀ j, j < 100 → α1 j = α j) : mM G V1 α1 f nr nw ns th := by
  obtain ⟨h0, h1⟩ := h
  unfold mM mobj
  rw [hα 11 (by omega), hα 12 (by omega), hα 13 (by omega), hα 14 (by omega), hα 15 (by omega), hα 16 (by omega), hα 17 (by omega), hα 18 (by omega), hα 19 (by omega), hα 20 (by omega), hα 21 (by omega), hα 22 (by omega), hα 23 (by omega), hα 24 (by omega)]
  rw [hV 10 (by omega) (by omega), hV 11 (by omega) (by omega), hV 12 (by omega) (by omega), hV 13 (by omega) (by omega), hV 14 (by omega) (by omega), hV 15 (by omega) (by omega), hV 16 (by omega) (by omega), hV 17 (by omega) (by omega), hV 18 (by omega) (by omega), hV 19 (by omega) (by omega), hV 20 (by omega) (by omega), hV 21 (by omega) (by omega), hV 22 (by omega) (by omega), hV 23 (by omega) (by omega), hV 24 (by omega) (by omega)]
  exact ⟨h0, h1⟩
/-- the state that both sides keep -/
def mI (G : mG) (V : mV) (α : Nat → Nat) (f : sT) (nr nw ns : Nat) (th : Int32) : Prop := mC G V α f nr nw ns ∧ mM G V α f nr nw ns th ∧ mwf f nr nw ns ∧ ∃ g : Nat → Int64, V 9 = some (.inl (G.2.2.2.2.1, 1, .inr (.inl g)))
/-- the law's code, its words, the script -/
def mFix (p : Program) (l : Launch) (s : State) (m : MethodId) (args : Array Value) (c : Code) (G : mG) (b L : Nat) (xs : Nat → Int32) : Prop := l.stackTraces = false ∧ p.tables.exec = Jvm.exec ∧ c.code = cL_law ∧ c.maxLocals = 7 ∧ s.vm.findClass RL = some m.cls ∧ (∀ w ∈ wsL_law, w.before args s = true) ∧ va_X b L xs s s.heap ∧ b < s.heap.size ∧ ¬ mfree G b ∧ L ≤ 3072
theorem ixc {x c : Int32} {n : Nat} (hn : n < 2 ^ 31) (hc : c = nI n - 1) (h : inn x 0 c) : ∃ k, k < n ∧ x = nI k := ix_inn hn (hc ▸ h)
theorem in164 {x : Int32} (h : inn x 1 64) : ∃ n, 1 ≤ n ∧ n ≤ 64 ∧ x = nI n := by
  obtain ⟨k, hk, e⟩ := nI_of2 (x := x) (M := 64) (n := 64) (by decide) (fun q => h.1 (Int32.lt_trans q (by decide))) (Int32.not_lt.mp h.2)
  refine ⟨k, ?_, hk, e⟩
  by_cases c : k = 0
  · rw [e, c] at h
    exact absurd h (by decide +kernel)
  · omega
set_option maxHeartbeats 4000000 in
set_option maxRecDepth 100000 in
theorem op_setBase {p : Program} {l : Launch} {e : Env} {s : State} {m : MethodId} {args : Array Value} {below : List Frame} {meth : Method} {c : Code} {H : Heap} {locs : List Loc} {cells slots : Nat} {Q : State → Prop} {ls : Array Slot} {G : mG} {V : mV} {α : Nat → Nat} {f : sT} {nr nw ns : Nat} {th : Int32} {b L : Nat} {xs : Nat → Int32} {j : Nat} (hF : mFix p l s m args c G b L xs) (hj : j + 6 ≤ L) {x1 x2 x3 x4 x5 : Int32} (y1 : xs (j + 1) = x1) (y2 : xs (j + 2) = x2) (y3 : xs (j + 3) = x3) (y4 : xs (j + 4) = x4) (y5 : xs (j + 5) = x5) (hI : mI G V α f nr nw ns th) (hw : mW G V α s H) (hS : va_S (mfree G) s.heap H locs) (hc9 : cells + 2 ≤ 601024) (hs9 : slots + 210 ≤ 7293033) (hl : lv_has ls 7 [(4, .int (nI (j))), (0, .ref (b)), (1, .ref (α (0))), (2, .ref (α (10))), (3, .ref (α (9)))])
    (kk : ∀ (V1 : mV) (α1 : Nat → Nat) (f1 : sT) (nr1 nw1 ns1 : Nat) (th1 : Int32) (H1 : Heap) (locs1 : List Loc) (ls1 : Array Slot), mI G V1 α1 f1 nr1 nw1 ns1 th1 → mW G V1 α1 s H1 → va_S (mfree G) s.heap H1 locs1 → lv_has ls1 7 [(4, .int (nI (j))), (0, .ref (b)), (1, .ref (α1 (0))), (2, .ref (α1 (10))), (3, .ref (α1 (9)))] → W p l e room_1 s m args below meth c H1 locs1 (cells + 2) (slots + 210) Q (F0 m 1415 ls1 [])) : W p l e room_1 s m args below meth c H locs cells slots Q (F0 m 132 ls []) := by
  obtain ⟨hl0, hx, hb, hml, hown, hts, hX, hbl, hbA, hL⟩ := hF
  obtain ⟨hC, hM, hwf, g0, h9⟩ := hI
  obtain ⟨hnr, hnw, hns⟩ := hwf.1
  by_cases h : inn x1 0 3 ∧ inn x2 1 10000
  ·
    obtain ⟨k, hk, rfl⟩ := ixc (n := 4) (by decide) (by decide +kernel) h.1
    refine lv_aload_n hx hb dL_law_132 rfl (lv_at hl 2 rfl) ?_
    refine lv_aload_n hx hb dL_law_133 rfl (lv_at hl 1 rfl) ?_
    refine lv_iload hx hb dL_law_134 (lv_at hl 0 rfl) ?_
    refine lv_iconst (v := (1)) hx hb dL_law_136 (by decide) ?_
    refine lv_iadd hx hb dL_law_137 ?_
    refine msld (v := nI (k)) (k := j + 1) hx hb hX hbl hbA hS (nI_add j 1) (by omega) (by omega) (y1) dL_law_138 ?_
    refine lv_aload_n hx hb dL_law_139 rfl (lv_at hl 1 rfl) ?_
    refine lv_iload hx hb dL_law_140 (lv_at hl 0 rfl) ?_
    refine lv_iconst (v := (2)) hx hb dL_law_142 (by decide) ?_
    refine lv_iadd hx hb dL_law_143 ?_
    refine msld (v := x2) (k := j + 2) hx hb hX hbl hbA hS (nI_add j 2) (by omega) (by omega) (y2) dL_law_144 ?_
    refine lv_aload_n hx hb dL_law_145 rfl (lv_at hl 4 rfl) ?_
    refine mcallSWi hw ⟨hx, hb, hml, hown, hts⟩ hS (w_X3_setBase hC hwf k hk x2 h.2 h9) (vx_cwSW 4 hts gL_law_L_setBase rfl rfl rfl (by decide +kernel) ⟨Nat.le_of_ble_eq_true rfl, Nat.le_of_ble_eq_true rfl⟩) rfl hl.1 rfl (Nat.le_of_ble_eq_true rfl) dL_law_146 ⟨(by show cells + 0 ≤ 601024; omega), (by show slots + 0 ≤ 7293033; omega)⟩ (fun r9 V1 α1 H locs hq hw hS => ?_)
    obtain ⟨er, hC1, hO, g1, h91, hg1⟩ := hq
    dsimp only at hC1 hO h91
    subst er
    have hl : lv_has ls 7 [(4, .int (nI (j))), (0, .ref (b)), (1, .ref (α1 (0))), (2, .ref (α1 (10))), (3, .ref (α1 (9)))] := by rw [(hO 0 (by omega)).2, (hO 10 (by omega)).2, (hO 9 (by omega)).2]; exact hl
    have hM1 := hM.mvC (fun j h1 h2 => (hO j (by omega)).1 h1) (fun j hj => (hO j hj).2)
    refine lv_istore (lv' := [(5, .int (0)), (4, .int (nI (j))), (0, .ref (b)), (1, .ref (α1 (0))), (2, .ref (α1 (10))), (3, .ref (α1 (9)))]) hx hb dL_law_149 hl (by decide) rfl (fun ls hl => ?_)
    refine lv_aload_n hx hb dL_law_151 rfl (lv_at hl 4 rfl) ?_
    refine lv_aload_n hx hb dL_law_152 rfl (lv_at hl 2 rfl) ?_
    refine lv_iload hx hb dL_law_153 (lv_at hl 1 rfl) ?_
    refine lv_iconst (v := (1)) hx hb dL_law_155 (by decide) ?_
    refine lv_iadd hx hb dL_law_156 ?_
    refine msld (v := nI (k)) (k := j + 1) hx hb hX hbl hbA hS (nI_add j 1) (by omega) (by omega) (y1) dL_law_157 ?_
    refine lv_aload_n hx hb dL_law_158 rfl (lv_at hl 2 rfl) ?_
    refine lv_iload hx hb dL_law_159 (lv_at hl 1 rfl) ?_
    refine lv_iconst (v := (2)) hx hb dL_law_161 (by decide) ?_
    refine lv_iadd hx hb dL_law_162 ?_
    refine msld (v := x2) (k := j + 2) hx hb hX hbl hbA hS (nI_add j 2) (by omega) (by omega) (y2) dL_law_163 ?_
    refine mcallVw hw hM1.1 rfl rfl ⟨hx, hb, hml, hown, hts⟩ hS (c_X4_setBase hM1 k hk x2 h.2) (cwV 2 hts gL_law_X4_setBase rfl rfl rfl (by decide +kernel) ⟨Nat.le_of_ble_eq_true rfl, Nat.le_of_ble_eq_true rfl⟩) rfl hl.1 rfl (Nat.le_of_ble_eq_true rfl) dL_law_164 ⟨(by show cells + 0 + 0 ≤ 601024; omega), (by show slots + 0 + 0 ≤ 7293033; omega)⟩ (fun r8 V2 α2 H locs hq hw hS => ?_)
    obtain ⟨er, hM2, hP, eα⟩ := hq
    dsimp only at hM2 hP eα
    subst er
    subst eα
    have hC2 := hC1.mvM (fun j hj => hP j hj)
    have h92 := (hP 9 (by omega)).trans h91
    refine lv_istore (lv' := [(6, .int (f 0 k)), (5, .int (0)), (4, .int (nI (j))), (0, .ref (b)), (1, .ref (α1 (0))), (2, .ref (α1 (10))), (3, .ref (α1 (9)))]) hx hb dL_law_167 hl (by decide) rfl (fun ls hl => ?_)
    refine lv_aload_n hx hb dL_law_169 rfl (lv_at hl 5 rfl) ?_
    refine mcallVi hw hM2.1 rfl rfl ⟨hx, hb, hml, hown, hts⟩ (c_X4_thrown hM2) (cwV 0 hts gL_law_X4_thrown rfl rfl rfl (by decide +kernel) ⟨Nat.le_of_ble_eq_true rfl, Nat.le_of_ble_eq_true rfl⟩) rfl hl.1 rfl (Nat.le_of_ble_eq_true rfl) dL_law_170 ⟨(by show cells + 0 + 0 + 0 ≤ 601024; omega), (by show slots + 0 + 0 + 0 ≤ 7293033; omega)⟩ ?_
    refine lv_iload hx hb dL_law_173 (lv_at hl 1 rfl) ?_
    refine lv_icmp_eq (tgt := 180) hx hb dL_law_175 (by decide) (fun c1 => ?_) (fun z => absurd ((by decide)) z)
    refine lv_iload hx hb dL_law_180 (lv_at hl 1 rfl) ?_
    refine lv_if_ne (tgt := 197) hx hb dL_law_182 (by decide) (fun z => absurd ((by decide)) z) (fun c2 => ?_)
    refine lv_aload_n hx hb dL_law_185 rfl (lv_at hl 6 rfl) ?_
    refine lv_iconst (v := (0)) hx hb dL_law_186 (by decide) ?_
    refine mlald' (k := 0) hx hb hw h92 rfl (by omega) (by decide) dL_law_187 ?_
    refine lv_iload hx hb dL_law_188 (lv_at hl 0 rfl) ?_
    refine lv_i2l (v := (f 0 k).toInt64) hx hb dL_law_190 rfl ?_
    refine lv_lcmp0 hx hb (hg1.symm) dL_law_191 ?_
    refine lv_if_eq (tgt := 197) hx hb dL_law_192 (by decide) (fun c3 => ?_) (fun z => absurd ((by decide)) z)
    refine lv_goto (tgt := 1415) hx hb dL_law_197 (by decide) ?_
    refine W.widen (k := cells + 2) (n := slots + 210) (by omega) (by omega) ?_
    exact kk V2 α1 (u2 f 0 k x2) nr nw ns 0 H locs ls ⟨hC2, hM2, wf_base hwf k x2, ⟨_, h92⟩⟩ hw hS ⟨hl.1, hl.2.1, fun q hq => hl.2.2 q (List.mem_cons_of_mem _ (List.mem_cons_of_mem _ hq))⟩
  ·
    refine lv_aload_n hx hb dL_law_132 rfl (lv_at hl 2 rfl) ?_
    refine lv_aload_n hx hb dL_law_133 rfl (lv_at hl 1 rfl) ?_
    refine lv_iload hx hb dL_law_134 (lv_at hl 0 rfl) ?_
    refine lv_iconst (v := (1)) hx hb dL_law_136 (by decide) ?_
    refine lv_iadd hx hb dL_law_137 ?_
    refine msld (v := x1) (k := j + 1) hx hb hX hbl hbA hS (nI_add j 1) (by omega) (by omega) (y1) dL_law_138 ?_
    refine lv_aload_n hx hb dL_law_139 rfl (lv_at hl 1 rfl) ?_
    refine lv_iload hx hb dL_law_140 (lv_at hl 0 rfl) ?_
    refine lv_iconst (v := (2)) hx hb dL_law_142 (by decide) ?_
    refine lv_iadd hx hb dL_law_143 ?_
    refine msld (v := x2) (k := j + 2) hx hb hX hbl hbA hS (nI_add j 2) (by omega) (by omega) (y2) dL_law_144 ?_
    refine lv_aload_n hx hb dL_law_145 rfl (lv_at hl 4 rfl) ?_
    refine mcallSWi hw ⟨hx, hb, hml, hown, hts⟩ hS (x_X3_setBase hl0 hC hwf x1 x2 h) (vx_cwSW 4 hts gL_law_L_setBase rfl rfl rfl (by decide +kernel) ⟨Nat.le_of_ble_eq_true rfl, Nat.le_of_ble_eq_true rfl⟩) rfl hl.1 rfl (Nat.le_of_ble_eq_true rfl) dL_law_146 ⟨(by show cells + 1 ≤ 601024; omega), (by show slots + 6 ≤ 7293033; omega)⟩ (fun r9 V1 α1 H locs hq hw hS => ?_)
    obtain ⟨er, eu⟩ := hq
    subst er
    have e1 : V1 = V := congrArg Prod.fst eu
    have e2 : α1 = α := congrArg Prod.snd eu
    have hC1 : mC G V1 α1 f nr nw ns := by rw [e1, e2]; exact hC
    have h91 : V1 9 = _ := (congrFun e1 9).trans h9
    have hO : ∀ j, j < 100 → (10 ≤ j → V1 j = V j) ∧ α1 j = α j := fun j _ => ⟨fun _ => congrFun e1 j, congrFun e2 j⟩
    have hl : lv_has ls 7 [(4, .int (nI (j))), (0, .ref (b)), (1, .ref (α1 (0))), (2, .ref (α1 (10))), (3, .ref (α1 (9)))] := by rw [(hO 0 (by omega)).2, (hO 10 (by omega)).2, (hO 9 (by omega)).2]; exact hl
    have hM1 := hM.mvC (fun j h1 h2 => (hO j (by omega)).1 h1) (fun j hj => (hO j hj).2)
    refine lv_istore (lv' := [(5, .int (1)), (4, .int (nI (j))), (0, .ref (b)), (1, .ref (α1 (0))), (2, .ref (α1 (10))), (3, .ref (α1 (9)))]) hx hb dL_law_149 hl (by decide) rfl (fun ls hl => ?_)
    refine lv_aload_n hx hb dL_law_151 rfl (lv_at hl 4 rfl) ?_
    refine lv_aload_n hx hb dL_law_152 rfl (lv_at hl 2 rfl) ?_
    refine lv_iload hx hb dL_law_153 (lv_at hl 1 rfl) ?_
    refine lv_iconst (v := (1)) hx hb dL_law_155 (by decide) ?_
    refine lv_iadd hx hb dL_law_156 ?_
    refine msld (v := x1) (k := j + 1) hx hb hX hbl hbA hS (nI_add j 1) (by omega) (by omega) (y1) dL_law_157 ?_
    refine lv_aload_n hx hb dL_law_158 rfl (lv_at hl 2 rfl) ?_
    refine lv_iload hx hb dL_law_159 (lv_at hl 1 rfl) ?_
    refine lv_iconst (v := (2)) hx hb dL_law_161 (by decide) ?_
    refine lv_iadd hx hb dL_law_162 ?_
    refine msld (v := x2) (k := j + 2) hx hb hX hbl hbA hS (nI_add j 2) (by omega) (by omega) (y2) dL_law_163 ?_
    refine mcallVw hw hM1.1 rfl rfl ⟨hx, hb, hml, hown, hts⟩ hS (c_X4_setBase_1 hM1 x1 x2 h) (cwV 2 hts gL_law_X4_setBase rfl rfl rfl (by decide +kernel) ⟨Nat.le_of_ble_eq_true rfl, Nat.le_of_ble_eq_true rfl⟩) rfl hl.1 rfl (Nat.le_of_ble_eq_true rfl) dL_law_164 ⟨(by show cells + 1 + 0 ≤ 601024; omega), (by show slots + 6 + 0 ≤ 7293033; omega)⟩ (fun r8 V2 α2 H locs hq hw hS => ?_)
    obtain ⟨er, hM2, hP, eα⟩ := hq
    dsimp only at hM2 hP eα
    subst er
    subst eα
    have hC2 := hC1.mvM (fun j hj => hP j hj)
    have h92 := (hP 9 (by omega)).trans h91
    refine lv_istore (lv' := [(6, .int (0)), (5, .int (1)), (4, .int (nI (j))), (0, .ref (b)), (1, .ref (α1 (0))), (2, .ref (α1 (10))), (3, .ref (α1 (9)))]) hx hb dL_law_167 hl (by decide) rfl (fun ls hl => ?_)
    refine lv_aload_n hx hb dL_law_169 rfl (lv_at hl 5 rfl) ?_
    refine mcallVi hw hM2.1 rfl rfl ⟨hx, hb, hml, hown, hts⟩ (c_X4_thrown hM2) (cwV 0 hts gL_law_X4_thrown rfl rfl rfl (by decide +kernel) ⟨Nat.le_of_ble_eq_true rfl, Nat.le_of_ble_eq_true rfl⟩) rfl hl.1 rfl (Nat.le_of_ble_eq_true rfl) dL_law_170 ⟨(by show cells + 1 + 0 + 0 ≤ 601024; omega), (by show slots + 6 + 0 + 0 ≤ 7293033; omega)⟩ ?_
    refine lv_iload hx hb dL_law_173 (lv_at hl 1 rfl) ?_
    refine lv_icmp_eq (tgt := 180) hx hb dL_law_175 (by decide) (fun c4 => ?_) (fun z => absurd ((by decide)) z)
    refine lv_iload hx hb dL_law_180 (lv_at hl 1 rfl) ?_
    refine lv_if_ne (tgt := 197) hx hb dL_law_182 (by decide) (fun c5 => ?_) (fun z => absurd z ((by decide)))
    refine lv_goto (tgt := 1415) hx hb dL_law_197 (by decide) ?_
    refine W.widen (k := cells + 2) (n := slots + 210) (by omega) (by omega) ?_
    exact kk V2 α1 (f) nr nw ns 1 H locs ls ⟨hC2, hM2, hwf, ⟨_, h92⟩⟩ hw hS ⟨hl.1, hl.2.1, fun q hq => hl.2.2 q (List.mem_cons_of_mem _ (List.mem_cons_of_mem _ hq))⟩

set_option maxHeartbeats 4000000 in
set_option maxRecDepth 100000 in
theorem op_addRule {p : Program} {l : Launch} {e : Env} {s : State} {m : MethodId} {args : Array Value} {below : List Frame} {meth : Method} {c : Code} {H : Heap} {locs : List Loc} {cells slots : Nat} {Q : State → Prop} {ls : Array Slot} {G : mG} {V : mV} {α : Nat → Nat} {f : sT} {nr nw ns : Nat} {th : Int32} {b L : Nat} {xs : Nat → Int32} {j : Nat} (hF : mFix p l s m args c G b L xs) (hj : j + 6 ≤ L) {x1 x2 x3 x4 x5 : Int32} (y1 : xs (j + 1) = x1) (y2 : xs (j + 2) = x2) (y3 : xs (j + 3) = x3) (y4 : xs (j + 4) = x4) (y5 : xs (j + 5) = x5) (hI : mI G V α f nr nw ns th) (hw : mW G V α s H) (hS : va_S (mfree G) s.heap H locs) (hc9 : cells + 2 ≤ 601024) (hs9 : slots + 210 ≤ 7293033) (hl : lv_has ls 7 [(4, .int (nI (j))), (0, .ref (b)), (1, .ref (α (0))), (2, .ref (α (10))), (3, .ref (α (9)))])
    (kk : ∀ (V1 : mV) (α1 : Nat → Nat) (f1 : sT) (nr1 nw1 ns1 : Nat) (th1 : Int32) (H1 : Heap) (locs1 : List Loc) (ls1 : Array Slot), mI G V1 α1 f1 nr1 nw1 ns1 th1 → mW G V1 α1 s H1 → va_S (mfree G) s.heap H1 locs1 → lv_has ls1 7 [(4, .int (nI (j))), (0, .ref (b)), (1, .ref (α1 (0))), (2, .ref (α1 (10))), (3, .ref (α1 (9)))] → W p l e room_1 s m args below meth c H1 locs1 (cells + 2) (slots + 210) Q (F0 m 1415 ls1 [])) : W p l e room_1 s m args below meth c H locs cells slots Q (F0 m 200 ls []) := by
  obtain ⟨hl0, hx, hb, hml, hown, hts, hX, hbl, hbA, hL⟩ := hF
  obtain ⟨hC, hM, hwf, g0, h9⟩ := hI
  obtain ⟨hnr, hnw, hns⟩ := hwf.1
  by_cases h : inn x1 0 127 ∧ inn x2 0 95 ∧ inn x3 (x2 + 1) 96 ∧ inn x4 1 15 ∧ inn x5 100 400
  ·
    by_cases h2 : nr < 16
    ·
      refine lv_aload_n hx hb dL_law_200 rfl (lv_at hl 2 rfl) ?_
      refine lv_aload_n hx hb dL_law_201 rfl (lv_at hl 1 rfl) ?_
      refine lv_iload hx hb dL_law_202 (lv_at hl 0 rfl) ?_
      refine lv_iconst (v := (1)) hx hb dL_law_204 (by decide) ?_
      refine lv_iadd hx hb dL_law_205 ?_
      refine msld (v := x1) (k := j + 1) hx hb hX hbl hbA hS (nI_add j 1) (by omega) (by omega) (y1) dL_law_206 ?_
      refine lv_aload_n hx hb dL_law_207 rfl (lv_at hl 1 rfl) ?_
      refine lv_iload hx hb dL_law_208 (lv_at hl 0 rfl) ?_
      refine lv_iconst (v := (2)) hx hb dL_law_210 (by decide) ?_
      refine lv_iadd hx hb dL_law_211 ?_
      refine msld (v := x2) (k := j + 2) hx hb hX hbl hbA hS (nI_add j 2) (by omega) (by omega) (y2) dL_law_212 ?_
      refine lv_aload_n hx hb dL_law_213 rfl (lv_at hl 1 rfl) ?_
      refine lv_iload hx hb dL_law_214 (lv_at hl 0 rfl) ?_
      refine lv_iconst (v := (3)) hx hb dL_law_216 (by decide) ?_
      refine lv_iadd hx hb dL_law_217 ?_
      refine msld (v := x3) (k := j + 3) hx hb hX hbl hbA hS (nI_add j 3) (by omega) (by omega) (y3) dL_law_218 ?_
      refine lv_aload_n hx hb dL_law_219 rfl (lv_at hl 1 rfl) ?_
      refine lv_iload hx hb dL_law_220 (lv_at hl 0 rfl) ?_
      refine lv_iconst (v := (4)) hx hb dL_law_222 (by decide) ?_
      refine lv_iadd hx hb dL_law_223 ?_
      refine msld (v := x4) (k := j + 4) hx hb hX hbl hbA hS (nI_add j 4) (by omega) (by omega) (y4) dL_law_224 ?_
      refine lv_aload_n hx hb dL_law_225 rfl (lv_at hl 1 rfl) ?_
      refine lv_iload hx hb dL_law_226 (lv_at hl 0 rfl) ?_
      refine lv_iconst (v := (5)) hx hb dL_law_228 (by decide) ?_
      refine lv_iadd hx hb dL_law_229 ?_
      refine msld (v := x5) (k := j + 5) hx hb hX hbl hbA hS (nI_add j 5) (by omega) (by omega) (y5) dL_law_230 ?_
      refine lv_aload_n hx hb dL_law_231 rfl (lv_at hl 4 rfl) ?_
      refine mcallSWi hw ⟨hx, hb, hml, hown, hts⟩ hS (w_X3_addRule hC hwf x1 x2 x3 x4 x5 h.1 h.2.1 h.2.2.1 h.2.2.2.1 h.2.2.2.2 h2 h9) (vx_cwSW 7 hts gL_law_L_addRule rfl rfl rfl (by decide +kernel) ⟨Nat.le_of_ble_eq_true rfl, Nat.le_of_ble_eq_true rfl⟩) rfl hl.1 rfl (Nat.le_of_ble_eq_true rfl) dL_law_232 ⟨(by show cells + 2 ≤ 601024; omega), (by show slots + 210 ≤ 7293033; omega)⟩ (fun r9 V1 α1 H locs hq hw hS => ?_)
      obtain ⟨er, hC1, hO, g1, h91, hg1⟩ := hq
      dsimp only at hC1 hO h91
      subst er
      have hl : lv_has ls 7 [(4, .int (nI (j))), (0, .ref (b)), (1, .ref (α1 (0))), (2, .ref (α1 (10))), (3, .ref (α1 (9)))] := by rw [(hO 0 (by omega)).2, (hO 10 (by omega)).2, (hO 9 (by omega)).2]; exact hl
      have hM1 := hM.mvC (fun j h1 h2 => (hO j (by omega)).1 h1) (fun j hj => (hO j hj).2)
      refine lv_istore (lv' := [(5, .int (0)), (4, .int (nI (j))), (0, .ref (b)), (1, .ref (α1 (0))), (2, .ref (α1 (10))), (3, .ref (α1 (9)))]) hx hb dL_law_235 hl (by decide) rfl (fun ls hl => ?_)
      refine lv_aload_n hx hb dL_law_237 rfl (lv_at hl 4 rfl) ?_
      refine lv_aload_n hx hb dL_law_238 rfl (lv_at hl 2 rfl) ?_
      refine lv_iload hx hb dL_law_239 (lv_at hl 1 rfl) ?_
      refine lv_iconst (v := (1)) hx hb dL_law_241 (by decide) ?_
      refine lv_iadd hx hb dL_law_242 ?_
      refine msld (v := x1) (k := j + 1) hx hb hX hbl hbA hS (nI_add j 1) (by omega) (by omega) (y1) dL_law_243 ?_
      refine lv_aload_n hx hb dL_law_244 rfl (lv_at hl 2 rfl) ?_
      refine lv_iload hx hb dL_law_245 (lv_at hl 1 rfl) ?_
      refine lv_iconst (v := (2)) hx hb dL_law_247 (by decide) ?_
      refine lv_iadd hx hb dL_law_248 ?_
      refine msld (v := x2) (k := j + 2) hx hb hX hbl hbA hS (nI_add j 2) (by omega) (by omega) (y2) dL_law_249 ?_
      refine lv_aload_n hx hb dL_law_250 rfl (lv_at hl 2 rfl) ?_
      refine lv_iload hx hb dL_law_251 (lv_at hl 1 rfl) ?_
      refine lv_iconst (v := (3)) hx hb dL_law_253 (by decide) ?_
      refine lv_iadd hx hb dL_law_254 ?_
      refine msld (v := x3) (k := j + 3) hx hb hX hbl hbA hS (nI_add j 3) (by omega) (by omega) (y3) dL_law_255 ?_
      refine lv_aload_n hx hb dL_law_256 rfl (lv_at hl 2 rfl) ?_
      refine lv_iload hx hb dL_law_257 (lv_at hl 1 rfl) ?_
      refine lv_iconst (v := (4)) hx hb dL_law_259 (by decide) ?_
      refine lv_iadd hx hb dL_law_260 ?_
      refine msld (v := x4) (k := j + 4) hx hb hX hbl hbA hS (nI_add j 4) (by omega) (by omega) (y4) dL_law_261 ?_
      refine lv_aload_n hx hb dL_law_262 rfl (lv_at hl 2 rfl) ?_
      refine lv_iload hx hb dL_law_263 (lv_at hl 1 rfl) ?_
      refine lv_iconst (v := (5)) hx hb dL_law_265 (by decide) ?_
      refine lv_iadd hx hb dL_law_266 ?_
      refine msld (v := x5) (k := j + 5) hx hb hX hbl hbA hS (nI_add j 5) (by omega) (by omega) (y5) dL_law_267 ?_
      refine mcallVw hw hM1.1 rfl rfl ⟨hx, hb, hml, hown, hts⟩ hS (c_X4_addRule hM1 x1 x2 x3 x4 x5 h.1 h.2.1 h.2.2.1 h.2.2.2.1 h.2.2.2.2 h2) (cwV 5 hts gL_law_X4_addRule rfl rfl rfl (by decide +kernel) ⟨Nat.le_of_ble_eq_true rfl, Nat.le_of_ble_eq_true rfl⟩) rfl hl.1 rfl (Nat.le_of_ble_eq_true rfl) dL_law_268 ⟨(by show cells + 2 + 0 ≤ 601024; omega), (by show slots + 210 + 0 ≤ 7293033; omega)⟩ (fun r8 V2 α2 H locs hq hw hS => ?_)
      obtain ⟨er, hM2, hP, eα⟩ := hq
      dsimp only at hM2 hP eα
      subst er
      subst eα
      have hC2 := hC1.mvM (fun j hj => hP j hj)
      have h92 := (hP 9 (by omega)).trans h91
      refine lv_istore (lv' := [(6, .int (nI nr)), (5, .int (0)), (4, .int (nI (j))), (0, .ref (b)), (1, .ref (α1 (0))), (2, .ref (α1 (10))), (3, .ref (α1 (9)))]) hx hb dL_law_271 hl (by decide) rfl (fun ls hl => ?_)
      refine lv_aload_n hx hb dL_law_273 rfl (lv_at hl 5 rfl) ?_
      refine mcallVi hw hM2.1 rfl rfl ⟨hx, hb, hml, hown, hts⟩ (c_X4_thrown hM2) (cwV 0 hts gL_law_X4_thrown rfl rfl rfl (by decide +kernel) ⟨Nat.le_of_ble_eq_true rfl, Nat.le_of_ble_eq_true rfl⟩) rfl hl.1 rfl (Nat.le_of_ble_eq_true rfl) dL_law_274 ⟨(by show cells + 2 + 0 + 0 ≤ 601024; omega), (by show slots + 210 + 0 + 0 ≤ 7293033; omega)⟩ ?_
      refine lv_iload hx hb dL_law_277 (lv_at hl 1 rfl) ?_
      refine lv_icmp_eq (tgt := 284) hx hb dL_law_279 (by decide) (fun c1 => ?_) (fun z => absurd ((by decide)) z)
      refine lv_iload hx hb dL_law_284 (lv_at hl 1 rfl) ?_
      refine lv_if_ne (tgt := 301) hx hb dL_law_286 (by decide) (fun z => absurd ((by decide)) z) (fun c2 => ?_)
      refine lv_aload_n hx hb dL_law_289 rfl (lv_at hl 6 rfl) ?_
      refine lv_iconst (v := (0)) hx hb dL_law_290 (by decide) ?_
      refine mlald' (k := 0) hx hb hw h92 rfl (by omega) (by decide) dL_law_291 ?_
      refine lv_iload hx hb dL_law_292 (lv_at hl 0 rfl) ?_
      refine lv_i2l (v := (nI nr).toInt64) hx hb dL_law_294 rfl ?_
      refine lv_lcmp0 hx hb (hg1.symm) dL_law_295 ?_
      refine lv_if_eq (tgt := 301) hx hb dL_law_296 (by decide) (fun c3 => ?_) (fun z => absurd ((by decide)) z)
      refine lv_goto (tgt := 1415) hx hb dL_law_301 (by decide) ?_
      refine W.widen (k := cells + 2) (n := slots + 210) (by omega) (by omega) ?_
      exact kk V2 α1 (u2 (u2 (u2 (u2 (u2 f 1 nr x1) 2 nr x2) 3 nr x3) 4 nr x4) 5 nr x5) (nr + 1) nw ns 0 H locs ls ⟨hC2, hM2, wf_addR hwf h2 x1 x2 x3 x4 x5, ⟨_, h92⟩⟩ hw hS ⟨hl.1, hl.2.1, fun q hq => hl.2.2 q (List.mem_cons_of_mem _ (List.mem_cons_of_mem _ hq))⟩
    ·
      refine lv_aload_n hx hb dL_law_200 rfl (lv_at hl 2 rfl) ?_
      refine lv_aload_n hx hb dL_law_201 rfl (lv_at hl 1 rfl) ?_
      refine lv_iload hx hb dL_law_202 (lv_at hl 0 rfl) ?_
      refine lv_iconst (v := (1)) hx hb dL_law_204 (by decide) ?_
      refine lv_iadd hx hb dL_law_205 ?_
      refine msld (v := x1) (k := j + 1) hx hb hX hbl hbA hS (nI_add j 1) (by omega) (by omega) (y1) dL_law_206 ?_
      refine lv_aload_n hx hb dL_law_207 rfl (lv_at hl 1 rfl) ?_
      refine lv_iload hx hb dL_law_208 (lv_at hl 0 rfl) ?_
      refine lv_iconst (v := (2)) hx hb dL_law_210 (by decide) ?_
      refine lv_iadd hx hb dL_law_211 ?_
      refine msld (v := x2) (k := j + 2) hx hb hX hbl hbA hS (nI_add j 2) (by omega) (by omega) (y2) dL_law_212 ?_
      refine lv_aload_n hx hb dL_law_213 rfl (lv_at hl 1 rfl) ?_
      refine lv_iload hx hb dL_law_214 (lv_at hl 0 rfl) ?_
      refine lv_iconst (v := (3)) hx hb dL_law_216 (by decide) ?_
      refine lv_iadd hx hb dL_law_217 ?_
      refine msld (v := x3) (k := j + 3) hx hb hX hbl hbA hS (nI_add j 3) (by omega) (by omega) (y3) dL_law_218 ?_
      refine lv_aload_n hx hb dL_law_219 rfl (lv_at hl 1 rfl) ?_
      refine lv_iload hx hb dL_law_220 (lv_at hl 0 rfl) ?_
      refine lv_iconst (v := (4)) hx hb dL_law_222 (by decide) ?_
      refine lv_iadd hx hb dL_law_223 ?_
      refine msld (v := x4) (k := j + 4) hx hb hX hbl hbA hS (nI_add j 4) (by omega) (by omega) (y4) dL_law_224 ?_
      refine lv_aload_n hx hb dL_law_225 rfl (lv_at hl 1 rfl) ?_
      refine lv_iload hx hb dL_law_226 (lv_at hl 0 rfl) ?_
      refine lv_iconst (v := (5)) hx hb dL_law_228 (by decide) ?_
      refine lv_iadd hx hb dL_law_229 ?_
      refine msld (v := x5) (k := j + 5) hx hb hX hbl hbA hS (nI_add j 5) (by omega) (by omega) (y5) dL_law_230 ?_
      refine lv_aload_n hx hb dL_law_231 rfl (lv_at hl 4 rfl) ?_
      refine mcallSWi hw ⟨hx, hb, hml, hown, hts⟩ hS (x_X3_addRule_2 hl0 hC hwf x1 x2 x3 x4 x5 h.1 h.2.1 h.2.2.1 h.2.2.2.1 h.2.2.2.2 (by omega)) (vx_cwSW 7 hts gL_law_L_addRule rfl rfl rfl (by decide +kernel) ⟨Nat.le_of_ble_eq_true rfl, Nat.le_of_ble_eq_true rfl⟩) rfl hl.1 rfl (Nat.le_of_ble_eq_true rfl) dL_law_232 ⟨(by show cells + 1 ≤ 601024; omega), (by show slots + 6 ≤ 7293033; omega)⟩ (fun r9 V1 α1 H locs hq hw hS => ?_)
      obtain ⟨er, eu⟩ := hq
      subst er
      have e1 : V1 = V := congrArg Prod.fst eu
      have e2 : α1 = α := congrArg Prod.snd eu
      have hC1 : mC G V1 α1 f nr nw ns := by rw [e1, e2]; exact hC
      have h91 : V1 9 = _ := (congrFun e1 9).trans h9
      have hO : ∀ j, j < 100 → (10 ≤ j → V1 j = V j) ∧ α1 j = α j := fun j _ => ⟨fun _ => congrFun e1 j, congrFun e2 j⟩
      have hl : lv_has ls 7 [(4, .int (nI (j))), (0, .ref (b)), (1, .ref (α1 (0))), (2, .ref (α1 (10))), (3, .ref (α1 (9)))] := by rw [(hO 0 (by omega)).2, (hO 10 (by omega)).2, (hO 9 (by omega)).2]; exact hl
      have hM1 := hM.mvC (fun j h1 h2 => (hO j (by omega)).1 h1) (fun j hj => (hO j hj).2)
      refine lv_istore (lv' := [(5, .int (2)), (4, .int (nI (j))), (0, .ref (b)), (1, .ref (α1 (0))), (2, .ref (α1 (10))), (3, .ref (α1 (9)))]) hx hb dL_law_235 hl (by decide) rfl (fun ls hl => ?_)
      refine lv_aload_n hx hb dL_law_237 rfl (lv_at hl 4 rfl) ?_
      refine lv_aload_n hx hb dL_law_238 rfl (lv_at hl 2 rfl) ?_
      refine lv_iload hx hb dL_law_239 (lv_at hl 1 rfl) ?_
      refine lv_iconst (v := (1)) hx hb dL_law_241 (by decide) ?_
      refine lv_iadd hx hb dL_law_242 ?_
      refine msld (v := x1) (k := j + 1) hx hb hX hbl hbA hS (nI_add j 1) (by omega) (by omega) (y1) dL_law_243 ?_
      refine lv_aload_n hx hb dL_law_244 rfl (lv_at hl 2 rfl) ?_
      refine lv_iload hx hb dL_law_245 (lv_at hl 1 rfl) ?_
      refine lv_iconst (v := (2)) hx hb dL_law_247 (by decide) ?_
      refine lv_iadd hx hb dL_law_248 ?_
      refine msld (v := x2) (k := j + 2) hx hb hX hbl hbA hS (nI_add j 2) (by omega) (by omega) (y2) dL_law_249 ?_
      refine lv_aload_n hx hb dL_law_250 rfl (lv_at hl 2 rfl) ?_
      refine lv_iload hx hb dL_law_251 (lv_at hl 1 rfl) ?_
      refine lv_iconst (v := (3)) hx hb dL_law_253 (by decide) ?_
      refine lv_iadd hx hb dL_law_254 ?_
      refine msld (v := x3) (k := j + 3) hx hb hX hbl hbA hS (nI_add j 3) (by omega) (by omega) (y3) dL_law_255 ?_
      refine lv_aload_n hx hb dL_law_256 rfl (lv_at hl 2 rfl) ?_
      refine lv_iload hx hb dL_law_257 (lv_at hl 1 rfl) ?_
      refine lv_iconst (v := (4)) hx hb dL_law_259 (by decide) ?_
      refine lv_iadd hx hb dL_law_260 ?_
      refine msld (v := x4) (k := j + 4) hx hb hX hbl hbA hS (nI_add j 4) (by omega) (by omega) (y4) dL_law_261 ?_
      refine lv_aload_n hx hb dL_law_262 rfl (lv_at hl 2 rfl) ?_
      refine lv_iload hx hb dL_law_263 (lv_at hl 1 rfl) ?_
      refine lv_iconst (v := (5)) hx hb dL_law_265 (by decide) ?_
      refine lv_iadd hx hb dL_law_266 ?_
      refine msld (v := x5) (k := j + 5) hx hb hX hbl hbA hS (nI_add j 5) (by omega) (by omega) (y5) dL_law_267 ?_
      refine mcallVw hw hM1.1 rfl rfl ⟨hx, hb, hml, hown, hts⟩ hS (c_X4_addRule_2 hM1 x1 x2 x3 x4 x5 h.1 h.2.1 h.2.2.1 h.2.2.2.1 h.2.2.2.2 (by omega)) (cwV 5 hts gL_law_X4_addRule rfl rfl rfl (by decide +kernel) ⟨Nat.le_of_ble_eq_true rfl, Nat.le_of_ble_eq_true rfl⟩) rfl hl.1 rfl (Nat.le_of_ble_eq_true rfl) dL_law_268 ⟨(by show cells + 1 + 0 ≤ 601024; omega), (by show slots + 6 + 0 ≤ 7293033; omega)⟩ (fun r8 V2 α2 H locs hq hw hS => ?_)
      obtain ⟨er, hM2, hP, eα⟩ := hq
      dsimp only at hM2 hP eα
      subst er
      subst eα
      have hC2 := hC1.mvM (fun j hj => hP j hj)
      have h92 := (hP 9 (by omega)).trans h91
      refine lv_istore (lv' := [(6, .int (0)), (5, .int (2)), (4, .int (nI (j))), (0, .ref (b)), (1, .ref (α1 (0))), (2, .ref (α1 (10))), (3, .ref (α1 (9)))]) hx hb dL_law_271 hl (by decide) rfl (fun ls hl => ?_)
      refine lv_aload_n hx hb dL_law_273 rfl (lv_at hl 5 rfl) ?_
      refine mcallVi hw hM2.1 rfl rfl ⟨hx, hb, hml, hown, hts⟩ (c_X4_thrown hM2) (cwV 0 hts gL_law_X4_thrown rfl rfl rfl (by decide +kernel) ⟨Nat.le_of_ble_eq_true rfl, Nat.le_of_ble_eq_true rfl⟩) rfl hl.1 rfl (Nat.le_of_ble_eq_true rfl) dL_law_274 ⟨(by show cells + 1 + 0 + 0 ≤ 601024; omega), (by show slots + 6 + 0 + 0 ≤ 7293033; omega)⟩ ?_
      refine lv_iload hx hb dL_law_277 (lv_at hl 1 rfl) ?_
      refine lv_icmp_eq (tgt := 284) hx hb dL_law_279 (by decide) (fun c4 => ?_) (fun z => absurd ((by decide)) z)
      refine lv_iload hx hb dL_law_284 (lv_at hl 1 rfl) ?_
      refine lv_if_ne (tgt := 301) hx hb dL_law_286 (by decide) (fun c5 => ?_) (fun z => absurd z ((by decide)))
      refine lv_goto (tgt := 1415) hx hb dL_law_301 (by decide) ?_
      refine W.widen (k := cells + 2) (n := slots + 210) (by omega) (by omega) ?_
      exact kk V2 α1 (f) nr nw ns 2 H locs ls ⟨hC2, hM2, hwf, ⟨_, h92⟩⟩ hw hS ⟨hl.1, hl.2.1, fun q hq => hl.2.2 q (List.mem_cons_of_mem _ (List.mem_cons_of_mem _ hq))⟩
  ·
    refine lv_aload_n hx hb dL_law_200 rfl (lv_at hl 2 rfl) ?_
    refine lv_aload_n hx hb dL_law_201 rfl (lv_at hl 1 rfl) ?_
    refine lv_iload hx hb dL_law_202 (lv_at hl 0 rfl) ?_
    refine lv_iconst (v := (1)) hx hb dL_law_204 (by decide) ?_
    refine lv_iadd hx hb dL_law_205 ?_
    refine msld (v := x1) (k := j + 1) hx hb hX hbl hbA hS (nI_add j 1) (by omega) (by omega) (y1) dL_law_206 ?_
    refine lv_aload_n hx hb dL_law_207 rfl (lv_at hl 1 rfl) ?_
    refine lv_iload hx hb dL_law_208 (lv_at hl 0 rfl) ?_
    refine lv_iconst (v := (2)) hx hb dL_law_210 (by decide) ?_
    refine lv_iadd hx hb dL_law_211 ?_
    refine msld (v := x2) (k := j + 2) hx hb hX hbl hbA hS (nI_add j 2) (by omega) (by omega) (y2) dL_law_212 ?_
    refine lv_aload_n hx hb dL_law_213 rfl (lv_at hl 1 rfl) ?_
    refine lv_iload hx hb dL_law_214 (lv_at hl 0 rfl) ?_
    refine lv_iconst (v := (3)) hx hb dL_law_216 (by decide) ?_
    refine lv_iadd hx hb dL_law_217 ?_
    refine msld (v := x3) (k := j + 3) hx hb hX hbl hbA hS (nI_add j 3) (by omega) (by omega) (y3) dL_law_218 ?_
    refine lv_aload_n hx hb dL_law_219 rfl (lv_at hl 1 rfl) ?_
    refine lv_iload hx hb dL_law_220 (lv_at hl 0 rfl) ?_
    refine lv_iconst (v := (4)) hx hb dL_law_222 (by decide) ?_
    refine lv_iadd hx hb dL_law_223 ?_
    refine msld (v := x4) (k := j + 4) hx hb hX hbl hbA hS (nI_add j 4) (by omega) (by omega) (y4) dL_law_224 ?_
    refine lv_aload_n hx hb dL_law_225 rfl (lv_at hl 1 rfl) ?_
    refine lv_iload hx hb dL_law_226 (lv_at hl 0 rfl) ?_
    refine lv_iconst (v := (5)) hx hb dL_law_228 (by decide) ?_
    refine lv_iadd hx hb dL_law_229 ?_
    refine msld (v := x5) (k := j + 5) hx hb hX hbl hbA hS (nI_add j 5) (by omega) (by omega) (y5) dL_law_230 ?_
    refine lv_aload_n hx hb dL_law_231 rfl (lv_at hl 4 rfl) ?_
    refine mcallSWi hw ⟨hx, hb, hml, hown, hts⟩ hS (x_X3_addRule_1 hl0 hC hwf x1 x2 x3 x4 x5 h) (vx_cwSW 7 hts gL_law_L_addRule rfl rfl rfl (by decide +kernel) ⟨Nat.le_of_ble_eq_true rfl, Nat.le_of_ble_eq_true rfl⟩) rfl hl.1 rfl (Nat.le_of_ble_eq_true rfl) dL_law_232 ⟨(by show cells + 1 ≤ 601024; omega), (by show slots + 6 ≤ 7293033; omega)⟩ (fun r9 V1 α1 H locs hq hw hS => ?_)
    obtain ⟨er, eu⟩ := hq
    subst er
    have e1 : V1 = V := congrArg Prod.fst eu
    have e2 : α1 = α := congrArg Prod.snd eu
    have hC1 : mC G V1 α1 f nr nw ns := by rw [e1, e2]; exact hC
    have h91 : V1 9 = _ := (congrFun e1 9).trans h9
    have hO : ∀ j, j < 100 → (10 ≤ j → V1 j = V j) ∧ α1 j = α j := fun j _ => ⟨fun _ => congrFun e1 j, congrFun e2 j⟩
    have hl : lv_has ls 7 [(4, .int (nI (j))), (0, .ref (b)), (1, .ref (α1 (0))), (2, .ref (α1 (10))), (3, .ref (α1 (9)))] := by rw [(hO 0 (by omega)).2, (hO 10 (by omega)).2, (hO 9 (by omega)).2]; exact hl
    have hM1 := hM.mvC (fun j h1 h2 => (hO j (by omega)).1 h1) (fun j hj => (hO j hj).2)
    refine lv_istore (lv' := [(5, .int (1)), (4, .int (nI (j))), (0, .ref (b)), (1, .ref (α1 (0))), (2, .ref (α1 (10))), (3, .ref (α1 (9)))]) hx hb dL_law_235 hl (by decide) rfl (fun ls hl => ?_)
    refine lv_aload_n hx hb dL_law_237 rfl (lv_at hl 4 rfl) ?_
    refine lv_aload_n hx hb dL_law_238 rfl (lv_at hl 2 rfl) ?_
    refine lv_iload hx hb dL_law_239 (lv_at hl 1 rfl) ?_
    refine lv_iconst (v := (1)) hx hb dL_law_241 (by decide) ?_
    refine lv_iadd hx hb dL_law_242 ?_
    refine msld (v := x1) (k := j + 1) hx hb hX hbl hbA hS (nI_add j 1) (by omega) (by omega) (y1) dL_law_243 ?_
    refine lv_aload_n hx hb dL_law_244 rfl (lv_at hl 2 rfl) ?_
    refine lv_iload hx hb dL_law_245 (lv_at hl 1 rfl) ?_
    refine lv_iconst (v := (2)) hx hb dL_law_247 (by decide) ?_
    refine lv_iadd hx hb dL_law_248 ?_
    refine msld (v := x2) (k := j + 2) hx hb hX hbl hbA hS (nI_add j 2) (by omega) (by omega) (y2) dL_law_249 ?_
    refine lv_aload_n hx hb dL_law_250 rfl (lv_at hl 2 rfl) ?_
    refine lv_iload hx hb dL_law_251 (lv_at hl 1 rfl) ?_
    refine lv_iconst (v := (3)) hx hb dL_law_253 (by decide) ?_
    refine lv_iadd hx hb dL_law_254 ?_
    refine msld (v := x3) (k := j + 3) hx hb hX hbl hbA hS (nI_add j 3) (by omega) (by omega) (y3) dL_law_255 ?_
    refine lv_aload_n hx hb dL_law_256 rfl (lv_at hl 2 rfl) ?_
    refine lv_iload hx hb dL_law_257 (lv_at hl 1 rfl) ?_
    refine lv_iconst (v := (4)) hx hb dL_law_259 (by decide) ?_
    refine lv_iadd hx hb dL_law_260 ?_
    refine msld (v := x4) (k := j + 4) hx hb hX hbl hbA hS (nI_add j 4) (by omega) (by omega) (y4) dL_law_261 ?_
    refine lv_aload_n hx hb dL_law_262 rfl (lv_at hl 2 rfl) ?_
    refine lv_iload hx hb dL_law_263 (lv_at hl 1 rfl) ?_
    refine lv_iconst (v := (5)) hx hb dL_law_265 (by decide) ?_
    refine lv_iadd hx hb dL_law_266 ?_
    refine msld (v := x5) (k := j + 5) hx hb hX hbl hbA hS (nI_add j 5) (by omega) (by omega) (y5) dL_law_267 ?_
    refine mcallVw hw hM1.1 rfl rfl ⟨hx, hb, hml, hown, hts⟩ hS (c_X4_addRule_1 hM1 x1 x2 x3 x4 x5 h) (cwV 5 hts gL_law_X4_addRule rfl rfl rfl (by decide +kernel) ⟨Nat.le_of_ble_eq_true rfl, Nat.le_of_ble_eq_true rfl⟩) rfl hl.1 rfl (Nat.le_of_ble_eq_true rfl) dL_law_268 ⟨(by show cells + 1 + 0 ≤ 601024; omega), (by show slots + 6 + 0 ≤ 7293033; omega)⟩ (fun r8 V2 α2 H locs hq hw hS => ?_)
    obtain ⟨er, hM2, hP, eα⟩ := hq
    dsimp only at hM2 hP eα
    subst er
    subst eα
    have hC2 := hC1.mvM (fun j hj => hP j hj)
    have h92 := (hP 9 (by omega)).trans h91
    refine lv_istore (lv' := [(6, .int (0)), (5, .int (1)), (4, .int (nI (j))), (0, .ref (b)), (1, .ref (α1 (0))), (2, .ref (α1 (10))), (3, .ref (α1 (9)))]) hx hb dL_law_271 hl (by decide) rfl (fun ls hl => ?_)
    refine lv_aload_n hx hb dL_law_273 rfl (lv_at hl 5 rfl) ?_
    refine mcallVi hw hM2.1 rfl rfl ⟨hx, hb, hml, hown, hts⟩ (c_X4_thrown hM2) (cwV 0 hts gL_law_X4_thrown rfl rfl rfl (by decide +kernel) ⟨Nat.le_of_ble_eq_true rfl, Nat.le_of_ble_eq_true rfl⟩) rfl hl.1 rfl (Nat.le_of_ble_eq_true rfl) dL_law_274 ⟨(by show cells + 1 + 0 + 0 ≤ 601024; omega), (by show slots + 6 + 0 + 0 ≤ 7293033; omega)⟩ ?_
    refine lv_iload hx hb dL_law_277 (lv_at hl 1 rfl) ?_
    refine lv_icmp_eq (tgt := 284) hx hb dL_law_279 (by decide) (fun c6 => ?_) (fun z => absurd ((by decide)) z)
    refine lv_iload hx hb dL_law_284 (lv_at hl 1 rfl) ?_
    refine lv_if_ne (tgt := 301) hx hb dL_law_286 (by decide) (fun c7 => ?_) (fun z => absurd z ((by decide)))
    refine lv_goto (tgt := 1415) hx hb dL_law_301 (by decide) ?_
    refine W.widen (k := cells + 2) (n := slots + 210) (by omega) (by omega) ?_
    exact kk V2 α1 (f) nr nw ns 1 H locs ls ⟨hC2, hM2, hwf, ⟨_, h92⟩⟩ hw hS ⟨hl.1, hl.2.1, fun q hq => hl.2.2 q (List.mem_cons_of_mem _ (List.mem_cons_of_mem _ hq))⟩

set_option maxHeartbeats 4000000 in
set_option maxRecDepth 100000 in
theorem op_setRule {p : Program} {l : Launch} {e : Env} {s : State} {m : MethodId} {args : Array Value} {below : List Frame} {meth : Method} {c : Code} {H : Heap} {locs : List Loc} {cells slots : Nat} {Q : State → Prop} {ls : Array Slot} {G : mG} {V : mV} {α : Nat → Nat} {f : sT} {nr nw ns : Nat} {th : Int32} {b L : Nat} {xs : Nat → Int32} {j : Nat} (hF : mFix p l s m args c G b L xs) (hj : j + 6 ≤ L) {x1 x2 x3 x4 x5 : Int32} (y1 : xs (j + 1) = x1) (y2 : xs (j + 2) = x2) (y3 : xs (j + 3) = x3) (y4 : xs (j + 4) = x4) (y5 : xs (j + 5) = x5) (hI : mI G V α f nr nw ns th) (hw : mW G V α s H) (hS : va_S (mfree G) s.heap H locs) (hc9 : cells + 2 ≤ 601024) (hs9 : slots + 210 ≤ 7293033) (hl : lv_has ls 7 [(4, .int (nI (j))), (0, .ref (b)), (1, .ref (α (0))), (2, .ref (α (10))), (3, .ref (α (9)))])
    (kk : ∀ (V1 : mV) (α1 : Nat → Nat) (f1 : sT) (nr1 nw1 ns1 : Nat) (th1 : Int32) (H1 : Heap) (locs1 : List Loc) (ls1 : Array Slot), mI G V1 α1 f1 nr1 nw1 ns1 th1 → mW G V1 α1 s H1 → va_S (mfree G) s.heap H1 locs1 → lv_has ls1 7 [(4, .int (nI (j))), (0, .ref (b)), (1, .ref (α1 (0))), (2, .ref (α1 (10))), (3, .ref (α1 (9)))] → W p l e room_1 s m args below meth c H1 locs1 (cells + 2) (slots + 210) Q (F0 m 1415 ls1 [])) : W p l e room_1 s m args below meth c H locs cells slots Q (F0 m 304 ls []) := by
  obtain ⟨hl0, hx, hb, hml, hown, hts, hX, hbl, hbA, hL⟩ := hF
  obtain ⟨hC, hM, hwf, g0, h9⟩ := hI
  obtain ⟨hnr, hnw, hns⟩ := hwf.1
  by_cases h : inn x1 0 (nI nr - 1)
  ·
    obtain ⟨k, hk, rfl⟩ := ix_inn (by omega) h
    by_cases hb2 : x2 = 0
    ·
      by_cases hz : 1 - f 6 k = 0
      ·
        refine lv_aload_n hx hb dL_law_304 rfl (lv_at hl 2 rfl) ?_
        refine lv_aload_n hx hb dL_law_305 rfl (lv_at hl 1 rfl) ?_
        refine lv_iload hx hb dL_law_306 (lv_at hl 0 rfl) ?_
        refine lv_iconst (v := (1)) hx hb dL_law_308 (by decide) ?_
        refine lv_iadd hx hb dL_law_309 ?_
        refine msld (v := nI (k)) (k := j + 1) hx hb hX hbl hbA hS (nI_add j 1) (by omega) (by omega) (y1) dL_law_310 ?_
        refine lv_aload_n hx hb dL_law_311 rfl (lv_at hl 1 rfl) ?_
        refine lv_iload hx hb dL_law_312 (lv_at hl 0 rfl) ?_
        refine lv_iconst (v := (2)) hx hb dL_law_314 (by decide) ?_
        refine lv_iadd hx hb dL_law_315 ?_
        refine msld (v := x2) (k := j + 2) hx hb hX hbl hbA hS (nI_add j 2) (by omega) (by omega) (y2) dL_law_316 ?_
        refine lv_if_eq (tgt := 324) hx hb dL_law_317 (by decide) (fun _ => ?_) (fun z => absurd hb2 z)
        refine lv_iconst (v := (0)) hx hb dL_law_324 (by decide) ?_
        refine lv_aload_n hx hb dL_law_325 rfl (lv_at hl 4 rfl) ?_
        refine mcallSWi hw ⟨hx, hb, hml, hown, hts⟩ hS (w_X3_setRule hC hwf k hk 0 (Or.inl rfl) h9) (vx_cwSW 4 hts gL_law_L_setRule rfl rfl rfl (by decide +kernel) ⟨Nat.le_of_ble_eq_true rfl, Nat.le_of_ble_eq_true rfl⟩) rfl hl.1 rfl (Nat.le_of_ble_eq_true rfl) dL_law_326 ⟨(by show cells + 0 ≤ 601024; omega), (by show slots + 0 ≤ 7293033; omega)⟩ (fun r9 V1 α1 H locs hq hw hS => ?_)
        obtain ⟨er, hC1, hO, g1, h91, hg1⟩ := hq
        dsimp only at hC1 hO h91
        subst er
        have hl : lv_has ls 7 [(4, .int (nI (j))), (0, .ref (b)), (1, .ref (α1 (0))), (2, .ref (α1 (10))), (3, .ref (α1 (9)))] := by rw [(hO 0 (by omega)).2, (hO 10 (by omega)).2, (hO 9 (by omega)).2]; exact hl
        have hM1 := hM.mvC (fun j h1 h2 => (hO j (by omega)).1 h1) (fun j hj => (hO j hj).2)
        refine lv_istore (lv' := [(5, .int (0)), (4, .int (nI (j))), (0, .ref (b)), (1, .ref (α1 (0))), (2, .ref (α1 (10))), (3, .ref (α1 (9)))]) hx hb dL_law_329 hl (by decide) rfl (fun ls hl => ?_)
        refine lv_aload_n hx hb dL_law_331 rfl (lv_at hl 4 rfl) ?_
        refine lv_aload_n hx hb dL_law_332 rfl (lv_at hl 2 rfl) ?_
        refine lv_iload hx hb dL_law_333 (lv_at hl 1 rfl) ?_
        refine lv_iconst (v := (1)) hx hb dL_law_335 (by decide) ?_
        refine lv_iadd hx hb dL_law_336 ?_
        refine msld (v := nI (k)) (k := j + 1) hx hb hX hbl hbA hS (nI_add j 1) (by omega) (by omega) (y1) dL_law_337 ?_
        refine lv_aload_n hx hb dL_law_338 rfl (lv_at hl 2 rfl) ?_
        refine lv_iload hx hb dL_law_339 (lv_at hl 1 rfl) ?_
        refine lv_iconst (v := (2)) hx hb dL_law_341 (by decide) ?_
        refine lv_iadd hx hb dL_law_342 ?_
        refine msld (v := x2) (k := j + 2) hx hb hX hbl hbA hS (nI_add j 2) (by omega) (by omega) (y2) dL_law_343 ?_
        refine lv_if_eq (tgt := 351) hx hb dL_law_344 (by decide) (fun _ => ?_) (fun z => absurd hb2 z)
        refine lv_iconst (v := (0)) hx hb dL_law_351 (by decide) ?_
        refine mcallVw hw hM1.1 rfl rfl ⟨hx, hb, hml, hown, hts⟩ hS (c_X4_setRule hM1 k hk hnr 0 (Or.inl rfl) (hwf.2.2.2.1 k hk)) (cwV 2 hts gL_law_X4_setRule rfl rfl rfl (by decide +kernel) ⟨Nat.le_of_ble_eq_true rfl, Nat.le_of_ble_eq_true rfl⟩) rfl hl.1 rfl (Nat.le_of_ble_eq_true rfl) dL_law_352 ⟨(by show cells + 0 + 0 ≤ 601024; omega), (by show slots + 0 + 0 ≤ 7293033; omega)⟩ (fun r8 V2 α2 H locs hq hw hS => ?_)
        obtain ⟨er, hM2, hP, eα⟩ := hq
        dsimp only at hM2 hP eα
        subst er
        subst eα
        have hC2 := hC1.mvM (fun j hj => hP j hj)
        have h92 := (hP 9 (by omega)).trans h91
        refine lv_istore (lv' := [(6, .int (1 - f 6 k)), (5, .int (0)), (4, .int (nI (j))), (0, .ref (b)), (1, .ref (α1 (0))), (2, .ref (α1 (10))), (3, .ref (α1 (9)))]) hx hb dL_law_355 hl (by decide) rfl (fun ls hl => ?_)
        refine lv_aload_n hx hb dL_law_357 rfl (lv_at hl 5 rfl) ?_
        refine mcallVi hw hM2.1 rfl rfl ⟨hx, hb, hml, hown, hts⟩ (c_X4_thrown hM2) (cwV 0 hts gL_law_X4_thrown rfl rfl rfl (by decide +kernel) ⟨Nat.le_of_ble_eq_true rfl, Nat.le_of_ble_eq_true rfl⟩) rfl hl.1 rfl (Nat.le_of_ble_eq_true rfl) dL_law_358 ⟨(by show cells + 0 + 0 + 0 ≤ 601024; omega), (by show slots + 0 + 0 + 0 ≤ 7293033; omega)⟩ ?_
        refine lv_iload hx hb dL_law_361 (lv_at hl 1 rfl) ?_
        refine lv_icmp_eq (tgt := 368) hx hb dL_law_363 (by decide) (fun c1 => ?_) (fun z => absurd ((by decide)) z)
        refine lv_iload hx hb dL_law_368 (lv_at hl 1 rfl) ?_
        refine lv_if_ne (tgt := 392) hx hb dL_law_370 (by decide) (fun z => absurd ((by decide)) z) (fun c2 => ?_)
        refine lv_aload_n hx hb dL_law_373 rfl (lv_at hl 6 rfl) ?_
        refine lv_iconst (v := (0)) hx hb dL_law_374 (by decide) ?_
        refine mlald' (k := 0) hx hb hw h92 rfl (by omega) (by decide) dL_law_375 ?_
        refine lv_iload hx hb dL_law_376 (lv_at hl 0 rfl) ?_
        refine lv_if_eq (tgt := 385) hx hb dL_law_378 (by decide) (fun _ => ?_) (fun z => absurd hz z)
        refine lv_lconst (v := (0)) hx hb dL_law_385 (by decide) ?_
        refine lv_lcmp0 hx hb ((hg1.trans (if_pos hz)).symm) dL_law_386 ?_
        refine lv_if_eq (tgt := 392) hx hb dL_law_387 (by decide) (fun c3 => ?_) (fun z => absurd ((by decide)) z)
        refine lv_goto (tgt := 1415) hx hb dL_law_392 (by decide) ?_
        refine W.widen (k := cells + 2) (n := slots + 210) (by omega) (by omega) ?_
        exact kk V2 α1 (u2 f 6 k (1 - 0)) nr nw ns 0 H locs ls ⟨hC2, hM2, wf_rule hwf hk (z1_sub (Or.inl rfl)), ⟨_, h92⟩⟩ hw hS ⟨hl.1, hl.2.1, fun q hq => hl.2.2 q (List.mem_cons_of_mem _ (List.mem_cons_of_mem _ hq))⟩
      ·
        refine lv_aload_n hx hb dL_law_304 rfl (lv_at hl 2 rfl) ?_
        refine lv_aload_n hx hb dL_law_305 rfl (lv_at hl 1 rfl) ?_
        refine lv_iload hx hb dL_law_306 (lv_at hl 0 rfl) ?_
        refine lv_iconst (v := (1)) hx hb dL_law_308 (by decide) ?_
        refine lv_iadd hx hb dL_law_309 ?_
        refine msld (v := nI (k)) (k := j + 1) hx hb hX hbl hbA hS (nI_add j 1) (by omega) (by omega) (y1) dL_law_310 ?_
        refine lv_aload_n hx hb dL_law_311 rfl (lv_at hl 1 rfl) ?_
        refine lv_iload hx hb dL_law_312 (lv_at hl 0 rfl) ?_
        refine lv_iconst (v := (2)) hx hb dL_law_314 (by decide) ?_
        refine lv_iadd hx hb dL_law_315 ?_
        refine msld (v := x2) (k := j + 2) hx hb hX hbl hbA hS (nI_add j 2) (by omega) (by omega) (y2) dL_law_316 ?_
        refine lv_if_eq (tgt := 324) hx hb dL_law_317 (by decide) (fun _ => ?_) (fun z => absurd hb2 z)
        refine lv_iconst (v := (0)) hx hb dL_law_324 (by decide) ?_
        refine lv_aload_n hx hb dL_law_325 rfl (lv_at hl 4 rfl) ?_
        refine mcallSWi hw ⟨hx, hb, hml, hown, hts⟩ hS (w_X3_setRule hC hwf k hk 0 (Or.inl rfl) h9) (vx_cwSW 4 hts gL_law_L_setRule rfl rfl rfl (by decide +kernel) ⟨Nat.le_of_ble_eq_true rfl, Nat.le_of_ble_eq_true rfl⟩) rfl hl.1 rfl (Nat.le_of_ble_eq_true rfl) dL_law_326 ⟨(by show cells + 0 ≤ 601024; omega), (by show slots + 0 ≤ 7293033; omega)⟩ (fun r9 V1 α1 H locs hq hw hS => ?_)
        obtain ⟨er, hC1, hO, g1, h91, hg1⟩ := hq
        dsimp only at hC1 hO h91
        subst er
        have hl : lv_has ls 7 [(4, .int (nI (j))), (0, .ref (b)), (1, .ref (α1 (0))), (2, .ref (α1 (10))), (3, .ref (α1 (9)))] := by rw [(hO 0 (by omega)).2, (hO 10 (by omega)).2, (hO 9 (by omega)).2]; exact hl
        have hM1 := hM.mvC (fun j h1 h2 => (hO j (by omega)).1 h1) (fun j hj => (hO j hj).2)
        refine lv_istore (lv' := [(5, .int (0)), (4, .int (nI (j))), (0, .ref (b)), (1, .ref (α1 (0))), (2, .ref (α1 (10))), (3, .ref (α1 (9)))]) hx hb dL_law_329 hl (by decide) rfl (fun ls hl => ?_)
        refine lv_aload_n hx hb dL_law_331 rfl (lv_at hl 4 rfl) ?_
        refine lv_aload_n hx hb dL_law_332 rfl (lv_at hl 2 rfl) ?_
        refine lv_iload hx hb dL_law_333 (lv_at hl 1 rfl) ?_
        refine lv_iconst (v := (1)) hx hb dL_law_335 (by decide) ?_
        refine lv_iadd hx hb dL_law_336 ?_
        refine msld (v := nI (k)) (k := j + 1) hx hb hX hbl hbA hS (nI_add j 1) (by omega) (by omega) (y1) dL_law_337 ?_
        refine lv_aload_n hx hb dL_law_338 rfl (lv_at hl 2 rfl) ?_
        refine lv_iload hx hb dL_law_339 (lv_at hl 1 rfl) ?_
        refine lv_iconst (v := (2)) hx hb dL_law_341 (by decide) ?_
        refine lv_iadd hx hb dL_law_342 ?_
        refine msld (v := x2) (k := j + 2) hx hb hX hbl hbA hS (nI_add j 2) (by omega) (by omega) (y2) dL_law_343 ?_
        refine lv_if_eq (tgt := 351) hx hb dL_law_344 (by decide) (fun _ => ?_) (fun z => absurd hb2 z)
        refine lv_iconst (v := (0)) hx hb dL_law_351 (by decide) ?_
        refine mcallVw hw hM1.1 rfl rfl ⟨hx, hb, hml, hown, hts⟩ hS (c_X4_setRule hM1 k hk hnr 0 (Or.inl rfl) (hwf.2.2.2.1 k hk)) (cwV 2 hts gL_law_X4_setRule rfl rfl rfl (by decide +kernel) ⟨Nat.le_of_ble_eq_true rfl, Nat.le_of_ble_eq_true rfl⟩) rfl hl.1 rfl (Nat.le_of_ble_eq_true rfl) dL_law_352 ⟨(by show cells + 0 + 0 ≤ 601024; omega), (by show slots + 0 + 0 ≤ 7293033; omega)⟩ (fun r8 V2 α2 H locs hq hw hS => ?_)
        obtain ⟨er, hM2, hP, eα⟩ := hq
        dsimp only at hM2 hP eα
        subst er
        subst eα
        have hC2 := hC1.mvM (fun j hj => hP j hj)
        have h92 := (hP 9 (by omega)).trans h91
        refine lv_istore (lv' := [(6, .int (1 - f 6 k)), (5, .int (0)), (4, .int (nI (j))), (0, .ref (b)), (1, .ref (α1 (0))), (2, .ref (α1 (10))), (3, .ref (α1 (9)))]) hx hb dL_law_355 hl (by decide) rfl (fun ls hl => ?_)
        refine lv_aload_n hx hb dL_law_357 rfl (lv_at hl 5 rfl) ?_
        refine mcallVi hw hM2.1 rfl rfl ⟨hx, hb, hml, hown, hts⟩ (c_X4_thrown hM2) (cwV 0 hts gL_law_X4_thrown rfl rfl rfl (by decide +kernel) ⟨Nat.le_of_ble_eq_true rfl, Nat.le_of_ble_eq_true rfl⟩) rfl hl.1 rfl (Nat.le_of_ble_eq_true rfl) dL_law_358 ⟨(by show cells + 0 + 0 + 0 ≤ 601024; omega), (by show slots + 0 + 0 + 0 ≤ 7293033; omega)⟩ ?_
        refine lv_iload hx hb dL_law_361 (lv_at hl 1 rfl) ?_
        refine lv_icmp_eq (tgt := 368) hx hb dL_law_363 (by decide) (fun c4 => ?_) (fun z => absurd ((by decide)) z)
        refine lv_iload hx hb dL_law_368 (lv_at hl 1 rfl) ?_
        refine lv_if_ne (tgt := 392) hx hb dL_law_370 (by decide) (fun z => absurd ((by decide)) z) (fun c5 => ?_)
        refine lv_aload_n hx hb dL_law_373 rfl (lv_at hl 6 rfl) ?_
        refine lv_iconst (v := (0)) hx hb dL_law_374 (by decide) ?_
        refine mlald' (k := 0) hx hb hw h92 rfl (by omega) (by decide) dL_law_375 ?_
        refine lv_iload hx hb dL_law_376 (lv_at hl 0 rfl) ?_
        refine lv_if_eq (tgt := 385) hx hb dL_law_378 (by decide) (fun z => absurd z hz) (fun _ => ?_)
        refine lv_lconst (v := (1)) hx hb dL_law_381 (by decide) ?_
        refine lv_goto (tgt := 386) hx hb dL_law_382 (by decide) ?_
        refine lv_lcmp0 hx hb ((hg1.trans (if_neg hz)).symm) dL_law_386 ?_
        refine lv_if_eq (tgt := 392) hx hb dL_law_387 (by decide) (fun c6 => ?_) (fun z => absurd ((by decide)) z)
        refine lv_goto (tgt := 1415) hx hb dL_law_392 (by decide) ?_
        refine W.widen (k := cells + 2) (n := slots + 210) (by omega) (by omega) ?_
        exact kk V2 α1 (u2 f 6 k (1 - 0)) nr nw ns 0 H locs ls ⟨hC2, hM2, wf_rule hwf hk (z1_sub (Or.inl rfl)), ⟨_, h92⟩⟩ hw hS ⟨hl.1, hl.2.1, fun q hq => hl.2.2 q (List.mem_cons_of_mem _ (List.mem_cons_of_mem _ hq))⟩
    ·
      by_cases hz : 1 - f 6 k = 0
      ·
        refine lv_aload_n hx hb dL_law_304 rfl (lv_at hl 2 rfl) ?_
        refine lv_aload_n hx hb dL_law_305 rfl (lv_at hl 1 rfl) ?_
        refine lv_iload hx hb dL_law_306 (lv_at hl 0 rfl) ?_
        refine lv_iconst (v := (1)) hx hb dL_law_308 (by decide) ?_
        refine lv_iadd hx hb dL_law_309 ?_
        refine msld (v := nI (k)) (k := j + 1) hx hb hX hbl hbA hS (nI_add j 1) (by omega) (by omega) (y1) dL_law_310 ?_
        refine lv_aload_n hx hb dL_law_311 rfl (lv_at hl 1 rfl) ?_
        refine lv_iload hx hb dL_law_312 (lv_at hl 0 rfl) ?_
        refine lv_iconst (v := (2)) hx hb dL_law_314 (by decide) ?_
        refine lv_iadd hx hb dL_law_315 ?_
        refine msld (v := x2) (k := j + 2) hx hb hX hbl hbA hS (nI_add j 2) (by omega) (by omega) (y2) dL_law_316 ?_
        refine lv_if_eq (tgt := 324) hx hb dL_law_317 (by decide) (fun z => absurd z hb2) (fun _ => ?_)
        refine lv_iconst (v := (1)) hx hb dL_law_320 (by decide) ?_
        refine lv_goto (tgt := 325) hx hb dL_law_321 (by decide) ?_
        refine lv_aload_n hx hb dL_law_325 rfl (lv_at hl 4 rfl) ?_
        refine mcallSWi hw ⟨hx, hb, hml, hown, hts⟩ hS (w_X3_setRule hC hwf k hk 1 (Or.inr rfl) h9) (vx_cwSW 4 hts gL_law_L_setRule rfl rfl rfl (by decide +kernel) ⟨Nat.le_of_ble_eq_true rfl, Nat.le_of_ble_eq_true rfl⟩) rfl hl.1 rfl (Nat.le_of_ble_eq_true rfl) dL_law_326 ⟨(by show cells + 0 ≤ 601024; omega), (by show slots + 0 ≤ 7293033; omega)⟩ (fun r9 V1 α1 H locs hq hw hS => ?_)
        obtain ⟨er, hC1, hO, g1, h91, hg1⟩ := hq
        dsimp only at hC1 hO h91
        subst er
        have hl : lv_has ls 7 [(4, .int (nI (j))), (0, .ref (b)), (1, .ref (α1 (0))), (2, .ref (α1 (10))), (3, .ref (α1 (9)))] := by rw [(hO 0 (by omega)).2, (hO 10 (by omega)).2, (hO 9 (by omega)).2]; exact hl
        have hM1 := hM.mvC (fun j h1 h2 => (hO j (by omega)).1 h1) (fun j hj => (hO j hj).2)
        refine lv_istore (lv' := [(5, .int (0)), (4, .int (nI (j))), (0, .ref (b)), (1, .ref (α1 (0))), (2, .ref (α1 (10))), (3, .ref (α1 (9)))]) hx hb dL_law_329 hl (by decide) rfl (fun ls hl => ?_)
        refine lv_aload_n hx hb dL_law_331 rfl (lv_at hl 4 rfl) ?_
        refine lv_aload_n hx hb dL_law_332 rfl (lv_at hl 2 rfl) ?_
        refine lv_iload hx hb dL_law_333 (lv_at hl 1 rfl) ?_
        refine lv_iconst (v := (1)) hx hb dL_law_335 (by decide) ?_
        refine lv_iadd hx hb dL_law_336 ?_
        refine msld (v := nI (k)) (k := j + 1) hx hb hX hbl hbA hS (nI_add j 1) (by omega) (by omega) (y1) dL_law_337 ?_
        refine lv_aload_n hx hb dL_law_338 rfl (lv_at hl 2 rfl) ?_
        refine lv_iload hx hb dL_law_339 (lv_at hl 1 rfl) ?_
        refine lv_iconst (v := (2)) hx hb dL_law_341 (by decide) ?_
        refine lv_iadd hx hb dL_law_342 ?_
        refine msld (v := x2) (k := j + 2) hx hb hX hbl hbA hS (nI_add j 2) (by omega) (by omega) (y2) dL_law_343 ?_
        refine lv_if_eq (tgt := 351) hx hb dL_law_344 (by decide) (fun z => absurd z hb2) (fun _ => ?_)
        refine lv_iconst (v := (1)) hx hb dL_law_347 (by decide) ?_
        refine lv_goto (tgt := 352) hx hb dL_law_348 (by decide) ?_
        refine mcallVw hw hM1.1 rfl rfl ⟨hx, hb, hml, hown, hts⟩ hS (c_X4_setRule hM1 k hk hnr 1 (Or.inr rfl) (hwf.2.2.2.1 k hk)) (cwV 2 hts gL_law_X4_setRule rfl rfl rfl (by decide +kernel) ⟨Nat.le_of_ble_eq_true rfl, Nat.le_of_ble_eq_true rfl⟩) rfl hl.1 rfl (Nat.le_of_ble_eq_true rfl) dL_law_352 ⟨(by show cells + 0 + 0 ≤ 601024; omega), (by show slots + 0 + 0 ≤ 7293033; omega)⟩ (fun r8 V2 α2 H locs hq hw hS => ?_)
        obtain ⟨er, hM2, hP, eα⟩ := hq
        dsimp only at hM2 hP eα
        subst er
        subst eα
        have hC2 := hC1.mvM (fun j hj => hP j hj)
        have h92 := (hP 9 (by omega)).trans h91
        refine lv_istore (lv' := [(6, .int (1 - f 6 k)), (5, .int (0)), (4, .int (nI (j))), (0, .ref (b)), (1, .ref (α1 (0))), (2, .ref (α1 (10))), (3, .ref (α1 (9)))]) hx hb dL_law_355 hl (by decide) rfl (fun ls hl => ?_)
        refine lv_aload_n hx hb dL_law_357 rfl (lv_at hl 5 rfl) ?_
        refine mcallVi hw hM2.1 rfl rfl ⟨hx, hb, hml, hown, hts⟩ (c_X4_thrown hM2) (cwV 0 hts gL_law_X4_thrown rfl rfl rfl (by decide +kernel) ⟨Nat.le_of_ble_eq_true rfl, Nat.le_of_ble_eq_true rfl⟩) rfl hl.1 rfl (Nat.le_of_ble_eq_true rfl) dL_law_358 ⟨(by show cells + 0 + 0 + 0 ≤ 601024; omega), (by show slots + 0 + 0 + 0 ≤ 7293033; omega)⟩ ?_
        refine lv_iload hx hb dL_law_361 (lv_at hl 1 rfl) ?_
        refine lv_icmp_eq (tgt := 368) hx hb dL_law_363 (by decide) (fun c7 => ?_) (fun z => absurd ((by decide)) z)
        refine lv_iload hx hb dL_law_368 (lv_at hl 1 rfl) ?_
        refine lv_if_ne (tgt := 392) hx hb dL_law_370 (by decide) (fun z => absurd ((by decide)) z) (fun c8 => ?_)
        refine lv_aload_n hx hb dL_law_373 rfl (lv_at hl 6 rfl) ?_
        refine lv_iconst (v := (0)) hx hb dL_law_374 (by decide) ?_
        refine mlald' (k := 0) hx hb hw h92 rfl (by omega) (by decide) dL_law_375 ?_
        refine lv_iload hx hb dL_law_376 (lv_at hl 0 rfl) ?_
        refine lv_if_eq (tgt := 385) hx hb dL_law_378 (by decide) (fun _ => ?_) (fun z => absurd hz z)
        refine lv_lconst (v := (0)) hx hb dL_law_385 (by decide) ?_
        refine lv_lcmp0 hx hb ((hg1.trans (if_pos hz)).symm) dL_law_386 ?_
        refine lv_if_eq (tgt := 392) hx hb dL_law_387 (by decide) (fun c9 => ?_) (fun z => absurd ((by decide)) z)
        refine lv_goto (tgt := 1415) hx hb dL_law_392 (by decide) ?_
        refine W.widen (k := cells + 2) (n := slots + 210) (by omega) (by omega) ?_
        exact kk V2 α1 (u2 f 6 k (1 - 1)) nr nw ns 0 H locs ls ⟨hC2, hM2, wf_rule hwf hk (z1_sub (Or.inr rfl)), ⟨_, h92⟩⟩ hw hS ⟨hl.1, hl.2.1, fun q hq => hl.2.2 q (List.mem_cons_of_mem _ (List.mem_cons_of_mem _ hq))⟩
      ·
        refine lv_aload_n hx hb dL_law_304 rfl (lv_at hl 2 rfl) ?_
        refine lv_aload_n hx hb dL_law_305 rfl (lv_at hl 1 rfl) ?_
        refine lv_iload hx hb dL_law_306 (lv_at hl 0 rfl) ?_
        refine lv_iconst (v := (1)) hx hb dL_law_308 (by decide) ?_
        refine lv_iadd hx hb dL_law_309 ?_
        refine msld (v := nI (k)) (k := j + 1) hx hb hX hbl hbA hS (nI_add j 1) (by omega) (by omega) (y1) dL_law_310 ?_
        refine lv_aload_n hx hb dL_law_311 rfl (lv_at hl 1 rfl) ?_
        refine lv_iload hx hb dL_law_312 (lv_at hl 0 rfl) ?_
        refine lv_iconst (v := (2)) hx hb dL_law_314 (by decide) ?_
        refine lv_iadd hx hb dL_law_315 ?_
        refine msld (v := x2) (k := j + 2) hx hb hX hbl hbA hS (nI_add j 2) (by omega) (by omega) (y2) dL_law_316 ?_
        refine lv_if_eq (tgt := 324) hx hb dL_law_317 (by decide) (fun z => absurd z hb2) (fun _ => ?_)
        refine lv_iconst (v := (1)) hx hb dL_law_320 (by decide) ?_
        refine lv_goto (tgt := 325) hx hb dL_law_321 (by decide) ?_
        refine lv_aload_n hx hb dL_law_325 rfl (lv_at hl 4 rfl) ?_
        refine mcallSWi hw ⟨hx, hb, hml, hown, hts⟩ hS (w_X3_setRule hC hwf k hk 1 (Or.inr rfl) h9) (vx_cwSW 4 hts gL_law_L_setRule rfl rfl rfl (by decide +kernel) ⟨Nat.le_of_ble_eq_true rfl, Nat.le_of_ble_eq_true rfl⟩) rfl hl.1 rfl (Nat.le_of_ble_eq_true rfl) dL_law_326 ⟨(by show cells + 0 ≤ 601024; omega), (by show slots + 0 ≤ 7293033; omega)⟩ (fun r9 V1 α1 H locs hq hw hS => ?_)
        obtain ⟨er, hC1, hO, g1, h91, hg1⟩ := hq
        dsimp only at hC1 hO h91
        subst er
        have hl : lv_has ls 7 [(4, .int (nI (j))), (0, .ref (b)), (1, .ref (α1 (0))), (2, .ref (α1 (10))), (3, .ref (α1 (9)))] := by rw [(hO 0 (by omega)).2, (hO 10 (by omega)).2, (hO 9 (by omega)).2]; exact hl
        have hM1 := hM.mvC (fun j h1 h2 => (hO j (by omega)).1 h1) (fun j hj => (hO j hj).2)
        refine lv_istore (lv' := [(5, .int (0)), (4, .int (nI (j))), (0, .ref (b)), (1, .ref (α1 (0))), (2, .ref (α1 (10))), (3, .ref (α1 (9)))]) hx hb dL_law_329 hl (by decide) rfl (fun ls hl => ?_)
        refine lv_aload_n hx hb dL_law_331 rfl (lv_at hl 4 rfl) ?_
        refine lv_aload_n hx hb dL_law_332 rfl (lv_at hl 2 rfl) ?_
        refine lv_iload hx hb dL_law_333 (lv_at hl 1 rfl) ?_
        refine lv_iconst (v := (1)) hx hb dL_law_335 (by decide) ?_
        refine lv_iadd hx hb dL_law_336 ?_
        refine msld (v := nI (k)) (k := j + 1) hx hb hX hbl hbA hS (nI_add j 1) (by omega) (by omega) (y1) dL_law_337 ?_
        refine lv_aload_n hx hb dL_law_338 rfl (lv_at hl 2 rfl) ?_
        refine lv_iload hx hb dL_law_339 (lv_at hl 1 rfl) ?_
        refine lv_iconst (v := (2)) hx hb dL_law_341 (by decide) ?_
        refine lv_iadd hx hb dL_law_342 ?_
        refine msld (v := x2) (k := j + 2) hx hb hX hbl hbA hS (nI_add j 2) (by omega) (by omega) (y2) dL_law_343 ?_
        refine lv_if_eq (tgt := 351) hx hb dL_law_344 (by decide) (fun z => absurd z hb2) (fun _ => ?_)
        refine lv_iconst (v := (1)) hx hb dL_law_347 (by decide) ?_
        refine lv_goto (tgt := 352) hx hb dL_law_348 (by decide) ?_
        refine mcallVw hw hM1.1 rfl rfl ⟨hx, hb, hml, hown, hts⟩ hS (c_X4_setRule hM1 k hk hnr 1 (Or.inr rfl) (hwf.2.2.2.1 k hk)) (cwV 2 hts gL_law_X4_setRule rfl rfl rfl (by decide +kernel) ⟨Nat.le_of_ble_eq_true rfl, Nat.le_of_ble_eq_true rfl⟩) rfl hl.1 rfl (Nat.le_of_ble_eq_true rfl) dL_law_352 ⟨(by show cells + 0 + 0 ≤ 601024; omega), (by show slots + 0 + 0 ≤ 7293033; omega)⟩ (fun r8 V2 α2 H locs hq hw hS => ?_)
        obtain ⟨er, hM2, hP, eα⟩ := hq
        dsimp only at hM2 hP eα
        subst er
        subst eα
        have hC2 := hC1.mvM (fun j hj => hP j hj)
        have h92 := (hP 9 (by omega)).trans h91
        refine lv_istore (lv' := [(6, .int (1 - f 6 k)), (5, .int (0)), (4, .int (nI (j))), (0, .ref (b)), (1, .ref (α1 (0))), (2, .ref (α1 (10))), (3, .ref (α1 (9)))]) hx hb dL_law_355 hl (by decide) rfl (fun ls hl => ?_)
        refine lv_aload_n hx hb dL_law_357 rfl (lv_at hl 5 rfl) ?_
        refine mcallVi hw hM2.1 rfl rfl ⟨hx, hb, hml, hown, hts⟩ (c_X4_thrown hM2) (cwV 0 hts gL_law_X4_thrown rfl rfl rfl (by decide +kernel) ⟨Nat.le_of_ble_eq_true rfl, Nat.le_of_ble_eq_true rfl⟩) rfl hl.1 rfl (Nat.le_of_ble_eq_true rfl) dL_law_358 ⟨(by show cells + 0 + 0 + 0 ≤ 601024; omega), (by show slots + 0 + 0 + 0 ≤ 7293033; omega)⟩ ?_
        refine lv_iload hx hb dL_law_361 (lv_at hl 1 rfl) ?_
        refine lv_icmp_eq (tgt := 368) hx hb dL_law_363 (by decide) (fun c10 => ?_) (fun z => absurd ((by decide)) z)
        refine lv_iload hx hb dL_law_368 (lv_at hl 1 rfl) ?_
        refine lv_if_ne (tgt := 392) hx hb dL_law_370 (by decide) (fun z => absurd ((by decide)) z) (fun c11 => ?_)
        refine lv_aload_n hx hb dL_law_373 rfl (lv_at hl 6 rfl) ?_
        refine lv_iconst (v := (0)) hx hb dL_law_374 (by decide) ?_
        refine mlald' (k := 0) hx hb hw h92 rfl (by omega) (by decide) dL_law_375 ?_
        refine lv_iload hx hb dL_law_376 (lv_at hl 0 rfl) ?_
        refine lv_if_eq (tgt := 385) hx hb dL_law_378 (by decide) (fun z => absurd z hz) (fun _ => ?_)
        refine lv_lconst (v := (1)) hx hb dL_law_381 (by decide) ?_
        refine lv_goto (tgt := 386) hx hb dL_law_382 (by decide) ?_
        refine lv_lcmp0 hx hb ((hg1.trans (if_neg hz)).symm) dL_law_386 ?_
        refine lv_if_eq (tgt := 392) hx hb dL_law_387 (by decide) (fun c12 => ?_) (fun z => absurd ((by decide)) z)
        refine lv_goto (tgt := 1415) hx hb dL_law_392 (by decide) ?_
        refine W.widen (k := cells + 2) (n := slots + 210) (by omega) (by omega) ?_
        exact kk V2 α1 (u2 f 6 k (1 - 1)) nr nw ns 0 H locs ls ⟨hC2, hM2, wf_rule hwf hk (z1_sub (Or.inr rfl)), ⟨_, h92⟩⟩ hw hS ⟨hl.1, hl.2.1, fun q hq => hl.2.2 q (List.mem_cons_of_mem _ (List.mem_cons_of_mem _ hq))⟩
  ·
    by_cases hb2 : x2 = 0
    ·
      refine lv_aload_n hx hb dL_law_304 rfl (lv_at hl 2 rfl) ?_
      refine lv_aload_n hx hb dL_law_305 rfl (lv_at hl 1 rfl) ?_
      refine lv_iload hx hb dL_law_306 (lv_at hl 0 rfl) ?_
      refine lv_iconst (v := (1)) hx hb dL_law_308 (by decide) ?_
      refine lv_iadd hx hb dL_law_309 ?_
      refine msld (v := x1) (k := j + 1) hx hb hX hbl hbA hS (nI_add j 1) (by omega) (by omega) (y1) dL_law_310 ?_
      refine lv_aload_n hx hb dL_law_311 rfl (lv_at hl 1 rfl) ?_
      refine lv_iload hx hb dL_law_312 (lv_at hl 0 rfl) ?_
      refine lv_iconst (v := (2)) hx hb dL_law_314 (by decide) ?_
      refine lv_iadd hx hb dL_law_315 ?_
      refine msld (v := x2) (k := j + 2) hx hb hX hbl hbA hS (nI_add j 2) (by omega) (by omega) (y2) dL_law_316 ?_
      refine lv_if_eq (tgt := 324) hx hb dL_law_317 (by decide) (fun _ => ?_) (fun z => absurd hb2 z)
      refine lv_iconst (v := (0)) hx hb dL_law_324 (by decide) ?_
      refine lv_aload_n hx hb dL_law_325 rfl (lv_at hl 4 rfl) ?_
      refine mcallSWi hw ⟨hx, hb, hml, hown, hts⟩ hS (x_X3_setRule hl0 hC hwf x1 0 h) (vx_cwSW 4 hts gL_law_L_setRule rfl rfl rfl (by decide +kernel) ⟨Nat.le_of_ble_eq_true rfl, Nat.le_of_ble_eq_true rfl⟩) rfl hl.1 rfl (Nat.le_of_ble_eq_true rfl) dL_law_326 ⟨(by show cells + 1 ≤ 601024; omega), (by show slots + 6 ≤ 7293033; omega)⟩ (fun r9 V1 α1 H locs hq hw hS => ?_)
      obtain ⟨er, eu⟩ := hq
      subst er
      have e1 : V1 = V := congrArg Prod.fst eu
      have e2 : α1 = α := congrArg Prod.snd eu
      have hC1 : mC G V1 α1 f nr nw ns := by rw [e1, e2]; exact hC
      have h91 : V1 9 = _ := (congrFun e1 9).trans h9
      have hO : ∀ j, j < 100 → (10 ≤ j → V1 j = V j) ∧ α1 j = α j := fun j _ => ⟨fun _ => congrFun e1 j, congrFun e2 j⟩
      have hl : lv_has ls 7 [(4, .int (nI (j))), (0, .ref (b)), (1, .ref (α1 (0))), (2, .ref (α1 (10))), (3, .ref (α1 (9)))] := by rw [(hO 0 (by omega)).2, (hO 10 (by omega)).2, (hO 9 (by omega)).2]; exact hl
      have hM1 := hM.mvC (fun j h1 h2 => (hO j (by omega)).1 h1) (fun j hj => (hO j hj).2)
      refine lv_istore (lv' := [(5, .int (1)), (4, .int (nI (j))), (0, .ref (b)), (1, .ref (α1 (0))), (2, .ref (α1 (10))), (3, .ref (α1 (9)))]) hx hb dL_law_329 hl (by decide) rfl (fun ls hl => ?_)
      refine lv_aload_n hx hb dL_law_331 rfl (lv_at hl 4 rfl) ?_
      refine lv_aload_n hx hb dL_law_332 rfl (lv_at hl 2 rfl) ?_
      refine lv_iload hx hb dL_law_333 (lv_at hl 1 rfl) ?_
      refine lv_iconst (v := (1)) hx hb dL_law_335 (by decide) ?_
      refine lv_iadd hx hb dL_law_336 ?_
      refine msld (v := x1) (k := j + 1) hx hb hX hbl hbA hS (nI_add j 1) (by omega) (by omega) (y1) dL_law_337 ?_
      refine lv_aload_n hx hb dL_law_338 rfl (lv_at hl 2 rfl) ?_
      refine lv_iload hx hb dL_law_339 (lv_at hl 1 rfl) ?_
      refine lv_iconst (v := (2)) hx hb dL_law_341 (by decide) ?_
      refine lv_iadd hx hb dL_law_342 ?_
      refine msld (v := x2) (k := j + 2) hx hb hX hbl hbA hS (nI_add j 2) (by omega) (by omega) (y2) dL_law_343 ?_
      refine lv_if_eq (tgt := 351) hx hb dL_law_344 (by decide) (fun _ => ?_) (fun z => absurd hb2 z)
      refine lv_iconst (v := (0)) hx hb dL_law_351 (by decide) ?_
      refine mcallVw hw hM1.1 rfl rfl ⟨hx, hb, hml, hown, hts⟩ hS (c_X4_setRule_1 hM1 x1 0 h) (cwV 2 hts gL_law_X4_setRule rfl rfl rfl (by decide +kernel) ⟨Nat.le_of_ble_eq_true rfl, Nat.le_of_ble_eq_true rfl⟩) rfl hl.1 rfl (Nat.le_of_ble_eq_true rfl) dL_law_352 ⟨(by show cells + 1 + 0 ≤ 601024; omega), (by show slots + 6 + 0 ≤ 7293033; omega)⟩ (fun r8 V2 α2 H locs hq hw hS => ?_)
      obtain ⟨er, hM2, hP, eα⟩ := hq
      dsimp only at hM2 hP eα
      subst er
      subst eα
      have hC2 := hC1.mvM (fun j hj => hP j hj)
      have h92 := (hP 9 (by omega)).trans h91
      refine lv_istore (lv' := [(6, .int (0)), (5, .int (1)), (4, .int (nI (j))), (0, .ref (b)), (1, .ref (α1 (0))), (2, .ref (α1 (10))), (3, .ref (α1 (9)))]) hx hb dL_law_355 hl (by decide) rfl (fun ls hl => ?_)
      refine lv_aload_n hx hb dL_law_357 rfl (lv_at hl 5 rfl) ?_
      refine mcallVi hw hM2.1 rfl rfl ⟨hx, hb, hml, hown, hts⟩ (c_X4_thrown hM2) (cwV 0 hts gL_law_X4_thrown rfl rfl rfl (by decide +kernel) ⟨Nat.le_of_ble_eq_true rfl, Nat.le_of_ble_eq_true rfl⟩) rfl hl.1 rfl (Nat.le_of_ble_eq_true rfl) dL_law_358 ⟨(by show cells + 1 + 0 + 0 ≤ 601024; omega), (by show slots + 6 + 0 + 0 ≤ 7293033; omega)⟩ ?_
      refine lv_iload hx hb dL_law_361 (lv_at hl 1 rfl) ?_
      refine lv_icmp_eq (tgt := 368) hx hb dL_law_363 (by decide) (fun c13 => ?_) (fun z => absurd ((by decide)) z)
      refine lv_iload hx hb dL_law_368 (lv_at hl 1 rfl) ?_
      refine lv_if_ne (tgt := 392) hx hb dL_law_370 (by decide) (fun c14 => ?_) (fun z => absurd z ((by decide)))
      refine lv_goto (tgt := 1415) hx hb dL_law_392 (by decide) ?_
      refine W.widen (k := cells + 2) (n := slots + 210) (by omega) (by omega) ?_
      exact kk V2 α1 (f) nr nw ns 1 H locs ls ⟨hC2, hM2, hwf, ⟨_, h92⟩⟩ hw hS ⟨hl.1, hl.2.1, fun q hq => hl.2.2 q (List.mem_cons_of_mem _ (List.mem_cons_of_mem _ hq))⟩
    ·
      refine lv_aload_n hx hb dL_law_304 rfl (lv_at hl 2 rfl) ?_
      refine lv_aload_n hx hb dL_law_305 rfl (lv_at hl 1 rfl) ?_
      refine lv_iload hx hb dL_law_306 (lv_at hl 0 rfl) ?_
      refine lv_iconst (v := (1)) hx hb dL_law_308 (by decide) ?_
      refine lv_iadd hx hb dL_law_309 ?_
      refine msld (v := x1) (k := j + 1) hx hb hX hbl hbA hS (nI_add j 1) (by omega) (by omega) (y1) dL_law_310 ?_
      refine lv_aload_n hx hb dL_law_311 rfl (lv_at hl 1 rfl) ?_
      refine lv_iload hx hb dL_law_312 (lv_at hl 0 rfl) ?_
      refine lv_iconst (v := (2)) hx hb dL_law_314 (by decide) ?_
      refine lv_iadd hx hb dL_law_315 ?_
      refine msld (v := x2) (k := j + 2) hx hb hX hbl hbA hS (nI_add j 2) (by omega) (by omega) (y2) dL_law_316 ?_
      refine lv_if_eq (tgt := 324) hx hb dL_law_317 (by decide) (fun z => absurd z hb2) (fun _ => ?_)
      refine lv_iconst (v := (1)) hx hb dL_law_320 (by decide) ?_
      refine lv_goto (tgt := 325) hx hb dL_law_321 (by decide) ?_
      refine lv_aload_n hx hb dL_law_325 rfl (lv_at hl 4 rfl) ?_
      refine mcallSWi hw ⟨hx, hb, hml, hown, hts⟩ hS (x_X3_setRule hl0 hC hwf x1 1 h) (vx_cwSW 4 hts gL_law_L_setRule rfl rfl rfl (by decide +kernel) ⟨Nat.le_of_ble_eq_true rfl, Nat.le_of_ble_eq_true rfl⟩) rfl hl.1 rfl (Nat.le_of_ble_eq_true rfl) dL_law_326 ⟨(by show cells + 1 ≤ 601024; omega), (by show slots + 6 ≤ 7293033; omega)⟩ (fun r9 V1 α1 H locs hq hw hS => ?_)
      obtain ⟨er, eu⟩ := hq
      subst er
      have e1 : V1 = V := congrArg Prod.fst eu
      have e2 : α1 = α := congrArg Prod.snd eu
      have hC1 : mC G V1 α1 f nr nw ns := by rw [e1, e2]; exact hC
      have h91 : V1 9 = _ := (congrFun e1 9).trans h9
      have hO : ∀ j, j < 100 → (10 ≤ j → V1 j = V j) ∧ α1 j = α j := fun j _ => ⟨fun _ => congrFun e1 j, congrFun e2 j⟩
      have hl : lv_has ls 7 [(4, .int (nI (j))), (0, .ref (b)), (1, .ref (α1 (0))), (2, .ref (α1 (10))), (3, .ref (α1 (9)))] := by rw [(hO 0 (by omega)).2, (hO 10 (by omega)).2, (hO 9 (by omega)).2]; exact hl
      have hM1 := hM.mvC (fun j h1 h2 => (hO j (by omega)).1 h1) (fun j hj => (hO j hj).2)
      refine lv_istore (lv' := [(5, .int (1)), (4, .int (nI (j))), (0, .ref (b)), (1, .ref (α1 (0))), (2, .ref (α1 (10))), (3, .ref (α1 (9)))]) hx hb dL_law_329 hl (by decide) rfl (fun ls hl => ?_)
      refine lv_aload_n hx hb dL_law_331 rfl (lv_at hl 4 rfl) ?_
      refine lv_aload_n hx hb dL_law_332 rfl (lv_at hl 2 rfl) ?_
      refine lv_iload hx hb dL_law_333 (lv_at hl 1 rfl) ?_
      refine lv_iconst (v := (1)) hx hb dL_law_335 (by decide) ?_
      refine lv_iadd hx hb dL_law_336 ?_
      refine msld (v := x1) (k := j + 1) hx hb hX hbl hbA hS (nI_add j 1) (by omega) (by omega) (y1) dL_law_337 ?_
      refine lv_aload_n hx hb dL_law_338 rfl (lv_at hl 2 rfl) ?_
      refine lv_iload hx hb dL_law_339 (lv_at hl 1 rfl) ?_
      refine lv_iconst (v := (2)) hx hb dL_law_341 (by decide) ?_
      refine lv_iadd hx hb dL_law_342 ?_
      refine msld (v := x2) (k := j + 2) hx hb hX hbl hbA hS (nI_add j 2) (by omega) (by omega) (y2) dL_law_343 ?_
      refine lv_if_eq (tgt := 351) hx hb dL_law_344 (by decide) (fun z => absurd z hb2) (fun _ => ?_)
      refine lv_iconst (v := (1)) hx hb dL_law_347 (by decide) ?_
      refine lv_goto (tgt := 352) hx hb dL_law_348 (by decide) ?_
      refine mcallVw hw hM1.1 rfl rfl ⟨hx, hb, hml, hown, hts⟩ hS (c_X4_setRule_1 hM1 x1 1 h) (cwV 2 hts gL_law_X4_setRule rfl rfl rfl (by decide +kernel) ⟨Nat.le_of_ble_eq_true rfl, Nat.le_of_ble_eq_true rfl⟩) rfl hl.1 rfl (Nat.le_of_ble_eq_true rfl) dL_law_352 ⟨(by show cells + 1 + 0 ≤ 601024; omega), (by show slots + 6 + 0 ≤ 7293033; omega)⟩ (fun r8 V2 α2 H locs hq hw hS => ?_)
      obtain ⟨er, hM2, hP, eα⟩ := hq
      dsimp only at hM2 hP eα
      subst er
      subst eα
      have hC2 := hC1.mvM (fun j hj => hP j hj)
      have h92 := (hP 9 (by omega)).trans h91
      refine lv_istore (lv' := [(6, .int (0)), (5, .int (1)), (4, .int (nI (j))), (0, .ref (b)), (1, .ref (α1 (0))), (2, .ref (α1 (10))), (3, .ref (α1 (9)))]) hx hb dL_law_355 hl (by decide) rfl (fun ls hl => ?_)
      refine lv_aload_n hx hb dL_law_357 rfl (lv_at hl 5 rfl) ?_
      refine mcallVi hw hM2.1 rfl rfl ⟨hx, hb, hml, hown, hts⟩ (c_X4_thrown hM2) (cwV 0 hts gL_law_X4_thrown rfl rfl rfl (by decide +kernel) ⟨Nat.le_of_ble_eq_true rfl, Nat.le_of_ble_eq_true rfl⟩) rfl hl.1 rfl (Nat.le_of_ble_eq_true rfl) dL_law_358 ⟨(by show cells + 1 + 0 + 0 ≤ 601024; omega), (by show slots + 6 + 0 + 0 ≤ 7293033; omega)⟩ ?_
      refine lv_iload hx hb dL_law_361 (lv_at hl 1 rfl) ?_
      refine lv_icmp_eq (tgt := 368) hx hb dL_law_363 (by decide) (fun c15 => ?_) (fun z => absurd ((by decide)) z)
      refine lv_iload hx hb dL_law_368 (lv_at hl 1 rfl) ?_
      refine lv_if_ne (tgt := 392) hx hb dL_law_370 (by decide) (fun c16 => ?_) (fun z => absurd z ((by decide)))
      refine lv_goto (tgt := 1415) hx hb dL_law_392 (by decide) ?_
      refine W.widen (k := cells + 2) (n := slots + 210) (by omega) (by omega) ?_
      exact kk V2 α1 (f) nr nw ns 1 H locs ls ⟨hC2, hM2, hwf, ⟨_, h92⟩⟩ hw hS ⟨hl.1, hl.2.1, fun q hq => hl.2.2 q (List.mem_cons_of_mem _ (List.mem_cons_of_mem _ hq))⟩

set_option maxHeartbeats 4000000 in
set_option maxRecDepth 100000 in
theorem op_setHoliday {p : Program} {l : Launch} {e : Env} {s : State} {m : MethodId} {args : Array Value} {below : List Frame} {meth : Method} {c : Code} {H : Heap} {locs : List Loc} {cells slots : Nat} {Q : State → Prop} {ls : Array Slot} {G : mG} {V : mV} {α : Nat → Nat} {f : sT} {nr nw ns : Nat} {th : Int32} {b L : Nat} {xs : Nat → Int32} {j : Nat} (hF : mFix p l s m args c G b L xs) (hj : j + 6 ≤ L) {x1 x2 x3 x4 x5 : Int32} (y1 : xs (j + 1) = x1) (y2 : xs (j + 2) = x2) (y3 : xs (j + 3) = x3) (y4 : xs (j + 4) = x4) (y5 : xs (j + 5) = x5) (hI : mI G V α f nr nw ns th) (hw : mW G V α s H) (hS : va_S (mfree G) s.heap H locs) (hc9 : cells + 2 ≤ 601024) (hs9 : slots + 210 ≤ 7293033) (hl : lv_has ls 7 [(4, .int (nI (j))), (0, .ref (b)), (1, .ref (α (0))), (2, .ref (α (10))), (3, .ref (α (9)))])
    (kk : ∀ (V1 : mV) (α1 : Nat → Nat) (f1 : sT) (nr1 nw1 ns1 : Nat) (th1 : Int32) (H1 : Heap) (locs1 : List Loc) (ls1 : Array Slot), mI G V1 α1 f1 nr1 nw1 ns1 th1 → mW G V1 α1 s H1 → va_S (mfree G) s.heap H1 locs1 → lv_has ls1 7 [(4, .int (nI (j))), (0, .ref (b)), (1, .ref (α1 (0))), (2, .ref (α1 (10))), (3, .ref (α1 (9)))] → W p l e room_1 s m args below meth c H1 locs1 (cells + 2) (slots + 210) Q (F0 m 1415 ls1 [])) : W p l e room_1 s m args below meth c H locs cells slots Q (F0 m 395 ls []) := by
  obtain ⟨hl0, hx, hb, hml, hown, hts, hX, hbl, hbA, hL⟩ := hF
  obtain ⟨hC, hM, hwf, g0, h9⟩ := hI
  obtain ⟨hnr, hnw, hns⟩ := hwf.1
  by_cases h : inn x1 0 363
  ·
    obtain ⟨k, hk, rfl⟩ := ixc (n := 364) (by decide) (by decide +kernel) h
    by_cases hb2 : x2 = 0
    ·
      by_cases hz : f 7 k = 0
      ·
        refine lv_aload_n hx hb dL_law_395 rfl (lv_at hl 2 rfl) ?_
        refine lv_aload_n hx hb dL_law_396 rfl (lv_at hl 1 rfl) ?_
        refine lv_iload hx hb dL_law_397 (lv_at hl 0 rfl) ?_
        refine lv_iconst (v := (1)) hx hb dL_law_399 (by decide) ?_
        refine lv_iadd hx hb dL_law_400 ?_
        refine msld (v := nI (k)) (k := j + 1) hx hb hX hbl hbA hS (nI_add j 1) (by omega) (by omega) (y1) dL_law_401 ?_
        refine lv_aload_n hx hb dL_law_402 rfl (lv_at hl 1 rfl) ?_
        refine lv_iload hx hb dL_law_403 (lv_at hl 0 rfl) ?_
        refine lv_iconst (v := (2)) hx hb dL_law_405 (by decide) ?_
        refine lv_iadd hx hb dL_law_406 ?_
        refine msld (v := x2) (k := j + 2) hx hb hX hbl hbA hS (nI_add j 2) (by omega) (by omega) (y2) dL_law_407 ?_
        refine lv_if_eq (tgt := 415) hx hb dL_law_408 (by decide) (fun _ => ?_) (fun z => absurd hb2 z)
        refine lv_iconst (v := (0)) hx hb dL_law_415 (by decide) ?_
        refine lv_aload_n hx hb dL_law_416 rfl (lv_at hl 4 rfl) ?_
        refine mcallSWi hw ⟨hx, hb, hml, hown, hts⟩ hS (w_X3_setHoliday hC hwf k hk 0 (Or.inl rfl) h9) (vx_cwSW 4 hts gL_law_L_setHoliday rfl rfl rfl (by decide +kernel) ⟨Nat.le_of_ble_eq_true rfl, Nat.le_of_ble_eq_true rfl⟩) rfl hl.1 rfl (Nat.le_of_ble_eq_true rfl) dL_law_417 ⟨(by show cells + 0 ≤ 601024; omega), (by show slots + 0 ≤ 7293033; omega)⟩ (fun r9 V1 α1 H locs hq hw hS => ?_)
        obtain ⟨er, hC1, hO, g1, h91, hg1⟩ := hq
        dsimp only at hC1 hO h91
        subst er
        have hl : lv_has ls 7 [(4, .int (nI (j))), (0, .ref (b)), (1, .ref (α1 (0))), (2, .ref (α1 (10))), (3, .ref (α1 (9)))] := by rw [(hO 0 (by omega)).2, (hO 10 (by omega)).2, (hO 9 (by omega)).2]; exact hl
        have hM1 := hM.mvC (fun j h1 h2 => (hO j (by omega)).1 h1) (fun j hj => (hO j hj).2)
        refine lv_istore (lv' := [(5, .int (0)), (4, .int (nI (j))), (0, .ref (b)), (1, .ref (α1 (0))), (2, .ref (α1 (10))), (3, .ref (α1 (9)))]) hx hb dL_law_420 hl (by decide) rfl (fun ls hl => ?_)
        refine lv_aload_n hx hb dL_law_422 rfl (lv_at hl 4 rfl) ?_
        refine lv_aload_n hx hb dL_law_423 rfl (lv_at hl 2 rfl) ?_
        refine lv_iload hx hb dL_law_424 (lv_at hl 1 rfl) ?_
        refine lv_iconst (v := (1)) hx hb dL_law_426 (by decide) ?_
        refine lv_iadd hx hb dL_law_427 ?_
        refine msld (v := nI (k)) (k := j + 1) hx hb hX hbl hbA hS (nI_add j 1) (by omega) (by omega) (y1) dL_law_428 ?_
        refine lv_aload_n hx hb dL_law_429 rfl (lv_at hl 2 rfl) ?_
        refine lv_iload hx hb dL_law_430 (lv_at hl 1 rfl) ?_
        refine lv_iconst (v := (2)) hx hb dL_law_432 (by decide) ?_
        refine lv_iadd hx hb dL_law_433 ?_
        refine msld (v := x2) (k := j + 2) hx hb hX hbl hbA hS (nI_add j 2) (by omega) (by omega) (y2) dL_law_434 ?_
        refine lv_if_eq (tgt := 442) hx hb dL_law_435 (by decide) (fun _ => ?_) (fun z => absurd hb2 z)
        refine lv_iconst (v := (0)) hx hb dL_law_442 (by decide) ?_
        refine mcallVw hw hM1.1 rfl rfl ⟨hx, hb, hml, hown, hts⟩ hS (c_X4_setHoliday hM1 k hk 0 (Or.inl rfl) (hwf.2.2.2.2.1 k)) (cwV 2 hts gL_law_X4_setHoliday rfl rfl rfl (by decide +kernel) ⟨Nat.le_of_ble_eq_true rfl, Nat.le_of_ble_eq_true rfl⟩) rfl hl.1 rfl (Nat.le_of_ble_eq_true rfl) dL_law_443 ⟨(by show cells + 0 + 0 ≤ 601024; omega), (by show slots + 0 + 0 ≤ 7293033; omega)⟩ (fun r8 V2 α2 H locs hq hw hS => ?_)
        obtain ⟨er, hM2, hP, eα⟩ := hq
        dsimp only at hM2 hP eα
        subst er
        subst eα
        have hC2 := hC1.mvM (fun j hj => hP j hj)
        have h92 := (hP 9 (by omega)).trans h91
        refine lv_istore (lv' := [(6, .int (f 7 k)), (5, .int (0)), (4, .int (nI (j))), (0, .ref (b)), (1, .ref (α1 (0))), (2, .ref (α1 (10))), (3, .ref (α1 (9)))]) hx hb dL_law_446 hl (by decide) rfl (fun ls hl => ?_)
        refine lv_aload_n hx hb dL_law_448 rfl (lv_at hl 5 rfl) ?_
        refine mcallVi hw hM2.1 rfl rfl ⟨hx, hb, hml, hown, hts⟩ (c_X4_thrown hM2) (cwV 0 hts gL_law_X4_thrown rfl rfl rfl (by decide +kernel) ⟨Nat.le_of_ble_eq_true rfl, Nat.le_of_ble_eq_true rfl⟩) rfl hl.1 rfl (Nat.le_of_ble_eq_true rfl) dL_law_449 ⟨(by show cells + 0 + 0 + 0 ≤ 601024; omega), (by show slots + 0 + 0 + 0 ≤ 7293033; omega)⟩ ?_
        refine lv_iload hx hb dL_law_452 (lv_at hl 1 rfl) ?_
        refine lv_icmp_eq (tgt := 459) hx hb dL_law_454 (by decide) (fun c1 => ?_) (fun z => absurd ((by decide)) z)
        refine lv_iload hx hb dL_law_459 (lv_at hl 1 rfl) ?_
        refine lv_if_ne (tgt := 483) hx hb dL_law_461 (by decide) (fun z => absurd ((by decide)) z) (fun c2 => ?_)
        refine lv_aload_n hx hb dL_law_464 rfl (lv_at hl 6 rfl) ?_
        refine lv_iconst (v := (0)) hx hb dL_law_465 (by decide) ?_
        refine mlald' (k := 0) hx hb hw h92 rfl (by omega) (by decide) dL_law_466 ?_
        refine lv_iload hx hb dL_law_467 (lv_at hl 0 rfl) ?_
        refine lv_if_eq (tgt := 476) hx hb dL_law_469 (by decide) (fun _ => ?_) (fun z => absurd hz z)
        refine lv_lconst (v := (0)) hx hb dL_law_476 (by decide) ?_
        refine lv_lcmp0 hx hb ((hg1.trans (if_pos hz)).symm) dL_law_477 ?_
        refine lv_if_eq (tgt := 483) hx hb dL_law_478 (by decide) (fun c3 => ?_) (fun z => absurd ((by decide)) z)
        refine lv_goto (tgt := 1415) hx hb dL_law_483 (by decide) ?_
        refine W.widen (k := cells + 2) (n := slots + 210) (by omega) (by omega) ?_
        exact kk V2 α1 (u2 f 7 k 0) nr nw ns 0 H locs ls ⟨hC2, hM2, wf_hol hwf k (Or.inl rfl), ⟨_, h92⟩⟩ hw hS ⟨hl.1, hl.2.1, fun q hq => hl.2.2 q (List.mem_cons_of_mem _ (List.mem_cons_of_mem _ hq))⟩
      ·
        refine lv_aload_n hx hb dL_law_395 rfl (lv_at hl 2 rfl) ?_
        refine lv_aload_n hx hb dL_law_396 rfl (lv_at hl 1 rfl) ?_
        refine lv_iload hx hb dL_law_397 (lv_at hl 0 rfl) ?_
        refine lv_iconst (v := (1)) hx hb dL_law_399 (by decide) ?_
        refine lv_iadd hx hb dL_law_400 ?_
        refine msld (v := nI (k)) (k := j + 1) hx hb hX hbl hbA hS (nI_add j 1) (by omega) (by omega) (y1) dL_law_401 ?_
        refine lv_aload_n hx hb dL_law_402 rfl (lv_at hl 1 rfl) ?_
        refine lv_iload hx hb dL_law_403 (lv_at hl 0 rfl) ?_
        refine lv_iconst (v := (2)) hx hb dL_law_405 (by decide) ?_
        refine lv_iadd hx hb dL_law_406 ?_
        refine msld (v := x2) (k := j + 2) hx hb hX hbl hbA hS (nI_add j 2) (by omega) (by omega) (y2) dL_law_407 ?_
        refine lv_if_eq (tgt := 415) hx hb dL_law_408 (by decide) (fun _ => ?_) (fun z => absurd hb2 z)
        refine lv_iconst (v := (0)) hx hb dL_law_415 (by decide) ?_
        refine lv_aload_n hx hb dL_law_416 rfl (lv_at hl 4 rfl) ?_
        refine mcallSWi hw ⟨hx, hb, hml, hown, hts⟩ hS (w_X3_setHoliday hC hwf k hk 0 (Or.inl rfl) h9) (vx_cwSW 4 hts gL_law_L_setHoliday rfl rfl rfl (by decide +kernel) ⟨Nat.le_of_ble_eq_true rfl, Nat.le_of_ble_eq_true rfl⟩) rfl hl.1 rfl (Nat.le_of_ble_eq_true rfl) dL_law_417 ⟨(by show cells + 0 ≤ 601024; omega), (by show slots + 0 ≤ 7293033; omega)⟩ (fun r9 V1 α1 H locs hq hw hS => ?_)
        obtain ⟨er, hC1, hO, g1, h91, hg1⟩ := hq
        dsimp only at hC1 hO h91
        subst er
        have hl : lv_has ls 7 [(4, .int (nI (j))), (0, .ref (b)), (1, .ref (α1 (0))), (2, .ref (α1 (10))), (3, .ref (α1 (9)))] := by rw [(hO 0 (by omega)).2, (hO 10 (by omega)).2, (hO 9 (by omega)).2]; exact hl
        have hM1 := hM.mvC (fun j h1 h2 => (hO j (by omega)).1 h1) (fun j hj => (hO j hj).2)
        refine lv_istore (lv' := [(5, .int (0)), (4, .int (nI (j))), (0, .ref (b)), (1, .ref (α1 (0))), (2, .ref (α1 (10))), (3, .ref (α1 (9)))]) hx hb dL_law_420 hl (by decide) rfl (fun ls hl => ?_)
        refine lv_aload_n hx hb dL_law_422 rfl (lv_at hl 4 rfl) ?_
        refine lv_aload_n hx hb dL_law_423 rfl (lv_at hl 2 rfl) ?_
        refine lv_iload hx hb dL_law_424 (lv_at hl 1 rfl) ?_
        refine lv_iconst (v := (1)) hx hb dL_law_426 (by decide) ?_
        refine lv_iadd hx hb dL_law_427 ?_
        refine msld (v := nI (k)) (k := j + 1) hx hb hX hbl hbA hS (nI_add j 1) (by omega) (by omega) (y1) dL_law_428 ?_
        refine lv_aload_n hx hb dL_law_429 rfl (lv_at hl 2 rfl) ?_
        refine lv_iload hx hb dL_law_430 (lv_at hl 1 rfl) ?_
        refine lv_iconst (v := (2)) hx hb dL_law_432 (by decide) ?_
        refine lv_iadd hx hb dL_law_433 ?_
        refine msld (v := x2) (k := j + 2) hx hb hX hbl hbA hS (nI_add j 2) (by omega) (by omega) (y2) dL_law_434 ?_
        refine lv_if_eq (tgt := 442) hx hb dL_law_435 (by decide) (fun _ => ?_) (fun z => absurd hb2 z)
        refine lv_iconst (v := (0)) hx hb dL_law_442 (by decide) ?_
        refine mcallVw hw hM1.1 rfl rfl ⟨hx, hb, hml, hown, hts⟩ hS (c_X4_setHoliday hM1 k hk 0 (Or.inl rfl) (hwf.2.2.2.2.1 k)) (cwV 2 hts gL_law_X4_setHoliday rfl rfl rfl (by decide +kernel) ⟨Nat.le_of_ble_eq_true rfl, Nat.le_of_ble_eq_true rfl⟩) rfl hl.1 rfl (Nat.le_of_ble_eq_true rfl) dL_law_443 ⟨(by show cells + 0 + 0 ≤ 601024; omega), (by show slots + 0 + 0 ≤ 7293033; omega)⟩ (fun r8 V2 α2 H locs hq hw hS => ?_)
        obtain ⟨er, hM2, hP, eα⟩ := hq
        dsimp only at hM2 hP eα
        subst er
        subst eα
        have hC2 := hC1.mvM (fun j hj => hP j hj)
        have h92 := (hP 9 (by omega)).trans h91
        refine lv_istore (lv' := [(6, .int (f 7 k)), (5, .int (0)), (4, .int (nI (j))), (0, .ref (b)), (1, .ref (α1 (0))), (2, .ref (α1 (10))), (3, .ref (α1 (9)))]) hx hb dL_law_446 hl (by decide) rfl (fun ls hl => ?_)
        refine lv_aload_n hx hb dL_law_448 rfl (lv_at hl 5 rfl) ?_
        refine mcallVi hw hM2.1 rfl rfl ⟨hx, hb, hml, hown, hts⟩ (c_X4_thrown hM2) (cwV 0 hts gL_law_X4_thrown rfl rfl rfl (by decide +kernel) ⟨Nat.le_of_ble_eq_true rfl, Nat.le_of_ble_eq_true rfl⟩) rfl hl.1 rfl (Nat.le_of_ble_eq_true rfl) dL_law_449 ⟨(by show cells + 0 + 0 + 0 ≤ 601024; omega), (by show slots + 0 + 0 + 0 ≤ 7293033; omega)⟩ ?_
        refine lv_iload hx hb dL_law_452 (lv_at hl 1 rfl) ?_
        refine lv_icmp_eq (tgt := 459) hx hb dL_law_454 (by decide) (fun c4 => ?_) (fun z => absurd ((by decide)) z)
        refine lv_iload hx hb dL_law_459 (lv_at hl 1 rfl) ?_
        refine lv_if_ne (tgt := 483) hx hb dL_law_461 (by decide) (fun z => absurd ((by decide)) z) (fun c5 => ?_)
        refine lv_aload_n hx hb dL_law_464 rfl (lv_at hl 6 rfl) ?_
        refine lv_iconst (v := (0)) hx hb dL_law_465 (by decide) ?_
        refine mlald' (k := 0) hx hb hw h92 rfl (by omega) (by decide) dL_law_466 ?_
        refine lv_iload hx hb dL_law_467 (lv_at hl 0 rfl) ?_
        refine lv_if_eq (tgt := 476) hx hb dL_law_469 (by decide) (fun z => absurd z hz) (fun _ => ?_)
        refine lv_lconst (v := (1)) hx hb dL_law_472 (by decide) ?_
        refine lv_goto (tgt := 477) hx hb dL_law_473 (by decide) ?_
        refine lv_lcmp0 hx hb ((hg1.trans (if_neg hz)).symm) dL_law_477 ?_
        refine lv_if_eq (tgt := 483) hx hb dL_law_478 (by decide) (fun c6 => ?_) (fun z => absurd ((by decide)) z)
        refine lv_goto (tgt := 1415) hx hb dL_law_483 (by decide) ?_
        refine W.widen (k := cells + 2) (n := slots + 210) (by omega) (by omega) ?_
        exact kk V2 α1 (u2 f 7 k 0) nr nw ns 0 H locs ls ⟨hC2, hM2, wf_hol hwf k (Or.inl rfl), ⟨_, h92⟩⟩ hw hS ⟨hl.1, hl.2.1, fun q hq => hl.2.2 q (List.mem_cons_of_mem _ (List.mem_cons_of_mem _ hq))⟩
    ·
      by_cases hz : f 7 k = 0
      ·
        refine lv_aload_n hx hb dL_law_395 rfl (lv_at hl 2 rfl) ?_
        refine lv_aload_n hx hb dL_law_396 rfl (lv_at hl 1 rfl) ?_
        refine lv_iload hx hb dL_law_397 (lv_at hl 0 rfl) ?_
        refine lv_iconst (v := (1)) hx hb dL_law_399 (by decide) ?_
        refine lv_iadd hx hb dL_law_400 ?_
        refine msld (v := nI (k)) (k := j + 1) hx hb hX hbl hbA hS (nI_add j 1) (by omega) (by omega) (y1) dL_law_401 ?_
        refine lv_aload_n hx hb dL_law_402 rfl (lv_at hl 1 rfl) ?_
        refine lv_iload hx hb dL_law_403 (lv_at hl 0 rfl) ?_
        refine lv_iconst (v := (2)) hx hb dL_law_405 (by decide) ?_
        refine lv_iadd hx hb dL_law_406 ?_
        refine msld (v := x2) (k := j + 2) hx hb hX hbl hbA hS (nI_add j 2) (by omega) (by omega) (y2) dL_law_407 ?_
        refine lv_if_eq (tgt := 415) hx hb dL_law_408 (by decide) (fun z => absurd z hb2) (fun _ => ?_)
        refine lv_iconst (v := (1)) hx hb dL_law_411 (by decide) ?_
        refine lv_goto (tgt := 416) hx hb dL_law_412 (by decide) ?_
        refine lv_aload_n hx hb dL_law_416 rfl (lv_at hl 4 rfl) ?_
        refine mcallSWi hw ⟨hx, hb, hml, hown, hts⟩ hS (w_X3_setHoliday hC hwf k hk 1 (Or.inr rfl) h9) (vx_cwSW 4 hts gL_law_L_setHoliday rfl rfl rfl (by decide +kernel) ⟨Nat.le_of_ble_eq_true rfl, Nat.le_of_ble_eq_true rfl⟩) rfl hl.1 rfl (Nat.le_of_ble_eq_true rfl) dL_law_417 ⟨(by show cells + 0 ≤ 601024; omega), (by show slots + 0 ≤ 7293033; omega)⟩ (fun r9 V1 α1 H locs hq hw hS => ?_)
        obtain ⟨er, hC1, hO, g1, h91, hg1⟩ := hq
        dsimp only at hC1 hO h91
        subst er
        have hl : lv_has ls 7 [(4, .int (nI (j))), (0, .ref (b)), (1, .ref (α1 (0))), (2, .ref (α1 (10))), (3, .ref (α1 (9)))] := by rw [(hO 0 (by omega)).2, (hO 10 (by omega)).2, (hO 9 (by omega)).2]; exact hl
        have hM1 := hM.mvC (fun j h1 h2 => (hO j (by omega)).1 h1) (fun j hj => (hO j hj).2)
        refine lv_istore (lv' := [(5, .int (0)), (4, .int (nI (j))), (0, .ref (b)), (1, .ref (α1 (0))), (2, .ref (α1 (10))), (3, .ref (α1 (9)))]) hx hb dL_law_420 hl (by decide) rfl (fun ls hl => ?_)
        refine lv_aload_n hx hb dL_law_422 rfl (lv_at hl 4 rfl) ?_
        refine lv_aload_n hx hb dL_law_423 rfl (lv_at hl 2 rfl) ?_
        refine lv_iload hx hb dL_law_424 (lv_at hl 1 rfl) ?_
        refine lv_iconst (v := (1)) hx hb dL_law_426 (by decide) ?_
        refine lv_iadd hx hb dL_law_427 ?_
        refine msld (v := nI (k)) (k := j + 1) hx hb hX hbl hbA hS (nI_add j 1) (by omega) (by omega) (y1) dL_law_428 ?_
        refine lv_aload_n hx hb dL_law_429 rfl (lv_at hl 2 rfl) ?_
        refine lv_iload hx hb dL_law_430 (lv_at hl 1 rfl) ?_
        refine lv_iconst (v := (2)) hx hb dL_law_432 (by decide) ?_
        refine lv_iadd hx hb dL_law_433 ?_
        refine msld (v := x2) (k := j + 2) hx hb hX hbl hbA hS (nI_add j 2) (by omega) (by omega) (y2) dL_law_434 ?_
        refine lv_if_eq (tgt := 442) hx hb dL_law_435 (by decide) (fun z => absurd z hb2) (fun _ => ?_)
        refine lv_iconst (v := (1)) hx hb dL_law_438 (by decide) ?_
        refine lv_goto (tgt := 443) hx hb dL_law_439 (by decide) ?_
        refine mcallVw hw hM1.1 rfl rfl ⟨hx, hb, hml, hown, hts⟩ hS (c_X4_setHoliday hM1 k hk 1 (Or.inr rfl) (hwf.2.2.2.2.1 k)) (cwV 2 hts gL_law_X4_setHoliday rfl rfl rfl (by decide +kernel) ⟨Nat.le_of_ble_eq_true rfl, Nat.le_of_ble_eq_true rfl⟩) rfl hl.1 rfl (Nat.le_of_ble_eq_true rfl) dL_law_443 ⟨(by show cells + 0 + 0 ≤ 601024; omega), (by show slots + 0 + 0 ≤ 7293033; omega)⟩ (fun r8 V2 α2 H locs hq hw hS => ?_)
        obtain ⟨er, hM2, hP, eα⟩ := hq
        dsimp only at hM2 hP eα
        subst er
        subst eα
        have hC2 := hC1.mvM (fun j hj => hP j hj)
        have h92 := (hP 9 (by omega)).trans h91
        refine lv_istore (lv' := [(6, .int (f 7 k)), (5, .int (0)), (4, .int (nI (j))), (0, .ref (b)), (1, .ref (α1 (0))), (2, .ref (α1 (10))), (3, .ref (α1 (9)))]) hx hb dL_law_446 hl (by decide) rfl (fun ls hl => ?_)
        refine lv_aload_n hx hb dL_law_448 rfl (lv_at hl 5 rfl) ?_
        refine mcallVi hw hM2.1 rfl rfl ⟨hx, hb, hml, hown, hts⟩ (c_X4_thrown hM2) (cwV 0 hts gL_law_X4_thrown rfl rfl rfl (by decide +kernel) ⟨Nat.le_of_ble_eq_true rfl, Nat.le_of_ble_eq_true rfl⟩) rfl hl.1 rfl (Nat.le_of_ble_eq_true rfl) dL_law_449 ⟨(by show cells + 0 + 0 + 0 ≤ 601024; omega), (by show slots + 0 + 0 + 0 ≤ 7293033; omega)⟩ ?_
        refine lv_iload hx hb dL_law_452 (lv_at hl 1 rfl) ?_
        refine lv_icmp_eq (tgt := 459) hx hb dL_law_454 (by decide) (fun c7 => ?_) (fun z => absurd ((by decide)) z)
        refine lv_iload hx hb dL_law_459 (lv_at hl 1 rfl) ?_
        refine lv_if_ne (tgt := 483) hx hb dL_law_461 (by decide) (fun z => absurd ((by decide)) z) (fun c8 => ?_)
        refine lv_aload_n hx hb dL_law_464 rfl (lv_at hl 6 rfl) ?_
        refine lv_iconst (v := (0)) hx hb dL_law_465 (by decide) ?_
        refine mlald' (k := 0) hx hb hw h92 rfl (by omega) (by decide) dL_law_466 ?_
        refine lv_iload hx hb dL_law_467 (lv_at hl 0 rfl) ?_
        refine lv_if_eq (tgt := 476) hx hb dL_law_469 (by decide) (fun _ => ?_) (fun z => absurd hz z)
        refine lv_lconst (v := (0)) hx hb dL_law_476 (by decide) ?_
        refine lv_lcmp0 hx hb ((hg1.trans (if_pos hz)).symm) dL_law_477 ?_
        refine lv_if_eq (tgt := 483) hx hb dL_law_478 (by decide) (fun c9 => ?_) (fun z => absurd ((by decide)) z)
        refine lv_goto (tgt := 1415) hx hb dL_law_483 (by decide) ?_
        refine W.widen (k := cells + 2) (n := slots + 210) (by omega) (by omega) ?_
        exact kk V2 α1 (u2 f 7 k 1) nr nw ns 0 H locs ls ⟨hC2, hM2, wf_hol hwf k (Or.inr rfl), ⟨_, h92⟩⟩ hw hS ⟨hl.1, hl.2.1, fun q hq => hl.2.2 q (List.mem_cons_of_mem _ (List.mem_cons_of_mem _ hq))⟩
      ·
        refine lv_aload_n hx hb dL_law_395 rfl (lv_at hl 2 rfl) ?_
        refine lv_aload_n hx hb dL_law_396 rfl (lv_at hl 1 rfl) ?_
        refine lv_iload hx hb dL_law_397 (lv_at hl 0 rfl) ?_
        refine lv_iconst (v := (1)) hx hb dL_law_399 (by decide) ?_
        refine lv_iadd hx hb dL_law_400 ?_
        refine msld (v := nI (k)) (k := j + 1) hx hb hX hbl hbA hS (nI_add j 1) (by omega) (by omega) (y1) dL_law_401 ?_
        refine lv_aload_n hx hb dL_law_402 rfl (lv_at hl 1 rfl) ?_
        refine lv_iload hx hb dL_law_403 (lv_at hl 0 rfl) ?_
        refine lv_iconst (v := (2)) hx hb dL_law_405 (by decide) ?_
        refine lv_iadd hx hb dL_law_406 ?_
        refine msld (v := x2) (k := j + 2) hx hb hX hbl hbA hS (nI_add j 2) (by omega) (by omega) (y2) dL_law_407 ?_
        refine lv_if_eq (tgt := 415) hx hb dL_law_408 (by decide) (fun z => absurd z hb2) (fun _ => ?_)
        refine lv_iconst (v := (1)) hx hb dL_law_411 (by decide) ?_
        refine lv_goto (tgt := 416) hx hb dL_law_412 (by decide) ?_
        refine lv_aload_n hx hb dL_law_416 rfl (lv_at hl 4 rfl) ?_
        refine mcallSWi hw ⟨hx, hb, hml, hown, hts⟩ hS (w_X3_setHoliday hC hwf k hk 1 (Or.inr rfl) h9) (vx_cwSW 4 hts gL_law_L_setHoliday rfl rfl rfl (by decide +kernel) ⟨Nat.le_of_ble_eq_true rfl, Nat.le_of_ble_eq_true rfl⟩) rfl hl.1 rfl (Nat.le_of_ble_eq_true rfl) dL_law_417 ⟨(by show cells + 0 ≤ 601024; omega), (by show slots + 0 ≤ 7293033; omega)⟩ (fun r9 V1 α1 H locs hq hw hS => ?_)
        obtain ⟨er, hC1, hO, g1, h91, hg1⟩ := hq
        dsimp only at hC1 hO h91
        subst er
        have hl : lv_has ls 7 [(4, .int (nI (j))), (0, .ref (b)), (1, .ref (α1 (0))), (2, .ref (α1 (10))), (3, .ref (α1 (9)))] := by rw [(hO 0 (by omega)).2, (hO 10 (by omega)).2, (hO 9 (by omega)).2]; exact hl
        have hM1 := hM.mvC (fun j h1 h2 => (hO j (by omega)).1 h1) (fun j hj => (hO j hj).2)
        refine lv_istore (lv' := [(5, .int (0)), (4, .int (nI (j))), (0, .ref (b)), (1, .ref (α1 (0))), (2, .ref (α1 (10))), (3, .ref (α1 (9)))]) hx hb dL_law_420 hl (by decide) rfl (fun ls hl => ?_)
        refine lv_aload_n hx hb dL_law_422 rfl (lv_at hl 4 rfl) ?_
        refine lv_aload_n hx hb dL_law_423 rfl (lv_at hl 2 rfl) ?_
        refine lv_iload hx hb dL_law_424 (lv_at hl 1 rfl) ?_
        refine lv_iconst (v := (1)) hx hb dL_law_426 (by decide) ?_
        refine lv_iadd hx hb dL_law_427 ?_
        refine msld (v := nI (k)) (k := j + 1) hx hb hX hbl hbA hS (nI_add j 1) (by omega) (by omega) (y1) dL_law_428 ?_
        refine lv_aload_n hx hb dL_law_429 rfl (lv_at hl 2 rfl) ?_
        refine lv_iload hx hb dL_law_430 (lv_at hl 1 rfl) ?_
        refine lv_iconst (v := (2)) hx hb dL_law_432 (by decide) ?_
        refine lv_iadd hx hb dL_law_433 ?_
        refine msld (v := x2) (k := j + 2) hx hb hX hbl hbA hS (nI_add j 2) (by omega) (by omega) (y2) dL_law_434 ?_
        refine lv_if_eq (tgt := 442) hx hb dL_law_435 (by decide) (fun z => absurd z hb2) (fun _ => ?_)
        refine lv_iconst (v := (1)) hx hb dL_law_438 (by decide) ?_
        refine lv_goto (tgt := 443) hx hb dL_law_439 (by decide) ?_
        refine mcallVw hw hM1.1 rfl rfl ⟨hx, hb, hml, hown, hts⟩ hS (c_X4_setHoliday hM1 k hk 1 (Or.inr rfl) (hwf.2.2.2.2.1 k)) (cwV 2 hts gL_law_X4_setHoliday rfl rfl rfl (by decide +kernel) ⟨Nat.le_of_ble_eq_true rfl, Nat.le_of_ble_eq_true rfl⟩) rfl hl.1 rfl (Nat.le_of_ble_eq_true rfl) dL_law_443 ⟨(by show cells + 0 + 0 ≤ 601024; omega), (by show slots + 0 + 0 ≤ 7293033; omega)⟩ (fun r8 V2 α2 H locs hq hw hS => ?_)
        obtain ⟨er, hM2, hP, eα⟩ := hq
        dsimp only at hM2 hP eα
        subst er
        subst eα
        have hC2 := hC1.mvM (fun j hj => hP j hj)
        have h92 := (hP 9 (by omega)).trans h91
        refine lv_istore (lv' := [(6, .int (f 7 k)), (5, .int (0)), (4, .int (nI (j))), (0, .ref (b)), (1, .ref (α1 (0))), (2, .ref (α1 (10))), (3, .ref (α1 (9)))]) hx hb dL_law_446 hl (by decide) rfl (fun ls hl => ?_)
        refine lv_aload_n hx hb dL_law_448 rfl (lv_at hl 5 rfl) ?_
        refine mcallVi hw hM2.1 rfl rfl ⟨hx, hb, hml, hown, hts⟩ (c_X4_thrown hM2) (cwV 0 hts gL_law_X4_thrown rfl rfl rfl (by decide +kernel) ⟨Nat.le_of_ble_eq_true rfl, Nat.le_of_ble_eq_true rfl⟩) rfl hl.1 rfl (Nat.le_of_ble_eq_true rfl) dL_law_449 ⟨(by show cells + 0 + 0 + 0 ≤ 601024; omega), (by show slots + 0 + 0 + 0 ≤ 7293033; omega)⟩ ?_
        refine lv_iload hx hb dL_law_452 (lv_at hl 1 rfl) ?_
        refine lv_icmp_eq (tgt := 459) hx hb dL_law_454 (by decide) (fun c10 => ?_) (fun z => absurd ((by decide)) z)
        refine lv_iload hx hb dL_law_459 (lv_at hl 1 rfl) ?_
        refine lv_if_ne (tgt := 483) hx hb dL_law_461 (by decide) (fun z => absurd ((by decide)) z) (fun c11 => ?_)
        refine lv_aload_n hx hb dL_law_464 rfl (lv_at hl 6 rfl) ?_
        refine lv_iconst (v := (0)) hx hb dL_law_465 (by decide) ?_
        refine mlald' (k := 0) hx hb hw h92 rfl (by omega) (by decide) dL_law_466 ?_
        refine lv_iload hx hb dL_law_467 (lv_at hl 0 rfl) ?_
        refine lv_if_eq (tgt := 476) hx hb dL_law_469 (by decide) (fun z => absurd z hz) (fun _ => ?_)
        refine lv_lconst (v := (1)) hx hb dL_law_472 (by decide) ?_
        refine lv_goto (tgt := 477) hx hb dL_law_473 (by decide) ?_
        refine lv_lcmp0 hx hb ((hg1.trans (if_neg hz)).symm) dL_law_477 ?_
        refine lv_if_eq (tgt := 483) hx hb dL_law_478 (by decide) (fun c12 => ?_) (fun z => absurd ((by decide)) z)
        refine lv_goto (tgt := 1415) hx hb dL_law_483 (by decide) ?_
        refine W.widen (k := cells + 2) (n := slots + 210) (by omega) (by omega) ?_
        exact kk V2 α1 (u2 f 7 k 1) nr nw ns 0 H locs ls ⟨hC2, hM2, wf_hol hwf k (Or.inr rfl), ⟨_, h92⟩⟩ hw hS ⟨hl.1, hl.2.1, fun q hq => hl.2.2 q (List.mem_cons_of_mem _ (List.mem_cons_of_mem _ hq))⟩
  ·
    by_cases hb2 : x2 = 0
    ·
      refine lv_aload_n hx hb dL_law_395 rfl (lv_at hl 2 rfl) ?_
      refine lv_aload_n hx hb dL_law_396 rfl (lv_at hl 1 rfl) ?_
      refine lv_iload hx hb dL_law_397 (lv_at hl 0 rfl) ?_
      refine lv_iconst (v := (1)) hx hb dL_law_399 (by decide) ?_
      refine lv_iadd hx hb dL_law_400 ?_
      refine msld (v := x1) (k := j + 1) hx hb hX hbl hbA hS (nI_add j 1) (by omega) (by omega) (y1) dL_law_401 ?_
      refine lv_aload_n hx hb dL_law_402 rfl (lv_at hl 1 rfl) ?_
      refine lv_iload hx hb dL_law_403 (lv_at hl 0 rfl) ?_
      refine lv_iconst (v := (2)) hx hb dL_law_405 (by decide) ?_
      refine lv_iadd hx hb dL_law_406 ?_
      refine msld (v := x2) (k := j + 2) hx hb hX hbl hbA hS (nI_add j 2) (by omega) (by omega) (y2) dL_law_407 ?_
      refine lv_if_eq (tgt := 415) hx hb dL_law_408 (by decide) (fun _ => ?_) (fun z => absurd hb2 z)
      refine lv_iconst (v := (0)) hx hb dL_law_415 (by decide) ?_
      refine lv_aload_n hx hb dL_law_416 rfl (lv_at hl 4 rfl) ?_
      refine mcallSWi hw ⟨hx, hb, hml, hown, hts⟩ hS (x_X3_setHoliday hl0 hC hwf x1 0 h) (vx_cwSW 4 hts gL_law_L_setHoliday rfl rfl rfl (by decide +kernel) ⟨Nat.le_of_ble_eq_true rfl, Nat.le_of_ble_eq_true rfl⟩) rfl hl.1 rfl (Nat.le_of_ble_eq_true rfl) dL_law_417 ⟨(by show cells + 1 ≤ 601024; omega), (by show slots + 6 ≤ 7293033; omega)⟩ (fun r9 V1 α1 H locs hq hw hS => ?_)
      obtain ⟨er, eu⟩ := hq
      subst er
      have e1 : V1 = V := congrArg Prod.fst eu
      have e2 : α1 = α := congrArg Prod.snd eu
      have hC1 : mC G V1 α1 f nr nw ns := by rw [e1, e2]; exact hC
      have h91 : V1 9 = _ := (congrFun e1 9).trans h9
      have hO : ∀ j, j < 100 → (10 ≤ j → V1 j = V j) ∧ α1 j = α j := fun j _ => ⟨fun _ => congrFun e1 j, congrFun e2 j⟩
      have hl : lv_has ls 7 [(4, .int (nI (j))), (0, .ref (b)), (1, .ref (α1 (0))), (2, .ref (α1 (10))), (3, .ref (α1 (9)))] := by rw [(hO 0 (by omega)).2, (hO 10 (by omega)).2, (hO 9 (by omega)).2]; exact hl
      have hM1 := hM.mvC (fun j h1 h2 => (hO j (by omega)).1 h1) (fun j hj => (hO j hj).2)
      refine lv_istore (lv' := [(5, .int (1)), (4, .int (nI (j))), (0, .ref (b)), (1, .ref (α1 (0))), (2, .ref (α1 (10))), (3, .ref (α1 (9)))]) hx hb dL_law_420 hl (by decide) rfl (fun ls hl => ?_)
      refine lv_aload_n hx hb dL_law_422 rfl (lv_at hl 4 rfl) ?_
      refine lv_aload_n hx hb dL_law_423 rfl (lv_at hl 2 rfl) ?_
      refine lv_iload hx hb dL_law_424 (lv_at hl 1 rfl) ?_
      refine lv_iconst (v := (1)) hx hb dL_law_426 (by decide) ?_
      refine lv_iadd hx hb dL_law_427 ?_
      refine msld (v := x1) (k := j + 1) hx hb hX hbl hbA hS (nI_add j 1) (by omega) (by omega) (y1) dL_law_428 ?_
      refine lv_aload_n hx hb dL_law_429 rfl (lv_at hl 2 rfl) ?_
      refine lv_iload hx hb dL_law_430 (lv_at hl 1 rfl) ?_
      refine lv_iconst (v := (2)) hx hb dL_law_432 (by decide) ?_
      refine lv_iadd hx hb dL_law_433 ?_
      refine msld (v := x2) (k := j + 2) hx hb hX hbl hbA hS (nI_add j 2) (by omega) (by omega) (y2) dL_law_434 ?_
      refine lv_if_eq (tgt := 442) hx hb dL_law_435 (by decide) (fun _ => ?_) (fun z => absurd hb2 z)
      refine lv_iconst (v := (0)) hx hb dL_law_442 (by decide) ?_
      refine mcallVw hw hM1.1 rfl rfl ⟨hx, hb, hml, hown, hts⟩ hS (c_X4_setHoliday_1 hM1 x1 0 h) (cwV 2 hts gL_law_X4_setHoliday rfl rfl rfl (by decide +kernel) ⟨Nat.le_of_ble_eq_true rfl, Nat.le_of_ble_eq_true rfl⟩) rfl hl.1 rfl (Nat.le_of_ble_eq_true rfl) dL_law_443 ⟨(by show cells + 1 + 0 ≤ 601024; omega), (by show slots + 6 + 0 ≤ 7293033; omega)⟩ (fun r8 V2 α2 H locs hq hw hS => ?_)
      obtain ⟨er, hM2, hP, eα⟩ := hq
      dsimp only at hM2 hP eα
      subst er
      subst eα
      have hC2 := hC1.mvM (fun j hj => hP j hj)
      have h92 := (hP 9 (by omega)).trans h91
      refine lv_istore (lv' := [(6, .int (0)), (5, .int (1)), (4, .int (nI (j))), (0, .ref (b)), (1, .ref (α1 (0))), (2, .ref (α1 (10))), (3, .ref (α1 (9)))]) hx hb dL_law_446 hl (by decide) rfl (fun ls hl => ?_)
      refine lv_aload_n hx hb dL_law_448 rfl (lv_at hl 5 rfl) ?_
      refine mcallVi hw hM2.1 rfl rfl ⟨hx, hb, hml, hown, hts⟩ (c_X4_thrown hM2) (cwV 0 hts gL_law_X4_thrown rfl rfl rfl (by decide +kernel) ⟨Nat.le_of_ble_eq_true rfl, Nat.le_of_ble_eq_true rfl⟩) rfl hl.1 rfl (Nat.le_of_ble_eq_true rfl) dL_law_449 ⟨(by show cells + 1 + 0 + 0 ≤ 601024; omega), (by show slots + 6 + 0 + 0 ≤ 7293033; omega)⟩ ?_
      refine lv_iload hx hb dL_law_452 (lv_at hl 1 rfl) ?_
      refine lv_icmp_eq (tgt := 459) hx hb dL_law_454 (by decide) (fun c13 => ?_) (fun z => absurd ((by decide)) z)
      refine lv_iload hx hb dL_law_459 (lv_at hl 1 rfl) ?_
      refine lv_if_ne (tgt := 483) hx hb dL_law_461 (by decide) (fun c14 => ?_) (fun z => absurd z ((by decide)))
      refine lv_goto (tgt := 1415) hx hb dL_law_483 (by decide) ?_
      refine W.widen (k := cells + 2) (n := slots + 210) (by omega) (by omega) ?_
      exact kk V2 α1 (f) nr nw ns 1 H locs ls ⟨hC2, hM2, hwf, ⟨_, h92⟩⟩ hw hS ⟨hl.1, hl.2.1, fun q hq => hl.2.2 q (List.mem_cons_of_mem _ (List.mem_cons_of_mem _ hq))⟩
    ·
      refine lv_aload_n hx hb dL_law_395 rfl (lv_at hl 2 rfl) ?_
      refine lv_aload_n hx hb dL_law_396 rfl (lv_at hl 1 rfl) ?_
      refine lv_iload hx hb dL_law_397 (lv_at hl 0 rfl) ?_
      refine lv_iconst (v := (1)) hx hb dL_law_399 (by decide) ?_
      refine lv_iadd hx hb dL_law_400 ?_
      refine msld (v := x1) (k := j + 1) hx hb hX hbl hbA hS (nI_add j 1) (by omega) (by omega) (y1) dL_law_401 ?_
      refine lv_aload_n hx hb dL_law_402 rfl (lv_at hl 1 rfl) ?_
      refine lv_iload hx hb dL_law_403 (lv_at hl 0 rfl) ?_
      refine lv_iconst (v := (2)) hx hb dL_law_405 (by decide) ?_
      refine lv_iadd hx hb dL_law_406 ?_
      refine msld (v := x2) (k := j + 2) hx hb hX hbl hbA hS (nI_add j 2) (by omega) (by omega) (y2) dL_law_407 ?_
      refine lv_if_eq (tgt := 415) hx hb dL_law_408 (by decide) (fun z => absurd z hb2) (fun _ => ?_)
      refine lv_iconst (v := (1)) hx hb dL_law_411 (by decide) ?_
      refine lv_goto (tgt := 416) hx hb dL_law_412 (by decide) ?_
      refine lv_aload_n hx hb dL_law_416 rfl (lv_at hl 4 rfl) ?_
      refine mcallSWi hw ⟨hx, hb, hml, hown, hts⟩ hS (x_X3_setHoliday hl0 hC hwf x1 1 h) (vx_cwSW 4 hts gL_law_L_setHoliday rfl rfl rfl (by decide +kernel) ⟨Nat.le_of_ble_eq_true rfl, Nat.le_of_ble_eq_true rfl⟩) rfl hl.1 rfl (Nat.le_of_ble_eq_true rfl) dL_law_417 ⟨(by show cells + 1 ≤ 601024; omega), (by show slots + 6 ≤ 7293033; omega)⟩ (fun r9 V1 α1 H locs hq hw hS => ?_)
      obtain ⟨er, eu⟩ := hq
      subst er
      have e1 : V1 = V := congrArg Prod.fst eu
      have e2 : α1 = α := congrArg Prod.snd eu
      have hC1 : mC G V1 α1 f nr nw ns := by rw [e1, e2]; exact hC
      have h91 : V1 9 = _ := (congrFun e1 9).trans h9
      have hO : ∀ j, j < 100 → (10 ≤ j → V1 j = V j) ∧ α1 j = α j := fun j _ => ⟨fun _ => congrFun e1 j, congrFun e2 j⟩
      have hl : lv_has ls 7 [(4, .int (nI (j))), (0, .ref (b)), (1, .ref (α1 (0))), (2, .ref (α1 (10))), (3, .ref (α1 (9)))] := by rw [(hO 0 (by omega)).2, (hO 10 (by omega)).2, (hO 9 (by omega)).2]; exact hl
      have hM1 := hM.mvC (fun j h1 h2 => (hO j (by omega)).1 h1) (fun j hj => (hO j hj).2)
      refine lv_istore (lv' := [(5, .int (1)), (4, .int (nI (j))), (0, .ref (b)), (1, .ref (α1 (0))), (2, .ref (α1 (10))), (3, .ref (α1 (9)))]) hx hb dL_law_420 hl (by decide) rfl (fun ls hl => ?_)
      refine lv_aload_n hx hb dL_law_422 rfl (lv_at hl 4 rfl) ?_
      refine lv_aload_n hx hb dL_law_423 rfl (lv_at hl 2 rfl) ?_
      refine lv_iload hx hb dL_law_424 (lv_at hl 1 rfl) ?_
      refine lv_iconst (v := (1)) hx hb dL_law_426 (by decide) ?_
      refine lv_iadd hx hb dL_law_427 ?_
      refine msld (v := x1) (k := j + 1) hx hb hX hbl hbA hS (nI_add j 1) (by omega) (by omega) (y1) dL_law_428 ?_
      refine lv_aload_n hx hb dL_law_429 rfl (lv_at hl 2 rfl) ?_
      refine lv_iload hx hb dL_law_430 (lv_at hl 1 rfl) ?_
      refine lv_iconst (v := (2)) hx hb dL_law_432 (by decide) ?_
      refine lv_iadd hx hb dL_law_433 ?_
      refine msld (v := x2) (k := j + 2) hx hb hX hbl hbA hS (nI_add j 2) (by omega) (by omega) (y2) dL_law_434 ?_
      refine lv_if_eq (tgt := 442) hx hb dL_law_435 (by decide) (fun z => absurd z hb2) (fun _ => ?_)
      refine lv_iconst (v := (1)) hx hb dL_law_438 (by decide) ?_
      refine lv_goto (tgt := 443) hx hb dL_law_439 (by decide) ?_
      refine mcallVw hw hM1.1 rfl rfl ⟨hx, hb, hml, hown, hts⟩ hS (c_X4_setHoliday_1 hM1 x1 1 h) (cwV 2 hts gL_law_X4_setHoliday rfl rfl rfl (by decide +kernel) ⟨Nat.le_of_ble_eq_true rfl, Nat.le_of_ble_eq_true rfl⟩) rfl hl.1 rfl (Nat.le_of_ble_eq_true rfl) dL_law_443 ⟨(by show cells + 1 + 0 ≤ 601024; omega), (by show slots + 6 + 0 ≤ 7293033; omega)⟩ (fun r8 V2 α2 H locs hq hw hS => ?_)
      obtain ⟨er, hM2, hP, eα⟩ := hq
      dsimp only at hM2 hP eα
      subst er
      subst eα
      have hC2 := hC1.mvM (fun j hj => hP j hj)
      have h92 := (hP 9 (by omega)).trans h91
      refine lv_istore (lv' := [(6, .int (0)), (5, .int (1)), (4, .int (nI (j))), (0, .ref (b)), (1, .ref (α1 (0))), (2, .ref (α1 (10))), (3, .ref (α1 (9)))]) hx hb dL_law_446 hl (by decide) rfl (fun ls hl => ?_)
      refine lv_aload_n hx hb dL_law_448 rfl (lv_at hl 5 rfl) ?_
      refine mcallVi hw hM2.1 rfl rfl ⟨hx, hb, hml, hown, hts⟩ (c_X4_thrown hM2) (cwV 0 hts gL_law_X4_thrown rfl rfl rfl (by decide +kernel) ⟨Nat.le_of_ble_eq_true rfl, Nat.le_of_ble_eq_true rfl⟩) rfl hl.1 rfl (Nat.le_of_ble_eq_true rfl) dL_law_449 ⟨(by show cells + 1 + 0 + 0 ≤ 601024; omega), (by show slots + 6 + 0 + 0 ≤ 7293033; omega)⟩ ?_
      refine lv_iload hx hb dL_law_452 (lv_at hl 1 rfl) ?_
      refine lv_icmp_eq (tgt := 459) hx hb dL_law_454 (by decide) (fun c15 => ?_) (fun z => absurd ((by decide)) z)
      refine lv_iload hx hb dL_law_459 (lv_at hl 1 rfl) ?_
      refine lv_if_ne (tgt := 483) hx hb dL_law_461 (by decide) (fun c16 => ?_) (fun z => absurd z ((by decide)))
      refine lv_goto (tgt := 1415) hx hb dL_law_483 (by decide) ?_
      refine W.widen (k := cells + 2) (n := slots + 210) (by omega) (by omega) ?_
      exact kk V2 α1 (f) nr nw ns 1 H locs ls ⟨hC2, hM2, hwf, ⟨_, h92⟩⟩ hw hS ⟨hl.1, hl.2.1, fun q hq => hl.2.2 q (List.mem_cons_of_mem _ (List.mem_cons_of_mem _ hq))⟩

set_option maxHeartbeats 4000000 in
set_option maxRecDepth 100000 in
theorem op_addWorker {p : Program} {l : Launch} {e : Env} {s : State} {m : MethodId} {args : Array Value} {below : List Frame} {meth : Method} {c : Code} {H : Heap} {locs : List Loc} {cells slots : Nat} {Q : State → Prop} {ls : Array Slot} {G : mG} {V : mV} {α : Nat → Nat} {f : sT} {nr nw ns : Nat} {th : Int32} {b L : Nat} {xs : Nat → Int32} {j : Nat} (hF : mFix p l s m args c G b L xs) (hj : j + 6 ≤ L) {x1 x2 x3 x4 x5 : Int32} (y1 : xs (j + 1) = x1) (y2 : xs (j + 2) = x2) (y3 : xs (j + 3) = x3) (y4 : xs (j + 4) = x4) (y5 : xs (j + 5) = x5) (hI : mI G V α f nr nw ns th) (hw : mW G V α s H) (hS : va_S (mfree G) s.heap H locs) (hc9 : cells + 2 ≤ 601024) (hs9 : slots + 210 ≤ 7293033) (hl : lv_has ls 7 [(4, .int (nI (j))), (0, .ref (b)), (1, .ref (α (0))), (2, .ref (α (10))), (3, .ref (α (9)))])
    (kk : ∀ (V1 : mV) (α1 : Nat → Nat) (f1 : sT) (nr1 nw1 ns1 : Nat) (th1 : Int32) (H1 : Heap) (locs1 : List Loc) (ls1 : Array Slot), mI G V1 α1 f1 nr1 nw1 ns1 th1 → mW G V1 α1 s H1 → va_S (mfree G) s.heap H1 locs1 → lv_has ls1 7 [(4, .int (nI (j))), (0, .ref (b)), (1, .ref (α1 (0))), (2, .ref (α1 (10))), (3, .ref (α1 (9)))] → W p l e room_1 s m args below meth c H1 locs1 (cells + 2) (slots + 210) Q (F0 m 1415 ls1 [])) : W p l e room_1 s m args below meth c H locs cells slots Q (F0 m 486 ls []) := by
  obtain ⟨hl0, hx, hb, hml, hown, hts, hX, hbl, hbA, hL⟩ := hF
  obtain ⟨hC, hM, hwf, g0, h9⟩ := hI
  obtain ⟨hnr, hnw, hns⟩ := hwf.1
  by_cases h : inn x1 0 3
  ·
    obtain ⟨r, hr0, rfl⟩ := ixc (n := 4) (by decide) (by decide +kernel) h
    by_cases h2 : nw < 12
    ·
      refine lv_aload_n hx hb dL_law_486 rfl (lv_at hl 2 rfl) ?_
      refine lv_aload_n hx hb dL_law_487 rfl (lv_at hl 1 rfl) ?_
      refine lv_iload hx hb dL_law_488 (lv_at hl 0 rfl) ?_
      refine lv_iconst (v := (1)) hx hb dL_law_490 (by decide) ?_
      refine lv_iadd hx hb dL_law_491 ?_
      refine msld (v := nI (r)) (k := j + 1) hx hb hX hbl hbA hS (nI_add j 1) (by omega) (by omega) (y1) dL_law_492 ?_
      refine lv_aload_n hx hb dL_law_493 rfl (lv_at hl 4 rfl) ?_
      refine mcallSWi hw ⟨hx, hb, hml, hown, hts⟩ hS (w_X3_addWorker hC hwf r hr0 h2 h9) (vx_cwSW 3 hts gL_law_L_addWorker rfl rfl rfl (by decide +kernel) ⟨Nat.le_of_ble_eq_true rfl, Nat.le_of_ble_eq_true rfl⟩) rfl hl.1 rfl (Nat.le_of_ble_eq_true rfl) dL_law_494 ⟨(by show cells + 2 ≤ 601024; omega), (by show slots + 210 ≤ 7293033; omega)⟩ (fun r9 V1 α1 H locs hq hw hS => ?_)
      obtain ⟨er, hC1, hO, g1, h91, hg1⟩ := hq
      dsimp only at hC1 hO h91
      subst er
      have hl : lv_has ls 7 [(4, .int (nI (j))), (0, .ref (b)), (1, .ref (α1 (0))), (2, .ref (α1 (10))), (3, .ref (α1 (9)))] := by rw [(hO 0 (by omega)).2, (hO 10 (by omega)).2, (hO 9 (by omega)).2]; exact hl
      have hM1 := hM.mvC (fun j h1 h2 => (hO j (by omega)).1 h1) (fun j hj => (hO j hj).2)
      refine lv_istore (lv' := [(5, .int (0)), (4, .int (nI (j))), (0, .ref (b)), (1, .ref (α1 (0))), (2, .ref (α1 (10))), (3, .ref (α1 (9)))]) hx hb dL_law_497 hl (by decide) rfl (fun ls hl => ?_)
      refine lv_aload_n hx hb dL_law_499 rfl (lv_at hl 4 rfl) ?_
      refine lv_aload_n hx hb dL_law_500 rfl (lv_at hl 2 rfl) ?_
      refine lv_iload hx hb dL_law_501 (lv_at hl 1 rfl) ?_
      refine lv_iconst (v := (1)) hx hb dL_law_503 (by decide) ?_
      refine lv_iadd hx hb dL_law_504 ?_
      refine msld (v := nI (r)) (k := j + 1) hx hb hX hbl hbA hS (nI_add j 1) (by omega) (by omega) (y1) dL_law_505 ?_
      refine mcallVw hw hM1.1 rfl rfl ⟨hx, hb, hml, hown, hts⟩ hS (c_X4_addWorker hM1 r hr0 h2) (cwV 1 hts gL_law_X4_addWorker rfl rfl rfl (by decide +kernel) ⟨Nat.le_of_ble_eq_true rfl, Nat.le_of_ble_eq_true rfl⟩) rfl hl.1 rfl (Nat.le_of_ble_eq_true rfl) dL_law_506 ⟨(by show cells + 2 + 0 ≤ 601024; omega), (by show slots + 210 + 0 ≤ 7293033; omega)⟩ (fun r8 V2 α2 H locs hq hw hS => ?_)
      obtain ⟨er, hM2, hP, eα⟩ := hq
      dsimp only at hM2 hP eα
      subst er
      subst eα
      have hC2 := hC1.mvM (fun j hj => hP j hj)
      have h92 := (hP 9 (by omega)).trans h91
      refine lv_istore (lv' := [(6, .int (nI nw)), (5, .int (0)), (4, .int (nI (j))), (0, .ref (b)), (1, .ref (α1 (0))), (2, .ref (α1 (10))), (3, .ref (α1 (9)))]) hx hb dL_law_509 hl (by decide) rfl (fun ls hl => ?_)
      refine lv_aload_n hx hb dL_law_511 rfl (lv_at hl 5 rfl) ?_
      refine mcallVi hw hM2.1 rfl rfl ⟨hx, hb, hml, hown, hts⟩ (c_X4_thrown hM2) (cwV 0 hts gL_law_X4_thrown rfl rfl rfl (by decide +kernel) ⟨Nat.le_of_ble_eq_true rfl, Nat.le_of_ble_eq_true rfl⟩) rfl hl.1 rfl (Nat.le_of_ble_eq_true rfl) dL_law_512 ⟨(by show cells + 2 + 0 + 0 ≤ 601024; omega), (by show slots + 210 + 0 + 0 ≤ 7293033; omega)⟩ ?_
      refine lv_iload hx hb dL_law_515 (lv_at hl 1 rfl) ?_
      refine lv_icmp_eq (tgt := 522) hx hb dL_law_517 (by decide) (fun c1 => ?_) (fun z => absurd ((by decide)) z)
      refine lv_iload hx hb dL_law_522 (lv_at hl 1 rfl) ?_
      refine lv_if_ne (tgt := 539) hx hb dL_law_524 (by decide) (fun z => absurd ((by decide)) z) (fun c2 => ?_)
      refine lv_aload_n hx hb dL_law_527 rfl (lv_at hl 6 rfl) ?_
      refine lv_iconst (v := (0)) hx hb dL_law_528 (by decide) ?_
      refine mlald' (k := 0) hx hb hw h92 rfl (by omega) (by decide) dL_law_529 ?_
      refine lv_iload hx hb dL_law_530 (lv_at hl 0 rfl) ?_
      refine lv_i2l (v := (nI nw).toInt64) hx hb dL_law_532 rfl ?_
      refine lv_lcmp0 hx hb (hg1.symm) dL_law_533 ?_
      refine lv_if_eq (tgt := 539) hx hb dL_law_534 (by decide) (fun c3 => ?_) (fun z => absurd ((by decide)) z)
      refine lv_goto (tgt := 1415) hx hb dL_law_539 (by decide) ?_
      refine W.widen (k := cells + 2) (n := slots + 210) (by omega) (by omega) ?_
      exact kk V2 α1 (u2 f 8 nw (nI r)) nr (nw + 1) ns 0 H locs ls ⟨hC2, hM2, wf_addW hwf h2 hr0, ⟨_, h92⟩⟩ hw hS ⟨hl.1, hl.2.1, fun q hq => hl.2.2 q (List.mem_cons_of_mem _ (List.mem_cons_of_mem _ hq))⟩
    ·
      refine lv_aload_n hx hb dL_law_486 rfl (lv_at hl 2 rfl) ?_
      refine lv_aload_n hx hb dL_law_487 rfl (lv_at hl 1 rfl) ?_
      refine lv_iload hx hb dL_law_488 (lv_at hl 0 rfl) ?_
      refine lv_iconst (v := (1)) hx hb dL_law_490 (by decide) ?_
      refine lv_iadd hx hb dL_law_491 ?_
      refine msld (v := nI (r)) (k := j + 1) hx hb hX hbl hbA hS (nI_add j 1) (by omega) (by omega) (y1) dL_law_492 ?_
      refine lv_aload_n hx hb dL_law_493 rfl (lv_at hl 4 rfl) ?_
      refine mcallSWi hw ⟨hx, hb, hml, hown, hts⟩ hS (x_X3_addWorker_2 hl0 hC hwf (nI r) h (by omega)) (vx_cwSW 3 hts gL_law_L_addWorker rfl rfl rfl (by decide +kernel) ⟨Nat.le_of_ble_eq_true rfl, Nat.le_of_ble_eq_true rfl⟩) rfl hl.1 rfl (Nat.le_of_ble_eq_true rfl) dL_law_494 ⟨(by show cells + 1 ≤ 601024; omega), (by show slots + 6 ≤ 7293033; omega)⟩ (fun r9 V1 α1 H locs hq hw hS => ?_)
      obtain ⟨er, eu⟩ := hq
      subst er
      have e1 : V1 = V := congrArg Prod.fst eu
      have e2 : α1 = α := congrArg Prod.snd eu
      have hC1 : mC G V1 α1 f nr nw ns := by rw [e1, e2]; exact hC
      have h91 : V1 9 = _ := (congrFun e1 9).trans h9
      have hO : ∀ j, j < 100 → (10 ≤ j → V1 j = V j) ∧ α1 j = α j := fun j _ => ⟨fun _ => congrFun e1 j, congrFun e2 j⟩
      have hl : lv_has ls 7 [(4, .int (nI (j))), (0, .ref (b)), (1, .ref (α1 (0))), (2, .ref (α1 (10))), (3, .ref (α1 (9)))] := by rw [(hO 0 (by omega)).2, (hO 10 (by omega)).2, (hO 9 (by omega)).2]; exact hl
      have hM1 := hM.mvC (fun j h1 h2 => (hO j (by omega)).1 h1) (fun j hj => (hO j hj).2)
      refine lv_istore (lv' := [(5, .int (2)), (4, .int (nI (j))), (0, .ref (b)), (1, .ref (α1 (0))), (2, .ref (α1 (10))), (3, .ref (α1 (9)))]) hx hb dL_law_497 hl (by decide) rfl (fun ls hl => ?_)
      refine lv_aload_n hx hb dL_law_499 rfl (lv_at hl 4 rfl) ?_
      refine lv_aload_n hx hb dL_law_500 rfl (lv_at hl 2 rfl) ?_
      refine lv_iload hx hb dL_law_501 (lv_at hl 1 rfl) ?_
      refine lv_iconst (v := (1)) hx hb dL_law_503 (by decide) ?_
      refine lv_iadd hx hb dL_law_504 ?_
      refine msld (v := nI (r)) (k := j + 1) hx hb hX hbl hbA hS (nI_add j 1) (by omega) (by omega) (y1) dL_law_505 ?_
      refine mcallVw hw hM1.1 rfl rfl ⟨hx, hb, hml, hown, hts⟩ hS (c_X4_addWorker_2 hM1 (nI r) h (by omega)) (cwV 1 hts gL_law_X4_addWorker rfl rfl rfl (by decide +kernel) ⟨Nat.le_of_ble_eq_true rfl, Nat.le_of_ble_eq_true rfl⟩) rfl hl.1 rfl (Nat.le_of_ble_eq_true rfl) dL_law_506 ⟨(by show cells + 1 + 0 ≤ 601024; omega), (by show slots + 6 + 0 ≤ 7293033; omega)⟩ (fun r8 V2 α2 H locs hq hw hS => ?_)
      obtain ⟨er, hM2, hP, eα⟩ := hq
      dsimp only at hM2 hP eα
      subst er
      subst eα
      have hC2 := hC1.mvM (fun j hj => hP j hj)
      have h92 := (hP 9 (by omega)).trans h91
      refine lv_istore (lv' := [(6, .int (0)), (5, .int (2)), (4, .int (nI (j))), (0, .ref (b)), (1, .ref (α1 (0))), (2, .ref (α1 (10))), (3, .ref (α1 (9)))]) hx hb dL_law_509 hl (by decide) rfl (fun ls hl => ?_)
      refine lv_aload_n hx hb dL_law_511 rfl (lv_at hl 5 rfl) ?_
      refine mcallVi hw hM2.1 rfl rfl ⟨hx, hb, hml, hown, hts⟩ (c_X4_thrown hM2) (cwV 0 hts gL_law_X4_thrown rfl rfl rfl (by decide +kernel) ⟨Nat.le_of_ble_eq_true rfl, Nat.le_of_ble_eq_true rfl⟩) rfl hl.1 rfl (Nat.le_of_ble_eq_true rfl) dL_law_512 ⟨(by show cells + 1 + 0 + 0 ≤ 601024; omega), (by show slots + 6 + 0 + 0 ≤ 7293033; omega)⟩ ?_
      refine lv_iload hx hb dL_law_515 (lv_at hl 1 rfl) ?_
      refine lv_icmp_eq (tgt := 522) hx hb dL_law_517 (by decide) (fun c4 => ?_) (fun z => absurd ((by decide)) z)
      refine lv_iload hx hb dL_law_522 (lv_at hl 1 rfl) ?_
      refine lv_if_ne (tgt := 539) hx hb dL_law_524 (by decide) (fun c5 => ?_) (fun z => absurd z ((by decide)))
      refine lv_goto (tgt := 1415) hx hb dL_law_539 (by decide) ?_
      refine W.widen (k := cells + 2) (n := slots + 210) (by omega) (by omega) ?_
      exact kk V2 α1 (f) nr nw ns 2 H locs ls ⟨hC2, hM2, hwf, ⟨_, h92⟩⟩ hw hS ⟨hl.1, hl.2.1, fun q hq => hl.2.2 q (List.mem_cons_of_mem _ (List.mem_cons_of_mem _ hq))⟩
  ·
    refine lv_aload_n hx hb dL_law_486 rfl (lv_at hl 2 rfl) ?_
    refine lv_aload_n hx hb dL_law_487 rfl (lv_at hl 1 rfl) ?_
    refine lv_iload hx hb dL_law_488 (lv_at hl 0 rfl) ?_
    refine lv_iconst (v := (1)) hx hb dL_law_490 (by decide) ?_
    refine lv_iadd hx hb dL_law_491 ?_
    refine msld (v := x1) (k := j + 1) hx hb hX hbl hbA hS (nI_add j 1) (by omega) (by omega) (y1) dL_law_492 ?_
    refine lv_aload_n hx hb dL_law_493 rfl (lv_at hl 4 rfl) ?_
    refine mcallSWi hw ⟨hx, hb, hml, hown, hts⟩ hS (x_X3_addWorker_1 hl0 hC hwf x1 h) (vx_cwSW 3 hts gL_law_L_addWorker rfl rfl rfl (by decide +kernel) ⟨Nat.le_of_ble_eq_true rfl, Nat.le_of_ble_eq_true rfl⟩) rfl hl.1 rfl (Nat.le_of_ble_eq_true rfl) dL_law_494 ⟨(by show cells + 1 ≤ 601024; omega), (by show slots + 6 ≤ 7293033; omega)⟩ (fun r9 V1 α1 H locs hq hw hS => ?_)
    obtain ⟨er, eu⟩ := hq
    subst er
    have e1 : V1 = V := congrArg Prod.fst eu
    have e2 : α1 = α := congrArg Prod.snd eu
    have hC1 : mC G V1 α1 f nr nw ns := by rw [e1, e2]; exact hC
    have h91 : V1 9 = _ := (congrFun e1 9).trans h9
    have hO : ∀ j, j < 100 → (10 ≤ j → V1 j = V j) ∧ α1 j = α j := fun j _ => ⟨fun _ => congrFun e1 j, congrFun e2 j⟩
    have hl : lv_has ls 7 [(4, .int (nI (j))), (0, .ref (b)), (1, .ref (α1 (0))), (2, .ref (α1 (10))), (3, .ref (α1 (9)))] := by rw [(hO 0 (by omega)).2, (hO 10 (by omega)).2, (hO 9 (by omega)).2]; exact hl
    have hM1 := hM.mvC (fun j h1 h2 => (hO j (by omega)).1 h1) (fun j hj => (hO j hj).2)
    refine lv_istore (lv' := [(5, .int (1)), (4, .int (nI (j))), (0, .ref (b)), (1, .ref (α1 (0))), (2, .ref (α1 (10))), (3, .ref (α1 (9)))]) hx hb dL_law_497 hl (by decide) rfl (fun ls hl => ?_)
    refine lv_aload_n hx hb dL_law_499 rfl (lv_at hl 4 rfl) ?_
    refine lv_aload_n hx hb dL_law_500 rfl (lv_at hl 2 rfl) ?_
    refine lv_iload hx hb dL_law_501 (lv_at hl 1 rfl) ?_
    refine lv_iconst (v := (1)) hx hb dL_law_503 (by decide) ?_
    refine lv_iadd hx hb dL_law_504 ?_
    refine msld (v := x1) (k := j + 1) hx hb hX hbl hbA hS (nI_add j 1) (by omega) (by omega) (y1) dL_law_505 ?_
    refine mcallVw hw hM1.1 rfl rfl ⟨hx, hb, hml, hown, hts⟩ hS (c_X4_addWorker_1 hM1 x1 h) (cwV 1 hts gL_law_X4_addWorker rfl rfl rfl (by decide +kernel) ⟨Nat.le_of_ble_eq_true rfl, Nat.le_of_ble_eq_true rfl⟩) rfl hl.1 rfl (Nat.le_of_ble_eq_true rfl) dL_law_506 ⟨(by show cells + 1 + 0 ≤ 601024; omega), (by show slots + 6 + 0 ≤ 7293033; omega)⟩ (fun r8 V2 α2 H locs hq hw hS => ?_)
    obtain ⟨er, hM2, hP, eα⟩ := hq
    dsimp only at hM2 hP eα
    subst er
    subst eα
    have hC2 := hC1.mvM (fun j hj => hP j hj)
    have h92 := (hP 9 (by omega)).trans h91
    refine lv_istore (lv' := [(6, .int (0)), (5, .int (1)), (4, .int (nI (j))), (0, .ref (b)), (1, .ref (α1 (0))), (2, .ref (α1 (10))), (3, .ref (α1 (9)))]) hx hb dL_law_509 hl (by decide) rfl (fun ls hl => ?_)
    refine lv_aload_n hx hb dL_law_511 rfl (lv_at hl 5 rfl) ?_
    refine mcallVi hw hM2.1 rfl rfl ⟨hx, hb, hml, hown, hts⟩ (c_X4_thrown hM2) (cwV 0 hts gL_law_X4_thrown rfl rfl rfl (by decide +kernel) ⟨Nat.le_of_ble_eq_true rfl, Nat.le_of_ble_eq_true rfl⟩) rfl hl.1 rfl (Nat.le_of_ble_eq_true rfl) dL_law_512 ⟨(by show cells + 1 + 0 + 0 ≤ 601024; omega), (by show slots + 6 + 0 + 0 ≤ 7293033; omega)⟩ ?_
    refine lv_iload hx hb dL_law_515 (lv_at hl 1 rfl) ?_
    refine lv_icmp_eq (tgt := 522) hx hb dL_law_517 (by decide) (fun c6 => ?_) (fun z => absurd ((by decide)) z)
    refine lv_iload hx hb dL_law_522 (lv_at hl 1 rfl) ?_
    refine lv_if_ne (tgt := 539) hx hb dL_law_524 (by decide) (fun c7 => ?_) (fun z => absurd z ((by decide)))
    refine lv_goto (tgt := 1415) hx hb dL_law_539 (by decide) ?_
    refine W.widen (k := cells + 2) (n := slots + 210) (by omega) (by omega) ?_
    exact kk V2 α1 (f) nr nw ns 1 H locs ls ⟨hC2, hM2, hwf, ⟨_, h92⟩⟩ hw hS ⟨hl.1, hl.2.1, fun q hq => hl.2.2 q (List.mem_cons_of_mem _ (List.mem_cons_of_mem _ hq))⟩

set_option maxHeartbeats 4000000 in
set_option maxRecDepth 100000 in
theorem op_setRank {p : Program} {l : Launch} {e : Env} {s : State} {m : MethodId} {args : Array Value} {below : List Frame} {meth : Method} {c : Code} {H : Heap} {locs : List Loc} {cells slots : Nat} {Q : State → Prop} {ls : Array Slot} {G : mG} {V : mV} {α : Nat → Nat} {f : sT} {nr nw ns : Nat} {th : Int32} {b L : Nat} {xs : Nat → Int32} {j : Nat} (hF : mFix p l s m args c G b L xs) (hj : j + 6 ≤ L) {x1 x2 x3 x4 x5 : Int32} (y1 : xs (j + 1) = x1) (y2 : xs (j + 2) = x2) (y3 : xs (j + 3) = x3) (y4 : xs (j + 4) = x4) (y5 : xs (j + 5) = x5) (hI : mI G V α f nr nw ns th) (hw : mW G V α s H) (hS : va_S (mfree G) s.heap H locs) (hc9 : cells + 2 ≤ 601024) (hs9 : slots + 210 ≤ 7293033) (hl : lv_has ls 7 [(4, .int (nI (j))), (0, .ref (b)), (1, .ref (α (0))), (2, .ref (α (10))), (3, .ref (α (9)))])
    (kk : ∀ (V1 : mV) (α1 : Nat → Nat) (f1 : sT) (nr1 nw1 ns1 : Nat) (th1 : Int32) (H1 : Heap) (locs1 : List Loc) (ls1 : Array Slot), mI G V1 α1 f1 nr1 nw1 ns1 th1 → mW G V1 α1 s H1 → va_S (mfree G) s.heap H1 locs1 → lv_has ls1 7 [(4, .int (nI (j))), (0, .ref (b)), (1, .ref (α1 (0))), (2, .ref (α1 (10))), (3, .ref (α1 (9)))] → W p l e room_1 s m args below meth c H1 locs1 (cells + 2) (slots + 210) Q (F0 m 1415 ls1 [])) : W p l e room_1 s m args below meth c H locs cells slots Q (F0 m 542 ls []) := by
  obtain ⟨hl0, hx, hb, hml, hown, hts, hX, hbl, hbA, hL⟩ := hF
  obtain ⟨hC, hM, hwf, g0, h9⟩ := hI
  obtain ⟨hnr, hnw, hns⟩ := hwf.1
  by_cases h : inn x1 0 (nI nw - 1)
  ·
    have hh := h
    obtain ⟨k, hk, rfl⟩ := ix_inn (by omega) hh
    by_cases h2 : inn x2 0 3
    ·
      obtain ⟨r, hr0, rfl⟩ := ixc (n := 4) (by decide) (by decide +kernel) h2
      refine lv_aload_n hx hb dL_law_542 rfl (lv_at hl 2 rfl) ?_
      refine lv_aload_n hx hb dL_law_543 rfl (lv_at hl 1 rfl) ?_
      refine lv_iload hx hb dL_law_544 (lv_at hl 0 rfl) ?_
      refine lv_iconst (v := (1)) hx hb dL_law_546 (by decide) ?_
      refine lv_iadd hx hb dL_law_547 ?_
      refine msld (v := nI (k)) (k := j + 1) hx hb hX hbl hbA hS (nI_add j 1) (by omega) (by omega) (y1) dL_law_548 ?_
      refine lv_aload_n hx hb dL_law_549 rfl (lv_at hl 1 rfl) ?_
      refine lv_iload hx hb dL_law_550 (lv_at hl 0 rfl) ?_
      refine lv_iconst (v := (2)) hx hb dL_law_552 (by decide) ?_
      refine lv_iadd hx hb dL_law_553 ?_
      refine msld (v := nI (r)) (k := j + 2) hx hb hX hbl hbA hS (nI_add j 2) (by omega) (by omega) (y2) dL_law_554 ?_
      refine lv_aload_n hx hb dL_law_555 rfl (lv_at hl 4 rfl) ?_
      refine mcallSWi hw ⟨hx, hb, hml, hown, hts⟩ hS (w_X3_setRank hC hwf k r hk hr0 h9) (vx_cwSW 4 hts gL_law_L_setRank rfl rfl rfl (by decide +kernel) ⟨Nat.le_of_ble_eq_true rfl, Nat.le_of_ble_eq_true rfl⟩) rfl hl.1 rfl (Nat.le_of_ble_eq_true rfl) dL_law_556 ⟨(by show cells + 0 ≤ 601024; omega), (by show slots + 0 ≤ 7293033; omega)⟩ (fun r9 V1 α1 H locs hq hw hS => ?_)
      obtain ⟨er, hC1, hO, g1, h91, hg1⟩ := hq
      dsimp only at hC1 hO h91
      subst er
      have hl : lv_has ls 7 [(4, .int (nI (j))), (0, .ref (b)), (1, .ref (α1 (0))), (2, .ref (α1 (10))), (3, .ref (α1 (9)))] := by rw [(hO 0 (by omega)).2, (hO 10 (by omega)).2, (hO 9 (by omega)).2]; exact hl
      have hM1 := hM.mvC (fun j h1 h2 => (hO j (by omega)).1 h1) (fun j hj => (hO j hj).2)
      refine lv_istore (lv' := [(5, .int (0)), (4, .int (nI (j))), (0, .ref (b)), (1, .ref (α1 (0))), (2, .ref (α1 (10))), (3, .ref (α1 (9)))]) hx hb dL_law_559 hl (by decide) rfl (fun ls hl => ?_)
      refine lv_aload_n hx hb dL_law_561 rfl (lv_at hl 4 rfl) ?_
      refine lv_aload_n hx hb dL_law_562 rfl (lv_at hl 2 rfl) ?_
      refine lv_iload hx hb dL_law_563 (lv_at hl 1 rfl) ?_
      refine lv_iconst (v := (1)) hx hb dL_law_565 (by decide) ?_
      refine lv_iadd hx hb dL_law_566 ?_
      refine msld (v := nI (k)) (k := j + 1) hx hb hX hbl hbA hS (nI_add j 1) (by omega) (by omega) (y1) dL_law_567 ?_
      refine lv_aload_n hx hb dL_law_568 rfl (lv_at hl 2 rfl) ?_
      refine lv_iload hx hb dL_law_569 (lv_at hl 1 rfl) ?_
      refine lv_iconst (v := (2)) hx hb dL_law_571 (by decide) ?_
      refine lv_iadd hx hb dL_law_572 ?_
      refine msld (v := nI (r)) (k := j + 2) hx hb hX hbl hbA hS (nI_add j 2) (by omega) (by omega) (y2) dL_law_573 ?_
      refine mcallVw hw hM1.1 rfl rfl ⟨hx, hb, hml, hown, hts⟩ hS (c_X4_setRank hM1 k r hk hnw hr0) (cwV 2 hts gL_law_X4_setRank rfl rfl rfl (by decide +kernel) ⟨Nat.le_of_ble_eq_true rfl, Nat.le_of_ble_eq_true rfl⟩) rfl hl.1 rfl (Nat.le_of_ble_eq_true rfl) dL_law_574 ⟨(by show cells + 0 + 0 ≤ 601024; omega), (by show slots + 0 + 0 ≤ 7293033; omega)⟩ (fun r8 V2 α2 H locs hq hw hS => ?_)
      obtain ⟨er, hM2, hP, eα⟩ := hq
      dsimp only at hM2 hP eα
      subst er
      subst eα
      have hC2 := hC1.mvM (fun j hj => hP j hj)
      have h92 := (hP 9 (by omega)).trans h91
      refine lv_istore (lv' := [(6, .int (f 8 k)), (5, .int (0)), (4, .int (nI (j))), (0, .ref (b)), (1, .ref (α1 (0))), (2, .ref (α1 (10))), (3, .ref (α1 (9)))]) hx hb dL_law_577 hl (by decide) rfl (fun ls hl => ?_)
      refine lv_aload_n hx hb dL_law_579 rfl (lv_at hl 5 rfl) ?_
      refine mcallVi hw hM2.1 rfl rfl ⟨hx, hb, hml, hown, hts⟩ (c_X4_thrown hM2) (cwV 0 hts gL_law_X4_thrown rfl rfl rfl (by decide +kernel) ⟨Nat.le_of_ble_eq_true rfl, Nat.le_of_ble_eq_true rfl⟩) rfl hl.1 rfl (Nat.le_of_ble_eq_true rfl) dL_law_580 ⟨(by show cells + 0 + 0 + 0 ≤ 601024; omega), (by show slots + 0 + 0 + 0 ≤ 7293033; omega)⟩ ?_
      refine lv_iload hx hb dL_law_583 (lv_at hl 1 rfl) ?_
      refine lv_icmp_eq (tgt := 590) hx hb dL_law_585 (by decide) (fun c1 => ?_) (fun z => absurd ((by decide)) z)
      refine lv_iload hx hb dL_law_590 (lv_at hl 1 rfl) ?_
      refine lv_if_ne (tgt := 607) hx hb dL_law_592 (by decide) (fun z => absurd ((by decide)) z) (fun c2 => ?_)
      refine lv_aload_n hx hb dL_law_595 rfl (lv_at hl 6 rfl) ?_
      refine lv_iconst (v := (0)) hx hb dL_law_596 (by decide) ?_
      refine mlald' (k := 0) hx hb hw h92 rfl (by omega) (by decide) dL_law_597 ?_
      refine lv_iload hx hb dL_law_598 (lv_at hl 0 rfl) ?_
      refine lv_i2l (v := (f 8 k).toInt64) hx hb dL_law_600 rfl ?_
      refine lv_lcmp0 hx hb (hg1.symm) dL_law_601 ?_
      refine lv_if_eq (tgt := 607) hx hb dL_law_602 (by decide) (fun c3 => ?_) (fun z => absurd ((by decide)) z)
      refine lv_goto (tgt := 1415) hx hb dL_law_607 (by decide) ?_
      refine W.widen (k := cells + 2) (n := slots + 210) (by omega) (by omega) ?_
      exact kk V2 α1 (u2 f 8 k (nI r)) nr nw ns 0 H locs ls ⟨hC2, hM2, wf_rank hwf k hr0, ⟨_, h92⟩⟩ hw hS ⟨hl.1, hl.2.1, fun q hq => hl.2.2 q (List.mem_cons_of_mem _ (List.mem_cons_of_mem _ hq))⟩
    ·
      refine lv_aload_n hx hb dL_law_542 rfl (lv_at hl 2 rfl) ?_
      refine lv_aload_n hx hb dL_law_543 rfl (lv_at hl 1 rfl) ?_
      refine lv_iload hx hb dL_law_544 (lv_at hl 0 rfl) ?_
      refine lv_iconst (v := (1)) hx hb dL_law_546 (by decide) ?_
      refine lv_iadd hx hb dL_law_547 ?_
      refine msld (v := nI (k)) (k := j + 1) hx hb hX hbl hbA hS (nI_add j 1) (by omega) (by omega) (y1) dL_law_548 ?_
      refine lv_aload_n hx hb dL_law_549 rfl (lv_at hl 1 rfl) ?_
      refine lv_iload hx hb dL_law_550 (lv_at hl 0 rfl) ?_
      refine lv_iconst (v := (2)) hx hb dL_law_552 (by decide) ?_
      refine lv_iadd hx hb dL_law_553 ?_
      refine msld (v := x2) (k := j + 2) hx hb hX hbl hbA hS (nI_add j 2) (by omega) (by omega) (y2) dL_law_554 ?_
      refine lv_aload_n hx hb dL_law_555 rfl (lv_at hl 4 rfl) ?_
      refine mcallSWi hw ⟨hx, hb, hml, hown, hts⟩ hS (x_X3_setRank_2 hl0 hC hwf k hk x2 h2) (vx_cwSW 4 hts gL_law_L_setRank rfl rfl rfl (by decide +kernel) ⟨Nat.le_of_ble_eq_true rfl, Nat.le_of_ble_eq_true rfl⟩) rfl hl.1 rfl (Nat.le_of_ble_eq_true rfl) dL_law_556 ⟨(by show cells + 1 ≤ 601024; omega), (by show slots + 6 ≤ 7293033; omega)⟩ (fun r9 V1 α1 H locs hq hw hS => ?_)
      obtain ⟨er, eu⟩ := hq
      subst er
      have e1 : V1 = V := congrArg Prod.fst eu
      have e2 : α1 = α := congrArg Prod.snd eu
      have hC1 : mC G V1 α1 f nr nw ns := by rw [e1, e2]; exact hC
      have h91 : V1 9 = _ := (congrFun e1 9).trans h9
      have hO : ∀ j, j < 100 → (10 ≤ j → V1 j = V j) ∧ α1 j = α j := fun j _ => ⟨fun _ => congrFun e1 j, congrFun e2 j⟩
      have hl : lv_has ls 7 [(4, .int (nI (j))), (0, .ref (b)), (1, .ref (α1 (0))), (2, .ref (α1 (10))), (3, .ref (α1 (9)))] := by rw [(hO 0 (by omega)).2, (hO 10 (by omega)).2, (hO 9 (by omega)).2]; exact hl
      have hM1 := hM.mvC (fun j h1 h2 => (hO j (by omega)).1 h1) (fun j hj => (hO j hj).2)
      refine lv_istore (lv' := [(5, .int (2)), (4, .int (nI (j))), (0, .ref (b)), (1, .ref (α1 (0))), (2, .ref (α1 (10))), (3, .ref (α1 (9)))]) hx hb dL_law_559 hl (by decide) rfl (fun ls hl => ?_)
      refine lv_aload_n hx hb dL_law_561 rfl (lv_at hl 4 rfl) ?_
      refine lv_aload_n hx hb dL_law_562 rfl (lv_at hl 2 rfl) ?_
      refine lv_iload hx hb dL_law_563 (lv_at hl 1 rfl) ?_
      refine lv_iconst (v := (1)) hx hb dL_law_565 (by decide) ?_
      refine lv_iadd hx hb dL_law_566 ?_
      refine msld (v := nI (k)) (k := j + 1) hx hb hX hbl hbA hS (nI_add j 1) (by omega) (by omega) (y1) dL_law_567 ?_
      refine lv_aload_n hx hb dL_law_568 rfl (lv_at hl 2 rfl) ?_
      refine lv_iload hx hb dL_law_569 (lv_at hl 1 rfl) ?_
      refine lv_iconst (v := (2)) hx hb dL_law_571 (by decide) ?_
      refine lv_iadd hx hb dL_law_572 ?_
      refine msld (v := x2) (k := j + 2) hx hb hX hbl hbA hS (nI_add j 2) (by omega) (by omega) (y2) dL_law_573 ?_
      refine mcallVw hw hM1.1 rfl rfl ⟨hx, hb, hml, hown, hts⟩ hS (c_X4_setRank_2 hM1 (nI k) x2 h h2) (cwV 2 hts gL_law_X4_setRank rfl rfl rfl (by decide +kernel) ⟨Nat.le_of_ble_eq_true rfl, Nat.le_of_ble_eq_true rfl⟩) rfl hl.1 rfl (Nat.le_of_ble_eq_true rfl) dL_law_574 ⟨(by show cells + 1 + 0 ≤ 601024; omega), (by show slots + 6 + 0 ≤ 7293033; omega)⟩ (fun r8 V2 α2 H locs hq hw hS => ?_)
      obtain ⟨er, hM2, hP, eα⟩ := hq
      dsimp only at hM2 hP eα
      subst er
      subst eα
      have hC2 := hC1.mvM (fun j hj => hP j hj)
      have h92 := (hP 9 (by omega)).trans h91
      refine lv_istore (lv' := [(6, .int (0)), (5, .int (2)), (4, .int (nI (j))), (0, .ref (b)), (1, .ref (α1 (0))), (2, .ref (α1 (10))), (3, .ref (α1 (9)))]) hx hb dL_law_577 hl (by decide) rfl (fun ls hl => ?_)
      refine lv_aload_n hx hb dL_law_579 rfl (lv_at hl 5 rfl) ?_
      refine mcallVi hw hM2.1 rfl rfl ⟨hx, hb, hml, hown, hts⟩ (c_X4_thrown hM2) (cwV 0 hts gL_law_X4_thrown rfl rfl rfl (by decide +kernel) ⟨Nat.le_of_ble_eq_true rfl, Nat.le_of_ble_eq_true rfl⟩) rfl hl.1 rfl (Nat.le_of_ble_eq_true rfl) dL_law_580 ⟨(by show cells + 1 + 0 + 0 ≤ 601024; omega), (by show slots + 6 + 0 + 0 ≤ 7293033; omega)⟩ ?_
      refine lv_iload hx hb dL_law_583 (lv_at hl 1 rfl) ?_
      refine lv_icmp_eq (tgt := 590) hx hb dL_law_585 (by decide) (fun c4 => ?_) (fun z => absurd ((by decide)) z)
      refine lv_iload hx hb dL_law_590 (lv_at hl 1 rfl) ?_
      refine lv_if_ne (tgt := 607) hx hb dL_law_592 (by decide) (fun c5 => ?_) (fun z => absurd z ((by decide)))
      refine lv_goto (tgt := 1415) hx hb dL_law_607 (by decide) ?_
      refine W.widen (k := cells + 2) (n := slots + 210) (by omega) (by omega) ?_
      exact kk V2 α1 (f) nr nw ns 2 H locs ls ⟨hC2, hM2, hwf, ⟨_, h92⟩⟩ hw hS ⟨hl.1, hl.2.1, fun q hq => hl.2.2 q (List.mem_cons_of_mem _ (List.mem_cons_of_mem _ hq))⟩
  ·
    refine lv_aload_n hx hb dL_law_542 rfl (lv_at hl 2 rfl) ?_
    refine lv_aload_n hx hb dL_law_543 rfl (lv_at hl 1 rfl) ?_
    refine lv_iload hx hb dL_law_544 (lv_at hl 0 rfl) ?_
    refine lv_iconst (v := (1)) hx hb dL_law_546 (by decide) ?_
    refine lv_iadd hx hb dL_law_547 ?_
    refine msld (v := x1) (k := j + 1) hx hb hX hbl hbA hS (nI_add j 1) (by omega) (by omega) (y1) dL_law_548 ?_
    refine lv_aload_n hx hb dL_law_549 rfl (lv_at hl 1 rfl) ?_
    refine lv_iload hx hb dL_law_550 (lv_at hl 0 rfl) ?_
    refine lv_iconst (v := (2)) hx hb dL_law_552 (by decide) ?_
    refine lv_iadd hx hb dL_law_553 ?_
    refine msld (v := x2) (k := j + 2) hx hb hX hbl hbA hS (nI_add j 2) (by omega) (by omega) (y2) dL_law_554 ?_
    refine lv_aload_n hx hb dL_law_555 rfl (lv_at hl 4 rfl) ?_
    refine mcallSWi hw ⟨hx, hb, hml, hown, hts⟩ hS (x_X3_setRank_1 hl0 hC hwf x1 x2 h) (vx_cwSW 4 hts gL_law_L_setRank rfl rfl rfl (by decide +kernel) ⟨Nat.le_of_ble_eq_true rfl, Nat.le_of_ble_eq_true rfl⟩) rfl hl.1 rfl (Nat.le_of_ble_eq_true rfl) dL_law_556 ⟨(by show cells + 1 ≤ 601024; omega), (by show slots + 6 ≤ 7293033; omega)⟩ (fun r9 V1 α1 H locs hq hw hS => ?_)
    obtain ⟨er, eu⟩ := hq
    subst er
    have e1 : V1 = V := congrArg Prod.fst eu
    have e2 : α1 = α := congrArg Prod.snd eu
    have hC1 : mC G V1 α1 f nr nw ns := by rw [e1, e2]; exact hC
    have h91 : V1 9 = _ := (congrFun e1 9).trans h9
    have hO : ∀ j, j < 100 → (10 ≤ j → V1 j = V j) ∧ α1 j = α j := fun j _ => ⟨fun _ => congrFun e1 j, congrFun e2 j⟩
    have hl : lv_has ls 7 [(4, .int (nI (j))), (0, .ref (b)), (1, .ref (α1 (0))), (2, .ref (α1 (10))), (3, .ref (α1 (9)))] := by rw [(hO 0 (by omega)).2, (hO 10 (by omega)).2, (hO 9 (by omega)).2]; exact hl
    have hM1 := hM.mvC (fun j h1 h2 => (hO j (by omega)).1 h1) (fun j hj => (hO j hj).2)
    refine lv_istore (lv' := [(5, .int (1)), (4, .int (nI (j))), (0, .ref (b)), (1, .ref (α1 (0))), (2, .ref (α1 (10))), (3, .ref (α1 (9)))]) hx hb dL_law_559 hl (by decide) rfl (fun ls hl => ?_)
    refine lv_aload_n hx hb dL_law_561 rfl (lv_at hl 4 rfl) ?_
    refine lv_aload_n hx hb dL_law_562 rfl (lv_at hl 2 rfl) ?_
    refine lv_iload hx hb dL_law_563 (lv_at hl 1 rfl) ?_
    refine lv_iconst (v := (1)) hx hb dL_law_565 (by decide) ?_
    refine lv_iadd hx hb dL_law_566 ?_
    refine msld (v := x1) (k := j + 1) hx hb hX hbl hbA hS (nI_add j 1) (by omega) (by omega) (y1) dL_law_567 ?_
    refine lv_aload_n hx hb dL_law_568 rfl (lv_at hl 2 rfl) ?_
    refine lv_iload hx hb dL_law_569 (lv_at hl 1 rfl) ?_
    refine lv_iconst (v := (2)) hx hb dL_law_571 (by decide) ?_
    refine lv_iadd hx hb dL_law_572 ?_
    refine msld (v := x2) (k := j + 2) hx hb hX hbl hbA hS (nI_add j 2) (by omega) (by omega) (y2) dL_law_573 ?_
    refine mcallVw hw hM1.1 rfl rfl ⟨hx, hb, hml, hown, hts⟩ hS (c_X4_setRank_1 hM1 x1 x2 h) (cwV 2 hts gL_law_X4_setRank rfl rfl rfl (by decide +kernel) ⟨Nat.le_of_ble_eq_true rfl, Nat.le_of_ble_eq_true rfl⟩) rfl hl.1 rfl (Nat.le_of_ble_eq_true rfl) dL_law_574 ⟨(by show cells + 1 + 0 ≤ 601024; omega), (by show slots + 6 + 0 ≤ 7293033; omega)⟩ (fun r8 V2 α2 H locs hq hw hS => ?_)
    obtain ⟨er, hM2, hP, eα⟩ := hq
    dsimp only at hM2 hP eα
    subst er
    subst eα
    have hC2 := hC1.mvM (fun j hj => hP j hj)
    have h92 := (hP 9 (by omega)).trans h91
    refine lv_istore (lv' := [(6, .int (0)), (5, .int (1)), (4, .int (nI (j))), (0, .ref (b)), (1, .ref (α1 (0))), (2, .ref (α1 (10))), (3, .ref (α1 (9)))]) hx hb dL_law_577 hl (by decide) rfl (fun ls hl => ?_)
    refine lv_aload_n hx hb dL_law_579 rfl (lv_at hl 5 rfl) ?_
    refine mcallVi hw hM2.1 rfl rfl ⟨hx, hb, hml, hown, hts⟩ (c_X4_thrown hM2) (cwV 0 hts gL_law_X4_thrown rfl rfl rfl (by decide +kernel) ⟨Nat.le_of_ble_eq_true rfl, Nat.le_of_ble_eq_true rfl⟩) rfl hl.1 rfl (Nat.le_of_ble_eq_true rfl) dL_law_580 ⟨(by show cells + 1 + 0 + 0 ≤ 601024; omega), (by show slots + 6 + 0 + 0 ≤ 7293033; omega)⟩ ?_
    refine lv_iload hx hb dL_law_583 (lv_at hl 1 rfl) ?_
    refine lv_icmp_eq (tgt := 590) hx hb dL_law_585 (by decide) (fun c6 => ?_) (fun z => absurd ((by decide)) z)
    refine lv_iload hx hb dL_law_590 (lv_at hl 1 rfl) ?_
    refine lv_if_ne (tgt := 607) hx hb dL_law_592 (by decide) (fun c7 => ?_) (fun z => absurd z ((by decide)))
    refine lv_goto (tgt := 1415) hx hb dL_law_607 (by decide) ?_
    refine W.widen (k := cells + 2) (n := slots + 210) (by omega) (by omega) ?_
    exact kk V2 α1 (f) nr nw ns 1 H locs ls ⟨hC2, hM2, hwf, ⟨_, h92⟩⟩ hw hS ⟨hl.1, hl.2.1, fun q hq => hl.2.2 q (List.mem_cons_of_mem _ (List.mem_cons_of_mem _ hq))⟩

set_option maxHeartbeats 4000000 in
set_option maxRecDepth 100000 in
theorem op_addShift {p : Program} {l : Launch} {e : Env} {s : State} {m : MethodId} {args : Array Value} {below : List Frame} {meth : Method} {c : Code} {H : Heap} {locs : List Loc} {cells slots : Nat} {Q : State → Prop} {ls : Array Slot} {G : mG} {V : mV} {α : Nat → Nat} {f : sT} {nr nw ns : Nat} {th : Int32} {b L : Nat} {xs : Nat → Int32} {j : Nat} (hF : mFix p l s m args c G b L xs) (hj : j + 6 ≤ L) {x1 x2 x3 x4 x5 : Int32} (y1 : xs (j + 1) = x1) (y2 : xs (j + 2) = x2) (y3 : xs (j + 3) = x3) (y4 : xs (j + 4) = x4) (y5 : xs (j + 5) = x5) (hI : mI G V α f nr nw ns th) (hw : mW G V α s H) (hS : va_S (mfree G) s.heap H locs) (hc9 : cells + 2 ≤ 601024) (hs9 : slots + 210 ≤ 7293033) (hl : lv_has ls 7 [(4, .int (nI (j))), (0, .ref (b)), (1, .ref (α (0))), (2, .ref (α (10))), (3, .ref (α (9)))])
    (kk : ∀ (V1 : mV) (α1 : Nat → Nat) (f1 : sT) (nr1 nw1 ns1 : Nat) (th1 : Int32) (H1 : Heap) (locs1 : List Loc) (ls1 : Array Slot), mI G V1 α1 f1 nr1 nw1 ns1 th1 → mW G V1 α1 s H1 → va_S (mfree G) s.heap H1 locs1 → lv_has ls1 7 [(4, .int (nI (j))), (0, .ref (b)), (1, .ref (α1 (0))), (2, .ref (α1 (10))), (3, .ref (α1 (9)))] → W p l e room_1 s m args below meth c H1 locs1 (cells + 2) (slots + 210) Q (F0 m 1415 ls1 [])) : W p l e room_1 s m args below meth c H locs cells slots Q (F0 m 610 ls []) := by
  obtain ⟨hl0, hx, hb, hml, hown, hts, hX, hbl, hbA, hL⟩ := hF
  obtain ⟨hC, hM, hwf, g0, h9⟩ := hI
  obtain ⟨hnr, hnw, hns⟩ := hwf.1
  by_cases h : inn x1 0 (nI nw - 1)
  ·
    have hh := h
    obtain ⟨k, hk, rfl⟩ := ix_inn (by omega) hh
    by_cases h2 : inn x2 0 362 ∧ inn x3 0 95 ∧ inn x4 1 64
    ·
      obtain ⟨d, hd, rfl⟩ := ixc (n := 363) (by decide) (by decide +kernel) h2.1
      obtain ⟨qq, hqq, rfl⟩ := ixc (n := 96) (by decide) (by decide +kernel) h2.2.1
      obtain ⟨ln, hln, hln2, rfl⟩ := in164 h2.2.2
      have ed : 96 * d + qq = d * 96 + qq := by omega
      rcases ov_same hwf hk (t := d * 96 + qq) (by omega) hln hln2 with ⟨o1, o2⟩ | ⟨o1, o2, o3⟩
      ·
        refine lv_aload_n hx hb dL_law_610 rfl (lv_at hl 2 rfl) ?_
        refine lv_aload_n hx hb dL_law_611 rfl (lv_at hl 1 rfl) ?_
        refine lv_iload hx hb dL_law_612 (lv_at hl 0 rfl) ?_
        refine lv_iconst (v := (1)) hx hb dL_law_614 (by decide) ?_
        refine lv_iadd hx hb dL_law_615 ?_
        refine msld (v := nI (k)) (k := j + 1) hx hb hX hbl hbA hS (nI_add j 1) (by omega) (by omega) (y1) dL_law_616 ?_
        refine lv_aload_n hx hb dL_law_617 rfl (lv_at hl 1 rfl) ?_
        refine lv_iload hx hb dL_law_618 (lv_at hl 0 rfl) ?_
        refine lv_iconst (v := (2)) hx hb dL_law_620 (by decide) ?_
        refine lv_iadd hx hb dL_law_621 ?_
        refine msld (v := nI (d)) (k := j + 2) hx hb hX hbl hbA hS (nI_add j 2) (by omega) (by omega) (y2) dL_law_622 ?_
        refine lv_aload_n hx hb dL_law_623 rfl (lv_at hl 1 rfl) ?_
        refine lv_iload hx hb dL_law_624 (lv_at hl 0 rfl) ?_
        refine lv_iconst (v := (3)) hx hb dL_law_626 (by decide) ?_
        refine lv_iadd hx hb dL_law_627 ?_
        refine msld (v := nI (qq)) (k := j + 3) hx hb hX hbl hbA hS (nI_add j 3) (by omega) (by omega) (y3) dL_law_628 ?_
        refine lv_aload_n hx hb dL_law_629 rfl (lv_at hl 1 rfl) ?_
        refine lv_iload hx hb dL_law_630 (lv_at hl 0 rfl) ?_
        refine lv_iconst (v := (4)) hx hb dL_law_632 (by decide) ?_
        refine lv_iadd hx hb dL_law_633 ?_
        refine msld (v := nI (ln)) (k := j + 4) hx hb hX hbl hbA hS (nI_add j 4) (by omega) (by omega) (y4) dL_law_634 ?_
        refine lv_aload_n hx hb dL_law_635 rfl (lv_at hl 4 rfl) ?_
        refine mcallSWi hw ⟨hx, hb, hml, hown, hts⟩ hS (x_X3_addShift_3 hl0 hC hwf k d qq ln hk hd hqq hln hln2 o2) (vx_cwSW 6 hts gL_law_L_addShift rfl rfl rfl (by decide +kernel) ⟨Nat.le_of_ble_eq_true rfl, Nat.le_of_ble_eq_true rfl⟩) rfl hl.1 rfl (Nat.le_of_ble_eq_true rfl) dL_law_636 ⟨(by show cells + 1 ≤ 601024; omega), (by show slots + 6 ≤ 7293033; omega)⟩ (fun r9 V1 α1 H locs hq hw hS => ?_)
        obtain ⟨er, eu⟩ := hq
        subst er
        have e1 : V1 = V := congrArg Prod.fst eu
        have e2 : α1 = α := congrArg Prod.snd eu
        have hC1 : mC G V1 α1 f nr nw ns := by rw [e1, e2]; exact hC
        have h91 : V1 9 = _ := (congrFun e1 9).trans h9
        have hO : ∀ j, j < 100 → (10 ≤ j → V1 j = V j) ∧ α1 j = α j := fun j _ => ⟨fun _ => congrFun e1 j, congrFun e2 j⟩
        have hl : lv_has ls 7 [(4, .int (nI (j))), (0, .ref (b)), (1, .ref (α1 (0))), (2, .ref (α1 (10))), (3, .ref (α1 (9)))] := by rw [(hO 0 (by omega)).2, (hO 10 (by omega)).2, (hO 9 (by omega)).2]; exact hl
        have hM1 := hM.mvC (fun j h1 h2 => (hO j (by omega)).1 h1) (fun j hj => (hO j hj).2)
        refine lv_istore (lv' := [(5, .int (3)), (4, .int (nI (j))), (0, .ref (b)), (1, .ref (α1 (0))), (2, .ref (α1 (10))), (3, .ref (α1 (9)))]) hx hb dL_law_639 hl (by decide) rfl (fun ls hl => ?_)
        refine lv_aload_n hx hb dL_law_641 rfl (lv_at hl 4 rfl) ?_
        refine lv_aload_n hx hb dL_law_642 rfl (lv_at hl 2 rfl) ?_
        refine lv_iload hx hb dL_law_643 (lv_at hl 1 rfl) ?_
        refine lv_iconst (v := (1)) hx hb dL_law_645 (by decide) ?_
        refine lv_iadd hx hb dL_law_646 ?_
        refine msld (v := nI (k)) (k := j + 1) hx hb hX hbl hbA hS (nI_add j 1) (by omega) (by omega) (y1) dL_law_647 ?_
        refine lv_aload_n hx hb dL_law_648 rfl (lv_at hl 2 rfl) ?_
        refine lv_iload hx hb dL_law_649 (lv_at hl 1 rfl) ?_
        refine lv_iconst (v := (2)) hx hb dL_law_651 (by decide) ?_
        refine lv_iadd hx hb dL_law_652 ?_
        refine msld (v := nI (d)) (k := j + 2) hx hb hX hbl hbA hS (nI_add j 2) (by omega) (by omega) (y2) dL_law_653 ?_
        refine lv_aload_n hx hb dL_law_654 rfl (lv_at hl 2 rfl) ?_
        refine lv_iload hx hb dL_law_655 (lv_at hl 1 rfl) ?_
        refine lv_iconst (v := (3)) hx hb dL_law_657 (by decide) ?_
        refine lv_iadd hx hb dL_law_658 ?_
        refine msld (v := nI (qq)) (k := j + 3) hx hb hX hbl hbA hS (nI_add j 3) (by omega) (by omega) (y3) dL_law_659 ?_
        refine lv_aload_n hx hb dL_law_660 rfl (lv_at hl 2 rfl) ?_
        refine lv_iload hx hb dL_law_661 (lv_at hl 1 rfl) ?_
        refine lv_iconst (v := (4)) hx hb dL_law_663 (by decide) ?_
        refine lv_iadd hx hb dL_law_664 ?_
        refine msld (v := nI (ln)) (k := j + 4) hx hb hX hbl hbA hS (nI_add j 4) (by omega) (by omega) (y4) dL_law_665 ?_
        refine mcallVw hw hM1.1 rfl rfl ⟨hx, hb, hml, hown, hts⟩ hS (c_X4_addShift_3 hM1 k d qq ln hk hnw hd hqq hln hln2 hns (by rw [ed]; exact o1)) (cwV 4 hts gL_law_X4_addShift rfl rfl rfl (by decide +kernel) ⟨Nat.le_of_ble_eq_true rfl, Nat.le_of_ble_eq_true rfl⟩) rfl hl.1 rfl (Nat.le_of_ble_eq_true rfl) dL_law_666 ⟨(by show cells + 1 + 0 ≤ 601024; omega), (by show slots + 6 + 0 ≤ 7293033; omega)⟩ (fun r8 V2 α2 H locs hq hw hS => ?_)
        obtain ⟨er, hM2, hP, eα⟩ := hq
        dsimp only at hM2 hP eα
        subst er
        subst eα
        have hC2 := hC1.mvM (fun j hj => hP j hj)
        have h92 := (hP 9 (by omega)).trans h91
        refine lv_istore (lv' := [(6, .int (0)), (5, .int (3)), (4, .int (nI (j))), (0, .ref (b)), (1, .ref (α1 (0))), (2, .ref (α1 (10))), (3, .ref (α1 (9)))]) hx hb dL_law_669 hl (by decide) rfl (fun ls hl => ?_)
        refine lv_aload_n hx hb dL_law_671 rfl (lv_at hl 5 rfl) ?_
        refine mcallVi hw hM2.1 rfl rfl ⟨hx, hb, hml, hown, hts⟩ (c_X4_thrown hM2) (cwV 0 hts gL_law_X4_thrown rfl rfl rfl (by decide +kernel) ⟨Nat.le_of_ble_eq_true rfl, Nat.le_of_ble_eq_true rfl⟩) rfl hl.1 rfl (Nat.le_of_ble_eq_true rfl) dL_law_672 ⟨(by show cells + 1 + 0 + 0 ≤ 601024; omega), (by show slots + 6 + 0 + 0 ≤ 7293033; omega)⟩ ?_
        refine lv_iload hx hb dL_law_675 (lv_at hl 1 rfl) ?_
        refine lv_icmp_eq (tgt := 682) hx hb dL_law_677 (by decide) (fun c1 => ?_) (fun z => absurd ((by decide)) z)
        refine lv_iload hx hb dL_law_682 (lv_at hl 1 rfl) ?_
        refine lv_if_ne (tgt := 699) hx hb dL_law_684 (by decide) (fun c2 => ?_) (fun z => absurd z ((by decide)))
        refine lv_goto (tgt := 1415) hx hb dL_law_699 (by decide) ?_
        refine W.widen (k := cells + 2) (n := slots + 210) (by omega) (by omega) ?_
        exact kk V2 α1 (f) nr nw ns 3 H locs ls ⟨hC2, hM2, hwf, ⟨_, h92⟩⟩ hw hS ⟨hl.1, hl.2.1, fun q hq => hl.2.2 q (List.mem_cons_of_mem _ (List.mem_cons_of_mem _ hq))⟩
      ·
        refine lv_aload_n hx hb dL_law_610 rfl (lv_at hl 2 rfl) ?_
        refine lv_aload_n hx hb dL_law_611 rfl (lv_at hl 1 rfl) ?_
        refine lv_iload hx hb dL_law_612 (lv_at hl 0 rfl) ?_
        refine lv_iconst (v := (1)) hx hb dL_law_614 (by decide) ?_
        refine lv_iadd hx hb dL_law_615 ?_
        refine msld (v := nI (k)) (k := j + 1) hx hb hX hbl hbA hS (nI_add j 1) (by omega) (by omega) (y1) dL_law_616 ?_
        refine lv_aload_n hx hb dL_law_617 rfl (lv_at hl 1 rfl) ?_
        refine lv_iload hx hb dL_law_618 (lv_at hl 0 rfl) ?_
        refine lv_iconst (v := (2)) hx hb dL_law_620 (by decide) ?_
        refine lv_iadd hx hb dL_law_621 ?_
        refine msld (v := nI (d)) (k := j + 2) hx hb hX hbl hbA hS (nI_add j 2) (by omega) (by omega) (y2) dL_law_622 ?_
        refine lv_aload_n hx hb dL_law_623 rfl (lv_at hl 1 rfl) ?_
        refine lv_iload hx hb dL_law_624 (lv_at hl 0 rfl) ?_
        refine lv_iconst (v := (3)) hx hb dL_law_626 (by decide) ?_
        refine lv_iadd hx hb dL_law_627 ?_
        refine msld (v := nI (qq)) (k := j + 3) hx hb hX hbl hbA hS (nI_add j 3) (by omega) (by omega) (y3) dL_law_628 ?_
        refine lv_aload_n hx hb dL_law_629 rfl (lv_at hl 1 rfl) ?_
        refine lv_iload hx hb dL_law_630 (lv_at hl 0 rfl) ?_
        refine lv_iconst (v := (4)) hx hb dL_law_632 (by decide) ?_
        refine lv_iadd hx hb dL_law_633 ?_
        refine msld (v := nI (ln)) (k := j + 4) hx hb hX hbl hbA hS (nI_add j 4) (by omega) (by omega) (y4) dL_law_634 ?_
        refine lv_aload_n hx hb dL_law_635 rfl (lv_at hl 4 rfl) ?_
        refine mcallSWi hw ⟨hx, hb, hml, hown, hts⟩ hS (w_X3_addShift hC hwf k d qq ln hk hd hqq hln hln2 o2 o3 h9) (vx_cwSW 6 hts gL_law_L_addShift rfl rfl rfl (by decide +kernel) ⟨Nat.le_of_ble_eq_true rfl, Nat.le_of_ble_eq_true rfl⟩) rfl hl.1 rfl (Nat.le_of_ble_eq_true rfl) dL_law_636 ⟨(by show cells + 2 ≤ 601024; omega), (by show slots + 210 ≤ 7293033; omega)⟩ (fun r9 V1 α1 H locs hq hw hS => ?_)
        obtain ⟨er, hC1, hO, g1, h91, hg1⟩ := hq
        dsimp only at hC1 hO h91
        subst er
        have hl : lv_has ls 7 [(4, .int (nI (j))), (0, .ref (b)), (1, .ref (α1 (0))), (2, .ref (α1 (10))), (3, .ref (α1 (9)))] := by rw [(hO 0 (by omega)).2, (hO 10 (by omega)).2, (hO 9 (by omega)).2]; exact hl
        have hM1 := hM.mvC (fun j h1 h2 => (hO j (by omega)).1 h1) (fun j hj => (hO j hj).2)
        refine lv_istore (lv' := [(5, .int (0)), (4, .int (nI (j))), (0, .ref (b)), (1, .ref (α1 (0))), (2, .ref (α1 (10))), (3, .ref (α1 (9)))]) hx hb dL_law_639 hl (by decide) rfl (fun ls hl => ?_)
        refine lv_aload_n hx hb dL_law_641 rfl (lv_at hl 4 rfl) ?_
        refine lv_aload_n hx hb dL_law_642 rfl (lv_at hl 2 rfl) ?_
        refine lv_iload hx hb dL_law_643 (lv_at hl 1 rfl) ?_
        refine lv_iconst (v := (1)) hx hb dL_law_645 (by decide) ?_
        refine lv_iadd hx hb dL_law_646 ?_
        refine msld (v := nI (k)) (k := j + 1) hx hb hX hbl hbA hS (nI_add j 1) (by omega) (by omega) (y1) dL_law_647 ?_
        refine lv_aload_n hx hb dL_law_648 rfl (lv_at hl 2 rfl) ?_
        refine lv_iload hx hb dL_law_649 (lv_at hl 1 rfl) ?_
        refine lv_iconst (v := (2)) hx hb dL_law_651 (by decide) ?_
        refine lv_iadd hx hb dL_law_652 ?_
        refine msld (v := nI (d)) (k := j + 2) hx hb hX hbl hbA hS (nI_add j 2) (by omega) (by omega) (y2) dL_law_653 ?_
        refine lv_aload_n hx hb dL_law_654 rfl (lv_at hl 2 rfl) ?_
        refine lv_iload hx hb dL_law_655 (lv_at hl 1 rfl) ?_
        refine lv_iconst (v := (3)) hx hb dL_law_657 (by decide) ?_
        refine lv_iadd hx hb dL_law_658 ?_
        refine msld (v := nI (qq)) (k := j + 3) hx hb hX hbl hbA hS (nI_add j 3) (by omega) (by omega) (y3) dL_law_659 ?_
        refine lv_aload_n hx hb dL_law_660 rfl (lv_at hl 2 rfl) ?_
        refine lv_iload hx hb dL_law_661 (lv_at hl 1 rfl) ?_
        refine lv_iconst (v := (4)) hx hb dL_law_663 (by decide) ?_
        refine lv_iadd hx hb dL_law_664 ?_
        refine msld (v := nI (ln)) (k := j + 4) hx hb hX hbl hbA hS (nI_add j 4) (by omega) (by omega) (y4) dL_law_665 ?_
        refine mcallVw hw hM1.1 rfl rfl ⟨hx, hb, hml, hown, hts⟩ hS (c_X4_addShift hM1 k d qq ln hk hnw hd hqq hln hln2 hns (by rw [ed]; exact o1) o2) (cwV 4 hts gL_law_X4_addShift rfl rfl rfl (by decide +kernel) ⟨Nat.le_of_ble_eq_true rfl, Nat.le_of_ble_eq_true rfl⟩) rfl hl.1 rfl (Nat.le_of_ble_eq_true rfl) dL_law_666 ⟨(by show cells + 2 + 0 ≤ 601024; omega), (by show slots + 210 + 0 ≤ 7293033; omega)⟩ (fun r8 V2 α2 H locs hq hw hS => ?_)
        obtain ⟨er, hM2, hP, eα⟩ := hq
        dsimp only at hM2 hP eα
        subst er
        subst eα
        rw [ed] at hM2
        have hC2 := hC1.mvM (fun j hj => hP j hj)
        have h92 := (hP 9 (by omega)).trans h91
        refine lv_istore (lv' := [(6, .int (nI ns)), (5, .int (0)), (4, .int (nI (j))), (0, .ref (b)), (1, .ref (α1 (0))), (2, .ref (α1 (10))), (3, .ref (α1 (9)))]) hx hb dL_law_669 hl (by decide) rfl (fun ls hl => ?_)
        refine lv_aload_n hx hb dL_law_671 rfl (lv_at hl 5 rfl) ?_
        refine mcallVi hw hM2.1 rfl rfl ⟨hx, hb, hml, hown, hts⟩ (c_X4_thrown hM2) (cwV 0 hts gL_law_X4_thrown rfl rfl rfl (by decide +kernel) ⟨Nat.le_of_ble_eq_true rfl, Nat.le_of_ble_eq_true rfl⟩) rfl hl.1 rfl (Nat.le_of_ble_eq_true rfl) dL_law_672 ⟨(by show cells + 2 + 0 + 0 ≤ 601024; omega), (by show slots + 210 + 0 + 0 ≤ 7293033; omega)⟩ ?_
        refine lv_iload hx hb dL_law_675 (lv_at hl 1 rfl) ?_
        refine lv_icmp_eq (tgt := 682) hx hb dL_law_677 (by decide) (fun c3 => ?_) (fun z => absurd ((by decide)) z)
        refine lv_iload hx hb dL_law_682 (lv_at hl 1 rfl) ?_
        refine lv_if_ne (tgt := 699) hx hb dL_law_684 (by decide) (fun z => absurd ((by decide)) z) (fun c4 => ?_)
        refine lv_aload_n hx hb dL_law_687 rfl (lv_at hl 6 rfl) ?_
        refine lv_iconst (v := (0)) hx hb dL_law_688 (by decide) ?_
        refine mlald' (k := 0) hx hb hw h92 rfl (by omega) (by decide) dL_law_689 ?_
        refine lv_iload hx hb dL_law_690 (lv_at hl 0 rfl) ?_
        refine lv_i2l (v := (nI ns).toInt64) hx hb dL_law_692 rfl ?_
        refine lv_lcmp0 hx hb (hg1.symm) dL_law_693 ?_
        refine lv_if_eq (tgt := 699) hx hb dL_law_694 (by decide) (fun c5 => ?_) (fun z => absurd ((by decide)) z)
        refine lv_goto (tgt := 1415) hx hb dL_law_699 (by decide) ?_
        refine W.widen (k := cells + 2) (n := slots + 210) (by omega) (by omega) ?_
        exact kk V2 α1 (u2 (u2 (u2 f 9 ns (nI k)) 10 ns (nI (d * 96 + qq))) 11 ns (nI ln)) nr nw (ns + 1) 0 H locs ls ⟨hC2, hM2, wf_addS hwf o2 hk (by omega) hln hln2, ⟨_, h92⟩⟩ hw hS ⟨hl.1, hl.2.1, fun q hq => hl.2.2 q (List.mem_cons_of_mem _ (List.mem_cons_of_mem _ hq))⟩
    ·
      refine lv_aload_n hx hb dL_law_610 rfl (lv_at hl 2 rfl) ?_
      refine lv_aload_n hx hb dL_law_611 rfl (lv_at hl 1 rfl) ?_
      refine lv_iload hx hb dL_law_612 (lv_at hl 0 rfl) ?_
      refine lv_iconst (v := (1)) hx hb dL_law_614 (by decide) ?_
      refine lv_iadd hx hb dL_law_615 ?_
      refine msld (v := nI (k)) (k := j + 1) hx hb hX hbl hbA hS (nI_add j 1) (by omega) (by omega) (y1) dL_law_616 ?_
      refine lv_aload_n hx hb dL_law_617 rfl (lv_at hl 1 rfl) ?_
      refine lv_iload hx hb dL_law_618 (lv_at hl 0 rfl) ?_
      refine lv_iconst (v := (2)) hx hb dL_law_620 (by decide) ?_
      refine lv_iadd hx hb dL_law_621 ?_
      refine msld (v := x2) (k := j + 2) hx hb hX hbl hbA hS (nI_add j 2) (by omega) (by omega) (y2) dL_law_622 ?_
      refine lv_aload_n hx hb dL_law_623 rfl (lv_at hl 1 rfl) ?_
      refine lv_iload hx hb dL_law_624 (lv_at hl 0 rfl) ?_
      refine lv_iconst (v := (3)) hx hb dL_law_626 (by decide) ?_
      refine lv_iadd hx hb dL_law_627 ?_
      refine msld (v := x3) (k := j + 3) hx hb hX hbl hbA hS (nI_add j 3) (by omega) (by omega) (y3) dL_law_628 ?_
      refine lv_aload_n hx hb dL_law_629 rfl (lv_at hl 1 rfl) ?_
      refine lv_iload hx hb dL_law_630 (lv_at hl 0 rfl) ?_
      refine lv_iconst (v := (4)) hx hb dL_law_632 (by decide) ?_
      refine lv_iadd hx hb dL_law_633 ?_
      refine msld (v := x4) (k := j + 4) hx hb hX hbl hbA hS (nI_add j 4) (by omega) (by omega) (y4) dL_law_634 ?_
      refine lv_aload_n hx hb dL_law_635 rfl (lv_at hl 4 rfl) ?_
      refine mcallSWi hw ⟨hx, hb, hml, hown, hts⟩ hS (x_X3_addShift_2 hl0 hC hwf k hk x2 x3 x4 h2) (vx_cwSW 6 hts gL_law_L_addShift rfl rfl rfl (by decide +kernel) ⟨Nat.le_of_ble_eq_true rfl, Nat.le_of_ble_eq_true rfl⟩) rfl hl.1 rfl (Nat.le_of_ble_eq_true rfl) dL_law_636 ⟨(by show cells + 1 ≤ 601024; omega), (by show slots + 6 ≤ 7293033; omega)⟩ (fun r9 V1 α1 H locs hq hw hS => ?_)
      obtain ⟨er, eu⟩ := hq
      subst er
      have e1 : V1 = V := congrArg Prod.fst eu
      have e2 : α1 = α := congrArg Prod.snd eu
      have hC1 : mC G V1 α1 f nr nw ns := by rw [e1, e2]; exact hC
      have h91 : V1 9 = _ := (congrFun e1 9).trans h9
      have hO : ∀ j, j < 100 → (10 ≤ j → V1 j = V j) ∧ α1 j = α j := fun j _ => ⟨fun _ => congrFun e1 j, congrFun e2 j⟩
      have hl : lv_has ls 7 [(4, .int (nI (j))), (0, .ref (b)), (1, .ref (α1 (0))), (2, .ref (α1 (10))), (3, .ref (α1 (9)))] := by rw [(hO 0 (by omega)).2, (hO 10 (by omega)).2, (hO 9 (by omega)).2]; exact hl
      have hM1 := hM.mvC (fun j h1 h2 => (hO j (by omega)).1 h1) (fun j hj => (hO j hj).2)
      refine lv_istore (lv' := [(5, .int (2)), (4, .int (nI (j))), (0, .ref (b)), (1, .ref (α1 (0))), (2, .ref (α1 (10))), (3, .ref (α1 (9)))]) hx hb dL_law_639 hl (by decide) rfl (fun ls hl => ?_)
      refine lv_aload_n hx hb dL_law_641 rfl (lv_at hl 4 rfl) ?_
      refine lv_aload_n hx hb dL_law_642 rfl (lv_at hl 2 rfl) ?_
      refine lv_iload hx hb dL_law_643 (lv_at hl 1 rfl) ?_
      refine lv_iconst (v := (1)) hx hb dL_law_645 (by decide) ?_
      refine lv_iadd hx hb dL_law_646 ?_
      refine msld (v := nI (k)) (k := j + 1) hx hb hX hbl hbA hS (nI_add j 1) (by omega) (by omega) (y1) dL_law_647 ?_
      refine lv_aload_n hx hb dL_law_648 rfl (lv_at hl 2 rfl) ?_
      refine lv_iload hx hb dL_law_649 (lv_at hl 1 rfl) ?_
      refine lv_iconst (v := (2)) hx hb dL_law_651 (by decide) ?_
      refine lv_iadd hx hb dL_law_652 ?_
      refine msld (v := x2) (k := j + 2) hx hb hX hbl hbA hS (nI_add j 2) (by omega) (by omega) (y2) dL_law_653 ?_
      refine lv_aload_n hx hb dL_law_654 rfl (lv_at hl 2 rfl) ?_
      refine lv_iload hx hb dL_law_655 (lv_at hl 1 rfl) ?_
      refine lv_iconst (v := (3)) hx hb dL_law_657 (by decide) ?_
      refine lv_iadd hx hb dL_law_658 ?_
      refine msld (v := x3) (k := j + 3) hx hb hX hbl hbA hS (nI_add j 3) (by omega) (by omega) (y3) dL_law_659 ?_
      refine lv_aload_n hx hb dL_law_660 rfl (lv_at hl 2 rfl) ?_
      refine lv_iload hx hb dL_law_661 (lv_at hl 1 rfl) ?_
      refine lv_iconst (v := (4)) hx hb dL_law_663 (by decide) ?_
      refine lv_iadd hx hb dL_law_664 ?_
      refine msld (v := x4) (k := j + 4) hx hb hX hbl hbA hS (nI_add j 4) (by omega) (by omega) (y4) dL_law_665 ?_
      refine mcallVw hw hM1.1 rfl rfl ⟨hx, hb, hml, hown, hts⟩ hS (c_X4_addShift_2 hM1 (nI k) x2 x3 x4 h h2) (cwV 4 hts gL_law_X4_addShift rfl rfl rfl (by decide +kernel) ⟨Nat.le_of_ble_eq_true rfl, Nat.le_of_ble_eq_true rfl⟩) rfl hl.1 rfl (Nat.le_of_ble_eq_true rfl) dL_law_666 ⟨(by show cells + 1 + 0 ≤ 601024; omega), (by show slots + 6 + 0 ≤ 7293033; omega)⟩ (fun r8 V2 α2 H locs hq hw hS => ?_)
      obtain ⟨er, hM2, hP, eα⟩ := hq
      dsimp only at hM2 hP eα
      subst er
      subst eα
      have hC2 := hC1.mvM (fun j hj => hP j hj)
      have h92 := (hP 9 (by omega)).trans h91
      refine lv_istore (lv' := [(6, .int (0)), (5, .int (2)), (4, .int (nI (j))), (0, .ref (b)), (1, .ref (α1 (0))), (2, .ref (α1 (10))), (3, .ref (α1 (9)))]) hx hb dL_law_669 hl (by decide) rfl (fun ls hl => ?_)
      refine lv_aload_n hx hb dL_law_671 rfl (lv_at hl 5 rfl) ?_
      refine mcallVi hw hM2.1 rfl rfl ⟨hx, hb, hml, hown, hts⟩ (c_X4_thrown hM2) (cwV 0 hts gL_law_X4_thrown rfl rfl rfl (by decide +kernel) ⟨Nat.le_of_ble_eq_true rfl, Nat.le_of_ble_eq_true rfl⟩) rfl hl.1 rfl (Nat.le_of_ble_eq_true rfl) dL_law_672 ⟨(by show cells + 1 + 0 + 0 ≤ 601024; omega), (by show slots + 6 + 0 + 0 ≤ 7293033; omega)⟩ ?_
      refine lv_iload hx hb dL_law_675 (lv_at hl 1 rfl) ?_
      refine lv_icmp_eq (tgt := 682) hx hb dL_law_677 (by decide) (fun c6 => ?_) (fun z => absurd ((by decide)) z)
      refine lv_iload hx hb dL_law_682 (lv_at hl 1 rfl) ?_
      refine lv_if_ne (tgt := 699) hx hb dL_law_684 (by decide) (fun c7 => ?_) (fun z => absurd z ((by decide)))
      refine lv_goto (tgt := 1415) hx hb dL_law_699 (by decide) ?_
      refine W.widen (k := cells + 2) (n := slots + 210) (by omega) (by omega) ?_
      exact kk V2 α1 (f) nr nw ns 2 H locs ls ⟨hC2, hM2, hwf, ⟨_, h92⟩⟩ hw hS ⟨hl.1, hl.2.1, fun q hq => hl.2.2 q (List.mem_cons_of_mem _ (List.mem_cons_of_mem _ hq))⟩
  ·
    refine lv_aload_n hx hb dL_law_610 rfl (lv_at hl 2 rfl) ?_
    refine lv_aload_n hx hb dL_law_611 rfl (lv_at hl 1 rfl) ?_
    refine lv_iload hx hb dL_law_612 (lv_at hl 0 rfl) ?_
    refine lv_iconst (v := (1)) hx hb dL_law_614 (by decide) ?_
    refine lv_iadd hx hb dL_law_615 ?_
    refine msld (v := x1) (k := j + 1) hx hb hX hbl hbA hS (nI_add j 1) (by omega) (by omega) (y1) dL_law_616 ?_
    refine lv_aload_n hx hb dL_law_617 rfl (lv_at hl 1 rfl) ?_
    refine lv_iload hx hb dL_law_618 (lv_at hl 0 rfl) ?_
    refine lv_iconst (v := (2)) hx hb dL_law_620 (by decide) ?_
    refine lv_iadd hx hb dL_law_621 ?_
    refine msld (v := x2) (k := j + 2) hx hb hX hbl hbA hS (nI_add j 2) (by omega) (by omega) (y2) dL_law_622 ?_
    refine lv_aload_n hx hb dL_law_623 rfl (lv_at hl 1 rfl) ?_
    refine lv_iload hx hb dL_law_624 (lv_at hl 0 rfl) ?_
    refine lv_iconst (v := (3)) hx hb dL_law_626 (by decide) ?_
    refine lv_iadd hx hb dL_law_627 ?_
    refine msld (v := x3) (k := j + 3) hx hb hX hbl hbA hS (nI_add j 3) (by omega) (by omega) (y3) dL_law_628 ?_
    refine lv_aload_n hx hb dL_law_629 rfl (lv_at hl 1 rfl) ?_
    refine lv_iload hx hb dL_law_630 (lv_at hl 0 rfl) ?_
    refine lv_iconst (v := (4)) hx hb dL_law_632 (by decide) ?_
    refine lv_iadd hx hb dL_law_633 ?_
    refine msld (v := x4) (k := j + 4) hx hb hX hbl hbA hS (nI_add j 4) (by omega) (by omega) (y4) dL_law_634 ?_
    refine lv_aload_n hx hb dL_law_635 rfl (lv_at hl 4 rfl) ?_
    refine mcallSWi hw ⟨hx, hb, hml, hown, hts⟩ hS (x_X3_addShift_1 hl0 hC hwf x1 x2 x3 x4 h) (vx_cwSW 6 hts gL_law_L_addShift rfl rfl rfl (by decide +kernel) ⟨Nat.le_of_ble_eq_true rfl, Nat.le_of_ble_eq_true rfl⟩) rfl hl.1 rfl (Nat.le_of_ble_eq_true rfl) dL_law_636 ⟨(by show cells + 1 ≤ 601024; omega), (by show slots + 6 ≤ 7293033; omega)⟩ (fun r9 V1 α1 H locs hq hw hS => ?_)
    obtain ⟨er, eu⟩ := hq
    subst er
    have e1 : V1 = V := congrArg Prod.fst eu
    have e2 : α1 = α := congrArg Prod.snd eu
    have hC1 : mC G V1 α1 f nr nw ns := by rw [e1, e2]; exact hC
    have h91 : V1 9 = _ := (congrFun e1 9).trans h9
    have hO : ∀ j, j < 100 → (10 ≤ j → V1 j = V j) ∧ α1 j = α j := fun j _ => ⟨fun _ => congrFun e1 j, congrFun e2 j⟩
    have hl : lv_has ls 7 [(4, .int (nI (j))), (0, .ref (b)), (1, .ref (α1 (0))), (2, .ref (α1 (10))), (3, .ref (α1 (9)))] := by rw [(hO 0 (by omega)).2, (hO 10 (by omega)).2, (hO 9 (by omega)).2]; exact hl
    have hM1 := hM.mvC (fun j h1 h2 => (hO j (by omega)).1 h1) (fun j hj => (hO j hj).2)
    refine lv_istore (lv' := [(5, .int (1)), (4, .int (nI (j))), (0, .ref (b)), (1, .ref (α1 (0))), (2, .ref (α1 (10))), (3, .ref (α1 (9)))]) hx hb dL_law_639 hl (by decide) rfl (fun ls hl => ?_)
    refine lv_aload_n hx hb dL_law_641 rfl (lv_at hl 4 rfl) ?_
    refine lv_aload_n hx hb dL_law_642 rfl (lv_at hl 2 rfl) ?_
    refine lv_iload hx hb dL_law_643 (lv_at hl 1 rfl) ?_
    refine lv_iconst (v := (1)) hx hb dL_law_645 (by decide) ?_
    refine lv_iadd hx hb dL_law_646 ?_
    refine msld (v := x1) (k := j + 1) hx hb hX hbl hbA hS (nI_add j 1) (by omega) (by omega) (y1) dL_law_647 ?_
    refine lv_aload_n hx hb dL_law_648 rfl (lv_at hl 2 rfl) ?_
    refine lv_iload hx hb dL_law_649 (lv_at hl 1 rfl) ?_
    refine lv_iconst (v := (2)) hx hb dL_law_651 (by decide) ?_
    refine lv_iadd hx hb dL_law_652 ?_
    refine msld (v := x2) (k := j + 2) hx hb hX hbl hbA hS (nI_add j 2) (by omega) (by omega) (y2) dL_law_653 ?_
    refine lv_aload_n hx hb dL_law_654 rfl (lv_at hl 2 rfl) ?_
    refine lv_iload hx hb dL_law_655 (lv_at hl 1 rfl) ?_
    refine lv_iconst (v := (3)) hx hb dL_law_657 (by decide) ?_
    refine lv_iadd hx hb dL_law_658 ?_
    refine msld (v := x3) (k := j + 3) hx hb hX hbl hbA hS (nI_add j 3) (by omega) (by omega) (y3) dL_law_659 ?_
    refine lv_aload_n hx hb dL_law_660 rfl (lv_at hl 2 rfl) ?_
    refine lv_iload hx hb dL_law_661 (lv_at hl 1 rfl) ?_
    refine lv_iconst (v := (4)) hx hb dL_law_663 (by decide) ?_
    refine lv_iadd hx hb dL_law_664 ?_
    refine msld (v := x4) (k := j + 4) hx hb hX hbl hbA hS (nI_add j 4) (by omega) (by omega) (y4) dL_law_665 ?_
    refine mcallVw hw hM1.1 rfl rfl ⟨hx, hb, hml, hown, hts⟩ hS (c_X4_addShift_1 hM1 x1 x2 x3 x4 h) (cwV 4 hts gL_law_X4_addShift rfl rfl rfl (by decide +kernel) ⟨Nat.le_of_ble_eq_true rfl, Nat.le_of_ble_eq_true rfl⟩) rfl hl.1 rfl (Nat.le_of_ble_eq_true rfl) dL_law_666 ⟨(by show cells + 1 + 0 ≤ 601024; omega), (by show slots + 6 + 0 ≤ 7293033; omega)⟩ (fun r8 V2 α2 H locs hq hw hS => ?_)
    obtain ⟨er, hM2, hP, eα⟩ := hq
    dsimp only at hM2 hP eα
    subst er
    subst eα
    have hC2 := hC1.mvM (fun j hj => hP j hj)
    have h92 := (hP 9 (by omega)).trans h91
    refine lv_istore (lv' := [(6, .int (0)), (5, .int (1)), (4, .int (nI (j))), (0, .ref (b)), (1, .ref (α1 (0))), (2, .ref (α1 (10))), (3, .ref (α1 (9)))]) hx hb dL_law_669 hl (by decide) rfl (fun ls hl => ?_)
    refine lv_aload_n hx hb dL_law_671 rfl (lv_at hl 5 rfl) ?_
    refine mcallVi hw hM2.1 rfl rfl ⟨hx, hb, hml, hown, hts⟩ (c_X4_thrown hM2) (cwV 0 hts gL_law_X4_thrown rfl rfl rfl (by decide +kernel) ⟨Nat.le_of_ble_eq_true rfl, Nat.le_of_ble_eq_true rfl⟩) rfl hl.1 rfl (Nat.le_of_ble_eq_true rfl) dL_law_672 ⟨(by show cells + 1 + 0 + 0 ≤ 601024; omega), (by show slots + 6 + 0 + 0 ≤ 7293033; omega)⟩ ?_
    refine lv_iload hx hb dL_law_675 (lv_at hl 1 rfl) ?_
    refine lv_icmp_eq (tgt := 682) hx hb dL_law_677 (by decide) (fun c8 => ?_) (fun z => absurd ((by decide)) z)
    refine lv_iload hx hb dL_law_682 (lv_at hl 1 rfl) ?_
    refine lv_if_ne (tgt := 699) hx hb dL_law_684 (by decide) (fun c9 => ?_) (fun z => absurd z ((by decide)))
    refine lv_goto (tgt := 1415) hx hb dL_law_699 (by decide) ?_
    refine W.widen (k := cells + 2) (n := slots + 210) (by omega) (by omega) ?_
    exact kk V2 α1 (f) nr nw ns 1 H locs ls ⟨hC2, hM2, hwf, ⟨_, h92⟩⟩ hw hS ⟨hl.1, hl.2.1, fun q hq => hl.2.2 q (List.mem_cons_of_mem _ (List.mem_cons_of_mem _ hq))⟩

set_option maxHeartbeats 4000000 in
set_option maxRecDepth 100000 in
theorem op_cancel {p : Program} {l : Launch} {e : Env} {s : State} {m : MethodId} {args : Array Value} {below : List Frame} {meth : Method} {c : Code} {H : Heap} {locs : List Loc} {cells slots : Nat} {Q : State → Prop} {ls : Array Slot} {G : mG} {V : mV} {α : Nat → Nat} {f : sT} {nr nw ns : Nat} {th : Int32} {b L : Nat} {xs : Nat → Int32} {j : Nat} (hF : mFix p l s m args c G b L xs) (hj : j + 6 ≤ L) {x1 x2 x3 x4 x5 : Int32} (y1 : xs (j + 1) = x1) (y2 : xs (j + 2) = x2) (y3 : xs (j + 3) = x3) (y4 : xs (j + 4) = x4) (y5 : xs (j + 5) = x5) (hI : mI G V α f nr nw ns th) (hw : mW G V α s H) (hS : va_S (mfree G) s.heap H locs) (hc9 : cells + 2 ≤ 601024) (hs9 : slots + 210 ≤ 7293033) (hl : lv_has ls 7 [(4, .int (nI (j))), (0, .ref (b)), (1, .ref (α (0))), (2, .ref (α (10))), (3, .ref (α (9)))])
    (kk : ∀ (V1 : mV) (α1 : Nat → Nat) (f1 : sT) (nr1 nw1 ns1 : Nat) (th1 : Int32) (H1 : Heap) (locs1 : List Loc) (ls1 : Array Slot), mI G V1 α1 f1 nr1 nw1 ns1 th1 → mW G V1 α1 s H1 → va_S (mfree G) s.heap H1 locs1 → lv_has ls1 7 [(4, .int (nI (j))), (0, .ref (b)), (1, .ref (α1 (0))), (2, .ref (α1 (10))), (3, .ref (α1 (9)))] → W p l e room_1 s m args below meth c H1 locs1 (cells + 2) (slots + 210) Q (F0 m 1415 ls1 [])) : W p l e room_1 s m args below meth c H locs cells slots Q (F0 m 702 ls []) := by
  obtain ⟨hl0, hx, hb, hml, hown, hts, hX, hbl, hbA, hL⟩ := hF
  obtain ⟨hC, hM, hwf, g0, h9⟩ := hI
  obtain ⟨hnr, hnw, hns⟩ := hwf.1
  by_cases h : inn x1 0 (nI ns - 1)
  ·
    have hh := h
    obtain ⟨si, hs, rfl⟩ := ix_inn (by omega) hh
    by_cases hg : f 13 si = 0
    ·
      refine lv_aload_n hx hb dL_law_702 rfl (lv_at hl 2 rfl) ?_
      refine lv_aload_n hx hb dL_law_703 rfl (lv_at hl 1 rfl) ?_
      refine lv_iload hx hb dL_law_704 (lv_at hl 0 rfl) ?_
      refine lv_iconst (v := (1)) hx hb dL_law_706 (by decide) ?_
      refine lv_iadd hx hb dL_law_707 ?_
      refine msld (v := nI (si)) (k := j + 1) hx hb hX hbl hbA hS (nI_add j 1) (by omega) (by omega) (y1) dL_law_708 ?_
      refine lv_aload_n hx hb dL_law_709 rfl (lv_at hl 4 rfl) ?_
      refine mcallSWi hw ⟨hx, hb, hml, hown, hts⟩ hS (w_X3_cancel hC hwf si hs hg h9) (vx_cwSW 3 hts gL_law_L_cancel rfl rfl rfl (by decide +kernel) ⟨Nat.le_of_ble_eq_true rfl, Nat.le_of_ble_eq_true rfl⟩) rfl hl.1 rfl (Nat.le_of_ble_eq_true rfl) dL_law_710 ⟨(by show cells + 0 ≤ 601024; omega), (by show slots + 0 ≤ 7293033; omega)⟩ (fun r9 V1 α1 H locs hq hw hS => ?_)
      obtain ⟨er, hC1, hO, g1, h91, hg1⟩ := hq
      dsimp only at hC1 hO h91
      subst er
      have hl : lv_has ls 7 [(4, .int (nI (j))), (0, .ref (b)), (1, .ref (α1 (0))), (2, .ref (α1 (10))), (3, .ref (α1 (9)))] := by rw [(hO 0 (by omega)).2, (hO 10 (by omega)).2, (hO 9 (by omega)).2]; exact hl
      have hM1 := hM.mvC (fun j h1 h2 => (hO j (by omega)).1 h1) (fun j hj => (hO j hj).2)
      refine lv_istore (lv' := [(5, .int (0)), (4, .int (nI (j))), (0, .ref (b)), (1, .ref (α1 (0))), (2, .ref (α1 (10))), (3, .ref (α1 (9)))]) hx hb dL_law_713 hl (by decide) rfl (fun ls hl => ?_)
      refine lv_aload_n hx hb dL_law_715 rfl (lv_at hl 4 rfl) ?_
      refine lv_aload_n hx hb dL_law_716 rfl (lv_at hl 2 rfl) ?_
      refine lv_iload hx hb dL_law_717 (lv_at hl 1 rfl) ?_
      refine lv_iconst (v := (1)) hx hb dL_law_719 (by decide) ?_
      refine lv_iadd hx hb dL_law_720 ?_
      refine msld (v := nI (si)) (k := j + 1) hx hb hX hbl hbA hS (nI_add j 1) (by omega) (by omega) (y1) dL_law_721 ?_
      refine mcallVw hw hM1.1 rfl rfl ⟨hx, hb, hml, hown, hts⟩ hS (c_X4_cancel hM1 hwf si hs hg) (cwV 1 hts gL_law_X4_cancel rfl rfl rfl (by decide +kernel) ⟨Nat.le_of_ble_eq_true rfl, Nat.le_of_ble_eq_true rfl⟩) rfl hl.1 rfl (Nat.le_of_ble_eq_true rfl) dL_law_722 ⟨(by show cells + 0 + 0 ≤ 601024; omega), (by show slots + 0 + 0 ≤ 7293033; omega)⟩ (fun r8 V2 α2 H locs hq hw hS => ?_)
      obtain ⟨er, hM2, hP, eα⟩ := hq
      dsimp only at hM2 hP eα
      subst er
      subst eα
      have hC2 := hC1.mvM (fun j hj => hP j hj)
      have h92 := (hP 9 (by omega)).trans h91
      refine lv_istore (lv' := [(6, .int (s_pay f nr si)), (5, .int (0)), (4, .int (nI (j))), (0, .ref (b)), (1, .ref (α1 (0))), (2, .ref (α1 (10))), (3, .ref (α1 (9)))]) hx hb dL_law_725 hl (by decide) rfl (fun ls hl => ?_)
      refine lv_aload_n hx hb dL_law_727 rfl (lv_at hl 5 rfl) ?_
      refine mcallVi hw hM2.1 rfl rfl ⟨hx, hb, hml, hown, hts⟩ (c_X4_thrown hM2) (cwV 0 hts gL_law_X4_thrown rfl rfl rfl (by decide +kernel) ⟨Nat.le_of_ble_eq_true rfl, Nat.le_of_ble_eq_true rfl⟩) rfl hl.1 rfl (Nat.le_of_ble_eq_true rfl) dL_law_728 ⟨(by show cells + 0 + 0 + 0 ≤ 601024; omega), (by show slots + 0 + 0 + 0 ≤ 7293033; omega)⟩ ?_
      refine lv_iload hx hb dL_law_731 (lv_at hl 1 rfl) ?_
      refine lv_icmp_eq (tgt := 738) hx hb dL_law_733 (by decide) (fun c1 => ?_) (fun z => absurd ((by decide)) z)
      refine lv_iload hx hb dL_law_738 (lv_at hl 1 rfl) ?_
      refine lv_if_ne (tgt := 755) hx hb dL_law_740 (by decide) (fun z => absurd ((by decide)) z) (fun c2 => ?_)
      refine lv_aload_n hx hb dL_law_743 rfl (lv_at hl 6 rfl) ?_
      refine lv_iconst (v := (0)) hx hb dL_law_744 (by decide) ?_
      refine mlald' (k := 0) hx hb hw h92 rfl (by omega) (by decide) dL_law_745 ?_
      refine lv_iload hx hb dL_law_746 (lv_at hl 0 rfl) ?_
      refine lv_i2l (v := (s_pay f nr si).toInt64) hx hb dL_law_748 rfl ?_
      refine lv_lcmp0 hx hb (hg1.symm) dL_law_749 ?_
      refine lv_if_eq (tgt := 755) hx hb dL_law_750 (by decide) (fun c3 => ?_) (fun z => absurd ((by decide)) z)
      refine lv_goto (tgt := 1415) hx hb dL_law_755 (by decide) ?_
      refine W.widen (k := cells + 2) (n := slots + 210) (by omega) (by omega) ?_
      exact kk V2 α1 (u2 f 13 si 1) nr nw ns 0 H locs ls ⟨hC2, hM2, wf_gone hwf hs (Or.inr rfl), ⟨_, h92⟩⟩ hw hS ⟨hl.1, hl.2.1, fun q hq => hl.2.2 q (List.mem_cons_of_mem _ (List.mem_cons_of_mem _ hq))⟩
    ·
      refine lv_aload_n hx hb dL_law_702 rfl (lv_at hl 2 rfl) ?_
      refine lv_aload_n hx hb dL_law_703 rfl (lv_at hl 1 rfl) ?_
      refine lv_iload hx hb dL_law_704 (lv_at hl 0 rfl) ?_
      refine lv_iconst (v := (1)) hx hb dL_law_706 (by decide) ?_
      refine lv_iadd hx hb dL_law_707 ?_
      refine msld (v := nI (si)) (k := j + 1) hx hb hX hbl hbA hS (nI_add j 1) (by omega) (by omega) (y1) dL_law_708 ?_
      refine lv_aload_n hx hb dL_law_709 rfl (lv_at hl 4 rfl) ?_
      refine mcallSWi hw ⟨hx, hb, hml, hown, hts⟩ hS (x_X3_cancel_2 hl0 hC hwf si hs hg) (vx_cwSW 3 hts gL_law_L_cancel rfl rfl rfl (by decide +kernel) ⟨Nat.le_of_ble_eq_true rfl, Nat.le_of_ble_eq_true rfl⟩) rfl hl.1 rfl (Nat.le_of_ble_eq_true rfl) dL_law_710 ⟨(by show cells + 1 ≤ 601024; omega), (by show slots + 6 ≤ 7293033; omega)⟩ (fun r9 V1 α1 H locs hq hw hS => ?_)
      obtain ⟨er, eu⟩ := hq
      subst er
      have e1 : V1 = V := congrArg Prod.fst eu
      have e2 : α1 = α := congrArg Prod.snd eu
      have hC1 : mC G V1 α1 f nr nw ns := by rw [e1, e2]; exact hC
      have h91 : V1 9 = _ := (congrFun e1 9).trans h9
      have hO : ∀ j, j < 100 → (10 ≤ j → V1 j = V j) ∧ α1 j = α j := fun j _ => ⟨fun _ => congrFun e1 j, congrFun e2 j⟩
      have hl : lv_has ls 7 [(4, .int (nI (j))), (0, .ref (b)), (1, .ref (α1 (0))), (2, .ref (α1 (10))), (3, .ref (α1 (9)))] := by rw [(hO 0 (by omega)).2, (hO 10 (by omega)).2, (hO 9 (by omega)).2]; exact hl
      have hM1 := hM.mvC (fun j h1 h2 => (hO j (by omega)).1 h1) (fun j hj => (hO j hj).2)
      refine lv_istore (lv' := [(5, .int (2)), (4, .int (nI (j))), (0, .ref (b)), (1, .ref (α1 (0))), (2, .ref (α1 (10))), (3, .ref (α1 (9)))]) hx hb dL_law_713 hl (by decide) rfl (fun ls hl => ?_)
      refine lv_aload_n hx hb dL_law_715 rfl (lv_at hl 4 rfl) ?_
      refine lv_aload_n hx hb dL_law_716 rfl (lv_at hl 2 rfl) ?_
      refine lv_iload hx hb dL_law_717 (lv_at hl 1 rfl) ?_
      refine lv_iconst (v := (1)) hx hb dL_law_719 (by decide) ?_
      refine lv_iadd hx hb dL_law_720 ?_
      refine msld (v := nI (si)) (k := j + 1) hx hb hX hbl hbA hS (nI_add j 1) (by omega) (by omega) (y1) dL_law_721 ?_
      refine mcallVw hw hM1.1 rfl rfl ⟨hx, hb, hml, hown, hts⟩ hS (c_X4_cancel_2 hM1 si hs hns hg) (cwV 1 hts gL_law_X4_cancel rfl rfl rfl (by decide +kernel) ⟨Nat.le_of_ble_eq_true rfl, Nat.le_of_ble_eq_true rfl⟩) rfl hl.1 rfl (Nat.le_of_ble_eq_true rfl) dL_law_722 ⟨(by show cells + 1 + 0 ≤ 601024; omega), (by show slots + 6 + 0 ≤ 7293033; omega)⟩ (fun r8 V2 α2 H locs hq hw hS => ?_)
      obtain ⟨er, hM2, hP, eα⟩ := hq
      dsimp only at hM2 hP eα
      subst er
      subst eα
      have hC2 := hC1.mvM (fun j hj => hP j hj)
      have h92 := (hP 9 (by omega)).trans h91
      refine lv_istore (lv' := [(6, .int (0)), (5, .int (2)), (4, .int (nI (j))), (0, .ref (b)), (1, .ref (α1 (0))), (2, .ref (α1 (10))), (3, .ref (α1 (9)))]) hx hb dL_law_725 hl (by decide) rfl (fun ls hl => ?_)
      refine lv_aload_n hx hb dL_law_727 rfl (lv_at hl 5 rfl) ?_
      refine mcallVi hw hM2.1 rfl rfl ⟨hx, hb, hml, hown, hts⟩ (c_X4_thrown hM2) (cwV 0 hts gL_law_X4_thrown rfl rfl rfl (by decide +kernel) ⟨Nat.le_of_ble_eq_true rfl, Nat.le_of_ble_eq_true rfl⟩) rfl hl.1 rfl (Nat.le_of_ble_eq_true rfl) dL_law_728 ⟨(by show cells + 1 + 0 + 0 ≤ 601024; omega), (by show slots + 6 + 0 + 0 ≤ 7293033; omega)⟩ ?_
      refine lv_iload hx hb dL_law_731 (lv_at hl 1 rfl) ?_
      refine lv_icmp_eq (tgt := 738) hx hb dL_law_733 (by decide) (fun c4 => ?_) (fun z => absurd ((by decide)) z)
      refine lv_iload hx hb dL_law_738 (lv_at hl 1 rfl) ?_
      refine lv_if_ne (tgt := 755) hx hb dL_law_740 (by decide) (fun c5 => ?_) (fun z => absurd z ((by decide)))
      refine lv_goto (tgt := 1415) hx hb dL_law_755 (by decide) ?_
      refine W.widen (k := cells + 2) (n := slots + 210) (by omega) (by omega) ?_
      exact kk V2 α1 (f) nr nw ns 2 H locs ls ⟨hC2, hM2, hwf, ⟨_, h92⟩⟩ hw hS ⟨hl.1, hl.2.1, fun q hq => hl.2.2 q (List.mem_cons_of_mem _ (List.mem_cons_of_mem _ hq))⟩
  ·
    refine lv_aload_n hx hb dL_law_702 rfl (lv_at hl 2 rfl) ?_
    refine lv_aload_n hx hb dL_law_703 rfl (lv_at hl 1 rfl) ?_
    refine lv_iload hx hb dL_law_704 (lv_at hl 0 rfl) ?_
    refine lv_iconst (v := (1)) hx hb dL_law_706 (by decide) ?_
    refine lv_iadd hx hb dL_law_707 ?_
    refine msld (v := x1) (k := j + 1) hx hb hX hbl hbA hS (nI_add j 1) (by omega) (by omega) (y1) dL_law_708 ?_
    refine lv_aload_n hx hb dL_law_709 rfl (lv_at hl 4 rfl) ?_
    refine mcallSWi hw ⟨hx, hb, hml, hown, hts⟩ hS (x_X3_cancel_1 hl0 hC hwf x1 h) (vx_cwSW 3 hts gL_law_L_cancel rfl rfl rfl (by decide +kernel) ⟨Nat.le_of_ble_eq_true rfl, Nat.le_of_ble_eq_true rfl⟩) rfl hl.1 rfl (Nat.le_of_ble_eq_true rfl) dL_law_710 ⟨(by show cells + 1 ≤ 601024; omega), (by show slots + 6 ≤ 7293033; omega)⟩ (fun r9 V1 α1 H locs hq hw hS => ?_)
    obtain ⟨er, eu⟩ := hq
    subst er
    have e1 : V1 = V := congrArg Prod.fst eu
    have e2 : α1 = α := congrArg Prod.snd eu
    have hC1 : mC G V1 α1 f nr nw ns := by rw [e1, e2]; exact hC
    have h91 : V1 9 = _ := (congrFun e1 9).trans h9
    have hO : ∀ j, j < 100 → (10 ≤ j → V1 j = V j) ∧ α1 j = α j := fun j _ => ⟨fun _ => congrFun e1 j, congrFun e2 j⟩
    have hl : lv_has ls 7 [(4, .int (nI (j))), (0, .ref (b)), (1, .ref (α1 (0))), (2, .ref (α1 (10))), (3, .ref (α1 (9)))] := by rw [(hO 0 (by omega)).2, (hO 10 (by omega)).2, (hO 9 (by omega)).2]; exact hl
    have hM1 := hM.mvC (fun j h1 h2 => (hO j (by omega)).1 h1) (fun j hj => (hO j hj).2)
    refine lv_istore (lv' := [(5, .int (1)), (4, .int (nI (j))), (0, .ref (b)), (1, .ref (α1 (0))), (2, .ref (α1 (10))), (3, .ref (α1 (9)))]) hx hb dL_law_713 hl (by decide) rfl (fun ls hl => ?_)
    refine lv_aload_n hx hb dL_law_715 rfl (lv_at hl 4 rfl) ?_
    refine lv_aload_n hx hb dL_law_716 rfl (lv_at hl 2 rfl) ?_
    refine lv_iload hx hb dL_law_717 (lv_at hl 1 rfl) ?_
    refine lv_iconst (v := (1)) hx hb dL_law_719 (by decide) ?_
    refine lv_iadd hx hb dL_law_720 ?_
    refine msld (v := x1) (k := j + 1) hx hb hX hbl hbA hS (nI_add j 1) (by omega) (by omega) (y1) dL_law_721 ?_
    refine mcallVw hw hM1.1 rfl rfl ⟨hx, hb, hml, hown, hts⟩ hS (c_X4_cancel_1 hM1 x1 h) (cwV 1 hts gL_law_X4_cancel rfl rfl rfl (by decide +kernel) ⟨Nat.le_of_ble_eq_true rfl, Nat.le_of_ble_eq_true rfl⟩) rfl hl.1 rfl (Nat.le_of_ble_eq_true rfl) dL_law_722 ⟨(by show cells + 1 + 0 ≤ 601024; omega), (by show slots + 6 + 0 ≤ 7293033; omega)⟩ (fun r8 V2 α2 H locs hq hw hS => ?_)
    obtain ⟨er, hM2, hP, eα⟩ := hq
    dsimp only at hM2 hP eα
    subst er
    subst eα
    have hC2 := hC1.mvM (fun j hj => hP j hj)
    have h92 := (hP 9 (by omega)).trans h91
    refine lv_istore (lv' := [(6, .int (0)), (5, .int (1)), (4, .int (nI (j))), (0, .ref (b)), (1, .ref (α1 (0))), (2, .ref (α1 (10))), (3, .ref (α1 (9)))]) hx hb dL_law_725 hl (by decide) rfl (fun ls hl => ?_)
    refine lv_aload_n hx hb dL_law_727 rfl (lv_at hl 5 rfl) ?_
    refine mcallVi hw hM2.1 rfl rfl ⟨hx, hb, hml, hown, hts⟩ (c_X4_thrown hM2) (cwV 0 hts gL_law_X4_thrown rfl rfl rfl (by decide +kernel) ⟨Nat.le_of_ble_eq_true rfl, Nat.le_of_ble_eq_true rfl⟩) rfl hl.1 rfl (Nat.le_of_ble_eq_true rfl) dL_law_728 ⟨(by show cells + 1 + 0 + 0 ≤ 601024; omega), (by show slots + 6 + 0 + 0 ≤ 7293033; omega)⟩ ?_
    refine lv_iload hx hb dL_law_731 (lv_at hl 1 rfl) ?_
    refine lv_icmp_eq (tgt := 738) hx hb dL_law_733 (by decide) (fun c6 => ?_) (fun z => absurd ((by decide)) z)
    refine lv_iload hx hb dL_law_738 (lv_at hl 1 rfl) ?_
    refine lv_if_ne (tgt := 755) hx hb dL_law_740 (by decide) (fun c7 => ?_) (fun z => absurd z ((by decide)))
    refine lv_goto (tgt := 1415) hx hb dL_law_755 (by decide) ?_
    refine W.widen (k := cells + 2) (n := slots + 210) (by omega) (by omega) ?_
    exact kk V2 α1 (f) nr nw ns 1 H locs ls ⟨hC2, hM2, hwf, ⟨_, h92⟩⟩ hw hS ⟨hl.1, hl.2.1, fun q hq => hl.2.2 q (List.mem_cons_of_mem _ (List.mem_cons_of_mem _ hq))⟩

set_option maxHeartbeats 4000000 in
set_option maxRecDepth 100000 in
theorem op_takeBreaks {p : Program} {l : Launch} {e : Env} {s : State} {m : MethodId} {args : Array Value} {below : List Frame} {meth : Method} {c : Code} {H : Heap} {locs : List Loc} {cells slots : Nat} {Q : State → Prop} {ls : Array Slot} {G : mG} {V : mV} {α : Nat → Nat} {f : sT} {nr nw ns : Nat} {th : Int32} {b L : Nat} {xs : Nat → Int32} {j : Nat} (hF : mFix p l s m args c G b L xs) (hj : j + 6 ≤ L) {x1 x2 x3 x4 x5 : Int32} (y1 : xs (j + 1) = x1) (y2 : xs (j + 2) = x2) (y3 : xs (j + 3) = x3) (y4 : xs (j + 4) = x4) (y5 : xs (j + 5) = x5) (hI : mI G V α f nr nw ns th) (hw : mW G V α s H) (hS : va_S (mfree G) s.heap H locs) (hc9 : cells + 2 ≤ 601024) (hs9 : slots + 210 ≤ 7293033) (hl : lv_has ls 7 [(4, .int (nI (j))), (0, .ref (b)), (1, .ref (α (0))), (2, .ref (α (10))), (3, .ref (α (9)))])
    (kk : ∀ (V1 : mV) (α1 : Nat → Nat) (f1 : sT) (nr1 nw1 ns1 : Nat) (th1 : Int32) (H1 : Heap) (locs1 : List Loc) (ls1 : Array Slot), mI G V1 α1 f1 nr1 nw1 ns1 th1 → mW G V1 α1 s H1 → va_S (mfree G) s.heap H1 locs1 → lv_has ls1 7 [(4, .int (nI (j))), (0, .ref (b)), (1, .ref (α1 (0))), (2, .ref (α1 (10))), (3, .ref (α1 (9)))] → W p l e room_1 s m args below meth c H1 locs1 (cells + 2) (slots + 210) Q (F0 m 1415 ls1 [])) : W p l e room_1 s m args below meth c H locs cells slots Q (F0 m 758 ls []) := by
  obtain ⟨hl0, hx, hb, hml, hown, hts, hX, hbl, hbA, hL⟩ := hF
  obtain ⟨hC, hM, hwf, g0, h9⟩ := hI
  obtain ⟨hnr, hnw, hns⟩ := hwf.1
  by_cases h : inn x1 0 (nI ns - 1)
  ·
    have hh := h
    obtain ⟨si, hs, rfl⟩ := ix_inn (by omega) hh
    by_cases h2 : inn x2 0 5
    ·
      obtain ⟨t, ht, rfl⟩ := ixc (n := 6) (by decide) (by decide +kernel) h2
      by_cases hg : f 13 si = 0
      ·
        refine lv_aload_n hx hb dL_law_758 rfl (lv_at hl 2 rfl) ?_
        refine lv_aload_n hx hb dL_law_759 rfl (lv_at hl 1 rfl) ?_
        refine lv_iload hx hb dL_law_760 (lv_at hl 0 rfl) ?_
        refine lv_iconst (v := (1)) hx hb dL_law_762 (by decide) ?_
        refine lv_iadd hx hb dL_law_763 ?_
        refine msld (v := nI (si)) (k := j + 1) hx hb hX hbl hbA hS (nI_add j 1) (by omega) (by omega) (y1) dL_law_764 ?_
        refine lv_aload_n hx hb dL_law_765 rfl (lv_at hl 1 rfl) ?_
        refine lv_iload hx hb dL_law_766 (lv_at hl 0 rfl) ?_
        refine lv_iconst (v := (2)) hx hb dL_law_768 (by decide) ?_
        refine lv_iadd hx hb dL_law_769 ?_
        refine msld (v := nI (t)) (k := j + 2) hx hb hX hbl hbA hS (nI_add j 2) (by omega) (by omega) (y2) dL_law_770 ?_
        refine lv_aload_n hx hb dL_law_771 rfl (lv_at hl 4 rfl) ?_
        refine mcallSWi hw ⟨hx, hb, hml, hown, hts⟩ hS (w_X3_takeBreaks hC hwf si hs hg t (by omega) h9) (vx_cwSW 4 hts gL_law_L_takeBreaks rfl rfl rfl (by decide +kernel) ⟨Nat.le_of_ble_eq_true rfl, Nat.le_of_ble_eq_true rfl⟩) rfl hl.1 rfl (Nat.le_of_ble_eq_true rfl) dL_law_772 ⟨(by show cells + 0 ≤ 601024; omega), (by show slots + 0 ≤ 7293033; omega)⟩ (fun r9 V1 α1 H locs hq hw hS => ?_)
        obtain ⟨er, hC1, hO, g1, h91, hg1⟩ := hq
        dsimp only at hC1 hO h91
        subst er
        have hl : lv_has ls 7 [(4, .int (nI (j))), (0, .ref (b)), (1, .ref (α1 (0))), (2, .ref (α1 (10))), (3, .ref (α1 (9)))] := by rw [(hO 0 (by omega)).2, (hO 10 (by omega)).2, (hO 9 (by omega)).2]; exact hl
        have hM1 := hM.mvC (fun j h1 h2 => (hO j (by omega)).1 h1) (fun j hj => (hO j hj).2)
        refine lv_istore (lv' := [(5, .int (0)), (4, .int (nI (j))), (0, .ref (b)), (1, .ref (α1 (0))), (2, .ref (α1 (10))), (3, .ref (α1 (9)))]) hx hb dL_law_775 hl (by decide) rfl (fun ls hl => ?_)
        refine lv_aload_n hx hb dL_law_777 rfl (lv_at hl 4 rfl) ?_
        refine lv_aload_n hx hb dL_law_778 rfl (lv_at hl 2 rfl) ?_
        refine lv_iload hx hb dL_law_779 (lv_at hl 1 rfl) ?_
        refine lv_iconst (v := (1)) hx hb dL_law_781 (by decide) ?_
        refine lv_iadd hx hb dL_law_782 ?_
        refine msld (v := nI (si)) (k := j + 1) hx hb hX hbl hbA hS (nI_add j 1) (by omega) (by omega) (y1) dL_law_783 ?_
        refine lv_aload_n hx hb dL_law_784 rfl (lv_at hl 2 rfl) ?_
        refine lv_iload hx hb dL_law_785 (lv_at hl 1 rfl) ?_
        refine lv_iconst (v := (2)) hx hb dL_law_787 (by decide) ?_
        refine lv_iadd hx hb dL_law_788 ?_
        refine msld (v := nI (t)) (k := j + 2) hx hb hX hbl hbA hS (nI_add j 2) (by omega) (by omega) (y2) dL_law_789 ?_
        refine mcallVw hw hM1.1 rfl rfl ⟨hx, hb, hml, hown, hts⟩ hS (c_X4_takeBreaks hM1 si hs hns hg t (by omega)) (cwV 2 hts gL_law_X4_takeBreaks rfl rfl rfl (by decide +kernel) ⟨Nat.le_of_ble_eq_true rfl, Nat.le_of_ble_eq_true rfl⟩) rfl hl.1 rfl (Nat.le_of_ble_eq_true rfl) dL_law_790 ⟨(by show cells + 0 + 0 ≤ 601024; omega), (by show slots + 0 + 0 ≤ 7293033; omega)⟩ (fun r8 V2 α2 H locs hq hw hS => ?_)
        obtain ⟨er, hM2, hP, eα⟩ := hq
        dsimp only at hM2 hP eα
        subst er
        subst eα
        have hC2 := hC1.mvM (fun j hj => hP j hj)
        have h92 := (hP 9 (by omega)).trans h91
        refine lv_istore (lv' := [(6, .int (f 12 si)), (5, .int (0)), (4, .int (nI (j))), (0, .ref (b)), (1, .ref (α1 (0))), (2, .ref (α1 (10))), (3, .ref (α1 (9)))]) hx hb dL_law_793 hl (by decide) rfl (fun ls hl => ?_)
        refine lv_aload_n hx hb dL_law_795 rfl (lv_at hl 5 rfl) ?_
        refine mcallVi hw hM2.1 rfl rfl ⟨hx, hb, hml, hown, hts⟩ (c_X4_thrown hM2) (cwV 0 hts gL_law_X4_thrown rfl rfl rfl (by decide +kernel) ⟨Nat.le_of_ble_eq_true rfl, Nat.le_of_ble_eq_true rfl⟩) rfl hl.1 rfl (Nat.le_of_ble_eq_true rfl) dL_law_796 ⟨(by show cells + 0 + 0 + 0 ≤ 601024; omega), (by show slots + 0 + 0 + 0 ≤ 7293033; omega)⟩ ?_
        refine lv_iload hx hb dL_law_799 (lv_at hl 1 rfl) ?_
        refine lv_icmp_eq (tgt := 806) hx hb dL_law_801 (by decide) (fun c1 => ?_) (fun z => absurd ((by decide)) z)
        refine lv_iload hx hb dL_law_806 (lv_at hl 1 rfl) ?_
        refine lv_if_ne (tgt := 823) hx hb dL_law_808 (by decide) (fun z => absurd ((by decide)) z) (fun c2 => ?_)
        refine lv_aload_n hx hb dL_law_811 rfl (lv_at hl 6 rfl) ?_
        refine lv_iconst (v := (0)) hx hb dL_law_812 (by decide) ?_
        refine mlald' (k := 0) hx hb hw h92 rfl (by omega) (by decide) dL_law_813 ?_
        refine lv_iload hx hb dL_law_814 (lv_at hl 0 rfl) ?_
        refine lv_i2l (v := (f 12 si).toInt64) hx hb dL_law_816 rfl ?_
        refine lv_lcmp0 hx hb (hg1.symm) dL_law_817 ?_
        refine lv_if_eq (tgt := 823) hx hb dL_law_818 (by decide) (fun c3 => ?_) (fun z => absurd ((by decide)) z)
        refine lv_goto (tgt := 1415) hx hb dL_law_823 (by decide) ?_
        refine W.widen (k := cells + 2) (n := slots + 210) (by omega) (by omega) ?_
        exact kk V2 α1 (u2 f 12 si (nI t)) nr nw ns 0 H locs ls ⟨hC2, hM2, wf_taken hwf hs (by omega), ⟨_, h92⟩⟩ hw hS ⟨hl.1, hl.2.1, fun q hq => hl.2.2 q (List.mem_cons_of_mem _ (List.mem_cons_of_mem _ hq))⟩
      ·
        refine lv_aload_n hx hb dL_law_758 rfl (lv_at hl 2 rfl) ?_
        refine lv_aload_n hx hb dL_law_759 rfl (lv_at hl 1 rfl) ?_
        refine lv_iload hx hb dL_law_760 (lv_at hl 0 rfl) ?_
        refine lv_iconst (v := (1)) hx hb dL_law_762 (by decide) ?_
        refine lv_iadd hx hb dL_law_763 ?_
        refine msld (v := nI (si)) (k := j + 1) hx hb hX hbl hbA hS (nI_add j 1) (by omega) (by omega) (y1) dL_law_764 ?_
        refine lv_aload_n hx hb dL_law_765 rfl (lv_at hl 1 rfl) ?_
        refine lv_iload hx hb dL_law_766 (lv_at hl 0 rfl) ?_
        refine lv_iconst (v := (2)) hx hb dL_law_768 (by decide) ?_
        refine lv_iadd hx hb dL_law_769 ?_
        refine msld (v := nI (t)) (k := j + 2) hx hb hX hbl hbA hS (nI_add j 2) (by omega) (by omega) (y2) dL_law_770 ?_
        refine lv_aload_n hx hb dL_law_771 rfl (lv_at hl 4 rfl) ?_
        refine mcallSWi hw ⟨hx, hb, hml, hown, hts⟩ hS (x_X3_takeBreaks_3 hl0 hC hwf si hs (nI t) h2 hg) (vx_cwSW 4 hts gL_law_L_takeBreaks rfl rfl rfl (by decide +kernel) ⟨Nat.le_of_ble_eq_true rfl, Nat.le_of_ble_eq_true rfl⟩) rfl hl.1 rfl (Nat.le_of_ble_eq_true rfl) dL_law_772 ⟨(by show cells + 1 ≤ 601024; omega), (by show slots + 6 ≤ 7293033; omega)⟩ (fun r9 V1 α1 H locs hq hw hS => ?_)
        obtain ⟨er, eu⟩ := hq
        subst er
        have e1 : V1 = V := congrArg Prod.fst eu
        have e2 : α1 = α := congrArg Prod.snd eu
        have hC1 : mC G V1 α1 f nr nw ns := by rw [e1, e2]; exact hC
        have h91 : V1 9 = _ := (congrFun e1 9).trans h9
        have hO : ∀ j, j < 100 → (10 ≤ j → V1 j = V j) ∧ α1 j = α j := fun j _ => ⟨fun _ => congrFun e1 j, congrFun e2 j⟩
        have hl : lv_has ls 7 [(4, .int (nI (j))), (0, .ref (b)), (1, .ref (α1 (0))), (2, .ref (α1 (10))), (3, .ref (α1 (9)))] := by rw [(hO 0 (by omega)).2, (hO 10 (by omega)).2, (hO 9 (by omega)).2]; exact hl
        have hM1 := hM.mvC (fun j h1 h2 => (hO j (by omega)).1 h1) (fun j hj => (hO j hj).2)
        refine lv_istore (lv' := [(5, .int (3)), (4, .int (nI (j))), (0, .ref (b)), (1, .ref (α1 (0))), (2, .ref (α1 (10))), (3, .ref (α1 (9)))]) hx hb dL_law_775 hl (by decide) rfl (fun ls hl => ?_)
        refine lv_aload_n hx hb dL_law_777 rfl (lv_at hl 4 rfl) ?_
        refine lv_aload_n hx hb dL_law_778 rfl (lv_at hl 2 rfl) ?_
        refine lv_iload hx hb dL_law_779 (lv_at hl 1 rfl) ?_
        refine lv_iconst (v := (1)) hx hb dL_law_781 (by decide) ?_
        refine lv_iadd hx hb dL_law_782 ?_
        refine msld (v := nI (si)) (k := j + 1) hx hb hX hbl hbA hS (nI_add j 1) (by omega) (by omega) (y1) dL_law_783 ?_
        refine lv_aload_n hx hb dL_law_784 rfl (lv_at hl 2 rfl) ?_
        refine lv_iload hx hb dL_law_785 (lv_at hl 1 rfl) ?_
        refine lv_iconst (v := (2)) hx hb dL_law_787 (by decide) ?_
        refine lv_iadd hx hb dL_law_788 ?_
        refine msld (v := nI (t)) (k := j + 2) hx hb hX hbl hbA hS (nI_add j 2) (by omega) (by omega) (y2) dL_law_789 ?_
        refine mcallVw hw hM1.1 rfl rfl ⟨hx, hb, hml, hown, hts⟩ hS (c_X4_takeBreaks_3 hM1 si hs hns (nI t) h2 hg) (cwV 2 hts gL_law_X4_takeBreaks rfl rfl rfl (by decide +kernel) ⟨Nat.le_of_ble_eq_true rfl, Nat.le_of_ble_eq_true rfl⟩) rfl hl.1 rfl (Nat.le_of_ble_eq_true rfl) dL_law_790 ⟨(by show cells + 1 + 0 ≤ 601024; omega), (by show slots + 6 + 0 ≤ 7293033; omega)⟩ (fun r8 V2 α2 H locs hq hw hS => ?_)
        obtain ⟨er, hM2, hP, eα⟩ := hq
        dsimp only at hM2 hP eα
        subst er
        subst eα
        have hC2 := hC1.mvM (fun j hj => hP j hj)
        have h92 := (hP 9 (by omega)).trans h91
        refine lv_istore (lv' := [(6, .int (0)), (5, .int (3)), (4, .int (nI (j))), (0, .ref (b)), (1, .ref (α1 (0))), (2, .ref (α1 (10))), (3, .ref (α1 (9)))]) hx hb dL_law_793 hl (by decide) rfl (fun ls hl => ?_)
        refine lv_aload_n hx hb dL_law_795 rfl (lv_at hl 5 rfl) ?_
        refine mcallVi hw hM2.1 rfl rfl ⟨hx, hb, hml, hown, hts⟩ (c_X4_thrown hM2) (cwV 0 hts gL_law_X4_thrown rfl rfl rfl (by decide +kernel) ⟨Nat.le_of_ble_eq_true rfl, Nat.le_of_ble_eq_true rfl⟩) rfl hl.1 rfl (Nat.le_of_ble_eq_true rfl) dL_law_796 ⟨(by show cells + 1 + 0 + 0 ≤ 601024; omega), (by show slots + 6 + 0 + 0 ≤ 7293033; omega)⟩ ?_
        refine lv_iload hx hb dL_law_799 (lv_at hl 1 rfl) ?_
        refine lv_icmp_eq (tgt := 806) hx hb dL_law_801 (by decide) (fun c4 => ?_) (fun z => absurd ((by decide)) z)
        refine lv_iload hx hb dL_law_806 (lv_at hl 1 rfl) ?_
        refine lv_if_ne (tgt := 823) hx hb dL_law_808 (by decide) (fun c5 => ?_) (fun z => absurd z ((by decide)))
        refine lv_goto (tgt := 1415) hx hb dL_law_823 (by decide) ?_
        refine W.widen (k := cells + 2) (n := slots + 210) (by omega) (by omega) ?_
        exact kk V2 α1 (f) nr nw ns 3 H locs ls ⟨hC2, hM2, hwf, ⟨_, h92⟩⟩ hw hS ⟨hl.1, hl.2.1, fun q hq => hl.2.2 q (List.mem_cons_of_mem _ (List.mem_cons_of_mem _ hq))⟩
    ·
      refine lv_aload_n hx hb dL_law_758 rfl (lv_at hl 2 rfl) ?_
      refine lv_aload_n hx hb dL_law_759 rfl (lv_at hl 1 rfl) ?_
      refine lv_iload hx hb dL_law_760 (lv_at hl 0 rfl) ?_
      refine lv_iconst (v := (1)) hx hb dL_law_762 (by decide) ?_
      refine lv_iadd hx hb dL_law_763 ?_
      refine msld (v := nI (si)) (k := j + 1) hx hb hX hbl hbA hS (nI_add j 1) (by omega) (by omega) (y1) dL_law_764 ?_
      refine lv_aload_n hx hb dL_law_765 rfl (lv_at hl 1 rfl) ?_
      refine lv_iload hx hb dL_law_766 (lv_at hl 0 rfl) ?_
      refine lv_iconst (v := (2)) hx hb dL_law_768 (by decide) ?_
      refine lv_iadd hx hb dL_law_769 ?_
      refine msld (v := x2) (k := j + 2) hx hb hX hbl hbA hS (nI_add j 2) (by omega) (by omega) (y2) dL_law_770 ?_
      refine lv_aload_n hx hb dL_law_771 rfl (lv_at hl 4 rfl) ?_
      refine mcallSWi hw ⟨hx, hb, hml, hown, hts⟩ hS (x_X3_takeBreaks_2 hl0 hC hwf si hs x2 h2) (vx_cwSW 4 hts gL_law_L_takeBreaks rfl rfl rfl (by decide +kernel) ⟨Nat.le_of_ble_eq_true rfl, Nat.le_of_ble_eq_true rfl⟩) rfl hl.1 rfl (Nat.le_of_ble_eq_true rfl) dL_law_772 ⟨(by show cells + 1 ≤ 601024; omega), (by show slots + 6 ≤ 7293033; omega)⟩ (fun r9 V1 α1 H locs hq hw hS => ?_)
      obtain ⟨er, eu⟩ := hq
      subst er
      have e1 : V1 = V := congrArg Prod.fst eu
      have e2 : α1 = α := congrArg Prod.snd eu
      have hC1 : mC G V1 α1 f nr nw ns := by rw [e1, e2]; exact hC
      have h91 : V1 9 = _ := (congrFun e1 9).trans h9
      have hO : ∀ j, j < 100 → (10 ≤ j → V1 j = V j) ∧ α1 j = α j := fun j _ => ⟨fun _ => congrFun e1 j, congrFun e2 j⟩
      have hl : lv_has ls 7 [(4, .int (nI (j))), (0, .ref (b)), (1, .ref (α1 (0))), (2, .ref (α1 (10))), (3, .ref (α1 (9)))] := by rw [(hO 0 (by omega)).2, (hO 10 (by omega)).2, (hO 9 (by omega)).2]; exact hl
      have hM1 := hM.mvC (fun j h1 h2 => (hO j (by omega)).1 h1) (fun j hj => (hO j hj).2)
      refine lv_istore (lv' := [(5, .int (2)), (4, .int (nI (j))), (0, .ref (b)), (1, .ref (α1 (0))), (2, .ref (α1 (10))), (3, .ref (α1 (9)))]) hx hb dL_law_775 hl (by decide) rfl (fun ls hl => ?_)
      refine lv_aload_n hx hb dL_law_777 rfl (lv_at hl 4 rfl) ?_
      refine lv_aload_n hx hb dL_law_778 rfl (lv_at hl 2 rfl) ?_
      refine lv_iload hx hb dL_law_779 (lv_at hl 1 rfl) ?_
      refine lv_iconst (v := (1)) hx hb dL_law_781 (by decide) ?_
      refine lv_iadd hx hb dL_law_782 ?_
      refine msld (v := nI (si)) (k := j + 1) hx hb hX hbl hbA hS (nI_add j 1) (by omega) (by omega) (y1) dL_law_783 ?_
      refine lv_aload_n hx hb dL_law_784 rfl (lv_at hl 2 rfl) ?_
      refine lv_iload hx hb dL_law_785 (lv_at hl 1 rfl) ?_
      refine lv_iconst (v := (2)) hx hb dL_law_787 (by decide) ?_
      refine lv_iadd hx hb dL_law_788 ?_
      refine msld (v := x2) (k := j + 2) hx hb hX hbl hbA hS (nI_add j 2) (by omega) (by omega) (y2) dL_law_789 ?_
      refine mcallVw hw hM1.1 rfl rfl ⟨hx, hb, hml, hown, hts⟩ hS (c_X4_takeBreaks_2 hM1 si hs hns x2 h2) (cwV 2 hts gL_law_X4_takeBreaks rfl rfl rfl (by decide +kernel) ⟨Nat.le_of_ble_eq_true rfl, Nat.le_of_ble_eq_true rfl⟩) rfl hl.1 rfl (Nat.le_of_ble_eq_true rfl) dL_law_790 ⟨(by show cells + 1 + 0 ≤ 601024; omega), (by show slots + 6 + 0 ≤ 7293033; omega)⟩ (fun r8 V2 α2 H locs hq hw hS => ?_)
      obtain ⟨er, hM2, hP, eα⟩ := hq
      dsimp only at hM2 hP eα
      subst er
      subst eα
      have hC2 := hC1.mvM (fun j hj => hP j hj)
      have h92 := (hP 9 (by omega)).trans h91
      refine lv_istore (lv' := [(6, .int (0)), (5, .int (2)), (4, .int (nI (j))), (0, .ref (b)), (1, .ref (α1 (0))), (2, .ref (α1 (10))), (3, .ref (α1 (9)))]) hx hb dL_law_793 hl (by decide) rfl (fun ls hl => ?_)
      refine lv_aload_n hx hb dL_law_795 rfl (lv_at hl 5 rfl) ?_
      refine mcallVi hw hM2.1 rfl rfl ⟨hx, hb, hml, hown, hts⟩ (c_X4_thrown hM2) (cwV 0 hts gL_law_X4_thrown rfl rfl rfl (by decide +kernel) ⟨Nat.le_of_ble_eq_true rfl, Nat.le_of_ble_eq_true rfl⟩) rfl hl.1 rfl (Nat.le_of_ble_eq_true rfl) dL_law_796 ⟨(by show cells + 1 + 0 + 0 ≤ 601024; omega), (by show slots + 6 + 0 + 0 ≤ 7293033; omega)⟩ ?_
      refine lv_iload hx hb dL_law_799 (lv_at hl 1 rfl) ?_
      refine lv_icmp_eq (tgt := 806) hx hb dL_law_801 (by decide) (fun c6 => ?_) (fun z => absurd ((by decide)) z)
      refine lv_iload hx hb dL_law_806 (lv_at hl 1 rfl) ?_
      refine lv_if_ne (tgt := 823) hx hb dL_law_808 (by decide) (fun c7 => ?_) (fun z => absurd z ((by decide)))
      refine lv_goto (tgt := 1415) hx hb dL_law_823 (by decide) ?_
      refine W.widen (k := cells + 2) (n := slots + 210) (by omega) (by omega) ?_
      exact kk V2 α1 (f) nr nw ns 2 H locs ls ⟨hC2, hM2, hwf, ⟨_, h92⟩⟩ hw hS ⟨hl.1, hl.2.1, fun q hq => hl.2.2 q (List.mem_cons_of_mem _ (List.mem_cons_of_mem _ hq))⟩
  ·
    refine lv_aload_n hx hb dL_law_758 rfl (lv_at hl 2 rfl) ?_
    refine lv_aload_n hx hb dL_law_759 rfl (lv_at hl 1 rfl) ?_
    refine lv_iload hx hb dL_law_760 (lv_at hl 0 rfl) ?_
    refine lv_iconst (v := (1)) hx hb dL_law_762 (by decide) ?_
    refine lv_iadd hx hb dL_law_763 ?_
    refine msld (v := x1) (k := j + 1) hx hb hX hbl hbA hS (nI_add j 1) (by omega) (by omega) (y1) dL_law_764 ?_
    refine lv_aload_n hx hb dL_law_765 rfl (lv_at hl 1 rfl) ?_
    refine lv_iload hx hb dL_law_766 (lv_at hl 0 rfl) ?_
    refine lv_iconst (v := (2)) hx hb dL_law_768 (by decide) ?_
    refine lv_iadd hx hb dL_law_769 ?_
    refine msld (v := x2) (k := j + 2) hx hb hX hbl hbA hS (nI_add j 2) (by omega) (by omega) (y2) dL_law_770 ?_
    refine lv_aload_n hx hb dL_law_771 rfl (lv_at hl 4 rfl) ?_
    refine mcallSWi hw ⟨hx, hb, hml, hown, hts⟩ hS (x_X3_takeBreaks_1 hl0 hC hwf x1 h x2) (vx_cwSW 4 hts gL_law_L_takeBreaks rfl rfl rfl (by decide +kernel) ⟨Nat.le_of_ble_eq_true rfl, Nat.le_of_ble_eq_true rfl⟩) rfl hl.1 rfl (Nat.le_of_ble_eq_true rfl) dL_law_772 ⟨(by show cells + 1 ≤ 601024; omega), (by show slots + 6 ≤ 7293033; omega)⟩ (fun r9 V1 α1 H locs hq hw hS => ?_)
    obtain ⟨er, eu⟩ := hq
    subst er
    have e1 : V1 = V := congrArg Prod.fst eu
    have e2 : α1 = α := congrArg Prod.snd eu
    have hC1 : mC G V1 α1 f nr nw ns := by rw [e1, e2]; exact hC
    have h91 : V1 9 = _ := (congrFun e1 9).trans h9
    have hO : ∀ j, j < 100 → (10 ≤ j → V1 j = V j) ∧ α1 j = α j := fun j _ => ⟨fun _ => congrFun e1 j, congrFun e2 j⟩
    have hl : lv_has ls 7 [(4, .int (nI (j))), (0, .ref (b)), (1, .ref (α1 (0))), (2, .ref (α1 (10))), (3, .ref (α1 (9)))] := by rw [(hO 0 (by omega)).2, (hO 10 (by omega)).2, (hO 9 (by omega)).2]; exact hl
    have hM1 := hM.mvC (fun j h1 h2 => (hO j (by omega)).1 h1) (fun j hj => (hO j hj).2)
    refine lv_istore (lv' := [(5, .int (1)), (4, .int (nI (j))), (0, .ref (b)), (1, .ref (α1 (0))), (2, .ref (α1 (10))), (3, .ref (α1 (9)))]) hx hb dL_law_775 hl (by decide) rfl (fun ls hl => ?_)
    refine lv_aload_n hx hb dL_law_777 rfl (lv_at hl 4 rfl) ?_
    refine lv_aload_n hx hb dL_law_778 rfl (lv_at hl 2 rfl) ?_
    refine lv_iload hx hb dL_law_779 (lv_at hl 1 rfl) ?_
    refine lv_iconst (v := (1)) hx hb dL_law_781 (by decide) ?_
    refine lv_iadd hx hb dL_law_782 ?_
    refine msld (v := x1) (k := j + 1) hx hb hX hbl hbA hS (nI_add j 1) (by omega) (by omega) (y1) dL_law_783 ?_
    refine lv_aload_n hx hb dL_law_784 rfl (lv_at hl 2 rfl) ?_
    refine lv_iload hx hb dL_law_785 (lv_at hl 1 rfl) ?_
    refine lv_iconst (v := (2)) hx hb dL_law_787 (by decide) ?_
    refine lv_iadd hx hb dL_law_788 ?_
    refine msld (v := x2) (k := j + 2) hx hb hX hbl hbA hS (nI_add j 2) (by omega) (by omega) (y2) dL_law_789 ?_
    refine mcallVw hw hM1.1 rfl rfl ⟨hx, hb, hml, hown, hts⟩ hS (c_X4_takeBreaks_1 hM1 x1 h x2) (cwV 2 hts gL_law_X4_takeBreaks rfl rfl rfl (by decide +kernel) ⟨Nat.le_of_ble_eq_true rfl, Nat.le_of_ble_eq_true rfl⟩) rfl hl.1 rfl (Nat.le_of_ble_eq_true rfl) dL_law_790 ⟨(by show cells + 1 + 0 ≤ 601024; omega), (by show slots + 6 + 0 ≤ 7293033; omega)⟩ (fun r8 V2 α2 H locs hq hw hS => ?_)
    obtain ⟨er, hM2, hP, eα⟩ := hq
    dsimp only at hM2 hP eα
    subst er
    subst eα
    have hC2 := hC1.mvM (fun j hj => hP j hj)
    have h92 := (hP 9 (by omega)).trans h91
    refine lv_istore (lv' := [(6, .int (0)), (5, .int (1)), (4, .int (nI (j))), (0, .ref (b)), (1, .ref (α1 (0))), (2, .ref (α1 (10))), (3, .ref (α1 (9)))]) hx hb dL_law_793 hl (by decide) rfl (fun ls hl => ?_)
    refine lv_aload_n hx hb dL_law_795 rfl (lv_at hl 5 rfl) ?_
    refine mcallVi hw hM2.1 rfl rfl ⟨hx, hb, hml, hown, hts⟩ (c_X4_thrown hM2) (cwV 0 hts gL_law_X4_thrown rfl rfl rfl (by decide +kernel) ⟨Nat.le_of_ble_eq_true rfl, Nat.le_of_ble_eq_true rfl⟩) rfl hl.1 rfl (Nat.le_of_ble_eq_true rfl) dL_law_796 ⟨(by show cells + 1 + 0 + 0 ≤ 601024; omega), (by show slots + 6 + 0 + 0 ≤ 7293033; omega)⟩ ?_
    refine lv_iload hx hb dL_law_799 (lv_at hl 1 rfl) ?_
    refine lv_icmp_eq (tgt := 806) hx hb dL_law_801 (by decide) (fun c8 => ?_) (fun z => absurd ((by decide)) z)
    refine lv_iload hx hb dL_law_806 (lv_at hl 1 rfl) ?_
    refine lv_if_ne (tgt := 823) hx hb dL_law_808 (by decide) (fun c9 => ?_) (fun z => absurd z ((by decide)))
    refine lv_goto (tgt := 1415) hx hb dL_law_823 (by decide) ?_
    refine W.widen (k := cells + 2) (n := slots + 210) (by omega) (by omega) ?_
    exact kk V2 α1 (f) nr nw ns 1 H locs ls ⟨hC2, hM2, hwf, ⟨_, h92⟩⟩ hw hS ⟨hl.1, hl.2.1, fun q hq => hl.2.2 q (List.mem_cons_of_mem _ (List.mem_cons_of_mem _ hq))⟩

set_option maxHeartbeats 4000000 in
set_option maxRecDepth 100000 in
theorem op_paidQuarters {p : Program} {l : Launch} {e : Env} {s : State} {m : MethodId} {args : Array Value} {below : List Frame} {meth : Method} {c : Code} {H : Heap} {locs : List Loc} {cells slots : Nat} {Q : State → Prop} {ls : Array Slot} {G : mG} {V : mV} {α : Nat → Nat} {f : sT} {nr nw ns : Nat} {th : Int32} {b L : Nat} {xs : Nat → Int32} {j : Nat} (hF : mFix p l s m args c G b L xs) (hj : j + 6 ≤ L) {x1 x2 x3 x4 x5 : Int32} (y1 : xs (j + 1) = x1) (y2 : xs (j + 2) = x2) (y3 : xs (j + 3) = x3) (y4 : xs (j + 4) = x4) (y5 : xs (j + 5) = x5) (hI : mI G V α f nr nw ns th) (hw : mW G V α s H) (hS : va_S (mfree G) s.heap H locs) (hc9 : cells + 2 ≤ 601024) (hs9 : slots + 210 ≤ 7293033) (hl : lv_has ls 7 [(4, .int (nI (j))), (0, .ref (b)), (1, .ref (α (0))), (2, .ref (α (10))), (3, .ref (α (9)))])
    (kk : ∀ (V1 : mV) (α1 : Nat → Nat) (f1 : sT) (nr1 nw1 ns1 : Nat) (th1 : Int32) (H1 : Heap) (locs1 : List Loc) (ls1 : Array Slot), mI G V1 α1 f1 nr1 nw1 ns1 th1 → mW G V1 α1 s H1 → va_S (mfree G) s.heap H1 locs1 → lv_has ls1 7 [(4, .int (nI (j))), (0, .ref (b)), (1, .ref (α1 (0))), (2, .ref (α1 (10))), (3, .ref (α1 (9)))] → W p l e room_1 s m args below meth c H1 locs1 (cells + 2) (slots + 210) Q (F0 m 1415 ls1 [])) : W p l e room_1 s m args below meth c H locs cells slots Q (F0 m 839 ls []) := by
  obtain ⟨hl0, hx, hb, hml, hown, hts, hX, hbl, hbA, hL⟩ := hF
  obtain ⟨hC, hM, hwf, g0, h9⟩ := hI
  obtain ⟨hnr, hnw, hns⟩ := hwf.1
  by_cases h : inn x1 0 (nI ns - 1)
  ·
    have hh := h
    obtain ⟨si, hs, rfl⟩ := ix_inn (by omega) hh
    refine lv_aload_n hx hb dL_law_839 rfl (lv_at hl 2 rfl) ?_
    refine lv_aload_n hx hb dL_law_840 rfl (lv_at hl 1 rfl) ?_
    refine lv_iload hx hb dL_law_841 (lv_at hl 0 rfl) ?_
    refine lv_iconst (v := (1)) hx hb dL_law_843 (by decide) ?_
    refine lv_iadd hx hb dL_law_844 ?_
    refine msld (v := nI (si)) (k := j + 1) hx hb hX hbl hbA hS (nI_add j 1) (by omega) (by omega) (y1) dL_law_845 ?_
    refine lv_aload_n hx hb dL_law_846 rfl (lv_at hl 4 rfl) ?_
    refine mcallSWi hw ⟨hx, hb, hml, hown, hts⟩ hS (w_X3_paidQuarters hC hwf si hs h9) (vx_cwSW 3 hts gL_law_L_paidQuarters rfl rfl rfl (by decide +kernel) ⟨Nat.le_of_ble_eq_true rfl, Nat.le_of_ble_eq_true rfl⟩) rfl hl.1 rfl (Nat.le_of_ble_eq_true rfl) dL_law_847 ⟨(by show cells + 0 ≤ 601024; omega), (by show slots + 0 ≤ 7293033; omega)⟩ (fun r9 V1 α1 H locs hq hw hS => ?_)
    obtain ⟨er, hC1, hO, g1, h91, hg1⟩ := hq
    dsimp only at hC1 hO h91
    subst er
    have hl : lv_has ls 7 [(4, .int (nI (j))), (0, .ref (b)), (1, .ref (α1 (0))), (2, .ref (α1 (10))), (3, .ref (α1 (9)))] := by rw [(hO 0 (by omega)).2, (hO 10 (by omega)).2, (hO 9 (by omega)).2]; exact hl
    have hM1 := hM.mvC (fun j h1 h2 => (hO j (by omega)).1 h1) (fun j hj => (hO j hj).2)
    refine lv_istore (lv' := [(5, .int (0)), (4, .int (nI (j))), (0, .ref (b)), (1, .ref (α1 (0))), (2, .ref (α1 (10))), (3, .ref (α1 (9)))]) hx hb dL_law_850 hl (by decide) rfl (fun ls hl => ?_)
    refine lv_aload_n hx hb dL_law_852 rfl (lv_at hl 4 rfl) ?_
    refine lv_aload_n hx hb dL_law_853 rfl (lv_at hl 2 rfl) ?_
    refine lv_iload hx hb dL_law_854 (lv_at hl 1 rfl) ?_
    refine lv_iconst (v := (1)) hx hb dL_law_856 (by decide) ?_
    refine lv_iadd hx hb dL_law_857 ?_
    refine msld (v := nI (si)) (k := j + 1) hx hb hX hbl hbA hS (nI_add j 1) (by omega) (by omega) (y1) dL_law_858 ?_
    refine mcallVw hw hM1.1 rfl rfl ⟨hx, hb, hml, hown, hts⟩ hS (c_X4_paidQuarters hM1 si hs hns) (cwV 1 hts gL_law_X4_paidQuarters rfl rfl rfl (by decide +kernel) ⟨Nat.le_of_ble_eq_true rfl, Nat.le_of_ble_eq_true rfl⟩) rfl hl.1 rfl (Nat.le_of_ble_eq_true rfl) dL_law_859 ⟨(by show cells + 0 + 0 ≤ 601024; omega), (by show slots + 0 + 0 ≤ 7293033; omega)⟩ (fun r8 V2 α2 H locs hq hw hS => ?_)
    obtain ⟨er, hM2, hP, eα⟩ := hq
    dsimp only at hM2 hP eα
    subst er
    subst eα
    have hC2 := hC1.mvM (fun j hj => hP j hj)
    have h92 := (hP 9 (by omega)).trans h91
    refine lv_istore (lv' := [(6, .int (s_paid f si)), (5, .int (0)), (4, .int (nI (j))), (0, .ref (b)), (1, .ref (α1 (0))), (2, .ref (α1 (10))), (3, .ref (α1 (9)))]) hx hb dL_law_862 hl (by decide) rfl (fun ls hl => ?_)
    refine lv_aload_n hx hb dL_law_864 rfl (lv_at hl 5 rfl) ?_
    refine mcallVi hw hM2.1 rfl rfl ⟨hx, hb, hml, hown, hts⟩ (c_X4_thrown hM2) (cwV 0 hts gL_law_X4_thrown rfl rfl rfl (by decide +kernel) ⟨Nat.le_of_ble_eq_true rfl, Nat.le_of_ble_eq_true rfl⟩) rfl hl.1 rfl (Nat.le_of_ble_eq_true rfl) dL_law_865 ⟨(by show cells + 0 + 0 + 0 ≤ 601024; omega), (by show slots + 0 + 0 + 0 ≤ 7293033; omega)⟩ ?_
    refine lv_iload hx hb dL_law_868 (lv_at hl 1 rfl) ?_
    refine lv_icmp_eq (tgt := 875) hx hb dL_law_870 (by decide) (fun c1 => ?_) (fun z => absurd ((by decide)) z)
    refine lv_iload hx hb dL_law_875 (lv_at hl 1 rfl) ?_
    refine lv_if_ne (tgt := 892) hx hb dL_law_877 (by decide) (fun z => absurd ((by decide)) z) (fun c2 => ?_)
    refine lv_aload_n hx hb dL_law_880 rfl (lv_at hl 6 rfl) ?_
    refine lv_iconst (v := (0)) hx hb dL_law_881 (by decide) ?_
    refine mlald' (k := 0) hx hb hw h92 rfl (by omega) (by decide) dL_law_882 ?_
    refine lv_iload hx hb dL_law_883 (lv_at hl 0 rfl) ?_
    refine lv_i2l (v := (s_paid f si).toInt64) hx hb dL_law_885 rfl ?_
    refine lv_lcmp0 hx hb (hg1.symm) dL_law_886 ?_
    refine lv_if_eq (tgt := 892) hx hb dL_law_887 (by decide) (fun c3 => ?_) (fun z => absurd ((by decide)) z)
    refine lv_goto (tgt := 1415) hx hb dL_law_892 (by decide) ?_
    refine W.widen (k := cells + 2) (n := slots + 210) (by omega) (by omega) ?_
    exact kk V2 α1 (f) nr nw ns 0 H locs ls ⟨hC2, hM2, hwf, ⟨_, h92⟩⟩ hw hS ⟨hl.1, hl.2.1, fun q hq => hl.2.2 q (List.mem_cons_of_mem _ (List.mem_cons_of_mem _ hq))⟩
  ·
    refine lv_aload_n hx hb dL_law_839 rfl (lv_at hl 2 rfl) ?_
    refine lv_aload_n hx hb dL_law_840 rfl (lv_at hl 1 rfl) ?_
    refine lv_iload hx hb dL_law_841 (lv_at hl 0 rfl) ?_
    refine lv_iconst (v := (1)) hx hb dL_law_843 (by decide) ?_
    refine lv_iadd hx hb dL_law_844 ?_
    refine msld (v := x1) (k := j + 1) hx hb hX hbl hbA hS (nI_add j 1) (by omega) (by omega) (y1) dL_law_845 ?_
    refine lv_aload_n hx hb dL_law_846 rfl (lv_at hl 4 rfl) ?_
    refine mcallSWi hw ⟨hx, hb, hml, hown, hts⟩ hS (x_X3_paidQuarters_1 hl0 hC hwf x1 h) (vx_cwSW 3 hts gL_law_L_paidQuarters rfl rfl rfl (by decide +kernel) ⟨Nat.le_of_ble_eq_true rfl, Nat.le_of_ble_eq_true rfl⟩) rfl hl.1 rfl (Nat.le_of_ble_eq_true rfl) dL_law_847 ⟨(by show cells + 1 ≤ 601024; omega), (by show slots + 6 ≤ 7293033; omega)⟩ (fun r9 V1 α1 H locs hq hw hS => ?_)
    obtain ⟨er, eu⟩ := hq
    subst er
    have e1 : V1 = V := congrArg Prod.fst eu
    have e2 : α1 = α := congrArg Prod.snd eu
    have hC1 : mC G V1 α1 f nr nw ns := by rw [e1, e2]; exact hC
    have h91 : V1 9 = _ := (congrFun e1 9).trans h9
    have hO : ∀ j, j < 100 → (10 ≤ j → V1 j = V j) ∧ α1 j = α j := fun j _ => ⟨fun _ => congrFun e1 j, congrFun e2 j⟩
    have hl : lv_has ls 7 [(4, .int (nI (j))), (0, .ref (b)), (1, .ref (α1 (0))), (2, .ref (α1 (10))), (3, .ref (α1 (9)))] := by rw [(hO 0 (by omega)).2, (hO 10 (by omega)).2, (hO 9 (by omega)).2]; exact hl
    have hM1 := hM.mvC (fun j h1 h2 => (hO j (by omega)).1 h1) (fun j hj => (hO j hj).2)
    refine lv_istore (lv' := [(5, .int (1)), (4, .int (nI (j))), (0, .ref (b)), (1, .ref (α1 (0))), (2, .ref (α1 (10))), (3, .ref (α1 (9)))]) hx hb dL_law_850 hl (by decide) rfl (fun ls hl => ?_)
    refine lv_aload_n hx hb dL_law_852 rfl (lv_at hl 4 rfl) ?_
    refine lv_aload_n hx hb dL_law_853 rfl (lv_at hl 2 rfl) ?_
    refine lv_iload hx hb dL_law_854 (lv_at hl 1 rfl) ?_
    refine lv_iconst (v := (1)) hx hb dL_law_856 (by decide) ?_
    refine lv_iadd hx hb dL_law_857 ?_
    refine msld (v := x1) (k := j + 1) hx hb hX hbl hbA hS (nI_add j 1) (by omega) (by omega) (y1) dL_law_858 ?_
    refine mcallVw hw hM1.1 rfl rfl ⟨hx, hb, hml, hown, hts⟩ hS (c_X4_paidQuarters_1 hM1 x1 h) (cwV 1 hts gL_law_X4_paidQuarters rfl rfl rfl (by decide +kernel) ⟨Nat.le_of_ble_eq_true rfl, Nat.le_of_ble_eq_true rfl⟩) rfl hl.1 rfl (Nat.le_of_ble_eq_true rfl) dL_law_859 ⟨(by show cells + 1 + 0 ≤ 601024; omega), (by show slots + 6 + 0 ≤ 7293033; omega)⟩ (fun r8 V2 α2 H locs hq hw hS => ?_)
    obtain ⟨er, hM2, hP, eα⟩ := hq
    dsimp only at hM2 hP eα
    subst er
    subst eα
    have hC2 := hC1.mvM (fun j hj => hP j hj)
    have h92 := (hP 9 (by omega)).trans h91
    refine lv_istore (lv' := [(6, .int (0)), (5, .int (1)), (4, .int (nI (j))), (0, .ref (b)), (1, .ref (α1 (0))), (2, .ref (α1 (10))), (3, .ref (α1 (9)))]) hx hb dL_law_862 hl (by decide) rfl (fun ls hl => ?_)
    refine lv_aload_n hx hb dL_law_864 rfl (lv_at hl 5 rfl) ?_
    refine mcallVi hw hM2.1 rfl rfl ⟨hx, hb, hml, hown, hts⟩ (c_X4_thrown hM2) (cwV 0 hts gL_law_X4_thrown rfl rfl rfl (by decide +kernel) ⟨Nat.le_of_ble_eq_true rfl, Nat.le_of_ble_eq_true rfl⟩) rfl hl.1 rfl (Nat.le_of_ble_eq_true rfl) dL_law_865 ⟨(by show cells + 1 + 0 + 0 ≤ 601024; omega), (by show slots + 6 + 0 + 0 ≤ 7293033; omega)⟩ ?_
    refine lv_iload hx hb dL_law_868 (lv_at hl 1 rfl) ?_
    refine lv_icmp_eq (tgt := 875) hx hb dL_law_870 (by decide) (fun c4 => ?_) (fun z => absurd ((by decide)) z)
    refine lv_iload hx hb dL_law_875 (lv_at hl 1 rfl) ?_
    refine lv_if_ne (tgt := 892) hx hb dL_law_877 (by decide) (fun c5 => ?_) (fun z => absurd z ((by decide)))
    refine lv_goto (tgt := 1415) hx hb dL_law_892 (by decide) ?_
    refine W.widen (k := cells + 2) (n := slots + 210) (by omega) (by omega) ?_
    exact kk V2 α1 (f) nr nw ns 1 H locs ls ⟨hC2, hM2, hwf, ⟨_, h92⟩⟩ hw hS ⟨hl.1, hl.2.1, fun q hq => hl.2.2 q (List.mem_cons_of_mem _ (List.mem_cons_of_mem _ hq))⟩

set_option maxHeartbeats 4000000 in
set_option maxRecDepth 100000 in
theorem op_missed {p : Program} {l : Launch} {e : Env} {s : State} {m : MethodId} {args : Array Value} {below : List Frame} {meth : Method} {c : Code} {H : Heap} {locs : List Loc} {cells slots : Nat} {Q : State → Prop} {ls : Array Slot} {G : mG} {V : mV} {α : Nat → Nat} {f : sT} {nr nw ns : Nat} {th : Int32} {b L : Nat} {xs : Nat → Int32} {j : Nat} (hF : mFix p l s m args c G b L xs) (hj : j + 6 ≤ L) {x1 x2 x3 x4 x5 : Int32} (y1 : xs (j + 1) = x1) (y2 : xs (j + 2) = x2) (y3 : xs (j + 3) = x3) (y4 : xs (j + 4) = x4) (y5 : xs (j + 5) = x5) (hI : mI G V α f nr nw ns th) (hw : mW G V α s H) (hS : va_S (mfree G) s.heap H locs) (hc9 : cells + 2 ≤ 601024) (hs9 : slots + 210 ≤ 7293033) (hl : lv_has ls 7 [(4, .int (nI (j))), (0, .ref (b)), (1, .ref (α (0))), (2, .ref (α (10))), (3, .ref (α (9)))])
    (kk : ∀ (V1 : mV) (α1 : Nat → Nat) (f1 : sT) (nr1 nw1 ns1 : Nat) (th1 : Int32) (H1 : Heap) (locs1 : List Loc) (ls1 : Array Slot), mI G V1 α1 f1 nr1 nw1 ns1 th1 → mW G V1 α1 s H1 → va_S (mfree G) s.heap H1 locs1 → lv_has ls1 7 [(4, .int (nI (j))), (0, .ref (b)), (1, .ref (α1 (0))), (2, .ref (α1 (10))), (3, .ref (α1 (9)))] → W p l e room_1 s m args below meth c H1 locs1 (cells + 2) (slots + 210) Q (F0 m 1415 ls1 [])) : W p l e room_1 s m args below meth c H locs cells slots Q (F0 m 1031 ls []) := by
  obtain ⟨hl0, hx, hb, hml, hown, hts, hX, hbl, hbA, hL⟩ := hF
  obtain ⟨hC, hM, hwf, g0, h9⟩ := hI
  obtain ⟨hnr, hnw, hns⟩ := hwf.1
  by_cases h : inn x1 0 (nI ns - 1)
  ·
    have hh := h
    obtain ⟨si, hs, rfl⟩ := ix_inn (by omega) hh
    refine lv_aload_n hx hb dL_law_1031 rfl (lv_at hl 2 rfl) ?_
    refine lv_aload_n hx hb dL_law_1032 rfl (lv_at hl 1 rfl) ?_
    refine lv_iload hx hb dL_law_1033 (lv_at hl 0 rfl) ?_
    refine lv_iconst (v := (1)) hx hb dL_law_1035 (by decide) ?_
    refine lv_iadd hx hb dL_law_1036 ?_
    refine msld (v := nI (si)) (k := j + 1) hx hb hX hbl hbA hS (nI_add j 1) (by omega) (by omega) (y1) dL_law_1037 ?_
    refine lv_aload_n hx hb dL_law_1038 rfl (lv_at hl 4 rfl) ?_
    refine mcallSWi hw ⟨hx, hb, hml, hown, hts⟩ hS (w_X3_missed hC hwf si hs h9) (vx_cwSW 3 hts gL_law_L_missed rfl rfl rfl (by decide +kernel) ⟨Nat.le_of_ble_eq_true rfl, Nat.le_of_ble_eq_true rfl⟩) rfl hl.1 rfl (Nat.le_of_ble_eq_true rfl) dL_law_1039 ⟨(by show cells + 0 ≤ 601024; omega), (by show slots + 0 ≤ 7293033; omega)⟩ (fun r9 V1 α1 H locs hq hw hS => ?_)
    obtain ⟨er, hC1, hO, g1, h91, hg1⟩ := hq
    dsimp only at hC1 hO h91
    subst er
    have hl : lv_has ls 7 [(4, .int (nI (j))), (0, .ref (b)), (1, .ref (α1 (0))), (2, .ref (α1 (10))), (3, .ref (α1 (9)))] := by rw [(hO 0 (by omega)).2, (hO 10 (by omega)).2, (hO 9 (by omega)).2]; exact hl
    have hM1 := hM.mvC (fun j h1 h2 => (hO j (by omega)).1 h1) (fun j hj => (hO j hj).2)
    refine lv_istore (lv' := [(5, .int (0)), (4, .int (nI (j))), (0, .ref (b)), (1, .ref (α1 (0))), (2, .ref (α1 (10))), (3, .ref (α1 (9)))]) hx hb dL_law_1042 hl (by decide) rfl (fun ls hl => ?_)
    refine lv_aload_n hx hb dL_law_1044 rfl (lv_at hl 4 rfl) ?_
    refine lv_aload_n hx hb dL_law_1045 rfl (lv_at hl 2 rfl) ?_
    refine lv_iload hx hb dL_law_1046 (lv_at hl 1 rfl) ?_
    refine lv_iconst (v := (1)) hx hb dL_law_1048 (by decide) ?_
    refine lv_iadd hx hb dL_law_1049 ?_
    refine msld (v := nI (si)) (k := j + 1) hx hb hX hbl hbA hS (nI_add j 1) (by omega) (by omega) (y1) dL_law_1050 ?_
    refine mcallVw hw hM1.1 rfl rfl ⟨hx, hb, hml, hown, hts⟩ hS (c_X4_missed hM1 si hs hns) (cwV 1 hts gL_law_X4_missed rfl rfl rfl (by decide +kernel) ⟨Nat.le_of_ble_eq_true rfl, Nat.le_of_ble_eq_true rfl⟩) rfl hl.1 rfl (Nat.le_of_ble_eq_true rfl) dL_law_1051 ⟨(by show cells + 0 + 0 ≤ 601024; omega), (by show slots + 0 + 0 ≤ 7293033; omega)⟩ (fun r8 V2 α2 H locs hq hw hS => ?_)
    obtain ⟨er, hM2, hP, eα⟩ := hq
    dsimp only at hM2 hP eα
    subst er
    subst eα
    have hC2 := hC1.mvM (fun j hj => hP j hj)
    have h92 := (hP 9 (by omega)).trans h91
    refine lv_istore (lv' := [(6, .int (s_lacks f si)), (5, .int (0)), (4, .int (nI (j))), (0, .ref (b)), (1, .ref (α1 (0))), (2, .ref (α1 (10))), (3, .ref (α1 (9)))]) hx hb dL_law_1054 hl (by decide) rfl (fun ls hl => ?_)
    refine lv_aload_n hx hb dL_law_1056 rfl (lv_at hl 5 rfl) ?_
    refine mcallVi hw hM2.1 rfl rfl ⟨hx, hb, hml, hown, hts⟩ (c_X4_thrown hM2) (cwV 0 hts gL_law_X4_thrown rfl rfl rfl (by decide +kernel) ⟨Nat.le_of_ble_eq_true rfl, Nat.le_of_ble_eq_true rfl⟩) rfl hl.1 rfl (Nat.le_of_ble_eq_true rfl) dL_law_1057 ⟨(by show cells + 0 + 0 + 0 ≤ 601024; omega), (by show slots + 0 + 0 + 0 ≤ 7293033; omega)⟩ ?_
    refine lv_iload hx hb dL_law_1060 (lv_at hl 1 rfl) ?_
    refine lv_icmp_eq (tgt := 1067) hx hb dL_law_1062 (by decide) (fun c1 => ?_) (fun z => absurd ((by decide)) z)
    refine lv_iload hx hb dL_law_1067 (lv_at hl 1 rfl) ?_
    refine lv_if_ne (tgt := 1084) hx hb dL_law_1069 (by decide) (fun z => absurd ((by decide)) z) (fun c2 => ?_)
    refine lv_aload_n hx hb dL_law_1072 rfl (lv_at hl 6 rfl) ?_
    refine lv_iconst (v := (0)) hx hb dL_law_1073 (by decide) ?_
    refine mlald' (k := 0) hx hb hw h92 rfl (by omega) (by decide) dL_law_1074 ?_
    refine lv_iload hx hb dL_law_1075 (lv_at hl 0 rfl) ?_
    refine lv_i2l (v := (s_lacks f si).toInt64) hx hb dL_law_1077 rfl ?_
    refine lv_lcmp0 hx hb (hg1.symm) dL_law_1078 ?_
    refine lv_if_eq (tgt := 1084) hx hb dL_law_1079 (by decide) (fun c3 => ?_) (fun z => absurd ((by decide)) z)
    refine lv_goto (tgt := 1415) hx hb dL_law_1084 (by decide) ?_
    refine W.widen (k := cells + 2) (n := slots + 210) (by omega) (by omega) ?_
    exact kk V2 α1 (f) nr nw ns 0 H locs ls ⟨hC2, hM2, hwf, ⟨_, h92⟩⟩ hw hS ⟨hl.1, hl.2.1, fun q hq => hl.2.2 q (List.mem_cons_of_mem _ (List.mem_cons_of_mem _ hq))⟩
  ·
    refine lv_aload_n hx hb dL_law_1031 rfl (lv_at hl 2 rfl) ?_
    refine lv_aload_n hx hb dL_law_1032 rfl (lv_at hl 1 rfl) ?_
    refine lv_iload hx hb dL_law_1033 (lv_at hl 0 rfl) ?_
    refine lv_iconst (v := (1)) hx hb dL_law_1035 (by decide) ?_
    refine lv_iadd hx hb dL_law_1036 ?_
    refine msld (v := x1) (k := j + 1) hx hb hX hbl hbA hS (nI_add j 1) (by omega) (by omega) (y1) dL_law_1037 ?_
    refine lv_aload_n hx hb dL_law_1038 rfl (lv_at hl 4 rfl) ?_
    refine mcallSWi hw ⟨hx, hb, hml, hown, hts⟩ hS (x_X3_missed_1 hl0 hC hwf x1 h) (vx_cwSW 3 hts gL_law_L_missed rfl rfl rfl (by decide +kernel) ⟨Nat.le_of_ble_eq_true rfl, Nat.le_of_ble_eq_true rfl⟩) rfl hl.1 rfl (Nat.le_of_ble_eq_true rfl) dL_law_1039 ⟨(by show cells + 1 ≤ 601024; omega), (by show slots + 6 ≤ 7293033; omega)⟩ (fun r9 V1 α1 H locs hq hw hS => ?_)
    obtain ⟨er, eu⟩ := hq
    subst er
    have e1 : V1 = V := congrArg Prod.fst eu
    have e2 : α1 = α := congrArg Prod.snd eu
    have hC1 : mC G V1 α1 f nr nw ns := by rw [e1, e2]; exact hC
    have h91 : V1 9 = _ := (congrFun e1 9).trans h9
    have hO : ∀ j, j < 100 → (10 ≤ j → V1 j = V j) ∧ α1 j = α j := fun j _ => ⟨fun _ => congrFun e1 j, congrFun e2 j⟩
    have hl : lv_has ls 7 [(4, .int (nI (j))), (0, .ref (b)), (1, .ref (α1 (0))), (2, .ref (α1 (10))), (3, .ref (α1 (9)))] := by rw [(hO 0 (by omega)).2, (hO 10 (by omega)).2, (hO 9 (by omega)).2]; exact hl
    have hM1 := hM.mvC (fun j h1 h2 => (hO j (by omega)).1 h1) (fun j hj => (hO j hj).2)
    refine lv_istore (lv' := [(5, .int (1)), (4, .int (nI (j))), (0, .ref (b)), (1, .ref (α1 (0))), (2, .ref (α1 (10))), (3, .ref (α1 (9)))]) hx hb dL_law_1042 hl (by decide) rfl (fun ls hl => ?_)
    refine lv_aload_n hx hb dL_law_1044 rfl (lv_at hl 4 rfl) ?_
    refine lv_aload_n hx hb dL_law_1045 rfl (lv_at hl 2 rfl) ?_
    refine lv_iload hx hb dL_law_1046 (lv_at hl 1 rfl) ?_
    refine lv_iconst (v := (1)) hx hb dL_law_1048 (by decide) ?_
    refine lv_iadd hx hb dL_law_1049 ?_
    refine msld (v := x1) (k := j + 1) hx hb hX hbl hbA hS (nI_add j 1) (by omega) (by omega) (y1) dL_law_1050 ?_
    refine mcallVw hw hM1.1 rfl rfl ⟨hx, hb, hml, hown, hts⟩ hS (c_X4_missed_1 hM1 x1 h) (cwV 1 hts gL_law_X4_missed rfl rfl rfl (by decide +kernel) ⟨Nat.le_of_ble_eq_true rfl, Nat.le_of_ble_eq_true rfl⟩) rfl hl.1 rfl (Nat.le_of_ble_eq_true rfl) dL_law_1051 ⟨(by show cells + 1 + 0 ≤ 601024; omega), (by show slots + 6 + 0 ≤ 7293033; omega)⟩ (fun r8 V2 α2 H locs hq hw hS => ?_)
    obtain ⟨er, hM2, hP, eα⟩ := hq
    dsimp only at hM2 hP eα
    subst er
    subst eα
    have hC2 := hC1.mvM (fun j hj => hP j hj)
    have h92 := (hP 9 (by omega)).trans h91
    refine lv_istore (lv' := [(6, .int (0)), (5, .int (1)), (4, .int (nI (j))), (0, .ref (b)), (1, .ref (α1 (0))), (2, .ref (α1 (10))), (3, .ref (α1 (9)))]) hx hb dL_law_1054 hl (by decide) rfl (fun ls hl => ?_)
    refine lv_aload_n hx hb dL_law_1056 rfl (lv_at hl 5 rfl) ?_
    refine mcallVi hw hM2.1 rfl rfl ⟨hx, hb, hml, hown, hts⟩ (c_X4_thrown hM2) (cwV 0 hts gL_law_X4_thrown rfl rfl rfl (by decide +kernel) ⟨Nat.le_of_ble_eq_true rfl, Nat.le_of_ble_eq_true rfl⟩) rfl hl.1 rfl (Nat.le_of_ble_eq_true rfl) dL_law_1057 ⟨(by show cells + 1 + 0 + 0 ≤ 601024; omega), (by show slots + 6 + 0 + 0 ≤ 7293033; omega)⟩ ?_
    refine lv_iload hx hb dL_law_1060 (lv_at hl 1 rfl) ?_
    refine lv_icmp_eq (tgt := 1067) hx hb dL_law_1062 (by decide) (fun c4 => ?_) (fun z => absurd ((by decide)) z)
    refine lv_iload hx hb dL_law_1067 (lv_at hl 1 rfl) ?_
    refine lv_if_ne (tgt := 1084) hx hb dL_law_1069 (by decide) (fun c5 => ?_) (fun z => absurd z ((by decide)))
    refine lv_goto (tgt := 1415) hx hb dL_law_1084 (by decide) ?_
    refine W.widen (k := cells + 2) (n := slots + 210) (by omega) (by omega) ?_
    exact kk V2 α1 (f) nr nw ns 1 H locs ls ⟨hC2, hM2, hwf, ⟨_, h92⟩⟩ hw hS ⟨hl.1, hl.2.1, fun q hq => hl.2.2 q (List.mem_cons_of_mem _ (List.mem_cons_of_mem _ hq))⟩

set_option maxHeartbeats 4000000 in
set_option maxRecDepth 100000 in
theorem op_pay {p : Program} {l : Launch} {e : Env} {s : State} {m : MethodId} {args : Array Value} {below : List Frame} {meth : Method} {c : Code} {H : Heap} {locs : List Loc} {cells slots : Nat} {Q : State → Prop} {ls : Array Slot} {G : mG} {V : mV} {α : Nat → Nat} {f : sT} {nr nw ns : Nat} {th : Int32} {b L : Nat} {xs : Nat → Int32} {j : Nat} (hF : mFix p l s m args c G b L xs) (hj : j + 6 ≤ L) {x1 x2 x3 x4 x5 : Int32} (y1 : xs (j + 1) = x1) (y2 : xs (j + 2) = x2) (y3 : xs (j + 3) = x3) (y4 : xs (j + 4) = x4) (y5 : xs (j + 5) = x5) (hI : mI G V α f nr nw ns th) (hw : mW G V α s H) (hS : va_S (mfree G) s.heap H locs) (hc9 : cells + 2 ≤ 601024) (hs9 : slots + 210 ≤ 7293033) (hl : lv_has ls 7 [(4, .int (nI (j))), (0, .ref (b)), (1, .ref (α (0))), (2, .ref (α (10))), (3, .ref (α (9)))])
    (kk : ∀ (V1 : mV) (α1 : Nat → Nat) (f1 : sT) (nr1 nw1 ns1 : Nat) (th1 : Int32) (H1 : Heap) (locs1 : List Loc) (ls1 : Array Slot), mI G V1 α1 f1 nr1 nw1 ns1 th1 → mW G V1 α1 s H1 → va_S (mfree G) s.heap H1 locs1 → lv_has ls1 7 [(4, .int (nI (j))), (0, .ref (b)), (1, .ref (α1 (0))), (2, .ref (α1 (10))), (3, .ref (α1 (9)))] → W p l e room_1 s m args below meth c H1 locs1 (cells + 2) (slots + 210) Q (F0 m 1415 ls1 [])) : W p l e room_1 s m args below meth c H locs cells slots Q (F0 m 1087 ls []) := by
  obtain ⟨hl0, hx, hb, hml, hown, hts, hX, hbl, hbA, hL⟩ := hF
  obtain ⟨hC, hM, hwf, g0, h9⟩ := hI
  obtain ⟨hnr, hnw, hns⟩ := hwf.1
  by_cases h : inn x1 0 (nI ns - 1)
  ·
    have hh := h
    obtain ⟨si, hs, rfl⟩ := ix_inn (by omega) hh
    refine lv_aload_n hx hb dL_law_1087 rfl (lv_at hl 2 rfl) ?_
    refine lv_aload_n hx hb dL_law_1088 rfl (lv_at hl 1 rfl) ?_
    refine lv_iload hx hb dL_law_1089 (lv_at hl 0 rfl) ?_
    refine lv_iconst (v := (1)) hx hb dL_law_1091 (by decide) ?_
    refine lv_iadd hx hb dL_law_1092 ?_
    refine msld (v := nI (si)) (k := j + 1) hx hb hX hbl hbA hS (nI_add j 1) (by omega) (by omega) (y1) dL_law_1093 ?_
    refine lv_aload_n hx hb dL_law_1094 rfl (lv_at hl 4 rfl) ?_
    refine mcallSWi hw ⟨hx, hb, hml, hown, hts⟩ hS (w_X3_pay hC hwf si hs h9) (vx_cwSW 3 hts gL_law_L_pay rfl rfl rfl (by decide +kernel) ⟨Nat.le_of_ble_eq_true rfl, Nat.le_of_ble_eq_true rfl⟩) rfl hl.1 rfl (Nat.le_of_ble_eq_true rfl) dL_law_1095 ⟨(by show cells + 0 ≤ 601024; omega), (by show slots + 0 ≤ 7293033; omega)⟩ (fun r9 V1 α1 H locs hq hw hS => ?_)
    obtain ⟨er, hC1, hO, g1, h91, hg1⟩ := hq
    dsimp only at hC1 hO h91
    subst er
    have hl : lv_has ls 7 [(4, .int (nI (j))), (0, .ref (b)), (1, .ref (α1 (0))), (2, .ref (α1 (10))), (3, .ref (α1 (9)))] := by rw [(hO 0 (by omega)).2, (hO 10 (by omega)).2, (hO 9 (by omega)).2]; exact hl
    have hM1 := hM.mvC (fun j h1 h2 => (hO j (by omega)).1 h1) (fun j hj => (hO j hj).2)
    refine lv_istore (lv' := [(5, .int (0)), (4, .int (nI (j))), (0, .ref (b)), (1, .ref (α1 (0))), (2, .ref (α1 (10))), (3, .ref (α1 (9)))]) hx hb dL_law_1098 hl (by decide) rfl (fun ls hl => ?_)
    refine lv_aload_n hx hb dL_law_1100 rfl (lv_at hl 4 rfl) ?_
    refine lv_aload_n hx hb dL_law_1101 rfl (lv_at hl 2 rfl) ?_
    refine lv_iload hx hb dL_law_1102 (lv_at hl 1 rfl) ?_
    refine lv_iconst (v := (1)) hx hb dL_law_1104 (by decide) ?_
    refine lv_iadd hx hb dL_law_1105 ?_
    refine msld (v := nI (si)) (k := j + 1) hx hb hX hbl hbA hS (nI_add j 1) (by omega) (by omega) (y1) dL_law_1106 ?_
    refine mcallVw hw hM1.1 rfl rfl ⟨hx, hb, hml, hown, hts⟩ hS (c_X4_pay hM1 hwf si hs) (cwV 1 hts gL_law_X4_pay rfl rfl rfl (by decide +kernel) ⟨Nat.le_of_ble_eq_true rfl, Nat.le_of_ble_eq_true rfl⟩) rfl hl.1 rfl (Nat.le_of_ble_eq_true rfl) dL_law_1107 ⟨(by show cells + 0 + 0 ≤ 601024; omega), (by show slots + 0 + 0 ≤ 7293033; omega)⟩ (fun r8 V2 α2 H locs hq hw hS => ?_)
    obtain ⟨er, hM2, hP, eα⟩ := hq
    dsimp only at hM2 hP eα
    subst er
    subst eα
    have hC2 := hC1.mvM (fun j hj => hP j hj)
    have h92 := (hP 9 (by omega)).trans h91
    refine lv_istore (lv' := [(6, .int (s_pay f nr si)), (5, .int (0)), (4, .int (nI (j))), (0, .ref (b)), (1, .ref (α1 (0))), (2, .ref (α1 (10))), (3, .ref (α1 (9)))]) hx hb dL_law_1110 hl (by decide) rfl (fun ls hl => ?_)
    refine lv_aload_n hx hb dL_law_1112 rfl (lv_at hl 5 rfl) ?_
    refine mcallVi hw hM2.1 rfl rfl ⟨hx, hb, hml, hown, hts⟩ (c_X4_thrown hM2) (cwV 0 hts gL_law_X4_thrown rfl rfl rfl (by decide +kernel) ⟨Nat.le_of_ble_eq_true rfl, Nat.le_of_ble_eq_true rfl⟩) rfl hl.1 rfl (Nat.le_of_ble_eq_true rfl) dL_law_1113 ⟨(by show cells + 0 + 0 + 0 ≤ 601024; omega), (by show slots + 0 + 0 + 0 ≤ 7293033; omega)⟩ ?_
    refine lv_iload hx hb dL_law_1116 (lv_at hl 1 rfl) ?_
    refine lv_icmp_eq (tgt := 1123) hx hb dL_law_1118 (by decide) (fun c1 => ?_) (fun z => absurd ((by decide)) z)
    refine lv_iload hx hb dL_law_1123 (lv_at hl 1 rfl) ?_
    refine lv_if_ne (tgt := 1140) hx hb dL_law_1125 (by decide) (fun z => absurd ((by decide)) z) (fun c2 => ?_)
    refine lv_aload_n hx hb dL_law_1128 rfl (lv_at hl 6 rfl) ?_
    refine lv_iconst (v := (0)) hx hb dL_law_1129 (by decide) ?_
    refine mlald' (k := 0) hx hb hw h92 rfl (by omega) (by decide) dL_law_1130 ?_
    refine lv_iload hx hb dL_law_1131 (lv_at hl 0 rfl) ?_
    refine lv_i2l (v := (s_pay f nr si).toInt64) hx hb dL_law_1133 rfl ?_
    refine lv_lcmp0 hx hb (hg1.symm) dL_law_1134 ?_
    refine lv_if_eq (tgt := 1140) hx hb dL_law_1135 (by decide) (fun c3 => ?_) (fun z => absurd ((by decide)) z)
    refine lv_goto (tgt := 1415) hx hb dL_law_1140 (by decide) ?_
    refine W.widen (k := cells + 2) (n := slots + 210) (by omega) (by omega) ?_
    exact kk V2 α1 (f) nr nw ns 0 H locs ls ⟨hC2, hM2, hwf, ⟨_, h92⟩⟩ hw hS ⟨hl.1, hl.2.1, fun q hq => hl.2.2 q (List.mem_cons_of_mem _ (List.mem_cons_of_mem _ hq))⟩
  ·
    refine lv_aload_n hx hb dL_law_1087 rfl (lv_at hl 2 rfl) ?_
    refine lv_aload_n hx hb dL_law_1088 rfl (lv_at hl 1 rfl) ?_
    refine lv_iload hx hb dL_law_1089 (lv_at hl 0 rfl) ?_
    refine lv_iconst (v := (1)) hx hb dL_law_1091 (by decide) ?_
    refine lv_iadd hx hb dL_law_1092 ?_
    refine msld (v := x1) (k := j + 1) hx hb hX hbl hbA hS (nI_add j 1) (by omega) (by omega) (y1) dL_law_1093 ?_
    refine lv_aload_n hx hb dL_law_1094 rfl (lv_at hl 4 rfl) ?_
    refine mcallSWi hw ⟨hx, hb, hml, hown, hts⟩ hS (x_X3_pay_1 hl0 hC hwf x1 h) (vx_cwSW 3 hts gL_law_L_pay rfl rfl rfl (by decide +kernel) ⟨Nat.le_of_ble_eq_true rfl, Nat.le_of_ble_eq_true rfl⟩) rfl hl.1 rfl (Nat.le_of_ble_eq_true rfl) dL_law_1095 ⟨(by show cells + 1 ≤ 601024; omega), (by show slots + 6 ≤ 7293033; omega)⟩ (fun r9 V1 α1 H locs hq hw hS => ?_)
    obtain ⟨er, eu⟩ := hq
    subst er
    have e1 : V1 = V := congrArg Prod.fst eu
    have e2 : α1 = α := congrArg Prod.snd eu
    have hC1 : mC G V1 α1 f nr nw ns := by rw [e1, e2]; exact hC
    have h91 : V1 9 = _ := (congrFun e1 9).trans h9
    have hO : ∀ j, j < 100 → (10 ≤ j → V1 j = V j) ∧ α1 j = α j := fun j _ => ⟨fun _ => congrFun e1 j, congrFun e2 j⟩
    have hl : lv_has ls 7 [(4, .int (nI (j))), (0, .ref (b)), (1, .ref (α1 (0))), (2, .ref (α1 (10))), (3, .ref (α1 (9)))] := by rw [(hO 0 (by omega)).2, (hO 10 (by omega)).2, (hO 9 (by omega)).2]; exact hl
    have hM1 := hM.mvC (fun j h1 h2 => (hO j (by omega)).1 h1) (fun j hj => (hO j hj).2)
    refine lv_istore (lv' := [(5, .int (1)), (4, .int (nI (j))), (0, .ref (b)), (1, .ref (α1 (0))), (2, .ref (α1 (10))), (3, .ref (α1 (9)))]) hx hb dL_law_1098 hl (by decide) rfl (fun ls hl => ?_)
    refine lv_aload_n hx hb dL_law_1100 rfl (lv_at hl 4 rfl) ?_
    refine lv_aload_n hx hb dL_law_1101 rfl (lv_at hl 2 rfl) ?_
    refine lv_iload hx hb dL_law_1102 (lv_at hl 1 rfl) ?_
    refine lv_iconst (v := (1)) hx hb dL_law_1104 (by decide) ?_
    refine lv_iadd hx hb dL_law_1105 ?_
    refine msld (v := x1) (k := j + 1) hx hb hX hbl hbA hS (nI_add j 1) (by omega) (by omega) (y1) dL_law_1106 ?_
    refine mcallVw hw hM1.1 rfl rfl ⟨hx, hb, hml, hown, hts⟩ hS (c_X4_pay_1 hM1 x1 h) (cwV 1 hts gL_law_X4_pay rfl rfl rfl (by decide +kernel) ⟨Nat.le_of_ble_eq_true rfl, Nat.le_of_ble_eq_true rfl⟩) rfl hl.1 rfl (Nat.le_of_ble_eq_true rfl) dL_law_1107 ⟨(by show cells + 1 + 0 ≤ 601024; omega), (by show slots + 6 + 0 ≤ 7293033; omega)⟩ (fun r8 V2 α2 H locs hq hw hS => ?_)
    obtain ⟨er, hM2, hP, eα⟩ := hq
    dsimp only at hM2 hP eα
    subst er
    subst eα
    have hC2 := hC1.mvM (fun j hj => hP j hj)
    have h92 := (hP 9 (by omega)).trans h91
    refine lv_istore (lv' := [(6, .int (0)), (5, .int (1)), (4, .int (nI (j))), (0, .ref (b)), (1, .ref (α1 (0))), (2, .ref (α1 (10))), (3, .ref (α1 (9)))]) hx hb dL_law_1110 hl (by decide) rfl (fun ls hl => ?_)
    refine lv_aload_n hx hb dL_law_1112 rfl (lv_at hl 5 rfl) ?_
    refine mcallVi hw hM2.1 rfl rfl ⟨hx, hb, hml, hown, hts⟩ (c_X4_thrown hM2) (cwV 0 hts gL_law_X4_thrown rfl rfl rfl (by decide +kernel) ⟨Nat.le_of_ble_eq_true rfl, Nat.le_of_ble_eq_true rfl⟩) rfl hl.1 rfl (Nat.le_of_ble_eq_true rfl) dL_law_1113 ⟨(by show cells + 1 + 0 + 0 ≤ 601024; omega), (by show slots + 6 + 0 + 0 ≤ 7293033; omega)⟩ ?_
    refine lv_iload hx hb dL_law_1116 (lv_at hl 1 rfl) ?_
    refine lv_icmp_eq (tgt := 1123) hx hb dL_law_1118 (by decide) (fun c4 => ?_) (fun z => absurd ((by decide)) z)
    refine lv_iload hx hb dL_law_1123 (lv_at hl 1 rfl) ?_
    refine lv_if_ne (tgt := 1140) hx hb dL_law_1125 (by decide) (fun c5 => ?_) (fun z => absurd z ((by decide)))
    refine lv_goto (tgt := 1415) hx hb dL_law_1140 (by decide) ?_
    refine W.widen (k := cells + 2) (n := slots + 210) (by omega) (by omega) ?_
    exact kk V2 α1 (f) nr nw ns 1 H locs ls ⟨hC2, hM2, hwf, ⟨_, h92⟩⟩ hw hS ⟨hl.1, hl.2.1, fun q hq => hl.2.2 q (List.mem_cons_of_mem _ (List.mem_cons_of_mem _ hq))⟩

set_option maxHeartbeats 4000000 in
set_option maxRecDepth 100000 in
theorem op_percentAt {p : Program} {l : Launch} {e : Env} {s : State} {m : MethodId} {args : Array Value} {below : List Frame} {meth : Method} {c : Code} {H : Heap} {locs : List Loc} {cells slots : Nat} {Q : State → Prop} {ls : Array Slot} {G : mG} {V : mV} {α : Nat → Nat} {f : sT} {nr nw ns : Nat} {th : Int32} {b L : Nat} {xs : Nat → Int32} {j : Nat} (hF : mFix p l s m args c G b L xs) (hj : j + 6 ≤ L) {x1 x2 x3 x4 x5 : Int32} (y1 : xs (j + 1) = x1) (y2 : xs (j + 2) = x2) (y3 : xs (j + 3) = x3) (y4 : xs (j + 4) = x4) (y5 : xs (j + 5) = x5) (hI : mI G V α f nr nw ns th) (hw : mW G V α s H) (hS : va_S (mfree G) s.heap H locs) (hc9 : cells + 2 ≤ 601024) (hs9 : slots + 210 ≤ 7293033) (hl : lv_has ls 7 [(4, .int (nI (j))), (0, .ref (b)), (1, .ref (α (0))), (2, .ref (α (10))), (3, .ref (α (9)))])
    (kk : ∀ (V1 : mV) (α1 : Nat → Nat) (f1 : sT) (nr1 nw1 ns1 : Nat) (th1 : Int32) (H1 : Heap) (locs1 : List Loc) (ls1 : Array Slot), mI G V1 α1 f1 nr1 nw1 ns1 th1 → mW G V1 α1 s H1 → va_S (mfree G) s.heap H1 locs1 → lv_has ls1 7 [(4, .int (nI (j))), (0, .ref (b)), (1, .ref (α1 (0))), (2, .ref (α1 (10))), (3, .ref (α1 (9)))] → W p l e room_1 s m args below meth c H1 locs1 (cells + 2) (slots + 210) Q (F0 m 1415 ls1 [])) : W p l e room_1 s m args below meth c H locs cells slots Q (F0 m 895 ls []) := by
  obtain ⟨hl0, hx, hb, hml, hown, hts, hX, hbl, hbA, hL⟩ := hF
  obtain ⟨hC, hM, hwf, g0, h9⟩ := hI
  obtain ⟨hnr, hnw, hns⟩ := hwf.1
  by_cases h : inn x1 0 (nI ns - 1)
  ·
    have hh := h
    obtain ⟨si, hs, rfl⟩ := ix_inn (by omega) hh
    obtain ⟨-, -, -, -, -, -, hN2, hN⟩ := hwf.sh si hs
    by_cases h2 : inn x2 0 (s_paid f si - 1)
    ·
      have hh2 := h2
      rw [hN] at hh2
      obtain ⟨q, hq, rfl⟩ := ix_inn (by omega) hh2
      refine lv_aload_n hx hb dL_law_895 rfl (lv_at hl 2 rfl) ?_
      refine lv_aload_n hx hb dL_law_896 rfl (lv_at hl 1 rfl) ?_
      refine lv_iload hx hb dL_law_897 (lv_at hl 0 rfl) ?_
      refine lv_iconst (v := (1)) hx hb dL_law_899 (by decide) ?_
      refine lv_iadd hx hb dL_law_900 ?_
      refine msld (v := nI (si)) (k := j + 1) hx hb hX hbl hbA hS (nI_add j 1) (by omega) (by omega) (y1) dL_law_901 ?_
      refine lv_aload_n hx hb dL_law_902 rfl (lv_at hl 1 rfl) ?_
      refine lv_iload hx hb dL_law_903 (lv_at hl 0 rfl) ?_
      refine lv_iconst (v := (2)) hx hb dL_law_905 (by decide) ?_
      refine lv_iadd hx hb dL_law_906 ?_
      refine msld (v := nI (q)) (k := j + 2) hx hb hX hbl hbA hS (nI_add j 2) (by omega) (by omega) (y2) dL_law_907 ?_
      refine lv_aload_n hx hb dL_law_908 rfl (lv_at hl 4 rfl) ?_
      refine mcallSWi hw ⟨hx, hb, hml, hown, hts⟩ hS (w_X3_percentAt hC hwf si hs q hq h9) (vx_cwSW 4 hts gL_law_L_percentAt rfl rfl rfl (by decide +kernel) ⟨Nat.le_of_ble_eq_true rfl, Nat.le_of_ble_eq_true rfl⟩) rfl hl.1 rfl (Nat.le_of_ble_eq_true rfl) dL_law_909 ⟨(by show cells + 0 ≤ 601024; omega), (by show slots + 0 ≤ 7293033; omega)⟩ (fun r9 V1 α1 H locs hq hw hS => ?_)
      obtain ⟨er, hC1, hO, g1, h91, hg1⟩ := hq
      dsimp only at hC1 hO h91
      subst er
      have hl : lv_has ls 7 [(4, .int (nI (j))), (0, .ref (b)), (1, .ref (α1 (0))), (2, .ref (α1 (10))), (3, .ref (α1 (9)))] := by rw [(hO 0 (by omega)).2, (hO 10 (by omega)).2, (hO 9 (by omega)).2]; exact hl
      have hM1 := hM.mvC (fun j h1 h2 => (hO j (by omega)).1 h1) (fun j hj => (hO j hj).2)
      refine lv_istore (lv' := [(5, .int (0)), (4, .int (nI (j))), (0, .ref (b)), (1, .ref (α1 (0))), (2, .ref (α1 (10))), (3, .ref (α1 (9)))]) hx hb dL_law_912 hl (by decide) rfl (fun ls hl => ?_)
      refine lv_aload_n hx hb dL_law_914 rfl (lv_at hl 4 rfl) ?_
      refine lv_aload_n hx hb dL_law_915 rfl (lv_at hl 2 rfl) ?_
      refine lv_iload hx hb dL_law_916 (lv_at hl 1 rfl) ?_
      refine lv_iconst (v := (1)) hx hb dL_law_918 (by decide) ?_
      refine lv_iadd hx hb dL_law_919 ?_
      refine msld (v := nI (si)) (k := j + 1) hx hb hX hbl hbA hS (nI_add j 1) (by omega) (by omega) (y1) dL_law_920 ?_
      refine lv_aload_n hx hb dL_law_921 rfl (lv_at hl 2 rfl) ?_
      refine lv_iload hx hb dL_law_922 (lv_at hl 1 rfl) ?_
      refine lv_iconst (v := (2)) hx hb dL_law_924 (by decide) ?_
      refine lv_iadd hx hb dL_law_925 ?_
      refine msld (v := nI (q)) (k := j + 2) hx hb hX hbl hbA hS (nI_add j 2) (by omega) (by omega) (y2) dL_law_926 ?_
      refine mcallVw hw hM1.1 rfl rfl ⟨hx, hb, hml, hown, hts⟩ hS (c_X4_percentAt hM1 hwf si hs q (by omega) h2) (cwV 2 hts gL_law_X4_percentAt rfl rfl rfl (by decide +kernel) ⟨Nat.le_of_ble_eq_true rfl, Nat.le_of_ble_eq_true rfl⟩) rfl hl.1 rfl (Nat.le_of_ble_eq_true rfl) dL_law_927 ⟨(by show cells + 0 + 0 ≤ 601024; omega), (by show slots + 0 + 0 ≤ 7293033; omega)⟩ (fun r8 V2 α2 H locs hq hw hS => ?_)
      obtain ⟨er, hM2, hP, eα⟩ := hq
      dsimp only at hM2 hP eα
      subst er
      subst eα
      have hC2 := hC1.mvM (fun j hj => hP j hj)
      have h92 := (hP 9 (by omega)).trans h91
      refine lv_istore (lv' := [(6, .int (s_P f (wN f si) (aN f si) q nr)), (5, .int (0)), (4, .int (nI (j))), (0, .ref (b)), (1, .ref (α1 (0))), (2, .ref (α1 (10))), (3, .ref (α1 (9)))]) hx hb dL_law_930 hl (by decide) rfl (fun ls hl => ?_)
      refine lv_aload_n hx hb dL_law_932 rfl (lv_at hl 5 rfl) ?_
      refine mcallVi hw hM2.1 rfl rfl ⟨hx, hb, hml, hown, hts⟩ (c_X4_thrown hM2) (cwV 0 hts gL_law_X4_thrown rfl rfl rfl (by decide +kernel) ⟨Nat.le_of_ble_eq_true rfl, Nat.le_of_ble_eq_true rfl⟩) rfl hl.1 rfl (Nat.le_of_ble_eq_true rfl) dL_law_933 ⟨(by show cells + 0 + 0 + 0 ≤ 601024; omega), (by show slots + 0 + 0 + 0 ≤ 7293033; omega)⟩ ?_
      refine lv_iload hx hb dL_law_936 (lv_at hl 1 rfl) ?_
      refine lv_icmp_eq (tgt := 943) hx hb dL_law_938 (by decide) (fun c1 => ?_) (fun z => absurd ((by decide)) z)
      refine lv_iload hx hb dL_law_943 (lv_at hl 1 rfl) ?_
      refine lv_if_ne (tgt := 960) hx hb dL_law_945 (by decide) (fun z => absurd ((by decide)) z) (fun c2 => ?_)
      refine lv_aload_n hx hb dL_law_948 rfl (lv_at hl 6 rfl) ?_
      refine lv_iconst (v := (0)) hx hb dL_law_949 (by decide) ?_
      refine mlald' (k := 0) hx hb hw h92 rfl (by omega) (by decide) dL_law_950 ?_
      refine lv_iload hx hb dL_law_951 (lv_at hl 0 rfl) ?_
      refine lv_i2l (v := (s_P f (wN f si) (aN f si) q nr).toInt64) hx hb dL_law_953 rfl ?_
      refine lv_lcmp0 hx hb (hg1.symm) dL_law_954 ?_
      refine lv_if_eq (tgt := 960) hx hb dL_law_955 (by decide) (fun c3 => ?_) (fun z => absurd ((by decide)) z)
      refine lv_goto (tgt := 1415) hx hb dL_law_960 (by decide) ?_
      refine W.widen (k := cells + 2) (n := slots + 210) (by omega) (by omega) ?_
      exact kk V2 α1 (f) nr nw ns 0 H locs ls ⟨hC2, hM2, hwf, ⟨_, h92⟩⟩ hw hS ⟨hl.1, hl.2.1, fun q hq => hl.2.2 q (List.mem_cons_of_mem _ (List.mem_cons_of_mem _ hq))⟩
    ·
      refine lv_aload_n hx hb dL_law_895 rfl (lv_at hl 2 rfl) ?_
      refine lv_aload_n hx hb dL_law_896 rfl (lv_at hl 1 rfl) ?_
      refine lv_iload hx hb dL_law_897 (lv_at hl 0 rfl) ?_
      refine lv_iconst (v := (1)) hx hb dL_law_899 (by decide) ?_
      refine lv_iadd hx hb dL_law_900 ?_
      refine msld (v := nI (si)) (k := j + 1) hx hb hX hbl hbA hS (nI_add j 1) (by omega) (by omega) (y1) dL_law_901 ?_
      refine lv_aload_n hx hb dL_law_902 rfl (lv_at hl 1 rfl) ?_
      refine lv_iload hx hb dL_law_903 (lv_at hl 0 rfl) ?_
      refine lv_iconst (v := (2)) hx hb dL_law_905 (by decide) ?_
      refine lv_iadd hx hb dL_law_906 ?_
      refine msld (v := x2) (k := j + 2) hx hb hX hbl hbA hS (nI_add j 2) (by omega) (by omega) (y2) dL_law_907 ?_
      refine lv_aload_n hx hb dL_law_908 rfl (lv_at hl 4 rfl) ?_
      refine mcallSWi hw ⟨hx, hb, hml, hown, hts⟩ hS (x_X3_percentAt_2 hl0 hC hwf si hs x2 h2) (vx_cwSW 4 hts gL_law_L_percentAt rfl rfl rfl (by decide +kernel) ⟨Nat.le_of_ble_eq_true rfl, Nat.le_of_ble_eq_true rfl⟩) rfl hl.1 rfl (Nat.le_of_ble_eq_true rfl) dL_law_909 ⟨(by show cells + 1 ≤ 601024; omega), (by show slots + 6 ≤ 7293033; omega)⟩ (fun r9 V1 α1 H locs hq hw hS => ?_)
      obtain ⟨er, eu⟩ := hq
      subst er
      have e1 : V1 = V := congrArg Prod.fst eu
      have e2 : α1 = α := congrArg Prod.snd eu
      have hC1 : mC G V1 α1 f nr nw ns := by rw [e1, e2]; exact hC
      have h91 : V1 9 = _ := (congrFun e1 9).trans h9
      have hO : ∀ j, j < 100 → (10 ≤ j → V1 j = V j) ∧ α1 j = α j := fun j _ => ⟨fun _ => congrFun e1 j, congrFun e2 j⟩
      have hl : lv_has ls 7 [(4, .int (nI (j))), (0, .ref (b)), (1, .ref (α1 (0))), (2, .ref (α1 (10))), (3, .ref (α1 (9)))] := by rw [(hO 0 (by omega)).2, (hO 10 (by omega)).2, (hO 9 (by omega)).2]; exact hl
      have hM1 := hM.mvC (fun j h1 h2 => (hO j (by omega)).1 h1) (fun j hj => (hO j hj).2)
      refine lv_istore (lv' := [(5, .int (1)), (4, .int (nI (j))), (0, .ref (b)), (1, .ref (α1 (0))), (2, .ref (α1 (10))), (3, .ref (α1 (9)))]) hx hb dL_law_912 hl (by decide) rfl (fun ls hl => ?_)
      refine lv_aload_n hx hb dL_law_914 rfl (lv_at hl 4 rfl) ?_
      refine lv_aload_n hx hb dL_law_915 rfl (lv_at hl 2 rfl) ?_
      refine lv_iload hx hb dL_law_916 (lv_at hl 1 rfl) ?_
      refine lv_iconst (v := (1)) hx hb dL_law_918 (by decide) ?_
      refine lv_iadd hx hb dL_law_919 ?_
      refine msld (v := nI (si)) (k := j + 1) hx hb hX hbl hbA hS (nI_add j 1) (by omega) (by omega) (y1) dL_law_920 ?_
      refine lv_aload_n hx hb dL_law_921 rfl (lv_at hl 2 rfl) ?_
      refine lv_iload hx hb dL_law_922 (lv_at hl 1 rfl) ?_
      refine lv_iconst (v := (2)) hx hb dL_law_924 (by decide) ?_
      refine lv_iadd hx hb dL_law_925 ?_
      refine msld (v := x2) (k := j + 2) hx hb hX hbl hbA hS (nI_add j 2) (by omega) (by omega) (y2) dL_law_926 ?_
      refine mcallVw hw hM1.1 rfl rfl ⟨hx, hb, hml, hown, hts⟩ hS (c_X4_percentAt_2 hM1 si hs hns x2 h2) (cwV 2 hts gL_law_X4_percentAt rfl rfl rfl (by decide +kernel) ⟨Nat.le_of_ble_eq_true rfl, Nat.le_of_ble_eq_true rfl⟩) rfl hl.1 rfl (Nat.le_of_ble_eq_true rfl) dL_law_927 ⟨(by show cells + 1 + 0 ≤ 601024; omega), (by show slots + 6 + 0 ≤ 7293033; omega)⟩ (fun r8 V2 α2 H locs hq hw hS => ?_)
      obtain ⟨er, hM2, hP, eα⟩ := hq
      dsimp only at hM2 hP eα
      subst er
      subst eα
      have hC2 := hC1.mvM (fun j hj => hP j hj)
      have h92 := (hP 9 (by omega)).trans h91
      refine lv_istore (lv' := [(6, .int (0)), (5, .int (1)), (4, .int (nI (j))), (0, .ref (b)), (1, .ref (α1 (0))), (2, .ref (α1 (10))), (3, .ref (α1 (9)))]) hx hb dL_law_930 hl (by decide) rfl (fun ls hl => ?_)
      refine lv_aload_n hx hb dL_law_932 rfl (lv_at hl 5 rfl) ?_
      refine mcallVi hw hM2.1 rfl rfl ⟨hx, hb, hml, hown, hts⟩ (c_X4_thrown hM2) (cwV 0 hts gL_law_X4_thrown rfl rfl rfl (by decide +kernel) ⟨Nat.le_of_ble_eq_true rfl, Nat.le_of_ble_eq_true rfl⟩) rfl hl.1 rfl (Nat.le_of_ble_eq_true rfl) dL_law_933 ⟨(by show cells + 1 + 0 + 0 ≤ 601024; omega), (by show slots + 6 + 0 + 0 ≤ 7293033; omega)⟩ ?_
      refine lv_iload hx hb dL_law_936 (lv_at hl 1 rfl) ?_
      refine lv_icmp_eq (tgt := 943) hx hb dL_law_938 (by decide) (fun c4 => ?_) (fun z => absurd ((by decide)) z)
      refine lv_iload hx hb dL_law_943 (lv_at hl 1 rfl) ?_
      refine lv_if_ne (tgt := 960) hx hb dL_law_945 (by decide) (fun c5 => ?_) (fun z => absurd z ((by decide)))
      refine lv_goto (tgt := 1415) hx hb dL_law_960 (by decide) ?_
      refine W.widen (k := cells + 2) (n := slots + 210) (by omega) (by omega) ?_
      exact kk V2 α1 (f) nr nw ns 1 H locs ls ⟨hC2, hM2, hwf, ⟨_, h92⟩⟩ hw hS ⟨hl.1, hl.2.1, fun q hq => hl.2.2 q (List.mem_cons_of_mem _ (List.mem_cons_of_mem _ hq))⟩
  ·
    refine lv_aload_n hx hb dL_law_895 rfl (lv_at hl 2 rfl) ?_
    refine lv_aload_n hx hb dL_law_896 rfl (lv_at hl 1 rfl) ?_
    refine lv_iload hx hb dL_law_897 (lv_at hl 0 rfl) ?_
    refine lv_iconst (v := (1)) hx hb dL_law_899 (by decide) ?_
    refine lv_iadd hx hb dL_law_900 ?_
    refine msld (v := x1) (k := j + 1) hx hb hX hbl hbA hS (nI_add j 1) (by omega) (by omega) (y1) dL_law_901 ?_
    refine lv_aload_n hx hb dL_law_902 rfl (lv_at hl 1 rfl) ?_
    refine lv_iload hx hb dL_law_903 (lv_at hl 0 rfl) ?_
    refine lv_iconst (v := (2)) hx hb dL_law_905 (by decide) ?_
    refine lv_iadd hx hb dL_law_906 ?_
    refine msld (v := x2) (k := j + 2) hx hb hX hbl hbA hS (nI_add j 2) (by omega) (by omega) (y2) dL_law_907 ?_
    refine lv_aload_n hx hb dL_law_908 rfl (lv_at hl 4 rfl) ?_
    refine mcallSWi hw ⟨hx, hb, hml, hown, hts⟩ hS (x_X3_percentAt_1 hl0 hC hwf x1 h x2) (vx_cwSW 4 hts gL_law_L_percentAt rfl rfl rfl (by decide +kernel) ⟨Nat.le_of_ble_eq_true rfl, Nat.le_of_ble_eq_true rfl⟩) rfl hl.1 rfl (Nat.le_of_ble_eq_true rfl) dL_law_909 ⟨(by show cells + 1 ≤ 601024; omega), (by show slots + 6 ≤ 7293033; omega)⟩ (fun r9 V1 α1 H locs hq hw hS => ?_)
    obtain ⟨er, eu⟩ := hq
    subst er
    have e1 : V1 = V := congrArg Prod.fst eu
    have e2 : α1 = α := congrArg Prod.snd eu
    have hC1 : mC G V1 α1 f nr nw ns := by rw [e1, e2]; exact hC
    have h91 : V1 9 = _ := (congrFun e1 9).trans h9
    have hO : ∀ j, j < 100 → (10 ≤ j → V1 j = V j) ∧ α1 j = α j := fun j _ => ⟨fun _ => congrFun e1 j, congrFun e2 j⟩
    have hl : lv_has ls 7 [(4, .int (nI (j))), (0, .ref (b)), (1, .ref (α1 (0))), (2, .ref (α1 (10))), (3, .ref (α1 (9)))] := by rw [(hO 0 (by omega)).2, (hO 10 (by omega)).2, (hO 9 (by omega)).2]; exact hl
    have hM1 := hM.mvC (fun j h1 h2 => (hO j (by omega)).1 h1) (fun j hj => (hO j hj).2)
    refine lv_istore (lv' := [(5, .int (1)), (4, .int (nI (j))), (0, .ref (b)), (1, .ref (α1 (0))), (2, .ref (α1 (10))), (3, .ref (α1 (9)))]) hx hb dL_law_912 hl (by decide) rfl (fun ls hl => ?_)
    refine lv_aload_n hx hb dL_law_914 rfl (lv_at hl 4 rfl) ?_
    refine lv_aload_n hx hb dL_law_915 rfl (lv_at hl 2 rfl) ?_
    refine lv_iload hx hb dL_law_916 (lv_at hl 1 rfl) ?_
    refine lv_iconst (v := (1)) hx hb dL_law_918 (by decide) ?_
    refine lv_iadd hx hb dL_law_919 ?_
    refine msld (v := x1) (k := j + 1) hx hb hX hbl hbA hS (nI_add j 1) (by omega) (by omega) (y1) dL_law_920 ?_
    refine lv_aload_n hx hb dL_law_921 rfl (lv_at hl 2 rfl) ?_
    refine lv_iload hx hb dL_law_922 (lv_at hl 1 rfl) ?_
    refine lv_iconst (v := (2)) hx hb dL_law_924 (by decide) ?_
    refine lv_iadd hx hb dL_law_925 ?_
    refine msld (v := x2) (k := j + 2) hx hb hX hbl hbA hS (nI_add j 2) (by omega) (by omega) (y2) dL_law_926 ?_
    refine mcallVw hw hM1.1 rfl rfl ⟨hx, hb, hml, hown, hts⟩ hS (c_X4_percentAt_1 hM1 x1 h x2) (cwV 2 hts gL_law_X4_percentAt rfl rfl rfl (by decide +kernel) ⟨Nat.le_of_ble_eq_true rfl, Nat.le_of_ble_eq_true rfl⟩) rfl hl.1 rfl (Nat.le_of_ble_eq_true rfl) dL_law_927 ⟨(by show cells + 1 + 0 ≤ 601024; omega), (by show slots + 6 + 0 ≤ 7293033; omega)⟩ (fun r8 V2 α2 H locs hq hw hS => ?_)
    obtain ⟨er, hM2, hP, eα⟩ := hq
    dsimp only at hM2 hP eα
    subst er
    subst eα
    have hC2 := hC1.mvM (fun j hj => hP j hj)
    have h92 := (hP 9 (by omega)).trans h91
    refine lv_istore (lv' := [(6, .int (0)), (5, .int (1)), (4, .int (nI (j))), (0, .ref (b)), (1, .ref (α1 (0))), (2, .ref (α1 (10))), (3, .ref (α1 (9)))]) hx hb dL_law_930 hl (by decide) rfl (fun ls hl => ?_)
    refine lv_aload_n hx hb dL_law_932 rfl (lv_at hl 5 rfl) ?_
    refine mcallVi hw hM2.1 rfl rfl ⟨hx, hb, hml, hown, hts⟩ (c_X4_thrown hM2) (cwV 0 hts gL_law_X4_thrown rfl rfl rfl (by decide +kernel) ⟨Nat.le_of_ble_eq_true rfl, Nat.le_of_ble_eq_true rfl⟩) rfl hl.1 rfl (Nat.le_of_ble_eq_true rfl) dL_law_933 ⟨(by show cells + 1 + 0 + 0 ≤ 601024; omega), (by show slots + 6 + 0 + 0 ≤ 7293033; omega)⟩ ?_
    refine lv_iload hx hb dL_law_936 (lv_at hl 1 rfl) ?_
    refine lv_icmp_eq (tgt := 943) hx hb dL_law_938 (by decide) (fun c6 => ?_) (fun z => absurd ((by decide)) z)
    refine lv_iload hx hb dL_law_943 (lv_at hl 1 rfl) ?_
    refine lv_if_ne (tgt := 960) hx hb dL_law_945 (by decide) (fun c7 => ?_) (fun z => absurd z ((by decide)))
    refine lv_goto (tgt := 1415) hx hb dL_law_960 (by decide) ?_
    refine W.widen (k := cells + 2) (n := slots + 210) (by omega) (by omega) ?_
    exact kk V2 α1 (f) nr nw ns 1 H locs ls ⟨hC2, hM2, hwf, ⟨_, h92⟩⟩ hw hS ⟨hl.1, hl.2.1, fun q hq => hl.2.2 q (List.mem_cons_of_mem _ (List.mem_cons_of_mem _ hq))⟩

set_option maxHeartbeats 4000000 in
set_option maxRecDepth 100000 in
theorem op_reasonAt {p : Program} {l : Launch} {e : Env} {s : State} {m : MethodId} {args : Array Value} {below : List Frame} {meth : Method} {c : Code} {H : Heap} {locs : List Loc} {cells slots : Nat} {Q : State → Prop} {ls : Array Slot} {G : mG} {V : mV} {α : Nat → Nat} {f : sT} {nr nw ns : Nat} {th : Int32} {b L : Nat} {xs : Nat → Int32} {j : Nat} (hF : mFix p l s m args c G b L xs) (hj : j + 6 ≤ L) {x1 x2 x3 x4 x5 : Int32} (y1 : xs (j + 1) = x1) (y2 : xs (j + 2) = x2) (y3 : xs (j + 3) = x3) (y4 : xs (j + 4) = x4) (y5 : xs (j + 5) = x5) (hI : mI G V α f nr nw ns th) (hw : mW G V α s H) (hS : va_S (mfree G) s.heap H locs) (hc9 : cells + 2 ≤ 601024) (hs9 : slots + 210 ≤ 7293033) (hl : lv_has ls 7 [(4, .int (nI (j))), (0, .ref (b)), (1, .ref (α (0))), (2, .ref (α (10))), (3, .ref (α (9)))])
    (kk : ∀ (V1 : mV) (α1 : Nat → Nat) (f1 : sT) (nr1 nw1 ns1 : Nat) (th1 : Int32) (H1 : Heap) (locs1 : List Loc) (ls1 : Array Slot), mI G V1 α1 f1 nr1 nw1 ns1 th1 → mW G V1 α1 s H1 → va_S (mfree G) s.heap H1 locs1 → lv_has ls1 7 [(4, .int (nI (j))), (0, .ref (b)), (1, .ref (α1 (0))), (2, .ref (α1 (10))), (3, .ref (α1 (9)))] → W p l e room_1 s m args below meth c H1 locs1 (cells + 2) (slots + 210) Q (F0 m 1415 ls1 [])) : W p l e room_1 s m args below meth c H locs cells slots Q (F0 m 963 ls []) := by
  obtain ⟨hl0, hx, hb, hml, hown, hts, hX, hbl, hbA, hL⟩ := hF
  obtain ⟨hC, hM, hwf, g0, h9⟩ := hI
  obtain ⟨hnr, hnw, hns⟩ := hwf.1
  by_cases h : inn x1 0 (nI ns - 1)
  ·
    have hh := h
    obtain ⟨si, hs, rfl⟩ := ix_inn (by omega) hh
    obtain ⟨-, -, -, -, -, -, hN2, hN⟩ := hwf.sh si hs
    by_cases h2 : inn x2 0 (s_paid f si - 1)
    ·
      have hh2 := h2
      rw [hN] at hh2
      obtain ⟨q, hq, rfl⟩ := ix_inn (by omega) hh2
      refine lv_aload_n hx hb dL_law_963 rfl (lv_at hl 2 rfl) ?_
      refine lv_aload_n hx hb dL_law_964 rfl (lv_at hl 1 rfl) ?_
      refine lv_iload hx hb dL_law_965 (lv_at hl 0 rfl) ?_
      refine lv_iconst (v := (1)) hx hb dL_law_967 (by decide) ?_
      refine lv_iadd hx hb dL_law_968 ?_
      refine msld (v := nI (si)) (k := j + 1) hx hb hX hbl hbA hS (nI_add j 1) (by omega) (by omega) (y1) dL_law_969 ?_
      refine lv_aload_n hx hb dL_law_970 rfl (lv_at hl 1 rfl) ?_
      refine lv_iload hx hb dL_law_971 (lv_at hl 0 rfl) ?_
      refine lv_iconst (v := (2)) hx hb dL_law_973 (by decide) ?_
      refine lv_iadd hx hb dL_law_974 ?_
      refine msld (v := nI (q)) (k := j + 2) hx hb hX hbl hbA hS (nI_add j 2) (by omega) (by omega) (y2) dL_law_975 ?_
      refine lv_aload_n hx hb dL_law_976 rfl (lv_at hl 4 rfl) ?_
      refine mcallSWi hw ⟨hx, hb, hml, hown, hts⟩ hS (w_X3_reasonAt hC hwf si hs q hq h9) (vx_cwSW 4 hts gL_law_L_reasonAt rfl rfl rfl (by decide +kernel) ⟨Nat.le_of_ble_eq_true rfl, Nat.le_of_ble_eq_true rfl⟩) rfl hl.1 rfl (Nat.le_of_ble_eq_true rfl) dL_law_977 ⟨(by show cells + 0 ≤ 601024; omega), (by show slots + 0 ≤ 7293033; omega)⟩ (fun r9 V1 α1 H locs hq hw hS => ?_)
      obtain ⟨er, hC1, hO, g1, h91, hg1⟩ := hq
      dsimp only at hC1 hO h91
      subst er
      have hl : lv_has ls 7 [(4, .int (nI (j))), (0, .ref (b)), (1, .ref (α1 (0))), (2, .ref (α1 (10))), (3, .ref (α1 (9)))] := by rw [(hO 0 (by omega)).2, (hO 10 (by omega)).2, (hO 9 (by omega)).2]; exact hl
      have hM1 := hM.mvC (fun j h1 h2 => (hO j (by omega)).1 h1) (fun j hj => (hO j hj).2)
      refine lv_istore (lv' := [(5, .int (0)), (4, .int (nI (j))), (0, .ref (b)), (1, .ref (α1 (0))), (2, .ref (α1 (10))), (3, .ref (α1 (9)))]) hx hb dL_law_980 hl (by decide) rfl (fun ls hl => ?_)
      refine lv_aload_n hx hb dL_law_982 rfl (lv_at hl 4 rfl) ?_
      refine lv_aload_n hx hb dL_law_983 rfl (lv_at hl 2 rfl) ?_
      refine lv_iload hx hb dL_law_984 (lv_at hl 1 rfl) ?_
      refine lv_iconst (v := (1)) hx hb dL_law_986 (by decide) ?_
      refine lv_iadd hx hb dL_law_987 ?_
      refine msld (v := nI (si)) (k := j + 1) hx hb hX hbl hbA hS (nI_add j 1) (by omega) (by omega) (y1) dL_law_988 ?_
      refine lv_aload_n hx hb dL_law_989 rfl (lv_at hl 2 rfl) ?_
      refine lv_iload hx hb dL_law_990 (lv_at hl 1 rfl) ?_
      refine lv_iconst (v := (2)) hx hb dL_law_992 (by decide) ?_
      refine lv_iadd hx hb dL_law_993 ?_
      refine msld (v := nI (q)) (k := j + 2) hx hb hX hbl hbA hS (nI_add j 2) (by omega) (by omega) (y2) dL_law_994 ?_
      refine mcallVw hw hM1.1 rfl rfl ⟨hx, hb, hml, hown, hts⟩ hS (c_X4_reasonAt hM1 hwf si hs q (by omega) h2) (cwV 2 hts gL_law_X4_reasonAt rfl rfl rfl (by decide +kernel) ⟨Nat.le_of_ble_eq_true rfl, Nat.le_of_ble_eq_true rfl⟩) rfl hl.1 rfl (Nat.le_of_ble_eq_true rfl) dL_law_995 ⟨(by show cells + 0 + 0 ≤ 601024; omega), (by show slots + 0 + 0 ≤ 7293033; omega)⟩ (fun r8 V2 α2 H locs hq hw hS => ?_)
      obtain ⟨er, hM2, hP, eα⟩ := hq
      dsimp only at hM2 hP eα
      subst er
      subst eα
      have hC2 := hC1.mvM (fun j hj => hP j hj)
      have h92 := (hP 9 (by omega)).trans h91
      refine lv_istore (lv' := [(6, .int (s_R f nr (wN f si) (aN f si) q)), (5, .int (0)), (4, .int (nI (j))), (0, .ref (b)), (1, .ref (α1 (0))), (2, .ref (α1 (10))), (3, .ref (α1 (9)))]) hx hb dL_law_998 hl (by decide) rfl (fun ls hl => ?_)
      refine lv_aload_n hx hb dL_law_1000 rfl (lv_at hl 5 rfl) ?_
      refine mcallVi hw hM2.1 rfl rfl ⟨hx, hb, hml, hown, hts⟩ (c_X4_thrown hM2) (cwV 0 hts gL_law_X4_thrown rfl rfl rfl (by decide +kernel) ⟨Nat.le_of_ble_eq_true rfl, Nat.le_of_ble_eq_true rfl⟩) rfl hl.1 rfl (Nat.le_of_ble_eq_true rfl) dL_law_1001 ⟨(by show cells + 0 + 0 + 0 ≤ 601024; omega), (by show slots + 0 + 0 + 0 ≤ 7293033; omega)⟩ ?_
      refine lv_iload hx hb dL_law_1004 (lv_at hl 1 rfl) ?_
      refine lv_icmp_eq (tgt := 1011) hx hb dL_law_1006 (by decide) (fun c1 => ?_) (fun z => absurd ((by decide)) z)
      refine lv_iload hx hb dL_law_1011 (lv_at hl 1 rfl) ?_
      refine lv_if_ne (tgt := 1028) hx hb dL_law_1013 (by decide) (fun z => absurd ((by decide)) z) (fun c2 => ?_)
      refine lv_aload_n hx hb dL_law_1016 rfl (lv_at hl 6 rfl) ?_
      refine lv_iconst (v := (0)) hx hb dL_law_1017 (by decide) ?_
      refine mlald' (k := 0) hx hb hw h92 rfl (by omega) (by decide) dL_law_1018 ?_
      refine lv_iload hx hb dL_law_1019 (lv_at hl 0 rfl) ?_
      refine lv_i2l (v := (s_R f nr (wN f si) (aN f si) q).toInt64) hx hb dL_law_1021 rfl ?_
      refine lv_lcmp0 hx hb (hg1.symm) dL_law_1022 ?_
      refine lv_if_eq (tgt := 1028) hx hb dL_law_1023 (by decide) (fun c3 => ?_) (fun z => absurd ((by decide)) z)
      refine lv_goto (tgt := 1415) hx hb dL_law_1028 (by decide) ?_
      refine W.widen (k := cells + 2) (n := slots + 210) (by omega) (by omega) ?_
      exact kk V2 α1 (f) nr nw ns 0 H locs ls ⟨hC2, hM2, hwf, ⟨_, h92⟩⟩ hw hS ⟨hl.1, hl.2.1, fun q hq => hl.2.2 q (List.mem_cons_of_mem _ (List.mem_cons_of_mem _ hq))⟩
    ·
      refine lv_aload_n hx hb dL_law_963 rfl (lv_at hl 2 rfl) ?_
      refine lv_aload_n hx hb dL_law_964 rfl (lv_at hl 1 rfl) ?_
      refine lv_iload hx hb dL_law_965 (lv_at hl 0 rfl) ?_
      refine lv_iconst (v := (1)) hx hb dL_law_967 (by decide) ?_
      refine lv_iadd hx hb dL_law_968 ?_
      refine msld (v := nI (si)) (k := j + 1) hx hb hX hbl hbA hS (nI_add j 1) (by omega) (by omega) (y1) dL_law_969 ?_
      refine lv_aload_n hx hb dL_law_970 rfl (lv_at hl 1 rfl) ?_
      refine lv_iload hx hb dL_law_971 (lv_at hl 0 rfl) ?_
      refine lv_iconst (v := (2)) hx hb dL_law_973 (by decide) ?_
      refine lv_iadd hx hb dL_law_974 ?_
      refine msld (v := x2) (k := j + 2) hx hb hX hbl hbA hS (nI_add j 2) (by omega) (by omega) (y2) dL_law_975 ?_
      refine lv_aload_n hx hb dL_law_976 rfl (lv_at hl 4 rfl) ?_
      refine mcallSWi hw ⟨hx, hb, hml, hown, hts⟩ hS (x_X3_reasonAt_2 hl0 hC hwf si hs x2 h2) (vx_cwSW 4 hts gL_law_L_reasonAt rfl rfl rfl (by decide +kernel) ⟨Nat.le_of_ble_eq_true rfl, Nat.le_of_ble_eq_true rfl⟩) rfl hl.1 rfl (Nat.le_of_ble_eq_true rfl) dL_law_977 ⟨(by show cells + 1 ≤ 601024; omega), (by show slots + 6 ≤ 7293033; omega)⟩ (fun r9 V1 α1 H locs hq hw hS => ?_)
      obtain ⟨er, eu⟩ := hq
      subst er
      have e1 : V1 = V := congrArg Prod.fst eu
      have e2 : α1 = α := congrArg Prod.snd eu
      have hC1 : mC G V1 α1 f nr nw ns := by rw [e1, e2]; exact hC
      have h91 : V1 9 = _ := (congrFun e1 9).trans h9
      have hO : ∀ j, j < 100 → (10 ≤ j → V1 j = V j) ∧ α1 j = α j := fun j _ => ⟨fun _ => congrFun e1 j, congrFun e2 j⟩
      have hl : lv_has ls 7 [(4, .int (nI (j))), (0, .ref (b)), (1, .ref (α1 (0))), (2, .ref (α1 (10))), (3, .ref (α1 (9)))] := by rw [(hO 0 (by omega)).2, (hO 10 (by omega)).2, (hO 9 (by omega)).2]; exact hl
      have hM1 := hM.mvC (fun j h1 h2 => (hO j (by omega)).1 h1) (fun j hj => (hO j hj).2)
      refine lv_istore (lv' := [(5, .int (1)), (4, .int (nI (j))), (0, .ref (b)), (1, .ref (α1 (0))), (2, .ref (α1 (10))), (3, .ref (α1 (9)))]) hx hb dL_law_980 hl (by decide) rfl (fun ls hl => ?_)
      refine lv_aload_n hx hb dL_law_982 rfl (lv_at hl 4 rfl) ?_
      refine lv_aload_n hx hb dL_law_983 rfl (lv_at hl 2 rfl) ?_
      refine lv_iload hx hb dL_law_984 (lv_at hl 1 rfl) ?_
      refine lv_iconst (v := (1)) hx hb dL_law_986 (by decide) ?_
      refine lv_iadd hx hb dL_law_987 ?_
      refine msld (v := nI (si)) (k := j + 1) hx hb hX hbl hbA hS (nI_add j 1) (by omega) (by omega) (y1) dL_law_988 ?_
      refine lv_aload_n hx hb dL_law_989 rfl (lv_at hl 2 rfl) ?_
      refine lv_iload hx hb dL_law_990 (lv_at hl 1 rfl) ?_
      refine lv_iconst (v := (2)) hx hb dL_law_992 (by decide) ?_
      refine lv_iadd hx hb dL_law_993 ?_
      refine msld (v := x2) (k := j + 2) hx hb hX hbl hbA hS (nI_add j 2) (by omega) (by omega) (y2) dL_law_994 ?_
      refine mcallVw hw hM1.1 rfl rfl ⟨hx, hb, hml, hown, hts⟩ hS (c_X4_reasonAt_2 hM1 si hs hns x2 h2) (cwV 2 hts gL_law_X4_reasonAt rfl rfl rfl (by decide +kernel) ⟨Nat.le_of_ble_eq_true rfl, Nat.le_of_ble_eq_true rfl⟩) rfl hl.1 rfl (Nat.le_of_ble_eq_true rfl) dL_law_995 ⟨(by show cells + 1 + 0 ≤ 601024; omega), (by show slots + 6 + 0 ≤ 7293033; omega)⟩ (fun r8 V2 α2 H locs hq hw hS => ?_)
      obtain ⟨er, hM2, hP, eα⟩ := hq
      dsimp only at hM2 hP eα
      subst er
      subst eα
      have hC2 := hC1.mvM (fun j hj => hP j hj)
      have h92 := (hP 9 (by omega)).trans h91
      refine lv_istore (lv' := [(6, .int (0)), (5, .int (1)), (4, .int (nI (j))), (0, .ref (b)), (1, .ref (α1 (0))), (2, .ref (α1 (10))), (3, .ref (α1 (9)))]) hx hb dL_law_998 hl (by decide) rfl (fun ls hl => ?_)
      refine lv_aload_n hx hb dL_law_1000 rfl (lv_at hl 5 rfl) ?_
      refine mcallVi hw hM2.1 rfl rfl ⟨hx, hb, hml, hown, hts⟩ (c_X4_thrown hM2) (cwV 0 hts gL_law_X4_thrown rfl rfl rfl (by decide +kernel) ⟨Nat.le_of_ble_eq_true rfl, Nat.le_of_ble_eq_true rfl⟩) rfl hl.1 rfl (Nat.le_of_ble_eq_true rfl) dL_law_1001 ⟨(by show cells + 1 + 0 + 0 ≤ 601024; omega), (by show slots + 6 + 0 + 0 ≤ 7293033; omega)⟩ ?_
      refine lv_iload hx hb dL_law_1004 (lv_at hl 1 rfl) ?_
      refine lv_icmp_eq (tgt := 1011) hx hb dL_law_1006 (by decide) (fun c4 => ?_) (fun z => absurd ((by decide)) z)
      refine lv_iload hx hb dL_law_1011 (lv_at hl 1 rfl) ?_
      refine lv_if_ne (tgt := 1028) hx hb dL_law_1013 (by decide) (fun c5 => ?_) (fun z => absurd z ((by decide)))
      refine lv_goto (tgt := 1415) hx hb dL_law_1028 (by decide) ?_
      refine W.widen (k := cells + 2) (n := slots + 210) (by omega) (by omega) ?_
      exact kk V2 α1 (f) nr nw ns 1 H locs ls ⟨hC2, hM2, hwf, ⟨_, h92⟩⟩ hw hS ⟨hl.1, hl.2.1, fun q hq => hl.2.2 q (List.mem_cons_of_mem _ (List.mem_cons_of_mem _ hq))⟩
  ·
    refine lv_aload_n hx hb dL_law_963 rfl (lv_at hl 2 rfl) ?_
    refine lv_aload_n hx hb dL_law_964 rfl (lv_at hl 1 rfl) ?_
    refine lv_iload hx hb dL_law_965 (lv_at hl 0 rfl) ?_
    refine lv_iconst (v := (1)) hx hb dL_law_967 (by decide) ?_
    refine lv_iadd hx hb dL_law_968 ?_
    refine msld (v := x1) (k := j + 1) hx hb hX hbl hbA hS (nI_add j 1) (by omega) (by omega) (y1) dL_law_969 ?_
    refine lv_aload_n hx hb dL_law_970 rfl (lv_at hl 1 rfl) ?_
    refine lv_iload hx hb dL_law_971 (lv_at hl 0 rfl) ?_
    refine lv_iconst (v := (2)) hx hb dL_law_973 (by decide) ?_
    refine lv_iadd hx hb dL_law_974 ?_
    refine msld (v := x2) (k := j + 2) hx hb hX hbl hbA hS (nI_add j 2) (by omega) (by omega) (y2) dL_law_975 ?_
    refine lv_aload_n hx hb dL_law_976 rfl (lv_at hl 4 rfl) ?_
    refine mcallSWi hw ⟨hx, hb, hml, hown, hts⟩ hS (x_X3_reasonAt_1 hl0 hC hwf x1 h x2) (vx_cwSW 4 hts gL_law_L_reasonAt rfl rfl rfl (by decide +kernel) ⟨Nat.le_of_ble_eq_true rfl, Nat.le_of_ble_eq_true rfl⟩) rfl hl.1 rfl (Nat.le_of_ble_eq_true rfl) dL_law_977 ⟨(by show cells + 1 ≤ 601024; omega), (by show slots + 6 ≤ 7293033; omega)⟩ (fun r9 V1 α1 H locs hq hw hS => ?_)
    obtain ⟨er, eu⟩ := hq
    subst er
    have e1 : V1 = V := congrArg Prod.fst eu
    have e2 : α1 = α := congrArg Prod.snd eu
    have hC1 : mC G V1 α1 f nr nw ns := by rw [e1, e2]; exact hC
    have h91 : V1 9 = _ := (congrFun e1 9).trans h9
    have hO : ∀ j, j < 100 → (10 ≤ j → V1 j = V j) ∧ α1 j = α j := fun j _ => ⟨fun _ => congrFun e1 j, congrFun e2 j⟩
    have hl : lv_has ls 7 [(4, .int (nI (j))), (0, .ref (b)), (1, .ref (α1 (0))), (2, .ref (α1 (10))), (3, .ref (α1 (9)))] := by rw [(hO 0 (by omega)).2, (hO 10 (by omega)).2, (hO 9 (by omega)).2]; exact hl
    have hM1 := hM.mvC (fun j h1 h2 => (hO j (by omega)).1 h1) (fun j hj => (hO j hj).2)
    refine lv_istore (lv' := [(5, .int (1)), (4, .int (nI (j))), (0, .ref (b)), (1, .ref (α1 (0))), (2, .ref (α1 (10))), (3, .ref (α1 (9)))]) hx hb dL_law_980 hl (by decide) rfl (fun ls hl => ?_)
    refine lv_aload_n hx hb dL_law_982 rfl (lv_at hl 4 rfl) ?_
    refine lv_aload_n hx hb dL_law_983 rfl (lv_at hl 2 rfl) ?_
    refine lv_iload hx hb dL_law_984 (lv_at hl 1 rfl) ?_
    refine lv_iconst (v := (1)) hx hb dL_law_986 (by decide) ?_
    refine lv_iadd hx hb dL_law_987 ?_
    refine msld (v := x1) (k := j + 1) hx hb hX hbl hbA hS (nI_add j 1) (by omega) (by omega) (y1) dL_law_988 ?_
    refine lv_aload_n hx hb dL_law_989 rfl (lv_at hl 2 rfl) ?_
    refine lv_iload hx hb dL_law_990 (lv_at hl 1 rfl) ?_
    refine lv_iconst (v := (2)) hx hb dL_law_992 (by decide) ?_
    refine lv_iadd hx hb dL_law_993 ?_
    refine msld (v := x2) (k := j + 2) hx hb hX hbl hbA hS (nI_add j 2) (by omega) (by omega) (y2) dL_law_994 ?_
    refine mcallVw hw hM1.1 rfl rfl ⟨hx, hb, hml, hown, hts⟩ hS (c_X4_reasonAt_1 hM1 x1 h x2) (cwV 2 hts gL_law_X4_reasonAt rfl rfl rfl (by decide +kernel) ⟨Nat.le_of_ble_eq_true rfl, Nat.le_of_ble_eq_true rfl⟩) rfl hl.1 rfl (Nat.le_of_ble_eq_true rfl) dL_law_995 ⟨(by show cells + 1 + 0 ≤ 601024; omega), (by show slots + 6 + 0 ≤ 7293033; omega)⟩ (fun r8 V2 α2 H locs hq hw hS => ?_)
    obtain ⟨er, hM2, hP, eα⟩ := hq
    dsimp only at hM2 hP eα
    subst er
    subst eα
    have hC2 := hC1.mvM (fun j hj => hP j hj)
    have h92 := (hP 9 (by omega)).trans h91
    refine lv_istore (lv' := [(6, .int (0)), (5, .int (1)), (4, .int (nI (j))), (0, .ref (b)), (1, .ref (α1 (0))), (2, .ref (α1 (10))), (3, .ref (α1 (9)))]) hx hb dL_law_998 hl (by decide) rfl (fun ls hl => ?_)
    refine lv_aload_n hx hb dL_law_1000 rfl (lv_at hl 5 rfl) ?_
    refine mcallVi hw hM2.1 rfl rfl ⟨hx, hb, hml, hown, hts⟩ (c_X4_thrown hM2) (cwV 0 hts gL_law_X4_thrown rfl rfl rfl (by decide +kernel) ⟨Nat.le_of_ble_eq_true rfl, Nat.le_of_ble_eq_true rfl⟩) rfl hl.1 rfl (Nat.le_of_ble_eq_true rfl) dL_law_1001 ⟨(by show cells + 1 + 0 + 0 ≤ 601024; omega), (by show slots + 6 + 0 + 0 ≤ 7293033; omega)⟩ ?_
    refine lv_iload hx hb dL_law_1004 (lv_at hl 1 rfl) ?_
    refine lv_icmp_eq (tgt := 1011) hx hb dL_law_1006 (by decide) (fun c6 => ?_) (fun z => absurd ((by decide)) z)
    refine lv_iload hx hb dL_law_1011 (lv_at hl 1 rfl) ?_
    refine lv_if_ne (tgt := 1028) hx hb dL_law_1013 (by decide) (fun c7 => ?_) (fun z => absurd z ((by decide)))
    refine lv_goto (tgt := 1415) hx hb dL_law_1028 (by decide) ?_
    refine W.widen (k := cells + 2) (n := slots + 210) (by omega) (by omega) ?_
    exact kk V2 α1 (f) nr nw ns 1 H locs ls ⟨hC2, hM2, hwf, ⟨_, h92⟩⟩ hw hS ⟨hl.1, hl.2.1, fun q hq => hl.2.2 q (List.mem_cons_of_mem _ (List.mem_cons_of_mem _ hq))⟩

set_option maxHeartbeats 4000000 in
set_option maxRecDepth 100000 in
theorem op_payOf {p : Program} {l : Launch} {e : Env} {s : State} {m : MethodId} {args : Array Value} {below : List Frame} {meth : Method} {c : Code} {H : Heap} {locs : List Loc} {cells slots : Nat} {Q : State → Prop} {ls : Array Slot} {G : mG} {V : mV} {α : Nat → Nat} {f : sT} {nr nw ns : Nat} {th : Int32} {b L : Nat} {xs : Nat → Int32} {j : Nat} (hF : mFix p l s m args c G b L xs) (hj : j + 6 ≤ L) {x1 x2 x3 x4 x5 : Int32} (y1 : xs (j + 1) = x1) (y2 : xs (j + 2) = x2) (y3 : xs (j + 3) = x3) (y4 : xs (j + 4) = x4) (y5 : xs (j + 5) = x5) (hI : mI G V α f nr nw ns th) (hw : mW G V α s H) (hS : va_S (mfree G) s.heap H locs) (hc9 : cells + 2 ≤ 601024) (hs9 : slots + 210 ≤ 7293033) (hl : lv_has ls 7 [(4, .int (nI (j))), (0, .ref (b)), (1, .ref (α (0))), (2, .ref (α (10))), (3, .ref (α (9)))])
    (kk : ∀ (V1 : mV) (α1 : Nat → Nat) (f1 : sT) (nr1 nw1 ns1 : Nat) (th1 : Int32) (H1 : Heap) (locs1 : List Loc) (ls1 : Array Slot), mI G V1 α1 f1 nr1 nw1 ns1 th1 → mW G V1 α1 s H1 → va_S (mfree G) s.heap H1 locs1 → lv_has ls1 7 [(4, .int (nI (j))), (0, .ref (b)), (1, .ref (α1 (0))), (2, .ref (α1 (10))), (3, .ref (α1 (9)))] → W p l e room_1 s m args below meth c H1 locs1 (cells + 2) (slots + 210) Q (F0 m 1415 ls1 [])) : W p l e room_1 s m args below meth c H locs cells slots Q (F0 m 1143 ls []) := by
  obtain ⟨hl0, hx, hb, hml, hown, hts, hX, hbl, hbA, hL⟩ := hF
  obtain ⟨hC, hM, hwf, g0, h9⟩ := hI
  obtain ⟨hnr, hnw, hns⟩ := hwf.1
  by_cases h : inn x1 0 (nI nw - 1)
  ·
    have hh := h
    obtain ⟨k, hk, rfl⟩ := ix_inn (by omega) hh
    by_cases h2 : inn x2 0 363 ∧ inn x3 x2 363
    ·
      refine lv_aload_n hx hb dL_law_1143 rfl (lv_at hl 2 rfl) ?_
      refine lv_aload_n hx hb dL_law_1144 rfl (lv_at hl 1 rfl) ?_
      refine lv_iload hx hb dL_law_1145 (lv_at hl 0 rfl) ?_
      refine lv_iconst (v := (1)) hx hb dL_law_1147 (by decide) ?_
      refine lv_iadd hx hb dL_law_1148 ?_
      refine msld (v := nI (k)) (k := j + 1) hx hb hX hbl hbA hS (nI_add j 1) (by omega) (by omega) (y1) dL_law_1149 ?_
      refine lv_aload_n hx hb dL_law_1150 rfl (lv_at hl 1 rfl) ?_
      refine lv_iload hx hb dL_law_1151 (lv_at hl 0 rfl) ?_
      refine lv_iconst (v := (2)) hx hb dL_law_1153 (by decide) ?_
      refine lv_iadd hx hb dL_law_1154 ?_
      refine msld (v := x2) (k := j + 2) hx hb hX hbl hbA hS (nI_add j 2) (by omega) (by omega) (y2) dL_law_1155 ?_
      refine lv_aload_n hx hb dL_law_1156 rfl (lv_at hl 1 rfl) ?_
      refine lv_iload hx hb dL_law_1157 (lv_at hl 0 rfl) ?_
      refine lv_iconst (v := (3)) hx hb dL_law_1159 (by decide) ?_
      refine lv_iadd hx hb dL_law_1160 ?_
      refine msld (v := x3) (k := j + 3) hx hb hX hbl hbA hS (nI_add j 3) (by omega) (by omega) (y3) dL_law_1161 ?_
      refine lv_aload_n hx hb dL_law_1162 rfl (lv_at hl 4 rfl) ?_
      refine mcallSWi hw ⟨hx, hb, hml, hown, hts⟩ hS (w_X3_payOf hC hwf k hk x2 x3 h2.1 h2.2 h9) (vx_cwSW 5 hts gL_law_L_payOf rfl rfl rfl (by decide +kernel) ⟨Nat.le_of_ble_eq_true rfl, Nat.le_of_ble_eq_true rfl⟩) rfl hl.1 rfl (Nat.le_of_ble_eq_true rfl) dL_law_1163 ⟨(by show cells + 0 ≤ 601024; omega), (by show slots + 0 ≤ 7293033; omega)⟩ (fun r9 V1 α1 H locs hq hw hS => ?_)
      obtain ⟨er, hC1, hO, g1, h91, hg1⟩ := hq
      dsimp only at hC1 hO h91
      subst er
      have hl : lv_has ls 7 [(4, .int (nI (j))), (0, .ref (b)), (1, .ref (α1 (0))), (2, .ref (α1 (10))), (3, .ref (α1 (9)))] := by rw [(hO 0 (by omega)).2, (hO 10 (by omega)).2, (hO 9 (by omega)).2]; exact hl
      have hM1 := hM.mvC (fun j h1 h2 => (hO j (by omega)).1 h1) (fun j hj => (hO j hj).2)
      refine lv_istore (lv' := [(5, .int (0)), (4, .int (nI (j))), (0, .ref (b)), (1, .ref (α1 (0))), (2, .ref (α1 (10))), (3, .ref (α1 (9)))]) hx hb dL_law_1166 hl (by decide) rfl (fun ls hl => ?_)
      refine lv_aload_n hx hb dL_law_1168 rfl (lv_at hl 4 rfl) ?_
      refine lv_aload_n hx hb dL_law_1169 rfl (lv_at hl 2 rfl) ?_
      refine lv_iload hx hb dL_law_1170 (lv_at hl 1 rfl) ?_
      refine lv_iconst (v := (1)) hx hb dL_law_1172 (by decide) ?_
      refine lv_iadd hx hb dL_law_1173 ?_
      refine msld (v := nI (k)) (k := j + 1) hx hb hX hbl hbA hS (nI_add j 1) (by omega) (by omega) (y1) dL_law_1174 ?_
      refine lv_aload_n hx hb dL_law_1175 rfl (lv_at hl 2 rfl) ?_
      refine lv_iload hx hb dL_law_1176 (lv_at hl 1 rfl) ?_
      refine lv_iconst (v := (2)) hx hb dL_law_1178 (by decide) ?_
      refine lv_iadd hx hb dL_law_1179 ?_
      refine msld (v := x2) (k := j + 2) hx hb hX hbl hbA hS (nI_add j 2) (by omega) (by omega) (y2) dL_law_1180 ?_
      refine lv_aload_n hx hb dL_law_1181 rfl (lv_at hl 2 rfl) ?_
      refine lv_iload hx hb dL_law_1182 (lv_at hl 1 rfl) ?_
      refine lv_iconst (v := (3)) hx hb dL_law_1184 (by decide) ?_
      refine lv_iadd hx hb dL_law_1185 ?_
      refine msld (v := x3) (k := j + 3) hx hb hX hbl hbA hS (nI_add j 3) (by omega) (by omega) (y3) dL_law_1186 ?_
      refine mcallVw hw hM1.1 rfl rfl ⟨hx, hb, hml, hown, hts⟩ hS (c_X4_payOf hM1 hwf k hk x2 x3 h2.1 h2.2) (cwV 3 hts gL_law_X4_payOf rfl rfl rfl (by decide +kernel) ⟨Nat.le_of_ble_eq_true rfl, Nat.le_of_ble_eq_true rfl⟩) rfl hl.1 rfl (Nat.le_of_ble_eq_true rfl) dL_law_1187 ⟨(by show cells + 0 + 0 ≤ 601024; omega), (by show slots + 0 + 0 ≤ 7293033; omega)⟩ (fun r8 V2 α2 H locs hq hw hS => ?_)
      obtain ⟨er, hM2, hP, eα⟩ := hq
      dsimp only at hM2 hP eα
      subst er
      subst eα
      have hC2 := hC1.mvM (fun j hj => hP j hj)
      have h92 := (hP 9 (by omega)).trans h91
      refine lv_istore (lv' := [(6, .int (s_po f nr (nI k) x2 x3 ns)), (5, .int (0)), (4, .int (nI (j))), (0, .ref (b)), (1, .ref (α1 (0))), (2, .ref (α1 (10))), (3, .ref (α1 (9)))]) hx hb dL_law_1190 hl (by decide) rfl (fun ls hl => ?_)
      refine lv_aload_n hx hb dL_law_1192 rfl (lv_at hl 5 rfl) ?_
      refine mcallVi hw hM2.1 rfl rfl ⟨hx, hb, hml, hown, hts⟩ (c_X4_thrown hM2) (cwV 0 hts gL_law_X4_thrown rfl rfl rfl (by decide +kernel) ⟨Nat.le_of_ble_eq_true rfl, Nat.le_of_ble_eq_true rfl⟩) rfl hl.1 rfl (Nat.le_of_ble_eq_true rfl) dL_law_1193 ⟨(by show cells + 0 + 0 + 0 ≤ 601024; omega), (by show slots + 0 + 0 + 0 ≤ 7293033; omega)⟩ ?_
      refine lv_iload hx hb dL_law_1196 (lv_at hl 1 rfl) ?_
      refine lv_icmp_eq (tgt := 1203) hx hb dL_law_1198 (by decide) (fun c1 => ?_) (fun z => absurd ((by decide)) z)
      refine lv_iload hx hb dL_law_1203 (lv_at hl 1 rfl) ?_
      refine lv_if_ne (tgt := 1220) hx hb dL_law_1205 (by decide) (fun z => absurd ((by decide)) z) (fun c2 => ?_)
      refine lv_aload_n hx hb dL_law_1208 rfl (lv_at hl 6 rfl) ?_
      refine lv_iconst (v := (0)) hx hb dL_law_1209 (by decide) ?_
      refine mlald' (k := 0) hx hb hw h92 rfl (by omega) (by decide) dL_law_1210 ?_
      refine lv_iload hx hb dL_law_1211 (lv_at hl 0 rfl) ?_
      refine lv_i2l (v := (s_po f nr (nI k) x2 x3 ns).toInt64) hx hb dL_law_1213 rfl ?_
      refine lv_lcmp0 hx hb (hg1.symm) dL_law_1214 ?_
      refine lv_if_eq (tgt := 1220) hx hb dL_law_1215 (by decide) (fun c3 => ?_) (fun z => absurd ((by decide)) z)
      refine lv_goto (tgt := 1415) hx hb dL_law_1220 (by decide) ?_
      refine W.widen (k := cells + 2) (n := slots + 210) (by omega) (by omega) ?_
      exact kk V2 α1 (f) nr nw ns 0 H locs ls ⟨hC2, hM2, hwf, ⟨_, h92⟩⟩ hw hS ⟨hl.1, hl.2.1, fun q hq => hl.2.2 q (List.mem_cons_of_mem _ (List.mem_cons_of_mem _ hq))⟩
    ·
      refine lv_aload_n hx hb dL_law_1143 rfl (lv_at hl 2 rfl) ?_
      refine lv_aload_n hx hb dL_law_1144 rfl (lv_at hl 1 rfl) ?_
      refine lv_iload hx hb dL_law_1145 (lv_at hl 0 rfl) ?_
      refine lv_iconst (v := (1)) hx hb dL_law_1147 (by decide) ?_
      refine lv_iadd hx hb dL_law_1148 ?_
      refine msld (v := nI (k)) (k := j + 1) hx hb hX hbl hbA hS (nI_add j 1) (by omega) (by omega) (y1) dL_law_1149 ?_
      refine lv_aload_n hx hb dL_law_1150 rfl (lv_at hl 1 rfl) ?_
      refine lv_iload hx hb dL_law_1151 (lv_at hl 0 rfl) ?_
      refine lv_iconst (v := (2)) hx hb dL_law_1153 (by decide) ?_
      refine lv_iadd hx hb dL_law_1154 ?_
      refine msld (v := x2) (k := j + 2) hx hb hX hbl hbA hS (nI_add j 2) (by omega) (by omega) (y2) dL_law_1155 ?_
      refine lv_aload_n hx hb dL_law_1156 rfl (lv_at hl 1 rfl) ?_
      refine lv_iload hx hb dL_law_1157 (lv_at hl 0 rfl) ?_
      refine lv_iconst (v := (3)) hx hb dL_law_1159 (by decide) ?_
      refine lv_iadd hx hb dL_law_1160 ?_
      refine msld (v := x3) (k := j + 3) hx hb hX hbl hbA hS (nI_add j 3) (by omega) (by omega) (y3) dL_law_1161 ?_
      refine lv_aload_n hx hb dL_law_1162 rfl (lv_at hl 4 rfl) ?_
      refine mcallSWi hw ⟨hx, hb, hml, hown, hts⟩ hS (x_X3_payOf_2 hl0 hC hwf k hk x2 x3 h2) (vx_cwSW 5 hts gL_law_L_payOf rfl rfl rfl (by decide +kernel) ⟨Nat.le_of_ble_eq_true rfl, Nat.le_of_ble_eq_true rfl⟩) rfl hl.1 rfl (Nat.le_of_ble_eq_true rfl) dL_law_1163 ⟨(by show cells + 1 ≤ 601024; omega), (by show slots + 6 ≤ 7293033; omega)⟩ (fun r9 V1 α1 H locs hq hw hS => ?_)
      obtain ⟨er, eu⟩ := hq
      subst er
      have e1 : V1 = V := congrArg Prod.fst eu
      have e2 : α1 = α := congrArg Prod.snd eu
      have hC1 : mC G V1 α1 f nr nw ns := by rw [e1, e2]; exact hC
      have h91 : V1 9 = _ := (congrFun e1 9).trans h9
      have hO : ∀ j, j < 100 → (10 ≤ j → V1 j = V j) ∧ α1 j = α j := fun j _ => ⟨fun _ => congrFun e1 j, congrFun e2 j⟩
      have hl : lv_has ls 7 [(4, .int (nI (j))), (0, .ref (b)), (1, .ref (α1 (0))), (2, .ref (α1 (10))), (3, .ref (α1 (9)))] := by rw [(hO 0 (by omega)).2, (hO 10 (by omega)).2, (hO 9 (by omega)).2]; exact hl
      have hM1 := hM.mvC (fun j h1 h2 => (hO j (by omega)).1 h1) (fun j hj => (hO j hj).2)
      refine lv_istore (lv' := [(5, .int (2)), (4, .int (nI (j))), (0, .ref (b)), (1, .ref (α1 (0))), (2, .ref (α1 (10))), (3, .ref (α1 (9)))]) hx hb dL_law_1166 hl (by decide) rfl (fun ls hl => ?_)
      refine lv_aload_n hx hb dL_law_1168 rfl (lv_at hl 4 rfl) ?_
      refine lv_aload_n hx hb dL_law_1169 rfl (lv_at hl 2 rfl) ?_
      refine lv_iload hx hb dL_law_1170 (lv_at hl 1 rfl) ?_
      refine lv_iconst (v := (1)) hx hb dL_law_1172 (by decide) ?_
      refine lv_iadd hx hb dL_law_1173 ?_
      refine msld (v := nI (k)) (k := j + 1) hx hb hX hbl hbA hS (nI_add j 1) (by omega) (by omega) (y1) dL_law_1174 ?_
      refine lv_aload_n hx hb dL_law_1175 rfl (lv_at hl 2 rfl) ?_
      refine lv_iload hx hb dL_law_1176 (lv_at hl 1 rfl) ?_
      refine lv_iconst (v := (2)) hx hb dL_law_1178 (by decide) ?_
      refine lv_iadd hx hb dL_law_1179 ?_
      refine msld (v := x2) (k := j + 2) hx hb hX hbl hbA hS (nI_add j 2) (by omega) (by omega) (y2) dL_law_1180 ?_
      refine lv_aload_n hx hb dL_law_1181 rfl (lv_at hl 2 rfl) ?_
      refine lv_iload hx hb dL_law_1182 (lv_at hl 1 rfl) ?_
      refine lv_iconst (v := (3)) hx hb dL_law_1184 (by decide) ?_
      refine lv_iadd hx hb dL_law_1185 ?_
      refine msld (v := x3) (k := j + 3) hx hb hX hbl hbA hS (nI_add j 3) (by omega) (by omega) (y3) dL_law_1186 ?_
      refine mcallVw hw hM1.1 rfl rfl ⟨hx, hb, hml, hown, hts⟩ hS (c_X4_payOf_2 hM1 (nI k) x2 x3 h h2 hns) (cwV 3 hts gL_law_X4_payOf rfl rfl rfl (by decide +kernel) ⟨Nat.le_of_ble_eq_true rfl, Nat.le_of_ble_eq_true rfl⟩) rfl hl.1 rfl (Nat.le_of_ble_eq_true rfl) dL_law_1187 ⟨(by show cells + 1 + 0 ≤ 601024; omega), (by show slots + 6 + 0 ≤ 7293033; omega)⟩ (fun r8 V2 α2 H locs hq hw hS => ?_)
      obtain ⟨er, hM2, hP, eα⟩ := hq
      dsimp only at hM2 hP eα
      subst er
      subst eα
      have hC2 := hC1.mvM (fun j hj => hP j hj)
      have h92 := (hP 9 (by omega)).trans h91
      refine lv_istore (lv' := [(6, .int (0)), (5, .int (2)), (4, .int (nI (j))), (0, .ref (b)), (1, .ref (α1 (0))), (2, .ref (α1 (10))), (3, .ref (α1 (9)))]) hx hb dL_law_1190 hl (by decide) rfl (fun ls hl => ?_)
      refine lv_aload_n hx hb dL_law_1192 rfl (lv_at hl 5 rfl) ?_
      refine mcallVi hw hM2.1 rfl rfl ⟨hx, hb, hml, hown, hts⟩ (c_X4_thrown hM2) (cwV 0 hts gL_law_X4_thrown rfl rfl rfl (by decide +kernel) ⟨Nat.le_of_ble_eq_true rfl, Nat.le_of_ble_eq_true rfl⟩) rfl hl.1 rfl (Nat.le_of_ble_eq_true rfl) dL_law_1193 ⟨(by show cells + 1 + 0 + 0 ≤ 601024; omega), (by show slots + 6 + 0 + 0 ≤ 7293033; omega)⟩ ?_
      refine lv_iload hx hb dL_law_1196 (lv_at hl 1 rfl) ?_
      refine lv_icmp_eq (tgt := 1203) hx hb dL_law_1198 (by decide) (fun c4 => ?_) (fun z => absurd ((by decide)) z)
      refine lv_iload hx hb dL_law_1203 (lv_at hl 1 rfl) ?_
      refine lv_if_ne (tgt := 1220) hx hb dL_law_1205 (by decide) (fun c5 => ?_) (fun z => absurd z ((by decide)))
      refine lv_goto (tgt := 1415) hx hb dL_law_1220 (by decide) ?_
      refine W.widen (k := cells + 2) (n := slots + 210) (by omega) (by omega) ?_
      exact kk V2 α1 (f) nr nw ns 2 H locs ls ⟨hC2, hM2, hwf, ⟨_, h92⟩⟩ hw hS ⟨hl.1, hl.2.1, fun q hq => hl.2.2 q (List.mem_cons_of_mem _ (List.mem_cons_of_mem _ hq))⟩
  ·
    refine lv_aload_n hx hb dL_law_1143 rfl (lv_at hl 2 rfl) ?_
    refine lv_aload_n hx hb dL_law_1144 rfl (lv_at hl 1 rfl) ?_
    refine lv_iload hx hb dL_law_1145 (lv_at hl 0 rfl) ?_
    refine lv_iconst (v := (1)) hx hb dL_law_1147 (by decide) ?_
    refine lv_iadd hx hb dL_law_1148 ?_
    refine msld (v := x1) (k := j + 1) hx hb hX hbl hbA hS (nI_add j 1) (by omega) (by omega) (y1) dL_law_1149 ?_
    refine lv_aload_n hx hb dL_law_1150 rfl (lv_at hl 1 rfl) ?_
    refine lv_iload hx hb dL_law_1151 (lv_at hl 0 rfl) ?_
    refine lv_iconst (v := (2)) hx hb dL_law_1153 (by decide) ?_
    refine lv_iadd hx hb dL_law_1154 ?_
    refine msld (v := x2) (k := j + 2) hx hb hX hbl hbA hS (nI_add j 2) (by omega) (by omega) (y2) dL_law_1155 ?_
    refine lv_aload_n hx hb dL_law_1156 rfl (lv_at hl 1 rfl) ?_
    refine lv_iload hx hb dL_law_1157 (lv_at hl 0 rfl) ?_
    refine lv_iconst (v := (3)) hx hb dL_law_1159 (by decide) ?_
    refine lv_iadd hx hb dL_law_1160 ?_
    refine msld (v := x3) (k := j + 3) hx hb hX hbl hbA hS (nI_add j 3) (by omega) (by omega) (y3) dL_law_1161 ?_
    refine lv_aload_n hx hb dL_law_1162 rfl (lv_at hl 4 rfl) ?_
    refine mcallSWi hw ⟨hx, hb, hml, hown, hts⟩ hS (x_X3_payOf_1 hl0 hC hwf x1 x2 x3 h) (vx_cwSW 5 hts gL_law_L_payOf rfl rfl rfl (by decide +kernel) ⟨Nat.le_of_ble_eq_true rfl, Nat.le_of_ble_eq_true rfl⟩) rfl hl.1 rfl (Nat.le_of_ble_eq_true rfl) dL_law_1163 ⟨(by show cells + 1 ≤ 601024; omega), (by show slots + 6 ≤ 7293033; omega)⟩ (fun r9 V1 α1 H locs hq hw hS => ?_)
    obtain ⟨er, eu⟩ := hq
    subst er
    have e1 : V1 = V := congrArg Prod.fst eu
    have e2 : α1 = α := congrArg Prod.snd eu
    have hC1 : mC G V1 α1 f nr nw ns := by rw [e1, e2]; exact hC
    have h91 : V1 9 = _ := (congrFun e1 9).trans h9
    have hO : ∀ j, j < 100 → (10 ≤ j → V1 j = V j) ∧ α1 j = α j := fun j _ => ⟨fun _ => congrFun e1 j, congrFun e2 j⟩
    have hl : lv_has ls 7 [(4, .int (nI (j))), (0, .ref (b)), (1, .ref (α1 (0))), (2, .ref (α1 (10))), (3, .ref (α1 (9)))] := by rw [(hO 0 (by omega)).2, (hO 10 (by omega)).2, (hO 9 (by omega)).2]; exact hl
    have hM1 := hM.mvC (fun j h1 h2 => (hO j (by omega)).1 h1) (fun j hj => (hO j hj).2)
    refine lv_istore (lv' := [(5, .int (1)), (4, .int (nI (j))), (0, .ref (b)), (1, .ref (α1 (0))), (2, .ref (α1 (10))), (3, .ref (α1 (9)))]) hx hb dL_law_1166 hl (by decide) rfl (fun ls hl => ?_)
    refine lv_aload_n hx hb dL_law_1168 rfl (lv_at hl 4 rfl) ?_
    refine lv_aload_n hx hb dL_law_1169 rfl (lv_at hl 2 rfl) ?_
    refine lv_iload hx hb dL_law_1170 (lv_at hl 1 rfl) ?_
    refine lv_iconst (v := (1)) hx hb dL_law_1172 (by decide) ?_
    refine lv_iadd hx hb dL_law_1173 ?_
    refine msld (v := x1) (k := j + 1) hx hb hX hbl hbA hS (nI_add j 1) (by omega) (by omega) (y1) dL_law_1174 ?_
    refine lv_aload_n hx hb dL_law_1175 rfl (lv_at hl 2 rfl) ?_
    refine lv_iload hx hb dL_law_1176 (lv_at hl 1 rfl) ?_
    refine lv_iconst (v := (2)) hx hb dL_law_1178 (by decide) ?_
    refine lv_iadd hx hb dL_law_1179 ?_
    refine msld (v := x2) (k := j + 2) hx hb hX hbl hbA hS (nI_add j 2) (by omega) (by omega) (y2) dL_law_1180 ?_
    refine lv_aload_n hx hb dL_law_1181 rfl (lv_at hl 2 rfl) ?_
    refine lv_iload hx hb dL_law_1182 (lv_at hl 1 rfl) ?_
    refine lv_iconst (v := (3)) hx hb dL_law_1184 (by decide) ?_
    refine lv_iadd hx hb dL_law_1185 ?_
    refine msld (v := x3) (k := j + 3) hx hb hX hbl hbA hS (nI_add j 3) (by omega) (by omega) (y3) dL_law_1186 ?_
    refine mcallVw hw hM1.1 rfl rfl ⟨hx, hb, hml, hown, hts⟩ hS (c_X4_payOf_1 hM1 x1 x2 x3 h hns) (cwV 3 hts gL_law_X4_payOf rfl rfl rfl (by decide +kernel) ⟨Nat.le_of_ble_eq_true rfl, Nat.le_of_ble_eq_true rfl⟩) rfl hl.1 rfl (Nat.le_of_ble_eq_true rfl) dL_law_1187 ⟨(by show cells + 1 + 0 ≤ 601024; omega), (by show slots + 6 + 0 ≤ 7293033; omega)⟩ (fun r8 V2 α2 H locs hq hw hS => ?_)
    obtain ⟨er, hM2, hP, eα⟩ := hq
    dsimp only at hM2 hP eα
    subst er
    subst eα
    have hC2 := hC1.mvM (fun j hj => hP j hj)
    have h92 := (hP 9 (by omega)).trans h91
    refine lv_istore (lv' := [(6, .int (0)), (5, .int (1)), (4, .int (nI (j))), (0, .ref (b)), (1, .ref (α1 (0))), (2, .ref (α1 (10))), (3, .ref (α1 (9)))]) hx hb dL_law_1190 hl (by decide) rfl (fun ls hl => ?_)
    refine lv_aload_n hx hb dL_law_1192 rfl (lv_at hl 5 rfl) ?_
    refine mcallVi hw hM2.1 rfl rfl ⟨hx, hb, hml, hown, hts⟩ (c_X4_thrown hM2) (cwV 0 hts gL_law_X4_thrown rfl rfl rfl (by decide +kernel) ⟨Nat.le_of_ble_eq_true rfl, Nat.le_of_ble_eq_true rfl⟩) rfl hl.1 rfl (Nat.le_of_ble_eq_true rfl) dL_law_1193 ⟨(by show cells + 1 + 0 + 0 ≤ 601024; omega), (by show slots + 6 + 0 + 0 ≤ 7293033; omega)⟩ ?_
    refine lv_iload hx hb dL_law_1196 (lv_at hl 1 rfl) ?_
    refine lv_icmp_eq (tgt := 1203) hx hb dL_law_1198 (by decide) (fun c6 => ?_) (fun z => absurd ((by decide)) z)
    refine lv_iload hx hb dL_law_1203 (lv_at hl 1 rfl) ?_
    refine lv_if_ne (tgt := 1220) hx hb dL_law_1205 (by decide) (fun c7 => ?_) (fun z => absurd z ((by decide)))
    refine lv_goto (tgt := 1415) hx hb dL_law_1220 (by decide) ?_
    refine W.widen (k := cells + 2) (n := slots + 210) (by omega) (by omega) ?_
    exact kk V2 α1 (f) nr nw ns 1 H locs ls ⟨hC2, hM2, hwf, ⟨_, h92⟩⟩ hw hS ⟨hl.1, hl.2.1, fun q hq => hl.2.2 q (List.mem_cons_of_mem _ (List.mem_cons_of_mem _ hq))⟩

set_option maxHeartbeats 4000000 in
set_option maxRecDepth 100000 in
theorem op_paidBy {p : Program} {l : Launch} {e : Env} {s : State} {m : MethodId} {args : Array Value} {below : List Frame} {meth : Method} {c : Code} {H : Heap} {locs : List Loc} {cells slots : Nat} {Q : State → Prop} {ls : Array Slot} {G : mG} {V : mV} {α : Nat → Nat} {f : sT} {nr nw ns : Nat} {th : Int32} {b L : Nat} {xs : Nat → Int32} {j : Nat} (hF : mFix p l s m args c G b L xs) (hj : j + 6 ≤ L) {x1 x2 x3 x4 x5 : Int32} (y1 : xs (j + 1) = x1) (y2 : xs (j + 2) = x2) (y3 : xs (j + 3) = x3) (y4 : xs (j + 4) = x4) (y5 : xs (j + 5) = x5) (hI : mI G V α f nr nw ns th) (hw : mW G V α s H) (hS : va_S (mfree G) s.heap H locs) (hc9 : cells + 2 ≤ 601024) (hs9 : slots + 210 ≤ 7293033) (hl : lv_has ls 7 [(4, .int (nI (j))), (0, .ref (b)), (1, .ref (α (0))), (2, .ref (α (10))), (3, .ref (α (9)))])
    (kk : ∀ (V1 : mV) (α1 : Nat → Nat) (f1 : sT) (nr1 nw1 ns1 : Nat) (th1 : Int32) (H1 : Heap) (locs1 : List Loc) (ls1 : Array Slot), mI G V1 α1 f1 nr1 nw1 ns1 th1 → mW G V1 α1 s H1 → va_S (mfree G) s.heap H1 locs1 → lv_has ls1 7 [(4, .int (nI (j))), (0, .ref (b)), (1, .ref (α1 (0))), (2, .ref (α1 (10))), (3, .ref (α1 (9)))] → W p l e room_1 s m args below meth c H1 locs1 (cells + 2) (slots + 210) Q (F0 m 1415 ls1 [])) : W p l e room_1 s m args below meth c H locs cells slots Q (F0 m 1223 ls []) := by
  obtain ⟨hl0, hx, hb, hml, hown, hts, hX, hbl, hbA, hL⟩ := hF
  obtain ⟨hC, hM, hwf, g0, h9⟩ := hI
  obtain ⟨hnr, hnw, hns⟩ := hwf.1
  by_cases h : inn x1 0 (nI nr - 1)
  ·
    have hh := h
    obtain ⟨k, hk, rfl⟩ := ix_inn (by omega) hh
    refine lv_aload_n hx hb dL_law_1223 rfl (lv_at hl 2 rfl) ?_
    refine lv_aload_n hx hb dL_law_1224 rfl (lv_at hl 1 rfl) ?_
    refine lv_iload hx hb dL_law_1225 (lv_at hl 0 rfl) ?_
    refine lv_iconst (v := (1)) hx hb dL_law_1227 (by decide) ?_
    refine lv_iadd hx hb dL_law_1228 ?_
    refine msld (v := nI (k)) (k := j + 1) hx hb hX hbl hbA hS (nI_add j 1) (by omega) (by omega) (y1) dL_law_1229 ?_
    refine lv_aload_n hx hb dL_law_1230 rfl (lv_at hl 4 rfl) ?_
    refine mcallSWi hw ⟨hx, hb, hml, hown, hts⟩ hS (w_X3_paidBy hC hwf k hk h9) (vx_cwSW 3 hts gL_law_L_paidBy rfl rfl rfl (by decide +kernel) ⟨Nat.le_of_ble_eq_true rfl, Nat.le_of_ble_eq_true rfl⟩) rfl hl.1 rfl (Nat.le_of_ble_eq_true rfl) dL_law_1231 ⟨(by show cells + 0 ≤ 601024; omega), (by show slots + 0 ≤ 7293033; omega)⟩ (fun r9 V1 α1 H locs hq hw hS => ?_)
    obtain ⟨er, hC1, hO, g1, h91, hg1⟩ := hq
    dsimp only at hC1 hO h91
    subst er
    have hl : lv_has ls 7 [(4, .int (nI (j))), (0, .ref (b)), (1, .ref (α1 (0))), (2, .ref (α1 (10))), (3, .ref (α1 (9)))] := by rw [(hO 0 (by omega)).2, (hO 10 (by omega)).2, (hO 9 (by omega)).2]; exact hl
    have hM1 := hM.mvC (fun j h1 h2 => (hO j (by omega)).1 h1) (fun j hj => (hO j hj).2)
    refine lv_istore (lv' := [(5, .int (0)), (4, .int (nI (j))), (0, .ref (b)), (1, .ref (α1 (0))), (2, .ref (α1 (10))), (3, .ref (α1 (9)))]) hx hb dL_law_1234 hl (by decide) rfl (fun ls hl => ?_)
    refine lv_aload_n hx hb dL_law_1236 rfl (lv_at hl 4 rfl) ?_
    refine lv_aload_n hx hb dL_law_1237 rfl (lv_at hl 2 rfl) ?_
    refine lv_iload hx hb dL_law_1238 (lv_at hl 1 rfl) ?_
    refine lv_iconst (v := (1)) hx hb dL_law_1240 (by decide) ?_
    refine lv_iadd hx hb dL_law_1241 ?_
    refine msld (v := nI (k)) (k := j + 1) hx hb hX hbl hbA hS (nI_add j 1) (by omega) (by omega) (y1) dL_law_1242 ?_
    refine mcallVw hw hM1.1 rfl rfl ⟨hx, hb, hml, hown, hts⟩ hS (c_X4_paidBy hM1 hwf k hk) (cwV 1 hts gL_law_X4_paidBy rfl rfl rfl (by decide +kernel) ⟨Nat.le_of_ble_eq_true rfl, Nat.le_of_ble_eq_true rfl⟩) rfl hl.1 rfl (Nat.le_of_ble_eq_true rfl) dL_law_1243 ⟨(by show cells + 0 + 0 ≤ 601024; omega), (by show slots + 0 + 0 ≤ 7293033; omega)⟩ (fun r8 V2 α2 H locs hq hw hS => ?_)
    obtain ⟨er, hM2, hP, eα⟩ := hq
    dsimp only at hM2 hP eα
    subst er
    subst eα
    have hC2 := hC1.mvM (fun j hj => hP j hj)
    have h92 := (hP 9 (by omega)).trans h91
    refine lv_istore (lv' := [(6, .int (s_pb f nr (nI k) ns)), (5, .int (0)), (4, .int (nI (j))), (0, .ref (b)), (1, .ref (α1 (0))), (2, .ref (α1 (10))), (3, .ref (α1 (9)))]) hx hb dL_law_1246 hl (by decide) rfl (fun ls hl => ?_)
    refine lv_aload_n hx hb dL_law_1248 rfl (lv_at hl 5 rfl) ?_
    refine mcallVi hw hM2.1 rfl rfl ⟨hx, hb, hml, hown, hts⟩ (c_X4_thrown hM2) (cwV 0 hts gL_law_X4_thrown rfl rfl rfl (by decide +kernel) ⟨Nat.le_of_ble_eq_true rfl, Nat.le_of_ble_eq_true rfl⟩) rfl hl.1 rfl (Nat.le_of_ble_eq_true rfl) dL_law_1249 ⟨(by show cells + 0 + 0 + 0 ≤ 601024; omega), (by show slots + 0 + 0 + 0 ≤ 7293033; omega)⟩ ?_
    refine lv_iload hx hb dL_law_1252 (lv_at hl 1 rfl) ?_
    refine lv_icmp_eq (tgt := 1259) hx hb dL_law_1254 (by decide) (fun c1 => ?_) (fun z => absurd ((by decide)) z)
    refine lv_iload hx hb dL_law_1259 (lv_at hl 1 rfl) ?_
    refine lv_if_ne (tgt := 1276) hx hb dL_law_1261 (by decide) (fun z => absurd ((by decide)) z) (fun c2 => ?_)
    refine lv_aload_n hx hb dL_law_1264 rfl (lv_at hl 6 rfl) ?_
    refine lv_iconst (v := (0)) hx hb dL_law_1265 (by decide) ?_
    refine mlald' (k := 0) hx hb hw h92 rfl (by omega) (by decide) dL_law_1266 ?_
    refine lv_iload hx hb dL_law_1267 (lv_at hl 0 rfl) ?_
    refine lv_i2l (v := (s_pb f nr (nI k) ns).toInt64) hx hb dL_law_1269 rfl ?_
    refine lv_lcmp0 hx hb (hg1.symm) dL_law_1270 ?_
    refine lv_if_eq (tgt := 1276) hx hb dL_law_1271 (by decide) (fun c3 => ?_) (fun z => absurd ((by decide)) z)
    refine lv_goto (tgt := 1415) hx hb dL_law_1276 (by decide) ?_
    refine W.widen (k := cells + 2) (n := slots + 210) (by omega) (by omega) ?_
    exact kk V2 α1 (f) nr nw ns 0 H locs ls ⟨hC2, hM2, hwf, ⟨_, h92⟩⟩ hw hS ⟨hl.1, hl.2.1, fun q hq => hl.2.2 q (List.mem_cons_of_mem _ (List.mem_cons_of_mem _ hq))⟩
  ·
    refine lv_aload_n hx hb dL_law_1223 rfl (lv_at hl 2 rfl) ?_
    refine lv_aload_n hx hb dL_law_1224 rfl (lv_at hl 1 rfl) ?_
    refine lv_iload hx hb dL_law_1225 (lv_at hl 0 rfl) ?_
    refine lv_iconst (v := (1)) hx hb dL_law_1227 (by decide) ?_
    refine lv_iadd hx hb dL_law_1228 ?_
    refine msld (v := x1) (k := j + 1) hx hb hX hbl hbA hS (nI_add j 1) (by omega) (by omega) (y1) dL_law_1229 ?_
    refine lv_aload_n hx hb dL_law_1230 rfl (lv_at hl 4 rfl) ?_
    refine mcallSWi hw ⟨hx, hb, hml, hown, hts⟩ hS (x_X3_paidBy_1 hl0 hC hwf x1 h) (vx_cwSW 3 hts gL_law_L_paidBy rfl rfl rfl (by decide +kernel) ⟨Nat.le_of_ble_eq_true rfl, Nat.le_of_ble_eq_true rfl⟩) rfl hl.1 rfl (Nat.le_of_ble_eq_true rfl) dL_law_1231 ⟨(by show cells + 1 ≤ 601024; omega), (by show slots + 6 ≤ 7293033; omega)⟩ (fun r9 V1 α1 H locs hq hw hS => ?_)
    obtain ⟨er, eu⟩ := hq
    subst er
    have e1 : V1 = V := congrArg Prod.fst eu
    have e2 : α1 = α := congrArg Prod.snd eu
    have hC1 : mC G V1 α1 f nr nw ns := by rw [e1, e2]; exact hC
    have h91 : V1 9 = _ := (congrFun e1 9).trans h9
    have hO : ∀ j, j < 100 → (10 ≤ j → V1 j = V j) ∧ α1 j = α j := fun j _ => ⟨fun _ => congrFun e1 j, congrFun e2 j⟩
    have hl : lv_has ls 7 [(4, .int (nI (j))), (0, .ref (b)), (1, .ref (α1 (0))), (2, .ref (α1 (10))), (3, .ref (α1 (9)))] := by rw [(hO 0 (by omega)).2, (hO 10 (by omega)).2, (hO 9 (by omega)).2]; exact hl
    have hM1 := hM.mvC (fun j h1 h2 => (hO j (by omega)).1 h1) (fun j hj => (hO j hj).2)
    refine lv_istore (lv' := [(5, .int (1)), (4, .int (nI (j))), (0, .ref (b)), (1, .ref (α1 (0))), (2, .ref (α1 (10))), (3, .ref (α1 (9)))]) hx hb dL_law_1234 hl (by decide) rfl (fun ls hl => ?_)
    refine lv_aload_n hx hb dL_law_1236 rfl (lv_at hl 4 rfl) ?_
    refine lv_aload_n hx hb dL_law_1237 rfl (lv_at hl 2 rfl) ?_
    refine lv_iload hx hb dL_law_1238 (lv_at hl 1 rfl) ?_
    refine lv_iconst (v := (1)) hx hb dL_law_1240 (by decide) ?_
    refine lv_iadd hx hb dL_law_1241 ?_
    refine msld (v := x1) (k := j + 1) hx hb hX hbl hbA hS (nI_add j 1) (by omega) (by omega) (y1) dL_law_1242 ?_
    refine mcallVw hw hM1.1 rfl rfl ⟨hx, hb, hml, hown, hts⟩ hS (c_X4_paidBy_1 hM1 x1 h hns) (cwV 1 hts gL_law_X4_paidBy rfl rfl rfl (by decide +kernel) ⟨Nat.le_of_ble_eq_true rfl, Nat.le_of_ble_eq_true rfl⟩) rfl hl.1 rfl (Nat.le_of_ble_eq_true rfl) dL_law_1243 ⟨(by show cells + 1 + 0 ≤ 601024; omega), (by show slots + 6 + 0 ≤ 7293033; omega)⟩ (fun r8 V2 α2 H locs hq hw hS => ?_)
    obtain ⟨er, hM2, hP, eα⟩ := hq
    dsimp only at hM2 hP eα
    subst er
    subst eα
    have hC2 := hC1.mvM (fun j hj => hP j hj)
    have h92 := (hP 9 (by omega)).trans h91
    refine lv_istore (lv' := [(6, .int (0)), (5, .int (1)), (4, .int (nI (j))), (0, .ref (b)), (1, .ref (α1 (0))), (2, .ref (α1 (10))), (3, .ref (α1 (9)))]) hx hb dL_law_1246 hl (by decide) rfl (fun ls hl => ?_)
    refine lv_aload_n hx hb dL_law_1248 rfl (lv_at hl 5 rfl) ?_
    refine mcallVi hw hM2.1 rfl rfl ⟨hx, hb, hml, hown, hts⟩ (c_X4_thrown hM2) (cwV 0 hts gL_law_X4_thrown rfl rfl rfl (by decide +kernel) ⟨Nat.le_of_ble_eq_true rfl, Nat.le_of_ble_eq_true rfl⟩) rfl hl.1 rfl (Nat.le_of_ble_eq_true rfl) dL_law_1249 ⟨(by show cells + 1 + 0 + 0 ≤ 601024; omega), (by show slots + 6 + 0 + 0 ≤ 7293033; omega)⟩ ?_
    refine lv_iload hx hb dL_law_1252 (lv_at hl 1 rfl) ?_
    refine lv_icmp_eq (tgt := 1259) hx hb dL_law_1254 (by decide) (fun c4 => ?_) (fun z => absurd ((by decide)) z)
    refine lv_iload hx hb dL_law_1259 (lv_at hl 1 rfl) ?_
    refine lv_if_ne (tgt := 1276) hx hb dL_law_1261 (by decide) (fun c5 => ?_) (fun z => absurd z ((by decide)))
    refine lv_goto (tgt := 1415) hx hb dL_law_1276 (by decide) ?_
    refine W.widen (k := cells + 2) (n := slots + 210) (by omega) (by omega) ?_
    exact kk V2 α1 (f) nr nw ns 1 H locs ls ⟨hC2, hM2, hwf, ⟨_, h92⟩⟩ hw hS ⟨hl.1, hl.2.1, fun q hq => hl.2.2 q (List.mem_cons_of_mem _ (List.mem_cons_of_mem _ hq))⟩

set_option maxHeartbeats 4000000 in
set_option maxRecDepth 100000 in
theorem op_worked {p : Program} {l : Launch} {e : Env} {s : State} {m : MethodId} {args : Array Value} {below : List Frame} {meth : Method} {c : Code} {H : Heap} {locs : List Loc} {cells slots : Nat} {Q : State → Prop} {ls : Array Slot} {G : mG} {V : mV} {α : Nat → Nat} {f : sT} {nr nw ns : Nat} {th : Int32} {b L : Nat} {xs : Nat → Int32} {j : Nat} (hF : mFix p l s m args c G b L xs) (hj : j + 6 ≤ L) {x1 x2 x3 x4 x5 : Int32} (y1 : xs (j + 1) = x1) (y2 : xs (j + 2) = x2) (y3 : xs (j + 3) = x3) (y4 : xs (j + 4) = x4) (y5 : xs (j + 5) = x5) (hI : mI G V α f nr nw ns th) (hw : mW G V α s H) (hS : va_S (mfree G) s.heap H locs) (hc9 : cells + 2 ≤ 601024) (hs9 : slots + 210 ≤ 7293033) (hl : lv_has ls 7 [(4, .int (nI (j))), (0, .ref (b)), (1, .ref (α (0))), (2, .ref (α (10))), (3, .ref (α (9)))])
    (kk : ∀ (V1 : mV) (α1 : Nat → Nat) (f1 : sT) (nr1 nw1 ns1 : Nat) (th1 : Int32) (H1 : Heap) (locs1 : List Loc) (ls1 : Array Slot), mI G V1 α1 f1 nr1 nw1 ns1 th1 → mW G V1 α1 s H1 → va_S (mfree G) s.heap H1 locs1 → lv_has ls1 7 [(4, .int (nI (j))), (0, .ref (b)), (1, .ref (α1 (0))), (2, .ref (α1 (10))), (3, .ref (α1 (9)))] → W p l e room_1 s m args below meth c H1 locs1 (cells + 2) (slots + 210) Q (F0 m 1415 ls1 [])) : W p l e room_1 s m args below meth c H locs cells slots Q (F0 m 1279 ls []) := by
  obtain ⟨hl0, hx, hb, hml, hown, hts, hX, hbl, hbA, hL⟩ := hF
  obtain ⟨hC, hM, hwf, g0, h9⟩ := hI
  obtain ⟨hnr, hnw, hns⟩ := hwf.1
  by_cases h : inn x1 0 (nI nw - 1)
  ·
    have hh := h
    obtain ⟨k, hk, rfl⟩ := ix_inn (by omega) hh
    by_cases h2 : inn x2 0 51
    ·
      obtain ⟨z, hz, rfl⟩ := ixc (n := 52) (by decide) (by decide +kernel) h2
      refine lv_aload_n hx hb dL_law_1279 rfl (lv_at hl 2 rfl) ?_
      refine lv_aload_n hx hb dL_law_1280 rfl (lv_at hl 1 rfl) ?_
      refine lv_iload hx hb dL_law_1281 (lv_at hl 0 rfl) ?_
      refine lv_iconst (v := (1)) hx hb dL_law_1283 (by decide) ?_
      refine lv_iadd hx hb dL_law_1284 ?_
      refine msld (v := nI (k)) (k := j + 1) hx hb hX hbl hbA hS (nI_add j 1) (by omega) (by omega) (y1) dL_law_1285 ?_
      refine lv_aload_n hx hb dL_law_1286 rfl (lv_at hl 1 rfl) ?_
      refine lv_iload hx hb dL_law_1287 (lv_at hl 0 rfl) ?_
      refine lv_iconst (v := (2)) hx hb dL_law_1289 (by decide) ?_
      refine lv_iadd hx hb dL_law_1290 ?_
      refine msld (v := nI (z)) (k := j + 2) hx hb hX hbl hbA hS (nI_add j 2) (by omega) (by omega) (y2) dL_law_1291 ?_
      refine lv_aload_n hx hb dL_law_1292 rfl (lv_at hl 4 rfl) ?_
      refine mcallSWi hw ⟨hx, hb, hml, hown, hts⟩ hS (w_X3_worked hC hwf k z hk hz h9) (vx_cwSW 4 hts gL_law_L_worked rfl rfl rfl (by decide +kernel) ⟨Nat.le_of_ble_eq_true rfl, Nat.le_of_ble_eq_true rfl⟩) rfl hl.1 rfl (Nat.le_of_ble_eq_true rfl) dL_law_1293 ⟨(by show cells + 0 ≤ 601024; omega), (by show slots + 0 ≤ 7293033; omega)⟩ (fun r9 V1 α1 H locs hq hw hS => ?_)
      obtain ⟨er, hC1, hO, g1, h91, hg1⟩ := hq
      dsimp only at hC1 hO h91
      subst er
      have hl : lv_has ls 7 [(4, .int (nI (j))), (0, .ref (b)), (1, .ref (α1 (0))), (2, .ref (α1 (10))), (3, .ref (α1 (9)))] := by rw [(hO 0 (by omega)).2, (hO 10 (by omega)).2, (hO 9 (by omega)).2]; exact hl
      have hM1 := hM.mvC (fun j h1 h2 => (hO j (by omega)).1 h1) (fun j hj => (hO j hj).2)
      refine lv_istore (lv' := [(5, .int (0)), (4, .int (nI (j))), (0, .ref (b)), (1, .ref (α1 (0))), (2, .ref (α1 (10))), (3, .ref (α1 (9)))]) hx hb dL_law_1296 hl (by decide) rfl (fun ls hl => ?_)
      refine lv_aload_n hx hb dL_law_1298 rfl (lv_at hl 4 rfl) ?_
      refine lv_aload_n hx hb dL_law_1299 rfl (lv_at hl 2 rfl) ?_
      refine lv_iload hx hb dL_law_1300 (lv_at hl 1 rfl) ?_
      refine lv_iconst (v := (1)) hx hb dL_law_1302 (by decide) ?_
      refine lv_iadd hx hb dL_law_1303 ?_
      refine msld (v := nI (k)) (k := j + 1) hx hb hX hbl hbA hS (nI_add j 1) (by omega) (by omega) (y1) dL_law_1304 ?_
      refine lv_aload_n hx hb dL_law_1305 rfl (lv_at hl 2 rfl) ?_
      refine lv_iload hx hb dL_law_1306 (lv_at hl 1 rfl) ?_
      refine lv_iconst (v := (2)) hx hb dL_law_1308 (by decide) ?_
      refine lv_iadd hx hb dL_law_1309 ?_
      refine msld (v := nI (z)) (k := j + 2) hx hb hX hbl hbA hS (nI_add j 2) (by omega) (by omega) (y2) dL_law_1310 ?_
      refine mcallVw hw hM1.1 rfl rfl ⟨hx, hb, hml, hown, hts⟩ hS (c_X4_worked hM1 k z hk hz hnw hns) (cwV 2 hts gL_law_X4_worked rfl rfl rfl (by decide +kernel) ⟨Nat.le_of_ble_eq_true rfl, Nat.le_of_ble_eq_true rfl⟩) rfl hl.1 rfl (Nat.le_of_ble_eq_true rfl) dL_law_1311 ⟨(by show cells + 0 + 0 ≤ 601024; omega), (by show slots + 0 + 0 ≤ 7293033; omega)⟩ (fun r8 V2 α2 H locs hq hw hS => ?_)
      obtain ⟨er, hM2, hP, eα⟩ := hq
      dsimp only at hM2 hP eα
      subst er
      subst eα
      have hC2 := hC1.mvM (fun j hj => hP j hj)
      have h92 := (hP 9 (by omega)).trans h91
      refine lv_istore (lv' := [(6, .int (s_hr f (nI k) (nI (96 * (7 * z))) (nI (96 * (7 * z + 7))) ns)), (5, .int (0)), (4, .int (nI (j))), (0, .ref (b)), (1, .ref (α1 (0))), (2, .ref (α1 (10))), (3, .ref (α1 (9)))]) hx hb dL_law_1314 hl (by decide) rfl (fun ls hl => ?_)
      refine lv_aload_n hx hb dL_law_1316 rfl (lv_at hl 5 rfl) ?_
      refine mcallVi hw hM2.1 rfl rfl ⟨hx, hb, hml, hown, hts⟩ (c_X4_thrown hM2) (cwV 0 hts gL_law_X4_thrown rfl rfl rfl (by decide +kernel) ⟨Nat.le_of_ble_eq_true rfl, Nat.le_of_ble_eq_true rfl⟩) rfl hl.1 rfl (Nat.le_of_ble_eq_true rfl) dL_law_1317 ⟨(by show cells + 0 + 0 + 0 ≤ 601024; omega), (by show slots + 0 + 0 + 0 ≤ 7293033; omega)⟩ ?_
      refine lv_iload hx hb dL_law_1320 (lv_at hl 1 rfl) ?_
      refine lv_icmp_eq (tgt := 1327) hx hb dL_law_1322 (by decide) (fun c1 => ?_) (fun z => absurd ((by decide)) z)
      refine lv_iload hx hb dL_law_1327 (lv_at hl 1 rfl) ?_
      refine lv_if_ne (tgt := 1344) hx hb dL_law_1329 (by decide) (fun z => absurd ((by decide)) z) (fun c2 => ?_)
      refine lv_aload_n hx hb dL_law_1332 rfl (lv_at hl 6 rfl) ?_
      refine lv_iconst (v := (0)) hx hb dL_law_1333 (by decide) ?_
      refine mlald' (k := 0) hx hb hw h92 rfl (by omega) (by decide) dL_law_1334 ?_
      refine lv_iload hx hb dL_law_1335 (lv_at hl 0 rfl) ?_
      refine lv_i2l (v := (s_hr f (nI k) (nI (96 * (7 * z))) (nI (96 * (7 * z + 7))) ns).toInt64) hx hb dL_law_1337 rfl ?_
      refine lv_lcmp0 hx hb ((hg1.trans (congrArg Int32.toInt64 (wk_same hwf hk hz))).symm) dL_law_1338 ?_
      refine lv_if_eq (tgt := 1344) hx hb dL_law_1339 (by decide) (fun c3 => ?_) (fun z => absurd ((by decide)) z)
      refine lv_goto (tgt := 1415) hx hb dL_law_1344 (by decide) ?_
      refine W.widen (k := cells + 2) (n := slots + 210) (by omega) (by omega) ?_
      exact kk V2 α1 (f) nr nw ns 0 H locs ls ⟨hC2, hM2, hwf, ⟨_, h92⟩⟩ hw hS ⟨hl.1, hl.2.1, fun q hq => hl.2.2 q (List.mem_cons_of_mem _ (List.mem_cons_of_mem _ hq))⟩
    ·
      refine lv_aload_n hx hb dL_law_1279 rfl (lv_at hl 2 rfl) ?_
      refine lv_aload_n hx hb dL_law_1280 rfl (lv_at hl 1 rfl) ?_
      refine lv_iload hx hb dL_law_1281 (lv_at hl 0 rfl) ?_
      refine lv_iconst (v := (1)) hx hb dL_law_1283 (by decide) ?_
      refine lv_iadd hx hb dL_law_1284 ?_
      refine msld (v := nI (k)) (k := j + 1) hx hb hX hbl hbA hS (nI_add j 1) (by omega) (by omega) (y1) dL_law_1285 ?_
      refine lv_aload_n hx hb dL_law_1286 rfl (lv_at hl 1 rfl) ?_
      refine lv_iload hx hb dL_law_1287 (lv_at hl 0 rfl) ?_
      refine lv_iconst (v := (2)) hx hb dL_law_1289 (by decide) ?_
      refine lv_iadd hx hb dL_law_1290 ?_
      refine msld (v := x2) (k := j + 2) hx hb hX hbl hbA hS (nI_add j 2) (by omega) (by omega) (y2) dL_law_1291 ?_
      refine lv_aload_n hx hb dL_law_1292 rfl (lv_at hl 4 rfl) ?_
      refine mcallSWi hw ⟨hx, hb, hml, hown, hts⟩ hS (x_X3_worked_2 hl0 hC hwf k hk x2 h2) (vx_cwSW 4 hts gL_law_L_worked rfl rfl rfl (by decide +kernel) ⟨Nat.le_of_ble_eq_true rfl, Nat.le_of_ble_eq_true rfl⟩) rfl hl.1 rfl (Nat.le_of_ble_eq_true rfl) dL_law_1293 ⟨(by show cells + 1 ≤ 601024; omega), (by show slots + 6 ≤ 7293033; omega)⟩ (fun r9 V1 α1 H locs hq hw hS => ?_)
      obtain ⟨er, eu⟩ := hq
      subst er
      have e1 : V1 = V := congrArg Prod.fst eu
      have e2 : α1 = α := congrArg Prod.snd eu
      have hC1 : mC G V1 α1 f nr nw ns := by rw [e1, e2]; exact hC
      have h91 : V1 9 = _ := (congrFun e1 9).trans h9
      have hO : ∀ j, j < 100 → (10 ≤ j → V1 j = V j) ∧ α1 j = α j := fun j _ => ⟨fun _ => congrFun e1 j, congrFun e2 j⟩
      have hl : lv_has ls 7 [(4, .int (nI (j))), (0, .ref (b)), (1, .ref (α1 (0))), (2, .ref (α1 (10))), (3, .ref (α1 (9)))] := by rw [(hO 0 (by omega)).2, (hO 10 (by omega)).2, (hO 9 (by omega)).2]; exact hl
      have hM1 := hM.mvC (fun j h1 h2 => (hO j (by omega)).1 h1) (fun j hj => (hO j hj).2)
      refine lv_istore (lv' := [(5, .int (2)), (4, .int (nI (j))), (0, .ref (b)), (1, .ref (α1 (0))), (2, .ref (α1 (10))), (3, .ref (α1 (9)))]) hx hb dL_law_1296 hl (by decide) rfl (fun ls hl => ?_)
      refine lv_aload_n hx hb dL_law_1298 rfl (lv_at hl 4 rfl) ?_
      refine lv_aload_n hx hb dL_law_1299 rfl (lv_at hl 2 rfl) ?_
      refine lv_iload hx hb dL_law_1300 (lv_at hl 1 rfl) ?_
      refine lv_iconst (v := (1)) hx hb dL_law_1302 (by decide) ?_
      refine lv_iadd hx hb dL_law_1303 ?_
      refine msld (v := nI (k)) (k := j + 1) hx hb hX hbl hbA hS (nI_add j 1) (by omega) (by omega) (y1) dL_law_1304 ?_
      refine lv_aload_n hx hb dL_law_1305 rfl (lv_at hl 2 rfl) ?_
      refine lv_iload hx hb dL_law_1306 (lv_at hl 1 rfl) ?_
      refine lv_iconst (v := (2)) hx hb dL_law_1308 (by decide) ?_
      refine lv_iadd hx hb dL_law_1309 ?_
      refine msld (v := x2) (k := j + 2) hx hb hX hbl hbA hS (nI_add j 2) (by omega) (by omega) (y2) dL_law_1310 ?_
      refine mcallVw hw hM1.1 rfl rfl ⟨hx, hb, hml, hown, hts⟩ hS (c_X4_worked_2 hM1 (nI k) x2 h h2) (cwV 2 hts gL_law_X4_worked rfl rfl rfl (by decide +kernel) ⟨Nat.le_of_ble_eq_true rfl, Nat.le_of_ble_eq_true rfl⟩) rfl hl.1 rfl (Nat.le_of_ble_eq_true rfl) dL_law_1311 ⟨(by show cells + 1 + 0 ≤ 601024; omega), (by show slots + 6 + 0 ≤ 7293033; omega)⟩ (fun r8 V2 α2 H locs hq hw hS => ?_)
      obtain ⟨er, hM2, hP, eα⟩ := hq
      dsimp only at hM2 hP eα
      subst er
      subst eα
      have hC2 := hC1.mvM (fun j hj => hP j hj)
      have h92 := (hP 9 (by omega)).trans h91
      refine lv_istore (lv' := [(6, .int (0)), (5, .int (2)), (4, .int (nI (j))), (0, .ref (b)), (1, .ref (α1 (0))), (2, .ref (α1 (10))), (3, .ref (α1 (9)))]) hx hb dL_law_1314 hl (by decide) rfl (fun ls hl => ?_)
      refine lv_aload_n hx hb dL_law_1316 rfl (lv_at hl 5 rfl) ?_
      refine mcallVi hw hM2.1 rfl rfl ⟨hx, hb, hml, hown, hts⟩ (c_X4_thrown hM2) (cwV 0 hts gL_law_X4_thrown rfl rfl rfl (by decide +kernel) ⟨Nat.le_of_ble_eq_true rfl, Nat.le_of_ble_eq_true rfl⟩) rfl hl.1 rfl (Nat.le_of_ble_eq_true rfl) dL_law_1317 ⟨(by show cells + 1 + 0 + 0 ≤ 601024; omega), (by show slots + 6 + 0 + 0 ≤ 7293033; omega)⟩ ?_
      refine lv_iload hx hb dL_law_1320 (lv_at hl 1 rfl) ?_
      refine lv_icmp_eq (tgt := 1327) hx hb dL_law_1322 (by decide) (fun c4 => ?_) (fun z => absurd ((by decide)) z)
      refine lv_iload hx hb dL_law_1327 (lv_at hl 1 rfl) ?_
      refine lv_if_ne (tgt := 1344) hx hb dL_law_1329 (by decide) (fun c5 => ?_) (fun z => absurd z ((by decide)))
      refine lv_goto (tgt := 1415) hx hb dL_law_1344 (by decide) ?_
      refine W.widen (k := cells + 2) (n := slots + 210) (by omega) (by omega) ?_
      exact kk V2 α1 (f) nr nw ns 2 H locs ls ⟨hC2, hM2, hwf, ⟨_, h92⟩⟩ hw hS ⟨hl.1, hl.2.1, fun q hq => hl.2.2 q (List.mem_cons_of_mem _ (List.mem_cons_of_mem _ hq))⟩
  ·
    refine lv_aload_n hx hb dL_law_1279 rfl (lv_at hl 2 rfl) ?_
    refine lv_aload_n hx hb dL_law_1280 rfl (lv_at hl 1 rfl) ?_
    refine lv_iload hx hb dL_law_1281 (lv_at hl 0 rfl) ?_
    refine lv_iconst (v := (1)) hx hb dL_law_1283 (by decide) ?_
    refine lv_iadd hx hb dL_law_1284 ?_
    refine msld (v := x1) (k := j + 1) hx hb hX hbl hbA hS (nI_add j 1) (by omega) (by omega) (y1) dL_law_1285 ?_
    refine lv_aload_n hx hb dL_law_1286 rfl (lv_at hl 1 rfl) ?_
    refine lv_iload hx hb dL_law_1287 (lv_at hl 0 rfl) ?_
    refine lv_iconst (v := (2)) hx hb dL_law_1289 (by decide) ?_
    refine lv_iadd hx hb dL_law_1290 ?_
    refine msld (v := x2) (k := j + 2) hx hb hX hbl hbA hS (nI_add j 2) (by omega) (by omega) (y2) dL_law_1291 ?_
    refine lv_aload_n hx hb dL_law_1292 rfl (lv_at hl 4 rfl) ?_
    refine mcallSWi hw ⟨hx, hb, hml, hown, hts⟩ hS (x_X3_worked_1 hl0 hC hwf x1 x2 h) (vx_cwSW 4 hts gL_law_L_worked rfl rfl rfl (by decide +kernel) ⟨Nat.le_of_ble_eq_true rfl, Nat.le_of_ble_eq_true rfl⟩) rfl hl.1 rfl (Nat.le_of_ble_eq_true rfl) dL_law_1293 ⟨(by show cells + 1 ≤ 601024; omega), (by show slots + 6 ≤ 7293033; omega)⟩ (fun r9 V1 α1 H locs hq hw hS => ?_)
    obtain ⟨er, eu⟩ := hq
    subst er
    have e1 : V1 = V := congrArg Prod.fst eu
    have e2 : α1 = α := congrArg Prod.snd eu
    have hC1 : mC G V1 α1 f nr nw ns := by rw [e1, e2]; exact hC
    have h91 : V1 9 = _ := (congrFun e1 9).trans h9
    have hO : ∀ j, j < 100 → (10 ≤ j → V1 j = V j) ∧ α1 j = α j := fun j _ => ⟨fun _ => congrFun e1 j, congrFun e2 j⟩
    have hl : lv_has ls 7 [(4, .int (nI (j))), (0, .ref (b)), (1, .ref (α1 (0))), (2, .ref (α1 (10))), (3, .ref (α1 (9)))] := by rw [(hO 0 (by omega)).2, (hO 10 (by omega)).2, (hO 9 (by omega)).2]; exact hl
    have hM1 := hM.mvC (fun j h1 h2 => (hO j (by omega)).1 h1) (fun j hj => (hO j hj).2)
    refine lv_istore (lv' := [(5, .int (1)), (4, .int (nI (j))), (0, .ref (b)), (1, .ref (α1 (0))), (2, .ref (α1 (10))), (3, .ref (α1 (9)))]) hx hb dL_law_1296 hl (by decide) rfl (fun ls hl => ?_)
    refine lv_aload_n hx hb dL_law_1298 rfl (lv_at hl 4 rfl) ?_
    refine lv_aload_n hx hb dL_law_1299 rfl (lv_at hl 2 rfl) ?_
    refine lv_iload hx hb dL_law_1300 (lv_at hl 1 rfl) ?_
    refine lv_iconst (v := (1)) hx hb dL_law_1302 (by decide) ?_
    refine lv_iadd hx hb dL_law_1303 ?_
    refine msld (v := x1) (k := j + 1) hx hb hX hbl hbA hS (nI_add j 1) (by omega) (by omega) (y1) dL_law_1304 ?_
    refine lv_aload_n hx hb dL_law_1305 rfl (lv_at hl 2 rfl) ?_
    refine lv_iload hx hb dL_law_1306 (lv_at hl 1 rfl) ?_
    refine lv_iconst (v := (2)) hx hb dL_law_1308 (by decide) ?_
    refine lv_iadd hx hb dL_law_1309 ?_
    refine msld (v := x2) (k := j + 2) hx hb hX hbl hbA hS (nI_add j 2) (by omega) (by omega) (y2) dL_law_1310 ?_
    refine mcallVw hw hM1.1 rfl rfl ⟨hx, hb, hml, hown, hts⟩ hS (c_X4_worked_1 hM1 x1 x2 h) (cwV 2 hts gL_law_X4_worked rfl rfl rfl (by decide +kernel) ⟨Nat.le_of_ble_eq_true rfl, Nat.le_of_ble_eq_true rfl⟩) rfl hl.1 rfl (Nat.le_of_ble_eq_true rfl) dL_law_1311 ⟨(by show cells + 1 + 0 ≤ 601024; omega), (by show slots + 6 + 0 ≤ 7293033; omega)⟩ (fun r8 V2 α2 H locs hq hw hS => ?_)
    obtain ⟨er, hM2, hP, eα⟩ := hq
    dsimp only at hM2 hP eα
    subst er
    subst eα
    have hC2 := hC1.mvM (fun j hj => hP j hj)
    have h92 := (hP 9 (by omega)).trans h91
    refine lv_istore (lv' := [(6, .int (0)), (5, .int (1)), (4, .int (nI (j))), (0, .ref (b)), (1, .ref (α1 (0))), (2, .ref (α1 (10))), (3, .ref (α1 (9)))]) hx hb dL_law_1314 hl (by decide) rfl (fun ls hl => ?_)
    refine lv_aload_n hx hb dL_law_1316 rfl (lv_at hl 5 rfl) ?_
    refine mcallVi hw hM2.1 rfl rfl ⟨hx, hb, hml, hown, hts⟩ (c_X4_thrown hM2) (cwV 0 hts gL_law_X4_thrown rfl rfl rfl (by decide +kernel) ⟨Nat.le_of_ble_eq_true rfl, Nat.le_of_ble_eq_true rfl⟩) rfl hl.1 rfl (Nat.le_of_ble_eq_true rfl) dL_law_1317 ⟨(by show cells + 1 + 0 + 0 ≤ 601024; omega), (by show slots + 6 + 0 + 0 ≤ 7293033; omega)⟩ ?_
    refine lv_iload hx hb dL_law_1320 (lv_at hl 1 rfl) ?_
    refine lv_icmp_eq (tgt := 1327) hx hb dL_law_1322 (by decide) (fun c6 => ?_) (fun z => absurd ((by decide)) z)
    refine lv_iload hx hb dL_law_1327 (lv_at hl 1 rfl) ?_
    refine lv_if_ne (tgt := 1344) hx hb dL_law_1329 (by decide) (fun c7 => ?_) (fun z => absurd z ((by decide)))
    refine lv_goto (tgt := 1415) hx hb dL_law_1344 (by decide) ?_
    refine W.widen (k := cells + 2) (n := slots + 210) (by omega) (by omega) ?_
    exact kk V2 α1 (f) nr nw ns 1 H locs ls ⟨hC2, hM2, hwf, ⟨_, h92⟩⟩ hw hS ⟨hl.1, hl.2.1, fun q hq => hl.2.2 q (List.mem_cons_of_mem _ (List.mem_cons_of_mem _ hq))⟩

set_option maxHeartbeats 4000000 in
set_option maxRecDepth 100000 in
theorem op_excess {p : Program} {l : Launch} {e : Env} {s : State} {m : MethodId} {args : Array Value} {below : List Frame} {meth : Method} {c : Code} {H : Heap} {locs : List Loc} {cells slots : Nat} {Q : State → Prop} {ls : Array Slot} {G : mG} {V : mV} {α : Nat → Nat} {f : sT} {nr nw ns : Nat} {th : Int32} {b L : Nat} {xs : Nat → Int32} {j : Nat} (hF : mFix p l s m args c G b L xs) (hj : j + 6 ≤ L) {x1 x2 x3 x4 x5 : Int32} (y1 : xs (j + 1) = x1) (y2 : xs (j + 2) = x2) (y3 : xs (j + 3) = x3) (y4 : xs (j + 4) = x4) (y5 : xs (j + 5) = x5) (hI : mI G V α f nr nw ns th) (hw : mW G V α s H) (hS : va_S (mfree G) s.heap H locs) (hc9 : cells + 2 ≤ 601024) (hs9 : slots + 210 ≤ 7293033) (hl : lv_has ls 7 [(4, .int (nI (j))), (0, .ref (b)), (1, .ref (α (0))), (2, .ref (α (10))), (3, .ref (α (9)))])
    (kk : ∀ (V1 : mV) (α1 : Nat → Nat) (f1 : sT) (nr1 nw1 ns1 : Nat) (th1 : Int32) (H1 : Heap) (locs1 : List Loc) (ls1 : Array Slot), mI G V1 α1 f1 nr1 nw1 ns1 th1 → mW G V1 α1 s H1 → va_S (mfree G) s.heap H1 locs1 → lv_has ls1 7 [(4, .int (nI (j))), (0, .ref (b)), (1, .ref (α1 (0))), (2, .ref (α1 (10))), (3, .ref (α1 (9)))] → W p l e room_1 s m args below meth c H1 locs1 (cells + 2) (slots + 210) Q (F0 m 1415 ls1 [])) : W p l e room_1 s m args below meth c H locs cells slots Q (F0 m 1347 ls []) := by
  obtain ⟨hl0, hx, hb, hml, hown, hts, hX, hbl, hbA, hL⟩ := hF
  obtain ⟨hC, hM, hwf, g0, h9⟩ := hI
  obtain ⟨hnr, hnw, hns⟩ := hwf.1
  by_cases h : inn x1 0 (nI nw - 1)
  ·
    have hh := h
    obtain ⟨k, hk, rfl⟩ := ix_inn (by omega) hh
    by_cases h2 : inn x2 0 12
    ·
      obtain ⟨z, hz, rfl⟩ := ixc (n := 13) (by decide) (by decide +kernel) h2
      refine lv_aload_n hx hb dL_law_1347 rfl (lv_at hl 2 rfl) ?_
      refine lv_aload_n hx hb dL_law_1348 rfl (lv_at hl 1 rfl) ?_
      refine lv_iload hx hb dL_law_1349 (lv_at hl 0 rfl) ?_
      refine lv_iconst (v := (1)) hx hb dL_law_1351 (by decide) ?_
      refine lv_iadd hx hb dL_law_1352 ?_
      refine msld (v := nI (k)) (k := j + 1) hx hb hX hbl hbA hS (nI_add j 1) (by omega) (by omega) (y1) dL_law_1353 ?_
      refine lv_aload_n hx hb dL_law_1354 rfl (lv_at hl 1 rfl) ?_
      refine lv_iload hx hb dL_law_1355 (lv_at hl 0 rfl) ?_
      refine lv_iconst (v := (2)) hx hb dL_law_1357 (by decide) ?_
      refine lv_iadd hx hb dL_law_1358 ?_
      refine msld (v := nI (z)) (k := j + 2) hx hb hX hbl hbA hS (nI_add j 2) (by omega) (by omega) (y2) dL_law_1359 ?_
      refine lv_aload_n hx hb dL_law_1360 rfl (lv_at hl 4 rfl) ?_
      refine mcallSWi hw ⟨hx, hb, hml, hown, hts⟩ hS (w_X3_excess hC hwf k z hk hz h9) (vx_cwSW 4 hts gL_law_L_excess rfl rfl rfl (by decide +kernel) ⟨Nat.le_of_ble_eq_true rfl, Nat.le_of_ble_eq_true rfl⟩) rfl hl.1 rfl (Nat.le_of_ble_eq_true rfl) dL_law_1361 ⟨(by show cells + 0 ≤ 601024; omega), (by show slots + 0 ≤ 7293033; omega)⟩ (fun r9 V1 α1 H locs hq hw hS => ?_)
      obtain ⟨er, hC1, hO, g1, h91, hg1⟩ := hq
      dsimp only at hC1 hO h91
      subst er
      have hl : lv_has ls 7 [(4, .int (nI (j))), (0, .ref (b)), (1, .ref (α1 (0))), (2, .ref (α1 (10))), (3, .ref (α1 (9)))] := by rw [(hO 0 (by omega)).2, (hO 10 (by omega)).2, (hO 9 (by omega)).2]; exact hl
      have hM1 := hM.mvC (fun j h1 h2 => (hO j (by omega)).1 h1) (fun j hj => (hO j hj).2)
      refine lv_istore (lv' := [(5, .int (0)), (4, .int (nI (j))), (0, .ref (b)), (1, .ref (α1 (0))), (2, .ref (α1 (10))), (3, .ref (α1 (9)))]) hx hb dL_law_1364 hl (by decide) rfl (fun ls hl => ?_)
      refine lv_aload_n hx hb dL_law_1366 rfl (lv_at hl 4 rfl) ?_
      refine lv_aload_n hx hb dL_law_1367 rfl (lv_at hl 2 rfl) ?_
      refine lv_iload hx hb dL_law_1368 (lv_at hl 1 rfl) ?_
      refine lv_iconst (v := (1)) hx hb dL_law_1370 (by decide) ?_
      refine lv_iadd hx hb dL_law_1371 ?_
      refine msld (v := nI (k)) (k := j + 1) hx hb hX hbl hbA hS (nI_add j 1) (by omega) (by omega) (y1) dL_law_1372 ?_
      refine lv_aload_n hx hb dL_law_1373 rfl (lv_at hl 2 rfl) ?_
      refine lv_iload hx hb dL_law_1374 (lv_at hl 1 rfl) ?_
      refine lv_iconst (v := (2)) hx hb dL_law_1376 (by decide) ?_
      refine lv_iadd hx hb dL_law_1377 ?_
      refine msld (v := nI (z)) (k := j + 2) hx hb hX hbl hbA hS (nI_add j 2) (by omega) (by omega) (y2) dL_law_1378 ?_
      refine mcallVw hw hM1.1 rfl rfl ⟨hx, hb, hml, hown, hts⟩ hS (c_X4_excess hM1 k z hk hz hnw hns) (cwV 2 hts gL_law_X4_excess rfl rfl rfl (by decide +kernel) ⟨Nat.le_of_ble_eq_true rfl, Nat.le_of_ble_eq_true rfl⟩) rfl hl.1 rfl (Nat.le_of_ble_eq_true rfl) dL_law_1379 ⟨(by show cells + 0 + 0 ≤ 601024; omega), (by show slots + 0 + 0 ≤ 7293033; omega)⟩ (fun r8 V2 α2 H locs hq hw hS => ?_)
      obtain ⟨er, hM2, hP, eα⟩ := hq
      dsimp only at hM2 hP eα
      subst er
      subst eα
      have hC2 := hC1.mvM (fun j hj => hP j hj)
      have h92 := (hP 9 (by omega)).trans h91
      refine lv_istore (lv' := [(6, .int (s_ex (s_hr f (nI k) (nI (96 * (28 * z))) (nI (96 * (28 * z + 28))) ns - 608))), (5, .int (0)), (4, .int (nI (j))), (0, .ref (b)), (1, .ref (α1 (0))), (2, .ref (α1 (10))), (3, .ref (α1 (9)))]) hx hb dL_law_1382 hl (by decide) rfl (fun ls hl => ?_)
      refine lv_aload_n hx hb dL_law_1384 rfl (lv_at hl 5 rfl) ?_
      refine mcallVi hw hM2.1 rfl rfl ⟨hx, hb, hml, hown, hts⟩ (c_X4_thrown hM2) (cwV 0 hts gL_law_X4_thrown rfl rfl rfl (by decide +kernel) ⟨Nat.le_of_ble_eq_true rfl, Nat.le_of_ble_eq_true rfl⟩) rfl hl.1 rfl (Nat.le_of_ble_eq_true rfl) dL_law_1385 ⟨(by show cells + 0 + 0 + 0 ≤ 601024; omega), (by show slots + 0 + 0 + 0 ≤ 7293033; omega)⟩ ?_
      refine lv_iload hx hb dL_law_1388 (lv_at hl 1 rfl) ?_
      refine lv_icmp_eq (tgt := 1395) hx hb dL_law_1390 (by decide) (fun c1 => ?_) (fun z => absurd ((by decide)) z)
      refine lv_iload hx hb dL_law_1395 (lv_at hl 1 rfl) ?_
      refine lv_if_ne (tgt := 1412) hx hb dL_law_1397 (by decide) (fun z => absurd ((by decide)) z) (fun c2 => ?_)
      refine lv_aload_n hx hb dL_law_1400 rfl (lv_at hl 6 rfl) ?_
      refine lv_iconst (v := (0)) hx hb dL_law_1401 (by decide) ?_
      refine mlald' (k := 0) hx hb hw h92 rfl (by omega) (by decide) dL_law_1402 ?_
      refine lv_iload hx hb dL_law_1403 (lv_at hl 0 rfl) ?_
      refine lv_i2l (v := (s_ex (s_hr f (nI k) (nI (96 * (28 * z))) (nI (96 * (28 * z + 28))) ns - 608)).toInt64) hx hb dL_law_1405 rfl ?_
      refine lv_lcmp0 hx hb ((hg1.trans (congrArg Int32.toInt64 (exc_same hwf hk hz))).symm) dL_law_1406 ?_
      refine lv_if_eq (tgt := 1412) hx hb dL_law_1407 (by decide) (fun c3 => ?_) (fun z => absurd ((by decide)) z)
      refine lv_goto (tgt := 1415) hx hb dL_law_1412 (by decide) ?_
      refine W.widen (k := cells + 2) (n := slots + 210) (by omega) (by omega) ?_
      exact kk V2 α1 (f) nr nw ns 0 H locs ls ⟨hC2, hM2, hwf, ⟨_, h92⟩⟩ hw hS ⟨hl.1, hl.2.1, fun q hq => hl.2.2 q (List.mem_cons_of_mem _ (List.mem_cons_of_mem _ hq))⟩
    ·
      refine lv_aload_n hx hb dL_law_1347 rfl (lv_at hl 2 rfl) ?_
      refine lv_aload_n hx hb dL_law_1348 rfl (lv_at hl 1 rfl) ?_
      refine lv_iload hx hb dL_law_1349 (lv_at hl 0 rfl) ?_
      refine lv_iconst (v := (1)) hx hb dL_law_1351 (by decide) ?_
      refine lv_iadd hx hb dL_law_1352 ?_
      refine msld (v := nI (k)) (k := j + 1) hx hb hX hbl hbA hS (nI_add j 1) (by omega) (by omega) (y1) dL_law_1353 ?_
      refine lv_aload_n hx hb dL_law_1354 rfl (lv_at hl 1 rfl) ?_
      refine lv_iload hx hb dL_law_1355 (lv_at hl 0 rfl) ?_
      refine lv_iconst (v := (2)) hx hb dL_law_1357 (by decide) ?_
      refine lv_iadd hx hb dL_law_1358 ?_
      refine msld (v := x2) (k := j + 2) hx hb hX hbl hbA hS (nI_add j 2) (by omega) (by omega) (y2) dL_law_1359 ?_
      refine lv_aload_n hx hb dL_law_1360 rfl (lv_at hl 4 rfl) ?_
      refine mcallSWi hw ⟨hx, hb, hml, hown, hts⟩ hS (x_X3_excess_2 hl0 hC hwf k hk x2 h2) (vx_cwSW 4 hts gL_law_L_excess rfl rfl rfl (by decide +kernel) ⟨Nat.le_of_ble_eq_true rfl, Nat.le_of_ble_eq_true rfl⟩) rfl hl.1 rfl (Nat.le_of_ble_eq_true rfl) dL_law_1361 ⟨(by show cells + 1 ≤ 601024; omega), (by show slots + 6 ≤ 7293033; omega)⟩ (fun r9 V1 α1 H locs hq hw hS => ?_)
      obtain ⟨er, eu⟩ := hq
      subst er
      have e1 : V1 = V := congrArg Prod.fst eu
      have e2 : α1 = α := congrArg Prod.snd eu
      have hC1 : mC G V1 α1 f nr nw ns := by rw [e1, e2]; exact hC
      have h91 : V1 9 = _ := (congrFun e1 9).trans h9
      have hO : ∀ j, j < 100 → (10 ≤ j → V1 j = V j) ∧ α1 j = α j := fun j _ => ⟨fun _ => congrFun e1 j, congrFun e2 j⟩
      have hl : lv_has ls 7 [(4, .int (nI (j))), (0, .ref (b)), (1, .ref (α1 (0))), (2, .ref (α1 (10))), (3, .ref (α1 (9)))] := by rw [(hO 0 (by omega)).2, (hO 10 (by omega)).2, (hO 9 (by omega)).2]; exact hl
      have hM1 := hM.mvC (fun j h1 h2 => (hO j (by omega)).1 h1) (fun j hj => (hO j hj).2)
      refine lv_istore (lv' := [(5, .int (2)), (4, .int (nI (j))), (0, .ref (b)), (1, .ref (α1 (0))), (2, .ref (α1 (10))), (3, .ref (α1 (9)))]) hx hb dL_law_1364 hl (by decide) rfl (fun ls hl => ?_)
      refine lv_aload_n hx hb dL_law_1366 rfl (lv_at hl 4 rfl) ?_
      refine lv_aload_n hx hb dL_law_1367 rfl (lv_at hl 2 rfl) ?_
      refine lv_iload hx hb dL_law_1368 (lv_at hl 1 rfl) ?_
      refine lv_iconst (v := (1)) hx hb dL_law_1370 (by decide) ?_
      refine lv_iadd hx hb dL_law_1371 ?_
      refine msld (v := nI (k)) (k := j + 1) hx hb hX hbl hbA hS (nI_add j 1) (by omega) (by omega) (y1) dL_law_1372 ?_
      refine lv_aload_n hx hb dL_law_1373 rfl (lv_at hl 2 rfl) ?_
      refine lv_iload hx hb dL_law_1374 (lv_at hl 1 rfl) ?_
      refine lv_iconst (v := (2)) hx hb dL_law_1376 (by decide) ?_
      refine lv_iadd hx hb dL_law_1377 ?_
      refine msld (v := x2) (k := j + 2) hx hb hX hbl hbA hS (nI_add j 2) (by omega) (by omega) (y2) dL_law_1378 ?_
      refine mcallVw hw hM1.1 rfl rfl ⟨hx, hb, hml, hown, hts⟩ hS (c_X4_excess_2 hM1 (nI k) x2 h h2) (cwV 2 hts gL_law_X4_excess rfl rfl rfl (by decide +kernel) ⟨Nat.le_of_ble_eq_true rfl, Nat.le_of_ble_eq_true rfl⟩) rfl hl.1 rfl (Nat.le_of_ble_eq_true rfl) dL_law_1379 ⟨(by show cells + 1 + 0 ≤ 601024; omega), (by show slots + 6 + 0 ≤ 7293033; omega)⟩ (fun r8 V2 α2 H locs hq hw hS => ?_)
      obtain ⟨er, hM2, hP, eα⟩ := hq
      dsimp only at hM2 hP eα
      subst er
      subst eα
      have hC2 := hC1.mvM (fun j hj => hP j hj)
      have h92 := (hP 9 (by omega)).trans h91
      refine lv_istore (lv' := [(6, .int (0)), (5, .int (2)), (4, .int (nI (j))), (0, .ref (b)), (1, .ref (α1 (0))), (2, .ref (α1 (10))), (3, .ref (α1 (9)))]) hx hb dL_law_1382 hl (by decide) rfl (fun ls hl => ?_)
      refine lv_aload_n hx hb dL_law_1384 rfl (lv_at hl 5 rfl) ?_
      refine mcallVi hw hM2.1 rfl rfl ⟨hx, hb, hml, hown, hts⟩ (c_X4_thrown hM2) (cwV 0 hts gL_law_X4_thrown rfl rfl rfl (by decide +kernel) ⟨Nat.le_of_ble_eq_true rfl, Nat.le_of_ble_eq_true rfl⟩) rfl hl.1 rfl (Nat.le_of_ble_eq_true rfl) dL_law_1385 ⟨(by show cells + 1 + 0 + 0 ≤ 601024; omega), (by show slots + 6 + 0 + 0 ≤ 7293033; omega)⟩ ?_
      refine lv_iload hx hb dL_law_1388 (lv_at hl 1 rfl) ?_
      refine lv_icmp_eq (tgt := 1395) hx hb dL_law_1390 (by decide) (fun c4 => ?_) (fun z => absurd ((by decide)) z)
      refine lv_iload hx hb dL_law_1395 (lv_at hl 1 rfl) ?_
      refine lv_if_ne (tgt := 1412) hx hb dL_law_1397 (by decide) (fun c5 => ?_) (fun z => absurd z ((by decide)))
      refine lv_goto (tgt := 1415) hx hb dL_law_1412 (by decide) ?_
      refine W.widen (k := cells + 2) (n := slots + 210) (by omega) (by omega) ?_
      exact kk V2 α1 (f) nr nw ns 2 H locs ls ⟨hC2, hM2, hwf, ⟨_, h92⟩⟩ hw hS ⟨hl.1, hl.2.1, fun q hq => hl.2.2 q (List.mem_cons_of_mem _ (List.mem_cons_of_mem _ hq))⟩
  ·
    refine lv_aload_n hx hb dL_law_1347 rfl (lv_at hl 2 rfl) ?_
    refine lv_aload_n hx hb dL_law_1348 rfl (lv_at hl 1 rfl) ?_
    refine lv_iload hx hb dL_law_1349 (lv_at hl 0 rfl) ?_
    refine lv_iconst (v := (1)) hx hb dL_law_1351 (by decide) ?_
    refine lv_iadd hx hb dL_law_1352 ?_
    refine msld (v := x1) (k := j + 1) hx hb hX hbl hbA hS (nI_add j 1) (by omega) (by omega) (y1) dL_law_1353 ?_
    refine lv_aload_n hx hb dL_law_1354 rfl (lv_at hl 1 rfl) ?_
    refine lv_iload hx hb dL_law_1355 (lv_at hl 0 rfl) ?_
    refine lv_iconst (v := (2)) hx hb dL_law_1357 (by decide) ?_
    refine lv_iadd hx hb dL_law_1358 ?_
    refine msld (v := x2) (k := j + 2) hx hb hX hbl hbA hS (nI_add j 2) (by omega) (by omega) (y2) dL_law_1359 ?_
    refine lv_aload_n hx hb dL_law_1360 rfl (lv_at hl 4 rfl) ?_
    refine mcallSWi hw ⟨hx, hb, hml, hown, hts⟩ hS (x_X3_excess_1 hl0 hC hwf x1 x2 h) (vx_cwSW 4 hts gL_law_L_excess rfl rfl rfl (by decide +kernel) ⟨Nat.le_of_ble_eq_true rfl, Nat.le_of_ble_eq_true rfl⟩) rfl hl.1 rfl (Nat.le_of_ble_eq_true rfl) dL_law_1361 ⟨(by show cells + 1 ≤ 601024; omega), (by show slots + 6 ≤ 7293033; omega)⟩ (fun r9 V1 α1 H locs hq hw hS => ?_)
    obtain ⟨er, eu⟩ := hq
    subst er
    have e1 : V1 = V := congrArg Prod.fst eu
    have e2 : α1 = α := congrArg Prod.snd eu
    have hC1 : mC G V1 α1 f nr nw ns := by rw [e1, e2]; exact hC
    have h91 : V1 9 = _ := (congrFun e1 9).trans h9
    have hO : ∀ j, j < 100 → (10 ≤ j → V1 j = V j) ∧ α1 j = α j := fun j _ => ⟨fun _ => congrFun e1 j, congrFun e2 j⟩
    have hl : lv_has ls 7 [(4, .int (nI (j))), (0, .ref (b)), (1, .ref (α1 (0))), (2, .ref (α1 (10))), (3, .ref (α1 (9)))] := by rw [(hO 0 (by omega)).2, (hO 10 (by omega)).2, (hO 9 (by omega)).2]; exact hl
    have hM1 := hM.mvC (fun j h1 h2 => (hO j (by omega)).1 h1) (fun j hj => (hO j hj).2)
    refine lv_istore (lv' := [(5, .int (1)), (4, .int (nI (j))), (0, .ref (b)), (1, .ref (α1 (0))), (2, .ref (α1 (10))), (3, .ref (α1 (9)))]) hx hb dL_law_1364 hl (by decide) rfl (fun ls hl => ?_)
    refine lv_aload_n hx hb dL_law_1366 rfl (lv_at hl 4 rfl) ?_
    refine lv_aload_n hx hb dL_law_1367 rfl (lv_at hl 2 rfl) ?_
    refine lv_iload hx hb dL_law_1368 (lv_at hl 1 rfl) ?_
    refine lv_iconst (v := (1)) hx hb dL_law_1370 (by decide) ?_
    refine lv_iadd hx hb dL_law_1371 ?_
    refine msld (v := x1) (k := j + 1) hx hb hX hbl hbA hS (nI_add j 1) (by omega) (by omega) (y1) dL_law_1372 ?_
    refine lv_aload_n hx hb dL_law_1373 rfl (lv_at hl 2 rfl) ?_
    refine lv_iload hx hb dL_law_1374 (lv_at hl 1 rfl) ?_
    refine lv_iconst (v := (2)) hx hb dL_law_1376 (by decide) ?_
    refine lv_iadd hx hb dL_law_1377 ?_
    refine msld (v := x2) (k := j + 2) hx hb hX hbl hbA hS (nI_add j 2) (by omega) (by omega) (y2) dL_law_1378 ?_
    refine mcallVw hw hM1.1 rfl rfl ⟨hx, hb, hml, hown, hts⟩ hS (c_X4_excess_1 hM1 x1 x2 h) (cwV 2 hts gL_law_X4_excess rfl rfl rfl (by decide +kernel) ⟨Nat.le_of_ble_eq_true rfl, Nat.le_of_ble_eq_true rfl⟩) rfl hl.1 rfl (Nat.le_of_ble_eq_true rfl) dL_law_1379 ⟨(by show cells + 1 + 0 ≤ 601024; omega), (by show slots + 6 + 0 ≤ 7293033; omega)⟩ (fun r8 V2 α2 H locs hq hw hS => ?_)
    obtain ⟨er, hM2, hP, eα⟩ := hq
    dsimp only at hM2 hP eα
    subst er
    subst eα
    have hC2 := hC1.mvM (fun j hj => hP j hj)
    have h92 := (hP 9 (by omega)).trans h91
    refine lv_istore (lv' := [(6, .int (0)), (5, .int (1)), (4, .int (nI (j))), (0, .ref (b)), (1, .ref (α1 (0))), (2, .ref (α1 (10))), (3, .ref (α1 (9)))]) hx hb dL_law_1382 hl (by decide) rfl (fun ls hl => ?_)
    refine lv_aload_n hx hb dL_law_1384 rfl (lv_at hl 5 rfl) ?_
    refine mcallVi hw hM2.1 rfl rfl ⟨hx, hb, hml, hown, hts⟩ (c_X4_thrown hM2) (cwV 0 hts gL_law_X4_thrown rfl rfl rfl (by decide +kernel) ⟨Nat.le_of_ble_eq_true rfl, Nat.le_of_ble_eq_true rfl⟩) rfl hl.1 rfl (Nat.le_of_ble_eq_true rfl) dL_law_1385 ⟨(by show cells + 1 + 0 + 0 ≤ 601024; omega), (by show slots + 6 + 0 + 0 ≤ 7293033; omega)⟩ ?_
    refine lv_iload hx hb dL_law_1388 (lv_at hl 1 rfl) ?_
    refine lv_icmp_eq (tgt := 1395) hx hb dL_law_1390 (by decide) (fun c6 => ?_) (fun z => absurd ((by decide)) z)
    refine lv_iload hx hb dL_law_1395 (lv_at hl 1 rfl) ?_
    refine lv_if_ne (tgt := 1412) hx hb dL_law_1397 (by decide) (fun c7 => ?_) (fun z => absurd z ((by decide)))
    refine lv_goto (tgt := 1415) hx hb dL_law_1412 (by decide) ?_
    refine W.widen (k := cells + 2) (n := slots + 210) (by omega) (by omega) ?_
    exact kk V2 α1 (f) nr nw ns 1 H locs ls ⟨hC2, hM2, hwf, ⟨_, h92⟩⟩ hw hS ⟨hl.1, hl.2.1, fun q hq => hl.2.2 q (List.mem_cons_of_mem _ (List.mem_cons_of_mem _ hq))⟩
