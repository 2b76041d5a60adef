theorem nl_sum {n : Nat} (h2 : 2 ≤ n) (hn : n ≤ 120) : nI n + (if (1 : Int32) < nI (n / 2) then nI (n / 2) else 1) = nI (n + n / 2) := by
  by_cases c : (1 : Int32) < nI (n / 2)
  · rw [if_pos c, nI_add]
  · rw [if_neg c]
    have h1 : ¬ 1 < n / 2 := fun z => c ((nI_ltI (a := 1) (by decide) (by omega)).mpr z)
    rw [show n / 2 = 1 by omega]
    exact nI_1 n
theorem vne {V : mV} {i z : Nat} {e : va_E} (h : V i = some e) (hz : V z = none) : i ≠ z := fun q => by rw [q, hz] at h; cases h
/-- what may lie in a row of objects -/
def mEl (V : mV) (α : Nat → Nat) (n : Nat) (row : Nat → Option Nat) : Prop := ∀ i, i < n → ∀ y, row i = some y → ∃ (iv ci : Nat) (vs : List Value) (r : vw_C), y = α iv ∧ V iv = some (.inr (ci, vs)) ∧ vwCl[ci]? = some r ∧ (r.1, "java/lang/Object") ∈ MCA
theorem mEl.keep {V V1 : mV} {α α1 : Nat → Nat} {n : Nat} {row : Nat → Option Nat} (h : mEl V α n row) (hV : ∀ iv e, V iv = some e → V1 iv = some e ∧ α1 iv = α iv) : mEl V1 α1 n row := by
  intro i hi y hy
  obtain ⟨iv, ci, vs, r, rfl, hv, hc, hm⟩ := h i hi y hy
  obtain ⟨h1, h2⟩ := hV iv _ hv
  exact ⟨iv, ci, vs, r, h2.symm, h1, hc, hm⟩
theorem mEl.any {G : mG} {V : mV} {α : Nat → Nat} {s : State} {H : Heap} {n : Nat} {row : Nat → Option Nat} (h : mEl V α n row) (hw : mW G V α s H) : ∀ i : Nat, i < n → ∀ y : Nat, row i = some y → va_Any "java/lang/Object" s H y := by
  intro i hi y hy
  obtain ⟨iv, ci, vs, r, rfl, hv, hc, hm⟩ := h i hi y hy
  refine va_rAny (q0 := 0) hw.1.1 (hw.2.2.P hv) rfl hc (fun comp c0 h1 h2 => ?_)
  obtain ⟨x, t1, f1, f2, f3⟩ := Cond.castable_spec (va_Nw.use (A := #[]) rfl (hw.1.2.2.1 _ hm))
  cases h1.symm.trans f2
  cases h2.symm.trans f1
  exact f3

set_option maxHeartbeats 4000000 in
set_option maxRecDepth 100000 in
theorem c_J8_newLength_cabcc {l : Launch} {G : mG} {V : mV} {α : Nat → Nat} (n : Nat) (h2 : 2 ≤ n) (hn : n ≤ 120)  : Met l yJ8_newLength_cabcc wsJ8_newLength_cabcc ({ frames := 1, cells := 0, slots := 0, locals := 21 }) (va_Pc [.int (nI (n)), .int (1), .int (nI (n / 2))] (fun U => mW G V α U U.heap)) (vp_Si (fun r9 => r9 = nI (n + n / 2))) 0 0 (fun _ => False) := by
  refine Met.ofW (cc := cJ8_newLength_cabcc) (maxL := 4) (ret := (some .int)) (by decide) rfl ?_
  intro p e s m args below meth c s₁ B hml hv
  obtain ⟨rfl, hw⟩ := hv
  have hx := B.exec
  have hb := B.bytes
  have hr := B.returns
  have hts := atoms_spec (ws := wsJ8_newLength_cabcc) B.pre
  have hown : s.vm.findClass RJ8 = some m.cls := findClass_of_methodNamed B.named
  have hlocks := B.notSynchronized
  have mm_194 := hts (.methodLink RJ8 194 Lib.Math.max.name) (by decide +kernel)
  have ms_194 := hts (.static Lib.Math.max.name) (by decide +kernel)
  have mi_194 := hts (.initialized "java/lang/Math") (by decide +kernel)
  have mc_194 := hts (.code Lib.Math.max.name Lib.Math.max.code 2 (some .int)) (by decide +kernel)
  have k200 := hts (.constant RJ8 200 (2147483639)) (by decide +kernel)
  have hl := lv_entry ([.int (nI (n)), .int (1), .int (nI (n / 2))]) (n := 4) (Nat.le_of_ble_eq_true rfl)
  rw [lg_entry_eq]
  generalize (lg_sl ([.int (nI (n)), .int (1), .int (nI (n / 2))]) ++ List.replicate (4 - (lg_sl ([.int (nI (n)), .int (1), .int (nI (n / 2))])).length) Slot.unset).toArray = ls at hl ⊢
  have hl : lv_has ls 4 [(0, .int (nI (n))), (1, .int (1)), (2, .int (nI (n / 2)))] := hl
  refine lv_iload_n hx hb dJ8_newLength_cabcc_0 rfl (lv_at hl 0 rfl) ?_
  refine lv_iload_n hx hb dJ8_newLength_cabcc_1 rfl (lv_at hl 1 rfl) ?_
  refine lv_iload_n hx hb dJ8_newLength_cabcc_2 rfl (lv_at hl 2 rfl) ?_
  refine va_mmax hx hb (hml.trans hl.1.symm) hown mm_194 ms_194 mi_194 mc_194 (Nat.le_of_ble_eq_true rfl) (Nat.le_of_ble_eq_true rfl) (Nat.zero_le _) (Nat.zero_le _) dJ8_newLength_cabcc_3 ?_
  refine lv_iadd hx hb dJ8_newLength_cabcc_6 ?_
  refine lv_topi (fun y1 ey1 => ?_)
  obtain rfl : y1 = (nI (n + n / 2)) := ey1.trans (nl_sum h2 hn)
  refine lv_istore_n (lv' := [(3, .int (nI (n + n / 2))), (0, .int (nI (n))), (1, .int (1)), (2, .int (nI (n / 2)))]) hx hb dJ8_newLength_cabcc_7 rfl hl (by decide) rfl (fun ls hl => ?_)
  refine lv_iconst (v := (0)) hx hb dJ8_newLength_cabcc_8 (by decide) ?_
  refine lv_iload_n hx hb dJ8_newLength_cabcc_9 rfl (lv_at hl 0 rfl) ?_
  refine lv_icmp_ge (tgt := 21) hx hb dJ8_newLength_cabcc_10 (by decide) (fun z => absurd z ((nI_nle (by omega) (by omega)))) (fun c2 => ?_)
  refine lv_iload_n hx hb dJ8_newLength_cabcc_13 rfl (lv_at hl 0 rfl) ?_
  refine lv_ldc hx hb hown k200 dJ8_newLength_cabcc_14 ?_
  refine lv_icmp_gt (tgt := 21) hx hb dJ8_newLength_cabcc_16 (by decide) (fun z => absurd z ((nI_nlt (a := 2147483639) (b := n + n / 2) (by omega) (by decide)))) (fun c3 => ?_)
  refine lv_iload_n hx hb dJ8_newLength_cabcc_19 rfl (lv_at hl 0 rfl) ?_
  exact W.iret (v := nI (n + n / 2)) hx hb hr (fun t ht hW => ⟨_, rfl, rfl, ht⟩) (fun _ h => absurd h List.not_mem_nil) dJ8_newLength_cabcc_20

theorem vup2 (V : mV) (i : Nat) (e e1 : va_E) : vup (vup V i e) i e1 = vup V i e1 := by
  funext j
  by_cases h : j = i
  · subst h; rw [vup_s, vup_s]
  · rw [vup_n _ _ h, vup_n _ _ h, vup_n _ _ h]

set_option maxHeartbeats 4000000 in
set_option maxRecDepth 100000 in
theorem c_J7_copyOf_6403c {l : Launch} {G : mG} {V : mV} {α : Nat → Nat} {j n N z : Nat} {row : Nat → Option Nat} (hj : V j = some (.inl (G.2.2.2.1, n, .inr (.inr (.inr (.inr row)))))) (hz : V z = none) (hnN : n ≤ N) (hN : N ≤ 200) (hel : mEl V α n row) : Met l yJ7_copyOf_6403c wsJ7_copyOf_6403c ({ frames := 1, cells := 1, slots := 200, locals := 60 }) (va_Pc [.ref (α (j)), .int (nI (N)), .ref (G.2.2.2.2.2)] (fun U => mW G V α U U.heap)) (va_Qq (fun (r9 : Option Nat) (u : mV × (Nat → Nat)) => r9 = some (u.2 z) ∧ (∀ x, x ≠ z → u.2 x = α x) ∧ u.1 = vup V z (.inl (G.2.2.2.1, N, .inr (.inr (.inr (.inr (va_cpy row (fun _ => none) 0 0 n))))))) (fun u t => mH G u.1 u.2 t.heap) (mfree G)) 1 200 (mfree G) := by
  refine Met.ofW (cc := cJ7_copyOf_6403c) (maxL := 4) (ret := (some (.array (.object "java/lang/Object")))) (by decide) rfl ?_
  intro p e s m args below meth c s₁ B hml hv
  obtain ⟨rfl, hw⟩ := hv
  have hw0 := hw
  have hx := B.exec
  have hb := B.bytes
  have hr := B.returns
  have hts := atoms_spec (ws := wsJ7_copyOf_6403c) B.pre
  have hown : s.vm.findClass RJ7 = some m.cls := findClass_of_methodNamed B.named
  have hlocks := B.notSynchronized
  have hS : va_S (mfree G) s.heap s.heap [] := va_S.rf
  have cl110 := hts (.classLink RJ7 110 "[Ljava/lang/Object;") (by decide +kernel)
  have cl2 := hts (.classLink RJ7 2 "java/lang/Object") (by decide +kernel)
  have ac1 := hts (.methodLink RJ7 150 arraycopyName) (by decide +kernel)
  have ac2 := hts (.native arraycopyName) (by decide +kernel)
  have ac3 := hts (.static arraycopyName) (by decide +kernel)
  have ac4 := hts (.initialized "java/lang/System") (by decide +kernel)
  have mm_304 := hts (.methodLink RJ7 304 Lib.Math.min.name) (by decide +kernel)
  have ms_304 := hts (.static Lib.Math.min.name) (by decide +kernel)
  have mi_304 := hts (.initialized "java/lang/Math") (by decide +kernel)
  have mc_304 := hts (.code Lib.Math.min.name Lib.Math.min.code 2 (some .int)) (by decide +kernel)
  have hl := lv_entry ([.ref (α (j)), .int (nI (N)), .ref (G.2.2.2.2.2)]) (n := 4) (Nat.le_of_ble_eq_true rfl)
  rw [lg_entry_eq]
  generalize (lg_sl ([.ref (α (j)), .int (nI (N)), .ref (G.2.2.2.2.2)]) ++ List.replicate (4 - (lg_sl ([.ref (α (j)), .int (nI (N)), .ref (G.2.2.2.2.2)])).length) Slot.unset).toArray = ls at hl ⊢
  have hl : lv_has ls 4 [(0, .ref (α (j))), (1, .int (nI (N))), (2, .ref (G.2.2.2.2.2))] := hl
  refine lv_aload_n hx hb dJ7_copyOf_6403c_0 rfl (lv_at hl 2 rfl) ?_
  refine va_ldcM hx hb hown cl110 hw.1.2.2.2.2.2.1 dJ7_copyOf_6403c_1 ?_
  refine macmp_ne (tgt := 13) hx hb dJ7_copyOf_6403c_3 (by decide) (fun z => absurd rfl z) (fun _ => ?_)
  refine lv_iload_n hx hb dJ7_copyOf_6403c_6 rfl (lv_at hl 1 rfl) ?_
  refine manewa (N := N) hx hb hown cl2 hw hS rfl (by omega) z hz (Nat.le_of_ble_eq_true rfl) (by show 0 + N ≤ 200; omega) dJ7_copyOf_6403c_7 (fun α1 H h1 hw hS => ?_)
  have ej : α j = α1 j := (h1 j (fun q => by rw [q, hz] at hj; cases hj)).symm
  have hjz : j ≠ z := fun q => by rw [q, hz] at hj; cases hj
  refine lv_goto (tgt := 24) hx hb dJ7_copyOf_6403c_10 (by decide) ?_
  refine lv_astore_n (lv' := [(3, .ref (α1 (z))), (0, .ref (α (j))), (1, .int (nI (N))), (2, .ref (G.2.2.2.2.2))]) hx hb dJ7_copyOf_6403c_24 rfl hl (by decide) rfl (fun ls hl => ?_)
  have hl : lv_has ls 4 [(3, .ref (α1 (z))), (0, .ref (α1 (j))), (1, .int (nI (N))), (2, .ref (G.2.2.2.2.2))] := by rw [← ej]; exact hl
  have hj1 := (vup_n V (.inl (G.2.2.2.1, N, .inr (.inr (.inr (.inr (fun _ => none)))))) hjz).trans hj
  refine lv_aload_n hx hb dJ7_copyOf_6403c_25 rfl (lv_at hl 1 rfl) ?_
  refine lv_iconst (v := (0)) hx hb dJ7_copyOf_6403c_26 (by decide) ?_
  refine lv_aload_n hx hb dJ7_copyOf_6403c_27 rfl (lv_at hl 0 rfl) ?_
  refine lv_iconst (v := (0)) hx hb dJ7_copyOf_6403c_28 (by decide) ?_
  refine lv_aload_n hx hb dJ7_copyOf_6403c_29 rfl (lv_at hl 1 rfl) ?_
  refine maalen hx hb hw hj1 dJ7_copyOf_6403c_30 ?_
  refine lv_iload_n hx hb dJ7_copyOf_6403c_31 rfl (lv_at hl 2 rfl) ?_
  refine va_mmin hx hb (hml.trans hl.1.symm) hown mm_304 ms_304 mi_304 mc_304 (Nat.le_of_ble_eq_true rfl) (Nat.le_of_ble_eq_true rfl) (by show 0 + 1 ≤ 1; omega) (by show 0 + N ≤ 200; omega) dJ7_copyOf_6403c_32 ?_
  refine lv_topi (fun y1 ey1 => ?_)
  obtain rfl : y1 = nI n := ey1.trans (if_neg (nI_nlt hnN (by omega)))
  refine mcopy hx hb (hml.trans hl.1.symm) hown ac1 ac2 ac3 ac4 hw hS hjz hj1 (vup_s _ _ _) (by omega) (Nat.le_refl n) hnN ((hel.keep (fun iv e9 he9 => ⟨(vup_n _ _ (vne he9 hz)).trans he9, h1 iv (vne he9 hz)⟩)).any hw) (Nat.le_of_ble_eq_true rfl) (Nat.le_of_ble_eq_true rfl) dJ7_copyOf_6403c_35 (fun H locs hw hS => ?_)
  refine lv_aload_n hx hb dJ7_copyOf_6403c_38 rfl (lv_at hl 0 rfl) ?_
  refine W.widen (k := 1) (n := 200) (by omega) (by omega) ?_
  exact W.aret (v := .ref (α1 z)) hx hb hr (Or.inr ⟨_, rfl⟩) (Or.inr ⟨_, rfl⟩) (fun t ht hW => ⟨⟨some (α1 z), (_, α1), rfl, ⟨rfl, h1, vup2 _ _ _ _⟩, by show mH G _ α1 t.heap; rw [ht]; exact hw.2.2⟩, hS.F ht⟩) hS.2.2 dJ7_copyOf_6403c_39

theorem marr {G : mG} {V : mV} {α : Nat → Nat} {s : State} {H : Heap} {j n : Nat} {row : Nat → Option Nat} (hw : mW G V α s H) (hj : V j = some (.inl (G.2.2.2.1, n, .inr (.inr (.inr (.inr row)))))) : ∃ cell : Cell, H[α j]? = some cell ∧ cell.vm.isStatics = false ∧ s.vm.findClass "[Ljava/lang/Object;" = some cell.cls :=
  ⟨_, (hw.2.2.1 j _ hj).1, rfl, va_nmO (hw.1.1.2 2 _ rfl).2 (by decide)⟩

set_option maxHeartbeats 4000000 in
set_option maxRecDepth 100000 in
theorem c_J7_copyOf_1904c {l : Launch} {G : mG} {V : mV} {α : Nat → Nat} {j n N z : Nat} {row : Nat → Option Nat} (hj : V j = some (.inl (G.2.2.2.1, n, .inr (.inr (.inr (.inr row)))))) (hz : V z = none) (hnN : n ≤ N) (hN : N ≤ 200) (hel : mEl V α n row) : Met l yJ7_copyOf_1904c wsJ7_copyOf_1904c ({ frames := 2, cells := 1, slots := 200, locals := 95 }) (va_Pc [.ref (α (j)), .int (nI (N))] (fun U => mW G V α U U.heap)) (va_Qq (fun (r9 : Option Nat) (u : mV × (Nat → Nat)) => r9 = some (u.2 z) ∧ (∀ x, x ≠ z → u.2 x = α x) ∧ u.1 = vup V z (.inl (G.2.2.2.1, N, .inr (.inr (.inr (.inr (va_cpy row (fun _ => none) 0 0 n))))))) (fun u t => mH G u.1 u.2 t.heap) (mfree G)) 1 200 (mfree G) := by
  refine Met.ofW (cc := cJ7_copyOf_1904c) (maxL := 2) (ret := (some (.array (.object "java/lang/Object")))) (by decide) rfl ?_
  intro p e s m args below meth c s₁ B hml hv
  obtain ⟨rfl, hw⟩ := hv
  have hw0 := hw
  have hx := B.exec
  have hb := B.bytes
  have hr := B.returns
  have hts := atoms_spec (ws := wsJ7_copyOf_1904c) B.pre
  have hown : s.vm.findClass RJ7 = some m.cls := findClass_of_methodNamed B.named
  have hlocks := B.notSynchronized
  have hS : va_S (mfree G) s.heap s.heap [] := va_S.rf
  have q1 := hts (.methodLink RJ7 86 ⟨"java/lang/Object", "getClass", "()Ljava/lang/Class;"⟩) (by decide +kernel)
  have q2 := hts (.selects "[Ljava/lang/Object;" ⟨"java/lang/Object", "getClass", "()Ljava/lang/Class;"⟩ ⟨"java/lang/Object", "getClass", "()Ljava/lang/Class;"⟩) (by decide +kernel)
  have q3 := hts (.instanceMethod ⟨"java/lang/Object", "getClass", "()Ljava/lang/Class;"⟩) (by decide +kernel)
  have q4 := hts (.native ⟨"java/lang/Object", "getClass", "()Ljava/lang/Class;"⟩) (by decide +kernel)
  have hl := lv_entry ([.ref (α (j)), .int (nI (N))]) (n := 2) (Nat.le_of_ble_eq_true rfl)
  rw [lg_entry_eq]
  generalize (lg_sl ([.ref (α (j)), .int (nI (N))]) ++ List.replicate (2 - (lg_sl ([.ref (α (j)), .int (nI (N))])).length) Slot.unset).toArray = ls at hl ⊢
  have hl : lv_has ls 2 [(0, .ref (α (j))), (1, .int (nI (N)))] := hl
  refine lv_aload_n hx hb dJ7_copyOf_1904c_0 rfl (lv_at hl 0 rfl) ?_
  refine lv_iload_n hx hb dJ7_copyOf_1904c_1 rfl (lv_at hl 1 rfl) ?_
  refine lv_aload_n hx hb dJ7_copyOf_1904c_2 rfl (lv_at hl 0 rfl) ?_
  refine va_getC (C := "[Ljava/lang/Object;") hx hb (hml.trans hl.1.symm) hown q1 (va_Nw.use rfl (hw.1.2.2.2.1 _ (List.mem_of_getElem? (i := 3) rfl))) q2 q3 q4 hw.1.2.2.2.2.2.1 (marr hw hj) (Nat.le_of_ble_eq_true rfl) (Nat.le_of_ble_eq_true rfl) dJ7_copyOf_1904c_3 ?_
  refine mcallSwq hw ⟨hx, hb, hml, hown, hts⟩ hS (c_J7_copyOf_6403c hj hz hnN hN hel) (va_cwS 3 hts gJ7_copyOf_1904c_J7_copyOf_6403c rfl rfl rfl (by decide +kernel) ⟨Nat.le_of_ble_eq_true rfl, Nat.le_of_ble_eq_true rfl⟩) rfl hl.1 rfl (Nat.le_of_ble_eq_true rfl) dJ7_copyOf_1904c_6 ⟨Nat.le_of_ble_eq_true rfl, Nat.le_of_ble_eq_true rfl⟩ (fun r9 V1 α1 H locs hp hw hS => ?_)
  obtain ⟨rfl, h1, h2⟩ := hp
  dsimp only at h1 h2
  exact W.aret (v := .ref (α1 z)) hx hb hr (Or.inr ⟨_, rfl⟩) (Or.inr ⟨_, rfl⟩) (fun t ht hW => ⟨⟨some (α1 z), (V1, α1), rfl, ⟨rfl, h1, h2⟩, by show mH G V1 α1 t.heap; rw [ht]; exact hw.2.2⟩, hS.F ht⟩) hS.2.2 dJ7_copyOf_1904c_9

set_option maxHeartbeats 4000000 in
set_option maxRecDepth 100000 in
theorem c_growI_A {l : Launch} {G : mG} {V : mV} {α : Nat → Nat} {i z : Nat} {md : Int32} (hv : V i = some (.inr (0, [.int md, .ref G.1.2, .int (nI 0)]))) (hz : V z = none) : Met l yJx4a65c_grow_92f84 wsJx4a65c_grow_92f84 ({ frames := 3, cells := 1, slots := 200, locals := 140 }) (va_Pc [.ref (α (i)), .int (nI (0 + 1))] (fun U => mW G V α U U.heap)) (va_Qq (fun (r9 : Option Nat) (u : mV × (Nat → Nat)) => r9 = some (u.2 z) ∧ (∀ x, x ≠ z → u.2 x = α x) ∧ u.1 = vup (vup V z (.inl (G.2.2.2.1, 10, .inr (.inr (.inr (.inr (fun _ => none))))))) i (.inr (0, [.int md, .ref (u.2 z), .int (nI 0)]))) (fun u t => mH G u.1 u.2 t.heap) (mfree G)) 1 200 (mfree G) := by
  refine Met.ofW (cc := cJx4a65c_grow_92f84) (maxL := 4) (ret := (some (.array (.object "java/lang/Object")))) (by decide) rfl ?_
  intro p e s m args below meth c s₁ B hml hv
  obtain ⟨rfl, hw⟩ := hv
  have hw0 := hw
  have hx := B.exec
  have hb := B.bytes
  have hr := B.returns
  have hts := atoms_spec (ws := wsJx4a65c_grow_92f84) B.pre
  have hown : s.vm.findClass RJx4a65c = some m.cls := findClass_of_methodNamed B.named
  have hlocks := B.notSynchronized
  have hS : va_S (mfree G) s.heap s.heap [] := va_S.rf
  have gs39 := hts (.fieldLink RJx4a65c 39 "java/util/ArrayList" "DEFAULTCAPACITY_EMPTY_ELEMENTDATA" "[Ljava/lang/Object;") (by decide +kernel)
  have cl7 := hts (.classLink RJx4a65c 7 "java/lang/Object") (by decide +kernel)
  have fl_9 := hts (.fieldLink RJx4a65c 9 "java/util/ArrayList" "elementData" "[Ljava/lang/Object;") (by decide +kernel)
  have in_Jx4a65c : ∀ w ∈ u_ws RJx4a65c TJx4a65c 3, w ∈ wsJx4a65c_grow_92f84 := by decide +kernel
  have mm_79 := hts (.methodLink RJx4a65c 79 Lib.Math.max.name) (by decide +kernel)
  have ms_79 := hts (.static Lib.Math.max.name) (by decide +kernel)
  have mi_79 := hts (.initialized "java/lang/Math") (by decide +kernel)
  have mc_79 := hts (.code Lib.Math.max.name Lib.Math.max.code 2 (some .int)) (by decide +kernel)
  have hl := lv_entry ([.ref (α (i)), .int (nI (0 + 1))]) (n := 4) (Nat.le_of_ble_eq_true rfl)
  rw [lg_entry_eq]
  generalize (lg_sl ([.ref (α (i)), .int (nI (0 + 1))]) ++ List.replicate (4 - (lg_sl ([.ref (α (i)), .int (nI (0 + 1))])).length) Slot.unset).toArray = ls at hl ⊢
  have hl : lv_has ls 4 [(0, .ref (α (i))), (1, .int (nI (0 + 1)))] := hl
  refine lv_aload_n hx hb dJx4a65c_grow_92f84_0 rfl (lv_at hl 0 rfl) ?_
  refine mget (C := RJx4a65c) (T := TJx4a65c) (N := 3) (ci := 0) hx hb hts in_Jx4a65c hown hw (hv) rfl 1 (by decide) fl_9 rfl dJx4a65c_grow_92f84_1 ?_
  refine va_tlen hx hb hw0.2.1.2.2.2 hS rfl dJx4a65c_grow_92f84_4 ?_
  refine lv_istore_n (lv' := [(2, .int (0)), (0, .ref (α (i))), (1, .int (nI (0 + 1)))]) hx hb dJx4a65c_grow_92f84_5 rfl hl (by decide) rfl (fun ls hl => ?_)
  refine lv_iload_n hx hb dJx4a65c_grow_92f84_6 rfl (lv_at hl 0 rfl) ?_
  refine lv_if_gt (tgt := 20) hx hb dJx4a65c_grow_92f84_7 (by decide) (fun z => absurd z ((by decide))) (fun c1 => ?_)
  refine lv_aload_n hx hb dJx4a65c_grow_92f84_10 rfl (lv_at hl 1 rfl) ?_
  refine mget (C := RJx4a65c) (T := TJx4a65c) (N := 3) (ci := 0) hx hb hts in_Jx4a65c hown hw (hv) rfl 1 (by decide) fl_9 rfl dJx4a65c_grow_92f84_11 ?_
  refine va_gets hx hb hw0.2.1.2.2.1 hS hown gs39 (fun _ h9 => h9) dJx4a65c_grow_92f84_14 ?_
  refine macmp_eq (tgt := 45) hx hb dJx4a65c_grow_92f84_17 (by decide) (fun _ => ?_) (fun z => absurd rfl z)
  refine lv_aload_n hx hb dJx4a65c_grow_92f84_45 rfl (lv_at hl 1 rfl) ?_
  refine lv_bipush (v := (10)) hx hb dJx4a65c_grow_92f84_46 (by decide) ?_
  refine lv_iload_n hx hb dJx4a65c_grow_92f84_48 rfl (lv_at hl 2 rfl) ?_
  refine va_mmax hx hb (hml.trans hl.1.symm) hown mm_79 ms_79 mi_79 mc_79 (Nat.le_of_ble_eq_true rfl) (Nat.le_of_ble_eq_true rfl) (Nat.zero_le _) (Nat.zero_le _) dJx4a65c_grow_92f84_49 ?_
  refine lv_topi (fun y1 ey1 => ?_)
  obtain rfl : y1 = nI 10 := ey1.trans (by decide)
  refine manewa (N := 10) hx hb hown cl7 hw hS rfl (by omega) z hz (Nat.le_of_ble_eq_true rfl) (Nat.le_of_ble_eq_true rfl) dJx4a65c_grow_92f84_52 (fun α1 H h1 hw hS => ?_)
  have hiz : i ≠ z := fun q => by rw [q, hz] at hv; cases hv
  have ei : α i = α1 i := (h1 i hiz).symm
  have hv1 := (vup_n V (.inl (G.2.2.2.1, 10, .inr (.inr (.inr (.inr (fun _ => none)))))) hiz).trans hv
  refine W.eq (g2 := F0 m 55 ls [.ref (α1 z), .ref (α1 i)]) (by rw [ei]) ?_
  refine lv_dup_x1 hx hb dJx4a65c_grow_92f84_55 rfl rfl ?_
  refine mput (C := RJx4a65c) (T := TJx4a65c) (N := 3) (ci := 0) hx hb hts in_Jx4a65c tyJx4a65c tyJx4a65c_ok nmJx4a65c hown hw hS (hv1) rfl 1 (by decide) fl_9 rfl rfl rfl (Nat.le_of_ble_eq_true rfl) dJx4a65c_grow_92f84_56 (fun H locs hw hS => ?_)
  refine W.widen (k := 1) (n := 200) (by omega) (by omega) ?_
  exact W.aret (v := .ref (α1 z)) hx hb hr (Or.inr ⟨_, rfl⟩) (Or.inr ⟨_, rfl⟩) (fun t ht hW => ⟨⟨some (α1 z), (_, α1), rfl, ⟨rfl, h1, rfl⟩, by show mH G _ α1 t.heap; rw [ht]; exact hw.2.2⟩, hS.F ht⟩) hS.2.2 dJx4a65c_grow_92f84_59

set_option maxHeartbeats 4000000 in
set_option maxRecDepth 100000 in
theorem c_growI_B {l : Launch} {G : mG} {V : mV} {α : Nat → Nat} {i j n z : Nat} {md : Int32} {row : Nat → Option Nat} (hv : V i = some (.inr (0, [.int md, .ref (α j), .int (nI n)]))) (hj : V j = some (.inl (G.2.2.2.1, n, .inr (.inr (.inr (.inr row)))))) (hz : V z = none) (h2 : 2 ≤ n) (hn : n ≤ 120) (hel : mEl V α n row) : Met l yJx4a65c_grow_92f84 wsJx4a65c_grow_92f84 ({ frames := 3, cells := 1, slots := 200, locals := 140 }) (va_Pc [.ref (α (i)), .int (nI (n + 1))] (fun U => mW G V α U U.heap)) (va_Qq (fun (r9 : Option Nat) (u : mV × (Nat → Nat)) => r9 = some (u.2 z) ∧ (∀ x, x ≠ z → u.2 x = α x) ∧ u.1 = vup (vup V z (.inl (G.2.2.2.1, n + n / 2, .inr (.inr (.inr (.inr (va_cpy row (fun _ => none) 0 0 n))))))) i (.inr (0, [.int md, .ref (u.2 z), .int (nI n)]))) (fun u t => mH G u.1 u.2 t.heap) (mfree G)) 1 200 (mfree G) := by
  refine Met.ofW (cc := cJx4a65c_grow_92f84) (maxL := 4) (ret := (some (.array (.object "java/lang/Object")))) (by decide) rfl ?_
  intro p e s m args below meth c s₁ B hml hv
  obtain ⟨rfl, hw⟩ := hv
  have hw0 := hw
  have hx := B.exec
  have hb := B.bytes
  have hr := B.returns
  have hts := atoms_spec (ws := wsJx4a65c_grow_92f84) B.pre
  have hown : s.vm.findClass RJx4a65c = some m.cls := findClass_of_methodNamed B.named
  have hlocks := B.notSynchronized
  have hS : va_S (mfree G) s.heap s.heap [] := va_S.rf
  have fl_9 := hts (.fieldLink RJx4a65c 9 "java/util/ArrayList" "elementData" "[Ljava/lang/Object;") (by decide +kernel)
  have in_Jx4a65c : ∀ w ∈ u_ws RJx4a65c TJx4a65c 3, w ∈ wsJx4a65c_grow_92f84 := by decide +kernel
  have hl := lv_entry ([.ref (α (i)), .int (nI (n + 1))]) (n := 4) (Nat.le_of_ble_eq_true rfl)
  rw [lg_entry_eq]
  generalize (lg_sl ([.ref (α (i)), .int (nI (n + 1))]) ++ List.replicate (4 - (lg_sl ([.ref (α (i)), .int (nI (n + 1))])).length) Slot.unset).toArray = ls at hl ⊢
  have hl : lv_has ls 4 [(0, .ref (α (i))), (1, .int (nI (n + 1)))] := hl
  refine lv_aload_n hx hb dJx4a65c_grow_92f84_0 rfl (lv_at hl 0 rfl) ?_
  refine mget (C := RJx4a65c) (T := TJx4a65c) (N := 3) (ci := 0) hx hb hts in_Jx4a65c hown hw (hv) rfl 1 (by decide) fl_9 rfl dJx4a65c_grow_92f84_1 ?_
  refine maalen hx hb hw (hj) dJx4a65c_grow_92f84_4 ?_
  refine lv_istore_n (lv' := [(2, .int (nI (n))), (0, .ref (α (i))), (1, .int (nI (n + 1)))]) hx hb dJx4a65c_grow_92f84_5 rfl hl (by decide) rfl (fun ls hl => ?_)
  refine lv_iload_n hx hb dJx4a65c_grow_92f84_6 rfl (lv_at hl 0 rfl) ?_
  refine lv_if_gt (tgt := 20) hx hb dJx4a65c_grow_92f84_7 (by decide) (fun c1 => ?_) (fun z => absurd ((nI_lt (a := 0) (by omega) (by omega))) z)
  refine lv_iload_n hx hb dJx4a65c_grow_92f84_20 rfl (lv_at hl 0 rfl) ?_
  refine lv_iload_n hx hb dJx4a65c_grow_92f84_21 rfl (lv_at hl 2 rfl) ?_
  refine lv_iload_n hx hb dJx4a65c_grow_92f84_22 rfl (lv_at hl 0 rfl) ?_
  refine lv_isub hx hb dJx4a65c_grow_92f84_23 ?_
  refine lv_topi (fun y1 ey1 => ?_)
  obtain rfl : y1 = 1 := ey1.trans (by rw [show nI (n + 1) - nI n = nI (n + 1 - n) from pk_sub (by omega), Nat.add_sub_cancel_left]; rfl)
  refine lv_iload_n hx hb dJx4a65c_grow_92f84_24 rfl (lv_at hl 0 rfl) ?_
  refine lv_iconst (v := (1)) hx hb dJx4a65c_grow_92f84_25 (by decide) ?_
  refine lv_ishr hx hb dJx4a65c_grow_92f84_26 ?_
  refine lv_topi (fun y1 ey1 => ?_)
  obtain rfl : y1 = nI (n / 2) := ey1.trans (by have k9 := pk_shrN (n := n) (by omega) ((1 : Int32) &&& 31) 1 (by decide); rw [Nat.pow_one] at k9; exact k9)
  refine mcallSi hw ⟨hx, hb, hml, hown, hts⟩ (c_J8_newLength_cabcc n h2 hn) (va_cwS 3 hts gJx4a65c_grow_92f84_J8_newLength_cabcc rfl rfl rfl (by decide +kernel) ⟨Nat.le_of_ble_eq_true rfl, Nat.le_of_ble_eq_true rfl⟩) rfl hl.1 rfl (Nat.le_of_ble_eq_true rfl) dJx4a65c_grow_92f84_27 ⟨Nat.le_of_ble_eq_true rfl, Nat.le_of_ble_eq_true rfl⟩ ?_
  refine lv_istore_n (lv' := [(3, .int (nI (n + n / 2))), (2, .int (nI (n))), (0, .ref (α (i))), (1, .int (nI (n + 1)))]) hx hb dJx4a65c_grow_92f84_30 rfl hl (by decide) rfl (fun ls hl => ?_)
  refine lv_aload_n hx hb dJx4a65c_grow_92f84_31 rfl (lv_at hl 2 rfl) ?_
  refine lv_aload_n hx hb dJx4a65c_grow_92f84_32 rfl (lv_at hl 2 rfl) ?_
  refine mget (C := RJx4a65c) (T := TJx4a65c) (N := 3) (ci := 0) hx hb hts in_Jx4a65c hown hw (hv) rfl 1 (by decide) fl_9 rfl dJx4a65c_grow_92f84_33 ?_
  refine lv_iload_n hx hb dJx4a65c_grow_92f84_36 rfl (lv_at hl 0 rfl) ?_
  refine mcallSwq hw ⟨hx, hb, hml, hown, hts⟩ hS (c_J7_copyOf_1904c hj hz (by omega) (by omega) hel) (va_cwS 2 hts gJx4a65c_grow_92f84_J7_copyOf_1904c rfl rfl rfl (by decide +kernel) ⟨Nat.le_of_ble_eq_true rfl, Nat.le_of_ble_eq_true rfl⟩) rfl hl.1 rfl (Nat.le_of_ble_eq_true rfl) dJx4a65c_grow_92f84_37 ⟨Nat.le_of_ble_eq_true rfl, Nat.le_of_ble_eq_true rfl⟩ (fun r9 V1 α1 H locs hp hw hS => ?_)
  obtain ⟨rfl, h1, h2⟩ := hp
  dsimp only at h1 h2
  subst h2
  have hiz : i ≠ z := fun q => by rw [q, hz] at hv; cases hv
  have ei : α i = α1 i := (h1 i hiz).symm
  have hjz : j ≠ z := fun q => by rw [q, hz] at hj; cases hj
  have ej : α j = α1 j := (h1 j hjz).symm
  have hv1 := (vup_n V (.inl (G.2.2.2.1, n + n / 2, .inr (.inr (.inr (.inr (va_cpy row (fun _ => none) 0 0 n)))))) hiz).trans hv
  refine W.eq (g2 := F0 m 40 ls [.ref (α1 z), .ref (α1 i)]) (by show F0 m 40 ls [.ref (α1 z), .ref (α i)] = _; rw [ei]) ?_
  refine lv_dup_x1 hx hb dJx4a65c_grow_92f84_40 rfl rfl ?_
  refine mput (C := RJx4a65c) (T := TJx4a65c) (N := 3) (ci := 0) hx hb hts in_Jx4a65c tyJx4a65c tyJx4a65c_ok nmJx4a65c hown hw hS (hv1) rfl 1 (by decide) fl_9 rfl rfl rfl (Nat.le_of_ble_eq_true rfl) dJx4a65c_grow_92f84_41 (fun H locs hw hS => ?_)
  exact W.aret (v := .ref (α1 z)) hx hb hr (Or.inr ⟨_, rfl⟩) (Or.inr ⟨_, rfl⟩) (fun t ht hW => ⟨⟨some (α1 z), (_, α1), rfl, ⟨rfl, h1, rfl⟩, by show mH G _ α1 t.heap; rw [ht]; exact hw.2.2⟩, hS.F ht⟩) hS.2.2 dJx4a65c_grow_92f84_44

set_option maxHeartbeats 4000000 in
set_option maxRecDepth 100000 in
theorem c_grow_A {l : Launch} {G : mG} {V : mV} {α : Nat → Nat} {i z : Nat} {md : Int32} (hv : V i = some (.inr (0, [.int md, .ref G.1.2, .int (nI 0)]))) (hz : V z = none) : Met l yJx4a65c_grow_d5877 wsJx4a65c_grow_d5877 ({ frames := 4, cells := 1, slots := 200, locals := 170 }) (va_Pc [.ref (α (i))] (fun U => mW G V α U U.heap)) (va_Qq (fun (r9 : Option Nat) (u : mV × (Nat → Nat)) => r9 = some (u.2 z) ∧ (∀ x, x ≠ z → u.2 x = α x) ∧ u.1 = vup (vup V z (.inl (G.2.2.2.1, 10, .inr (.inr (.inr (.inr (fun _ => none))))))) i (.inr (0, [.int md, .ref (u.2 z), .int (nI 0)]))) (fun u t => mH G u.1 u.2 t.heap) (mfree G)) 1 200 (mfree G) := by
  refine Met.ofW (cc := cJx4a65c_grow_d5877) (maxL := 1) (ret := (some (.array (.object "java/lang/Object")))) (by decide) rfl ?_
  intro p e s m args below meth c s₁ B hml hv
  obtain ⟨rfl, hw⟩ := hv
  have hw0 := hw
  have hx := B.exec
  have hb := B.bytes
  have hr := B.returns
  have hts := atoms_spec (ws := wsJx4a65c_grow_d5877) B.pre
  have hown : s.vm.findClass RJx4a65c = some m.cls := findClass_of_methodNamed B.named
  have hlocks := B.notSynchronized
  have hS : va_S (mfree G) s.heap s.heap [] := va_S.rf
  have fl_48 := hts (.fieldLink RJx4a65c 48 "java/util/ArrayList" "size" "I") (by decide +kernel)
  have in_Jx4a65c : ∀ w ∈ u_ws RJx4a65c TJx4a65c 3, w ∈ wsJx4a65c_grow_d5877 := by decide +kernel
  have hl := lv_entry ([.ref (α (i))]) (n := 1) (Nat.le_of_ble_eq_true rfl)
  rw [lg_entry_eq]
  generalize (lg_sl ([.ref (α (i))]) ++ List.replicate (1 - (lg_sl ([.ref (α (i))])).length) Slot.unset).toArray = ls at hl ⊢
  have hl : lv_has ls 1 [(0, .ref (α (i)))] := hl
  refine lv_aload_n hx hb dJx4a65c_grow_d5877_0 rfl (lv_at hl 0 rfl) ?_
  refine lv_aload_n hx hb dJx4a65c_grow_d5877_1 rfl (lv_at hl 0 rfl) ?_
  refine mget (C := RJx4a65c) (T := TJx4a65c) (N := 3) (ci := 0) hx hb hts in_Jx4a65c hown hw (hv) rfl 2 (by decide) fl_48 rfl dJx4a65c_grow_d5877_2 ?_
  refine lv_iconst (v := (1)) hx hb dJx4a65c_grow_d5877_5 (by decide) ?_
  refine lv_iadd hx hb dJx4a65c_grow_d5877_6 ?_
  refine lv_topi (fun y1 ey1 => ?_)
  obtain rfl : y1 = nI (0 + 1) := ey1.trans (nI_1 0)
  refine mcallVwq hw (hv) rfl rfl ⟨hx, hb, hml, hown, hts⟩ hS (c_growI_A hv hz) (cwV 1 hts gJx4a65c_grow_d5877_Jx4a65c_grow_92f84 rfl rfl rfl (by decide +kernel) ⟨Nat.le_of_ble_eq_true rfl, Nat.le_of_ble_eq_true rfl⟩) rfl hl.1 rfl (Nat.le_of_ble_eq_true rfl) dJx4a65c_grow_d5877_7 ⟨Nat.le_of_ble_eq_true rfl, Nat.le_of_ble_eq_true rfl⟩ (fun r9 V1 α1 H locs hp hw hS => ?_)
  obtain ⟨rfl, h1, h3⟩ := hp
  dsimp only at h1 h3
  exact W.aret (v := .ref (α1 z)) hx hb hr (Or.inr ⟨_, rfl⟩) (Or.inr ⟨_, rfl⟩) (fun t ht hW => ⟨⟨some (α1 z), (V1, α1), rfl, ⟨rfl, h1, h3⟩, by show mH G V1 α1 t.heap; rw [ht]; exact hw.2.2⟩, hS.F ht⟩) hS.2.2 dJx4a65c_grow_d5877_10

set_option maxHeartbeats 4000000 in
set_option maxRecDepth 100000 in
theorem c_grow_B {l : Launch} {G : mG} {V : mV} {α : Nat → Nat} {i j n z : Nat} {md : Int32} {row : Nat → Option Nat} (hv : V i = some (.inr (0, [.int md, .ref (α j), .int (nI n)]))) (hj : V j = some (.inl (G.2.2.2.1, n, .inr (.inr (.inr (.inr row)))))) (hz : V z = none) (h2 : 2 ≤ n) (hn : n ≤ 120) (hel : mEl V α n row) : Met l yJx4a65c_grow_d5877 wsJx4a65c_grow_d5877 ({ frames := 4, cells := 1, slots := 200, locals := 170 }) (va_Pc [.ref (α (i))] (fun U => mW G V α U U.heap)) (va_Qq (fun (r9 : Option Nat) (u : mV × (Nat → Nat)) => r9 = some (u.2 z) ∧ (∀ x, x ≠ z → u.2 x = α x) ∧ u.1 = vup (vup V z (.inl (G.2.2.2.1, n + n / 2, .inr (.inr (.inr (.inr (va_cpy row (fun _ => none) 0 0 n))))))) i (.inr (0, [.int md, .ref (u.2 z), .int (nI n)]))) (fun u t => mH G u.1 u.2 t.heap) (mfree G)) 1 200 (mfree G) := by
  refine Met.ofW (cc := cJx4a65c_grow_d5877) (maxL := 1) (ret := (some (.array (.object "java/lang/Object")))) (by decide) rfl ?_
  intro p e s m args below meth c s₁ B hml hv
  obtain ⟨rfl, hw⟩ := hv
  have hw0 := hw
  have hx := B.exec
  have hb := B.bytes
  have hr := B.returns
  have hts := atoms_spec (ws := wsJx4a65c_grow_d5877) B.pre
  have hown : s.vm.findClass RJx4a65c = some m.cls := findClass_of_methodNamed B.named
  have hlocks := B.notSynchronized
  have hS : va_S (mfree G) s.heap s.heap [] := va_S.rf
  have fl_48 := hts (.fieldLink RJx4a65c 48 "java/util/ArrayList" "size" "I") (by decide +kernel)
  have in_Jx4a65c : ∀ w ∈ u_ws RJx4a65c TJx4a65c 3, w ∈ wsJx4a65c_grow_d5877 := by decide +kernel
  have hl := lv_entry ([.ref (α (i))]) (n := 1) (Nat.le_of_ble_eq_true rfl)
  rw [lg_entry_eq]
  generalize (lg_sl ([.ref (α (i))]) ++ List.replicate (1 - (lg_sl ([.ref (α (i))])).length) Slot.unset).toArray = ls at hl ⊢
  have hl : lv_has ls 1 [(0, .ref (α (i)))] := hl
  refine lv_aload_n hx hb dJx4a65c_grow_d5877_0 rfl (lv_at hl 0 rfl) ?_
  refine lv_aload_n hx hb dJx4a65c_grow_d5877_1 rfl (lv_at hl 0 rfl) ?_
  refine mget (C := RJx4a65c) (T := TJx4a65c) (N := 3) (ci := 0) hx hb hts in_Jx4a65c hown hw (hv) rfl 2 (by decide) fl_48 rfl dJx4a65c_grow_d5877_2 ?_
  refine lv_iconst (v := (1)) hx hb dJx4a65c_grow_d5877_5 (by decide) ?_
  refine lv_iadd hx hb dJx4a65c_grow_d5877_6 ?_
  refine lv_topi (fun y1 ey1 => ?_)
  obtain rfl : y1 = nI (n + 1) := ey1.trans (nI_1 n)
  refine mcallVwq hw (hv) rfl rfl ⟨hx, hb, hml, hown, hts⟩ hS (c_growI_B hv hj hz h2 hn hel) (cwV 1 hts gJx4a65c_grow_d5877_Jx4a65c_grow_92f84 rfl rfl rfl (by decide +kernel) ⟨Nat.le_of_ble_eq_true rfl, Nat.le_of_ble_eq_true rfl⟩) rfl hl.1 rfl (Nat.le_of_ble_eq_true rfl) dJx4a65c_grow_d5877_7 ⟨Nat.le_of_ble_eq_true rfl, Nat.le_of_ble_eq_true rfl⟩ (fun r9 V1 α1 H locs hp hw hS => ?_)
  obtain ⟨rfl, h1, h3⟩ := hp
  dsimp only at h1 h3
  exact W.aret (v := .ref (α1 z)) hx hb hr (Or.inr ⟨_, rfl⟩) (Or.inr ⟨_, rfl⟩) (fun t ht hW => ⟨⟨some (α1 z), (V1, α1), rfl, ⟨rfl, h1, h3⟩, by show mH G V1 α1 t.heap; rw [ht]; exact hw.2.2⟩, hS.F ht⟩) hS.2.2 dJx4a65c_grow_d5877_10
