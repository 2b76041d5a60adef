set_option maxHeartbeats 4000000 in
set_option maxRecDepth 100000 in
theorem c_add3_N {l : Launch} {G : mG} {V : mV} {α : Nat → Nat} {i n base cap : Nat} {md : Int32} {row : Nat → Option Nat} (hi : i < 100) (hv : V i = some (.inr (0, [.int md, .ref (α (400 + 3 * cap + i)), .int (nI n)]))) (hj : V (400 + 3 * cap + i) = some (.inl (G.2.2.2.1, cap, .inr (.inr (.inr (.inr row)))))) (hcap : cap ≤ 200) (hn : n < cap) (h2 : 2 ≤ cap) (hfree : ∀ c, cap < c → V (400 + 3 * c + i) = none) (hrow : ∀ k, k < n → row k = some (α (base + k))) (hb9 : 100 ≤ base ∧ base + n < 400) {ci : Nat} {vs : List Value} {r : vw_C} (hx9 : V (base + n) = some (.inr (ci, vs))) (hcl : vwCl[ci]? = some r) (hca : (r.1, "java/lang/Object") ∈ MCA) : Met l yJx4a65c_add_72be8 wsJx4a65c_add_72be8 ({ frames := 5, cells := 1, slots := 200, locals := 205 }) (va_Pc [.ref (α (i)), .ref (α (base + n)), .ref (α (400 + 3 * cap + i)), .int (nI (n))] (fun U => mW G V α U U.heap)) (va_Qv (fun (u : mV × (Nat → Nat)) => mLQ G V α u i n base) (fun u t => mH G u.1 u.2 t.heap) (mfree G)) 1 200 (mfree G) := by
  refine Met.ofW (cc := cJx4a65c_add_72be8) (maxL := 4) (ret := none) (by decide) rfl ?_
  intro p e s m args below meth c s₁ B hml hv
  obtain ⟨rfl, hw⟩ := hv
  have hw0 := hw
  have hx := B.exec
  have hb := B.bytes
  have hr := B.returns
  have hts := atoms_spec (ws := wsJx4a65c_add_72be8) B.pre
  have hown : s.vm.findClass RJx4a65c = some m.cls := findClass_of_methodNamed B.named
  have hlocks := B.notSynchronized
  have hS : va_S (mfree G) s.heap s.heap [] := va_S.rf
  have fl_48 := hts (.fieldLink RJx4a65c 48 "java/util/ArrayList" "size" "I") (by decide +kernel)
  have in_Jx4a65c : ∀ w ∈ u_ws RJx4a65c TJx4a65c 3, w ∈ wsJx4a65c_add_72be8 := by decide +kernel
  have hl := lv_entry ([.ref (α (i)), .ref (α (base + n)), .ref (α (400 + 3 * cap + i)), .int (nI (n))]) (n := 4) (Nat.le_of_ble_eq_true rfl)
  rw [lg_entry_eq]
  generalize (lg_sl ([.ref (α (i)), .ref (α (base + n)), .ref (α (400 + 3 * cap + i)), .int (nI (n))]) ++ List.replicate (4 - (lg_sl ([.ref (α (i)), .ref (α (base + n)), .ref (α (400 + 3 * cap + i)), .int (nI (n))])).length) Slot.unset).toArray = ls at hl ⊢
  have hl : lv_has ls 4 [(0, .ref (α (i))), (1, .ref (α (base + n))), (2, .ref (α (400 + 3 * cap + i))), (3, .int (nI (n)))] := hl
  refine lv_iload_n hx hb dJx4a65c_add_72be8_0 rfl (lv_at hl 3 rfl) ?_
  refine lv_aload_n hx hb dJx4a65c_add_72be8_1 rfl (lv_at hl 2 rfl) ?_
  refine maalen hx hb hw hj dJx4a65c_add_72be8_2 ?_
  refine lv_icmp_ne (tgt := 11) hx hb dJx4a65c_add_72be8_3 (by decide) (fun c1 => ?_) (fun z => absurd z (nI_ne cap (by omega) (by omega) (by omega)))
  refine lv_aload_n hx hb dJx4a65c_add_72be8_11 rfl (lv_at hl 2 rfl) ?_
  refine lv_iload_n hx hb dJx4a65c_add_72be8_12 rfl (lv_at hl 3 rfl) ?_
  refine lv_aload_n hx hb dJx4a65c_add_72be8_13 rfl (lv_at hl 1 rfl) ?_
  refine maast (k := n) hx hb hw hS hj hx9 hcl hca rfl hn (by omega) dJx4a65c_add_72be8_14 (fun H locs hw hS => ?_)
  refine lv_aload_n hx hb dJx4a65c_add_72be8_15 rfl (lv_at hl 0 rfl) ?_
  refine lv_iload_n hx hb dJx4a65c_add_72be8_16 rfl (lv_at hl 3 rfl) ?_
  refine lv_iconst (v := (1)) hx hb dJx4a65c_add_72be8_17 (by decide) ?_
  refine lv_iadd hx hb dJx4a65c_add_72be8_18 ?_
  refine lv_topi (fun y1 ey1 => ?_)
  obtain rfl : y1 = nI (n + 1) := ey1.trans (nI_1 n)
  have hv1 := (vup_n V (.inl (G.2.2.2.1, cap, .inr (.inr (.inr (.inr (va_up row n (some (α (base + n))))))))) (show i ≠ 400 + 3 * cap + i by omega)).trans hv
  refine mput (C := RJx4a65c) (T := TJx4a65c) (N := 3) (ci := 0) hx hb hts in_Jx4a65c tyJx4a65c tyJx4a65c_ok nmJx4a65c hown hw hS (hv1) rfl 2 (by decide) fl_48 rfl rfl rfl (Nat.le_of_ble_eq_true rfl) dJx4a65c_add_72be8_19 (fun H locs hw hS => ?_)
  refine W.widen (k := 1) (n := 200) (by omega) (by omega) ?_
  exact W.vret hx hb hr (fun t ht hW => ⟨⟨(_, α), rfl, mLQ.N (by omega) hcap hn h2 hfree hrow, by show mH G _ α t.heap; rw [ht]; exact hw.2.2⟩, hS.F ht⟩) hS.2.2 dJx4a65c_add_72be8_22

set_option maxHeartbeats 4000000 in
set_option maxRecDepth 100000 in
theorem c_add3_A {l : Launch} {G : mG} {V : mV} {α : Nat → Nat} {i base : Nat} {md : Int32} (hi : i < 100) (hv : V i = some (.inr (0, [.int md, .ref G.1.2, .int (nI 0)]))) (hfree : ∀ c, 0 < c → V (400 + 3 * c + i) = none) (hb9 : 100 ≤ base ∧ base + 0 < 400) {ci : Nat} {vs : List Value} {r : vw_C} (hx9 : V (base + 0) = some (.inr (ci, vs))) (hcl : vwCl[ci]? = some r) (hca : (r.1, "java/lang/Object") ∈ MCA) : Met l yJx4a65c_add_72be8 wsJx4a65c_add_72be8 ({ frames := 5, cells := 1, slots := 200, locals := 205 }) (va_Pc [.ref (α (i)), .ref (α (base + 0)), .ref (G.1.2), .int (nI (0))] (fun U => mW G V α U U.heap)) (va_Qv (fun (u : mV × (Nat → Nat)) => mLQ G V α u i 0 base) (fun u t => mH G u.1 u.2 t.heap) (mfree G)) 1 200 (mfree G) := by
  refine Met.ofW (cc := cJx4a65c_add_72be8) (maxL := 4) (ret := none) (by decide) rfl ?_
  intro p e s m args below meth c s₁ B hml hv
  obtain ⟨rfl, hw⟩ := hv
  have hw0 := hw
  have hx := B.exec
  have hb := B.bytes
  have hr := B.returns
  have hts := atoms_spec (ws := wsJx4a65c_add_72be8) B.pre
  have hown : s.vm.findClass RJx4a65c = some m.cls := findClass_of_methodNamed B.named
  have hlocks := B.notSynchronized
  have hS : va_S (mfree G) s.heap s.heap [] := va_S.rf
  have fl_48 := hts (.fieldLink RJx4a65c 48 "java/util/ArrayList" "size" "I") (by decide +kernel)
  have in_Jx4a65c : ∀ w ∈ u_ws RJx4a65c TJx4a65c 3, w ∈ wsJx4a65c_add_72be8 := by decide +kernel
  have hl := lv_entry ([.ref (α (i)), .ref (α (base + 0)), .ref (G.1.2), .int (nI (0))]) (n := 4) (Nat.le_of_ble_eq_true rfl)
  rw [lg_entry_eq]
  generalize (lg_sl ([.ref (α (i)), .ref (α (base + 0)), .ref (G.1.2), .int (nI (0))]) ++ List.replicate (4 - (lg_sl ([.ref (α (i)), .ref (α (base + 0)), .ref (G.1.2), .int (nI (0))])).length) Slot.unset).toArray = ls at hl ⊢
  have hl : lv_has ls 4 [(0, .ref (α (i))), (1, .ref (α (base + 0))), (2, .ref (G.1.2)), (3, .int (nI (0)))] := hl
  refine lv_iload_n hx hb dJx4a65c_add_72be8_0 rfl (lv_at hl 3 rfl) ?_
  refine lv_aload_n hx hb dJx4a65c_add_72be8_1 rfl (lv_at hl 2 rfl) ?_
  refine va_tlen hx hb hw0.2.1.2.2.2 hS rfl dJx4a65c_add_72be8_2 ?_
  refine lv_icmp_ne (tgt := 11) hx hb dJx4a65c_add_72be8_3 (by decide) (fun z => absurd ((by decide)) z) (fun c1 => ?_)
  refine lv_aload_n hx hb dJx4a65c_add_72be8_6 rfl (lv_at hl 0 rfl) ?_
  refine mcallVwq hw (hv) rfl rfl ⟨hx, hb, hml, hown, hts⟩ hS (c_grow_A (z := 400 + 3 * 10 + i) hv (hfree 10 (by omega))) (cwV 0 hts gJx4a65c_add_72be8_Jx4a65c_grow_d5877 rfl rfl rfl (by decide +kernel) ⟨Nat.le_of_ble_eq_true rfl, Nat.le_of_ble_eq_true rfl⟩) rfl hl.1 rfl (Nat.le_of_ble_eq_true rfl) dJx4a65c_add_72be8_7 ⟨Nat.le_of_ble_eq_true rfl, Nat.le_of_ble_eq_true rfl⟩ (fun r9 V1 α1 H locs hp hw hS => ?_)
  obtain ⟨rfl, h1, h3⟩ := hp
  dsimp only at h1 h3
  subst h3
  have ei : α i = α1 i := (h1 i (by omega)).symm
  have ex : α (base + 0) = α1 (base + 0) := (h1 _ (by omega)).symm
  refine lv_astore_n (lv' := [(2, .ref (α1 (400 + 3 * 10 + i))), (0, .ref (α (i))), (1, .ref (α (base + 0))), (3, .int (nI (0)))]) hx hb dJx4a65c_add_72be8_10 rfl hl (by decide) rfl (fun ls hl => ?_)
  have hl : lv_has ls 4 [(2, .ref (α1 (400 + 3 * 10 + i))), (0, .ref (α1 (i))), (1, .ref (α1 (base + 0))), (3, .int (nI (0)))] := by rw [← ei, ← ex]; exact hl
  have hx1 : vup (vup V (400 + 3 * 10 + i) (.inl (G.2.2.2.1, 10, .inr (.inr (.inr (.inr (fun _ => none))))) : va_E)) i (.inr (0, [.int md, .ref (α1 (400 + 3 * 10 + i)), .int (nI 0)]) : va_E) (base + 0) = some (.inr (ci, vs)) := by rw [vup_n _ _ (by omega), vup_n _ _ (by omega)]; exact hx9
  have hj1 : vup (vup V (400 + 3 * 10 + i) (.inl (G.2.2.2.1, 10, .inr (.inr (.inr (.inr (fun _ => none))))) : va_E)) i (.inr (0, [.int md, .ref (α1 (400 + 3 * 10 + i)), .int (nI 0)]) : va_E) (400 + 3 * 10 + i) = some (.inl (G.2.2.2.1, 10, .inr (.inr (.inr (.inr (fun _ => none))))) : va_E) := by rw [vup_n _ _ (by omega), vup_s]
  refine lv_aload_n hx hb dJx4a65c_add_72be8_11 rfl (lv_at hl 0 rfl) ?_
  refine lv_iload_n hx hb dJx4a65c_add_72be8_12 rfl (lv_at hl 3 rfl) ?_
  refine lv_aload_n hx hb dJx4a65c_add_72be8_13 rfl (lv_at hl 2 rfl) ?_
  refine maast (k := 0) hx hb hw hS hj1 hx1 hcl hca rfl (by omega) (by omega) dJx4a65c_add_72be8_14 (fun H locs hw hS => ?_)
  refine lv_aload_n hx hb dJx4a65c_add_72be8_15 rfl (lv_at hl 1 rfl) ?_
  refine lv_iload_n hx hb dJx4a65c_add_72be8_16 rfl (lv_at hl 3 rfl) ?_
  refine lv_iconst (v := (1)) hx hb dJx4a65c_add_72be8_17 (by decide) ?_
  refine lv_iadd hx hb dJx4a65c_add_72be8_18 ?_
  refine lv_topi (fun y1 ey1 => ?_)
  obtain rfl : y1 = nI (0 + 1) := ey1.trans (nI_1 0)
  have hv1 := (vup_n (vup (vup V (400 + 3 * 10 + i) (.inl (G.2.2.2.1, 10, .inr (.inr (.inr (.inr (fun _ => none))))) : va_E)) i (.inr (0, [.int md, .ref (α1 (400 + 3 * 10 + i)), .int (nI 0)]) : va_E)) (.inl (G.2.2.2.1, 10, .inr (.inr (.inr (.inr (va_up (fun _ => none) 0 (some (α1 (base + 0))))))))) (show i ≠ 400 + 3 * 10 + i by omega)).trans (vup_s _ _ _)
  refine mput (C := RJx4a65c) (T := TJx4a65c) (N := 3) (ci := 0) hx hb hts in_Jx4a65c tyJx4a65c tyJx4a65c_ok nmJx4a65c hown hw hS (hv1) rfl 2 (by decide) fl_48 rfl rfl rfl (Nat.le_of_ble_eq_true rfl) dJx4a65c_add_72be8_19 (fun H locs hw hS => ?_)
  exact W.vret hx hb hr (fun t ht hW => ⟨⟨(_, α1), rfl, mLQ.G (cap0 := 0) (by omega) (by omega) (by omega) (by omega) (by omega) hfree h1 (fun k hk => by omega) (by omega), by show mH G _ α1 t.heap; rw [ht]; exact hw.2.2⟩, hS.F ht⟩) hS.2.2 dJx4a65c_add_72be8_22

set_option maxHeartbeats 4000000 in
set_option maxRecDepth 100000 in
theorem c_add3_B {l : Launch} {G : mG} {V : mV} {α : Nat → Nat} {i n base : Nat} {md : Int32} {row : Nat → Option Nat} (hi : i < 100) (hv : V i = some (.inr (0, [.int md, .ref (α (400 + 3 * n + i)), .int (nI n)]))) (hj : V (400 + 3 * n + i) = some (.inl (G.2.2.2.1, n, .inr (.inr (.inr (.inr row)))))) (hn : n < 80) (h2 : 2 ≤ n) (hfree : ∀ c, n < c → V (400 + 3 * c + i) = none) (hrow : ∀ k, k < n → row k = some (α (base + k))) (hel : mEl V α n row) (hb9 : 100 ≤ base ∧ base + n < 400) {ci : Nat} {vs : List Value} {r : vw_C} (hx9 : V (base + n) = some (.inr (ci, vs))) (hcl : vwCl[ci]? = some r) (hca : (r.1, "java/lang/Object") ∈ MCA) : Met l yJx4a65c_add_72be8 wsJx4a65c_add_72be8 ({ frames := 5, cells := 1, slots := 200, locals := 205 }) (va_Pc [.ref (α (i)), .ref (α (base + n)), .ref (α (400 + 3 * n + i)), .int (nI (n))] (fun U => mW G V α U U.heap)) (va_Qv (fun (u : mV × (Nat → Nat)) => mLQ G V α u i n base) (fun u t => mH G u.1 u.2 t.heap) (mfree G)) 1 200 (mfree G) := by
  refine Met.ofW (cc := cJx4a65c_add_72be8) (maxL := 4) (ret := none) (by decide) rfl ?_
  intro p e s m args below meth c s₁ B hml hv
  obtain ⟨rfl, hw⟩ := hv
  have hw0 := hw
  have hx := B.exec
  have hb := B.bytes
  have hr := B.returns
  have hts := atoms_spec (ws := wsJx4a65c_add_72be8) B.pre
  have hown : s.vm.findClass RJx4a65c = some m.cls := findClass_of_methodNamed B.named
  have hlocks := B.notSynchronized
  have hS : va_S (mfree G) s.heap s.heap [] := va_S.rf
  have fl_48 := hts (.fieldLink RJx4a65c 48 "java/util/ArrayList" "size" "I") (by decide +kernel)
  have in_Jx4a65c : ∀ w ∈ u_ws RJx4a65c TJx4a65c 3, w ∈ wsJx4a65c_add_72be8 := by decide +kernel
  have hl := lv_entry ([.ref (α (i)), .ref (α (base + n)), .ref (α (400 + 3 * n + i)), .int (nI (n))]) (n := 4) (Nat.le_of_ble_eq_true rfl)
  rw [lg_entry_eq]
  generalize (lg_sl ([.ref (α (i)), .ref (α (base + n)), .ref (α (400 + 3 * n + i)), .int (nI (n))]) ++ List.replicate (4 - (lg_sl ([.ref (α (i)), .ref (α (base + n)), .ref (α (400 + 3 * n + i)), .int (nI (n))])).length) Slot.unset).toArray = ls at hl ⊢
  have hl : lv_has ls 4 [(0, .ref (α (i))), (1, .ref (α (base + n))), (2, .ref (α (400 + 3 * n + i))), (3, .int (nI (n)))] := hl
  refine lv_iload_n hx hb dJx4a65c_add_72be8_0 rfl (lv_at hl 3 rfl) ?_
  refine lv_aload_n hx hb dJx4a65c_add_72be8_1 rfl (lv_at hl 2 rfl) ?_
  refine maalen hx hb hw hj dJx4a65c_add_72be8_2 ?_
  refine lv_icmp_ne (tgt := 11) hx hb dJx4a65c_add_72be8_3 (by decide) (fun z => absurd (rfl) z) (fun c1 => ?_)
  refine lv_aload_n hx hb dJx4a65c_add_72be8_6 rfl (lv_at hl 0 rfl) ?_
  refine mcallVwq hw (hv) rfl rfl ⟨hx, hb, hml, hown, hts⟩ hS (c_grow_B (z := 400 + 3 * (n + n / 2) + i) hv hj (hfree _ (by omega)) h2 (by omega) hel) (cwV 0 hts gJx4a65c_add_72be8_Jx4a65c_grow_d5877 rfl rfl rfl (by decide +kernel) ⟨Nat.le_of_ble_eq_true rfl, Nat.le_of_ble_eq_true rfl⟩) rfl hl.1 rfl (Nat.le_of_ble_eq_true rfl) dJx4a65c_add_72be8_7 ⟨Nat.le_of_ble_eq_true rfl, Nat.le_of_ble_eq_true rfl⟩ (fun r9 V1 α1 H locs hp hw hS => ?_)
  obtain ⟨rfl, h1, h3⟩ := hp
  dsimp only at h1 h3
  subst h3
  have ei : α i = α1 i := (h1 i (by omega)).symm
  have ex : α (base + n) = α1 (base + n) := (h1 _ (by omega)).symm
  refine lv_astore_n (lv' := [(2, .ref (α1 (400 + 3 * (n + n / 2) + i))), (0, .ref (α (i))), (1, .ref (α (base + n))), (3, .int (nI (n)))]) hx hb dJx4a65c_add_72be8_10 rfl hl (by decide) rfl (fun ls hl => ?_)
  have hl : lv_has ls 4 [(2, .ref (α1 (400 + 3 * (n + n / 2) + i))), (0, .ref (α1 (i))), (1, .ref (α1 (base + n))), (3, .int (nI (n)))] := by rw [← ei, ← ex]; exact hl
  have hx1 : vup (vup V (400 + 3 * (n + n / 2) + i) (.inl (G.2.2.2.1, (n + n / 2), .inr (.inr (.inr (.inr (va_cpy row (fun _ => none) 0 0 n))))) : va_E)) i (.inr (0, [.int md, .ref (α1 (400 + 3 * (n + n / 2) + i)), .int (nI n)]) : va_E) (base + n) = some (.inr (ci, vs)) := by rw [vup_n _ _ (by omega), vup_n _ _ (by omega)]; exact hx9
  have hj1 : vup (vup V (400 + 3 * (n + n / 2) + i) (.inl (G.2.2.2.1, (n + n / 2), .inr (.inr (.inr (.inr (va_cpy row (fun _ => none) 0 0 n))))) : va_E)) i (.inr (0, [.int md, .ref (α1 (400 + 3 * (n + n / 2) + i)), .int (nI n)]) : va_E) (400 + 3 * (n + n / 2) + i) = some (.inl (G.2.2.2.1, (n + n / 2), .inr (.inr (.inr (.inr (va_cpy row (fun _ => none) 0 0 n))))) : va_E) := by rw [vup_n _ _ (by omega), vup_s]
  refine lv_aload_n hx hb dJx4a65c_add_72be8_11 rfl (lv_at hl 0 rfl) ?_
  refine lv_iload_n hx hb dJx4a65c_add_72be8_12 rfl (lv_at hl 3 rfl) ?_
  refine lv_aload_n hx hb dJx4a65c_add_72be8_13 rfl (lv_at hl 2 rfl) ?_
  refine maast (k := n) hx hb hw hS hj1 hx1 hcl hca rfl (by omega) (by omega) dJx4a65c_add_72be8_14 (fun H locs hw hS => ?_)
  refine lv_aload_n hx hb dJx4a65c_add_72be8_15 rfl (lv_at hl 1 rfl) ?_
  refine lv_iload_n hx hb dJx4a65c_add_72be8_16 rfl (lv_at hl 3 rfl) ?_
  refine lv_iconst (v := (1)) hx hb dJx4a65c_add_72be8_17 (by decide) ?_
  refine lv_iadd hx hb dJx4a65c_add_72be8_18 ?_
  refine lv_topi (fun y1 ey1 => ?_)
  obtain rfl : y1 = nI (n + 1) := ey1.trans (nI_1 n)
  have hv1 := (vup_n (vup (vup V (400 + 3 * (n + n / 2) + i) (.inl (G.2.2.2.1, (n + n / 2), .inr (.inr (.inr (.inr (va_cpy row (fun _ => none) 0 0 n))))) : va_E)) i (.inr (0, [.int md, .ref (α1 (400 + 3 * (n + n / 2) + i)), .int (nI n)]) : va_E)) (.inl (G.2.2.2.1, (n + n / 2), .inr (.inr (.inr (.inr (va_up (va_cpy row (fun _ => none) 0 0 n) n (some (α1 (base + n))))))))) (show i ≠ 400 + 3 * (n + n / 2) + i by omega)).trans (vup_s _ _ _)
  refine mput (C := RJx4a65c) (T := TJx4a65c) (N := 3) (ci := 0) hx hb hts in_Jx4a65c tyJx4a65c tyJx4a65c_ok nmJx4a65c hown hw hS (hv1) rfl 2 (by decide) fl_48 rfl rfl rfl (Nat.le_of_ble_eq_true rfl) dJx4a65c_add_72be8_19 (fun H locs hw hS => ?_)
  exact W.vret hx hb hr (fun t ht hW => ⟨⟨(_, α1), rfl, mLQ.G (cap0 := n) (by omega) (by omega) (by omega) (by omega) (by omega) hfree h1 (cpy_row hrow) (by omega), by show mH G _ α1 t.heap; rw [ht]; exact hw.2.2⟩, hS.F ht⟩) hS.2.2 dJx4a65c_add_72be8_22

theorem c_add3 {l : Launch} {G : mG} {V : mV} {α : Nat → Nat} {i n base ed : Nat} {md : Int32} (hi : i < 100) (h : mLs G V α i n base) (hv : V i = some (.inr (0, [.int md, .ref ed, .int (nI n)]))) (hn : n < 80) (hels : ∀ k, k < n → ∃ (ci : Nat) (vs : List Value) (r : vw_C), V (base + k) = some (.inr (ci, vs)) ∧ vwCl[ci]? = some r ∧ (r.1, "java/lang/Object") ∈ MCA) (hb9 : 100 ≤ base ∧ base + n < 400) {ci : Nat} {vs : List Value} {r : vw_C} (hx9 : V (base + n) = some (.inr (ci, vs))) (hcl : vwCl[ci]? = some r) (hca : (r.1, "java/lang/Object") ∈ MCA) : Met l yJx4a65c_add_72be8 wsJx4a65c_add_72be8 ({ frames := 5, cells := 1, slots := 200, locals := 205 }) (va_Pc [.ref (α i), .ref (α (base + n)), .ref ed, .int (nI n)] (fun U => mW G V α U U.heap)) (va_Qv (fun (u : mV × (Nat → Nat)) => mLQ G V α u i n base) (fun u t => mH G u.1 u.2 t.heap) (mfree G)) 1 200 (mfree G) := by
  obtain ⟨md0, cap, row, h1, h2, h3, ⟨g1, g2, g3⟩ | ⟨g1, g2, g3, g4⟩⟩ := h
  · subst g1
    subst g2
    rw [g3] at hv
    cases hv
    exact c_add3_A hi g3 h3 hb9 hx9 hcl hca
  · rw [g2] at hv
    cases hv
    rcases Nat.lt_or_ge n cap with hlt | hge
    · exact c_add3_N hi g2 g3 h2 hlt g1 h3 g4 hb9 hx9 hcl hca
    · have hcn : cap = n := by omega
      subst hcn
      refine c_add3_B hi g2 g3 hn g1 h3 g4 (fun k hk y hy => ?_) hb9 hx9 hcl hca
      rw [g4 k hk] at hy
      cases hy
      obtain ⟨ci1, vs1, r1, q1, q2, q3⟩ := hels k hk
      exact ⟨_, ci1, vs1, r1, rfl, q1, q2, q3⟩

set_option maxHeartbeats 4000000 in
set_option maxRecDepth 100000 in
theorem c_ladd {l : Launch} {G : mG} {V : mV} {α : Nat → Nat} {i n base : Nat} (hi : i < 100) (h : mLs G V α i n base) (hn : n < 80) (hels : ∀ k, k < n → ∃ (ci : Nat) (vs : List Value) (r : vw_C), V (base + k) = some (.inr (ci, vs)) ∧ vwCl[ci]? = some r ∧ (r.1, "java/lang/Object") ∈ MCA) (hb9 : 100 ≤ base ∧ base + n < 400) {ci : Nat} {vs : List Value} {r : vw_C} (hx9 : V (base + n) = some (.inr (ci, vs))) (hcl : vwCl[ci]? = some r) (hca : (r.1, "java/lang/Object") ∈ MCA) : Met l yJx4a65c_add_9ea2d wsJx4a65c_add_9ea2d ({ frames := 6, cells := 1, slots := 200, locals := 245 }) (va_Pc [.ref (α (i)), .ref (α (base + n))] (fun U => mW G V α U U.heap)) (va_Qi (fun (r9 : Int32) (u : mV × (Nat → Nat)) => mLQ G V α u i n base) (fun u t => mH G u.1 u.2 t.heap) (mfree G)) 1 200 (mfree G) := by
  refine Met.ofW (cc := cJx4a65c_add_9ea2d) (maxL := 2) (ret := (some .boolean)) (by decide) rfl ?_
  intro p e s m args below meth c s₁ B hml hv
  obtain ⟨rfl, hw⟩ := hv
  have hw0 := hw
  have hx := B.exec
  have hb := B.bytes
  have hr := B.returns
  have hts := atoms_spec (ws := wsJx4a65c_add_9ea2d) B.pre
  have hown : s.vm.findClass RJx4a65c = some m.cls := findClass_of_methodNamed B.named
  have hlocks := B.notSynchronized
  have hS : va_S (mfree G) s.heap s.heap [] := va_S.rf
  have sf := hts (.sameField "java/util/ArrayList" "java/util/AbstractList" "modCount" "I") (by decide +kernel)
  have f63 := hts (.fieldLink RJx4a65c 63 "java/util/ArrayList" "modCount" "I") (by decide +kernel)
  obtain ⟨md, ed, hv⟩ := h.obj
  have in_Jx4a65c : ∀ w ∈ u_ws RJx4a65c TJx4a65c 3, w ∈ wsJx4a65c_add_9ea2d := by decide +kernel
  have fl_9 := hts (.fieldLink RJx4a65c 9 "java/util/ArrayList" "elementData" "[Ljava/lang/Object;") (by decide +kernel)
  have fl_48 := hts (.fieldLink RJx4a65c 48 "java/util/ArrayList" "size" "I") (by decide +kernel)
  have hl := lv_entry ([.ref (α (i)), .ref (α (base + n))]) (n := 2) (Nat.le_of_ble_eq_true rfl)
  rw [lg_entry_eq]
  generalize (lg_sl ([.ref (α (i)), .ref (α (base + n))]) ++ List.replicate (2 - (lg_sl ([.ref (α (i)), .ref (α (base + n))])).length) Slot.unset).toArray = ls at hl ⊢
  have hl : lv_has ls 2 [(0, .ref (α (i))), (1, .ref (α (base + n)))] := hl
  refine lv_aload_n hx hb dJx4a65c_add_9ea2d_0 rfl (lv_at hl 0 rfl) ?_
  refine lv_dup hx hb dJx4a65c_add_9ea2d_1 rfl ?_
  refine mgetR (C := RJx4a65c) (T := TJx4a65c) (N := 3) (ci := 0) hx hb hts in_Jx4a65c hown hw hv rfl 0 (by decide) f63 (fun x9 h9 => u_same sf x9 h9) rfl dJx4a65c_add_9ea2d_2 ?_
  refine lv_iconst (v := (1)) hx hb dJx4a65c_add_9ea2d_5 (by decide) ?_
  refine lv_iadd hx hb dJx4a65c_add_9ea2d_6 ?_
  refine mputR (C := RJx4a65c) (T := TJx4a65c) (N := 3) (ci := 0) hx hb hts in_Jx4a65c tyJx4a65c tyJx4a65c_ok nmJx4a65c hown hw hS hv rfl 0 (by decide) f63 (fun x9 h9 => u_same sf x9 h9) rfl rfl rfl (Nat.le_of_ble_eq_true rfl) dJx4a65c_add_9ea2d_7 (fun H locs hw hS => ?_)
  have hv1 : vup V i (.inr (0, [.int (md + 1), .ref ed, .int (nI n)])) i = some (.inr (0, [.int (md + 1), .ref ed, .int (nI n)])) := vup_s _ _ _
  have hw : mW G (vup V i (.inr (0, [.int (md + 1), .ref ed, .int (nI n)]))) α s H := hw
  refine lv_aload_n hx hb dJx4a65c_add_9ea2d_10 rfl (lv_at hl 0 rfl) ?_
  refine lv_aload_n hx hb dJx4a65c_add_9ea2d_11 rfl (lv_at hl 1 rfl) ?_
  refine lv_aload_n hx hb dJx4a65c_add_9ea2d_12 rfl (lv_at hl 0 rfl) ?_
  refine mget (C := RJx4a65c) (T := TJx4a65c) (N := 3) (ci := 0) hx hb hts in_Jx4a65c hown hw (hv1) rfl 1 (by decide) fl_9 rfl dJx4a65c_add_9ea2d_13 ?_
  refine lv_aload_n hx hb dJx4a65c_add_9ea2d_16 rfl (lv_at hl 0 rfl) ?_
  refine mget (C := RJx4a65c) (T := TJx4a65c) (N := 3) (ci := 0) hx hb hts in_Jx4a65c hown hw (hv1) rfl 2 (by decide) fl_48 rfl dJx4a65c_add_9ea2d_17 ?_
  have hx1 := (vup_n V (.inr (0, [.int (md + 1), .ref ed, .int (nI n)])) (show base + n ≠ i by omega)).trans hx9
  have he1 : ∀ k, k < n → ∃ (ci : Nat) (vs : List Value) (r : vw_C), vup V i (.inr (0, [.int (md + 1), .ref ed, .int (nI n)])) (base + k) = some (.inr (ci, vs)) ∧ vwCl[ci]? = some r ∧ (r.1, "java/lang/Object") ∈ MCA := fun k hk => by obtain ⟨c1, v1, r1, q1, q2, q3⟩ := hels k hk; exact ⟨c1, v1, r1, (vup_n _ _ (by omega)).trans q1, q2, q3⟩
  refine mcallVwv hw (hv1) rfl rfl ⟨hx, hb, hml, hown, hts⟩ hS (c_add3 hi (h.md (by omega) hv (md + 1)) hv1 hn he1 hb9 hx1 hcl hca) (cwV 3 hts gJx4a65c_add_9ea2d_Jx4a65c_add_72be8 rfl rfl rfl (by decide +kernel) ⟨Nat.le_of_ble_eq_true rfl, Nat.le_of_ble_eq_true rfl⟩) rfl hl.1 rfl (Nat.le_of_ble_eq_true rfl) dJx4a65c_add_9ea2d_20 ⟨Nat.le_of_ble_eq_true rfl, Nat.le_of_ble_eq_true rfl⟩ (fun V1 α1 H locs hp hw hS => ?_)
  refine lv_iconst (v := (1)) hx hb dJx4a65c_add_9ea2d_23 (by decide) ?_
  obtain ⟨p1, p2, p3⟩ := hp
  dsimp only at p1 p2 p3
  exact W.zret (v := 1) hx hb hr rfl (fun t ht hW => ⟨⟨_, (V1, α1), rfl, ⟨p1, fun x q1 q2 => (p2 x q1 q2).trans (vup_n _ _ q1), p3⟩, by show mH G V1 α1 t.heap; rw [ht]; exact hw.2.2⟩, hS.F ht⟩) hS.2.2 dJx4a65c_add_9ea2d_24
