/-! the start: what the Statement gives of it -/
theorem st_arr {s : State} {args : Array Value} {ty : FieldType} (h : (Cond.arrayClass ty).before args s = true) : ∃ cA, s.vm.findClass ("[" ++ ty.toString) = some cA ∧ ∃ (kA : Class) (comp : ClassId), s.vm.classes[cA]? = some kA ∧ kA.kind = .array comp ty := by
  obtain ⟨c, k, comp, h1, h2, h3⟩ := Cond.arrayClass_spec h
  exact ⟨c, h1, k, comp, h2, h3⟩
theorem st_ca : ∀ q ∈ MCA, Cond.castable q.1 q.2 ∈ tables_1 := by decide +kernel
theorem st_de : ∀ x ∈ MDE, Cond.declares x ∈ tables_1 := by decide +kernel
theorem st_str : ∀ q ∈ MSTR, Cond.stringRef q.1 q.2.1 q.2.2 ∈ tables_1 := by decide +kernel
theorem st_ao : Cond.arrayOver (.object "java/lang/Object") ∈ tables_1 := by decide +kernel
theorem st_l1 : Cond.laysStatic Bundle.tN "UNASSIGNED_STACK" Bundle.steD ∈ tables_1 := by decide +kernel
theorem st_l2 : Cond.laysStatic Bundle.tN "SUPPRESSED_SENTINEL" Bundle.listD ∈ tables_1 := by decide +kernel
theorem st_l3 : Cond.laysStatic "java/util/ArrayList" "DEFAULTCAPACITY_EMPTY_ELEMENTDATA" "[Ljava/lang/Object;" ∈ tables_1 := by decide +kernel
theorem st_i1 : Cond.initialized Bundle.tN ∈ tables_1 := by decide +kernel
theorem st_i2 : Cond.initialized "java/util/ArrayList" ∈ tables_1 := by decide +kernel
theorem st_l0 (l : Launch) (h : l.flags = flags0) : l.stackTraces = false := by
  unfold Launch.stackTraces
  rw [h]
  decide +kernel
set_option maxHeartbeats 1000000 in
theorem st_world {s : State} {b : Nat} (hts0 : ∀ w ∈ lw_tbl, w.before #[Value.ref b] s = true) (hgv : (Jvm.Cond.and given_1 narrow_1).before #[Value.ref b] s = true) : ∃ G : mG, G.1.1 = s.heap.size ∧ mW G (fun _ => none) (fun _ => 0) s s.heap := by
  have hs := flat_of_before _ hgv
  have ht : ∀ w ∈ tables_1, w.before #[Value.ref b] s = true := fun w hw => hts0 w (List.mem_append_right _ hw)
  have hts : ∀ w ∈ wsL_law, w.before #[Value.ref b] s = true := fun w hw => hts0 w (wsL_law_in w hw)
  have hA : ∀ a : Nat, a < s.heap.size → ¬ (fun q : Nat => s.heap.size ≤ q) a := fun a h1 h2 => Nat.not_le.mpr h1 h2
  obtain ⟨c0, i0, hK0⟩ := u_known (C := RJx4a65c) (T := TJx4a65c) (N := 3) (n := 3) hts inlJx4a65c (hts (.instantiable RJx4a65c 3) (by decide +kernel))
  obtain ⟨c1, i1, hK1⟩ := u_known (C := RX0) (T := TX0) (N := 7) (n := 7) hts inlX0 (hts (.instantiable RX0 7) (by decide +kernel))
  obtain ⟨c2, i2, hK2⟩ := u_known (C := RX1) (T := TX1) (N := 5) (n := 5) hts inlX1 (hts (.instantiable RX1 5) (by decide +kernel))
  obtain ⟨c3, i3, hK3⟩ := u_known (C := RX2) (T := TX2) (N := 1) (n := 1) hts inlX2 (hts (.instantiable RX2 1) (by decide +kernel))
  obtain ⟨c4, i4, hK4⟩ := u_known (C := RX3) (T := TX3) (N := 5) (n := 5) hts inlX3 (hts (.instantiable RX3 5) (by decide +kernel))
  obtain ⟨D, hD⟩ : ∃ D : va_G, ∀ (k : Nat) (q : vw_C), vwCl[k]? = some q → u_Kn s q.1 q.2.1 q.2.2 (D.1 k) (D.2 k) := by
    refine ⟨(fun k => match k with | 0 => c0 | 1 => c1 | 2 => c2 | 3 => c3 | _ => c4, fun k => match k with | 0 => i0 | 1 => i1 | 2 => i2 | 3 => i3 | _ => i4), ?_⟩
    intro k q hq
    match k, hq with
    | 0, hq => cases hq; exact hK0
    | 1, hq => cases hq; exact hK1
    | 2, hq => cases hq; exact hK2
    | 3, hq => cases hq; exact hK3
    | 4, hq => cases hq; exact hK4
    | k + 5, hq => simp at hq
  obtain ⟨cI, n1, kI, pI, a1, b1⟩ := st_arr (hts (.arrayClass .int) (by decide +kernel))
  obtain ⟨cZ, n2, kZ, pZ, a2, b2⟩ := st_arr (hts (.arrayClass .boolean) (by decide +kernel))
  obtain ⟨pO, cO, kO, o1, o2, a4, b4, n4⟩ := Cond.arrayOver_spec (ht _ st_ao)
  obtain ⟨mi, hmi⟩ := va_Mi.of (hs (.isRef (.mirror "[Ljava/lang/Object;")) (by decide +kernel))
  have hlen : (Term.length (.static "java/util/ArrayList" "DEFAULTCAPACITY_EMPTY_ELEMENTDATA" "[Ljava/lang/Object;")).eval #[Value.ref b] s none [] s = some (.int (Int32.ofNat 0)) := Cond.eq_int (hs (.eq (.length (.static "java/util/ArrayList" "DEFAULTCAPACITY_EMPTY_ELEMENTDATA" "[Ljava/lang/Object;")) (.int 0)) (by decide +kernel)) rfl
  obtain ⟨tE, e1, e2⟩ := va_Tof (N := 0) (f := fun _ => .null) (A := fun q : Nat => s.heap.size ≤ q) (by decide) (hs (.arrayOf (.static "java/util/ArrayList" "DEFAULTCAPACITY_EMPTY_ELEMENTDATA" "[Ljava/lang/Object;") (.object "java/lang/Object")) (by decide +kernel)) hlen (fun j hj => by omega) hA
  refine ⟨((s.heap.size, tE), D, (cI, cZ), (cO, (cO, mi))), rfl, ⟨⟨hD, ?_⟩, ?_, ?_, ?_, ?_, hmi, va_AO.of (ht _ st_ao)⟩, ⟨?_, ?_, ?_, e2⟩, ?_, ?_, Nat.le_refl _⟩
  · intro k q hq
    match k, hq with
    | 0, hq => cases hq; exact ⟨fun n z => ⟨fun k h => (by cases h), kI, a1, pI, b1⟩, n1⟩
    | 1, hq => cases hq; exact ⟨fun n z => ⟨fun k h => (by cases h), kZ, a2, pZ, b2⟩, n2⟩
    | 2, hq => cases hq; exact ⟨fun n z => ⟨fun k h => (by cases h), kO, a4, pO, b4⟩, kO, pO, a4, b4, o1, n4⟩
    | k + 3, hq => simp at hq
  · intro q hq
    have h1 : (Cond.exactly (.string q.1 q.2.1) "java/lang/String").before #[Value.ref b] s = true := by
      simp only [MSTR, List.mem_cons, List.not_mem_nil, or_false] at hq
      rcases hq with rfl | rfl | rfl | rfl | rfl | rfl | rfl | rfl | rfl | rfl | rfl
      · exact hs (.exactly (.string "RosterPay" 38) "java/lang/String") (by decide +kernel)
      · exact hs (.exactly (.string "RosterPay" 53) "java/lang/String") (by decide +kernel)
      · exact hs (.exactly (.string "RosterPay" 73) "java/lang/String") (by decide +kernel)
      · exact hs (.exactly (.string "RosterPay" 75) "java/lang/String") (by decide +kernel)
      · exact hs (.exactly (.string "RosterPay" 94) "java/lang/String") (by decide +kernel)
      · exact hs (.exactly (.string "RosterPay" 166) "java/lang/String") (by decide +kernel)
      · exact hs (.exactly (.string "RosterPay" 168) "java/lang/String") (by decide +kernel)
      · exact hs (.exactly (.string "RosterPay" 172) "java/lang/String") (by decide +kernel)
      · exact hs (.exactly (.string "RosterPay" 175) "java/lang/String") (by decide +kernel)
      · exact hs (.exactly (.string "RosterPay" 177) "java/lang/String") (by decide +kernel)
      · exact hs (.exactly (.string "RosterPay" 179) "java/lang/String") (by decide +kernel)
    obtain ⟨a, _, _, _, h2, -⟩ := Cond.exactly_spec h1
    exact ⟨a, vk_R.of (ht _ (st_str q hq)) h2⟩
  · exact fun q hq => va_Nw.of rfl (ht _ (st_ca q hq))
  · exact fun x hx => va_Nw.of rfl (ht _ (st_de x hx))
  · intro q hq
    simp only [MNC, List.mem_cons, List.not_mem_nil, or_false] at hq
    rcases hq with rfl | rfl | rfl
    · exact va_Nc.of (hs (.not (.castable "java/lang/IllegalArgumentException" "java/lang/IndexOutOfBoundsException")) (by decide +kernel))
    · exact va_Nc.of (hs (.not (.castable "java/lang/IllegalStateException" "java/lang/IndexOutOfBoundsException")) (by decide +kernel))
    · exact va_Nc.of (hs (.not (.castable "java/lang/IllegalStateException" "java/lang/IllegalArgumentException")) (by decide +kernel))
  · exact vx_Zqof (ht _ st_l1) (ht _ st_i1) (hs (.isRef (.static Bundle.tN "UNASSIGNED_STACK" Bundle.steD)) (by decide +kernel)) hA
  · exact vx_Zqof (ht _ st_l2) (ht _ st_i1) (hs (.isRef (.static Bundle.tN "SUPPRESSED_SENTINEL" Bundle.listD)) (by decide +kernel)) hA
  · exact va_Zref (ht _ st_l3) (ht _ st_i2) e1 hA
  · intro i e h
    cases h
  · intro i j e f h
    cases h
set_option maxHeartbeats 1000000 in
theorem whole_start {p : Program} {e : Env} {s : State} {m : MethodId} {below : List Frame} {meth : Method} {c : Code} (l : Launch) (hflags : l.flags = flags0) {b L : Nat} {xs : Nat → Int32} (hL : L ≤ 260) (C0 : lw_At p s m meth c b L xs) : W p l e room_1 s m #[Value.ref b] below meth c s.heap [] 0 0 (lw_Z below #[Value.ref b] s) (entryFrame m ([Value.ref b] : List Value).toArray 5) := by
  obtain ⟨hx, hb, hr, hml, hown, hts, hX, hbl, hlocks, hgv⟩ := id C0
  obtain ⟨G, hG, hw⟩ := st_world hts hgv
  have hbA : ¬ mfree G b := fun h => by
    unfold mfree at h
    rw [hG] at h
    exact Nat.not_le.mpr hbl h
  have hF : mFix p l s m #[Value.ref b] c G b L xs := ⟨st_l0 l hflags, hx, hb, hml, hown, fun w hw => hts w (wsL_law_in w hw), hX, hbl, hbA, hL⟩
  have hl := lv_entry ([.ref b]) (n := 5) (Nat.le_of_ble_eq_true rfl)
  rw [lg_entry_eq]
  generalize (lg_sl ([.ref b]) ++ List.replicate (5 - (lg_sl ([.ref b])).length) Slot.unset).toArray = ls at hl ⊢
  have hl : lv_has ls 5 [(0, .ref b)] := hl
  refine law_entry hF (fun H locs cells slots ls hS hc hs9 => ?_) hw hl
  refine va_forget (fun q hq => by have h9 := hS.2.2 q hq; unfold mfree at h9; rw [hG] at h9; exact h9) ?_
  refine W.widen (k := 669568) (n := 7092993) hc hs9 ?_
  refine lv_iconst (v := 1) hx hb dL_law_190 (by decide) ?_
  exact lw_ret hx hb hr hlocks dL_law_191
