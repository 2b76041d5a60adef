/-! the law from its entry on -/
theorem mC.mv0 {G : mG} {V V1 : mV} {α α1 : Nat → Nat} {f : sT} (h : mC G V α f 0 0 0) (hV : ∀ j, (j < 9 ∨ 25 ≤ j) → V1 j = V j) (hα : ∀ j, (j < 9 ∨ 25 ≤ j) → α1 j = α j) : mC G V1 α1 f 0 0 0 := by
  obtain ⟨k0, k1, k2, l3, l4, l5, cR, cW, cS, fR, fW, fS⟩ := h
  refine ⟨?_, (hV _ (by omega)).trans k1, (hV _ (by omega)).trans k2, l3.mv (fun j hj => hV j (by omega)) (fun j hj => hα j (by omega)), l4.mv (fun j hj => hV j (by omega)) (fun j hj => hα j (by omega)), l5.mv (fun j hj => hV j (by omega)) (fun j hj => hα j (by omega)),
    fun z hz => by omega, fun z hz => by omega, fun z hz => by omega, fun z h1 h2 => (hV _ (by omega)).trans (fR z h1 h2), fun z h1 h2 => (hV _ (by omega)).trans (fW z h1 h2), fun z h1 h2 => (hV _ (by omega)).trans (fS z h1 h2)⟩
  rw [hV 0 (by omega), k0]
  unfold cobj
  rw [hα 1 (by omega), hα 2 (by omega), hα 3 (by omega), hα 4 (by omega), hα 5 (by omega)]
theorem mM.mv9 {G : mG} {V V1 : mV} {α α1 : Nat → Nat} {f : sT} {nr nw ns : Nat} {th : Int32} (h : mM G V α f nr nw ns th) (hV : ∀ j, 10 ≤ j → j < 25 → V1 j = V j) (hα : ∀ j, 10 ≤ j → j < 25 → α1 j = α j) : mM G V1 α1 f nr nw ns th := by
  obtain ⟨h0, h1⟩ := h
  unfold mM mobj
  rw [hα 11 (by omega) (by omega), hα 12 (by omega) (by omega), hα 13 (by omega) (by omega), hα 14 (by omega) (by omega), hα 15 (by omega) (by omega), hα 16 (by omega) (by omega), hα 17 (by omega) (by omega), hα 18 (by omega) (by omega), hα 19 (by omega) (by omega), hα 20 (by omega) (by omega), hα 21 (by omega) (by omega), hα 22 (by omega) (by omega), hα 23 (by omega) (by omega), hα 24 (by omega) (by omega)]
  rw [hV 10 (by omega) (by omega), hV 11 (by omega) (by omega), hV 12 (by omega) (by omega), hV 13 (by omega) (by omega), hV 14 (by omega) (by omega), hV 15 (by omega) (by omega), hV 16 (by omega) (by omega), hV 17 (by omega) (by omega), hV 18 (by omega) (by omega), hV 19 (by omega) (by omega), hV 20 (by omega) (by omega), hV 21 (by omega) (by omega), hV 22 (by omega) (by omega), hV 23 (by omega) (by omega), hV 24 (by omega) (by omega)]
  exact ⟨h0, h1⟩
theorem wf00 : mwf f00 0 0 0 := ⟨⟨by omega, by omega, by omega⟩, fun s hs => by omega, fun w hw => by omega, fun k hk => by omega, fun d => Or.inl rfl, fun k _ => rfl, fun k _ => ⟨rfl, rfl⟩⟩
set_option maxHeartbeats 1000000 in
set_option maxRecDepth 100000 in
theorem law_entry {p : Program} {l : Launch} {e : Env} {s : State} {m : MethodId} {args : Array Value} {below : List Frame} {meth : Method} {c : Code} {Q : State → Prop} {G : mG} {b L : Nat} {xs : Nat → Int32} {ls : Array Slot} (hF : mFix p l s m args c G b L xs)
    (hE : ∀ (H : Heap) (locs : List Loc) (cells slots : Nat) (ls : Array Slot), va_S (mfree G) s.heap H locs → cells ≤ 601024 → slots ≤ 7293033 → W p l e room_1 s m args below meth c H locs cells slots Q (F0 m 1421 ls []))
    (hw : mW G (fun _ => none) (fun _ => 0) s s.heap) (hl : lv_has ls 7 [(0, .ref (b))]) : W p l e room_1 s m args below meth c s.heap [] 0 0 Q (F0 m 0 ls []) := by
  obtain ⟨hl0, hx, hb, hml, hown, hts, hX, hbl, hbA, hL⟩ := id hF
  have hS : va_S (mfree G) s.heap s.heap [] := va_S.rf
  have nk1 := hts (.classLink RL 8 RX3) (by decide +kernel)
  have nk2 := hts (.instantiable RX3 5) (by decide +kernel)
  have nk3 := hts (.initialized RX3) (by decide +kernel)
  have nk4 := hts (.classLink RL 76 RX4) (by decide +kernel)
  have nk5 := hts (.instantiable RX4 18) (by decide +kernel)
  have nk6 := hts (.initialized RX4) (by decide +kernel)
  have ml1 := hts (.methodLink RL 75 yX3_init) (by decide +kernel)
  have mi1 := hts (.instanceMethod yX3_init) (by decide +kernel)
  have ml2 := hts (.methodLink RL 78 yX4_init) (by decide +kernel)
  have mi2 := hts (.instanceMethod yX4_init) (by decide +kernel)
  have acJ := hts (.arrayClass .long) (by decide +kernel)
  refine mnew (C := RX3) (T := TX3) (N := 5) (ci := 4) (fs := [.null, .null, .null, .null, .null]) hx hb hts inlX3 tyX3 tyX3_ok hown nk1 nk2 nk3 hw hS rfl 0 rfl (fun j hj => by rcases (show j = 0 ∨ j = 1 ∨ j = 2 ∨ j = 3 ∨ j = 4 by omega) with rfl | rfl | rfl | rfl | rfl <;> rfl) (Nat.le_of_ble_eq_true rfl) (Nat.le_of_ble_eq_true rfl) dL_law_0 (fun α1 H pa1 hw hS => ?_)
  refine lv_dup hx hb dL_law_3 rfl ?_
  refine mcallIwv (rest := [.ref (α1 0)]) hw ⟨hx, hb, hml, hown, hts⟩ hS (c_X3_init (vup_s _ _ _) (fun j hj => vup_n _ _ (by omega))) (cwI 0 hts gL_law_X3_init rfl rfl rfl nk3 ml1 mi1 rfl (by decide +kernel) ⟨Nat.le_of_ble_eq_true rfl, Nat.le_of_ble_eq_true rfl⟩) rfl hl.1 rfl (Nat.le_of_ble_eq_true rfl) dL_law_4 ⟨Nat.le_of_ble_eq_true rfl, Nat.le_of_ble_eq_true rfl⟩ (fun V2 α2 H locs hp hw hS => ?_)
  obtain ⟨hC, hN2, e0⟩ := hp
  dsimp only at hC hN2 e0
  refine W.eq (g2 := F0 m 7 ls [.ref (α2 0)]) (by rw [e0]) ?_
  refine lv_astore_n (lv' := [(1, .ref (α2 0)), (0, .ref (b))]) hx hb dL_law_7 rfl hl (by decide) rfl (fun ls hl => ?_)
  refine mnew (C := RX4) (T := TX4) (N := 18) (ci := 5) (fs := [.null, .int (0), .null, .null, .null, .null, .null, .null, .null, .int (0), .null, .int (0), .null, .null, .null, .null, .null, .int (0)]) hx hb hts inlX4 tyX4 tyX4_ok hown nk4 nk5 nk6 hw hS rfl 10 (hN2 10 (by omega)) (fun j hj => by rcases (show j = 0 ∨ j = 1 ∨ j = 2 ∨ j = 3 ∨ j = 4 ∨ j = 5 ∨ j = 6 ∨ j = 7 ∨ j = 8 ∨ j = 9 ∨ j = 10 ∨ j = 11 ∨ j = 12 ∨ j = 13 ∨ j = 14 ∨ j = 15 ∨ j = 16 ∨ j = 17 by omega) with rfl | rfl | rfl | rfl | rfl | rfl | rfl | rfl | rfl | rfl | rfl | rfl | rfl | rfl | rfl | rfl | rfl | rfl <;> rfl) (Nat.le_of_ble_eq_true rfl) (Nat.le_of_ble_eq_true rfl) dL_law_8 (fun α3 H pa3 hw hS => ?_)
  refine lv_dup hx hb dL_law_11 rfl ?_
  refine mcallIwv (rest := [.ref (α3 10)]) hw ⟨hx, hb, hml, hown, hts⟩ hS (c_X4_init (vup_s _ _ _) (fun j hj hj2 => (vup_n _ _ (by omega)).trans (hN2 j (by omega)))) (cwI 0 hts gL_law_X4_init rfl rfl rfl nk6 ml2 mi2 rfl (by decide +kernel) ⟨Nat.le_of_ble_eq_true rfl, Nat.le_of_ble_eq_true rfl⟩) rfl hl.1 rfl (Nat.le_of_ble_eq_true rfl) dL_law_12 ⟨Nat.le_of_ble_eq_true rfl, Nat.le_of_ble_eq_true rfl⟩ (fun V4 α4 H locs hp hw hS => ?_)
  obtain ⟨hM, hVo, hαo⟩ := hp
  dsimp only at hM hVo hαo
  refine W.eq (g2 := F0 m 15 ls [.ref (α4 10)]) (by rw [hαo 10 (by omega)]) ?_
  refine lv_astore_n (lv' := [(2, .ref (α4 10)), (1, .ref (α2 0)), (0, .ref (b))]) hx hb dL_law_15 rfl hl (by decide) rfl (fun ls hl => ?_)
  refine lv_iconst (v := 1) hx hb dL_law_16 (by decide) ?_
  have hV9 : V4 9 = none := (hVo 9 (by omega)).trans ((vup_n _ _ (by omega)).trans (hN2 9 (by omega)))
  refine mnewJ hx hb acJ hw hS 1 (by decide +kernel) (by decide) 9 hV9 (Nat.le_of_ble_eq_true rfl) (Nat.le_of_ble_eq_true rfl) dL_law_17 (fun α5 H pa5 hw hS => ?_)
  refine lv_astore_n (lv' := [(3, .ref (α5 9)), (2, .ref (α4 10)), (1, .ref (α2 0)), (0, .ref (b))]) hx hb dL_law_19 rfl hl (by decide) rfl (fun ls hl => ?_)
  refine lv_iconst (v := 0) hx hb dL_law_20 (by decide) ?_
  refine lv_istore (lv' := [(4, .int (nI (6 * 0))), (3, .ref (α5 9)), (2, .ref (α4 10)), (1, .ref (α2 0)), (0, .ref (b))]) hx hb dL_law_21 hl (by decide) rfl (fun ls hl => ?_)
  have ea : ∀ j, (j < 9 ∨ 25 ≤ j) → α5 j = α2 j := fun j hj => (pa5 j (by omega)).trans ((hαo j (by omega)).trans (pa3 j (by omega)))
  have eV : ∀ j, (j < 9 ∨ 25 ≤ j) → vup V4 9 (.inl (G.2.2.2.2.1, 1, .inr (.inl (fun _ => 0)))) j = V2 j := fun j hj => (vup_n _ _ (by omega)).trans ((hVo j (by omega)).trans (vup_n _ _ (by omega)))
  have hl : lv_has ls 7 [(4, .int (nI (6 * 0))), (0, .ref (b)), (1, .ref (α5 (0))), (2, .ref (α5 (10))), (3, .ref (α5 (9)))] := by
    rw [ea 0 (by omega), pa5 10 (by omega)]
    exact lv_sub hl [0, 4, 3, 2, 1] rfl
  exact law_loop hF hE 513 0 _ α5 f00 0 0 0 0 _ _ ls _ _ (by omega) (by omega) (Nat.le_of_ble_eq_true rfl) (Nat.le_of_ble_eq_true rfl) ⟨hC.mv0 eV ea, hM.mv9 (fun j h1 h2 => vup_n _ _ (by omega)) (fun j h1 h2 => pa5 j (by omega)), wf00, ⟨_, vup_s _ _ _⟩⟩ hw hS hl
