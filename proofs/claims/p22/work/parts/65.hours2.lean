set_option maxHeartbeats 40000000 in
set_option maxRecDepth 100000 in
theorem hours_loop {p : Program} {l : Launch} {e : Env} {s : State} {m : MethodId} {args : Array Value} {below : List Frame} {meth : Method} {c : Code} {Q : State → Prop} {G : mG} (hl0 : l.stackTraces = false) (hx : p.tables.exec = Jvm.exec) (hb : c.code = cL_hours) (hml : c.maxLocals = 2) (hown : s.vm.findClass RL = some m.cls) (hts : ∀ w ∈ wsL_hours, w.before args s = true)
    (kk : ∀ (V : mV) (α : Nat → Nat) (H : Heap) (locs : List Loc) (ls : Array Slot), mC G V α hFe 0 1 76 → lv_has ls 2 [(0, .ref (α (0)))] → mW G V α s H → va_S (mfree G) s.heap H locs → W p l e ({ frames := 11, cells := 501, slots := 24736, locals := 364 } : Room) s m args below meth c H locs 299 17386 Q (F0 m 458 ls [])) :
    ∀ (n j : Nat) (V : mV) (α : Nat → Nat) (H : Heap) (locs : List Loc) (ls : Array Slot), j + n = 58 → mC G V α (hFS j) 0 1 (18 + j) → lv_has ls 2 [(0, .ref (α (0))), (1, .int (nI (18 + j)))] → mW G V α s H → va_S (mfree G) s.heap H locs → W p l e ({ frames := 11, cells := 501, slots := 24736, locals := 364 } : Room) s m args below meth c H locs (183 + 2 * j) (5206 + 210 * j) Q (F0 m 426 ls []) := by
  intro n
  induction n with
  | zero =>
    intro j V α H locs ls hjn hC hl hw hS
    obtain rfl : j = 58 := by omega
    refine lv_iload_n hx hb dL_hours_426 rfl (lv_at hl 1 rfl) ?_
    refine lv_bipush (v := 76) hx hb dL_hours_427 (by decide) ?_
    refine lv_icmp_ge (tgt := 458) hx hb dL_hours_429 (by decide) (fun _ => ?_) (fun z => absurd (by decide) z)
    exact kk V α H locs ls hC (lv_sub hl [0] rfl) hw hS
  | succ n ih =>
    intro j V α H locs ls hjn hC hl hw hS
    have hj : j < 58 := by omega
    refine lv_iload_n hx hb dL_hours_426 rfl (lv_at hl 1 rfl) ?_
    refine lv_bipush (v := 76) hx hb dL_hours_427 (by decide) ?_
    refine lv_icmp_ge (tgt := 458) hx hb dL_hours_429 (by decide) (fun z => absurd z (nI_ge (show 18 + j < 76 by omega) (by decide))) (fun _ => ?_)
    refine lv_aload_n hx hb dL_hours_432 rfl (lv_at hl 0 rfl) ?_
    refine lv_iconst (v := 5) hx hb dL_hours_433 (by decide) ?_
    refine lv_iconst (v := 0) hx hb dL_hours_434 (by decide) ?_
    refine lv_bipush (v := 60) hx hb dL_hours_435 (by decide) ?_
    refine lv_iconst (v := 4) hx hb dL_hours_437 (by decide) ?_
    refine lv_iload_n hx hb dL_hours_438 rfl (lv_at hl 1 rfl) ?_
    refine lv_imul hx hb dL_hours_439 ?_
    refine lv_iadd hx hb dL_hours_440 ?_
    refine lv_topi (fun y1 ey1 => ?_)
    obtain rfl : y1 = nI (60 + 4 * (18 + j)) := ey1.trans (by rw [show (4 : Int32) * nI (18 + j) = nI (4 * (18 + j)) from pk_mul 4 (18 + j)]; exact nI_add 60 (4 * (18 + j)))
    refine lv_iconst (v := 0) hx hb dL_hours_441 (by decide) ?_
    refine lv_iconst (v := 5) hx hb dL_hours_442 (by decide) ?_
    refine mcallSWi (rest := []) hw ⟨hx, hb, hml, hown, hts⟩ hS (w_X3_addShift hC (wf_hFS j (by omega)) 0 (60 + 4 * (18 + j)) 0 5 (by decide) (by omega) (by decide) (by decide) (by decide) (by omega) (hFS_ov j hj)) (vx_cwSW 6 hts gL_hours_L_act rfl rfl rfl (by decide +kernel) ⟨Nat.le_of_ble_eq_true rfl, Nat.le_of_ble_eq_true rfl⟩) rfl hl.1 rfl (Nat.le_of_ble_eq_true rfl) dL_hours_443 ⟨(by show 183 + 2 * j + 2 ≤ 501; omega), (by show 5206 + 210 * j + 210 ≤ 24736; omega)⟩ (fun r9 V1 α1 H locs hq hw hS => ?_)
    obtain ⟨er, hC, hO⟩ := hq
    have hC : mC G V1 α1 (hFS (j + 1)) 0 1 (18 + (j + 1)) := hC
    have e0 : α1 0 = α 0 := (hO 0 (by omega)).2
    have hl : lv_has ls 2 [(0, .ref (α1 (0))), (1, .int (nI (18 + j)))] := by rw [e0]; exact hl
    subst er
    refine lv_iload_n hx hb dL_hours_446 rfl (lv_at hl 1 rfl) ?_
    refine lv_icmp_eq (tgt := 452) hx hb dL_hours_447 (by decide) (fun _ => ?_) (fun z => absurd rfl z)
    refine lv_iinc (v := nI (18 + (j + 1))) (lv' := [(1, .int (nI (18 + (j + 1)))), (0, .ref (α1 (0)))]) hx hb dL_hours_452 hl (k := 1) rfl (nI_1 (18 + j)) (by decide) rfl (fun ls hl => ?_)
    refine lv_goto (tgt := 426) hx hb dL_hours_455 (by decide) ?_
    refine W.widen (k := 183 + 2 * (j + 1)) (n := 5206 + 210 * (j + 1)) (by omega) (by omega) ?_
    exact ih (j + 1) V1 α1 H locs ls (by omega) hC (lv_sub hl [1, 0] rfl) hw hS

set_option maxHeartbeats 40000000 in
set_option maxRecDepth 100000 in
theorem w_hours {l : Launch} (hl0 : l.stackTraces = false) {G : mG}  : Met l yL_hours wsL_hours ({ frames := 11, cells := 501, slots := 24736, locals := 364 }) (va_Pc [] (fun U => mW G (fun _ => none) (fun _ => 0) U U.heap)) (va_Qi (fun (r9 : Int32) (u : mV × (Nat → Nat)) => 1 = r9 ∧ u = ((fun _ => none), (fun _ => 0))) (fun u t => mH G u.1 u.2 t.heap) (mfree G)) 501 24736 (mfree G) := by
  refine Met.ofW (cc := cL_hours) (maxL := 2) (ret := (some .boolean)) (by decide) rfl ?_
  intro p e s m args below meth c s₁ B hml hv
  obtain ⟨rfl, hw⟩ := hv
  have hx := B.exec
  have hb := B.bytes
  have hr := B.returns
  have hts := atoms_spec (ws := wsL_hours) B.pre
  have hown : s.vm.findClass RL = some m.cls := findClass_of_methodNamed B.named
  have hlocks := B.notSynchronized
  have hS : va_S (mfree G) s.heap s.heap [] := va_S.rf
  have nk1 := hts (.classLink RL 8 RX3) (by decide +kernel)
  have nk2 := hts (.instantiable RX3 5) (by decide +kernel)
  have nk3 := hts (.initialized RX3) (by decide +kernel)
  have ml1 := hts (.methodLink RL 89 yX3_init) (by decide +kernel)
  have mi1 := hts (.instanceMethod yX3_init) (by decide +kernel)
  have inl9 : ∀ w ∈ wsX30, w ∈ wsL_hours := by decide +kernel
  have hl := lv_entry ([]) (n := 2) (Nat.le_of_ble_eq_true rfl)
  rw [lg_entry_eq]
  generalize (lg_sl ([]) ++ List.replicate (2 - (lg_sl ([])).length) Slot.unset).toArray = ls at hl ⊢
  have hl : lv_has ls 2 [] := hl
  refine mnew (C := RX3) (T := TX3) (N := 5) (ci := 4) (fs := [.null, .null, .null, .null, .null]) hx hb hts inl9 tyX3 tyX3_ok hown nk1 nk2 nk3 hw hS rfl 0 rfl (fun j hj => by rcases (show j = 0 ∨ j = 1 ∨ j = 2 ∨ j = 3 ∨ j = 4 by omega) with rfl | rfl | rfl | rfl | rfl <;> rfl) (Nat.le_of_ble_eq_true rfl) (Nat.le_of_ble_eq_true rfl) dL_hours_0 (fun α1 H pa1 hw hS => ?_)
  refine lv_dup hx hb dL_hours_3 rfl ?_
  refine mcallIwv (rest := [.ref (α1 0)]) hw ⟨hx, hb, hml, hown, hts⟩ hS (c_X3_init (vup_s _ _ _) (fun j hj => vup_n _ _ (by omega))) (cwI 0 hts gL_hours_X3_init rfl rfl rfl nk3 ml1 mi1 rfl (by decide +kernel) ⟨Nat.le_of_ble_eq_true rfl, Nat.le_of_ble_eq_true rfl⟩) rfl hl.1 rfl (Nat.le_of_ble_eq_true rfl) dL_hours_4 ⟨Nat.le_of_ble_eq_true rfl, Nat.le_of_ble_eq_true rfl⟩ (fun V2 α2 H locs hp hw hS => ?_)
  obtain ⟨hC, hN2, e0⟩ := hp
  dsimp only at hC hN2 e0
  refine W.eq (g2 := F0 m 7 ls [.ref (α2 0)]) (by rw [e0]) ?_
  refine lv_astore_n (lv' := [(0, .ref (α2 (0)))]) hx hb dL_hours_7 rfl hl (by decide) rfl (fun ls hl => ?_)
  refine h_s0 hl0 hx hb hml hown hts hC (fun V α H locs ls hC hl hw hS => ?_) _ _ _ hl hw hS
  refine h_s1 hl0 hx hb hml hown hts hC (fun V α H locs ls hC hl hw hS => ?_) _ _ _ hl hw hS
  refine h_s2 hl0 hx hb hml hown hts hC (fun V α H locs ls hC hl hw hS => ?_) _ _ _ hl hw hS
  refine h_s3 hl0 hx hb hml hown hts hC (fun V α H locs ls hC hl hw hS => ?_) _ _ _ hl hw hS
  refine h_s4 hl0 hx hb hml hown hts hC (fun V α H locs ls hC hl hw hS => ?_) _ _ _ hl hw hS
  refine lv_bipush (v := 18) hx hb dL_hours_423 (by decide) ?_
  refine lv_istore_n (lv' := [(1, .int (18)), (0, .ref (α (0)))]) hx hb dL_hours_425 rfl (lv_sub hl [1] rfl : lv_has ls 2 [(0, .ref (α (0)))]) (by decide) rfl (fun ls hl => ?_)
  refine hours_loop hl0 hx hb hml hown hts (fun V α H locs ls hC hl hw hS => ?_) 58 0 V α H locs ls (by decide) hC (lv_sub hl [1, 0] rfl) hw hS
  refine lv_aload_n hx hb dL_hours_458 rfl (lv_at hl 0 rfl) ?_
  refine lv_iconst (v := (5)) hx hb dL_hours_459 (by decide) ?_
  refine lv_iconst (v := (0)) hx hb dL_hours_460 (by decide) ?_
  refine lv_sipush (v := (363)) hx hb dL_hours_461 (by decide) ?_
  refine lv_iconst (v := (0)) hx hb dL_hours_464 (by decide) ?_
  refine lv_iconst (v := (5)) hx hb dL_hours_465 (by decide) ?_
  refine mcallX (rest := []) hw ⟨hx, hb, hml, hown, hts⟩ hS (x_X3_addShift_2 hl0 hC wf_hFe 0 (by decide) 363 0 5 (by decide)) (vx_cwSW 6 hts gL_hours_L_act rfl rfl rfl (by decide +kernel) ⟨Nat.le_of_ble_eq_true rfl, Nat.le_of_ble_eq_true rfl⟩) rfl hl.1 rfl (Nat.le_of_ble_eq_true rfl) dL_hours_466 ⟨Nat.le_of_ble_eq_true rfl, Nat.le_of_ble_eq_true rfl⟩ (fun H locs hw hS => ?_)
  refine lv_bipush (v := (-72)) hx hb dL_hours_469 (by decide) ?_
  refine lv_icmp_ne (tgt := 485) hx hb dL_hours_471 (by decide) (fun z => absurd ((by decide)) z) (fun c1 => ?_)
  refine lv_aload_n hx hb dL_hours_474 rfl (lv_at hl 0 rfl) ?_
  refine mcallSi2 (V2 := (fun _ => none)) (α2 := (fun _ => 0)) (rest := []) hw ⟨hx, hb, hml, hown, hts⟩ hS (w_most hl0 hC) (va_cwS 1 hts gL_hours_L_most rfl rfl rfl (by decide +kernel) ⟨Nat.le_of_ble_eq_true rfl, Nat.le_of_ble_eq_true rfl⟩) rfl hl.1 rfl (Nat.le_of_ble_eq_true rfl) dL_hours_475 ⟨Nat.le_of_ble_eq_true rfl, Nat.le_of_ble_eq_true rfl⟩ (fun H locs hw hS => ?_)
  refine lv_if_eq (tgt := 485) hx hb dL_hours_478 (by decide) (fun z => absurd z ((by decide))) (fun c2 => ?_)
  refine lv_iconst (v := (1)) hx hb dL_hours_481 (by decide) ?_
  refine lv_goto (tgt := 486) hx hb dL_hours_482 (by decide) ?_
  exact W.zret (v := 1) hx hb hr rfl (fun t ht hW => ⟨⟨_, ((fun _ => none), (fun _ => 0)), rfl, ⟨rfl, rfl⟩, by show mH G (fun _ => none) (fun _ => 0) t.heap; rw [ht]; exact hw.2.2⟩, hS.F ht⟩) hS.2.2 dL_hours_486
