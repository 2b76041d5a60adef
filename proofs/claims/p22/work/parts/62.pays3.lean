set_option maxHeartbeats 40000000 in
set_option maxRecDepth 100000 in
theorem w_pays {l : Launch} (hl0 : l.stackTraces = false) {G : mG}  : Met l yL_pays wsL_pays ({ frames := 10, cells := 566, slots := 5920, locals := 317 }) (va_Pc [] (fun U => mW G (fun _ => none) (fun _ => 0) U U.heap)) (va_Qi (fun (r9 : Int32) (u : mV × (Nat → Nat)) => 1 = r9 ∧ u = ((fun _ => none), (fun _ => 0))) (fun u t => mH G u.1 u.2 t.heap) (mfree G)) 566 5920 (mfree G) := by
  refine Met.ofW (cc := cL_pays) (maxL := 1) (ret := (some .boolean)) (by decide) rfl ?_
  intro p e s m args below meth c s₁ B hml hv
  obtain ⟨rfl, hw⟩ := hv
  have hx := B.exec
  have hb := B.bytes
  have hr := B.returns
  have hts := atoms_spec (ws := wsL_pays) B.pre
  have hown : s.vm.findClass RL = some m.cls := findClass_of_methodNamed B.named
  have hlocks := B.notSynchronized
  have hS : va_S (mfree G) s.heap s.heap [] := va_S.rf
  have nk1 := hts (.classLink RL 8 RX3) (by decide +kernel)
  have nk2 := hts (.instantiable RX3 5) (by decide +kernel)
  have nk3 := hts (.initialized RX3) (by decide +kernel)
  have ml1 := hts (.methodLink RL 89 yX3_init) (by decide +kernel)
  have mi1 := hts (.instanceMethod yX3_init) (by decide +kernel)
  have inl9 : ∀ w ∈ wsX30, w ∈ wsL_pays := by decide +kernel
  have hl := lv_entry ([]) (n := 1) (Nat.le_of_ble_eq_true rfl)
  rw [lg_entry_eq]
  generalize (lg_sl ([]) ++ List.replicate (1 - (lg_sl ([])).length) Slot.unset).toArray = ls at hl ⊢
  have hl : lv_has ls 1 [] := hl
  refine mnew (C := RX3) (T := TX3) (N := 5) (ci := 4) (fs := [.null, .null, .null, .null, .null]) hx hb hts inl9 tyX3 tyX3_ok hown nk1 nk2 nk3 hw hS rfl 0 rfl (fun j hj => by rcases (show j = 0 ∨ j = 1 ∨ j = 2 ∨ j = 3 ∨ j = 4 by omega) with rfl | rfl | rfl | rfl | rfl <;> rfl) (Nat.le_of_ble_eq_true rfl) (Nat.le_of_ble_eq_true rfl) dL_pays_0 (fun α1 H pa1 hw hS => ?_)
  refine lv_dup hx hb dL_pays_3 rfl ?_
  refine mcallIwv (rest := [.ref (α1 0)]) hw ⟨hx, hb, hml, hown, hts⟩ hS (c_X3_init (vup_s _ _ _) (fun j hj => vup_n _ _ (by omega))) (cwI 0 hts gL_pays_X3_init rfl rfl rfl nk3 ml1 mi1 rfl (by decide +kernel) ⟨Nat.le_of_ble_eq_true rfl, Nat.le_of_ble_eq_true rfl⟩) rfl hl.1 rfl (Nat.le_of_ble_eq_true rfl) dL_pays_4 ⟨Nat.le_of_ble_eq_true rfl, Nat.le_of_ble_eq_true rfl⟩ (fun V2 α2 H locs hp hw hS => ?_)
  obtain ⟨hC, hN2, e0⟩ := hp
  dsimp only at hC hN2 e0
  refine W.eq (g2 := F0 m 7 ls [.ref (α2 0)]) (by rw [e0]) ?_
  refine lv_astore_n (lv' := [(0, .ref (α2 (0)))]) hx hb dL_pays_7 rfl hl (by decide) rfl (fun ls hl => ?_)
  refine a_s0 hl0 hx hb hml hown hts hC (fun V α H locs ls hC hl hw hS => ?_) _ _ _ hl hw hS
  refine a_s1 hl0 hx hb hml hown hts hC (fun V α H locs ls hC hl hw hS => ?_) _ _ _ hl hw hS
  refine a_s2 hl0 hx hb hml hown hts hC (fun V α H locs ls hC hl hw hS => ?_) _ _ _ hl hw hS
  refine a_s3 hl0 hx hb hml hown hts hC (fun V α H locs ls hC hl hw hS => ?_) _ _ _ hl hw hS
  refine a_s4 hl0 hx hb hml hown hts hC (fun V α H locs ls hC hl hw hS => ?_) _ _ _ hl hw hS
  refine a_s5 hl0 hx hb hml hown hts hC (fun V α H locs ls hC hl hw hS => ?_) _ _ _ hl hw hS
  refine a_s6 hl0 hx hb hml hown hts hC (fun V α H locs ls hC hl hw hS => ?_) _ _ _ hl hw hS
  refine a_s7 hl0 hx hb hml hown hts hC (fun V α H locs ls hC hl hw hS => ?_) _ _ _ hl hw hS
  refine a_s8 hl0 hx hb hml hown hts hC (fun V α H locs ls hC hl hw hS => ?_) _ _ _ hl hw hS
  refine lv_iconst (v := (1)) hx hb dL_pays_1050 (by decide) ?_
  refine lv_goto (tgt := 1055) hx hb dL_pays_1051 (by decide) ?_
  exact W.zret (v := 1) hx hb hr rfl (fun t ht hW => ⟨⟨_, ((fun _ => none), (fun _ => 0)), rfl, ⟨rfl, rfl⟩, by show mH G (fun _ => none) (fun _ => 0) t.heap; rw [ht]; exact mH0 hw.2.2.2.2⟩, hS.F ht⟩) hS.2.2 dL_pays_1055
