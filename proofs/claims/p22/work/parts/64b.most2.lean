set_option maxHeartbeats 40000000 in
set_option maxRecDepth 100000 in
theorem w_most {l : Launch} (hl0 : l.stackTraces = false) {G : mG} {V : mV} {α : Nat → Nat} (hC : mC G V α hFe 0 1 76) : Met l yL_most wsL_most ({ frames := 10, cells := 201, slots := 7344, locals := 343 }) (va_Pc [.ref (α (0))] (fun U => mW G V α U U.heap)) (va_Qi (fun (r9 : Int32) (u : mV × (Nat → Nat)) => 1 = r9 ∧ u = ((fun _ => none), (fun _ => 0))) (fun u t => mH G u.1 u.2 t.heap) (mfree G)) 201 7344 (mfree G) := by
  refine Met.ofW (cc := cL_most) (maxL := 2) (ret := (some .boolean)) (by decide) rfl ?_
  intro p e s m args below meth c s₁ B hml hv
  obtain ⟨rfl, hw⟩ := hv
  have hx := B.exec
  have hb := B.bytes
  have hr := B.returns
  have hts := atoms_spec (ws := wsL_most) B.pre
  have hown : s.vm.findClass RL = some m.cls := findClass_of_methodNamed B.named
  have hlocks := B.notSynchronized
  have hS : va_S (mfree G) s.heap s.heap [] := va_S.rf
  have hl := lv_entry ([.ref (α (0))]) (n := 2) (Nat.le_of_ble_eq_true rfl)
  rw [lg_entry_eq]
  generalize (lg_sl ([.ref (α (0))]) ++ List.replicate (2 - (lg_sl ([.ref (α (0))])).length) Slot.unset).toArray = ls at hl ⊢
  have hl : lv_has ls 2 [(0, .ref (α (0)))] := hl
  refine m_s0 hl0 hx hb hml hown hts hC (fun V α H locs ls hC hl hw hS => ?_) _ _ _ hl hw hS
  refine m_s1 hl0 hx hb hml hown hts hC (fun V α H locs ls hC hl hw hS => ?_) _ _ _ hl hw hS
  refine m_s2 hl0 hx hb hml hown hts hC (fun V α H locs ls hC hl hw hS => ?_) _ _ _ hl hw hS
  refine m_s3 hl0 hx hb hml hown hts hC (fun V α H locs ls hC hl hw hS => ?_) _ _ _ hl hw hS
  refine lv_iconst (v := (1)) hx hb dL_most_162 (by decide) ?_
  refine lv_goto (tgt := 167) hx hb dL_most_163 (by decide) ?_
  exact W.zret (v := 1) hx hb hr rfl (fun t ht hW => ⟨⟨_, ((fun _ => none), (fun _ => 0)), rfl, ⟨rfl, rfl⟩, by show mH G (fun _ => none) (fun _ => 0) t.heap; rw [ht]; exact mH0 hw.2.2.2.2⟩, hS.F ht⟩) hS.2.2 dL_most_167
