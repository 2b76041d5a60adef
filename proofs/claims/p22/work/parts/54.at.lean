set_option maxHeartbeats 4000000 in
set_option maxRecDepth 100000 in
theorem c_L_at {l : Launch} {G : mG} {V : mV} {α : Nat → Nat} {f : sT} {nr nw ns : Nat} (hC : mC G V α f nr nw ns) (hwf : mwf f nr nw ns) (si : Nat) (hs : si < ns) (q : Nat) (hq : q < pN f si) (x y : Int32) (hP : s_P f (wN f si) (aN f si) q nr = x) (hR : s_R f nr (wN f si) (aN f si) q = y)  : Met l yL_at wsL_at ({ frames := 6, cells := 0, slots := 0, locals := 143 }) (va_Pc [.ref (α (0)), .int (nI (si)), .int (nI (q)), .int (x), .int (y)] (fun U => mW G V α U U.heap)) (vp_Si (fun r9 => r9 = 1)) 0 0 (fun _ => False) := by
  refine Met.ofW (cc := cL_at) (maxL := 5) (ret := (some .boolean)) (by decide) rfl ?_
  intro p e s m args below meth c s₁ B hml hv
  obtain ⟨rfl, hw⟩ := hv
  have hx := B.exec
  have hb := B.bytes
  have hr := B.returns
  have hts := atoms_spec (ws := wsL_at) B.pre
  have hown : s.vm.findClass RL = some m.cls := findClass_of_methodNamed B.named
  have hlocks := B.notSynchronized
  have hl := lv_entry ([.ref (α (0)), .int (nI (si)), .int (nI (q)), .int (x), .int (y)]) (n := 5) (Nat.le_of_ble_eq_true rfl)
  rw [lg_entry_eq]
  generalize (lg_sl ([.ref (α (0)), .int (nI (si)), .int (nI (q)), .int (x), .int (y)]) ++ List.replicate (5 - (lg_sl ([.ref (α (0)), .int (nI (si)), .int (nI (q)), .int (x), .int (y)])).length) Slot.unset).toArray = ls at hl ⊢
  have hl : lv_has ls 5 [(0, .ref (α (0))), (1, .int (nI (si))), (2, .int (nI (q))), (3, .int (x)), (4, .int (y))] := hl
  refine lv_aload_n hx hb dL_at_0 rfl (lv_at hl 0 rfl) ?_
  refine lv_iload_n hx hb dL_at_1 rfl (lv_at hl 1 rfl) ?_
  refine lv_iload_n hx hb dL_at_2 rfl (lv_at hl 2 rfl) ?_
  refine mcallVi hw (hC.1) rfl rfl ⟨hx, hb, hml, hown, hts⟩ (c_X3_percentAt hC hwf si hs q hq) (cwV 2 hts gL_at_X3_percentAt rfl rfl rfl (by decide +kernel) ⟨Nat.le_of_ble_eq_true rfl, Nat.le_of_ble_eq_true rfl⟩) rfl hl.1 rfl (Nat.le_of_ble_eq_true rfl) dL_at_3 ⟨Nat.le_of_ble_eq_true rfl, Nat.le_of_ble_eq_true rfl⟩ ?_
  refine lv_iload_n hx hb dL_at_6 rfl (lv_at hl 3 rfl) ?_
  refine lv_icmp_ne (tgt := 25) hx hb dL_at_7 (by decide) (fun z => absurd (hP) z) (fun c1 => ?_)
  refine lv_aload_n hx hb dL_at_10 rfl (lv_at hl 0 rfl) ?_
  refine lv_iload_n hx hb dL_at_11 rfl (lv_at hl 1 rfl) ?_
  refine lv_iload_n hx hb dL_at_12 rfl (lv_at hl 2 rfl) ?_
  refine mcallVi hw (hC.1) rfl rfl ⟨hx, hb, hml, hown, hts⟩ (c_X3_reasonAt hC hwf si hs q hq) (cwV 2 hts gL_at_X3_reasonAt rfl rfl rfl (by decide +kernel) ⟨Nat.le_of_ble_eq_true rfl, Nat.le_of_ble_eq_true rfl⟩) rfl hl.1 rfl (Nat.le_of_ble_eq_true rfl) dL_at_13 ⟨Nat.le_of_ble_eq_true rfl, Nat.le_of_ble_eq_true rfl⟩ ?_
  refine lv_iload hx hb dL_at_16 (lv_at hl 4 rfl) ?_
  refine lv_icmp_ne (tgt := 25) hx hb dL_at_18 (by decide) (fun z => absurd (hR) z) (fun c2 => ?_)
  refine lv_iconst (v := (1)) hx hb dL_at_21 (by decide) ?_
  refine lv_goto (tgt := 26) hx hb dL_at_22 (by decide) ?_
  exact W.zret (v := 1) hx hb hr (rfl) (fun t ht hW => ⟨_, rfl, rfl, ht⟩) (fun _ h => absurd h List.not_mem_nil) dL_at_26
