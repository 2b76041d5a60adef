set_option maxHeartbeats 4000000 in
set_option maxRecDepth 100000 in
theorem c_X4_addShift {l : Launch} {G : mG} {V : mV} {α : Nat → Nat} {f : sT} {nr nw ns : Nat} {th : Int32} (hM : mM G V α f nr nw ns th) (k d qq ln : Nat) (hk : k < nw) (hnw : nw ≤ 12) (hd : d < 363) (hqq : qq < 96) (hln : 1 ≤ ln) (hln2 : ln ≤ 64) (hns : ns ≤ 80) (hok : s_ov f ns (nI (k)) (nI (96 * d + qq)) (nI (ln)) ns = 0) (hns1 : ns < 80) : Met l yX4_addShift wsX4_addShift ({ frames := 2, cells := 0, slots := 0, locals := 43 }) (va_Pc [.ref (α (10)), .int (nI (k)), .int (nI (d)), .int (nI (qq)), .int (nI (ln))] (fun U => mW G V α U U.heap)) (va_Qi (fun (r9 : Int32) (u : mV × (Nat → Nat)) => nI ns = r9 ∧ mQ G V α u (u2 (u2 (u2 f 9 ns (nI k)) 10 ns (nI (96 * d + qq))) 11 ns (nI ln)) nr nw (ns + 1) 0) (fun u t => mH G u.1 u.2 t.heap) (mfree G)) 0 0 (mfree G) := by
  refine Met.ofW (cc := cX4_addShift) (maxL := 9) (ret := (some .int)) (by decide) rfl ?_
  intro p e s m args below meth c s₁ B hml hv
  obtain ⟨rfl, hw⟩ := hv
  have hx := B.exec
  have hb := B.bytes
  have hr := B.returns
  have hts := atoms_spec (ws := wsX4_addShift) B.pre
  have hown : s.vm.findClass RX4 = some m.cls := findClass_of_methodNamed B.named
  have hlocks := B.notSynchronized
  have hS : va_S (mfree G) s.heap s.heap [] := va_S.rf
  have hO : ∀ j, ¬ (10 ≤ j ∧ j < 25) → V j = V j := fun _ _ => rfl
  obtain ⟨m10, m11, m12, m13, m14, m15, m16, m17, m18, m19, m20, m21, m22, m23, m24⟩ := id hM
  have fl_53 := hts (.fieldLink RX4 53 "RosterPayModel" "thrown" "I") (by decide +kernel)
  have in_X4 : ∀ w ∈ u_ws RX4 TX4 18, w ∈ wsX4_addShift := by decide +kernel
  have fl_67 := hts (.fieldLink RX4 67 "RosterPayModel" "shifts" "I") (by decide +kernel)
  have fl_38 := hts (.fieldLink RX4 38 "RosterPayModel" "by" "[I") (by decide +kernel)
  have fl_41 := hts (.fieldLink RX4 41 "RosterPayModel" "start" "[I") (by decide +kernel)
  have fl_44 := hts (.fieldLink RX4 44 "RosterPayModel" "length" "[I") (by decide +kernel)
  have fl_50 := hts (.fieldLink RX4 50 "RosterPayModel" "gone" "[Z") (by decide +kernel)
  have hl := lv_entry ([.ref (α (10)), .int (nI (k)), .int (nI (d)), .int (nI (qq)), .int (nI (ln))]) (n := 9) (Nat.le_of_ble_eq_true rfl)
  rw [lg_entry_eq]
  generalize (lg_sl ([.ref (α (10)), .int (nI (k)), .int (nI (d)), .int (nI (qq)), .int (nI (ln))]) ++ List.replicate (9 - (lg_sl ([.ref (α (10)), .int (nI (k)), .int (nI (d)), .int (nI (qq)), .int (nI (ln))])).length) Slot.unset).toArray = ls at hl ⊢
  have hl : lv_has ls 9 [(0, .ref (α (10))), (1, .int (nI (k))), (2, .int (nI (d))), (3, .int (nI (qq))), (4, .int (nI (ln)))] := hl
  refine lv_iload_n hx hb dX4_addShift_0 rfl (lv_at hl 2 rfl) ?_
  refine lv_iconst (v := (0)) hx hb dX4_addShift_1 (by decide) ?_
  refine lv_sipush (v := (362)) hx hb dX4_addShift_2 (by decide) ?_
  refine mcallSi hw ⟨hx, hb, hml, hown, hts⟩ (c_X4_isIn (nI (d)) (0) (362)) (va_cwS 3 hts gX4_addShift_X4_isIn rfl rfl rfl (by decide +kernel) ⟨Nat.le_of_ble_eq_true rfl, Nat.le_of_ble_eq_true rfl⟩) rfl hl.1 rfl (Nat.le_of_ble_eq_true rfl) dX4_addShift_5 ⟨Nat.le_of_ble_eq_true rfl, Nat.le_of_ble_eq_true rfl⟩ ?_
  refine mif_eqB (tgt := 36) hx hb dX4_addShift_8 (by decide) (fun z => absurd (inn_ix (n := 363) hd (by decide)) z) (fun c1 => ?_)
  refine lv_iload_n hx hb dX4_addShift_11 rfl (lv_at hl 3 rfl) ?_
  refine lv_iconst (v := (0)) hx hb dX4_addShift_12 (by decide) ?_
  refine lv_bipush (v := (95)) hx hb dX4_addShift_13 (by decide) ?_
  refine mcallSi hw ⟨hx, hb, hml, hown, hts⟩ (c_X4_isIn (nI (qq)) (0) (95)) (va_cwS 3 hts gX4_addShift_X4_isIn rfl rfl rfl (by decide +kernel) ⟨Nat.le_of_ble_eq_true rfl, Nat.le_of_ble_eq_true rfl⟩) rfl hl.1 rfl (Nat.le_of_ble_eq_true rfl) dX4_addShift_15 ⟨Nat.le_of_ble_eq_true rfl, Nat.le_of_ble_eq_true rfl⟩ ?_
  refine mif_eqB (tgt := 36) hx hb dX4_addShift_18 (by decide) (fun z => absurd (inn_ix (n := 96) hqq (by decide)) z) (fun c2 => ?_)
  refine lv_iload hx hb dX4_addShift_21 (lv_at hl 4 rfl) ?_
  refine lv_iconst (v := (1)) hx hb dX4_addShift_23 (by decide) ?_
  refine lv_bipush (v := (64)) hx hb dX4_addShift_24 (by decide) ?_
  refine mcallSi hw ⟨hx, hb, hml, hown, hts⟩ (c_X4_isIn (nI (ln)) (1) (64)) (va_cwS 3 hts gX4_addShift_X4_isIn rfl rfl rfl (by decide +kernel) ⟨Nat.le_of_ble_eq_true rfl, Nat.le_of_ble_eq_true rfl⟩) rfl hl.1 rfl (Nat.le_of_ble_eq_true rfl) dX4_addShift_26 ⟨Nat.le_of_ble_eq_true rfl, Nat.le_of_ble_eq_true rfl⟩ ?_
  refine mif_eqB (tgt := 36) hx hb dX4_addShift_29 (by decide) (fun z => absurd (inn_n 1 64 hln hln2 (by decide)) z) (fun c3 => ?_)
  refine lv_iconst (v := (1)) hx hb dX4_addShift_32 (by decide) ?_
  refine lv_goto (tgt := 37) hx hb dX4_addShift_33 (by decide) ?_
  refine lv_istore (lv' := [(5, .int (1)), (0, .ref (α (10))), (1, .int (nI (k))), (2, .int (nI (d))), (3, .int (nI (qq))), (4, .int (nI (ln)))]) hx hb dX4_addShift_37 hl (by decide) rfl (fun ls hl => ?_)
  refine lv_aload_n hx hb dX4_addShift_39 rfl (lv_at hl 1 rfl) ?_
  refine lv_aload_n hx hb dX4_addShift_40 rfl (lv_at hl 1 rfl) ?_
  refine lv_iload_n hx hb dX4_addShift_41 rfl (lv_at hl 2 rfl) ?_
  refine mcallVi hw (m10) rfl rfl ⟨hx, hb, hml, hown, hts⟩ (c_X4_isWorker hM (nI (k))) (cwV 1 hts gX4_addShift_X4_isWorker rfl rfl rfl (by decide +kernel) ⟨Nat.le_of_ble_eq_true rfl, Nat.le_of_ble_eq_true rfl⟩) rfl hl.1 rfl (Nat.le_of_ble_eq_true rfl) dX4_addShift_42 ⟨Nat.le_of_ble_eq_true rfl, Nat.le_of_ble_eq_true rfl⟩ ?_
  refine mif_neB (tgt := 52) hx hb dX4_addShift_45 (by decide) (fun c4 => ?_) (fun z => absurd (inn_ix hk (by omega)) z)
  refine lv_iload hx hb dX4_addShift_52 (lv_at hl 0 rfl) ?_
  refine lv_if_eq (tgt := 61) hx hb dX4_addShift_54 (by decide) (fun z => absurd z ((by decide))) (fun c5 => ?_)
  refine lv_iconst (v := (0)) hx hb dX4_addShift_57 (by decide) ?_
  refine lv_goto (tgt := 62) hx hb dX4_addShift_58 (by decide) ?_
  refine mput (C := RX4) (T := TX4) (N := 18) (ci := 5) hx hb hts in_X4 tyX4 tyX4_ok nmX4 hown hw hS (m10) rfl 17 (by decide) fl_53 rfl rfl rfl (Nat.le_of_ble_eq_true rfl) dX4_addShift_62 (fun H locs hw hS => ?_)
  obtain ⟨V1, hV1⟩ : ∃ z, z = vup V 10 (mobj α (nr) (nw) (ns) (0)) := ⟨_, rfl⟩
  have hw : mW G V1 α s H := by rw [hV1]; exact hw
  have hM : mM G V1 α f (nr) (nw) (ns) (0) := by rw [hV1]; exact hM.obj _ _ _ _
  have hO : ∀ j, ¬ (10 ≤ j ∧ j < 25) → V1 j = V j := fun j hj => (show V1 j = V j by rw [hV1]; exact vup_n _ _ (by omega)).trans (hO j hj)
  obtain ⟨m10, m11, m12, m13, m14, m15, m16, m17, m18, m19, m20, m21, m22, m23, m24⟩ := id hM
  refine lv_aload_n hx hb dX4_addShift_65 rfl (lv_at hl 1 rfl) ?_
  refine mget (C := RX4) (T := TX4) (N := 18) (ci := 5) hx hb hts in_X4 hown hw (m10) rfl 17 (by decide) fl_53 rfl dX4_addShift_66 ?_
  refine lv_if_le (tgt := 74) hx hb dX4_addShift_69 (by decide) (fun c6 => ?_) (fun z => absurd ((by decide)) z)
  refine lv_bipush (v := (96)) hx hb dX4_addShift_74 (by decide) ?_
  refine lv_iload_n hx hb dX4_addShift_76 rfl (lv_at hl 3 rfl) ?_
  refine lv_imul hx hb dX4_addShift_77 ?_
  refine lv_iload_n hx hb dX4_addShift_78 rfl (lv_at hl 4 rfl) ?_
  refine lv_iadd hx hb dX4_addShift_79 ?_
  refine lv_topi (fun y7 ey7 => ?_)
  obtain rfl : y7 = (nI (96 * d + qq)) := ey7.trans (by rw [show (96 : Int32) * nI d = nI (96 * d) from pk_mul 96 d, nI_add])
  refine lv_istore (lv' := [(6, .int (nI (96 * d + qq))), (5, .int (1)), (0, .ref (α (10))), (1, .int (nI (k))), (2, .int (nI (d))), (3, .int (nI (qq))), (4, .int (nI (ln)))]) hx hb dX4_addShift_80 hl (by decide) rfl (fun ls hl => ?_)
  refine lv_aload_n hx hb dX4_addShift_82 rfl (lv_at hl 2 rfl) ?_
  refine lv_aload_n hx hb dX4_addShift_83 rfl (lv_at hl 2 rfl) ?_
  refine mjoin (E := s_ov f ns (nI (k)) (nI (96 * d + qq)) (nI (ln)) 0) (pcJ := 97) (st := [.ref (α (10))]) ?_ (fun J8 => ?_)
  ·
    refine mput (C := RX4) (T := TX4) (N := 18) (ci := 5) hx hb hts in_X4 tyX4 tyX4_ok nmX4 hown hw hS (m10) rfl 17 (by decide) fl_53 rfl rfl rfl (Nat.le_of_ble_eq_true rfl) dX4_addShift_97 (fun H locs hw hS => ?_)
    obtain ⟨V2, hV2⟩ : ∃ z, z = vup V1 10 (mobj α (nr) (nw) (ns) (s_ov f ns (nI (k)) (nI (96 * d + qq)) (nI (ln)) 0)) := ⟨_, rfl⟩
    have hw : mW G V2 α s H := by rw [hV2]; exact hw
    have hM : mM G V2 α f (nr) (nw) (ns) (s_ov f ns (nI (k)) (nI (96 * d + qq)) (nI (ln)) 0) := by rw [hV2]; exact hM.obj _ _ _ _
    have hO : ∀ j, ¬ (10 ≤ j ∧ j < 25) → V2 j = V j := fun j hj => (show V2 j = V1 j by rw [hV2]; exact vup_n _ _ (by omega)).trans (hO j hj)
    obtain ⟨m10, m11, m12, m13, m14, m15, m16, m17, m18, m19, m20, m21, m22, m23, m24⟩ := id hM
    refine lv_iconst (v := (0)) hx hb dX4_addShift_100 (by decide) ?_
    refine lv_topi (fun y9 ey9 => ?_)
    obtain rfl : y9 = (nI (0)) := ey9.trans (rfl)
    refine lv_istore (lv' := [(7, .int (nI (0))), (6, .int (nI (96 * d + qq))), (5, .int (1)), (0, .ref (α (10))), (1, .int (nI (k))), (2, .int (nI (d))), (3, .int (nI (qq))), (4, .int (nI (ln)))]) hx hb dX4_addShift_101 hl (by decide) rfl (fun ls hl => ?_)
    refine mloopW (nL := 9) (ns) (fun j => [(0, .ref (α (10))), (1, .int (nI (k))), (2, .int (nI (d))), (3, .int (nI (qq))), (4, .int (nI (ln))), (6, .int (nI (96 * d + qq))), (7, .int (nI (j)))]) (fun j V9 => mM G V9 α f nr nw ns (s_ov f ns (nI (k)) (nI (96 * d + qq)) (nI (ln)) j) ∧ ∀ j9, ¬ (10 ≤ j9 ∧ j9 < 25) → V9 j9 = V j9) ?_ ?_ V2 _ _ ⟨hM, hO⟩ hw hS ls (lv_sub hl [3, 4, 5, 6, 7, 1, 0] rfl)
    ·
      intro V3 H locs hI hw hS ls hl
      obtain ⟨hM, hO⟩ := hI
      try dsimp only at hM
      obtain ⟨m10, m11, m12, m13, m14, m15, m16, m17, m18, m19, m20, m21, m22, m23, m24⟩ := id hM
      have hl : lv_has ls 9 [(0, .ref (α (10))), (1, .int (nI (k))), (2, .int (nI (d))), (3, .int (nI (qq))), (4, .int (nI (ln))), (6, .int (nI (96 * d + qq))), (7, .int (nI (ns)))] := hl
      refine lv_iload hx hb dX4_addShift_103 (lv_at hl 6 rfl) ?_
      refine lv_aload_n hx hb dX4_addShift_105 rfl (lv_at hl 0 rfl) ?_
      refine mget (C := RX4) (T := TX4) (N := 18) (ci := 5) hx hb hts in_X4 hown hw (m10) rfl 11 (by decide) fl_67 rfl dX4_addShift_106 ?_
      refine lv_icmp_ge (tgt := 198) hx hb dX4_addShift_109 (by decide) (fun c10 => ?_) (fun z => absurd ((nI_le (Nat.le_refl _) (by omega))) z)
      refine lv_aload_n hx hb dX4_addShift_198 rfl (lv_at hl 0 rfl) ?_
      refine mget (C := RX4) (T := TX4) (N := 18) (ci := 5) hx hb hts in_X4 hown hw (m10) rfl 17 (by decide) fl_53 rfl dX4_addShift_199 ?_
      refine lv_if_le (tgt := 207) hx hb dX4_addShift_202 (by decide) (fun c11 => ?_) (fun z => absurd ((by rw [hok]; decide)) z)
      refine lv_aload_n hx hb dX4_addShift_207 rfl (lv_at hl 0 rfl) ?_
      refine mget (C := RX4) (T := TX4) (N := 18) (ci := 5) hx hb hts in_X4 hown hw (m10) rfl 12 (by decide) fl_38 rfl dX4_addShift_208 ?_
      refine lv_aload_n hx hb dX4_addShift_211 rfl (lv_at hl 0 rfl) ?_
      refine mget (C := RX4) (T := TX4) (N := 18) (ci := 5) hx hb hts in_X4 hown hw (m10) rfl 11 (by decide) fl_67 rfl dX4_addShift_212 ?_
      refine lv_iload_n hx hb dX4_addShift_215 rfl (lv_at hl 1 rfl) ?_
      refine miast' (k := ns) hx hb hw hS (m20) (rfl) (by omega) (by decide) dX4_addShift_216 (fun H locs hw hS => ?_)
      obtain ⟨V4, hV4⟩ : ∃ z, z = vup V3 20 (.inl (G.2.2.1.1, 80, .inl (upd (f 9) (ns) (nI (k))))) := ⟨_, rfl⟩
      have hw : mW G V4 α s H := by rw [hV4]; exact hw
      have hM : mM G V4 α (u2 f 9 (ns) (nI (k))) (nr) (nw) (ns) (s_ov f ns (nI (k)) (nI (96 * d + qq)) (nI (ln)) ns) := by rw [hV4]; exact hM.a9 _ _
      have hO : ∀ j, ¬ (10 ≤ j ∧ j < 25) → V4 j = V j := fun j hj => (show V4 j = V3 j by rw [hV4]; exact vup_n _ _ (by omega)).trans (hO j hj)
      obtain ⟨m10, m11, m12, m13, m14, m15, m16, m17, m18, m19, m20, m21, m22, m23, m24⟩ := id hM
      refine lv_aload_n hx hb dX4_addShift_217 rfl (lv_at hl 0 rfl) ?_
      refine mget (C := RX4) (T := TX4) (N := 18) (ci := 5) hx hb hts in_X4 hown hw (m10) rfl 13 (by decide) fl_41 rfl dX4_addShift_218 ?_
      refine lv_aload_n hx hb dX4_addShift_221 rfl (lv_at hl 0 rfl) ?_
      refine mget (C := RX4) (T := TX4) (N := 18) (ci := 5) hx hb hts in_X4 hown hw (m10) rfl 11 (by decide) fl_67 rfl dX4_addShift_222 ?_
      refine lv_iload hx hb dX4_addShift_225 (lv_at hl 5 rfl) ?_
      refine miast' (k := ns) hx hb hw hS (m21) (rfl) (by omega) (by decide) dX4_addShift_227 (fun H locs hw hS => ?_)
      obtain ⟨V5, hV5⟩ : ∃ z, z = vup V4 21 (.inl (G.2.2.1.1, 80, .inl (upd ((u2 f 9 (ns) (nI (k))) 10) (ns) (nI (96 * d + qq))))) := ⟨_, rfl⟩
      have hw : mW G V5 α s H := by rw [hV5]; exact hw
      have hM : mM G V5 α (u2 (u2 f 9 (ns) (nI (k))) 10 (ns) (nI (96 * d + qq))) (nr) (nw) (ns) (s_ov f ns (nI (k)) (nI (96 * d + qq)) (nI (ln)) ns) := by rw [hV5]; exact hM.a10 _ _
      have hO : ∀ j, ¬ (10 ≤ j ∧ j < 25) → V5 j = V j := fun j hj => (show V5 j = V4 j by rw [hV5]; exact vup_n _ _ (by omega)).trans (hO j hj)
      obtain ⟨m10, m11, m12, m13, m14, m15, m16, m17, m18, m19, m20, m21, m22, m23, m24⟩ := id hM
      refine lv_aload_n hx hb dX4_addShift_228 rfl (lv_at hl 0 rfl) ?_
      refine mget (C := RX4) (T := TX4) (N := 18) (ci := 5) hx hb hts in_X4 hown hw (m10) rfl 14 (by decide) fl_44 rfl dX4_addShift_229 ?_
      refine lv_aload_n hx hb dX4_addShift_232 rfl (lv_at hl 0 rfl) ?_
      refine mget (C := RX4) (T := TX4) (N := 18) (ci := 5) hx hb hts in_X4 hown hw (m10) rfl 11 (by decide) fl_67 rfl dX4_addShift_233 ?_
      refine lv_iload hx hb dX4_addShift_236 (lv_at hl 4 rfl) ?_
      refine miast' (k := ns) hx hb hw hS (m22) (rfl) (by omega) (by decide) dX4_addShift_238 (fun H locs hw hS => ?_)
      obtain ⟨V6, hV6⟩ : ∃ z, z = vup V5 22 (.inl (G.2.2.1.1, 80, .inl (upd ((u2 (u2 f 9 (ns) (nI (k))) 10 (ns) (nI (96 * d + qq))) 11) (ns) (nI (ln))))) := ⟨_, rfl⟩
      have hw : mW G V6 α s H := by rw [hV6]; exact hw
      have hM : mM G V6 α (u2 (u2 (u2 f 9 (ns) (nI (k))) 10 (ns) (nI (96 * d + qq))) 11 (ns) (nI (ln))) (nr) (nw) (ns) (s_ov f ns (nI (k)) (nI (96 * d + qq)) (nI (ln)) ns) := by rw [hV6]; exact hM.a11 _ _
      have hO : ∀ j, ¬ (10 ≤ j ∧ j < 25) → V6 j = V j := fun j hj => (show V6 j = V5 j by rw [hV6]; exact vup_n _ _ (by omega)).trans (hO j hj)
      obtain ⟨m10, m11, m12, m13, m14, m15, m16, m17, m18, m19, m20, m21, m22, m23, m24⟩ := id hM
      refine lv_aload_n hx hb dX4_addShift_239 rfl (lv_at hl 0 rfl) ?_
      refine lv_dup hx hb dX4_addShift_240 rfl ?_
      refine mget (C := RX4) (T := TX4) (N := 18) (ci := 5) hx hb hts in_X4 hown hw (m10) rfl 11 (by decide) fl_67 rfl dX4_addShift_241 ?_
      refine lv_iconst (v := (1)) hx hb dX4_addShift_244 (by decide) ?_
      refine lv_iadd hx hb dX4_addShift_245 ?_
      refine lv_topi (fun y12 ey12 => ?_)
      obtain rfl : y12 = (nI (ns + 1)) := ey12.trans (nI_1 ns)
      refine mput (C := RX4) (T := TX4) (N := 18) (ci := 5) hx hb hts in_X4 tyX4 tyX4_ok nmX4 hown hw hS (m10) rfl 11 (by decide) fl_67 rfl rfl rfl (Nat.le_of_ble_eq_true rfl) dX4_addShift_246 (fun H locs hw hS => ?_)
      obtain ⟨V7, hV7⟩ : ∃ z, z = vup V6 10 (mobj α (nr) (nw) (ns + 1) (s_ov f ns (nI (k)) (nI (96 * d + qq)) (nI (ln)) ns)) := ⟨_, rfl⟩
      have hw : mW G V7 α s H := by rw [hV7]; exact hw
      have hM : mM G V7 α (u2 (u2 (u2 f 9 (ns) (nI (k))) 10 (ns) (nI (96 * d + qq))) 11 (ns) (nI (ln))) (nr) (nw) (ns + 1) (s_ov f ns (nI (k)) (nI (96 * d + qq)) (nI (ln)) ns) := by rw [hV7]; exact hM.obj _ _ _ _
      have hO : ∀ j, ¬ (10 ≤ j ∧ j < 25) → V7 j = V j := fun j hj => (show V7 j = V6 j by rw [hV7]; exact vup_n _ _ (by omega)).trans (hO j hj)
      obtain ⟨m10, m11, m12, m13, m14, m15, m16, m17, m18, m19, m20, m21, m22, m23, m24⟩ := id hM
      refine lv_aload_n hx hb dX4_addShift_249 rfl (lv_at hl 0 rfl) ?_
      refine mget (C := RX4) (T := TX4) (N := 18) (ci := 5) hx hb hts in_X4 hown hw (m10) rfl 11 (by decide) fl_67 rfl dX4_addShift_250 ?_
      refine lv_iconst (v := (1)) hx hb dX4_addShift_253 (by decide) ?_
      refine lv_isub hx hb dX4_addShift_254 ?_
      exact W.iret (v := (nI (ns + 1) - 1)) hx hb hr (fun t ht hW => ⟨⟨_, (V7, α), rfl, ⟨(nI_pred ns).symm, (by rw [hok] at hM; exact hM), hO, rfl⟩, by show mH G V7 α t.heap; rw [ht]; exact hw.2.2⟩, hS.F ht⟩) hS.2.2 dX4_addShift_255
    ·
      intro j hj ihj V8 H locs hI hw hS ls hl
      obtain ⟨hM, hO⟩ := hI
      try dsimp only at hM
      obtain ⟨m10, m11, m12, m13, m14, m15, m16, m17, m18, m19, m20, m21, m22, m23, m24⟩ := id hM
      have hl : lv_has ls 9 [(0, .ref (α (10))), (1, .int (nI (k))), (2, .int (nI (d))), (3, .int (nI (qq))), (4, .int (nI (ln))), (6, .int (nI (96 * d + qq))), (7, .int (nI (j)))] := hl
      refine lv_iload hx hb dX4_addShift_103 (lv_at hl 6 rfl) ?_
      refine lv_aload_n hx hb dX4_addShift_105 rfl (lv_at hl 0 rfl) ?_
      refine mget (C := RX4) (T := TX4) (N := 18) (ci := 5) hx hb hts in_X4 hown hw (m10) rfl 11 (by decide) fl_67 rfl dX4_addShift_106 ?_
      refine lv_icmp_ge (tgt := 198) hx hb dX4_addShift_109 (by decide) (fun z => absurd z ((nI_ge hj (by omega)))) (fun c13 => ?_)
      refine mjoin (E := bI (s_over f (nI (k)) (nI (96 * d + qq)) (nI (ln)) j)) (pcJ := 173) (st := []) ?_ (fun J14 => ?_)
      ·
        refine lv_istore (lv' := [(8, .int (bI (s_over f (nI (k)) (nI (96 * d + qq)) (nI (ln)) j))), (0, .ref (α (10))), (1, .int (nI (k))), (2, .int (nI (d))), (3, .int (nI (qq))), (4, .int (nI (ln))), (6, .int (nI (96 * d + qq))), (7, .int (nI (j)))]) hx hb dX4_addShift_173 hl (by decide) rfl (fun ls hl => ?_)
        refine lv_aload_n hx hb dX4_addShift_175 rfl (lv_at hl 1 rfl) ?_
        refine mjoin (E := s_ov f ns (nI (k)) (nI (96 * d + qq)) (nI (ln)) (j + 1)) (pcJ := 189) (st := [.ref (α (10))]) ?_ (fun J15 => ?_)
        ·
          refine mput (C := RX4) (T := TX4) (N := 18) (ci := 5) hx hb hts in_X4 tyX4 tyX4_ok nmX4 hown hw hS (m10) rfl 17 (by decide) fl_53 rfl rfl rfl (Nat.le_of_ble_eq_true rfl) dX4_addShift_189 (fun H locs hw hS => ?_)
          obtain ⟨V9, hV9⟩ : ∃ z, z = vup V8 10 (mobj α (nr) (nw) (ns) (s_ov f ns (nI (k)) (nI (96 * d + qq)) (nI (ln)) (j + 1))) := ⟨_, rfl⟩
          have hw : mW G V9 α s H := by rw [hV9]; exact hw
          have hM : mM G V9 α f (nr) (nw) (ns) (s_ov f ns (nI (k)) (nI (96 * d + qq)) (nI (ln)) (j + 1)) := by rw [hV9]; exact hM.obj _ _ _ _
          have hO : ∀ j, ¬ (10 ≤ j ∧ j < 25) → V9 j = V j := fun j hj => (show V9 j = V8 j by rw [hV9]; exact vup_n _ _ (by omega)).trans (hO j hj)
          obtain ⟨m10, m11, m12, m13, m14, m15, m16, m17, m18, m19, m20, m21, m22, m23, m24⟩ := id hM
          refine lv_iinc (v := nI (j + 1)) (lv' := [(7, .int (nI (j + 1))), (8, .int (bI (s_over f (nI (k)) (nI (96 * d + qq)) (nI (ln)) j))), (0, .ref (α (10))), (1, .int (nI (k))), (2, .int (nI (d))), (3, .int (nI (qq))), (4, .int (nI (ln))), (6, .int (nI (96 * d + qq)))]) hx hb dX4_addShift_192 hl (k := 7) rfl (nI_1 (j)) (by decide) rfl (fun ls hl => ?_)
          refine lv_goto (tgt := 103) hx hb dX4_addShift_195 (by decide) ?_
          exact ihj V9 _ _ ⟨hM, hO⟩ hw hS ls (lv_sub hl [2, 3, 4, 5, 6, 7, 0] rfl)
        ·
          refine lv_iload hx hb dX4_addShift_176 (lv_at hl 0 rfl) ?_
          refine mif_eqB (tgt := 185) hx hb dX4_addShift_178 (by decide) (fun c16 => ?_) (fun c16 => ?_)
          ·
            refine lv_aload_n hx hb dX4_addShift_185 rfl (lv_at hl 1 rfl) ?_
            refine mget (C := RX4) (T := TX4) (N := 18) (ci := 5) hx hb hts in_X4 hown hw (m10) rfl 17 (by decide) fl_53 rfl dX4_addShift_186 ?_
            exact J15 _ (((if_neg c16).symm))
          ·
            refine lv_iconst (v := (3)) hx hb dX4_addShift_181 (by decide) ?_
            refine lv_goto (tgt := 189) hx hb dX4_addShift_182 (by decide) ?_
            exact J15 _ (((if_pos c16).symm))
      ·
        refine lv_aload_n hx hb dX4_addShift_112 rfl (lv_at hl 0 rfl) ?_
        refine mget (C := RX4) (T := TX4) (N := 18) (ci := 5) hx hb hts in_X4 hown hw (m10) rfl 16 (by decide) fl_50 rfl dX4_addShift_113 ?_
        refine lv_iload hx hb dX4_addShift_116 (lv_at hl 6 rfl) ?_
        refine mzald' (k := j) hx hb hw (m24) (rfl) (by omega) (by decide) dX4_addShift_118 ?_
        refine lv_if_ne (tgt := 172) hx hb dX4_addShift_119 (by decide) (fun c17 => ?_) (fun c17 => ?_)
        ·
          refine lv_iconst (v := (0)) hx hb dX4_addShift_172 (by decide) ?_
          exact J14 _ ((bI_f (fun z => c17 (z.1))).symm)
        ·
          refine lv_aload_n hx hb dX4_addShift_122 rfl (lv_at hl 0 rfl) ?_
          refine mget (C := RX4) (T := TX4) (N := 18) (ci := 5) hx hb hts in_X4 hown hw (m10) rfl 12 (by decide) fl_38 rfl dX4_addShift_123 ?_
          refine lv_iload hx hb dX4_addShift_126 (lv_at hl 6 rfl) ?_
          refine miald' (k := j) hx hb hw (m20) (rfl) (by omega) (by decide) dX4_addShift_128 ?_
          refine lv_iload_n hx hb dX4_addShift_129 rfl (lv_at hl 1 rfl) ?_
          refine lv_icmp_ne (tgt := 172) hx hb dX4_addShift_130 (by decide) (fun c18 => ?_) (fun c18 => ?_)
          ·
            refine lv_iconst (v := (0)) hx hb dX4_addShift_172 (by decide) ?_
            exact J14 _ ((bI_f (fun z => c18 (z.2.1))).symm)
          ·
            refine lv_iload hx hb dX4_addShift_133 (lv_at hl 5 rfl) ?_
            refine lv_aload_n hx hb dX4_addShift_135 rfl (lv_at hl 0 rfl) ?_
            refine mget (C := RX4) (T := TX4) (N := 18) (ci := 5) hx hb hts in_X4 hown hw (m10) rfl 13 (by decide) fl_41 rfl dX4_addShift_136 ?_
            refine lv_iload hx hb dX4_addShift_139 (lv_at hl 6 rfl) ?_
            refine miald' (k := j) hx hb hw (m21) (rfl) (by omega) (by decide) dX4_addShift_141 ?_
            refine lv_aload_n hx hb dX4_addShift_142 rfl (lv_at hl 0 rfl) ?_
            refine mget (C := RX4) (T := TX4) (N := 18) (ci := 5) hx hb hts in_X4 hown hw (m10) rfl 14 (by decide) fl_44 rfl dX4_addShift_143 ?_
            refine lv_iload hx hb dX4_addShift_146 (lv_at hl 6 rfl) ?_
            refine miald' (k := j) hx hb hw (m22) (rfl) (by omega) (by decide) dX4_addShift_148 ?_
            refine lv_iadd hx hb dX4_addShift_149 ?_
            refine lv_icmp_ge (tgt := 172) hx hb dX4_addShift_150 (by decide) (fun c19 => ?_) (fun c19 => ?_)
            ·
              refine lv_iconst (v := (0)) hx hb dX4_addShift_172 (by decide) ?_
              exact J14 _ ((bI_f (fun z => (z.2.2.1) c19)).symm)
            ·
              refine lv_aload_n hx hb dX4_addShift_153 rfl (lv_at hl 0 rfl) ?_
              refine mget (C := RX4) (T := TX4) (N := 18) (ci := 5) hx hb hts in_X4 hown hw (m10) rfl 13 (by decide) fl_41 rfl dX4_addShift_154 ?_
              refine lv_iload hx hb dX4_addShift_157 (lv_at hl 6 rfl) ?_
              refine miald' (k := j) hx hb hw (m21) (rfl) (by omega) (by decide) dX4_addShift_159 ?_
              refine lv_iload hx hb dX4_addShift_160 (lv_at hl 5 rfl) ?_
              refine lv_iload hx hb dX4_addShift_162 (lv_at hl 4 rfl) ?_
              refine lv_iadd hx hb dX4_addShift_164 ?_
              refine lv_icmp_ge (tgt := 172) hx hb dX4_addShift_165 (by decide) (fun c20 => ?_) (fun c20 => ?_)
              ·
                refine lv_iconst (v := (0)) hx hb dX4_addShift_172 (by decide) ?_
                exact J14 _ ((bI_f (fun z => (z.2.2.2) c20)).symm)
              ·
                refine lv_iconst (v := (1)) hx hb dX4_addShift_168 (by decide) ?_
                refine lv_goto (tgt := 173) hx hb dX4_addShift_169 (by decide) ?_
                exact J14 _ ((bI_t ⟨c17, c18, c19, c20⟩).symm)
  ·
    refine mget (C := RX4) (T := TX4) (N := 18) (ci := 5) hx hb hts in_X4 hown hw (m10) rfl 11 (by decide) fl_67 rfl dX4_addShift_84 ?_
    refine lv_bipush (v := (80)) hx hb dX4_addShift_87 (by decide) ?_
    refine lv_icmp_ne (tgt := 96) hx hb dX4_addShift_89 (by decide) (fun c21 => ?_) (fun c21 => ?_)
    ·
      refine lv_iconst (v := (0)) hx hb dX4_addShift_96 (by decide) ?_
      exact J8 _ ((by show _ = (if ns = 80 then (3 : Int32) else 0); rw [if_neg (fun z => c21 (by rw [z]; rfl))]))
    ·
      refine lv_iconst (v := (3)) hx hb dX4_addShift_92 (by decide) ?_
      refine lv_goto (tgt := 97) hx hb dX4_addShift_93 (by decide) ?_
      exact J8 _ ((by show _ = (if ns = 80 then (3 : Int32) else 0); rw [if_pos ((nI_eq (by omega) (by decide)).mp c21)]))

set_option maxHeartbeats 4000000 in
set_option maxRecDepth 100000 in
theorem c_X4_addShift_3 {l : Launch} {G : mG} {V : mV} {α : Nat → Nat} {f : sT} {nr nw ns : Nat} {th : Int32} (hM : mM G V α f nr nw ns th) (k d qq ln : Nat) (hk : k < nw) (hnw : nw ≤ 12) (hd : d < 363) (hqq : qq < 96) (hln : 1 ≤ ln) (hln2 : ln ≤ 64) (hns : ns ≤ 80) (hok : s_ov f ns (nI (k)) (nI (96 * d + qq)) (nI (ln)) ns = 3) : Met l yX4_addShift wsX4_addShift ({ frames := 2, cells := 0, slots := 0, locals := 43 }) (va_Pc [.ref (α (10)), .int (nI (k)), .int (nI (d)), .int (nI (qq)), .int (nI (ln))] (fun U => mW G V α U U.heap)) (va_Qi (fun (r9 : Int32) (u : mV × (Nat → Nat)) => 0 = r9 ∧ mQ G V α u f nr nw ns 3) (fun u t => mH G u.1 u.2 t.heap) (mfree G)) 0 0 (mfree G) := by
  refine Met.ofW (cc := cX4_addShift) (maxL := 9) (ret := (some .int)) (by decide) rfl ?_
  intro p e s m args below meth c s₁ B hml hv
  obtain ⟨rfl, hw⟩ := hv
  have hx := B.exec
  have hb := B.bytes
  have hr := B.returns
  have hts := atoms_spec (ws := wsX4_addShift) B.pre
  have hown : s.vm.findClass RX4 = some m.cls := findClass_of_methodNamed B.named
  have hlocks := B.notSynchronized
  have hS : va_S (mfree G) s.heap s.heap [] := va_S.rf
  have hO : ∀ j, ¬ (10 ≤ j ∧ j < 25) → V j = V j := fun _ _ => rfl
  obtain ⟨m10, m11, m12, m13, m14, m15, m16, m17, m18, m19, m20, m21, m22, m23, m24⟩ := id hM
  have fl_53 := hts (.fieldLink RX4 53 "RosterPayModel" "thrown" "I") (by decide +kernel)
  have in_X4 : ∀ w ∈ u_ws RX4 TX4 18, w ∈ wsX4_addShift := by decide +kernel
  have fl_67 := hts (.fieldLink RX4 67 "RosterPayModel" "shifts" "I") (by decide +kernel)
  have fl_50 := hts (.fieldLink RX4 50 "RosterPayModel" "gone" "[Z") (by decide +kernel)
  have fl_38 := hts (.fieldLink RX4 38 "RosterPayModel" "by" "[I") (by decide +kernel)
  have fl_41 := hts (.fieldLink RX4 41 "RosterPayModel" "start" "[I") (by decide +kernel)
  have fl_44 := hts (.fieldLink RX4 44 "RosterPayModel" "length" "[I") (by decide +kernel)
  have hl := lv_entry ([.ref (α (10)), .int (nI (k)), .int (nI (d)), .int (nI (qq)), .int (nI (ln))]) (n := 9) (Nat.le_of_ble_eq_true rfl)
  rw [lg_entry_eq]
  generalize (lg_sl ([.ref (α (10)), .int (nI (k)), .int (nI (d)), .int (nI (qq)), .int (nI (ln))]) ++ List.replicate (9 - (lg_sl ([.ref (α (10)), .int (nI (k)), .int (nI (d)), .int (nI (qq)), .int (nI (ln))])).length) Slot.unset).toArray = ls at hl ⊢
  have hl : lv_has ls 9 [(0, .ref (α (10))), (1, .int (nI (k))), (2, .int (nI (d))), (3, .int (nI (qq))), (4, .int (nI (ln)))] := hl
  refine lv_iload_n hx hb dX4_addShift_0 rfl (lv_at hl 2 rfl) ?_
  refine lv_iconst (v := (0)) hx hb dX4_addShift_1 (by decide) ?_
  refine lv_sipush (v := (362)) hx hb dX4_addShift_2 (by decide) ?_
  refine mcallSi hw ⟨hx, hb, hml, hown, hts⟩ (c_X4_isIn (nI (d)) (0) (362)) (va_cwS 3 hts gX4_addShift_X4_isIn rfl rfl rfl (by decide +kernel) ⟨Nat.le_of_ble_eq_true rfl, Nat.le_of_ble_eq_true rfl⟩) rfl hl.1 rfl (Nat.le_of_ble_eq_true rfl) dX4_addShift_5 ⟨Nat.le_of_ble_eq_true rfl, Nat.le_of_ble_eq_true rfl⟩ ?_
  refine mif_eqB (tgt := 36) hx hb dX4_addShift_8 (by decide) (fun z => absurd (inn_ix (n := 363) hd (by decide)) z) (fun c1 => ?_)
  refine lv_iload_n hx hb dX4_addShift_11 rfl (lv_at hl 3 rfl) ?_
  refine lv_iconst (v := (0)) hx hb dX4_addShift_12 (by decide) ?_
  refine lv_bipush (v := (95)) hx hb dX4_addShift_13 (by decide) ?_
  refine mcallSi hw ⟨hx, hb, hml, hown, hts⟩ (c_X4_isIn (nI (qq)) (0) (95)) (va_cwS 3 hts gX4_addShift_X4_isIn rfl rfl rfl (by decide +kernel) ⟨Nat.le_of_ble_eq_true rfl, Nat.le_of_ble_eq_true rfl⟩) rfl hl.1 rfl (Nat.le_of_ble_eq_true rfl) dX4_addShift_15 ⟨Nat.le_of_ble_eq_true rfl, Nat.le_of_ble_eq_true rfl⟩ ?_
  refine mif_eqB (tgt := 36) hx hb dX4_addShift_18 (by decide) (fun z => absurd (inn_ix (n := 96) hqq (by decide)) z) (fun c2 => ?_)
  refine lv_iload hx hb dX4_addShift_21 (lv_at hl 4 rfl) ?_
  refine lv_iconst (v := (1)) hx hb dX4_addShift_23 (by decide) ?_
  refine lv_bipush (v := (64)) hx hb dX4_addShift_24 (by decide) ?_
  refine mcallSi hw ⟨hx, hb, hml, hown, hts⟩ (c_X4_isIn (nI (ln)) (1) (64)) (va_cwS 3 hts gX4_addShift_X4_isIn rfl rfl rfl (by decide +kernel) ⟨Nat.le_of_ble_eq_true rfl, Nat.le_of_ble_eq_true rfl⟩) rfl hl.1 rfl (Nat.le_of_ble_eq_true rfl) dX4_addShift_26 ⟨Nat.le_of_ble_eq_true rfl, Nat.le_of_ble_eq_true rfl⟩ ?_
  refine mif_eqB (tgt := 36) hx hb dX4_addShift_29 (by decide) (fun z => absurd (inn_n 1 64 hln hln2 (by decide)) z) (fun c3 => ?_)
  refine lv_iconst (v := (1)) hx hb dX4_addShift_32 (by decide) ?_
  refine lv_goto (tgt := 37) hx hb dX4_addShift_33 (by decide) ?_
  refine lv_istore (lv' := [(5, .int (1)), (0, .ref (α (10))), (1, .int (nI (k))), (2, .int (nI (d))), (3, .int (nI (qq))), (4, .int (nI (ln)))]) hx hb dX4_addShift_37 hl (by decide) rfl (fun ls hl => ?_)
  refine lv_aload_n hx hb dX4_addShift_39 rfl (lv_at hl 1 rfl) ?_
  refine lv_aload_n hx hb dX4_addShift_40 rfl (lv_at hl 1 rfl) ?_
  refine lv_iload_n hx hb dX4_addShift_41 rfl (lv_at hl 2 rfl) ?_
  refine mcallVi hw (m10) rfl rfl ⟨hx, hb, hml, hown, hts⟩ (c_X4_isWorker hM (nI (k))) (cwV 1 hts gX4_addShift_X4_isWorker rfl rfl rfl (by decide +kernel) ⟨Nat.le_of_ble_eq_true rfl, Nat.le_of_ble_eq_true rfl⟩) rfl hl.1 rfl (Nat.le_of_ble_eq_true rfl) dX4_addShift_42 ⟨Nat.le_of_ble_eq_true rfl, Nat.le_of_ble_eq_true rfl⟩ ?_
  refine mif_neB (tgt := 52) hx hb dX4_addShift_45 (by decide) (fun c4 => ?_) (fun z => absurd (inn_ix hk (by omega)) z)
  refine lv_iload hx hb dX4_addShift_52 (lv_at hl 0 rfl) ?_
  refine lv_if_eq (tgt := 61) hx hb dX4_addShift_54 (by decide) (fun z => absurd z ((by decide))) (fun c5 => ?_)
  refine lv_iconst (v := (0)) hx hb dX4_addShift_57 (by decide) ?_
  refine lv_goto (tgt := 62) hx hb dX4_addShift_58 (by decide) ?_
  refine mput (C := RX4) (T := TX4) (N := 18) (ci := 5) hx hb hts in_X4 tyX4 tyX4_ok nmX4 hown hw hS (m10) rfl 17 (by decide) fl_53 rfl rfl rfl (Nat.le_of_ble_eq_true rfl) dX4_addShift_62 (fun H locs hw hS => ?_)
  obtain ⟨V1, hV1⟩ : ∃ z, z = vup V 10 (mobj α (nr) (nw) (ns) (0)) := ⟨_, rfl⟩
  have hw : mW G V1 α s H := by rw [hV1]; exact hw
  have hM : mM G V1 α f (nr) (nw) (ns) (0) := by rw [hV1]; exact hM.obj _ _ _ _
  have hO : ∀ j, ¬ (10 ≤ j ∧ j < 25) → V1 j = V j := fun j hj => (show V1 j = V j by rw [hV1]; exact vup_n _ _ (by omega)).trans (hO j hj)
  obtain ⟨m10, m11, m12, m13, m14, m15, m16, m17, m18, m19, m20, m21, m22, m23, m24⟩ := id hM
  refine lv_aload_n hx hb dX4_addShift_65 rfl (lv_at hl 1 rfl) ?_
  refine mget (C := RX4) (T := TX4) (N := 18) (ci := 5) hx hb hts in_X4 hown hw (m10) rfl 17 (by decide) fl_53 rfl dX4_addShift_66 ?_
  refine lv_if_le (tgt := 74) hx hb dX4_addShift_69 (by decide) (fun c6 => ?_) (fun z => absurd ((by decide)) z)
  refine lv_bipush (v := (96)) hx hb dX4_addShift_74 (by decide) ?_
  refine lv_iload_n hx hb dX4_addShift_76 rfl (lv_at hl 3 rfl) ?_
  refine lv_imul hx hb dX4_addShift_77 ?_
  refine lv_iload_n hx hb dX4_addShift_78 rfl (lv_at hl 4 rfl) ?_
  refine lv_iadd hx hb dX4_addShift_79 ?_
  refine lv_topi (fun y7 ey7 => ?_)
  obtain rfl : y7 = (nI (96 * d + qq)) := ey7.trans (by rw [show (96 : Int32) * nI d = nI (96 * d) from pk_mul 96 d, nI_add])
  refine lv_istore (lv' := [(6, .int (nI (96 * d + qq))), (5, .int (1)), (0, .ref (α (10))), (1, .int (nI (k))), (2, .int (nI (d))), (3, .int (nI (qq))), (4, .int (nI (ln)))]) hx hb dX4_addShift_80 hl (by decide) rfl (fun ls hl => ?_)
  refine lv_aload_n hx hb dX4_addShift_82 rfl (lv_at hl 2 rfl) ?_
  refine lv_aload_n hx hb dX4_addShift_83 rfl (lv_at hl 2 rfl) ?_
  refine mjoin (E := s_ov f ns (nI (k)) (nI (96 * d + qq)) (nI (ln)) 0) (pcJ := 97) (st := [.ref (α (10))]) ?_ (fun J8 => ?_)
  ·
    refine mput (C := RX4) (T := TX4) (N := 18) (ci := 5) hx hb hts in_X4 tyX4 tyX4_ok nmX4 hown hw hS (m10) rfl 17 (by decide) fl_53 rfl rfl rfl (Nat.le_of_ble_eq_true rfl) dX4_addShift_97 (fun H locs hw hS => ?_)
    obtain ⟨V2, hV2⟩ : ∃ z, z = vup V1 10 (mobj α (nr) (nw) (ns) (s_ov f ns (nI (k)) (nI (96 * d + qq)) (nI (ln)) 0)) := ⟨_, rfl⟩
    have hw : mW G V2 α s H := by rw [hV2]; exact hw
    have hM : mM G V2 α f (nr) (nw) (ns) (s_ov f ns (nI (k)) (nI (96 * d + qq)) (nI (ln)) 0) := by rw [hV2]; exact hM.obj _ _ _ _
    have hO : ∀ j, ¬ (10 ≤ j ∧ j < 25) → V2 j = V j := fun j hj => (show V2 j = V1 j by rw [hV2]; exact vup_n _ _ (by omega)).trans (hO j hj)
    obtain ⟨m10, m11, m12, m13, m14, m15, m16, m17, m18, m19, m20, m21, m22, m23, m24⟩ := id hM
    refine lv_iconst (v := (0)) hx hb dX4_addShift_100 (by decide) ?_
    refine lv_topi (fun y9 ey9 => ?_)
    obtain rfl : y9 = (nI (0)) := ey9.trans (rfl)
    refine lv_istore (lv' := [(7, .int (nI (0))), (6, .int (nI (96 * d + qq))), (5, .int (1)), (0, .ref (α (10))), (1, .int (nI (k))), (2, .int (nI (d))), (3, .int (nI (qq))), (4, .int (nI (ln)))]) hx hb dX4_addShift_101 hl (by decide) rfl (fun ls hl => ?_)
    refine mloopW (nL := 9) (ns) (fun j => [(0, .ref (α (10))), (1, .int (nI (k))), (2, .int (nI (d))), (3, .int (nI (qq))), (4, .int (nI (ln))), (6, .int (nI (96 * d + qq))), (7, .int (nI (j)))]) (fun j V9 => mM G V9 α f nr nw ns (s_ov f ns (nI (k)) (nI (96 * d + qq)) (nI (ln)) j) ∧ ∀ j9, ¬ (10 ≤ j9 ∧ j9 < 25) → V9 j9 = V j9) ?_ ?_ V2 _ _ ⟨hM, hO⟩ hw hS ls (lv_sub hl [3, 4, 5, 6, 7, 1, 0] rfl)
    ·
      intro V3 H locs hI hw hS ls hl
      obtain ⟨hM, hO⟩ := hI
      try dsimp only at hM
      obtain ⟨m10, m11, m12, m13, m14, m15, m16, m17, m18, m19, m20, m21, m22, m23, m24⟩ := id hM
      have hl : lv_has ls 9 [(0, .ref (α (10))), (1, .int (nI (k))), (2, .int (nI (d))), (3, .int (nI (qq))), (4, .int (nI (ln))), (6, .int (nI (96 * d + qq))), (7, .int (nI (ns)))] := hl
      refine lv_iload hx hb dX4_addShift_103 (lv_at hl 6 rfl) ?_
      refine lv_aload_n hx hb dX4_addShift_105 rfl (lv_at hl 0 rfl) ?_
      refine mget (C := RX4) (T := TX4) (N := 18) (ci := 5) hx hb hts in_X4 hown hw (m10) rfl 11 (by decide) fl_67 rfl dX4_addShift_106 ?_
      refine lv_icmp_ge (tgt := 198) hx hb dX4_addShift_109 (by decide) (fun c10 => ?_) (fun z => absurd ((nI_le (Nat.le_refl _) (by omega))) z)
      refine lv_aload_n hx hb dX4_addShift_198 rfl (lv_at hl 0 rfl) ?_
      refine mget (C := RX4) (T := TX4) (N := 18) (ci := 5) hx hb hts in_X4 hown hw (m10) rfl 17 (by decide) fl_53 rfl dX4_addShift_199 ?_
      refine lv_if_le (tgt := 207) hx hb dX4_addShift_202 (by decide) (fun z => absurd z ((by rw [hok]; decide))) (fun c11 => ?_)
      refine lv_iconst (v := (0)) hx hb dX4_addShift_205 (by decide) ?_
      exact W.iret (v := 0) hx hb hr (fun t ht hW => ⟨⟨_, (V3, α), rfl, ⟨rfl, (by rw [hok] at hM; exact hM), hO, rfl⟩, by show mH G V3 α t.heap; rw [ht]; exact hw.2.2⟩, hS.F ht⟩) hS.2.2 dX4_addShift_206
    ·
      intro j hj ihj V4 H locs hI hw hS ls hl
      obtain ⟨hM, hO⟩ := hI
      try dsimp only at hM
      obtain ⟨m10, m11, m12, m13, m14, m15, m16, m17, m18, m19, m20, m21, m22, m23, m24⟩ := id hM
      have hl : lv_has ls 9 [(0, .ref (α (10))), (1, .int (nI (k))), (2, .int (nI (d))), (3, .int (nI (qq))), (4, .int (nI (ln))), (6, .int (nI (96 * d + qq))), (7, .int (nI (j)))] := hl
      refine lv_iload hx hb dX4_addShift_103 (lv_at hl 6 rfl) ?_
      refine lv_aload_n hx hb dX4_addShift_105 rfl (lv_at hl 0 rfl) ?_
      refine mget (C := RX4) (T := TX4) (N := 18) (ci := 5) hx hb hts in_X4 hown hw (m10) rfl 11 (by decide) fl_67 rfl dX4_addShift_106 ?_
      refine lv_icmp_ge (tgt := 198) hx hb dX4_addShift_109 (by decide) (fun z => absurd z ((nI_ge hj (by omega)))) (fun c12 => ?_)
      refine mjoin (E := bI (s_over f (nI (k)) (nI (96 * d + qq)) (nI (ln)) j)) (pcJ := 173) (st := []) ?_ (fun J13 => ?_)
      ·
        refine lv_istore (lv' := [(8, .int (bI (s_over f (nI (k)) (nI (96 * d + qq)) (nI (ln)) j))), (0, .ref (α (10))), (1, .int (nI (k))), (2, .int (nI (d))), (3, .int (nI (qq))), (4, .int (nI (ln))), (6, .int (nI (96 * d + qq))), (7, .int (nI (j)))]) hx hb dX4_addShift_173 hl (by decide) rfl (fun ls hl => ?_)
        refine lv_aload_n hx hb dX4_addShift_175 rfl (lv_at hl 1 rfl) ?_
        refine mjoin (E := s_ov f ns (nI (k)) (nI (96 * d + qq)) (nI (ln)) (j + 1)) (pcJ := 189) (st := [.ref (α (10))]) ?_ (fun J14 => ?_)
        ·
          refine mput (C := RX4) (T := TX4) (N := 18) (ci := 5) hx hb hts in_X4 tyX4 tyX4_ok nmX4 hown hw hS (m10) rfl 17 (by decide) fl_53 rfl rfl rfl (Nat.le_of_ble_eq_true rfl) dX4_addShift_189 (fun H locs hw hS => ?_)
          obtain ⟨V5, hV5⟩ : ∃ z, z = vup V4 10 (mobj α (nr) (nw) (ns) (s_ov f ns (nI (k)) (nI (96 * d + qq)) (nI (ln)) (j + 1))) := ⟨_, rfl⟩
          have hw : mW G V5 α s H := by rw [hV5]; exact hw
          have hM : mM G V5 α f (nr) (nw) (ns) (s_ov f ns (nI (k)) (nI (96 * d + qq)) (nI (ln)) (j + 1)) := by rw [hV5]; exact hM.obj _ _ _ _
          have hO : ∀ j, ¬ (10 ≤ j ∧ j < 25) → V5 j = V j := fun j hj => (show V5 j = V4 j by rw [hV5]; exact vup_n _ _ (by omega)).trans (hO j hj)
          obtain ⟨m10, m11, m12, m13, m14, m15, m16, m17, m18, m19, m20, m21, m22, m23, m24⟩ := id hM
          refine lv_iinc (v := nI (j + 1)) (lv' := [(7, .int (nI (j + 1))), (8, .int (bI (s_over f (nI (k)) (nI (96 * d + qq)) (nI (ln)) j))), (0, .ref (α (10))), (1, .int (nI (k))), (2, .int (nI (d))), (3, .int (nI (qq))), (4, .int (nI (ln))), (6, .int (nI (96 * d + qq)))]) hx hb dX4_addShift_192 hl (k := 7) rfl (nI_1 (j)) (by decide) rfl (fun ls hl => ?_)
          refine lv_goto (tgt := 103) hx hb dX4_addShift_195 (by decide) ?_
          exact ihj V5 _ _ ⟨hM, hO⟩ hw hS ls (lv_sub hl [2, 3, 4, 5, 6, 7, 0] rfl)
        ·
          refine lv_iload hx hb dX4_addShift_176 (lv_at hl 0 rfl) ?_
          refine mif_eqB (tgt := 185) hx hb dX4_addShift_178 (by decide) (fun c15 => ?_) (fun c15 => ?_)
          ·
            refine lv_aload_n hx hb dX4_addShift_185 rfl (lv_at hl 1 rfl) ?_
            refine mget (C := RX4) (T := TX4) (N := 18) (ci := 5) hx hb hts in_X4 hown hw (m10) rfl 17 (by decide) fl_53 rfl dX4_addShift_186 ?_
            exact J14 _ (((if_neg c15).symm))
          ·
            refine lv_iconst (v := (3)) hx hb dX4_addShift_181 (by decide) ?_
            refine lv_goto (tgt := 189) hx hb dX4_addShift_182 (by decide) ?_
            exact J14 _ (((if_pos c15).symm))
      ·
        refine lv_aload_n hx hb dX4_addShift_112 rfl (lv_at hl 0 rfl) ?_
        refine mget (C := RX4) (T := TX4) (N := 18) (ci := 5) hx hb hts in_X4 hown hw (m10) rfl 16 (by decide) fl_50 rfl dX4_addShift_113 ?_
        refine lv_iload hx hb dX4_addShift_116 (lv_at hl 6 rfl) ?_
        refine mzald' (k := j) hx hb hw (m24) (rfl) (by omega) (by decide) dX4_addShift_118 ?_
        refine lv_if_ne (tgt := 172) hx hb dX4_addShift_119 (by decide) (fun c16 => ?_) (fun c16 => ?_)
        ·
          refine lv_iconst (v := (0)) hx hb dX4_addShift_172 (by decide) ?_
          exact J13 _ ((bI_f (fun z => c16 (z.1))).symm)
        ·
          refine lv_aload_n hx hb dX4_addShift_122 rfl (lv_at hl 0 rfl) ?_
          refine mget (C := RX4) (T := TX4) (N := 18) (ci := 5) hx hb hts in_X4 hown hw (m10) rfl 12 (by decide) fl_38 rfl dX4_addShift_123 ?_
          refine lv_iload hx hb dX4_addShift_126 (lv_at hl 6 rfl) ?_
          refine miald' (k := j) hx hb hw (m20) (rfl) (by omega) (by decide) dX4_addShift_128 ?_
          refine lv_iload_n hx hb dX4_addShift_129 rfl (lv_at hl 1 rfl) ?_
          refine lv_icmp_ne (tgt := 172) hx hb dX4_addShift_130 (by decide) (fun c17 => ?_) (fun c17 => ?_)
          ·
            refine lv_iconst (v := (0)) hx hb dX4_addShift_172 (by decide) ?_
            exact J13 _ ((bI_f (fun z => c17 (z.2.1))).symm)
          ·
            refine lv_iload hx hb dX4_addShift_133 (lv_at hl 5 rfl) ?_
            refine lv_aload_n hx hb dX4_addShift_135 rfl (lv_at hl 0 rfl) ?_
            refine mget (C := RX4) (T := TX4) (N := 18) (ci := 5) hx hb hts in_X4 hown hw (m10) rfl 13 (by decide) fl_41 rfl dX4_addShift_136 ?_
            refine lv_iload hx hb dX4_addShift_139 (lv_at hl 6 rfl) ?_
            refine miald' (k := j) hx hb hw (m21) (rfl) (by omega) (by decide) dX4_addShift_141 ?_
            refine lv_aload_n hx hb dX4_addShift_142 rfl (lv_at hl 0 rfl) ?_
            refine mget (C := RX4) (T := TX4) (N := 18) (ci := 5) hx hb hts in_X4 hown hw (m10) rfl 14 (by decide) fl_44 rfl dX4_addShift_143 ?_
            refine lv_iload hx hb dX4_addShift_146 (lv_at hl 6 rfl) ?_
            refine miald' (k := j) hx hb hw (m22) (rfl) (by omega) (by decide) dX4_addShift_148 ?_
            refine lv_iadd hx hb dX4_addShift_149 ?_
            refine lv_icmp_ge (tgt := 172) hx hb dX4_addShift_150 (by decide) (fun c18 => ?_) (fun c18 => ?_)
            ·
              refine lv_iconst (v := (0)) hx hb dX4_addShift_172 (by decide) ?_
              exact J13 _ ((bI_f (fun z => (z.2.2.1) c18)).symm)
            ·
              refine lv_aload_n hx hb dX4_addShift_153 rfl (lv_at hl 0 rfl) ?_
              refine mget (C := RX4) (T := TX4) (N := 18) (ci := 5) hx hb hts in_X4 hown hw (m10) rfl 13 (by decide) fl_41 rfl dX4_addShift_154 ?_
              refine lv_iload hx hb dX4_addShift_157 (lv_at hl 6 rfl) ?_
              refine miald' (k := j) hx hb hw (m21) (rfl) (by omega) (by decide) dX4_addShift_159 ?_
              refine lv_iload hx hb dX4_addShift_160 (lv_at hl 5 rfl) ?_
              refine lv_iload hx hb dX4_addShift_162 (lv_at hl 4 rfl) ?_
              refine lv_iadd hx hb dX4_addShift_164 ?_
              refine lv_icmp_ge (tgt := 172) hx hb dX4_addShift_165 (by decide) (fun c19 => ?_) (fun c19 => ?_)
              ·
                refine lv_iconst (v := (0)) hx hb dX4_addShift_172 (by decide) ?_
                exact J13 _ ((bI_f (fun z => (z.2.2.2) c19)).symm)
              ·
                refine lv_iconst (v := (1)) hx hb dX4_addShift_168 (by decide) ?_
                refine lv_goto (tgt := 173) hx hb dX4_addShift_169 (by decide) ?_
                exact J13 _ ((bI_t ⟨c16, c17, c18, c19⟩).symm)
  ·
    refine mget (C := RX4) (T := TX4) (N := 18) (ci := 5) hx hb hts in_X4 hown hw (m10) rfl 11 (by decide) fl_67 rfl dX4_addShift_84 ?_
    refine lv_bipush (v := (80)) hx hb dX4_addShift_87 (by decide) ?_
    refine lv_icmp_ne (tgt := 96) hx hb dX4_addShift_89 (by decide) (fun c20 => ?_) (fun c20 => ?_)
    ·
      refine lv_iconst (v := (0)) hx hb dX4_addShift_96 (by decide) ?_
      exact J8 _ ((by show _ = (if ns = 80 then (3 : Int32) else 0); rw [if_neg (fun z => c20 (by rw [z]; rfl))]))
    ·
      refine lv_iconst (v := (3)) hx hb dX4_addShift_92 (by decide) ?_
      refine lv_goto (tgt := 97) hx hb dX4_addShift_93 (by decide) ?_
      exact J8 _ ((by show _ = (if ns = 80 then (3 : Int32) else 0); rw [if_pos ((nI_eq (by omega) (by decide)).mp c20)]))

set_option maxHeartbeats 4000000 in
set_option maxRecDepth 100000 in
theorem c_X4_addShift_1 {l : Launch} {G : mG} {V : mV} {α : Nat → Nat} {f : sT} {nr nw ns : Nat} {th : Int32} (hM : mM G V α f nr nw ns th) (y x1 x2 x3 : Int32) (hbad : ¬ inn y 0 (nI nw - 1)) : Met l yX4_addShift wsX4_addShift ({ frames := 2, cells := 0, slots := 0, locals := 43 }) (va_Pc [.ref (α (10)), .int (y), .int (x1), .int (x2), .int (x3)] (fun U => mW G V α U U.heap)) (va_Qi (fun (r9 : Int32) (u : mV × (Nat → Nat)) => 0 = r9 ∧ mQ G V α u f nr nw ns 1) (fun u t => mH G u.1 u.2 t.heap) (mfree G)) 0 0 (mfree G) := by
  refine Met.ofW (cc := cX4_addShift) (maxL := 9) (ret := (some .int)) (by decide) rfl ?_
  intro p e s m args below meth c s₁ B hml hv
  obtain ⟨rfl, hw⟩ := hv
  have hx := B.exec
  have hb := B.bytes
  have hr := B.returns
  have hts := atoms_spec (ws := wsX4_addShift) B.pre
  have hown : s.vm.findClass RX4 = some m.cls := findClass_of_methodNamed B.named
  have hlocks := B.notSynchronized
  have hS : va_S (mfree G) s.heap s.heap [] := va_S.rf
  have hO : ∀ j, ¬ (10 ≤ j ∧ j < 25) → V j = V j := fun _ _ => rfl
  obtain ⟨m10, m11, m12, m13, m14, m15, m16, m17, m18, m19, m20, m21, m22, m23, m24⟩ := id hM
  have fl_53 := hts (.fieldLink RX4 53 "RosterPayModel" "thrown" "I") (by decide +kernel)
  have in_X4 : ∀ w ∈ u_ws RX4 TX4 18, w ∈ wsX4_addShift := by decide +kernel
  have hl := lv_entry ([.ref (α (10)), .int (y), .int (x1), .int (x2), .int (x3)]) (n := 9) (Nat.le_of_ble_eq_true rfl)
  rw [lg_entry_eq]
  generalize (lg_sl ([.ref (α (10)), .int (y), .int (x1), .int (x2), .int (x3)]) ++ List.replicate (9 - (lg_sl ([.ref (α (10)), .int (y), .int (x1), .int (x2), .int (x3)])).length) Slot.unset).toArray = ls at hl ⊢
  have hl : lv_has ls 9 [(0, .ref (α (10))), (1, .int (y)), (2, .int (x1)), (3, .int (x2)), (4, .int (x3))] := hl
  refine lv_iload_n hx hb dX4_addShift_0 rfl (lv_at hl 2 rfl) ?_
  refine lv_iconst (v := (0)) hx hb dX4_addShift_1 (by decide) ?_
  refine lv_sipush (v := (362)) hx hb dX4_addShift_2 (by decide) ?_
  refine mcallSi hw ⟨hx, hb, hml, hown, hts⟩ (c_X4_isIn (x1) (0) (362)) (va_cwS 3 hts gX4_addShift_X4_isIn rfl rfl rfl (by decide +kernel) ⟨Nat.le_of_ble_eq_true rfl, Nat.le_of_ble_eq_true rfl⟩) rfl hl.1 rfl (Nat.le_of_ble_eq_true rfl) dX4_addShift_5 ⟨Nat.le_of_ble_eq_true rfl, Nat.le_of_ble_eq_true rfl⟩ ?_
  refine mif_eqB (tgt := 36) hx hb dX4_addShift_8 (by decide) (fun c1 => ?_) (fun c1 => ?_)
  ·
    refine lv_iconst (v := (0)) hx hb dX4_addShift_36 (by decide) ?_
    refine lv_istore (lv' := [(5, .int (0)), (0, .ref (α (10))), (1, .int (y)), (2, .int (x1)), (3, .int (x2)), (4, .int (x3))]) hx hb dX4_addShift_37 hl (by decide) rfl (fun ls hl => ?_)
    refine lv_aload_n hx hb dX4_addShift_39 rfl (lv_at hl 1 rfl) ?_
    refine lv_aload_n hx hb dX4_addShift_40 rfl (lv_at hl 1 rfl) ?_
    refine lv_iload_n hx hb dX4_addShift_41 rfl (lv_at hl 2 rfl) ?_
    refine mcallVi hw (m10) rfl rfl ⟨hx, hb, hml, hown, hts⟩ (c_X4_isWorker hM (y)) (cwV 1 hts gX4_addShift_X4_isWorker rfl rfl rfl (by decide +kernel) ⟨Nat.le_of_ble_eq_true rfl, Nat.le_of_ble_eq_true rfl⟩) rfl hl.1 rfl (Nat.le_of_ble_eq_true rfl) dX4_addShift_42 ⟨Nat.le_of_ble_eq_true rfl, Nat.le_of_ble_eq_true rfl⟩ ?_
    refine mif_neB (tgt := 52) hx hb dX4_addShift_45 (by decide) (fun z => absurd z (hbad)) (fun c2 => ?_)
    refine lv_iconst (v := (1)) hx hb dX4_addShift_48 (by decide) ?_
    refine lv_goto (tgt := 62) hx hb dX4_addShift_49 (by decide) ?_
    refine mput (C := RX4) (T := TX4) (N := 18) (ci := 5) hx hb hts in_X4 tyX4 tyX4_ok nmX4 hown hw hS (m10) rfl 17 (by decide) fl_53 rfl rfl rfl (Nat.le_of_ble_eq_true rfl) dX4_addShift_62 (fun H locs hw hS => ?_)
    obtain ⟨V1, hV1⟩ : ∃ z, z = vup V 10 (mobj α (nr) (nw) (ns) (1)) := ⟨_, rfl⟩
    have hw : mW G V1 α s H := by rw [hV1]; exact hw
    have hM : mM G V1 α f (nr) (nw) (ns) (1) := by rw [hV1]; exact hM.obj _ _ _ _
    have hO : ∀ j, ¬ (10 ≤ j ∧ j < 25) → V1 j = V j := fun j hj => (show V1 j = V j by rw [hV1]; exact vup_n _ _ (by omega)).trans (hO j hj)
    obtain ⟨m10, m11, m12, m13, m14, m15, m16, m17, m18, m19, m20, m21, m22, m23, m24⟩ := id hM
    refine lv_aload_n hx hb dX4_addShift_65 rfl (lv_at hl 1 rfl) ?_
    refine mget (C := RX4) (T := TX4) (N := 18) (ci := 5) hx hb hts in_X4 hown hw (m10) rfl 17 (by decide) fl_53 rfl dX4_addShift_66 ?_
    refine lv_if_le (tgt := 74) hx hb dX4_addShift_69 (by decide) (fun z => absurd z ((by decide))) (fun c3 => ?_)
    refine lv_iconst (v := (0)) hx hb dX4_addShift_72 (by decide) ?_
    exact W.iret (v := 0) hx hb hr (fun t ht hW => ⟨⟨_, (V1, α), rfl, ⟨rfl, hM, hO, rfl⟩, by show mH G V1 α t.heap; rw [ht]; exact hw.2.2⟩, hS.F ht⟩) hS.2.2 dX4_addShift_73
  ·
    refine lv_iload_n hx hb dX4_addShift_11 rfl (lv_at hl 3 rfl) ?_
    refine lv_iconst (v := (0)) hx hb dX4_addShift_12 (by decide) ?_
    refine lv_bipush (v := (95)) hx hb dX4_addShift_13 (by decide) ?_
    refine mcallSi hw ⟨hx, hb, hml, hown, hts⟩ (c_X4_isIn (x2) (0) (95)) (va_cwS 3 hts gX4_addShift_X4_isIn rfl rfl rfl (by decide +kernel) ⟨Nat.le_of_ble_eq_true rfl, Nat.le_of_ble_eq_true rfl⟩) rfl hl.1 rfl (Nat.le_of_ble_eq_true rfl) dX4_addShift_15 ⟨Nat.le_of_ble_eq_true rfl, Nat.le_of_ble_eq_true rfl⟩ ?_
    refine mif_eqB (tgt := 36) hx hb dX4_addShift_18 (by decide) (fun c4 => ?_) (fun c4 => ?_)
    ·
      refine lv_iconst (v := (0)) hx hb dX4_addShift_36 (by decide) ?_
      refine lv_istore (lv' := [(5, .int (0)), (0, .ref (α (10))), (1, .int (y)), (2, .int (x1)), (3, .int (x2)), (4, .int (x3))]) hx hb dX4_addShift_37 hl (by decide) rfl (fun ls hl => ?_)
      refine lv_aload_n hx hb dX4_addShift_39 rfl (lv_at hl 1 rfl) ?_
      refine lv_aload_n hx hb dX4_addShift_40 rfl (lv_at hl 1 rfl) ?_
      refine lv_iload_n hx hb dX4_addShift_41 rfl (lv_at hl 2 rfl) ?_
      refine mcallVi hw (m10) rfl rfl ⟨hx, hb, hml, hown, hts⟩ (c_X4_isWorker hM (y)) (cwV 1 hts gX4_addShift_X4_isWorker rfl rfl rfl (by decide +kernel) ⟨Nat.le_of_ble_eq_true rfl, Nat.le_of_ble_eq_true rfl⟩) rfl hl.1 rfl (Nat.le_of_ble_eq_true rfl) dX4_addShift_42 ⟨Nat.le_of_ble_eq_true rfl, Nat.le_of_ble_eq_true rfl⟩ ?_
      refine mif_neB (tgt := 52) hx hb dX4_addShift_45 (by decide) (fun z => absurd z (hbad)) (fun c5 => ?_)
      refine lv_iconst (v := (1)) hx hb dX4_addShift_48 (by decide) ?_
      refine lv_goto (tgt := 62) hx hb dX4_addShift_49 (by decide) ?_
      refine mput (C := RX4) (T := TX4) (N := 18) (ci := 5) hx hb hts in_X4 tyX4 tyX4_ok nmX4 hown hw hS (m10) rfl 17 (by decide) fl_53 rfl rfl rfl (Nat.le_of_ble_eq_true rfl) dX4_addShift_62 (fun H locs hw hS => ?_)
      obtain ⟨V2, hV2⟩ : ∃ z, z = vup V 10 (mobj α (nr) (nw) (ns) (1)) := ⟨_, rfl⟩
      have hw : mW G V2 α s H := by rw [hV2]; exact hw
      have hM : mM G V2 α f (nr) (nw) (ns) (1) := by rw [hV2]; exact hM.obj _ _ _ _
      have hO : ∀ j, ¬ (10 ≤ j ∧ j < 25) → V2 j = V j := fun j hj => (show V2 j = V j by rw [hV2]; exact vup_n _ _ (by omega)).trans (hO j hj)
      obtain ⟨m10, m11, m12, m13, m14, m15, m16, m17, m18, m19, m20, m21, m22, m23, m24⟩ := id hM
      refine lv_aload_n hx hb dX4_addShift_65 rfl (lv_at hl 1 rfl) ?_
      refine mget (C := RX4) (T := TX4) (N := 18) (ci := 5) hx hb hts in_X4 hown hw (m10) rfl 17 (by decide) fl_53 rfl dX4_addShift_66 ?_
      refine lv_if_le (tgt := 74) hx hb dX4_addShift_69 (by decide) (fun z => absurd z ((by decide))) (fun c6 => ?_)
      refine lv_iconst (v := (0)) hx hb dX4_addShift_72 (by decide) ?_
      exact W.iret (v := 0) hx hb hr (fun t ht hW => ⟨⟨_, (V2, α), rfl, ⟨rfl, hM, hO, rfl⟩, by show mH G V2 α t.heap; rw [ht]; exact hw.2.2⟩, hS.F ht⟩) hS.2.2 dX4_addShift_73
    ·
      refine lv_iload hx hb dX4_addShift_21 (lv_at hl 4 rfl) ?_
      refine lv_iconst (v := (1)) hx hb dX4_addShift_23 (by decide) ?_
      refine lv_bipush (v := (64)) hx hb dX4_addShift_24 (by decide) ?_
      refine mcallSi hw ⟨hx, hb, hml, hown, hts⟩ (c_X4_isIn (x3) (1) (64)) (va_cwS 3 hts gX4_addShift_X4_isIn rfl rfl rfl (by decide +kernel) ⟨Nat.le_of_ble_eq_true rfl, Nat.le_of_ble_eq_true rfl⟩) rfl hl.1 rfl (Nat.le_of_ble_eq_true rfl) dX4_addShift_26 ⟨Nat.le_of_ble_eq_true rfl, Nat.le_of_ble_eq_true rfl⟩ ?_
      refine mif_eqB (tgt := 36) hx hb dX4_addShift_29 (by decide) (fun c7 => ?_) (fun c7 => ?_)
      ·
        refine lv_iconst (v := (0)) hx hb dX4_addShift_36 (by decide) ?_
        refine lv_istore (lv' := [(5, .int (0)), (0, .ref (α (10))), (1, .int (y)), (2, .int (x1)), (3, .int (x2)), (4, .int (x3))]) hx hb dX4_addShift_37 hl (by decide) rfl (fun ls hl => ?_)
        refine lv_aload_n hx hb dX4_addShift_39 rfl (lv_at hl 1 rfl) ?_
        refine lv_aload_n hx hb dX4_addShift_40 rfl (lv_at hl 1 rfl) ?_
        refine lv_iload_n hx hb dX4_addShift_41 rfl (lv_at hl 2 rfl) ?_
        refine mcallVi hw (m10) rfl rfl ⟨hx, hb, hml, hown, hts⟩ (c_X4_isWorker hM (y)) (cwV 1 hts gX4_addShift_X4_isWorker rfl rfl rfl (by decide +kernel) ⟨Nat.le_of_ble_eq_true rfl, Nat.le_of_ble_eq_true rfl⟩) rfl hl.1 rfl (Nat.le_of_ble_eq_true rfl) dX4_addShift_42 ⟨Nat.le_of_ble_eq_true rfl, Nat.le_of_ble_eq_true rfl⟩ ?_
        refine mif_neB (tgt := 52) hx hb dX4_addShift_45 (by decide) (fun z => absurd z (hbad)) (fun c8 => ?_)
        refine lv_iconst (v := (1)) hx hb dX4_addShift_48 (by decide) ?_
        refine lv_goto (tgt := 62) hx hb dX4_addShift_49 (by decide) ?_
        refine mput (C := RX4) (T := TX4) (N := 18) (ci := 5) hx hb hts in_X4 tyX4 tyX4_ok nmX4 hown hw hS (m10) rfl 17 (by decide) fl_53 rfl rfl rfl (Nat.le_of_ble_eq_true rfl) dX4_addShift_62 (fun H locs hw hS => ?_)
        obtain ⟨V3, hV3⟩ : ∃ z, z = vup V 10 (mobj α (nr) (nw) (ns) (1)) := ⟨_, rfl⟩
        have hw : mW G V3 α s H := by rw [hV3]; exact hw
        have hM : mM G V3 α f (nr) (nw) (ns) (1) := by rw [hV3]; exact hM.obj _ _ _ _
        have hO : ∀ j, ¬ (10 ≤ j ∧ j < 25) → V3 j = V j := fun j hj => (show V3 j = V j by rw [hV3]; exact vup_n _ _ (by omega)).trans (hO j hj)
        obtain ⟨m10, m11, m12, m13, m14, m15, m16, m17, m18, m19, m20, m21, m22, m23, m24⟩ := id hM
        refine lv_aload_n hx hb dX4_addShift_65 rfl (lv_at hl 1 rfl) ?_
        refine mget (C := RX4) (T := TX4) (N := 18) (ci := 5) hx hb hts in_X4 hown hw (m10) rfl 17 (by decide) fl_53 rfl dX4_addShift_66 ?_
        refine lv_if_le (tgt := 74) hx hb dX4_addShift_69 (by decide) (fun z => absurd z ((by decide))) (fun c9 => ?_)
        refine lv_iconst (v := (0)) hx hb dX4_addShift_72 (by decide) ?_
        exact W.iret (v := 0) hx hb hr (fun t ht hW => ⟨⟨_, (V3, α), rfl, ⟨rfl, hM, hO, rfl⟩, by show mH G V3 α t.heap; rw [ht]; exact hw.2.2⟩, hS.F ht⟩) hS.2.2 dX4_addShift_73
      ·
        refine lv_iconst (v := (1)) hx hb dX4_addShift_32 (by decide) ?_
        refine lv_goto (tgt := 37) hx hb dX4_addShift_33 (by decide) ?_
        refine lv_istore (lv' := [(5, .int (1)), (0, .ref (α (10))), (1, .int (y)), (2, .int (x1)), (3, .int (x2)), (4, .int (x3))]) hx hb dX4_addShift_37 hl (by decide) rfl (fun ls hl => ?_)
        refine lv_aload_n hx hb dX4_addShift_39 rfl (lv_at hl 1 rfl) ?_
        refine lv_aload_n hx hb dX4_addShift_40 rfl (lv_at hl 1 rfl) ?_
        refine lv_iload_n hx hb dX4_addShift_41 rfl (lv_at hl 2 rfl) ?_
        refine mcallVi hw (m10) rfl rfl ⟨hx, hb, hml, hown, hts⟩ (c_X4_isWorker hM (y)) (cwV 1 hts gX4_addShift_X4_isWorker rfl rfl rfl (by decide +kernel) ⟨Nat.le_of_ble_eq_true rfl, Nat.le_of_ble_eq_true rfl⟩) rfl hl.1 rfl (Nat.le_of_ble_eq_true rfl) dX4_addShift_42 ⟨Nat.le_of_ble_eq_true rfl, Nat.le_of_ble_eq_true rfl⟩ ?_
        refine mif_neB (tgt := 52) hx hb dX4_addShift_45 (by decide) (fun z => absurd z (hbad)) (fun c10 => ?_)
        refine lv_iconst (v := (1)) hx hb dX4_addShift_48 (by decide) ?_
        refine lv_goto (tgt := 62) hx hb dX4_addShift_49 (by decide) ?_
        refine mput (C := RX4) (T := TX4) (N := 18) (ci := 5) hx hb hts in_X4 tyX4 tyX4_ok nmX4 hown hw hS (m10) rfl 17 (by decide) fl_53 rfl rfl rfl (Nat.le_of_ble_eq_true rfl) dX4_addShift_62 (fun H locs hw hS => ?_)
        obtain ⟨V4, hV4⟩ : ∃ z, z = vup V 10 (mobj α (nr) (nw) (ns) (1)) := ⟨_, rfl⟩
        have hw : mW G V4 α s H := by rw [hV4]; exact hw
        have hM : mM G V4 α f (nr) (nw) (ns) (1) := by rw [hV4]; exact hM.obj _ _ _ _
        have hO : ∀ j, ¬ (10 ≤ j ∧ j < 25) → V4 j = V j := fun j hj => (show V4 j = V j by rw [hV4]; exact vup_n _ _ (by omega)).trans (hO j hj)
        obtain ⟨m10, m11, m12, m13, m14, m15, m16, m17, m18, m19, m20, m21, m22, m23, m24⟩ := id hM
        refine lv_aload_n hx hb dX4_addShift_65 rfl (lv_at hl 1 rfl) ?_
        refine mget (C := RX4) (T := TX4) (N := 18) (ci := 5) hx hb hts in_X4 hown hw (m10) rfl 17 (by decide) fl_53 rfl dX4_addShift_66 ?_
        refine lv_if_le (tgt := 74) hx hb dX4_addShift_69 (by decide) (fun z => absurd z ((by decide))) (fun c11 => ?_)
        refine lv_iconst (v := (0)) hx hb dX4_addShift_72 (by decide) ?_
        exact W.iret (v := 0) hx hb hr (fun t ht hW => ⟨⟨_, (V4, α), rfl, ⟨rfl, hM, hO, rfl⟩, by show mH G V4 α t.heap; rw [ht]; exact hw.2.2⟩, hS.F ht⟩) hS.2.2 dX4_addShift_73

set_option maxHeartbeats 4000000 in
set_option maxRecDepth 100000 in
theorem c_X4_addShift_2 {l : Launch} {G : mG} {V : mV} {α : Nat → Nat} {f : sT} {nr nw ns : Nat} {th : Int32} (hM : mM G V α f nr nw ns th) (y x1 x2 x3 : Int32) (hy : inn y 0 (nI nw - 1)) (hbad : ¬ (inn x1 0 362 ∧ inn x2 0 95 ∧ inn x3 1 64)) : Met l yX4_addShift wsX4_addShift ({ frames := 2, cells := 0, slots := 0, locals := 43 }) (va_Pc [.ref (α (10)), .int (y), .int (x1), .int (x2), .int (x3)] (fun U => mW G V α U U.heap)) (va_Qi (fun (r9 : Int32) (u : mV × (Nat → Nat)) => 0 = r9 ∧ mQ G V α u f nr nw ns 2) (fun u t => mH G u.1 u.2 t.heap) (mfree G)) 0 0 (mfree G) := by
  refine Met.ofW (cc := cX4_addShift) (maxL := 9) (ret := (some .int)) (by decide) rfl ?_
  intro p e s m args below meth c s₁ B hml hv
  obtain ⟨rfl, hw⟩ := hv
  have hx := B.exec
  have hb := B.bytes
  have hr := B.returns
  have hts := atoms_spec (ws := wsX4_addShift) B.pre
  have hown : s.vm.findClass RX4 = some m.cls := findClass_of_methodNamed B.named
  have hlocks := B.notSynchronized
  have hS : va_S (mfree G) s.heap s.heap [] := va_S.rf
  have hO : ∀ j, ¬ (10 ≤ j ∧ j < 25) → V j = V j := fun _ _ => rfl
  obtain ⟨m10, m11, m12, m13, m14, m15, m16, m17, m18, m19, m20, m21, m22, m23, m24⟩ := id hM
  have fl_53 := hts (.fieldLink RX4 53 "RosterPayModel" "thrown" "I") (by decide +kernel)
  have in_X4 : ∀ w ∈ u_ws RX4 TX4 18, w ∈ wsX4_addShift := by decide +kernel
  have hl := lv_entry ([.ref (α (10)), .int (y), .int (x1), .int (x2), .int (x3)]) (n := 9) (Nat.le_of_ble_eq_true rfl)
  rw [lg_entry_eq]
  generalize (lg_sl ([.ref (α (10)), .int (y), .int (x1), .int (x2), .int (x3)]) ++ List.replicate (9 - (lg_sl ([.ref (α (10)), .int (y), .int (x1), .int (x2), .int (x3)])).length) Slot.unset).toArray = ls at hl ⊢
  have hl : lv_has ls 9 [(0, .ref (α (10))), (1, .int (y)), (2, .int (x1)), (3, .int (x2)), (4, .int (x3))] := hl
  refine lv_iload_n hx hb dX4_addShift_0 rfl (lv_at hl 2 rfl) ?_
  refine lv_iconst (v := (0)) hx hb dX4_addShift_1 (by decide) ?_
  refine lv_sipush (v := (362)) hx hb dX4_addShift_2 (by decide) ?_
  refine mcallSi hw ⟨hx, hb, hml, hown, hts⟩ (c_X4_isIn (x1) (0) (362)) (va_cwS 3 hts gX4_addShift_X4_isIn rfl rfl rfl (by decide +kernel) ⟨Nat.le_of_ble_eq_true rfl, Nat.le_of_ble_eq_true rfl⟩) rfl hl.1 rfl (Nat.le_of_ble_eq_true rfl) dX4_addShift_5 ⟨Nat.le_of_ble_eq_true rfl, Nat.le_of_ble_eq_true rfl⟩ ?_
  refine mif_eqB (tgt := 36) hx hb dX4_addShift_8 (by decide) (fun c1 => ?_) (fun c1 => ?_)
  ·
    refine lv_iconst (v := (0)) hx hb dX4_addShift_36 (by decide) ?_
    refine lv_istore (lv' := [(5, .int (0)), (0, .ref (α (10))), (1, .int (y)), (2, .int (x1)), (3, .int (x2)), (4, .int (x3))]) hx hb dX4_addShift_37 hl (by decide) rfl (fun ls hl => ?_)
    refine lv_aload_n hx hb dX4_addShift_39 rfl (lv_at hl 1 rfl) ?_
    refine lv_aload_n hx hb dX4_addShift_40 rfl (lv_at hl 1 rfl) ?_
    refine lv_iload_n hx hb dX4_addShift_41 rfl (lv_at hl 2 rfl) ?_
    refine mcallVi hw (m10) rfl rfl ⟨hx, hb, hml, hown, hts⟩ (c_X4_isWorker hM (y)) (cwV 1 hts gX4_addShift_X4_isWorker rfl rfl rfl (by decide +kernel) ⟨Nat.le_of_ble_eq_true rfl, Nat.le_of_ble_eq_true rfl⟩) rfl hl.1 rfl (Nat.le_of_ble_eq_true rfl) dX4_addShift_42 ⟨Nat.le_of_ble_eq_true rfl, Nat.le_of_ble_eq_true rfl⟩ ?_
    refine mif_neB (tgt := 52) hx hb dX4_addShift_45 (by decide) (fun c2 => ?_) (fun z => absurd (hy) z)
    refine lv_iload hx hb dX4_addShift_52 (lv_at hl 0 rfl) ?_
    refine lv_if_eq (tgt := 61) hx hb dX4_addShift_54 (by decide) (fun c3 => ?_) (fun z => absurd ((by decide)) z)
    refine lv_iconst (v := (2)) hx hb dX4_addShift_61 (by decide) ?_
    refine mput (C := RX4) (T := TX4) (N := 18) (ci := 5) hx hb hts in_X4 tyX4 tyX4_ok nmX4 hown hw hS (m10) rfl 17 (by decide) fl_53 rfl rfl rfl (Nat.le_of_ble_eq_true rfl) dX4_addShift_62 (fun H locs hw hS => ?_)
    obtain ⟨V1, hV1⟩ : ∃ z, z = vup V 10 (mobj α (nr) (nw) (ns) (2)) := ⟨_, rfl⟩
    have hw : mW G V1 α s H := by rw [hV1]; exact hw
    have hM : mM G V1 α f (nr) (nw) (ns) (2) := by rw [hV1]; exact hM.obj _ _ _ _
    have hO : ∀ j, ¬ (10 ≤ j ∧ j < 25) → V1 j = V j := fun j hj => (show V1 j = V j by rw [hV1]; exact vup_n _ _ (by omega)).trans (hO j hj)
    obtain ⟨m10, m11, m12, m13, m14, m15, m16, m17, m18, m19, m20, m21, m22, m23, m24⟩ := id hM
    refine lv_aload_n hx hb dX4_addShift_65 rfl (lv_at hl 1 rfl) ?_
    refine mget (C := RX4) (T := TX4) (N := 18) (ci := 5) hx hb hts in_X4 hown hw (m10) rfl 17 (by decide) fl_53 rfl dX4_addShift_66 ?_
    refine lv_if_le (tgt := 74) hx hb dX4_addShift_69 (by decide) (fun z => absurd z ((by decide))) (fun c4 => ?_)
    refine lv_iconst (v := (0)) hx hb dX4_addShift_72 (by decide) ?_
    exact W.iret (v := 0) hx hb hr (fun t ht hW => ⟨⟨_, (V1, α), rfl, ⟨rfl, hM, hO, rfl⟩, by show mH G V1 α t.heap; rw [ht]; exact hw.2.2⟩, hS.F ht⟩) hS.2.2 dX4_addShift_73
  ·
    refine lv_iload_n hx hb dX4_addShift_11 rfl (lv_at hl 3 rfl) ?_
    refine lv_iconst (v := (0)) hx hb dX4_addShift_12 (by decide) ?_
    refine lv_bipush (v := (95)) hx hb dX4_addShift_13 (by decide) ?_
    refine mcallSi hw ⟨hx, hb, hml, hown, hts⟩ (c_X4_isIn (x2) (0) (95)) (va_cwS 3 hts gX4_addShift_X4_isIn rfl rfl rfl (by decide +kernel) ⟨Nat.le_of_ble_eq_true rfl, Nat.le_of_ble_eq_true rfl⟩) rfl hl.1 rfl (Nat.le_of_ble_eq_true rfl) dX4_addShift_15 ⟨Nat.le_of_ble_eq_true rfl, Nat.le_of_ble_eq_true rfl⟩ ?_
    refine mif_eqB (tgt := 36) hx hb dX4_addShift_18 (by decide) (fun c5 => ?_) (fun c5 => ?_)
    ·
      refine lv_iconst (v := (0)) hx hb dX4_addShift_36 (by decide) ?_
      refine lv_istore (lv' := [(5, .int (0)), (0, .ref (α (10))), (1, .int (y)), (2, .int (x1)), (3, .int (x2)), (4, .int (x3))]) hx hb dX4_addShift_37 hl (by decide) rfl (fun ls hl => ?_)
      refine lv_aload_n hx hb dX4_addShift_39 rfl (lv_at hl 1 rfl) ?_
      refine lv_aload_n hx hb dX4_addShift_40 rfl (lv_at hl 1 rfl) ?_
      refine lv_iload_n hx hb dX4_addShift_41 rfl (lv_at hl 2 rfl) ?_
      refine mcallVi hw (m10) rfl rfl ⟨hx, hb, hml, hown, hts⟩ (c_X4_isWorker hM (y)) (cwV 1 hts gX4_addShift_X4_isWorker rfl rfl rfl (by decide +kernel) ⟨Nat.le_of_ble_eq_true rfl, Nat.le_of_ble_eq_true rfl⟩) rfl hl.1 rfl (Nat.le_of_ble_eq_true rfl) dX4_addShift_42 ⟨Nat.le_of_ble_eq_true rfl, Nat.le_of_ble_eq_true rfl⟩ ?_
      refine mif_neB (tgt := 52) hx hb dX4_addShift_45 (by decide) (fun c6 => ?_) (fun z => absurd (hy) z)
      refine lv_iload hx hb dX4_addShift_52 (lv_at hl 0 rfl) ?_
      refine lv_if_eq (tgt := 61) hx hb dX4_addShift_54 (by decide) (fun c7 => ?_) (fun z => absurd ((by decide)) z)
      refine lv_iconst (v := (2)) hx hb dX4_addShift_61 (by decide) ?_
      refine mput (C := RX4) (T := TX4) (N := 18) (ci := 5) hx hb hts in_X4 tyX4 tyX4_ok nmX4 hown hw hS (m10) rfl 17 (by decide) fl_53 rfl rfl rfl (Nat.le_of_ble_eq_true rfl) dX4_addShift_62 (fun H locs hw hS => ?_)
      obtain ⟨V2, hV2⟩ : ∃ z, z = vup V 10 (mobj α (nr) (nw) (ns) (2)) := ⟨_, rfl⟩
      have hw : mW G V2 α s H := by rw [hV2]; exact hw
      have hM : mM G V2 α f (nr) (nw) (ns) (2) := by rw [hV2]; exact hM.obj _ _ _ _
      have hO : ∀ j, ¬ (10 ≤ j ∧ j < 25) → V2 j = V j := fun j hj => (show V2 j = V j by rw [hV2]; exact vup_n _ _ (by omega)).trans (hO j hj)
      obtain ⟨m10, m11, m12, m13, m14, m15, m16, m17, m18, m19, m20, m21, m22, m23, m24⟩ := id hM
      refine lv_aload_n hx hb dX4_addShift_65 rfl (lv_at hl 1 rfl) ?_
      refine mget (C := RX4) (T := TX4) (N := 18) (ci := 5) hx hb hts in_X4 hown hw (m10) rfl 17 (by decide) fl_53 rfl dX4_addShift_66 ?_
      refine lv_if_le (tgt := 74) hx hb dX4_addShift_69 (by decide) (fun z => absurd z ((by decide))) (fun c8 => ?_)
      refine lv_iconst (v := (0)) hx hb dX4_addShift_72 (by decide) ?_
      exact W.iret (v := 0) hx hb hr (fun t ht hW => ⟨⟨_, (V2, α), rfl, ⟨rfl, hM, hO, rfl⟩, by show mH G V2 α t.heap; rw [ht]; exact hw.2.2⟩, hS.F ht⟩) hS.2.2 dX4_addShift_73
    ·
      refine lv_iload hx hb dX4_addShift_21 (lv_at hl 4 rfl) ?_
      refine lv_iconst (v := (1)) hx hb dX4_addShift_23 (by decide) ?_
      refine lv_bipush (v := (64)) hx hb dX4_addShift_24 (by decide) ?_
      refine mcallSi hw ⟨hx, hb, hml, hown, hts⟩ (c_X4_isIn (x3) (1) (64)) (va_cwS 3 hts gX4_addShift_X4_isIn rfl rfl rfl (by decide +kernel) ⟨Nat.le_of_ble_eq_true rfl, Nat.le_of_ble_eq_true rfl⟩) rfl hl.1 rfl (Nat.le_of_ble_eq_true rfl) dX4_addShift_26 ⟨Nat.le_of_ble_eq_true rfl, Nat.le_of_ble_eq_true rfl⟩ ?_
      refine mif_eqB (tgt := 36) hx hb dX4_addShift_29 (by decide) (fun c9 => ?_) (fun c9 => ?_)
      ·
        refine lv_iconst (v := (0)) hx hb dX4_addShift_36 (by decide) ?_
        refine lv_istore (lv' := [(5, .int (0)), (0, .ref (α (10))), (1, .int (y)), (2, .int (x1)), (3, .int (x2)), (4, .int (x3))]) hx hb dX4_addShift_37 hl (by decide) rfl (fun ls hl => ?_)
        refine lv_aload_n hx hb dX4_addShift_39 rfl (lv_at hl 1 rfl) ?_
        refine lv_aload_n hx hb dX4_addShift_40 rfl (lv_at hl 1 rfl) ?_
        refine lv_iload_n hx hb dX4_addShift_41 rfl (lv_at hl 2 rfl) ?_
        refine mcallVi hw (m10) rfl rfl ⟨hx, hb, hml, hown, hts⟩ (c_X4_isWorker hM (y)) (cwV 1 hts gX4_addShift_X4_isWorker rfl rfl rfl (by decide +kernel) ⟨Nat.le_of_ble_eq_true rfl, Nat.le_of_ble_eq_true rfl⟩) rfl hl.1 rfl (Nat.le_of_ble_eq_true rfl) dX4_addShift_42 ⟨Nat.le_of_ble_eq_true rfl, Nat.le_of_ble_eq_true rfl⟩ ?_
        refine mif_neB (tgt := 52) hx hb dX4_addShift_45 (by decide) (fun c10 => ?_) (fun z => absurd (hy) z)
        refine lv_iload hx hb dX4_addShift_52 (lv_at hl 0 rfl) ?_
        refine lv_if_eq (tgt := 61) hx hb dX4_addShift_54 (by decide) (fun c11 => ?_) (fun z => absurd ((by decide)) z)
        refine lv_iconst (v := (2)) hx hb dX4_addShift_61 (by decide) ?_
        refine mput (C := RX4) (T := TX4) (N := 18) (ci := 5) hx hb hts in_X4 tyX4 tyX4_ok nmX4 hown hw hS (m10) rfl 17 (by decide) fl_53 rfl rfl rfl (Nat.le_of_ble_eq_true rfl) dX4_addShift_62 (fun H locs hw hS => ?_)
        obtain ⟨V3, hV3⟩ : ∃ z, z = vup V 10 (mobj α (nr) (nw) (ns) (2)) := ⟨_, rfl⟩
        have hw : mW G V3 α s H := by rw [hV3]; exact hw
        have hM : mM G V3 α f (nr) (nw) (ns) (2) := by rw [hV3]; exact hM.obj _ _ _ _
        have hO : ∀ j, ¬ (10 ≤ j ∧ j < 25) → V3 j = V j := fun j hj => (show V3 j = V j by rw [hV3]; exact vup_n _ _ (by omega)).trans (hO j hj)
        obtain ⟨m10, m11, m12, m13, m14, m15, m16, m17, m18, m19, m20, m21, m22, m23, m24⟩ := id hM
        refine lv_aload_n hx hb dX4_addShift_65 rfl (lv_at hl 1 rfl) ?_
        refine mget (C := RX4) (T := TX4) (N := 18) (ci := 5) hx hb hts in_X4 hown hw (m10) rfl 17 (by decide) fl_53 rfl dX4_addShift_66 ?_
        refine lv_if_le (tgt := 74) hx hb dX4_addShift_69 (by decide) (fun z => absurd z ((by decide))) (fun c12 => ?_)
        refine lv_iconst (v := (0)) hx hb dX4_addShift_72 (by decide) ?_
        exact W.iret (v := 0) hx hb hr (fun t ht hW => ⟨⟨_, (V3, α), rfl, ⟨rfl, hM, hO, rfl⟩, by show mH G V3 α t.heap; rw [ht]; exact hw.2.2⟩, hS.F ht⟩) hS.2.2 dX4_addShift_73
      ·
        exact absurd ⟨c1, c5, c9⟩ hbad
