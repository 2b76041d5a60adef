set_option maxHeartbeats 4000000 in
set_option maxRecDepth 100000 in
theorem op_shifts {p : Program} {l : Launch} {e : Env} {s : State} {m : MethodId} {args : Array Value} {below : List Frame} {meth : Method} {c : Code} {H : Heap} {locs : List Loc} {cells slots : Nat} {Q : State → Prop} {ls : Array Slot} {G : mG} {V : mV} {α : Nat → Nat} {f : sT} {nr nw ns : Nat} {th : Int32} {b L : Nat} {xs : Nat → Int32} {j : Nat} (hF : mFix p l s m args c G b L xs) (hj : j + 6 ≤ L) {x1 x2 x3 x4 x5 : Int32} (y1 : xs (j + 1) = x1) (y2 : xs (j + 2) = x2) (y3 : xs (j + 3) = x3) (y4 : xs (j + 4) = x4) (y5 : xs (j + 5) = x5) (hI : mI G V α f nr nw ns th) (hw : mW G V α s H) (hS : va_S (mfree G) s.heap H locs) (hc9 : cells + 2 ≤ 601024) (hs9 : slots + 210 ≤ 7293033) (hl : lv_has ls 7 [(4, .int (nI (j))), (0, .ref (b)), (1, .ref (α (0))), (2, .ref (α (10))), (3, .ref (α (9)))])
    (kk : ∀ (V1 : mV) (α1 : Nat → Nat) (f1 : sT) (nr1 nw1 ns1 : Nat) (th1 : Int32) (H1 : Heap) (locs1 : List Loc) (ls1 : Array Slot), mI G V1 α1 f1 nr1 nw1 ns1 th1 → mW G V1 α1 s H1 → va_S (mfree G) s.heap H1 locs1 → lv_has ls1 7 [(4, .int (nI (j))), (0, .ref (b)), (1, .ref (α1 (0))), (2, .ref (α1 (10))), (3, .ref (α1 (9)))] → W p l e room_1 s m args below meth c H1 locs1 (cells + 2) (slots + 210) Q (F0 m 1415 ls1 [])) : W p l e room_1 s m args below meth c H locs cells slots Q (F0 m 826 ls []) := by
  obtain ⟨hl0, hx, hb, hml, hown, hts, hX, hbl, hbA, hL⟩ := hF
  obtain ⟨hC, hM, hwf, g0, h9⟩ := hI
  refine lv_aload_n hx hb dL_law_826 rfl (lv_at hl 2 rfl) ?_
  refine mcallVi hw hC.1 rfl rfl ⟨hx, hb, hml, hown, hts⟩ (c_X3_shifts hC hwf) (cwV 0 hts gL_law_X3_shifts rfl rfl rfl (by decide +kernel) ⟨Nat.le_of_ble_eq_true rfl, Nat.le_of_ble_eq_true rfl⟩) rfl hl.1 rfl (Nat.le_of_ble_eq_true rfl) dL_law_827 ⟨(by show cells + 0 ≤ 601024; omega), (by show slots + 0 ≤ 7293033; omega)⟩ ?_
  refine lv_aload_n hx hb dL_law_830 rfl (lv_at hl 3 rfl) ?_
  refine mcallVw (rest := [.int (nI ns)]) hw hM.1 rfl rfl ⟨hx, hb, hml, hown, hts⟩ hS (c_X4_shifts hM) (cwV 0 hts gL_law_X4_shifts rfl rfl rfl (by decide +kernel) ⟨Nat.le_of_ble_eq_true rfl, Nat.le_of_ble_eq_true rfl⟩) rfl hl.1 rfl (Nat.le_of_ble_eq_true rfl) dL_law_831 ⟨(by show cells + 0 + 0 ≤ 601024; omega), (by show slots + 0 + 0 ≤ 7293033; omega)⟩ (fun r8 V2 α2 H locs hq hw hS => ?_)
  obtain ⟨er, hM2, hP, eα⟩ := hq
  dsimp only at hM2 hP eα
  subst er
  subst eα
  have hC2 := hC.mvM (fun j hj => hP j hj)
  have h92 := (hP 9 (by omega)).trans h9
  refine lv_icmp_eq (tgt := 1415) hx hb dL_law_834 (by decide) (fun _ => ?_) (fun z => absurd rfl z)
  refine W.widen (k := cells + 2) (n := slots + 210) (by omega) (by omega) ?_
  exact kk V2 α f nr nw ns 0 H locs ls ⟨hC2, hM2, hwf, ⟨_, h92⟩⟩ hw hS hl

theorem lcond {L j : Nat} (hL : L ≤ 3072) (hj : j < 2 ^ 30) : (nI L - 6 < nI j) ↔ ¬ j + 6 ≤ L := by
  by_cases h : 6 ≤ L
  · rw [show nI L - 6 = nI (L - 6) from pk_sub h, nI_ltI (by omega) (by omega)]
    omega
  · have h1 : nI L - nI 6 < 0 := pk_sneg (by omega) (by omega)
    exact ⟨fun _ => by omega, fun _ => Int32.lt_of_lt_of_le h1 (nI_pos' (by omega))⟩
set_option maxHeartbeats 4000000 in
set_option maxRecDepth 100000 in
theorem law_loop {p : Program} {l : Launch} {e : Env} {s : State} {m : MethodId} {args : Array Value} {below : List Frame} {meth : Method} {c : Code} {Q : State → Prop} {G : mG} {b L : Nat} {xs : Nat → Int32} (hF : mFix p l s m args c G b L xs)
    (hE : ∀ (H : Heap) (locs : List Loc) (cells slots : Nat) (ls : Array Slot), va_S (mfree G) s.heap H locs → cells ≤ 601024 → slots ≤ 7293033 → W p l e room_1 s m args below meth c H locs cells slots Q (F0 m 1421 ls [])) :
    ∀ (n t : Nat) (V : mV) (α : Nat → Nat) (f : sT) (nr nw ns : Nat) (th : Int32) (H : Heap) (locs : List Loc) (ls : Array Slot) (cells slots : Nat), t + n ≤ 513 → L < 6 * (t + n) → cells + 2 * n ≤ 601024 → slots + 210 * n ≤ 7293033 → mI G V α f nr nw ns th → mW G V α s H → va_S (mfree G) s.heap H locs → lv_has ls 7 [(4, .int (nI (6 * t))), (0, .ref (b)), (1, .ref (α (0))), (2, .ref (α (10))), (3, .ref (α (9)))] → W p l e room_1 s m args below meth c H locs cells slots Q (F0 m 23 ls []) := by
  intro n
  induction n with
  | zero =>
    intro t V α f nr nw ns th H locs ls cells slots htn hLt hc hs hI hw hS hl
    obtain ⟨hl0, hx, hb, hml, hown, hts, hX, hbl, hbA, hL⟩ := id hF
    refine lv_iload hx hb dL_law_23 (lv_at hl 0 rfl) ?_
    refine lv_aload_n hx hb dL_law_25 rfl (lv_at hl 1 rfl) ?_
    refine va_slen hx hb hX hbl hbA hS dL_law_26 ?_
    refine lv_bipush (v := (6)) hx hb dL_law_27 (by decide) ?_
    refine lv_isub hx hb dL_law_29 ?_
    refine lv_icmp_gt (tgt := 1421) hx hb dL_law_30 (by decide) (fun _ => ?_) (fun z => absurd ((lcond hL (by omega)).mpr (by omega)) z)
    exact hE _ _ _ _ _ hS (by omega) (by omega)
  | succ n ih =>
    intro t V α f nr nw ns th H locs ls cells slots htn hLt hc hs hI hw hS hl
    obtain ⟨hl0, hx, hb, hml, hown, hts, hX, hbl, hbA, hL⟩ := id hF
    have kk : ∀ (V1 : mV) (α1 : Nat → Nat) (f1 : sT) (nr1 nw1 ns1 : Nat) (th1 : Int32) (H1 : Heap) (locs1 : List Loc) (ls1 : Array Slot), mI G V1 α1 f1 nr1 nw1 ns1 th1 → mW G V1 α1 s H1 → va_S (mfree G) s.heap H1 locs1 → lv_has ls1 7 [(4, .int (nI (6 * t))), (0, .ref (b)), (1, .ref (α1 (0))), (2, .ref (α1 (10))), (3, .ref (α1 (9)))] → W p l e room_1 s m args below meth c H1 locs1 (cells + 2) (slots + 210) Q (F0 m 1415 ls1 []) := by
      intro V1 α1 f1 nr1 nw1 ns1 th1 H1 locs1 ls hI hw hS hl
      refine lv_iinc (v := nI (6 * (t + 1))) (lv' := [(4, .int (nI (6 * (t + 1)))), (0, .ref (b)), (1, .ref (α1 (0))), (2, .ref (α1 (10))), (3, .ref (α1 (9)))]) hx hb dL_law_1415 hl (k := 0) rfl (nI_add (6 * t) 6) (by decide) rfl (fun ls hl => ?_)
      refine lv_goto (tgt := 23) hx hb dL_law_1418 (by decide) ?_
      exact ih (t + 1) V1 α1 f1 nr1 nw1 ns1 th1 H1 locs1 ls (cells + 2) (slots + 210) (by omega) (by omega) (by omega) (by omega) hI hw hS hl
    refine lv_iload hx hb dL_law_23 (lv_at hl 0 rfl) ?_
    refine lv_aload_n hx hb dL_law_25 rfl (lv_at hl 1 rfl) ?_
    refine va_slen hx hb hX hbl hbA hS dL_law_26 ?_
    refine lv_bipush (v := (6)) hx hb dL_law_27 (by decide) ?_
    refine lv_isub hx hb dL_law_29 ?_
    refine lv_icmp_gt (tgt := 1421) hx hb dL_law_30 (by decide) (fun c1 => ?_) (fun c1 => ?_)
    · exact hE _ _ _ _ _ hS (by omega) (by omega)
    · have hj : 6 * t + 6 ≤ L := Decidable.not_not.mp (fun z => c1 ((lcond hL (by omega)).mpr z))
      refine lv_aload_n hx hb dL_law_33 rfl (lv_at hl 1 rfl) ?_
      refine lv_iload hx hb dL_law_34 (lv_at hl 0 rfl) ?_
      refine msld (v := xs (6 * t)) (k := 6 * t) hx hb hX hbl hbA hS rfl (by omega) (by omega) rfl dL_law_36 ?_
      refine lv_bipush (v := (31)) hx hb dL_law_37 (by decide) ?_
      refine lv_iand hx hb dL_law_39 ?_
      obtain ⟨q, hq, eq⟩ := pk_andE (xs (6 * t)) (m := 31) 5 (by decide +kernel)
      refine lv_topi (fun y ey => ?_)
      obtain rfl : y = nI q := ey.trans eq
      rcases (show q = 0 ∨ q = 1 ∨ q = 2 ∨ q = 3 ∨ q = 4 ∨ q = 5 ∨ q = 6 ∨ q = 7 ∨ q = 8 ∨ q = 9 ∨ q = 10 ∨ q = 11 ∨ q = 12 ∨ q = 13 ∨ q = 14 ∨ q = 15 ∨ q = 16 ∨ q = 17 ∨ q = 18 ∨ 19 ≤ q by omega) with rfl | rfl | rfl | rfl | rfl | rfl | rfl | rfl | rfl | rfl | rfl | rfl | rfl | rfl | rfl | rfl | rfl | rfl | rfl | hq2
      ·
        refine lv_tableIn (off := 92) (tgt := 132) hx hb dL_law_40 (by decide +kernel) (by decide +kernel) (by decide +kernel) (by decide) ?_
        exact op_setBase hF (j := 6 * t) (by omega) rfl rfl rfl rfl rfl hI hw hS (by omega) (by omega) hl kk
      ·
        refine lv_tableIn (off := 160) (tgt := 200) hx hb dL_law_40 (by decide +kernel) (by decide +kernel) (by decide +kernel) (by decide) ?_
        exact op_addRule hF (j := 6 * t) (by omega) rfl rfl rfl rfl rfl hI hw hS (by omega) (by omega) hl kk
      ·
        refine lv_tableIn (off := 264) (tgt := 304) hx hb dL_law_40 (by decide +kernel) (by decide +kernel) (by decide +kernel) (by decide) ?_
        exact op_setRule hF (j := 6 * t) (by omega) rfl rfl rfl rfl rfl hI hw hS (by omega) (by omega) hl kk
      ·
        refine lv_tableIn (off := 355) (tgt := 395) hx hb dL_law_40 (by decide +kernel) (by decide +kernel) (by decide +kernel) (by decide) ?_
        exact op_setHoliday hF (j := 6 * t) (by omega) rfl rfl rfl rfl rfl hI hw hS (by omega) (by omega) hl kk
      ·
        refine lv_tableIn (off := 446) (tgt := 486) hx hb dL_law_40 (by decide +kernel) (by decide +kernel) (by decide +kernel) (by decide) ?_
        exact op_addWorker hF (j := 6 * t) (by omega) rfl rfl rfl rfl rfl hI hw hS (by omega) (by omega) hl kk
      ·
        refine lv_tableIn (off := 502) (tgt := 542) hx hb dL_law_40 (by decide +kernel) (by decide +kernel) (by decide +kernel) (by decide) ?_
        exact op_setRank hF (j := 6 * t) (by omega) rfl rfl rfl rfl rfl hI hw hS (by omega) (by omega) hl kk
      ·
        refine lv_tableIn (off := 570) (tgt := 610) hx hb dL_law_40 (by decide +kernel) (by decide +kernel) (by decide +kernel) (by decide) ?_
        exact op_addShift hF (j := 6 * t) (by omega) rfl rfl rfl rfl rfl hI hw hS (by omega) (by omega) hl kk
      ·
        refine lv_tableIn (off := 662) (tgt := 702) hx hb dL_law_40 (by decide +kernel) (by decide +kernel) (by decide +kernel) (by decide) ?_
        exact op_cancel hF (j := 6 * t) (by omega) rfl rfl rfl rfl rfl hI hw hS (by omega) (by omega) hl kk
      ·
        refine lv_tableIn (off := 718) (tgt := 758) hx hb dL_law_40 (by decide +kernel) (by decide +kernel) (by decide +kernel) (by decide) ?_
        exact op_takeBreaks hF (j := 6 * t) (by omega) rfl rfl rfl rfl rfl hI hw hS (by omega) (by omega) hl kk
      ·
        refine lv_tableIn (off := 786) (tgt := 826) hx hb dL_law_40 (by decide +kernel) (by decide +kernel) (by decide +kernel) (by decide) ?_
        exact op_shifts hF (j := 6 * t) (by omega) rfl rfl rfl rfl rfl hI hw hS (by omega) (by omega) hl kk
      ·
        refine lv_tableIn (off := 799) (tgt := 839) hx hb dL_law_40 (by decide +kernel) (by decide +kernel) (by decide +kernel) (by decide) ?_
        exact op_paidQuarters hF (j := 6 * t) (by omega) rfl rfl rfl rfl rfl hI hw hS (by omega) (by omega) hl kk
      ·
        refine lv_tableIn (off := 855) (tgt := 895) hx hb dL_law_40 (by decide +kernel) (by decide +kernel) (by decide +kernel) (by decide) ?_
        exact op_percentAt hF (j := 6 * t) (by omega) rfl rfl rfl rfl rfl hI hw hS (by omega) (by omega) hl kk
      ·
        refine lv_tableIn (off := 923) (tgt := 963) hx hb dL_law_40 (by decide +kernel) (by decide +kernel) (by decide +kernel) (by decide) ?_
        exact op_reasonAt hF (j := 6 * t) (by omega) rfl rfl rfl rfl rfl hI hw hS (by omega) (by omega) hl kk
      ·
        refine lv_tableIn (off := 991) (tgt := 1031) hx hb dL_law_40 (by decide +kernel) (by decide +kernel) (by decide +kernel) (by decide) ?_
        exact op_missed hF (j := 6 * t) (by omega) rfl rfl rfl rfl rfl hI hw hS (by omega) (by omega) hl kk
      ·
        refine lv_tableIn (off := 1047) (tgt := 1087) hx hb dL_law_40 (by decide +kernel) (by decide +kernel) (by decide +kernel) (by decide) ?_
        exact op_pay hF (j := 6 * t) (by omega) rfl rfl rfl rfl rfl hI hw hS (by omega) (by omega) hl kk
      ·
        refine lv_tableIn (off := 1103) (tgt := 1143) hx hb dL_law_40 (by decide +kernel) (by decide +kernel) (by decide +kernel) (by decide) ?_
        exact op_payOf hF (j := 6 * t) (by omega) rfl rfl rfl rfl rfl hI hw hS (by omega) (by omega) hl kk
      ·
        refine lv_tableIn (off := 1183) (tgt := 1223) hx hb dL_law_40 (by decide +kernel) (by decide +kernel) (by decide +kernel) (by decide) ?_
        exact op_paidBy hF (j := 6 * t) (by omega) rfl rfl rfl rfl rfl hI hw hS (by omega) (by omega) hl kk
      ·
        refine lv_tableIn (off := 1239) (tgt := 1279) hx hb dL_law_40 (by decide +kernel) (by decide +kernel) (by decide +kernel) (by decide) ?_
        exact op_worked hF (j := 6 * t) (by omega) rfl rfl rfl rfl rfl hI hw hS (by omega) (by omega) hl kk
      ·
        refine lv_tableIn (off := 1307) (tgt := 1347) hx hb dL_law_40 (by decide +kernel) (by decide +kernel) (by decide +kernel) (by decide) ?_
        exact op_excess hF (j := 6 * t) (by omega) rfl rfl rfl rfl rfl hI hw hS (by omega) (by omega) hl kk
      ·
        refine lv_tableOut (tgt := 1415) hx hb dL_law_40 (Or.inr (by rw [nI_toInt (by omega)]; omega)) (by decide) ?_
        refine W.widen (k := cells + 2) (n := slots + 210) (by omega) (by omega) ?_
        exact kk V α f nr nw ns th H locs ls hI hw hS hl
