section MNA
variable {p : Program} {l : Launch} {e : Env} {R : Room} {s : State} {m : MethodId} {args : Array Value} {below : List Frame} {meth : Method} {c : Code} {H : Heap} {locs : List Loc} {cells slots : Nat} {Q : State → Prop} {cc : ByteArray} {pc : Nat} {ls : Array Slot} {rest : List Value} {G : mG} {V : mV} {α : Nat → Nat}
theorem mnewI (hexec : p.tables.exec = Jvm.exec) (hb : c.code = cc) (harr : (Cond.arrayClass .int).before args s = true) (hw : mW G V α s H) (hS : va_S (mfree G) s.heap H locs) {n : Int32} (N : Nat) (hn : n = nI N) (hN : N ≤ 1000) (i : Nat) (hi : V i = none) (hcells : cells + 1 ≤ R.cells) (hslots : slots + N ≤ R.slots) (hdg : decode cc pc = .ok (.newarray .int, 2))
    (kk : ∀ (α1 : Nat → Nat) (H1 : Heap), (∀ j, j ≠ i → α1 j = α j) → mW G (vup V i (.inl (G.2.2.1.1, N, .inl (fun _ => 0)))) α1 s H1 → va_S (mfree G) s.heap H1 locs →
      W p l e R s m args below meth c H1 locs (cells + 1) (slots + N) Q (F0 m (pc + 2) ls (.ref (α1 i) :: rest))) : W p l e R s m args below meth c H locs cells slots Q (F0 m pc ls (.int n :: rest)) := by
  subst hn
  exact mnewa (atype := .int) (a0 := (N, .inl (fun _ => 0))) (N' := N) hexec hb harr 0 rfl rfl hw hS (by rw [vp_cell_i]; rfl) (nI_pos (by omega)) (nI_clamp (by omega)) (by show N * 4 ≤ 536870912; omega) i hi hcells hslots hdg kk
theorem mnewZ (hexec : p.tables.exec = Jvm.exec) (hb : c.code = cc) (harr : (Cond.arrayClass .boolean).before args s = true) (hw : mW G V α s H) (hS : va_S (mfree G) s.heap H locs) {n : Int32} (N : Nat) (hn : n = nI N) (hN : N ≤ 1000) (i : Nat) (hi : V i = none) (hcells : cells + 1 ≤ R.cells) (hslots : slots + N ≤ R.slots) (hdg : decode cc pc = .ok (.newarray .boolean, 2))
    (kk : ∀ (α1 : Nat → Nat) (H1 : Heap), (∀ j, j ≠ i → α1 j = α j) → mW G (vup V i (.inl (G.2.2.1.2, N, .inl (fun _ => 0)))) α1 s H1 → va_S (mfree G) s.heap H1 locs →
      W p l e R s m args below meth c H1 locs (cells + 1) (slots + N) Q (F0 m (pc + 2) ls (.ref (α1 i) :: rest))) : W p l e R s m args below meth c H locs cells slots Q (F0 m pc ls (.int n :: rest)) := by
  subst hn
  exact mnewa (atype := .boolean) (a0 := (N, .inl (fun _ => 0))) (N' := N) hexec hb harr 1 rfl rfl hw hS (by rw [vp_cell_i]; rfl) (nI_pos (by omega)) (nI_clamp (by omega)) (by show N * 1 ≤ 536870912; omega) i hi hcells hslots hdg kk
end MNA
/-! the constructors -/
def fb : Nat → Nat → Int32
  | 0 => fun _ => 0
  | k + 1 => upd (fb k) k 500
def f00 : sT := fun i => if i = 0 then fb 4 else fun _ => 0

set_option maxHeartbeats 4000000 in
set_option maxRecDepth 100000 in
theorem c_ac_init {l : Launch} {G : mG} {V : mV} {α : Nat → Nat} {z : Nat} : Met l yJxa1e45_init_da8c8 wsJxa1e45_init_da8c8 ({ frames := 1, cells := 0, slots := 0, locals := 40 }) (va_Pc [.ref (α (z))] (fun U => mW G V α U U.heap)) (va_Qv (fun (u : mV × (Nat → Nat)) => u.1 = V ∧ α = u.2) (fun u t => mH G u.1 u.2 t.heap) (mfree G)) 0 0 (mfree G) := by
  refine Met.ofW (cc := cJxa1e45_init_da8c8) (maxL := 1) (ret := none) (by decide) rfl ?_
  intro p e s m args below meth c s₁ B hml hv
  obtain ⟨rfl, hw⟩ := hv
  have hw0 := hw
  have hx := B.exec
  have hb := B.bytes
  have hr := B.returns
  have hts := atoms_spec (ws := wsJxa1e45_init_da8c8) B.pre
  have hown : s.vm.findClass RJxa1e45 = some m.cls := findClass_of_methodNamed B.named
  have hlocks := B.notSynchronized
  have hS : va_S (mfree G) s.heap s.heap [] := va_S.rf
  have hin : meth.name = "<init>" := (name_of_methodNamed B.named B.method).1
  have oi_l1 := hts (.methodLink RJxa1e45 1 objectInit) (by decide +kernel)
  have oi_i := hts (.instanceMethod objectInit) (by decide +kernel)
  have oi_c := hts (.code objectInit ⟨#[0xb1]⟩ 1 none) (by decide +kernel)
  have hl := lv_entry ([.ref (α (z))]) (n := 1) (Nat.le_of_ble_eq_true rfl)
  rw [lg_entry_eq]
  generalize (lg_sl ([.ref (α (z))]) ++ List.replicate (1 - (lg_sl ([.ref (α (z))])).length) Slot.unset).toArray = ls at hl ⊢
  have hl : lv_has ls 1 [(0, .ref (α (z)))] := hl
  refine lv_aload_n hx hb dJxa1e45_init_da8c8_0 rfl (lv_at hl 0 rfl) ?_
  refine W.objInit hx hb hown oi_l1 oi_i oi_c rfl (by rw [hml]; exact hl.1) rfl dJxa1e45_init_da8c8_1 (Nat.le_of_ble_eq_true rfl) (Nat.le_of_ble_eq_true rfl) ?_
  refine W.eq (g2 := F0 m 4 ls []) rfl ?_
  exact W.vret hx hb hr (fun t ht hW => ⟨⟨(V, α), rfl, ⟨rfl, rfl⟩, by show mH G V α t.heap; rw [ht]; exact hw.2.2⟩, hS.F ht⟩) hS.2.2 dJxa1e45_init_da8c8_4

set_option maxHeartbeats 4000000 in
set_option maxRecDepth 100000 in
theorem c_al0_init {l : Launch} {G : mG} {V : mV} {α : Nat → Nat} {z : Nat} (hz : V z = some (.inr (0, [.int (0), .null, .int (0)]))) : Met l yJxc12de_init_da8c8 wsJxc12de_init_da8c8 ({ frames := 2, cells := 0, slots := 0, locals := 62 }) (va_Pc [.ref (α (z))] (fun U => mW G V α U U.heap)) (va_Qv (fun (u : mV × (Nat → Nat)) => u.1 = vup V z (.inr (0, [.int (0), .null, .int (0)])) ∧ α = u.2) (fun u t => mH G u.1 u.2 t.heap) (mfree G)) 0 0 (mfree G) := by
  refine Met.ofW (cc := cJxc12de_init_da8c8) (maxL := 1) (ret := none) (by decide) rfl ?_
  intro p e s m args below meth c s₁ B hml hv
  obtain ⟨rfl, hw⟩ := hv
  have hw0 := hw
  have hx := B.exec
  have hb := B.bytes
  have hr := B.returns
  have hts := atoms_spec (ws := wsJxc12de_init_da8c8) B.pre
  have hown : s.vm.findClass RJxc12de = some m.cls := findClass_of_methodNamed B.named
  have hlocks := B.notSynchronized
  have hS : va_S (mfree G) s.heap s.heap [] := va_S.rf
  have hin : meth.name = "<init>" := (name_of_methodNamed B.named B.method).1
  have sksa := hts (.initialized RJxa1e45) (by decide +kernel)
  have sksb := hts (.methodLink RJxc12de 1 yJxa1e45_init_da8c8) (by decide +kernel)
  have sksc := hts (.instanceMethod yJxa1e45_init_da8c8) (by decide +kernel)
  have fl_7 := hts (.fieldLink RJxc12de 7 "java/util/AbstractList" "modCount" "I") (by decide +kernel)
  have in_Jx4a65c : ∀ w ∈ u_ws RJx4a65c TJx4a65c 3, w ∈ wsJxc12de_init_da8c8 := by decide +kernel
  have hl := lv_entry ([.ref (α (z))]) (n := 1) (Nat.le_of_ble_eq_true rfl)
  rw [lg_entry_eq]
  generalize (lg_sl ([.ref (α (z))]) ++ List.replicate (1 - (lg_sl ([.ref (α (z))])).length) Slot.unset).toArray = ls at hl ⊢
  have hl : lv_has ls 1 [(0, .ref (α (z)))] := hl
  refine lv_aload_n hx hb dJxc12de_init_da8c8_0 rfl (lv_at hl 0 rfl) ?_
  refine mcallIwv (rest := []) hw ⟨hx, hb, hml, hown, hts⟩ hS c_ac_init (cwI 0 hts gJxc12de_init_da8c8_Jxa1e45_init_da8c8 rfl rfl rfl sksa sksb sksc rfl (by decide +kernel) ⟨Nat.le_of_ble_eq_true rfl, Nat.le_of_ble_eq_true rfl⟩) rfl hl.1 rfl (Nat.le_of_ble_eq_true rfl) dJxc12de_init_da8c8_1 ⟨Nat.le_of_ble_eq_true rfl, Nat.le_of_ble_eq_true rfl⟩ (fun V2 α2 H locs hp hw hS => ?_)
  obtain ⟨p1, p2⟩ := hp
  dsimp only at p1 p2
  subst p2
  rw [p1] at hw
  refine lv_aload_n hx hb dJxc12de_init_da8c8_4 rfl (lv_at hl 0 rfl) ?_
  refine lv_iconst (v := (0)) hx hb dJxc12de_init_da8c8_5 (by decide) ?_
  refine mput (C := RJx4a65c) (T := TJx4a65c) (N := 3) (ci := 0) hx hb hts in_Jx4a65c tyJx4a65c tyJx4a65c_ok nmJx4a65c hown hw hS (hz) rfl 0 (by decide) fl_7 rfl (rfl) (rfl) (Nat.le_of_ble_eq_true rfl) dJxc12de_init_da8c8_6 (fun H locs hw hS => ?_)
  have hw : mW G (vup V z (.inr (0, [.int (0), .null, .int (0)]))) α s H := hw
  have hz1 : (vup V z (.inr (0, [.int (0), .null, .int (0)]))) z = some (.inr (0, [.int (0), .null, .int (0)])) := vup_s _ _ _
  exact W.vret hx hb hr (fun t ht hW => ⟨⟨((vup V z (.inr (0, [.int (0), .null, .int (0)]))), α), rfl, ⟨rfl, rfl⟩, by show mH G (vup V z (.inr (0, [.int (0), .null, .int (0)]))) α t.heap; rw [ht]; exact hw.2.2⟩, hS.F ht⟩) hS.2.2 dJxc12de_init_da8c8_9

set_option maxHeartbeats 4000000 in
set_option maxRecDepth 100000 in
theorem c_al_init {l : Launch} {G : mG} {V : mV} {α : Nat → Nat} {z : Nat} (hz : V z = some (.inr (0, [.int (0), .null, .int (0)]))) : Met l yJx4a65c_init_da8c8 wsJx4a65c_init_da8c8 ({ frames := 3, cells := 0, slots := 0, locals := 84 }) (va_Pc [.ref (α (z))] (fun U => mW G V α U U.heap)) (va_Qv (fun (u : mV × (Nat → Nat)) => u.1 = vup V z (.inr (0, [.int (0), .ref (G.1.2), .int (0)])) ∧ α = u.2) (fun u t => mH G u.1 u.2 t.heap) (mfree G)) 0 0 (mfree G) := by
  refine Met.ofW (cc := cJx4a65c_init_da8c8) (maxL := 1) (ret := none) (by decide) rfl ?_
  intro p e s m args below meth c s₁ B hml hv
  obtain ⟨rfl, hw⟩ := hv
  have hw0 := hw
  have hx := B.exec
  have hb := B.bytes
  have hr := B.returns
  have hts := atoms_spec (ws := wsJx4a65c_init_da8c8) B.pre
  have hown : s.vm.findClass RJx4a65c = some m.cls := findClass_of_methodNamed B.named
  have hlocks := B.notSynchronized
  have hS : va_S (mfree G) s.heap s.heap [] := va_S.rf
  have hin : meth.name = "<init>" := (name_of_methodNamed B.named B.method).1
  have sksa := hts (.initialized RJxc12de) (by decide +kernel)
  have sksb := hts (.methodLink RJx4a65c 1 yJxc12de_init_da8c8) (by decide +kernel)
  have sksc := hts (.instanceMethod yJxc12de_init_da8c8) (by decide +kernel)
  have gs := hts (.fieldLink RJx4a65c 39 "java/util/ArrayList" "DEFAULTCAPACITY_EMPTY_ELEMENTDATA" "[Ljava/lang/Object;") (by decide +kernel)
  have fl_9 := hts (.fieldLink RJx4a65c 9 "java/util/ArrayList" "elementData" "[Ljava/lang/Object;") (by decide +kernel)
  have in_Jx4a65c : ∀ w ∈ u_ws RJx4a65c TJx4a65c 3, w ∈ wsJx4a65c_init_da8c8 := by decide +kernel
  have hl := lv_entry ([.ref (α (z))]) (n := 1) (Nat.le_of_ble_eq_true rfl)
  rw [lg_entry_eq]
  generalize (lg_sl ([.ref (α (z))]) ++ List.replicate (1 - (lg_sl ([.ref (α (z))])).length) Slot.unset).toArray = ls at hl ⊢
  have hl : lv_has ls 1 [(0, .ref (α (z)))] := hl
  refine lv_aload_n hx hb dJx4a65c_init_da8c8_0 rfl (lv_at hl 0 rfl) ?_
  refine mcallIwv (rest := []) hw ⟨hx, hb, hml, hown, hts⟩ hS (c_al0_init hz) (cwI 0 hts gJx4a65c_init_da8c8_Jxc12de_init_da8c8 rfl rfl rfl sksa sksb sksc rfl (by decide +kernel) ⟨Nat.le_of_ble_eq_true rfl, Nat.le_of_ble_eq_true rfl⟩) rfl hl.1 rfl (Nat.le_of_ble_eq_true rfl) dJx4a65c_init_da8c8_1 ⟨Nat.le_of_ble_eq_true rfl, Nat.le_of_ble_eq_true rfl⟩ (fun V2 α2 H locs hp hw hS => ?_)
  obtain ⟨p1, p2⟩ := hp
  dsimp only at p1 p2
  subst p2
  rw [p1] at hw
  have hz0 : (vup V z (.inr (0, [.int (0), .null, .int (0)]))) z = some (.inr (0, [.int (0), .null, .int (0)])) := vup_s _ _ _
  refine lv_aload_n hx hb dJx4a65c_init_da8c8_4 rfl (lv_at hl 0 rfl) ?_
  refine va_gets hx hb hw0.2.1.2.2.1 hS hown gs (fun _ h => h) dJx4a65c_init_da8c8_5 ?_
  refine mput (C := RJx4a65c) (T := TJx4a65c) (N := 3) (ci := 0) hx hb hts in_Jx4a65c tyJx4a65c tyJx4a65c_ok nmJx4a65c hown hw hS (hz0) rfl 1 (by decide) fl_9 rfl (rfl) (rfl) (Nat.le_of_ble_eq_true rfl) dJx4a65c_init_da8c8_8 (fun H locs hw hS => ?_)
  have hw : mW G (vup (vup V z (.inr (0, [.int (0), .null, .int (0)]))) z (.inr (0, [.int (0), .ref (G.1.2), .int (0)]))) α s H := hw
  have hz1 : (vup (vup V z (.inr (0, [.int (0), .null, .int (0)]))) z (.inr (0, [.int (0), .ref (G.1.2), .int (0)]))) z = some (.inr (0, [.int (0), .ref (G.1.2), .int (0)])) := vup_s _ _ _
  exact W.vret hx hb hr (fun t ht hW => ⟨⟨((vup (vup V z (.inr (0, [.int (0), .null, .int (0)]))) z (.inr (0, [.int (0), .ref (G.1.2), .int (0)]))), α), rfl, ⟨by simp only [vup2], rfl⟩, by show mH G (vup (vup V z (.inr (0, [.int (0), .null, .int (0)]))) z (.inr (0, [.int (0), .ref (G.1.2), .int (0)]))) α t.heap; rw [ht]; exact hw.2.2⟩, hS.F ht⟩) hS.2.2 dJx4a65c_init_da8c8_11

set_option maxHeartbeats 4000000 in
set_option maxRecDepth 100000 in
theorem c_fill {l : Launch} {G : mG} {V : mV} {α : Nat → Nat} {z : Nat} (hz : V z = some (.inl (G.2.2.1.1, 4, .inl (fun _ => 0)))) : Met l yJ7_fill_53178 wsJ7_fill_53178 ({ frames := 0, cells := 0, slots := 0, locals := 0 }) (va_Pc [.ref (α (z)), .int (500)] (fun U => mW G V α U U.heap)) (va_Qv (fun (u : mV × (Nat → Nat)) => (u.1 z = some (.inl (G.2.2.1.1, 4, .inl (fb 4))) ∧ ∀ i, i ≠ z → u.1 i = V i) ∧ α = u.2) (fun u t => mH G u.1 u.2 t.heap) (mfree G)) 0 0 (mfree G) := by
  refine Met.ofW (cc := cJ7_fill_53178) (maxL := 4) (ret := none) (by decide) rfl ?_
  intro p e s m args below meth c s₁ B hml hv
  obtain ⟨rfl, hw⟩ := hv
  have hw0 := hw
  have hx := B.exec
  have hb := B.bytes
  have hr := B.returns
  have hts := atoms_spec (ws := wsJ7_fill_53178) B.pre
  have hown : s.vm.findClass RJ7 = some m.cls := findClass_of_methodNamed B.named
  have hlocks := B.notSynchronized
  have hS : va_S (mfree G) s.heap s.heap [] := va_S.rf
  have hl := lv_entry ([.ref (α (z)), .int (500)]) (n := 4) (Nat.le_of_ble_eq_true rfl)
  rw [lg_entry_eq]
  generalize (lg_sl ([.ref (α (z)), .int (500)]) ++ List.replicate (4 - (lg_sl ([.ref (α (z)), .int (500)])).length) Slot.unset).toArray = ls at hl ⊢
  have hl : lv_has ls 4 [(0, .ref (α (z))), (1, .int (500))] := hl
  refine lv_iconst (v := (0)) hx hb dJ7_fill_53178_0 (by decide) ?_
  refine lv_istore_n (lv' := [(2, .int (0)), (0, .ref (α (z))), (1, .int (500))]) hx hb dJ7_fill_53178_1 rfl hl (by decide) rfl (fun ls hl => ?_)
  refine lv_aload_n hx hb dJ7_fill_53178_2 rfl (lv_at hl 1 rfl) ?_
  refine mialen hx hb hw (hz) dJ7_fill_53178_3 ?_
  refine lv_istore_n (lv' := [(3, .int (nI (4))), (2, .int (0)), (0, .ref (α (z))), (1, .int (500))]) hx hb dJ7_fill_53178_4 rfl hl (by decide) rfl (fun ls hl => ?_)
  have hl : lv_has ls 4 [(2, .int (nI (0))), (3, .int (nI (4))), (0, .ref (α (z))), (1, .int (500))] := lv_sub hl [1, 0, 2, 3] rfl
  refine mloopW 4 (fun j => [(2, .int (nI j)), (3, .int (nI (4))), (0, .ref (α (z))), (1, .int (500))]) (fun j V1 => V1 z = some (.inl (G.2.2.1.1, 4, .inl (fb j))) ∧ ∀ i, i ≠ z → V1 i = V i) (fun V1 H locs hI hw hS ls hl => ?_) (fun j hj ih V1 H locs hI hw hS ls hl => ?_) V s.heap [] ⟨hz, fun _ _ => rfl⟩ hw hS ls hl
  ·
    refine lv_iload_n hx hb dJ7_fill_53178_5 rfl (lv_at hl 0 rfl) ?_
    refine lv_iload_n hx hb dJ7_fill_53178_6 rfl (lv_at hl 1 rfl) ?_
    refine lv_icmp_ge (tgt := 20) hx hb dJ7_fill_53178_7 (by decide) (fun _ => ?_) (fun z9 => absurd (by decide) z9)
    exact W.vret hx hb hr (fun t ht hW => ⟨⟨(V1, α), rfl, ⟨hI, rfl⟩, by show mH G V1 α t.heap; rw [ht]; exact hw.2.2⟩, hS.F ht⟩) hS.2.2 dJ7_fill_53178_20
  ·
    refine lv_iload_n hx hb dJ7_fill_53178_5 rfl (lv_at hl 0 rfl) ?_
    refine lv_iload_n hx hb dJ7_fill_53178_6 rfl (lv_at hl 1 rfl) ?_
    refine lv_icmp_ge (tgt := 20) hx hb dJ7_fill_53178_7 (by decide) (fun z9 => absurd z9 (nI_ge hj (by decide))) (fun _ => ?_)
    refine lv_aload_n hx hb dJ7_fill_53178_10 rfl (lv_at hl 2 rfl) ?_
    refine lv_iload_n hx hb dJ7_fill_53178_11 rfl (lv_at hl 0 rfl) ?_
    refine lv_iload_n hx hb dJ7_fill_53178_12 rfl (lv_at hl 3 rfl) ?_
    refine miast' (k := j) hx hb hw hS hI.1 rfl hj (by decide) dJ7_fill_53178_13 (fun H locs hw hS => ?_)
    refine lv_iinc (v := nI (j + 1)) (lv' := [(2, .int (nI (j + 1))), (3, .int (nI (4))), (0, .ref (α (z))), (1, .int (500))]) hx hb dJ7_fill_53178_14 hl (k := 0) rfl (nI_1 (j)) (by decide) rfl (fun ls hl => ?_)
    refine lv_goto (tgt := 5) hx hb dJ7_fill_53178_17 (by decide) ?_
    exact ih _ _ _ ⟨vup_s _ _ _, fun i hi => (vup_n _ _ hi).trans (hI.2 i hi)⟩ hw hS ls hl

set_option maxHeartbeats 4000000 in
set_option maxRecDepth 100000 in
theorem c_X3_init {l : Launch} {G : mG} {V : mV} {α : Nat → Nat} (v0 : V 0 = some (.inr (4, [.null, .null, .null, .null, .null]))) (hN : ∀ j, 1 ≤ j → V j = none) : Met l yX3_init wsX3_init ({ frames := 5, cells := 5, slots := 377, locals := 130 }) (va_Pc [.ref (α (0))] (fun U => mW G V α U U.heap)) (va_Qv (fun (u : mV × (Nat → Nat)) => mC G u.1 u.2 f00 0 0 0 ∧ (∀ j, 6 ≤ j → u.1 j = none) ∧ u.2 0 = α 0) (fun u t => mH G u.1 u.2 t.heap) (mfree G)) 5 377 (mfree G) := by
  refine Met.ofW (cc := cX3_init) (maxL := 1) (ret := none) (by decide) rfl ?_
  intro p e s m args below meth c s₁ B hml hv
  obtain ⟨rfl, hw⟩ := hv
  have hw0 := hw
  have hx := B.exec
  have hb := B.bytes
  have hr := B.returns
  have hts := atoms_spec (ws := wsX3_init) B.pre
  have hown : s.vm.findClass RX3 = some m.cls := findClass_of_methodNamed B.named
  have hlocks := B.notSynchronized
  have hS : va_S (mfree G) s.heap s.heap [] := va_S.rf
  have hin : meth.name = "<init>" := (name_of_methodNamed B.named B.method).1
  have oi_l3 := hts (.methodLink RX3 3 objectInit) (by decide +kernel)
  have oi_i := hts (.instanceMethod objectInit) (by decide +kernel)
  have oi_c := hts (.code objectInit ⟨#[0xb1]⟩ 1 none) (by decide +kernel)
  have ac0 := hts (.arrayClass .int) (by decide +kernel)
  have fl_9 := hts (.fieldLink RX3 9 "RosterPay" "bases" "[I") (by decide +kernel)
  have in_X3 : ∀ w ∈ u_ws RX3 TX3 5, w ∈ wsX3_init := by decide +kernel
  have ac1 := hts (.arrayClass .boolean) (by decide +kernel)
  have fl_19 := hts (.fieldLink RX3 19 "RosterPay" "holidays" "[Z") (by decide +kernel)
  have nk1 := hts (.classLink RX3 23 RJx4a65c) (by decide +kernel)
  have nk2 := hts (.instantiable RJx4a65c 3) (by decide +kernel)
  have nk3 := hts (.initialized RJx4a65c) (by decide +kernel)
  have in_Jx4a65c : ∀ w ∈ u_ws RJx4a65c TJx4a65c 3, w ∈ wsX3_init := by decide +kernel
  have skla := hts (.initialized RJx4a65c) (by decide +kernel)
  have sklb := hts (.methodLink RX3 25 yJx4a65c_init_da8c8) (by decide +kernel)
  have sklc := hts (.instanceMethod yJx4a65c_init_da8c8) (by decide +kernel)
  have fl_26 := hts (.fieldLink RX3 26 "RosterPay" "rules" "Ljava/util/ArrayList;") (by decide +kernel)
  have fl_30 := hts (.fieldLink RX3 30 "RosterPay" "workers" "Ljava/util/ArrayList;") (by decide +kernel)
  have fl_33 := hts (.fieldLink RX3 33 "RosterPay" "roster" "Ljava/util/ArrayList;") (by decide +kernel)
  have hl := lv_entry ([.ref (α (0))]) (n := 1) (Nat.le_of_ble_eq_true rfl)
  rw [lg_entry_eq]
  generalize (lg_sl ([.ref (α (0))]) ++ List.replicate (1 - (lg_sl ([.ref (α (0))])).length) Slot.unset).toArray = ls at hl ⊢
  have hl : lv_has ls 1 [(0, .ref (α (0)))] := hl
  obtain ⟨a0, e0⟩ : ∃ a, α 0 = a := ⟨_, rfl⟩
  have eq0 := e0
  rw [e0] at hl
  refine lv_aload_n hx hb dX3_init_0 rfl (lv_at hl 0 rfl) ?_
  refine W.objInit hx hb hown oi_l3 oi_i oi_c rfl (by rw [hml]; exact hl.1) rfl dX3_init_1 (Nat.le_of_ble_eq_true rfl) (Nat.le_of_ble_eq_true rfl) ?_
  refine W.eq (g2 := F0 m 4 ls []) rfl ?_
  refine lv_aload_n hx hb dX3_init_4 rfl (lv_at hl 0 rfl) ?_
  refine lv_iconst (v := (4)) hx hb dX3_init_5 (by decide) ?_
  refine mnewI hx hb ac0 hw hS 4 (by decide +kernel) (by decide) 1 (hN 1 (by omega)) (Nat.le_of_ble_eq_true rfl) (Nat.le_of_ble_eq_true rfl) dX3_init_6 (fun α1 H pa hw hS => ?_)
  obtain ⟨V1, hV1⟩ : ∃ z9 : mV, z9 = vup V 1 (.inl (G.2.2.1.1, 4, .inl (fun _ => 0))) := ⟨_, rfl⟩
  have hw : mW G V1 α1 s H := by rw [hV1]; exact hw
  have v1 : V1 1 = some (.inl (G.2.2.1.1, 4, .inl (fun _ => 0))) := by rw [hV1]; exact vup_s _ _ _
  have pv : ∀ j, j ≠ 1 → V1 j = V j := fun j hj => by rw [hV1]; exact vup_n _ _ hj
  have v0 : V1 0 = some (.inr (4, [.null, .null, .null, .null, .null])) := (pv 0 (by decide)).trans v0
  have e0 : α1 0 = a0 := (pa 0 (by decide)).trans e0
  obtain ⟨a1, e1⟩ : ∃ a, α1 1 = a := ⟨_, rfl⟩
  have hN : ∀ j, 2 ≤ j → V1 j = none := fun j hj => (pv j (by omega)).trans (hN j (by omega))
  refine W.eq (g2 := F0 m 8 ls [.ref (a1), .ref (α1 0)]) (by rw [e0, e1]) ?_
  refine mputF (C := RX3) (T := TX3) (N := 5) (ci := 4) hx hb hts in_X3 tyX3 tyX3_ok nmX3 hown hw hS v0 rfl 0 (by decide) fl_9 rfl hin rfl rfl rfl (Nat.le_of_ble_eq_true rfl) dX3_init_8 (fun H locs hw hS => ?_)
  obtain ⟨V2, hV2⟩ : ∃ z9 : mV, z9 = vup V1 0 (.inr (4, [.ref (a1), .null, .null, .null, .null])) := ⟨_, rfl⟩
  have hw : mW G V2 α1 s H := by rw [hV2]; exact hw
  have v0 : V2 0 = some (.inr (4, [.ref (a1), .null, .null, .null, .null])) := by rw [hV2]; exact vup_s _ _ _
  have pv : ∀ j, j ≠ 0 → V2 j = V1 j := fun j hj => by rw [hV2]; exact vup_n _ _ hj
  have v1 : V2 1 = some (.inl (G.2.2.1.1, 4, .inl (fun _ => 0))) := (pv 1 (by decide)).trans v1
  have hN : ∀ j, 2 ≤ j → V2 j = none := fun j hj => (pv j (by omega)).trans (hN j (by omega))
  refine lv_aload_n hx hb dX3_init_11 rfl (lv_at hl 0 rfl) ?_
  refine W.eq (g2 := F0 m 12 ls [.ref (α1 0)]) (by rw [e0]) ?_
  refine mget (C := RX3) (T := TX3) (N := 5) (ci := 4) hx hb hts in_X3 hown hw v0 rfl 0 (by decide) fl_9 rfl dX3_init_12 ?_
  refine lv_sipush (v := (500)) hx hb dX3_init_15 (by decide) ?_
  refine W.eq (g2 := F0 m 18 ls [.int (500), .ref (α1 1)]) (by rw [e1]) ?_
  refine mcallSwv (rest := []) hw ⟨hx, hb, hml, hown, hts⟩ hS (c_fill v1) (va_cwS 2 hts gX3_init_J7_fill_53178 rfl rfl rfl (by decide +kernel) ⟨Nat.le_of_ble_eq_true rfl, Nat.le_of_ble_eq_true rfl⟩) rfl hl.1 rfl (Nat.le_of_ble_eq_true rfl) dX3_init_18 ⟨Nat.le_of_ble_eq_true rfl, Nat.le_of_ble_eq_true rfl⟩ (fun Vf αf H locs hp hw hS => ?_)
  obtain ⟨⟨p1, pv⟩, p2⟩ := hp
  dsimp only at p1 pv p2
  subst p2
  have v1 := p1
  have v0 : Vf 0 = some (.inr (4, [.ref (a1), .null, .null, .null, .null])) := (pv 0 (by decide)).trans v0
  have hN : ∀ j, 2 ≤ j → Vf j = none := fun j hj => (pv j (by omega)).trans (hN j (by omega))
  refine lv_aload_n hx hb dX3_init_21 rfl (lv_at hl 0 rfl) ?_
  refine lv_sipush (v := (364)) hx hb dX3_init_22 (by decide) ?_
  refine mnewZ hx hb ac1 hw hS 364 (by decide +kernel) (by decide) 2 (hN 2 (by omega)) (Nat.le_of_ble_eq_true rfl) (Nat.le_of_ble_eq_true rfl) dX3_init_25 (fun α2 H pa hw hS => ?_)
  obtain ⟨V3, hV3⟩ : ∃ z9 : mV, z9 = vup Vf 2 (.inl (G.2.2.1.2, 364, .inl (fun _ => 0))) := ⟨_, rfl⟩
  have hw : mW G V3 α2 s H := by rw [hV3]; exact hw
  have v2 : V3 2 = some (.inl (G.2.2.1.2, 364, .inl (fun _ => 0))) := by rw [hV3]; exact vup_s _ _ _
  have pv : ∀ j, j ≠ 2 → V3 j = Vf j := fun j hj => by rw [hV3]; exact vup_n _ _ hj
  have v0 : V3 0 = some (.inr (4, [.ref (a1), .null, .null, .null, .null])) := (pv 0 (by decide)).trans v0
  have v1 : V3 1 = some (.inl (G.2.2.1.1, 4, .inl (fb 4))) := (pv 1 (by decide)).trans v1
  have e0 : α2 0 = a0 := (pa 0 (by decide)).trans e0
  have e1 : α2 1 = a1 := (pa 1 (by decide)).trans e1
  obtain ⟨a2, e2⟩ : ∃ a, α2 2 = a := ⟨_, rfl⟩
  have hN : ∀ j, 3 ≤ j → V3 j = none := fun j hj => (pv j (by omega)).trans (hN j (by omega))
  refine W.eq (g2 := F0 m 27 ls [.ref (a2), .ref (α2 0)]) (by rw [e0, e2]) ?_
  refine mputF (C := RX3) (T := TX3) (N := 5) (ci := 4) hx hb hts in_X3 tyX3 tyX3_ok nmX3 hown hw hS v0 rfl 1 (by decide) fl_19 rfl hin rfl rfl rfl (Nat.le_of_ble_eq_true rfl) dX3_init_27 (fun H locs hw hS => ?_)
  obtain ⟨V4, hV4⟩ : ∃ z9 : mV, z9 = vup V3 0 (.inr (4, [.ref (a1), .ref (a2), .null, .null, .null])) := ⟨_, rfl⟩
  have hw : mW G V4 α2 s H := by rw [hV4]; exact hw
  have v0 : V4 0 = some (.inr (4, [.ref (a1), .ref (a2), .null, .null, .null])) := by rw [hV4]; exact vup_s _ _ _
  have pv : ∀ j, j ≠ 0 → V4 j = V3 j := fun j hj => by rw [hV4]; exact vup_n _ _ hj
  have v1 : V4 1 = some (.inl (G.2.2.1.1, 4, .inl (fb 4))) := (pv 1 (by decide)).trans v1
  have v2 : V4 2 = some (.inl (G.2.2.1.2, 364, .inl (fun _ => 0))) := (pv 2 (by decide)).trans v2
  have hN : ∀ j, 3 ≤ j → V4 j = none := fun j hj => (pv j (by omega)).trans (hN j (by omega))
  refine lv_aload_n hx hb dX3_init_30 rfl (lv_at hl 0 rfl) ?_
  refine mnew (C := RJx4a65c) (T := TJx4a65c) (N := 3) (ci := 0) (fs := [.int (0), .null, .int (0)]) hx hb hts in_Jx4a65c tyJx4a65c tyJx4a65c_ok hown nk1 nk2 nk3 hw hS rfl 3 (hN 3 (by omega)) (fun j hj => by rcases (show j = 0 ∨ j = 1 ∨ j = 2 by omega) with rfl | rfl | rfl <;> rfl) (Nat.le_of_ble_eq_true rfl) (Nat.le_of_ble_eq_true rfl) dX3_init_31 (fun α3 H pa hw hS => ?_)
  obtain ⟨V5, hV5⟩ : ∃ z9 : mV, z9 = vup V4 3 (.inr (0, [.int (0), .null, .int (0)])) := ⟨_, rfl⟩
  have hw : mW G V5 α3 s H := by rw [hV5]; exact hw
  have v3 : V5 3 = some (.inr (0, [.int (0), .null, .int (0)])) := by rw [hV5]; exact vup_s _ _ _
  have pv : ∀ j, j ≠ 3 → V5 j = V4 j := fun j hj => by rw [hV5]; exact vup_n _ _ hj
  have v0 : V5 0 = some (.inr (4, [.ref (a1), .ref (a2), .null, .null, .null])) := (pv 0 (by decide)).trans v0
  have v1 : V5 1 = some (.inl (G.2.2.1.1, 4, .inl (fb 4))) := (pv 1 (by decide)).trans v1
  have v2 : V5 2 = some (.inl (G.2.2.1.2, 364, .inl (fun _ => 0))) := (pv 2 (by decide)).trans v2
  have e0 : α3 0 = a0 := (pa 0 (by decide)).trans e0
  have e1 : α3 1 = a1 := (pa 1 (by decide)).trans e1
  have e2 : α3 2 = a2 := (pa 2 (by decide)).trans e2
  obtain ⟨a3, e3⟩ : ∃ a, α3 3 = a := ⟨_, rfl⟩
  have hN : ∀ j, 4 ≤ j → V5 j = none := fun j hj => (pv j (by omega)).trans (hN j (by omega))
  refine lv_dup hx hb dX3_init_34 rfl ?_
  refine mcallIwv (rest := [.ref (α3 3), .ref (a0)]) hw ⟨hx, hb, hml, hown, hts⟩ hS (c_al_init v3) (cwI 0 hts gX3_init_Jx4a65c_init_da8c8 rfl rfl rfl skla sklb sklc rfl (by decide +kernel) ⟨Nat.le_of_ble_eq_true rfl, Nat.le_of_ble_eq_true rfl⟩) rfl hl.1 rfl (Nat.le_of_ble_eq_true rfl) dX3_init_35 ⟨Nat.le_of_ble_eq_true rfl, Nat.le_of_ble_eq_true rfl⟩ (fun W2 α2 H locs hp hw hS => ?_)
  obtain ⟨p1, p2⟩ := hp
  dsimp only at p1 p2
  subst p2
  rw [p1] at hw
  obtain ⟨V6, hV6⟩ : ∃ z9 : mV, z9 = vup V5 3 (.inr (0, [.int (0), .ref (G.1.2), .int (0)])) := ⟨_, rfl⟩
  have hw : mW G V6 α3 s H := by rw [hV6]; exact hw
  have v3 : V6 3 = some (.inr (0, [.int (0), .ref (G.1.2), .int (0)])) := by rw [hV6]; exact vup_s _ _ _
  have pv : ∀ j, j ≠ 3 → V6 j = V5 j := fun j hj => by rw [hV6]; exact vup_n _ _ hj
  have v0 : V6 0 = some (.inr (4, [.ref (a1), .ref (a2), .null, .null, .null])) := (pv 0 (by decide)).trans v0
  have v1 : V6 1 = some (.inl (G.2.2.1.1, 4, .inl (fb 4))) := (pv 1 (by decide)).trans v1
  have v2 : V6 2 = some (.inl (G.2.2.1.2, 364, .inl (fun _ => 0))) := (pv 2 (by decide)).trans v2
  have hN : ∀ j, 4 ≤ j → V6 j = none := fun j hj => (pv j (by omega)).trans (hN j (by omega))
  refine W.eq (g2 := F0 m 38 ls [.ref (a3), .ref (α3 0)]) (by rw [e0, e3]) ?_
  refine mputF (C := RX3) (T := TX3) (N := 5) (ci := 4) hx hb hts in_X3 tyX3 tyX3_ok nmX3 hown hw hS v0 rfl 2 (by decide) fl_26 rfl hin rfl rfl rfl (Nat.le_of_ble_eq_true rfl) dX3_init_38 (fun H locs hw hS => ?_)
  obtain ⟨V7, hV7⟩ : ∃ z9 : mV, z9 = vup V6 0 (.inr (4, [.ref (a1), .ref (a2), .ref (a3), .null, .null])) := ⟨_, rfl⟩
  have hw : mW G V7 α3 s H := by rw [hV7]; exact hw
  have v0 : V7 0 = some (.inr (4, [.ref (a1), .ref (a2), .ref (a3), .null, .null])) := by rw [hV7]; exact vup_s _ _ _
  have pv : ∀ j, j ≠ 0 → V7 j = V6 j := fun j hj => by rw [hV7]; exact vup_n _ _ hj
  have v1 : V7 1 = some (.inl (G.2.2.1.1, 4, .inl (fb 4))) := (pv 1 (by decide)).trans v1
  have v2 : V7 2 = some (.inl (G.2.2.1.2, 364, .inl (fun _ => 0))) := (pv 2 (by decide)).trans v2
  have v3 : V7 3 = some (.inr (0, [.int (0), .ref (G.1.2), .int (0)])) := (pv 3 (by decide)).trans v3
  have hN : ∀ j, 4 ≤ j → V7 j = none := fun j hj => (pv j (by omega)).trans (hN j (by omega))
  refine lv_aload_n hx hb dX3_init_41 rfl (lv_at hl 0 rfl) ?_
  refine mnew (C := RJx4a65c) (T := TJx4a65c) (N := 3) (ci := 0) (fs := [.int (0), .null, .int (0)]) hx hb hts in_Jx4a65c tyJx4a65c tyJx4a65c_ok hown nk1 nk2 nk3 hw hS rfl 4 (hN 4 (by omega)) (fun j hj => by rcases (show j = 0 ∨ j = 1 ∨ j = 2 by omega) with rfl | rfl | rfl <;> rfl) (Nat.le_of_ble_eq_true rfl) (Nat.le_of_ble_eq_true rfl) dX3_init_42 (fun α4 H pa hw hS => ?_)
  obtain ⟨V8, hV8⟩ : ∃ z9 : mV, z9 = vup V7 4 (.inr (0, [.int (0), .null, .int (0)])) := ⟨_, rfl⟩
  have hw : mW G V8 α4 s H := by rw [hV8]; exact hw
  have v4 : V8 4 = some (.inr (0, [.int (0), .null, .int (0)])) := by rw [hV8]; exact vup_s _ _ _
  have pv : ∀ j, j ≠ 4 → V8 j = V7 j := fun j hj => by rw [hV8]; exact vup_n _ _ hj
  have v0 : V8 0 = some (.inr (4, [.ref (a1), .ref (a2), .ref (a3), .null, .null])) := (pv 0 (by decide)).trans v0
  have v1 : V8 1 = some (.inl (G.2.2.1.1, 4, .inl (fb 4))) := (pv 1 (by decide)).trans v1
  have v2 : V8 2 = some (.inl (G.2.2.1.2, 364, .inl (fun _ => 0))) := (pv 2 (by decide)).trans v2
  have v3 : V8 3 = some (.inr (0, [.int (0), .ref (G.1.2), .int (0)])) := (pv 3 (by decide)).trans v3
  have e0 : α4 0 = a0 := (pa 0 (by decide)).trans e0
  have e1 : α4 1 = a1 := (pa 1 (by decide)).trans e1
  have e2 : α4 2 = a2 := (pa 2 (by decide)).trans e2
  have e3 : α4 3 = a3 := (pa 3 (by decide)).trans e3
  obtain ⟨a4, e4⟩ : ∃ a, α4 4 = a := ⟨_, rfl⟩
  have hN : ∀ j, 5 ≤ j → V8 j = none := fun j hj => (pv j (by omega)).trans (hN j (by omega))
  refine lv_dup hx hb dX3_init_45 rfl ?_
  refine mcallIwv (rest := [.ref (α4 4), .ref (a0)]) hw ⟨hx, hb, hml, hown, hts⟩ hS (c_al_init v4) (cwI 0 hts gX3_init_Jx4a65c_init_da8c8 rfl rfl rfl skla sklb sklc rfl (by decide +kernel) ⟨Nat.le_of_ble_eq_true rfl, Nat.le_of_ble_eq_true rfl⟩) rfl hl.1 rfl (Nat.le_of_ble_eq_true rfl) dX3_init_46 ⟨Nat.le_of_ble_eq_true rfl, Nat.le_of_ble_eq_true rfl⟩ (fun W2 α2 H locs hp hw hS => ?_)
  obtain ⟨p1, p2⟩ := hp
  dsimp only at p1 p2
  subst p2
  rw [p1] at hw
  obtain ⟨V9, hV9⟩ : ∃ z9 : mV, z9 = vup V8 4 (.inr (0, [.int (0), .ref (G.1.2), .int (0)])) := ⟨_, rfl⟩
  have hw : mW G V9 α4 s H := by rw [hV9]; exact hw
  have v4 : V9 4 = some (.inr (0, [.int (0), .ref (G.1.2), .int (0)])) := by rw [hV9]; exact vup_s _ _ _
  have pv : ∀ j, j ≠ 4 → V9 j = V8 j := fun j hj => by rw [hV9]; exact vup_n _ _ hj
  have v0 : V9 0 = some (.inr (4, [.ref (a1), .ref (a2), .ref (a3), .null, .null])) := (pv 0 (by decide)).trans v0
  have v1 : V9 1 = some (.inl (G.2.2.1.1, 4, .inl (fb 4))) := (pv 1 (by decide)).trans v1
  have v2 : V9 2 = some (.inl (G.2.2.1.2, 364, .inl (fun _ => 0))) := (pv 2 (by decide)).trans v2
  have v3 : V9 3 = some (.inr (0, [.int (0), .ref (G.1.2), .int (0)])) := (pv 3 (by decide)).trans v3
  have hN : ∀ j, 5 ≤ j → V9 j = none := fun j hj => (pv j (by omega)).trans (hN j (by omega))
  refine W.eq (g2 := F0 m 49 ls [.ref (a4), .ref (α4 0)]) (by rw [e0, e4]) ?_
  refine mputF (C := RX3) (T := TX3) (N := 5) (ci := 4) hx hb hts in_X3 tyX3 tyX3_ok nmX3 hown hw hS v0 rfl 3 (by decide) fl_30 rfl hin rfl rfl rfl (Nat.le_of_ble_eq_true rfl) dX3_init_49 (fun H locs hw hS => ?_)
  obtain ⟨V10, hV10⟩ : ∃ z9 : mV, z9 = vup V9 0 (.inr (4, [.ref (a1), .ref (a2), .ref (a3), .ref (a4), .null])) := ⟨_, rfl⟩
  have hw : mW G V10 α4 s H := by rw [hV10]; exact hw
  have v0 : V10 0 = some (.inr (4, [.ref (a1), .ref (a2), .ref (a3), .ref (a4), .null])) := by rw [hV10]; exact vup_s _ _ _
  have pv : ∀ j, j ≠ 0 → V10 j = V9 j := fun j hj => by rw [hV10]; exact vup_n _ _ hj
  have v1 : V10 1 = some (.inl (G.2.2.1.1, 4, .inl (fb 4))) := (pv 1 (by decide)).trans v1
  have v2 : V10 2 = some (.inl (G.2.2.1.2, 364, .inl (fun _ => 0))) := (pv 2 (by decide)).trans v2
  have v3 : V10 3 = some (.inr (0, [.int (0), .ref (G.1.2), .int (0)])) := (pv 3 (by decide)).trans v3
  have v4 : V10 4 = some (.inr (0, [.int (0), .ref (G.1.2), .int (0)])) := (pv 4 (by decide)).trans v4
  have hN : ∀ j, 5 ≤ j → V10 j = none := fun j hj => (pv j (by omega)).trans (hN j (by omega))
  refine lv_aload_n hx hb dX3_init_52 rfl (lv_at hl 0 rfl) ?_
  refine mnew (C := RJx4a65c) (T := TJx4a65c) (N := 3) (ci := 0) (fs := [.int (0), .null, .int (0)]) hx hb hts in_Jx4a65c tyJx4a65c tyJx4a65c_ok hown nk1 nk2 nk3 hw hS rfl 5 (hN 5 (by omega)) (fun j hj => by rcases (show j = 0 ∨ j = 1 ∨ j = 2 by omega) with rfl | rfl | rfl <;> rfl) (Nat.le_of_ble_eq_true rfl) (Nat.le_of_ble_eq_true rfl) dX3_init_53 (fun α5 H pa hw hS => ?_)
  obtain ⟨V11, hV11⟩ : ∃ z9 : mV, z9 = vup V10 5 (.inr (0, [.int (0), .null, .int (0)])) := ⟨_, rfl⟩
  have hw : mW G V11 α5 s H := by rw [hV11]; exact hw
  have v5 : V11 5 = some (.inr (0, [.int (0), .null, .int (0)])) := by rw [hV11]; exact vup_s _ _ _
  have pv : ∀ j, j ≠ 5 → V11 j = V10 j := fun j hj => by rw [hV11]; exact vup_n _ _ hj
  have v0 : V11 0 = some (.inr (4, [.ref (a1), .ref (a2), .ref (a3), .ref (a4), .null])) := (pv 0 (by decide)).trans v0
  have v1 : V11 1 = some (.inl (G.2.2.1.1, 4, .inl (fb 4))) := (pv 1 (by decide)).trans v1
  have v2 : V11 2 = some (.inl (G.2.2.1.2, 364, .inl (fun _ => 0))) := (pv 2 (by decide)).trans v2
  have v3 : V11 3 = some (.inr (0, [.int (0), .ref (G.1.2), .int (0)])) := (pv 3 (by decide)).trans v3
  have v4 : V11 4 = some (.inr (0, [.int (0), .ref (G.1.2), .int (0)])) := (pv 4 (by decide)).trans v4
  have e0 : α5 0 = a0 := (pa 0 (by decide)).trans e0
  have e1 : α5 1 = a1 := (pa 1 (by decide)).trans e1
  have e2 : α5 2 = a2 := (pa 2 (by decide)).trans e2
  have e3 : α5 3 = a3 := (pa 3 (by decide)).trans e3
  have e4 : α5 4 = a4 := (pa 4 (by decide)).trans e4
  obtain ⟨a5, e5⟩ : ∃ a, α5 5 = a := ⟨_, rfl⟩
  have hN : ∀ j, 6 ≤ j → V11 j = none := fun j hj => (pv j (by omega)).trans (hN j (by omega))
  refine lv_dup hx hb dX3_init_56 rfl ?_
  refine mcallIwv (rest := [.ref (α5 5), .ref (a0)]) hw ⟨hx, hb, hml, hown, hts⟩ hS (c_al_init v5) (cwI 0 hts gX3_init_Jx4a65c_init_da8c8 rfl rfl rfl skla sklb sklc rfl (by decide +kernel) ⟨Nat.le_of_ble_eq_true rfl, Nat.le_of_ble_eq_true rfl⟩) rfl hl.1 rfl (Nat.le_of_ble_eq_true rfl) dX3_init_57 ⟨Nat.le_of_ble_eq_true rfl, Nat.le_of_ble_eq_true rfl⟩ (fun W2 α2 H locs hp hw hS => ?_)
  obtain ⟨p1, p2⟩ := hp
  dsimp only at p1 p2
  subst p2
  rw [p1] at hw
  obtain ⟨V12, hV12⟩ : ∃ z9 : mV, z9 = vup V11 5 (.inr (0, [.int (0), .ref (G.1.2), .int (0)])) := ⟨_, rfl⟩
  have hw : mW G V12 α5 s H := by rw [hV12]; exact hw
  have v5 : V12 5 = some (.inr (0, [.int (0), .ref (G.1.2), .int (0)])) := by rw [hV12]; exact vup_s _ _ _
  have pv : ∀ j, j ≠ 5 → V12 j = V11 j := fun j hj => by rw [hV12]; exact vup_n _ _ hj
  have v0 : V12 0 = some (.inr (4, [.ref (a1), .ref (a2), .ref (a3), .ref (a4), .null])) := (pv 0 (by decide)).trans v0
  have v1 : V12 1 = some (.inl (G.2.2.1.1, 4, .inl (fb 4))) := (pv 1 (by decide)).trans v1
  have v2 : V12 2 = some (.inl (G.2.2.1.2, 364, .inl (fun _ => 0))) := (pv 2 (by decide)).trans v2
  have v3 : V12 3 = some (.inr (0, [.int (0), .ref (G.1.2), .int (0)])) := (pv 3 (by decide)).trans v3
  have v4 : V12 4 = some (.inr (0, [.int (0), .ref (G.1.2), .int (0)])) := (pv 4 (by decide)).trans v4
  have hN : ∀ j, 6 ≤ j → V12 j = none := fun j hj => (pv j (by omega)).trans (hN j (by omega))
  refine W.eq (g2 := F0 m 60 ls [.ref (a5), .ref (α5 0)]) (by rw [e0, e5]) ?_
  refine mputF (C := RX3) (T := TX3) (N := 5) (ci := 4) hx hb hts in_X3 tyX3 tyX3_ok nmX3 hown hw hS v0 rfl 4 (by decide) fl_33 rfl hin rfl rfl rfl (Nat.le_of_ble_eq_true rfl) dX3_init_60 (fun H locs hw hS => ?_)
  obtain ⟨V13, hV13⟩ : ∃ z9 : mV, z9 = vup V12 0 (.inr (4, [.ref (a1), .ref (a2), .ref (a3), .ref (a4), .ref (a5)])) := ⟨_, rfl⟩
  have hw : mW G V13 α5 s H := by rw [hV13]; exact hw
  have v0 : V13 0 = some (.inr (4, [.ref (a1), .ref (a2), .ref (a3), .ref (a4), .ref (a5)])) := by rw [hV13]; exact vup_s _ _ _
  have pv : ∀ j, j ≠ 0 → V13 j = V12 j := fun j hj => by rw [hV13]; exact vup_n _ _ hj
  have v1 : V13 1 = some (.inl (G.2.2.1.1, 4, .inl (fb 4))) := (pv 1 (by decide)).trans v1
  have v2 : V13 2 = some (.inl (G.2.2.1.2, 364, .inl (fun _ => 0))) := (pv 2 (by decide)).trans v2
  have v3 : V13 3 = some (.inr (0, [.int (0), .ref (G.1.2), .int (0)])) := (pv 3 (by decide)).trans v3
  have v4 : V13 4 = some (.inr (0, [.int (0), .ref (G.1.2), .int (0)])) := (pv 4 (by decide)).trans v4
  have v5 : V13 5 = some (.inr (0, [.int (0), .ref (G.1.2), .int (0)])) := (pv 5 (by decide)).trans v5
  have hN : ∀ j, 6 ≤ j → V13 j = none := fun j hj => (pv j (by omega)).trans (hN j (by omega))
  refine W.widen (k := 5) (n := 377) (by decide) (by decide) ?_
  have hCo : mC G V13 α5 f00 0 0 0 := ⟨by rw [v0]; unfold cobj; rw [e1, e2, e3, e4, e5], v1, v2, ⟨0, 0, fun _ => none, Nat.le_refl _, by omega, fun c hc => hN _ (by omega), Or.inl ⟨rfl, rfl, v3⟩⟩, ⟨0, 0, fun _ => none, Nat.le_refl _, by omega, fun c hc => hN _ (by omega), Or.inl ⟨rfl, rfl, v4⟩⟩, ⟨0, 0, fun _ => none, Nat.le_refl _, by omega, fun c hc => hN _ (by omega), Or.inl ⟨rfl, rfl, v5⟩⟩, fun k hk => by omega, fun k hk => by omega, fun k hk => by omega, fun k _ _ => hN _ (by omega), fun k _ _ => hN _ (by omega), fun k _ _ => hN _ (by omega)⟩
  exact W.vret hx hb hr (fun t ht hW => ⟨⟨(V13, α5), rfl, ⟨hCo, hN, e0.trans eq0.symm⟩, by show mH G V13 α5 t.heap; rw [ht]; exact hw.2.2⟩, hS.F ht⟩) hS.2.2 dX3_init_63
