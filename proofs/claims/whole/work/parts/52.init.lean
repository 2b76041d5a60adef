section MNA
variable {p : Program} {l : Launch} {e : Env} {R : Room} {s : State} {m : MethodId} {args : Array Value} {below : List Frame} {meth : Method} {c : Code} {H : Heap} {locs : List Loc} {cells slots : Nat} {Q : State → Prop} {cc : ByteArray} {pc : Nat} {ls : Array Slot} {rest : List Value} {G : mG} {V : mV} {α : Nat → Nat}
theorem mnewI (hexec : p.tables.exec = Jvm.exec) (hb : c.code = cc) (harr : (Cond.arrayClass .int).before args s = true) (hw : mW G V α s H) (hS : va_S (mfree G) s.heap H locs) {n : Int32} (N : Nat) (hn : n = nI N) (hN : N ≤ 1000) (i : Nat) (hi : V i = none) (hcells : cells + 1 ≤ R.cells) (hslots : slots + N ≤ R.slots) (hdg : decode cc pc = .ok (.newarray .int, 2))
    (kk : ∀ (α1 : Nat → Nat) (H1 : Heap), (∀ j, j ≠ i → α1 j = α j) → mW G (vup V i (.inl (G.2.2.1.1, N, .inl (fun _ => 0)))) α1 s H1 → va_S (mfree G) s.heap H1 locs →
      W p l e R s m args below meth c H1 locs (cells + 1) (slots + N) Q (F0 m (pc + 2) ls (.ref (α1 i) :: rest))) : W p l e R s m args below meth c H locs cells slots Q (F0 m pc ls (.int n :: rest)) := by
  subst hn
  exact mnewa (atype := .int) (a0 := (N, .inl (fun _ => 0))) (N' := N) hexec hb harr 0 rfl rfl hw hS (by rw [vp_cell_i]; rfl) (nI_pos (by omega)) (nI_clamp (by omega)) (by show N * 4 ≤ 536870912; omega) i hi hcells hslots hdg kk
theorem mnewZ (hexec : p.tables.exec = Jvm.exec) (hb : c.code = cc) (harr : (Cond.arrayClass .boolean).before args s = true) (hw : mW G V α s H) (hS : va_S (mfree G) s.heap H locs) {n : Int32} (N : Nat) (hn : n = nI N) (hN : N ≤ 1000) (i : Nat) (hi : V i = none) (hcells : cells + 1 ≤ R.cells) (hslots : slots + N ≤ R.slots) (hdg : decode cc pc = .ok (.newarray .boolean, 2))
    (kk : ∀ (α1 : Nat → Nat) (H1 : Heap), (∀ j, j ≠ i → α1 j = α j) → mW G (vup V i (.inl (G.2.2.1.2, N, .inl (fun _ => 0)))) α1 s H1 → va_S (mfree G) s.heap H1 locs →
      W p l e R s m args below meth c H1 locs (cells + 1) (slots + N) Q (F0 m (pc + 2) ls (.ref (α1 i) :: rest))) : W p l e R s m args below meth c H locs cells slots Q (F0 m pc ls (.int n :: rest)) := by
  subst hn
  exact mnewa (atype := .boolean) (a0 := (N, .inl (fun _ => 0))) (N' := N) hexec hb harr 1 rfl rfl hw hS (by rw [vp_cell_i]; rfl) (nI_pos (by omega)) (nI_clamp (by omega)) (by show N * 1 ≤ 536870912; omega) i hi hcells hslots hdg kk
theorem mnewJ (hexec : p.tables.exec = Jvm.exec) (hb : c.code = cc) (harr : (Cond.arrayClass .long).before args s = true) (hw : mW G V α s H) (hS : va_S (mfree G) s.heap H locs) {n : Int32} (N : Nat) (hn : n = nI N) (hN : N ≤ 1000) (i : Nat) (hi : V i = none) (hcells : cells + 1 ≤ R.cells) (hslots : slots + N ≤ R.slots) (hdg : decode cc pc = .ok (.newarray .long, 2))
    (kk : ∀ (α1 : Nat → Nat) (H1 : Heap), (∀ j, j ≠ i → α1 j = α j) → mW G (vup V i (.inl (G.2.2.2.2.1, N, .inr (.inl (fun _ => 0))))) α1 s H1 → va_S (mfree G) s.heap H1 locs →
      W p l e R s m args below meth c H1 locs (cells + 1) (slots + N) Q (F0 m (pc + 2) ls (.ref (α1 i) :: rest))) : W p l e R s m args below meth c H locs cells slots Q (F0 m pc ls (.int n :: rest)) := by
  subst hn
  exact mnewa (atype := .long) (a0 := (N, .inr (.inl (fun _ => 0)))) (N' := N) hexec hb harr 3 rfl rfl hw hS (by rw [vp_cell_l]; rfl) (nI_pos (by omega)) (nI_clamp (by omega)) (by show N * 8 ≤ 536870912; omega) i hi hcells hslots hdg kk
end MNA
/-! the constructors -/
def fb : Nat → Nat → Int32
  | 0 => fun _ => 0
  | k + 1 => upd (fb k) k 500
def f00 : sT := fun i => if i = 0 then fb 4 else fun _ => 0

set_option maxHeartbeats 4000000 in
set_option maxRecDepth 100000 in
theorem c_ac_init {l : Launch} {G : mG} {V : mV} {α : Nat → Nat} {z : Nat} : Met l yJxa1e45_init_da8c8 wsJxa1e45_init_da8c8 ({ frames := 1, cells := 0, slots := 0, locals := 40 }) (va_Pc [.ref (α (z))] (fun U => mW G V α U U.heap)) (va_Qv (fun (u : mV × (Nat → Nat)) => u.1 = V ∧ α = u.2) (fun u t => mH G u.1 u.2 t.heap) (mfree G)) 0 0 (mfree G) := by
  refine Met.ofW (cc := cJxa1e45_init_da8c8) (maxL := 1) (ret := none) (by decide) rfl ?_
  intro p e s m args below meth c s₁ B hml hv
  obtain ⟨rfl, hw⟩ := hv
  have hw0 := hw
  have hx := B.exec
  have hb := B.bytes
  have hr := B.returns
  have hts := atoms_spec (ws := wsJxa1e45_init_da8c8) B.pre
  have hown : s.vm.findClass RJxa1e45 = some m.cls := findClass_of_methodNamed B.named
  have hlocks := B.notSynchronized
  have hS : va_S (mfree G) s.heap s.heap [] := va_S.rf
  have hin : meth.name = "<init>" := (name_of_methodNamed B.named B.method).1
  have oi_l1 := hts (.methodLink RJxa1e45 1 objectInit) (by decide +kernel)
  have oi_i := hts (.instanceMethod objectInit) (by decide +kernel)
  have oi_c := hts (.code objectInit ⟨#[0xb1]⟩ 1 none) (by decide +kernel)
  have hl := lv_entry ([.ref (α (z))]) (n := 1) (Nat.le_of_ble_eq_true rfl)
  rw [lg_entry_eq]
  generalize (lg_sl ([.ref (α (z))]) ++ List.replicate (1 - (lg_sl ([.ref (α (z))])).length) Slot.unset).toArray = ls at hl ⊢
  have hl : lv_has ls 1 [(0, .ref (α (z)))] := hl
  refine lv_aload_n hx hb dJxa1e45_init_da8c8_0 rfl (lv_at hl 0 rfl) ?_
  refine W.objInit hx hb hown oi_l1 oi_i oi_c rfl (by rw [hml]; exact hl.1) rfl dJxa1e45_init_da8c8_1 (Nat.le_of_ble_eq_true rfl) (Nat.le_of_ble_eq_true rfl) ?_
  refine W.eq (g2 := F0 m 4 ls []) rfl ?_
  exact W.vret hx hb hr (fun t ht hW => ⟨⟨(V, α), rfl, ⟨rfl, rfl⟩, by show mH G V α t.heap; rw [ht]; exact hw.2.2⟩, hS.F ht⟩) hS.2.2 dJxa1e45_init_da8c8_4

set_option maxHeartbeats 4000000 in
set_option maxRecDepth 100000 in
theorem c_al0_init {l : Launch} {G : mG} {V : mV} {α : Nat → Nat} {z : Nat} (hz : V z = some (.inr (0, [.int (0), .null, .int (0)]))) : Met l yJxc12de_init_da8c8 wsJxc12de_init_da8c8 ({ frames := 2, cells := 0, slots := 0, locals := 62 }) (va_Pc [.ref (α (z))] (fun U => mW G V α U U.heap)) (va_Qv (fun (u : mV × (Nat → Nat)) => u.1 = vup V z (.inr (0, [.int (0), .null, .int (0)])) ∧ α = u.2) (fun u t => mH G u.1 u.2 t.heap) (mfree G)) 0 0 (mfree G) := by
  refine Met.ofW (cc := cJxc12de_init_da8c8) (maxL := 1) (ret := none) (by decide) rfl ?_
  intro p e s m args below meth c s₁ B hml hv
  obtain ⟨rfl, hw⟩ := hv
  have hw0 := hw
  have hx := B.exec
  have hb := B.bytes
  have hr := B.returns
  have hts := atoms_spec (ws := wsJxc12de_init_da8c8) B.pre
  have hown : s.vm.findClass RJxc12de = some m.cls := findClass_of_methodNamed B.named
  have hlocks := B.notSynchronized
  have hS : va_S (mfree G) s.heap s.heap [] := va_S.rf
  have hin : meth.name = "<init>" := (name_of_methodNamed B.named B.method).1
  have sksa := hts (.initialized RJxa1e45) (by decide +kernel)
  have sksb := hts (.methodLink RJxc12de 1 yJxa1e45_init_da8c8) (by decide +kernel)
  have sksc := hts (.instanceMethod yJxa1e45_init_da8c8) (by decide +kernel)
  have fl_7 := hts (.fieldLink RJxc12de 7 "java/util/AbstractList" "modCount" "I") (by decide +kernel)
  have in_Jx4a65c : ∀ w ∈ u_ws RJx4a65c TJx4a65c 3, w ∈ wsJxc12de_init_da8c8 := by decide +kernel
  have hl := lv_entry ([.ref (α (z))]) (n := 1) (Nat.le_of_ble_eq_true rfl)
  rw [lg_entry_eq]
  generalize (lg_sl ([.ref (α (z))]) ++ List.replicate (1 - (lg_sl ([.ref (α (z))])).length) Slot.unset).toArray = ls at hl ⊢
  have hl : lv_has ls 1 [(0, .ref (α (z)))] := hl
  refine lv_aload_n hx hb dJxc12de_init_da8c8_0 rfl (lv_at hl 0 rfl) ?_
  refine mcallIwv (rest := []) hw ⟨hx, hb, hml, hown, hts⟩ hS c_ac_init (cwI 0 hts gJxc12de_init_da8c8_Jxa1e45_init_da8c8 rfl rfl rfl sksa sksb sksc rfl (by decide +kernel) ⟨Nat.le_of_ble_eq_true rfl, Nat.le_of_ble_eq_true rfl⟩) rfl hl.1 rfl (Nat.le_of_ble_eq_true rfl) dJxc12de_init_da8c8_1 ⟨Nat.le_of_ble_eq_true rfl, Nat.le_of_ble_eq_true rfl⟩ (fun V2 α2 H locs hp hw hS => ?_)
  obtain ⟨p1, p2⟩ := hp
  dsimp only at p1 p2
  subst p2
  rw [p1] at hw
  refine lv_aload_n hx hb dJxc12de_init_da8c8_4 rfl (lv_at hl 0 rfl) ?_
  refine lv_iconst (v := (0)) hx hb dJxc12de_init_da8c8_5 (by decide) ?_
  refine mput (C := RJx4a65c) (T := TJx4a65c) (N := 3) (ci := 0) hx hb hts in_Jx4a65c tyJx4a65c tyJx4a65c_ok nmJx4a65c hown hw hS (hz) rfl 0 (by decide) fl_7 rfl (rfl) (rfl) (Nat.le_of_ble_eq_true rfl) dJxc12de_init_da8c8_6 (fun H locs hw hS => ?_)
  have hw : mW G (vup V z (.inr (0, [.int (0), .null, .int (0)]))) α s H := hw
  have hz1 : (vup V z (.inr (0, [.int (0), .null, .int (0)]))) z = some (.inr (0, [.int (0), .null, .int (0)])) := vup_s _ _ _
  exact W.vret hx hb hr (fun t ht hW => ⟨⟨((vup V z (.inr (0, [.int (0), .null, .int (0)]))), α), rfl, ⟨rfl, rfl⟩, by show mH G (vup V z (.inr (0, [.int (0), .null, .int (0)]))) α t.heap; rw [ht]; exact hw.2.2⟩, hS.F ht⟩) hS.2.2 dJxc12de_init_da8c8_9

set_option maxHeartbeats 4000000 in
set_option maxRecDepth 100000 in
theorem c_al_init {l : Launch} {G : mG} {V : mV} {α : Nat → Nat} {z : Nat} (hz : V z = some (.inr (0, [.int (0), .null, .int (0)]))) : Met l yJx4a65c_init_da8c8 wsJx4a65c_init_da8c8 ({ frames := 3, cells := 0, slots := 0, locals := 84 }) (va_Pc [.ref (α (z))] (fun U => mW G V α U U.heap)) (va_Qv (fun (u : mV × (Nat → Nat)) => u.1 = vup V z (.inr (0, [.int (0), .ref (G.1.2), .int (0)])) ∧ α = u.2) (fun u t => mH G u.1 u.2 t.heap) (mfree G)) 0 0 (mfree G) := by
  refine Met.ofW (cc := cJx4a65c_init_da8c8) (maxL := 1) (ret := none) (by decide) rfl ?_
  intro p e s m args below meth c s₁ B hml hv
  obtain ⟨rfl, hw⟩ := hv
  have hw0 := hw
  have hx := B.exec
  have hb := B.bytes
  have hr := B.returns
  have hts := atoms_spec (ws := wsJx4a65c_init_da8c8) B.pre
  have hown : s.vm.findClass RJx4a65c = some m.cls := findClass_of_methodNamed B.named
  have hlocks := B.notSynchronized
  have hS : va_S (mfree G) s.heap s.heap [] := va_S.rf
  have hin : meth.name = "<init>" := (name_of_methodNamed B.named B.method).1
  have sksa := hts (.initialized RJxc12de) (by decide +kernel)
  have sksb := hts (.methodLink RJx4a65c 1 yJxc12de_init_da8c8) (by decide +kernel)
  have sksc := hts (.instanceMethod yJxc12de_init_da8c8) (by decide +kernel)
  have gs := hts (.fieldLink RJx4a65c 39 "java/util/ArrayList" "DEFAULTCAPACITY_EMPTY_ELEMENTDATA" "[Ljava/lang/Object;") (by decide +kernel)
  have fl_9 := hts (.fieldLink RJx4a65c 9 "java/util/ArrayList" "elementData" "[Ljava/lang/Object;") (by decide +kernel)
  have in_Jx4a65c : ∀ w ∈ u_ws RJx4a65c TJx4a65c 3, w ∈ wsJx4a65c_init_da8c8 := by decide +kernel
  have hl := lv_entry ([.ref (α (z))]) (n := 1) (Nat.le_of_ble_eq_true rfl)
  rw [lg_entry_eq]
  generalize (lg_sl ([.ref (α (z))]) ++ List.replicate (1 - (lg_sl ([.ref (α (z))])).length) Slot.unset).toArray = ls at hl ⊢
  have hl : lv_has ls 1 [(0, .ref (α (z)))] := hl
  refine lv_aload_n hx hb dJx4a65c_init_da8c8_0 rfl (lv_at hl 0 rfl) ?_
  refine mcallIwv (rest := []) hw ⟨hx, hb, hml, hown, hts⟩ hS (c_al0_init hz) (cwI 0 hts gJx4a65c_init_da8c8_Jxc12de_init_da8c8 rfl rfl rfl sksa sksb sksc rfl (by decide +kernel) ⟨Nat.le_of_ble_eq_true rfl, Nat.le_of_ble_eq_true rfl⟩) rfl hl.1 rfl (Nat.le_of_ble_eq_true rfl) dJx4a65c_init_da8c8_1 ⟨Nat.le_of_ble_eq_true rfl, Nat.le_of_ble_eq_true rfl⟩ (fun V2 α2 H locs hp hw hS => ?_)
  obtain ⟨p1, p2⟩ := hp
  dsimp only at p1 p2
  subst p2
  rw [p1] at hw
  have hz0 : (vup V z (.inr (0, [.int (0), .null, .int (0)]))) z = some (.inr (0, [.int (0), .null, .int (0)])) := vup_s _ _ _
  refine lv_aload_n hx hb dJx4a65c_init_da8c8_4 rfl (lv_at hl 0 rfl) ?_
  refine va_gets hx hb hw0.2.1.2.2.1 hS hown gs (fun _ h => h) dJx4a65c_init_da8c8_5 ?_
  refine mput (C := RJx4a65c) (T := TJx4a65c) (N := 3) (ci := 0) hx hb hts in_Jx4a65c tyJx4a65c tyJx4a65c_ok nmJx4a65c hown hw hS (hz0) rfl 1 (by decide) fl_9 rfl (rfl) (rfl) (Nat.le_of_ble_eq_true rfl) dJx4a65c_init_da8c8_8 (fun H locs hw hS => ?_)
  have hw : mW G (vup (vup V z (.inr (0, [.int (0), .null, .int (0)]))) z (.inr (0, [.int (0), .ref (G.1.2), .int (0)]))) α s H := hw
  have hz1 : (vup (vup V z (.inr (0, [.int (0), .null, .int (0)]))) z (.inr (0, [.int (0), .ref (G.1.2), .int (0)]))) z = some (.inr (0, [.int (0), .ref (G.1.2), .int (0)])) := vup_s _ _ _
  exact W.vret hx hb hr (fun t ht hW => ⟨⟨((vup (vup V z (.inr (0, [.int (0), .null, .int (0)]))) z (.inr (0, [.int (0), .ref (G.1.2), .int (0)]))), α), rfl, ⟨by simp only [vup2], rfl⟩, by show mH G (vup (vup V z (.inr (0, [.int (0), .null, .int (0)]))) z (.inr (0, [.int (0), .ref (G.1.2), .int (0)]))) α t.heap; rw [ht]; exact hw.2.2⟩, hS.F ht⟩) hS.2.2 dJx4a65c_init_da8c8_11

set_option maxHeartbeats 4000000 in
set_option maxRecDepth 100000 in
theorem c_fill {l : Launch} {G : mG} {V : mV} {α : Nat → Nat} {z : Nat} (hz : V z = some (.inl (G.2.2.1.1, 4, .inl (fun _ => 0)))) : Met l yJ7_fill_53178 wsJ7_fill_53178 ({ frames := 0, cells := 0, slots := 0, locals := 0 }) (va_Pc [.ref (α (z)), .int (500)] (fun U => mW G V α U U.heap)) (va_Qv (fun (u : mV × (Nat → Nat)) => (u.1 z = some (.inl (G.2.2.1.1, 4, .inl (fb 4))) ∧ ∀ i, i ≠ z → u.1 i = V i) ∧ α = u.2) (fun u t => mH G u.1 u.2 t.heap) (mfree G)) 0 0 (mfree G) := by
  refine Met.ofW (cc := cJ7_fill_53178) (maxL := 4) (ret := none) (by decide) rfl ?_
  intro p e s m args below meth c s₁ B hml hv
  obtain ⟨rfl, hw⟩ := hv
  have hw0 := hw
  have hx := B.exec
  have hb := B.bytes
  have hr := B.returns
  have hts := atoms_spec (ws := wsJ7_fill_53178) B.pre
  have hown : s.vm.findClass RJ7 = some m.cls := findClass_of_methodNamed B.named
  have hlocks := B.notSynchronized
  have hS : va_S (mfree G) s.heap s.heap [] := va_S.rf
  have hl := lv_entry ([.ref (α (z)), .int (500)]) (n := 4) (Nat.le_of_ble_eq_true rfl)
  rw [lg_entry_eq]
  generalize (lg_sl ([.ref (α (z)), .int (500)]) ++ List.replicate (4 - (lg_sl ([.ref (α (z)), .int (500)])).length) Slot.unset).toArray = ls at hl ⊢
  have hl : lv_has ls 4 [(0, .ref (α (z))), (1, .int (500))] := hl
  refine lv_iconst (v := (0)) hx hb dJ7_fill_53178_0 (by decide) ?_
  refine lv_istore_n (lv' := [(2, .int (0)), (0, .ref (α (z))), (1, .int (500))]) hx hb dJ7_fill_53178_1 rfl hl (by decide) rfl (fun ls hl => ?_)
  refine lv_aload_n hx hb dJ7_fill_53178_2 rfl (lv_at hl 1 rfl) ?_
  refine mialen hx hb hw (hz) dJ7_fill_53178_3 ?_
  refine lv_istore_n (lv' := [(3, .int (nI (4))), (2, .int (0)), (0, .ref (α (z))), (1, .int (500))]) hx hb dJ7_fill_53178_4 rfl hl (by decide) rfl (fun ls hl => ?_)
  have hl : lv_has ls 4 [(2, .int (nI (0))), (3, .int (nI (4))), (0, .ref (α (z))), (1, .int (500))] := lv_sub hl [1, 0, 2, 3] rfl
  refine mloopW 4 (fun j => [(2, .int (nI j)), (3, .int (nI (4))), (0, .ref (α (z))), (1, .int (500))]) (fun j V1 => V1 z = some (.inl (G.2.2.1.1, 4, .inl (fb j))) ∧ ∀ i, i ≠ z → V1 i = V i) (fun V1 H locs hI hw hS ls hl => ?_) (fun j hj ih V1 H locs hI hw hS ls hl => ?_) V s.heap [] ⟨hz, fun _ _ => rfl⟩ hw hS ls hl
  ·
    refine lv_iload_n hx hb dJ7_fill_53178_5 rfl (lv_at hl 0 rfl) ?_
    refine lv_iload_n hx hb dJ7_fill_53178_6 rfl (lv_at hl 1 rfl) ?_
    refine lv_icmp_ge (tgt := 20) hx hb dJ7_fill_53178_7 (by decide) (fun _ => ?_) (fun z9 => absurd (by decide) z9)
    exact W.vret hx hb hr (fun t ht hW => ⟨⟨(V1, α), rfl, ⟨hI, rfl⟩, by show mH G V1 α t.heap; rw [ht]; exact hw.2.2⟩, hS.F ht⟩) hS.2.2 dJ7_fill_53178_20
  ·
    refine lv_iload_n hx hb dJ7_fill_53178_5 rfl (lv_at hl 0 rfl) ?_
    refine lv_iload_n hx hb dJ7_fill_53178_6 rfl (lv_at hl 1 rfl) ?_
    refine lv_icmp_ge (tgt := 20) hx hb dJ7_fill_53178_7 (by decide) (fun z9 => absurd z9 (nI_ge hj (by decide))) (fun _ => ?_)
    refine lv_aload_n hx hb dJ7_fill_53178_10 rfl (lv_at hl 2 rfl) ?_
    refine lv_iload_n hx hb dJ7_fill_53178_11 rfl (lv_at hl 0 rfl) ?_
    refine lv_iload_n hx hb dJ7_fill_53178_12 rfl (lv_at hl 3 rfl) ?_
    refine miast' (k := j) hx hb hw hS hI.1 rfl hj (by decide) dJ7_fill_53178_13 (fun H locs hw hS => ?_)
    refine lv_iinc (v := nI (j + 1)) (lv' := [(2, .int (nI (j + 1))), (3, .int (nI (4))), (0, .ref (α (z))), (1, .int (500))]) hx hb dJ7_fill_53178_14 hl (k := 0) rfl (nI_1 (j)) (by decide) rfl (fun ls hl => ?_)
    refine lv_goto (tgt := 5) hx hb dJ7_fill_53178_17 (by decide) ?_
    exact ih _ _ _ ⟨vup_s _ _ _, fun i hi => (vup_n _ _ hi).trans (hI.2 i hi)⟩ hw hS ls hl

set_option maxHeartbeats 4000000 in
set_option maxRecDepth 100000 in
theorem c_X3_init {l : Launch} {G : mG} {V : mV} {α : Nat → Nat} (v0 : V 0 = some (.inr (4, [.null, .null, .null, .null, .null]))) (hN : ∀ j, 1 ≤ j → V j = none) : Met l yX3_init wsX3_init ({ frames := 5, cells := 5, slots := 377, locals := 130 }) (va_Pc [.ref (α (0))] (fun U => mW G V α U U.heap)) (va_Qv (fun (u : mV × (Nat → Nat)) => mC G u.1 u.2 f00 0 0 0 ∧ (∀ j, 6 ≤ j → u.1 j = none) ∧ u.2 0 = α 0) (fun u t => mH G u.1 u.2 t.heap) (mfree G)) 5 377 (mfree G) := by
  refine Met.ofW (cc := cX3_init) (maxL := 1) (ret := none) (by decide) rfl ?_
  intro p e s m args below meth c s₁ B hml hv
  obtain ⟨rfl, hw⟩ := hv
  have hw0 := hw
  have hx := B.exec
  have hb := B.bytes
  have hr := B.returns
  have hts := atoms_spec (ws := wsX3_init) B.pre
  have hown : s.vm.findClass RX3 = some m.cls := findClass_of_methodNamed B.named
  have hlocks := B.notSynchronized
  have hS : va_S (mfree G) s.heap s.heap [] := va_S.rf
  have hin : meth.name = "<init>" := (name_of_methodNamed B.named B.method).1
  have oi_l3 := hts (.methodLink RX3 3 objectInit) (by decide +kernel)
  have oi_i := hts (.instanceMethod objectInit) (by decide +kernel)
  have oi_c := hts (.code objectInit ⟨#[0xb1]⟩ 1 none) (by decide +kernel)
  have ac0 := hts (.arrayClass .int) (by decide +kernel)
  have fl_9 := hts (.fieldLink RX3 9 "RosterPay" "bases" "[I") (by decide +kernel)
  have in_X3 : ∀ w ∈ u_ws RX3 TX3 5, w ∈ wsX3_init := by decide +kernel
  have ac1 := hts (.arrayClass .boolean) (by decide +kernel)
  have fl_19 := hts (.fieldLink RX3 19 "RosterPay" "holidays" "[Z") (by decide +kernel)
  have nk1 := hts (.classLink RX3 23 RJx4a65c) (by decide +kernel)
  have nk2 := hts (.instantiable RJx4a65c 3) (by decide +kernel)
  have nk3 := hts (.initialized RJx4a65c) (by decide +kernel)
  have in_Jx4a65c : ∀ w ∈ u_ws RJx4a65c TJx4a65c 3, w ∈ wsX3_init := by decide +kernel
  have skla := hts (.initialized RJx4a65c) (by decide +kernel)
  have sklb := hts (.methodLink RX3 25 yJx4a65c_init_da8c8) (by decide +kernel)
  have sklc := hts (.instanceMethod yJx4a65c_init_da8c8) (by decide +kernel)
  have fl_26 := hts (.fieldLink RX3 26 "RosterPay" "rules" "Ljava/util/ArrayList;") (by decide +kernel)
  have fl_30 := hts (.fieldLink RX3 30 "RosterPay" "workers" "Ljava/util/ArrayList;") (by decide +kernel)
  have fl_33 := hts (.fieldLink RX3 33 "RosterPay" "roster" "Ljava/util/ArrayList;") (by decide +kernel)
  have hl := lv_entry ([.ref (α (0))]) (n := 1) (Nat.le_of_ble_eq_true rfl)
  rw [lg_entry_eq]
  generalize (lg_sl ([.ref (α (0))]) ++ List.replicate (1 - (lg_sl ([.ref (α (0))])).length) Slot.unset).toArray = ls at hl ⊢
  have hl : lv_has ls 1 [(0, .ref (α (0)))] := hl
  obtain ⟨a0, e0⟩ : ∃ a, α 0 = a := ⟨_, rfl⟩
  have eq0 := e0
  rw [e0] at hl
  refine lv_aload_n hx hb dX3_init_0 rfl (lv_at hl 0 rfl) ?_
  refine W.objInit hx hb hown oi_l3 oi_i oi_c rfl (by rw [hml]; exact hl.1) rfl dX3_init_1 (Nat.le_of_ble_eq_true rfl) (Nat.le_of_ble_eq_true rfl) ?_
  refine W.eq (g2 := F0 m 4 ls []) rfl ?_
  refine lv_aload_n hx hb dX3_init_4 rfl (lv_at hl 0 rfl) ?_
  refine lv_iconst (v := (4)) hx hb dX3_init_5 (by decide) ?_
  refine mnewI hx hb ac0 hw hS 4 (by decide +kernel) (by decide) 1 (hN 1 (by omega)) (Nat.le_of_ble_eq_true rfl) (Nat.le_of_ble_eq_true rfl) dX3_init_6 (fun α1 H pa hw hS => ?_)
  obtain ⟨V1, hV1⟩ : ∃ z9 : mV, z9 = vup V 1 (.inl (G.2.2.1.1, 4, .inl (fun _ => 0))) := ⟨_, rfl⟩
  have hw : mW G V1 α1 s H := by rw [hV1]; exact hw
  have v1 : V1 1 = some (.inl (G.2.2.1.1, 4, .inl (fun _ => 0))) := by rw [hV1]; exact vup_s _ _ _
  have pv : ∀ j, j ≠ 1 → V1 j = V j := fun j hj => by rw [hV1]; exact vup_n _ _ hj
  have v0 : V1 0 = some (.inr (4, [.null, .null, .null, .null, .null])) := (pv 0 (by decide)).trans v0
  have e0 : α1 0 = a0 := (pa 0 (by decide)).trans e0
  obtain ⟨a1, e1⟩ : ∃ a, α1 1 = a := ⟨_, rfl⟩
  have hN : ∀ j, 2 ≤ j → V1 j = none := fun j hj => (pv j (by omega)).trans (hN j (by omega))
  refine W.eq (g2 := F0 m 8 ls [.ref (a1), .ref (α1 0)]) (by rw [e0, e1]) ?_
  refine mputF (C := RX3) (T := TX3) (N := 5) (ci := 4) hx hb hts in_X3 tyX3 tyX3_ok nmX3 hown hw hS v0 rfl 0 (by decide) fl_9 rfl hin rfl rfl rfl (Nat.le_of_ble_eq_true rfl) dX3_init_8 (fun H locs hw hS => ?_)
  obtain ⟨V2, hV2⟩ : ∃ z9 : mV, z9 = vup V1 0 (.inr (4, [.ref (a1), .null, .null, .null, .null])) := ⟨_, rfl⟩
  have hw : mW G V2 α1 s H := by rw [hV2]; exact hw
  have v0 : V2 0 = some (.inr (4, [.ref (a1), .null, .null, .null, .null])) := by rw [hV2]; exact vup_s _ _ _
  have pv : ∀ j, j ≠ 0 → V2 j = V1 j := fun j hj => by rw [hV2]; exact vup_n _ _ hj
  have v1 : V2 1 = some (.inl (G.2.2.1.1, 4, .inl (fun _ => 0))) := (pv 1 (by decide)).trans v1
  have hN : ∀ j, 2 ≤ j → V2 j = none := fun j hj => (pv j (by omega)).trans (hN j (by omega))
  refine lv_aload_n hx hb dX3_init_11 rfl (lv_at hl 0 rfl) ?_
  refine W.eq (g2 := F0 m 12 ls [.ref (α1 0)]) (by rw [e0]) ?_
  refine mget (C := RX3) (T := TX3) (N := 5) (ci := 4) hx hb hts in_X3 hown hw v0 rfl 0 (by decide) fl_9 rfl dX3_init_12 ?_
  refine lv_sipush (v := (500)) hx hb dX3_init_15 (by decide) ?_
  refine W.eq (g2 := F0 m 18 ls [.int (500), .ref (α1 1)]) (by rw [e1]) ?_
  refine mcallSwv (rest := []) hw ⟨hx, hb, hml, hown, hts⟩ hS (c_fill v1) (va_cwS 2 hts gX3_init_J7_fill_53178 rfl rfl rfl (by decide +kernel) ⟨Nat.le_of_ble_eq_true rfl, Nat.le_of_ble_eq_true rfl⟩) rfl hl.1 rfl (Nat.le_of_ble_eq_true rfl) dX3_init_18 ⟨Nat.le_of_ble_eq_true rfl, Nat.le_of_ble_eq_true rfl⟩ (fun Vf αf H locs hp hw hS => ?_)
  obtain ⟨⟨p1, pv⟩, p2⟩ := hp
  dsimp only at p1 pv p2
  subst p2
  have v1 := p1
  have v0 : Vf 0 = some (.inr (4, [.ref (a1), .null, .null, .null, .null])) := (pv 0 (by decide)).trans v0
  have hN : ∀ j, 2 ≤ j → Vf j = none := fun j hj => (pv j (by omega)).trans (hN j (by omega))
  refine lv_aload_n hx hb dX3_init_21 rfl (lv_at hl 0 rfl) ?_
  refine lv_sipush (v := (364)) hx hb dX3_init_22 (by decide) ?_
  refine mnewZ hx hb ac1 hw hS 364 (by decide +kernel) (by decide) 2 (hN 2 (by omega)) (Nat.le_of_ble_eq_true rfl) (Nat.le_of_ble_eq_true rfl) dX3_init_25 (fun α2 H pa hw hS => ?_)
  obtain ⟨V3, hV3⟩ : ∃ z9 : mV, z9 = vup Vf 2 (.inl (G.2.2.1.2, 364, .inl (fun _ => 0))) := ⟨_, rfl⟩
  have hw : mW G V3 α2 s H := by rw [hV3]; exact hw
  have v2 : V3 2 = some (.inl (G.2.2.1.2, 364, .inl (fun _ => 0))) := by rw [hV3]; exact vup_s _ _ _
  have pv : ∀ j, j ≠ 2 → V3 j = Vf j := fun j hj => by rw [hV3]; exact vup_n _ _ hj
  have v0 : V3 0 = some (.inr (4, [.ref (a1), .null, .null, .null, .null])) := (pv 0 (by decide)).trans v0
  have v1 : V3 1 = some (.inl (G.2.2.1.1, 4, .inl (fb 4))) := (pv 1 (by decide)).trans v1
  have e0 : α2 0 = a0 := (pa 0 (by decide)).trans e0
  have e1 : α2 1 = a1 := (pa 1 (by decide)).trans e1
  obtain ⟨a2, e2⟩ : ∃ a, α2 2 = a := ⟨_, rfl⟩
  have hN : ∀ j, 3 ≤ j → V3 j = none := fun j hj => (pv j (by omega)).trans (hN j (by omega))
  refine W.eq (g2 := F0 m 27 ls [.ref (a2), .ref (α2 0)]) (by rw [e0, e2]) ?_
  refine mputF (C := RX3) (T := TX3) (N := 5) (ci := 4) hx hb hts in_X3 tyX3 tyX3_ok nmX3 hown hw hS v0 rfl 1 (by decide) fl_19 rfl hin rfl rfl rfl (Nat.le_of_ble_eq_true rfl) dX3_init_27 (fun H locs hw hS => ?_)
  obtain ⟨V4, hV4⟩ : ∃ z9 : mV, z9 = vup V3 0 (.inr (4, [.ref (a1), .ref (a2), .null, .null, .null])) := ⟨_, rfl⟩
  have hw : mW G V4 α2 s H := by rw [hV4]; exact hw
  have v0 : V4 0 = some (.inr (4, [.ref (a1), .ref (a2), .null, .null, .null])) := by rw [hV4]; exact vup_s _ _ _
  have pv : ∀ j, j ≠ 0 → V4 j = V3 j := fun j hj => by rw [hV4]; exact vup_n _ _ hj
  have v1 : V4 1 = some (.inl (G.2.2.1.1, 4, .inl (fb 4))) := (pv 1 (by decide)).trans v1
  have v2 : V4 2 = some (.inl (G.2.2.1.2, 364, .inl (fun _ => 0))) := (pv 2 (by decide)).trans v2
  have hN : ∀ j, 3 ≤ j → V4 j = none := fun j hj => (pv j (by omega)).trans (hN j (by omega))
  refine lv_aload_n hx hb dX3_init_30 rfl (lv_at hl 0 rfl) ?_
  refine mnew (C := RJx4a65c) (T := TJx4a65c) (N := 3) (ci := 0) (fs := [.int (0), .null, .int (0)]) hx hb hts in_Jx4a65c tyJx4a65c tyJx4a65c_ok hown nk1 nk2 nk3 hw hS rfl 3 (hN 3 (by omega)) (fun j hj => by rcases (show j = 0 ∨ j = 1 ∨ j = 2 by omega) with rfl | rfl | rfl <;> rfl) (Nat.le_of_ble_eq_true rfl) (Nat.le_of_ble_eq_true rfl) dX3_init_31 (fun α3 H pa hw hS => ?_)
  obtain ⟨V5, hV5⟩ : ∃ z9 : mV, z9 = vup V4 3 (.inr (0, [.int (0), .null, .int (0)])) := ⟨_, rfl⟩
  have hw : mW G V5 α3 s H := by rw [hV5]; exact hw
  have v3 : V5 3 = some (.inr (0, [.int (0), .null, .int (0)])) := by rw [hV5]; exact vup_s _ _ _
  have pv : ∀ j, j ≠ 3 → V5 j = V4 j := fun j hj => by rw [hV5]; exact vup_n _ _ hj
  have v0 : V5 0 = some (.inr (4, [.ref (a1), .ref (a2), .null, .null, .null])) := (pv 0 (by decide)).trans v0
  have v1 : V5 1 = some (.inl (G.2.2.1.1, 4, .inl (fb 4))) := (pv 1 (by decide)).trans v1
  have v2 : V5 2 = some (.inl (G.2.2.1.2, 364, .inl (fun _ => 0))) := (pv 2 (by decide)).trans v2
  have e0 : α3 0 = a0 := (pa 0 (by decide)).trans e0
  have e1 : α3 1 = a1 := (pa 1 (by decide)).trans e1
  have e2 : α3 2 = a2 := (pa 2 (by decide)).trans e2
  obtain ⟨a3, e3⟩ : ∃ a, α3 3 = a := ⟨_, rfl⟩
  have hN : ∀ j, 4 ≤ j → V5 j = none := fun j hj => (pv j (by omega)).trans (hN j (by omega))
  refine lv_dup hx hb dX3_init_34 rfl ?_
  refine mcallIwv (rest := [.ref (α3 3), .ref (a0)]) hw ⟨hx, hb, hml, hown, hts⟩ hS (c_al_init v3) (cwI 0 hts gX3_init_Jx4a65c_init_da8c8 rfl rfl rfl skla sklb sklc rfl (by decide +kernel) ⟨Nat.le_of_ble_eq_true rfl, Nat.le_of_ble_eq_true rfl⟩) rfl hl.1 rfl (Nat.le_of_ble_eq_true rfl) dX3_init_35 ⟨Nat.le_of_ble_eq_true rfl, Nat.le_of_ble_eq_true rfl⟩ (fun W2 α2 H locs hp hw hS => ?_)
  obtain ⟨p1, p2⟩ := hp
  dsimp only at p1 p2
  subst p2
  rw [p1] at hw
  obtain ⟨V6, hV6⟩ : ∃ z9 : mV, z9 = vup V5 3 (.inr (0, [.int (0), .ref (G.1.2), .int (0)])) := ⟨_, rfl⟩
  have hw : mW G V6 α3 s H := by rw [hV6]; exact hw
  have v3 : V6 3 = some (.inr (0, [.int (0), .ref (G.1.2), .int (0)])) := by rw [hV6]; exact vup_s _ _ _
  have pv : ∀ j, j ≠ 3 → V6 j = V5 j := fun j hj => by rw [hV6]; exact vup_n _ _ hj
  have v0 : V6 0 = some (.inr (4, [.ref (a1), .ref (a2), .null, .null, .null])) := (pv 0 (by decide)).trans v0
  have v1 : V6 1 = some (.inl (G.2.2.1.1, 4, .inl (fb 4))) := (pv 1 (by decide)).trans v1
  have v2 : V6 2 = some (.inl (G.2.2.1.2, 364, .inl (fun _ => 0))) := (pv 2 (by decide)).trans v2
  have hN : ∀ j, 4 ≤ j → V6 j = none := fun j hj => (pv j (by omega)).trans (hN j (by omega))
  refine W.eq (g2 := F0 m 38 ls [.ref (a3), .ref (α3 0)]) (by rw [e0, e3]) ?_
  refine mputF (C := RX3) (T := TX3) (N := 5) (ci := 4) hx hb hts in_X3 tyX3 tyX3_ok nmX3 hown hw hS v0 rfl 2 (by decide) fl_26 rfl hin rfl rfl rfl (Nat.le_of_ble_eq_true rfl) dX3_init_38 (fun H locs hw hS => ?_)
  obtain ⟨V7, hV7⟩ : ∃ z9 : mV, z9 = vup V6 0 (.inr (4, [.ref (a1), .ref (a2), .ref (a3), .null, .null])) := ⟨_, rfl⟩
  have hw : mW G V7 α3 s H := by rw [hV7]; exact hw
  have v0 : V7 0 = some (.inr (4, [.ref (a1), .ref (a2), .ref (a3), .null, .null])) := by rw [hV7]; exact vup_s _ _ _
  have pv : ∀ j, j ≠ 0 → V7 j = V6 j := fun j hj => by rw [hV7]; exact vup_n _ _ hj
  have v1 : V7 1 = some (.inl (G.2.2.1.1, 4, .inl (fb 4))) := (pv 1 (by decide)).trans v1
  have v2 : V7 2 = some (.inl (G.2.2.1.2, 364, .inl (fun _ => 0))) := (pv 2 (by decide)).trans v2
  have v3 : V7 3 = some (.inr (0, [.int (0), .ref (G.1.2), .int (0)])) := (pv 3 (by decide)).trans v3
  have hN : ∀ j, 4 ≤ j → V7 j = none := fun j hj => (pv j (by omega)).trans (hN j (by omega))
  refine lv_aload_n hx hb dX3_init_41 rfl (lv_at hl 0 rfl) ?_
  refine mnew (C := RJx4a65c) (T := TJx4a65c) (N := 3) (ci := 0) (fs := [.int (0), .null, .int (0)]) hx hb hts in_Jx4a65c tyJx4a65c tyJx4a65c_ok hown nk1 nk2 nk3 hw hS rfl 4 (hN 4 (by omega)) (fun j hj => by rcases (show j = 0 ∨ j = 1 ∨ j = 2 by omega) with rfl | rfl | rfl <;> rfl) (Nat.le_of_ble_eq_true rfl) (Nat.le_of_ble_eq_true rfl) dX3_init_42 (fun α4 H pa hw hS => ?_)
  obtain ⟨V8, hV8⟩ : ∃ z9 : mV, z9 = vup V7 4 (.inr (0, [.int (0), .null, .int (0)])) := ⟨_, rfl⟩
  have hw : mW G V8 α4 s H := by rw [hV8]; exact hw
  have v4 : V8 4 = some (.inr (0, [.int (0), .null, .int (0)])) := by rw [hV8]; exact vup_s _ _ _
  have pv : ∀ j, j ≠ 4 → V8 j = V7 j := fun j hj => by rw [hV8]; exact vup_n _ _ hj
  have v0 : V8 0 = some (.inr (4, [.ref (a1), .ref (a2), .ref (a3), .null, .null])) := (pv 0 (by decide)).trans v0
  have v1 : V8 1 = some (.inl (G.2.2.1.1, 4, .inl (fb 4))) := (pv 1 (by decide)).trans v1
  have v2 : V8 2 = some (.inl (G.2.2.1.2, 364, .inl (fun _ => 0))) := (pv 2 (by decide)).trans v2
  have v3 : V8 3 = some (.inr (0, [.int (0), .ref (G.1.2), .int (0)])) := (pv 3 (by decide)).trans v3
  have e0 : α4 0 = a0 := (pa 0 (by decide)).trans e0
  have e1 : α4 1 = a1 := (pa 1 (by decide)).trans e1
  have e2 : α4 2 = a2 := (pa 2 (by decide)).trans e2
  have e3 : α4 3 = a3 := (pa 3 (by decide)).trans e3
  obtain ⟨a4, e4⟩ : ∃ a, α4 4 = a := ⟨_, rfl⟩
  have hN : ∀ j, 5 ≤ j → V8 j = none := fun j hj => (pv j (by omega)).trans (hN j (by omega))
  refine lv_dup hx hb dX3_init_45 rfl ?_
  refine mcallIwv (rest := [.ref (α4 4), .ref (a0)]) hw ⟨hx, hb, hml, hown, hts⟩ hS (c_al_init v4) (cwI 0 hts gX3_init_Jx4a65c_init_da8c8 rfl rfl rfl skla sklb sklc rfl (by decide +kernel) ⟨Nat.le_of_ble_eq_true rfl, Nat.le_of_ble_eq_true rfl⟩) rfl hl.1 rfl (Nat.le_of_ble_eq_true rfl) dX3_init_46 ⟨Nat.le_of_ble_eq_true rfl, Nat.le_of_ble_eq_true rfl⟩ (fun W2 α2 H locs hp hw hS => ?_)
  obtain ⟨p1, p2⟩ := hp
  dsimp only at p1 p2
  subst p2
  rw [p1] at hw
  obtain ⟨V9, hV9⟩ : ∃ z9 : mV, z9 = vup V8 4 (.inr (0, [.int (0), .ref (G.1.2), .int (0)])) := ⟨_, rfl⟩
  have hw : mW G V9 α4 s H := by rw [hV9]; exact hw
  have v4 : V9 4 = some (.inr (0, [.int (0), .ref (G.1.2), .int (0)])) := by rw [hV9]; exact vup_s _ _ _
  have pv : ∀ j, j ≠ 4 → V9 j = V8 j := fun j hj => by rw [hV9]; exact vup_n _ _ hj
  have v0 : V9 0 = some (.inr (4, [.ref (a1), .ref (a2), .ref (a3), .null, .null])) := (pv 0 (by decide)).trans v0
  have v1 : V9 1 = some (.inl (G.2.2.1.1, 4, .inl (fb 4))) := (pv 1 (by decide)).trans v1
  have v2 : V9 2 = some (.inl (G.2.2.1.2, 364, .inl (fun _ => 0))) := (pv 2 (by decide)).trans v2
  have v3 : V9 3 = some (.inr (0, [.int (0), .ref (G.1.2), .int (0)])) := (pv 3 (by decide)).trans v3
  have hN : ∀ j, 5 ≤ j → V9 j = none := fun j hj => (pv j (by omega)).trans (hN j (by omega))
  refine W.eq (g2 := F0 m 49 ls [.ref (a4), .ref (α4 0)]) (by rw [e0, e4]) ?_
  refine mputF (C := RX3) (T := TX3) (N := 5) (ci := 4) hx hb hts in_X3 tyX3 tyX3_ok nmX3 hown hw hS v0 rfl 3 (by decide) fl_30 rfl hin rfl rfl rfl (Nat.le_of_ble_eq_true rfl) dX3_init_49 (fun H locs hw hS => ?_)
  obtain ⟨V10, hV10⟩ : ∃ z9 : mV, z9 = vup V9 0 (.inr (4, [.ref (a1), .ref (a2), .ref (a3), .ref (a4), .null])) := ⟨_, rfl⟩
  have hw : mW G V10 α4 s H := by rw [hV10]; exact hw
  have v0 : V10 0 = some (.inr (4, [.ref (a1), .ref (a2), .ref (a3), .ref (a4), .null])) := by rw [hV10]; exact vup_s _ _ _
  have pv : ∀ j, j ≠ 0 → V10 j = V9 j := fun j hj => by rw [hV10]; exact vup_n _ _ hj
  have v1 : V10 1 = some (.inl (G.2.2.1.1, 4, .inl (fb 4))) := (pv 1 (by decide)).trans v1
  have v2 : V10 2 = some (.inl (G.2.2.1.2, 364, .inl (fun _ => 0))) := (pv 2 (by decide)).trans v2
  have v3 : V10 3 = some (.inr (0, [.int (0), .ref (G.1.2), .int (0)])) := (pv 3 (by decide)).trans v3
  have v4 : V10 4 = some (.inr (0, [.int (0), .ref (G.1.2), .int (0)])) := (pv 4 (by decide)).trans v4
  have hN : ∀ j, 5 ≤ j → V10 j = none := fun j hj => (pv j (by omega)).trans (hN j (by omega))
  refine lv_aload_n hx hb dX3_init_52 rfl (lv_at hl 0 rfl) ?_
  refine mnew (C := RJx4a65c) (T := TJx4a65c) (N := 3) (ci := 0) (fs := [.int (0), .null, .int (0)]) hx hb hts in_Jx4a65c tyJx4a65c tyJx4a65c_ok hown nk1 nk2 nk3 hw hS rfl 5 (hN 5 (by omega)) (fun j hj => by rcases (show j = 0 ∨ j = 1 ∨ j = 2 by omega) with rfl | rfl | rfl <;> rfl) (Nat.le_of_ble_eq_true rfl) (Nat.le_of_ble_eq_true rfl) dX3_init_53 (fun α5 H pa hw hS => ?_)
  obtain ⟨V11, hV11⟩ : ∃ z9 : mV, z9 = vup V10 5 (.inr (0, [.int (0), .null, .int (0)])) := ⟨_, rfl⟩
  have hw : mW G V11 α5 s H := by rw [hV11]; exact hw
  have v5 : V11 5 = some (.inr (0, [.int (0), .null, .int (0)])) := by rw [hV11]; exact vup_s _ _ _
  have pv : ∀ j, j ≠ 5 → V11 j = V10 j := fun j hj => by rw [hV11]; exact vup_n _ _ hj
  have v0 : V11 0 = some (.inr (4, [.ref (a1), .ref (a2), .ref (a3), .ref (a4), .null])) := (pv 0 (by decide)).trans v0
  have v1 : V11 1 = some (.inl (G.2.2.1.1, 4, .inl (fb 4))) := (pv 1 (by decide)).trans v1
  have v2 : V11 2 = some (.inl (G.2.2.1.2, 364, .inl (fun _ => 0))) := (pv 2 (by decide)).trans v2
  have v3 : V11 3 = some (.inr (0, [.int (0), .ref (G.1.2), .int (0)])) := (pv 3 (by decide)).trans v3
  have v4 : V11 4 = some (.inr (0, [.int (0), .ref (G.1.2), .int (0)])) := (pv 4 (by decide)).trans v4
  have e0 : α5 0 = a0 := (pa 0 (by decide)).trans e0
  have e1 : α5 1 = a1 := (pa 1 (by decide)).trans e1
  have e2 : α5 2 = a2 := (pa 2 (by decide)).trans e2
  have e3 : α5 3 = a3 := (pa 3 (by decide)).trans e3
  have e4 : α5 4 = a4 := (pa 4 (by decide)).trans e4
  obtain ⟨a5, e5⟩ : ∃ a, α5 5 = a := ⟨_, rfl⟩
  have hN : ∀ j, 6 ≤ j → V11 j = none := fun j hj => (pv j (by omega)).trans (hN j (by omega))
  refine lv_dup hx hb dX3_init_56 rfl ?_
  refine mcallIwv (rest := [.ref (α5 5), .ref (a0)]) hw ⟨hx, hb, hml, hown, hts⟩ hS (c_al_init v5) (cwI 0 hts gX3_init_Jx4a65c_init_da8c8 rfl rfl rfl skla sklb sklc rfl (by decide +kernel) ⟨Nat.le_of_ble_eq_true rfl, Nat.le_of_ble_eq_true rfl⟩) rfl hl.1 rfl (Nat.le_of_ble_eq_true rfl) dX3_init_57 ⟨Nat.le_of_ble_eq_true rfl, Nat.le_of_ble_eq_true rfl⟩ (fun W2 α2 H locs hp hw hS => ?_)
  obtain ⟨p1, p2⟩ := hp
  dsimp only at p1 p2
  subst p2
  rw [p1] at hw
  obtain ⟨V12, hV12⟩ : ∃ z9 : mV, z9 = vup V11 5 (.inr (0, [.int (0), .ref (G.1.2), .int (0)])) := ⟨_, rfl⟩
  have hw : mW G V12 α5 s H := by rw [hV12]; exact hw
  have v5 : V12 5 = some (.inr (0, [.int (0), .ref (G.1.2), .int (0)])) := by rw [hV12]; exact vup_s _ _ _
  have pv : ∀ j, j ≠ 5 → V12 j = V11 j := fun j hj => by rw [hV12]; exact vup_n _ _ hj
  have v0 : V12 0 = some (.inr (4, [.ref (a1), .ref (a2), .ref (a3), .ref (a4), .null])) := (pv 0 (by decide)).trans v0
  have v1 : V12 1 = some (.inl (G.2.2.1.1, 4, .inl (fb 4))) := (pv 1 (by decide)).trans v1
  have v2 : V12 2 = some (.inl (G.2.2.1.2, 364, .inl (fun _ => 0))) := (pv 2 (by decide)).trans v2
  have v3 : V12 3 = some (.inr (0, [.int (0), .ref (G.1.2), .int (0)])) := (pv 3 (by decide)).trans v3
  have v4 : V12 4 = some (.inr (0, [.int (0), .ref (G.1.2), .int (0)])) := (pv 4 (by decide)).trans v4
  have hN : ∀ j, 6 ≤ j → V12 j = none := fun j hj => (pv j (by omega)).trans (hN j (by omega))
  refine W.eq (g2 := F0 m 60 ls [.ref (a5), .ref (α5 0)]) (by rw [e0, e5]) ?_
  refine mputF (C := RX3) (T := TX3) (N := 5) (ci := 4) hx hb hts in_X3 tyX3 tyX3_ok nmX3 hown hw hS v0 rfl 4 (by decide) fl_33 rfl hin rfl rfl rfl (Nat.le_of_ble_eq_true rfl) dX3_init_60 (fun H locs hw hS => ?_)
  obtain ⟨V13, hV13⟩ : ∃ z9 : mV, z9 = vup V12 0 (.inr (4, [.ref (a1), .ref (a2), .ref (a3), .ref (a4), .ref (a5)])) := ⟨_, rfl⟩
  have hw : mW G V13 α5 s H := by rw [hV13]; exact hw
  have v0 : V13 0 = some (.inr (4, [.ref (a1), .ref (a2), .ref (a3), .ref (a4), .ref (a5)])) := by rw [hV13]; exact vup_s _ _ _
  have pv : ∀ j, j ≠ 0 → V13 j = V12 j := fun j hj => by rw [hV13]; exact vup_n _ _ hj
  have v1 : V13 1 = some (.inl (G.2.2.1.1, 4, .inl (fb 4))) := (pv 1 (by decide)).trans v1
  have v2 : V13 2 = some (.inl (G.2.2.1.2, 364, .inl (fun _ => 0))) := (pv 2 (by decide)).trans v2
  have v3 : V13 3 = some (.inr (0, [.int (0), .ref (G.1.2), .int (0)])) := (pv 3 (by decide)).trans v3
  have v4 : V13 4 = some (.inr (0, [.int (0), .ref (G.1.2), .int (0)])) := (pv 4 (by decide)).trans v4
  have v5 : V13 5 = some (.inr (0, [.int (0), .ref (G.1.2), .int (0)])) := (pv 5 (by decide)).trans v5
  have hN : ∀ j, 6 ≤ j → V13 j = none := fun j hj => (pv j (by omega)).trans (hN j (by omega))
  refine W.widen (k := 5) (n := 377) (by decide) (by decide) ?_
  have hCo : mC G V13 α5 f00 0 0 0 := ⟨by rw [v0]; unfold cobj; rw [e1, e2, e3, e4, e5], v1, v2, ⟨0, 0, fun _ => none, Nat.le_refl _, by omega, fun c hc => hN _ (by omega), Or.inl ⟨rfl, rfl, v3⟩⟩, ⟨0, 0, fun _ => none, Nat.le_refl _, by omega, fun c hc => hN _ (by omega), Or.inl ⟨rfl, rfl, v4⟩⟩, ⟨0, 0, fun _ => none, Nat.le_refl _, by omega, fun c hc => hN _ (by omega), Or.inl ⟨rfl, rfl, v5⟩⟩, fun k hk => by omega, fun k hk => by omega, fun k hk => by omega, fun k _ _ => hN _ (by omega), fun k _ _ => hN _ (by omega), fun k _ _ => hN _ (by omega)⟩
  exact W.vret hx hb hr (fun t ht hW => ⟨⟨(V13, α5), rfl, ⟨hCo, hN, e0.trans eq0.symm⟩, by show mH G V13 α5 t.heap; rw [ht]; exact hw.2.2⟩, hS.F ht⟩) hS.2.2 dX3_init_63

set_option maxHeartbeats 4000000 in
set_option maxRecDepth 100000 in
theorem c_X4_init {l : Launch} {G : mG} {V : mV} {α : Nat → Nat} (v10 : V 10 = some (.inr (5, [.null, .int (0), .null, .null, .null, .null, .null, .null, .null, .int (0), .null, .int (0), .null, .null, .null, .null, .null, .int (0)]))) (hN : ∀ j, 11 ≤ j → j < 25 → V j = none) : Met l yX4_init wsX4_init ({ frames := 1, cells := 14, slots := 877, locals := 40 }) (va_Pc [.ref (α (10))] (fun U => mW G V α U U.heap)) (va_Qv (fun (u : mV × (Nat → Nat)) => mM G u.1 u.2 f00 0 0 0 0 ∧ (∀ j, ¬ (10 ≤ j ∧ j < 25) → u.1 j = V j) ∧ ∀ j, ¬ (11 ≤ j ∧ j < 25) → u.2 j = α j) (fun u t => mH G u.1 u.2 t.heap) (mfree G)) 14 877 (mfree G) := by
  refine Met.ofW (cc := cX4_init) (maxL := 2) (ret := none) (by decide) rfl ?_
  intro p e s m args below meth c s₁ B hml hv
  obtain ⟨rfl, hw⟩ := hv
  have hw0 := hw
  have hx := B.exec
  have hb := B.bytes
  have hr := B.returns
  have hts := atoms_spec (ws := wsX4_init) B.pre
  have hown : s.vm.findClass RX4 = some m.cls := findClass_of_methodNamed B.named
  have hlocks := B.notSynchronized
  have hS : va_S (mfree G) s.heap s.heap [] := va_S.rf
  have hin : meth.name = "<init>" := (name_of_methodNamed B.named B.method).1
  have oi_l1 := hts (.methodLink RX4 1 objectInit) (by decide +kernel)
  have oi_i := hts (.instanceMethod objectInit) (by decide +kernel)
  have oi_c := hts (.code objectInit ⟨#[0xb1]⟩ 1 none) (by decide +kernel)
  have ac0 := hts (.arrayClass .int) (by decide +kernel)
  have fl_7 := hts (.fieldLink RX4 7 "RosterPayModel" "base" "[I") (by decide +kernel)
  have in_X4 : ∀ w ∈ u_ws RX4 TX4 18, w ∈ wsX4_init := by decide +kernel
  have fl_13 := hts (.fieldLink RX4 13 "RosterPayModel" "weekdays" "[I") (by decide +kernel)
  have fl_16 := hts (.fieldLink RX4 16 "RosterPayModel" "from" "[I") (by decide +kernel)
  have fl_19 := hts (.fieldLink RX4 19 "RosterPayModel" "to" "[I") (by decide +kernel)
  have fl_22 := hts (.fieldLink RX4 22 "RosterPayModel" "ranks" "[I") (by decide +kernel)
  have fl_25 := hts (.fieldLink RX4 25 "RosterPayModel" "percent" "[I") (by decide +kernel)
  have ac1 := hts (.arrayClass .boolean) (by decide +kernel)
  have fl_28 := hts (.fieldLink RX4 28 "RosterPayModel" "off" "[Z") (by decide +kernel)
  have fl_32 := hts (.fieldLink RX4 32 "RosterPayModel" "holiday" "[Z") (by decide +kernel)
  have fl_35 := hts (.fieldLink RX4 35 "RosterPayModel" "rank" "[I") (by decide +kernel)
  have fl_38 := hts (.fieldLink RX4 38 "RosterPayModel" "by" "[I") (by decide +kernel)
  have fl_41 := hts (.fieldLink RX4 41 "RosterPayModel" "start" "[I") (by decide +kernel)
  have fl_44 := hts (.fieldLink RX4 44 "RosterPayModel" "length" "[I") (by decide +kernel)
  have fl_47 := hts (.fieldLink RX4 47 "RosterPayModel" "taken" "[I") (by decide +kernel)
  have fl_50 := hts (.fieldLink RX4 50 "RosterPayModel" "gone" "[Z") (by decide +kernel)
  have hl := lv_entry ([.ref (α (10))]) (n := 2) (Nat.le_of_ble_eq_true rfl)
  rw [lg_entry_eq]
  generalize (lg_sl ([.ref (α (10))]) ++ List.replicate (2 - (lg_sl ([.ref (α (10))])).length) Slot.unset).toArray = ls at hl ⊢
  have hl : lv_has ls 2 [(0, .ref (α (10)))] := hl
  obtain ⟨a10, e10⟩ : ∃ a, α 10 = a := ⟨_, rfl⟩
  rw [e10] at hl
  have hVo : ∀ j, ¬ (10 ≤ j ∧ j < 25) → V j = V j := fun j _ => rfl
  have hαo : ∀ j, ¬ (11 ≤ j ∧ j < 25) → α j = α j := fun j _ => rfl
  refine lv_aload_n hx hb dX4_init_0 rfl (lv_at hl 0 rfl) ?_
  refine W.objInit hx hb hown oi_l1 oi_i oi_c rfl (by rw [hml]; exact hl.1) rfl dX4_init_1 (Nat.le_of_ble_eq_true rfl) (Nat.le_of_ble_eq_true rfl) ?_
  refine W.eq (g2 := F0 m 4 ls []) rfl ?_
  refine lv_aload_n hx hb dX4_init_4 rfl (lv_at hl 0 rfl) ?_
  refine lv_iconst (v := (4)) hx hb dX4_init_5 (by decide) ?_
  refine mnewI hx hb ac0 hw hS 4 (by decide +kernel) (by decide) 11 (hN 11 (by omega) (by omega)) (Nat.le_of_ble_eq_true rfl) (Nat.le_of_ble_eq_true rfl) dX4_init_6 (fun α11 H pa hw hS => ?_)
  obtain ⟨V1, hV1⟩ : ∃ z9 : mV, z9 = vup V 11 (.inl (G.2.2.1.1, 4, .inl (fun _ => 0))) := ⟨_, rfl⟩
  have hw : mW G V1 α11 s H := by rw [hV1]; exact hw
  have v11 : V1 11 = some (.inl (G.2.2.1.1, 4, .inl (fun _ => 0))) := by rw [hV1]; exact vup_s _ _ _
  have pv : ∀ j, j ≠ 11 → V1 j = V j := fun j hj => by rw [hV1]; exact vup_n _ _ hj
  have v10 : V1 10 = some (.inr (5, [.null, .int (0), .null, .null, .null, .null, .null, .null, .null, .int (0), .null, .int (0), .null, .null, .null, .null, .null, .int (0)])) := (pv 10 (by decide)).trans v10
  have e10 : α11 10 = a10 := (pa 10 (by decide)).trans e10
  obtain ⟨a11, e11⟩ : ∃ a, α11 11 = a := ⟨_, rfl⟩
  have hαo : ∀ j, ¬ (11 ≤ j ∧ j < 25) → α11 j = α j := fun j hj => (pa j (by omega)).trans (hαo j hj)
  have hN : ∀ j, 12 ≤ j → j < 25 → V1 j = none := fun j hj hj2 => (pv j (by omega)).trans (hN j (by omega) hj2)
  have hVo : ∀ j, ¬ (10 ≤ j ∧ j < 25) → V1 j = V j := fun j hj => (pv j (by omega)).trans (hVo j hj)
  refine W.eq (g2 := F0 m 8 ls [.ref (a11), .ref (α11 10)]) (by rw [e10, e11]) ?_
  refine mputF (C := RX4) (T := TX4) (N := 18) (ci := 5) hx hb hts in_X4 tyX4 tyX4_ok nmX4 hown hw hS v10 rfl 0 (by decide) fl_7 rfl hin rfl rfl rfl (Nat.le_of_ble_eq_true rfl) dX4_init_8 (fun H locs hw hS => ?_)
  obtain ⟨V2, hV2⟩ : ∃ z9 : mV, z9 = vup V1 10 (.inr (5, [.ref (a11), .int (0), .null, .null, .null, .null, .null, .null, .null, .int (0), .null, .int (0), .null, .null, .null, .null, .null, .int (0)])) := ⟨_, rfl⟩
  have hw : mW G V2 α11 s H := by rw [hV2]; exact hw
  have v10 : V2 10 = some (.inr (5, [.ref (a11), .int (0), .null, .null, .null, .null, .null, .null, .null, .int (0), .null, .int (0), .null, .null, .null, .null, .null, .int (0)])) := by rw [hV2]; exact vup_s _ _ _
  have pv : ∀ j, j ≠ 10 → V2 j = V1 j := fun j hj => by rw [hV2]; exact vup_n _ _ hj
  have v11 : V2 11 = some (.inl (G.2.2.1.1, 4, .inl (fun _ => 0))) := (pv 11 (by decide)).trans v11
  have hN : ∀ j, 12 ≤ j → j < 25 → V2 j = none := fun j hj hj2 => (pv j (by omega)).trans (hN j (by omega) hj2)
  have hVo : ∀ j, ¬ (10 ≤ j ∧ j < 25) → V2 j = V j := fun j hj => (pv j (by omega)).trans (hVo j hj)
  refine lv_aload_n hx hb dX4_init_11 rfl (lv_at hl 0 rfl) ?_
  refine lv_bipush (v := (16)) hx hb dX4_init_12 (by decide) ?_
  refine mnewI hx hb ac0 hw hS 16 (by decide +kernel) (by decide) 12 (hN 12 (by omega) (by omega)) (Nat.le_of_ble_eq_true rfl) (Nat.le_of_ble_eq_true rfl) dX4_init_14 (fun α12 H pa hw hS => ?_)
  obtain ⟨V3, hV3⟩ : ∃ z9 : mV, z9 = vup V2 12 (.inl (G.2.2.1.1, 16, .inl (fun _ => 0))) := ⟨_, rfl⟩
  have hw : mW G V3 α12 s H := by rw [hV3]; exact hw
  have v12 : V3 12 = some (.inl (G.2.2.1.1, 16, .inl (fun _ => 0))) := by rw [hV3]; exact vup_s _ _ _
  have pv : ∀ j, j ≠ 12 → V3 j = V2 j := fun j hj => by rw [hV3]; exact vup_n _ _ hj
  have v10 : V3 10 = some (.inr (5, [.ref (a11), .int (0), .null, .null, .null, .null, .null, .null, .null, .int (0), .null, .int (0), .null, .null, .null, .null, .null, .int (0)])) := (pv 10 (by decide)).trans v10
  have v11 : V3 11 = some (.inl (G.2.2.1.1, 4, .inl (fun _ => 0))) := (pv 11 (by decide)).trans v11
  have e10 : α12 10 = a10 := (pa 10 (by decide)).trans e10
  have e11 : α12 11 = a11 := (pa 11 (by decide)).trans e11
  obtain ⟨a12, e12⟩ : ∃ a, α12 12 = a := ⟨_, rfl⟩
  have hαo : ∀ j, ¬ (11 ≤ j ∧ j < 25) → α12 j = α j := fun j hj => (pa j (by omega)).trans (hαo j hj)
  have hN : ∀ j, 13 ≤ j → j < 25 → V3 j = none := fun j hj hj2 => (pv j (by omega)).trans (hN j (by omega) hj2)
  have hVo : ∀ j, ¬ (10 ≤ j ∧ j < 25) → V3 j = V j := fun j hj => (pv j (by omega)).trans (hVo j hj)
  refine W.eq (g2 := F0 m 16 ls [.ref (a12), .ref (α12 10)]) (by rw [e10, e12]) ?_
  refine mputF (C := RX4) (T := TX4) (N := 18) (ci := 5) hx hb hts in_X4 tyX4 tyX4_ok nmX4 hown hw hS v10 rfl 2 (by decide) fl_13 rfl hin rfl rfl rfl (Nat.le_of_ble_eq_true rfl) dX4_init_16 (fun H locs hw hS => ?_)
  obtain ⟨V4, hV4⟩ : ∃ z9 : mV, z9 = vup V3 10 (.inr (5, [.ref (a11), .int (0), .ref (a12), .null, .null, .null, .null, .null, .null, .int (0), .null, .int (0), .null, .null, .null, .null, .null, .int (0)])) := ⟨_, rfl⟩
  have hw : mW G V4 α12 s H := by rw [hV4]; exact hw
  have v10 : V4 10 = some (.inr (5, [.ref (a11), .int (0), .ref (a12), .null, .null, .null, .null, .null, .null, .int (0), .null, .int (0), .null, .null, .null, .null, .null, .int (0)])) := by rw [hV4]; exact vup_s _ _ _
  have pv : ∀ j, j ≠ 10 → V4 j = V3 j := fun j hj => by rw [hV4]; exact vup_n _ _ hj
  have v11 : V4 11 = some (.inl (G.2.2.1.1, 4, .inl (fun _ => 0))) := (pv 11 (by decide)).trans v11
  have v12 : V4 12 = some (.inl (G.2.2.1.1, 16, .inl (fun _ => 0))) := (pv 12 (by decide)).trans v12
  have hN : ∀ j, 13 ≤ j → j < 25 → V4 j = none := fun j hj hj2 => (pv j (by omega)).trans (hN j (by omega) hj2)
  have hVo : ∀ j, ¬ (10 ≤ j ∧ j < 25) → V4 j = V j := fun j hj => (pv j (by omega)).trans (hVo j hj)
  refine lv_aload_n hx hb dX4_init_19 rfl (lv_at hl 0 rfl) ?_
  refine lv_bipush (v := (16)) hx hb dX4_init_20 (by decide) ?_
  refine mnewI hx hb ac0 hw hS 16 (by decide +kernel) (by decide) 13 (hN 13 (by omega) (by omega)) (Nat.le_of_ble_eq_true rfl) (Nat.le_of_ble_eq_true rfl) dX4_init_22 (fun α13 H pa hw hS => ?_)
  obtain ⟨V5, hV5⟩ : ∃ z9 : mV, z9 = vup V4 13 (.inl (G.2.2.1.1, 16, .inl (fun _ => 0))) := ⟨_, rfl⟩
  have hw : mW G V5 α13 s H := by rw [hV5]; exact hw
  have v13 : V5 13 = some (.inl (G.2.2.1.1, 16, .inl (fun _ => 0))) := by rw [hV5]; exact vup_s _ _ _
  have pv : ∀ j, j ≠ 13 → V5 j = V4 j := fun j hj => by rw [hV5]; exact vup_n _ _ hj
  have v10 : V5 10 = some (.inr (5, [.ref (a11), .int (0), .ref (a12), .null, .null, .null, .null, .null, .null, .int (0), .null, .int (0), .null, .null, .null, .null, .null, .int (0)])) := (pv 10 (by decide)).trans v10
  have v11 : V5 11 = some (.inl (G.2.2.1.1, 4, .inl (fun _ => 0))) := (pv 11 (by decide)).trans v11
  have v12 : V5 12 = some (.inl (G.2.2.1.1, 16, .inl (fun _ => 0))) := (pv 12 (by decide)).trans v12
  have e10 : α13 10 = a10 := (pa 10 (by decide)).trans e10
  have e11 : α13 11 = a11 := (pa 11 (by decide)).trans e11
  have e12 : α13 12 = a12 := (pa 12 (by decide)).trans e12
  obtain ⟨a13, e13⟩ : ∃ a, α13 13 = a := ⟨_, rfl⟩
  have hαo : ∀ j, ¬ (11 ≤ j ∧ j < 25) → α13 j = α j := fun j hj => (pa j (by omega)).trans (hαo j hj)
  have hN : ∀ j, 14 ≤ j → j < 25 → V5 j = none := fun j hj hj2 => (pv j (by omega)).trans (hN j (by omega) hj2)
  have hVo : ∀ j, ¬ (10 ≤ j ∧ j < 25) → V5 j = V j := fun j hj => (pv j (by omega)).trans (hVo j hj)
  refine W.eq (g2 := F0 m 24 ls [.ref (a13), .ref (α13 10)]) (by rw [e10, e13]) ?_
  refine mputF (C := RX4) (T := TX4) (N := 18) (ci := 5) hx hb hts in_X4 tyX4 tyX4_ok nmX4 hown hw hS v10 rfl 3 (by decide) fl_16 rfl hin rfl rfl rfl (Nat.le_of_ble_eq_true rfl) dX4_init_24 (fun H locs hw hS => ?_)
  obtain ⟨V6, hV6⟩ : ∃ z9 : mV, z9 = vup V5 10 (.inr (5, [.ref (a11), .int (0), .ref (a12), .ref (a13), .null, .null, .null, .null, .null, .int (0), .null, .int (0), .null, .null, .null, .null, .null, .int (0)])) := ⟨_, rfl⟩
  have hw : mW G V6 α13 s H := by rw [hV6]; exact hw
  have v10 : V6 10 = some (.inr (5, [.ref (a11), .int (0), .ref (a12), .ref (a13), .null, .null, .null, .null, .null, .int (0), .null, .int (0), .null, .null, .null, .null, .null, .int (0)])) := by rw [hV6]; exact vup_s _ _ _
  have pv : ∀ j, j ≠ 10 → V6 j = V5 j := fun j hj => by rw [hV6]; exact vup_n _ _ hj
  have v11 : V6 11 = some (.inl (G.2.2.1.1, 4, .inl (fun _ => 0))) := (pv 11 (by decide)).trans v11
  have v12 : V6 12 = some (.inl (G.2.2.1.1, 16, .inl (fun _ => 0))) := (pv 12 (by decide)).trans v12
  have v13 : V6 13 = some (.inl (G.2.2.1.1, 16, .inl (fun _ => 0))) := (pv 13 (by decide)).trans v13
  have hN : ∀ j, 14 ≤ j → j < 25 → V6 j = none := fun j hj hj2 => (pv j (by omega)).trans (hN j (by omega) hj2)
  have hVo : ∀ j, ¬ (10 ≤ j ∧ j < 25) → V6 j = V j := fun j hj => (pv j (by omega)).trans (hVo j hj)
  refine lv_aload_n hx hb dX4_init_27 rfl (lv_at hl 0 rfl) ?_
  refine lv_bipush (v := (16)) hx hb dX4_init_28 (by decide) ?_
  refine mnewI hx hb ac0 hw hS 16 (by decide +kernel) (by decide) 14 (hN 14 (by omega) (by omega)) (Nat.le_of_ble_eq_true rfl) (Nat.le_of_ble_eq_true rfl) dX4_init_30 (fun α14 H pa hw hS => ?_)
  obtain ⟨V7, hV7⟩ : ∃ z9 : mV, z9 = vup V6 14 (.inl (G.2.2.1.1, 16, .inl (fun _ => 0))) := ⟨_, rfl⟩
  have hw : mW G V7 α14 s H := by rw [hV7]; exact hw
  have v14 : V7 14 = some (.inl (G.2.2.1.1, 16, .inl (fun _ => 0))) := by rw [hV7]; exact vup_s _ _ _
  have pv : ∀ j, j ≠ 14 → V7 j = V6 j := fun j hj => by rw [hV7]; exact vup_n _ _ hj
  have v10 : V7 10 = some (.inr (5, [.ref (a11), .int (0), .ref (a12), .ref (a13), .null, .null, .null, .null, .null, .int (0), .null, .int (0), .null, .null, .null, .null, .null, .int (0)])) := (pv 10 (by decide)).trans v10
  have v11 : V7 11 = some (.inl (G.2.2.1.1, 4, .inl (fun _ => 0))) := (pv 11 (by decide)).trans v11
  have v12 : V7 12 = some (.inl (G.2.2.1.1, 16, .inl (fun _ => 0))) := (pv 12 (by decide)).trans v12
  have v13 : V7 13 = some (.inl (G.2.2.1.1, 16, .inl (fun _ => 0))) := (pv 13 (by decide)).trans v13
  have e10 : α14 10 = a10 := (pa 10 (by decide)).trans e10
  have e11 : α14 11 = a11 := (pa 11 (by decide)).trans e11
  have e12 : α14 12 = a12 := (pa 12 (by decide)).trans e12
  have e13 : α14 13 = a13 := (pa 13 (by decide)).trans e13
  obtain ⟨a14, e14⟩ : ∃ a, α14 14 = a := ⟨_, rfl⟩
  have hαo : ∀ j, ¬ (11 ≤ j ∧ j < 25) → α14 j = α j := fun j hj => (pa j (by omega)).trans (hαo j hj)
  have hN : ∀ j, 15 ≤ j → j < 25 → V7 j = none := fun j hj hj2 => (pv j (by omega)).trans (hN j (by omega) hj2)
  have hVo : ∀ j, ¬ (10 ≤ j ∧ j < 25) → V7 j = V j := fun j hj => (pv j (by omega)).trans (hVo j hj)
  refine W.eq (g2 := F0 m 32 ls [.ref (a14), .ref (α14 10)]) (by rw [e10, e14]) ?_
  refine mputF (C := RX4) (T := TX4) (N := 18) (ci := 5) hx hb hts in_X4 tyX4 tyX4_ok nmX4 hown hw hS v10 rfl 4 (by decide) fl_19 rfl hin rfl rfl rfl (Nat.le_of_ble_eq_true rfl) dX4_init_32 (fun H locs hw hS => ?_)
  obtain ⟨V8, hV8⟩ : ∃ z9 : mV, z9 = vup V7 10 (.inr (5, [.ref (a11), .int (0), .ref (a12), .ref (a13), .ref (a14), .null, .null, .null, .null, .int (0), .null, .int (0), .null, .null, .null, .null, .null, .int (0)])) := ⟨_, rfl⟩
  have hw : mW G V8 α14 s H := by rw [hV8]; exact hw
  have v10 : V8 10 = some (.inr (5, [.ref (a11), .int (0), .ref (a12), .ref (a13), .ref (a14), .null, .null, .null, .null, .int (0), .null, .int (0), .null, .null, .null, .null, .null, .int (0)])) := by rw [hV8]; exact vup_s _ _ _
  have pv : ∀ j, j ≠ 10 → V8 j = V7 j := fun j hj => by rw [hV8]; exact vup_n _ _ hj
  have v11 : V8 11 = some (.inl (G.2.2.1.1, 4, .inl (fun _ => 0))) := (pv 11 (by decide)).trans v11
  have v12 : V8 12 = some (.inl (G.2.2.1.1, 16, .inl (fun _ => 0))) := (pv 12 (by decide)).trans v12
  have v13 : V8 13 = some (.inl (G.2.2.1.1, 16, .inl (fun _ => 0))) := (pv 13 (by decide)).trans v13
  have v14 : V8 14 = some (.inl (G.2.2.1.1, 16, .inl (fun _ => 0))) := (pv 14 (by decide)).trans v14
  have hN : ∀ j, 15 ≤ j → j < 25 → V8 j = none := fun j hj hj2 => (pv j (by omega)).trans (hN j (by omega) hj2)
  have hVo : ∀ j, ¬ (10 ≤ j ∧ j < 25) → V8 j = V j := fun j hj => (pv j (by omega)).trans (hVo j hj)
  refine lv_aload_n hx hb dX4_init_35 rfl (lv_at hl 0 rfl) ?_
  refine lv_bipush (v := (16)) hx hb dX4_init_36 (by decide) ?_
  refine mnewI hx hb ac0 hw hS 16 (by decide +kernel) (by decide) 15 (hN 15 (by omega) (by omega)) (Nat.le_of_ble_eq_true rfl) (Nat.le_of_ble_eq_true rfl) dX4_init_38 (fun α15 H pa hw hS => ?_)
  obtain ⟨V9, hV9⟩ : ∃ z9 : mV, z9 = vup V8 15 (.inl (G.2.2.1.1, 16, .inl (fun _ => 0))) := ⟨_, rfl⟩
  have hw : mW G V9 α15 s H := by rw [hV9]; exact hw
  have v15 : V9 15 = some (.inl (G.2.2.1.1, 16, .inl (fun _ => 0))) := by rw [hV9]; exact vup_s _ _ _
  have pv : ∀ j, j ≠ 15 → V9 j = V8 j := fun j hj => by rw [hV9]; exact vup_n _ _ hj
  have v10 : V9 10 = some (.inr (5, [.ref (a11), .int (0), .ref (a12), .ref (a13), .ref (a14), .null, .null, .null, .null, .int (0), .null, .int (0), .null, .null, .null, .null, .null, .int (0)])) := (pv 10 (by decide)).trans v10
  have v11 : V9 11 = some (.inl (G.2.2.1.1, 4, .inl (fun _ => 0))) := (pv 11 (by decide)).trans v11
  have v12 : V9 12 = some (.inl (G.2.2.1.1, 16, .inl (fun _ => 0))) := (pv 12 (by decide)).trans v12
  have v13 : V9 13 = some (.inl (G.2.2.1.1, 16, .inl (fun _ => 0))) := (pv 13 (by decide)).trans v13
  have v14 : V9 14 = some (.inl (G.2.2.1.1, 16, .inl (fun _ => 0))) := (pv 14 (by decide)).trans v14
  have e10 : α15 10 = a10 := (pa 10 (by decide)).trans e10
  have e11 : α15 11 = a11 := (pa 11 (by decide)).trans e11
  have e12 : α15 12 = a12 := (pa 12 (by decide)).trans e12
  have e13 : α15 13 = a13 := (pa 13 (by decide)).trans e13
  have e14 : α15 14 = a14 := (pa 14 (by decide)).trans e14
  obtain ⟨a15, e15⟩ : ∃ a, α15 15 = a := ⟨_, rfl⟩
  have hαo : ∀ j, ¬ (11 ≤ j ∧ j < 25) → α15 j = α j := fun j hj => (pa j (by omega)).trans (hαo j hj)
  have hN : ∀ j, 16 ≤ j → j < 25 → V9 j = none := fun j hj hj2 => (pv j (by omega)).trans (hN j (by omega) hj2)
  have hVo : ∀ j, ¬ (10 ≤ j ∧ j < 25) → V9 j = V j := fun j hj => (pv j (by omega)).trans (hVo j hj)
  refine W.eq (g2 := F0 m 40 ls [.ref (a15), .ref (α15 10)]) (by rw [e10, e15]) ?_
  refine mputF (C := RX4) (T := TX4) (N := 18) (ci := 5) hx hb hts in_X4 tyX4 tyX4_ok nmX4 hown hw hS v10 rfl 5 (by decide) fl_22 rfl hin rfl rfl rfl (Nat.le_of_ble_eq_true rfl) dX4_init_40 (fun H locs hw hS => ?_)
  obtain ⟨V10, hV10⟩ : ∃ z9 : mV, z9 = vup V9 10 (.inr (5, [.ref (a11), .int (0), .ref (a12), .ref (a13), .ref (a14), .ref (a15), .null, .null, .null, .int (0), .null, .int (0), .null, .null, .null, .null, .null, .int (0)])) := ⟨_, rfl⟩
  have hw : mW G V10 α15 s H := by rw [hV10]; exact hw
  have v10 : V10 10 = some (.inr (5, [.ref (a11), .int (0), .ref (a12), .ref (a13), .ref (a14), .ref (a15), .null, .null, .null, .int (0), .null, .int (0), .null, .null, .null, .null, .null, .int (0)])) := by rw [hV10]; exact vup_s _ _ _
  have pv : ∀ j, j ≠ 10 → V10 j = V9 j := fun j hj => by rw [hV10]; exact vup_n _ _ hj
  have v11 : V10 11 = some (.inl (G.2.2.1.1, 4, .inl (fun _ => 0))) := (pv 11 (by decide)).trans v11
  have v12 : V10 12 = some (.inl (G.2.2.1.1, 16, .inl (fun _ => 0))) := (pv 12 (by decide)).trans v12
  have v13 : V10 13 = some (.inl (G.2.2.1.1, 16, .inl (fun _ => 0))) := (pv 13 (by decide)).trans v13
  have v14 : V10 14 = some (.inl (G.2.2.1.1, 16, .inl (fun _ => 0))) := (pv 14 (by decide)).trans v14
  have v15 : V10 15 = some (.inl (G.2.2.1.1, 16, .inl (fun _ => 0))) := (pv 15 (by decide)).trans v15
  have hN : ∀ j, 16 ≤ j → j < 25 → V10 j = none := fun j hj hj2 => (pv j (by omega)).trans (hN j (by omega) hj2)
  have hVo : ∀ j, ¬ (10 ≤ j ∧ j < 25) → V10 j = V j := fun j hj => (pv j (by omega)).trans (hVo j hj)
  refine lv_aload_n hx hb dX4_init_43 rfl (lv_at hl 0 rfl) ?_
  refine lv_bipush (v := (16)) hx hb dX4_init_44 (by decide) ?_
  refine mnewI hx hb ac0 hw hS 16 (by decide +kernel) (by decide) 16 (hN 16 (by omega) (by omega)) (Nat.le_of_ble_eq_true rfl) (Nat.le_of_ble_eq_true rfl) dX4_init_46 (fun α16 H pa hw hS => ?_)
  obtain ⟨V11, hV11⟩ : ∃ z9 : mV, z9 = vup V10 16 (.inl (G.2.2.1.1, 16, .inl (fun _ => 0))) := ⟨_, rfl⟩
  have hw : mW G V11 α16 s H := by rw [hV11]; exact hw
  have v16 : V11 16 = some (.inl (G.2.2.1.1, 16, .inl (fun _ => 0))) := by rw [hV11]; exact vup_s _ _ _
  have pv : ∀ j, j ≠ 16 → V11 j = V10 j := fun j hj => by rw [hV11]; exact vup_n _ _ hj
  have v10 : V11 10 = some (.inr (5, [.ref (a11), .int (0), .ref (a12), .ref (a13), .ref (a14), .ref (a15), .null, .null, .null, .int (0), .null, .int (0), .null, .null, .null, .null, .null, .int (0)])) := (pv 10 (by decide)).trans v10
  have v11 : V11 11 = some (.inl (G.2.2.1.1, 4, .inl (fun _ => 0))) := (pv 11 (by decide)).trans v11
  have v12 : V11 12 = some (.inl (G.2.2.1.1, 16, .inl (fun _ => 0))) := (pv 12 (by decide)).trans v12
  have v13 : V11 13 = some (.inl (G.2.2.1.1, 16, .inl (fun _ => 0))) := (pv 13 (by decide)).trans v13
  have v14 : V11 14 = some (.inl (G.2.2.1.1, 16, .inl (fun _ => 0))) := (pv 14 (by decide)).trans v14
  have v15 : V11 15 = some (.inl (G.2.2.1.1, 16, .inl (fun _ => 0))) := (pv 15 (by decide)).trans v15
  have e10 : α16 10 = a10 := (pa 10 (by decide)).trans e10
  have e11 : α16 11 = a11 := (pa 11 (by decide)).trans e11
  have e12 : α16 12 = a12 := (pa 12 (by decide)).trans e12
  have e13 : α16 13 = a13 := (pa 13 (by decide)).trans e13
  have e14 : α16 14 = a14 := (pa 14 (by decide)).trans e14
  have e15 : α16 15 = a15 := (pa 15 (by decide)).trans e15
  obtain ⟨a16, e16⟩ : ∃ a, α16 16 = a := ⟨_, rfl⟩
  have hαo : ∀ j, ¬ (11 ≤ j ∧ j < 25) → α16 j = α j := fun j hj => (pa j (by omega)).trans (hαo j hj)
  have hN : ∀ j, 17 ≤ j → j < 25 → V11 j = none := fun j hj hj2 => (pv j (by omega)).trans (hN j (by omega) hj2)
  have hVo : ∀ j, ¬ (10 ≤ j ∧ j < 25) → V11 j = V j := fun j hj => (pv j (by omega)).trans (hVo j hj)
  refine W.eq (g2 := F0 m 48 ls [.ref (a16), .ref (α16 10)]) (by rw [e10, e16]) ?_
  refine mputF (C := RX4) (T := TX4) (N := 18) (ci := 5) hx hb hts in_X4 tyX4 tyX4_ok nmX4 hown hw hS v10 rfl 6 (by decide) fl_25 rfl hin rfl rfl rfl (Nat.le_of_ble_eq_true rfl) dX4_init_48 (fun H locs hw hS => ?_)
  obtain ⟨V12, hV12⟩ : ∃ z9 : mV, z9 = vup V11 10 (.inr (5, [.ref (a11), .int (0), .ref (a12), .ref (a13), .ref (a14), .ref (a15), .ref (a16), .null, .null, .int (0), .null, .int (0), .null, .null, .null, .null, .null, .int (0)])) := ⟨_, rfl⟩
  have hw : mW G V12 α16 s H := by rw [hV12]; exact hw
  have v10 : V12 10 = some (.inr (5, [.ref (a11), .int (0), .ref (a12), .ref (a13), .ref (a14), .ref (a15), .ref (a16), .null, .null, .int (0), .null, .int (0), .null, .null, .null, .null, .null, .int (0)])) := by rw [hV12]; exact vup_s _ _ _
  have pv : ∀ j, j ≠ 10 → V12 j = V11 j := fun j hj => by rw [hV12]; exact vup_n _ _ hj
  have v11 : V12 11 = some (.inl (G.2.2.1.1, 4, .inl (fun _ => 0))) := (pv 11 (by decide)).trans v11
  have v12 : V12 12 = some (.inl (G.2.2.1.1, 16, .inl (fun _ => 0))) := (pv 12 (by decide)).trans v12
  have v13 : V12 13 = some (.inl (G.2.2.1.1, 16, .inl (fun _ => 0))) := (pv 13 (by decide)).trans v13
  have v14 : V12 14 = some (.inl (G.2.2.1.1, 16, .inl (fun _ => 0))) := (pv 14 (by decide)).trans v14
  have v15 : V12 15 = some (.inl (G.2.2.1.1, 16, .inl (fun _ => 0))) := (pv 15 (by decide)).trans v15
  have v16 : V12 16 = some (.inl (G.2.2.1.1, 16, .inl (fun _ => 0))) := (pv 16 (by decide)).trans v16
  have hN : ∀ j, 17 ≤ j → j < 25 → V12 j = none := fun j hj hj2 => (pv j (by omega)).trans (hN j (by omega) hj2)
  have hVo : ∀ j, ¬ (10 ≤ j ∧ j < 25) → V12 j = V j := fun j hj => (pv j (by omega)).trans (hVo j hj)
  refine lv_aload_n hx hb dX4_init_51 rfl (lv_at hl 0 rfl) ?_
  refine lv_bipush (v := (16)) hx hb dX4_init_52 (by decide) ?_
  refine mnewZ hx hb ac1 hw hS 16 (by decide +kernel) (by decide) 17 (hN 17 (by omega) (by omega)) (Nat.le_of_ble_eq_true rfl) (Nat.le_of_ble_eq_true rfl) dX4_init_54 (fun α17 H pa hw hS => ?_)
  obtain ⟨V13, hV13⟩ : ∃ z9 : mV, z9 = vup V12 17 (.inl (G.2.2.1.2, 16, .inl (fun _ => 0))) := ⟨_, rfl⟩
  have hw : mW G V13 α17 s H := by rw [hV13]; exact hw
  have v17 : V13 17 = some (.inl (G.2.2.1.2, 16, .inl (fun _ => 0))) := by rw [hV13]; exact vup_s _ _ _
  have pv : ∀ j, j ≠ 17 → V13 j = V12 j := fun j hj => by rw [hV13]; exact vup_n _ _ hj
  have v10 : V13 10 = some (.inr (5, [.ref (a11), .int (0), .ref (a12), .ref (a13), .ref (a14), .ref (a15), .ref (a16), .null, .null, .int (0), .null, .int (0), .null, .null, .null, .null, .null, .int (0)])) := (pv 10 (by decide)).trans v10
  have v11 : V13 11 = some (.inl (G.2.2.1.1, 4, .inl (fun _ => 0))) := (pv 11 (by decide)).trans v11
  have v12 : V13 12 = some (.inl (G.2.2.1.1, 16, .inl (fun _ => 0))) := (pv 12 (by decide)).trans v12
  have v13 : V13 13 = some (.inl (G.2.2.1.1, 16, .inl (fun _ => 0))) := (pv 13 (by decide)).trans v13
  have v14 : V13 14 = some (.inl (G.2.2.1.1, 16, .inl (fun _ => 0))) := (pv 14 (by decide)).trans v14
  have v15 : V13 15 = some (.inl (G.2.2.1.1, 16, .inl (fun _ => 0))) := (pv 15 (by decide)).trans v15
  have v16 : V13 16 = some (.inl (G.2.2.1.1, 16, .inl (fun _ => 0))) := (pv 16 (by decide)).trans v16
  have e10 : α17 10 = a10 := (pa 10 (by decide)).trans e10
  have e11 : α17 11 = a11 := (pa 11 (by decide)).trans e11
  have e12 : α17 12 = a12 := (pa 12 (by decide)).trans e12
  have e13 : α17 13 = a13 := (pa 13 (by decide)).trans e13
  have e14 : α17 14 = a14 := (pa 14 (by decide)).trans e14
  have e15 : α17 15 = a15 := (pa 15 (by decide)).trans e15
  have e16 : α17 16 = a16 := (pa 16 (by decide)).trans e16
  obtain ⟨a17, e17⟩ : ∃ a, α17 17 = a := ⟨_, rfl⟩
  have hαo : ∀ j, ¬ (11 ≤ j ∧ j < 25) → α17 j = α j := fun j hj => (pa j (by omega)).trans (hαo j hj)
  have hN : ∀ j, 18 ≤ j → j < 25 → V13 j = none := fun j hj hj2 => (pv j (by omega)).trans (hN j (by omega) hj2)
  have hVo : ∀ j, ¬ (10 ≤ j ∧ j < 25) → V13 j = V j := fun j hj => (pv j (by omega)).trans (hVo j hj)
  refine W.eq (g2 := F0 m 56 ls [.ref (a17), .ref (α17 10)]) (by rw [e10, e17]) ?_
  refine mputF (C := RX4) (T := TX4) (N := 18) (ci := 5) hx hb hts in_X4 tyX4 tyX4_ok nmX4 hown hw hS v10 rfl 7 (by decide) fl_28 rfl hin rfl rfl rfl (Nat.le_of_ble_eq_true rfl) dX4_init_56 (fun H locs hw hS => ?_)
  obtain ⟨V14, hV14⟩ : ∃ z9 : mV, z9 = vup V13 10 (.inr (5, [.ref (a11), .int (0), .ref (a12), .ref (a13), .ref (a14), .ref (a15), .ref (a16), .ref (a17), .null, .int (0), .null, .int (0), .null, .null, .null, .null, .null, .int (0)])) := ⟨_, rfl⟩
  have hw : mW G V14 α17 s H := by rw [hV14]; exact hw
  have v10 : V14 10 = some (.inr (5, [.ref (a11), .int (0), .ref (a12), .ref (a13), .ref (a14), .ref (a15), .ref (a16), .ref (a17), .null, .int (0), .null, .int (0), .null, .null, .null, .null, .null, .int (0)])) := by rw [hV14]; exact vup_s _ _ _
  have pv : ∀ j, j ≠ 10 → V14 j = V13 j := fun j hj => by rw [hV14]; exact vup_n _ _ hj
  have v11 : V14 11 = some (.inl (G.2.2.1.1, 4, .inl (fun _ => 0))) := (pv 11 (by decide)).trans v11
  have v12 : V14 12 = some (.inl (G.2.2.1.1, 16, .inl (fun _ => 0))) := (pv 12 (by decide)).trans v12
  have v13 : V14 13 = some (.inl (G.2.2.1.1, 16, .inl (fun _ => 0))) := (pv 13 (by decide)).trans v13
  have v14 : V14 14 = some (.inl (G.2.2.1.1, 16, .inl (fun _ => 0))) := (pv 14 (by decide)).trans v14
  have v15 : V14 15 = some (.inl (G.2.2.1.1, 16, .inl (fun _ => 0))) := (pv 15 (by decide)).trans v15
  have v16 : V14 16 = some (.inl (G.2.2.1.1, 16, .inl (fun _ => 0))) := (pv 16 (by decide)).trans v16
  have v17 : V14 17 = some (.inl (G.2.2.1.2, 16, .inl (fun _ => 0))) := (pv 17 (by decide)).trans v17
  have hN : ∀ j, 18 ≤ j → j < 25 → V14 j = none := fun j hj hj2 => (pv j (by omega)).trans (hN j (by omega) hj2)
  have hVo : ∀ j, ¬ (10 ≤ j ∧ j < 25) → V14 j = V j := fun j hj => (pv j (by omega)).trans (hVo j hj)
  refine lv_aload_n hx hb dX4_init_59 rfl (lv_at hl 0 rfl) ?_
  refine lv_sipush (v := (365)) hx hb dX4_init_60 (by decide) ?_
  refine mnewZ hx hb ac1 hw hS 365 (by decide +kernel) (by decide) 18 (hN 18 (by omega) (by omega)) (Nat.le_of_ble_eq_true rfl) (Nat.le_of_ble_eq_true rfl) dX4_init_63 (fun α18 H pa hw hS => ?_)
  obtain ⟨V15, hV15⟩ : ∃ z9 : mV, z9 = vup V14 18 (.inl (G.2.2.1.2, 365, .inl (fun _ => 0))) := ⟨_, rfl⟩
  have hw : mW G V15 α18 s H := by rw [hV15]; exact hw
  have v18 : V15 18 = some (.inl (G.2.2.1.2, 365, .inl (fun _ => 0))) := by rw [hV15]; exact vup_s _ _ _
  have pv : ∀ j, j ≠ 18 → V15 j = V14 j := fun j hj => by rw [hV15]; exact vup_n _ _ hj
  have v10 : V15 10 = some (.inr (5, [.ref (a11), .int (0), .ref (a12), .ref (a13), .ref (a14), .ref (a15), .ref (a16), .ref (a17), .null, .int (0), .null, .int (0), .null, .null, .null, .null, .null, .int (0)])) := (pv 10 (by decide)).trans v10
  have v11 : V15 11 = some (.inl (G.2.2.1.1, 4, .inl (fun _ => 0))) := (pv 11 (by decide)).trans v11
  have v12 : V15 12 = some (.inl (G.2.2.1.1, 16, .inl (fun _ => 0))) := (pv 12 (by decide)).trans v12
  have v13 : V15 13 = some (.inl (G.2.2.1.1, 16, .inl (fun _ => 0))) := (pv 13 (by decide)).trans v13
  have v14 : V15 14 = some (.inl (G.2.2.1.1, 16, .inl (fun _ => 0))) := (pv 14 (by decide)).trans v14
  have v15 : V15 15 = some (.inl (G.2.2.1.1, 16, .inl (fun _ => 0))) := (pv 15 (by decide)).trans v15
  have v16 : V15 16 = some (.inl (G.2.2.1.1, 16, .inl (fun _ => 0))) := (pv 16 (by decide)).trans v16
  have v17 : V15 17 = some (.inl (G.2.2.1.2, 16, .inl (fun _ => 0))) := (pv 17 (by decide)).trans v17
  have e10 : α18 10 = a10 := (pa 10 (by decide)).trans e10
  have e11 : α18 11 = a11 := (pa 11 (by decide)).trans e11
  have e12 : α18 12 = a12 := (pa 12 (by decide)).trans e12
  have e13 : α18 13 = a13 := (pa 13 (by decide)).trans e13
  have e14 : α18 14 = a14 := (pa 14 (by decide)).trans e14
  have e15 : α18 15 = a15 := (pa 15 (by decide)).trans e15
  have e16 : α18 16 = a16 := (pa 16 (by decide)).trans e16
  have e17 : α18 17 = a17 := (pa 17 (by decide)).trans e17
  obtain ⟨a18, e18⟩ : ∃ a, α18 18 = a := ⟨_, rfl⟩
  have hαo : ∀ j, ¬ (11 ≤ j ∧ j < 25) → α18 j = α j := fun j hj => (pa j (by omega)).trans (hαo j hj)
  have hN : ∀ j, 19 ≤ j → j < 25 → V15 j = none := fun j hj hj2 => (pv j (by omega)).trans (hN j (by omega) hj2)
  have hVo : ∀ j, ¬ (10 ≤ j ∧ j < 25) → V15 j = V j := fun j hj => (pv j (by omega)).trans (hVo j hj)
  refine W.eq (g2 := F0 m 65 ls [.ref (a18), .ref (α18 10)]) (by rw [e10, e18]) ?_
  refine mputF (C := RX4) (T := TX4) (N := 18) (ci := 5) hx hb hts in_X4 tyX4 tyX4_ok nmX4 hown hw hS v10 rfl 8 (by decide) fl_32 rfl hin rfl rfl rfl (Nat.le_of_ble_eq_true rfl) dX4_init_65 (fun H locs hw hS => ?_)
  obtain ⟨V16, hV16⟩ : ∃ z9 : mV, z9 = vup V15 10 (.inr (5, [.ref (a11), .int (0), .ref (a12), .ref (a13), .ref (a14), .ref (a15), .ref (a16), .ref (a17), .ref (a18), .int (0), .null, .int (0), .null, .null, .null, .null, .null, .int (0)])) := ⟨_, rfl⟩
  have hw : mW G V16 α18 s H := by rw [hV16]; exact hw
  have v10 : V16 10 = some (.inr (5, [.ref (a11), .int (0), .ref (a12), .ref (a13), .ref (a14), .ref (a15), .ref (a16), .ref (a17), .ref (a18), .int (0), .null, .int (0), .null, .null, .null, .null, .null, .int (0)])) := by rw [hV16]; exact vup_s _ _ _
  have pv : ∀ j, j ≠ 10 → V16 j = V15 j := fun j hj => by rw [hV16]; exact vup_n _ _ hj
  have v11 : V16 11 = some (.inl (G.2.2.1.1, 4, .inl (fun _ => 0))) := (pv 11 (by decide)).trans v11
  have v12 : V16 12 = some (.inl (G.2.2.1.1, 16, .inl (fun _ => 0))) := (pv 12 (by decide)).trans v12
  have v13 : V16 13 = some (.inl (G.2.2.1.1, 16, .inl (fun _ => 0))) := (pv 13 (by decide)).trans v13
  have v14 : V16 14 = some (.inl (G.2.2.1.1, 16, .inl (fun _ => 0))) := (pv 14 (by decide)).trans v14
  have v15 : V16 15 = some (.inl (G.2.2.1.1, 16, .inl (fun _ => 0))) := (pv 15 (by decide)).trans v15
  have v16 : V16 16 = some (.inl (G.2.2.1.1, 16, .inl (fun _ => 0))) := (pv 16 (by decide)).trans v16
  have v17 : V16 17 = some (.inl (G.2.2.1.2, 16, .inl (fun _ => 0))) := (pv 17 (by decide)).trans v17
  have v18 : V16 18 = some (.inl (G.2.2.1.2, 365, .inl (fun _ => 0))) := (pv 18 (by decide)).trans v18
  have hN : ∀ j, 19 ≤ j → j < 25 → V16 j = none := fun j hj hj2 => (pv j (by omega)).trans (hN j (by omega) hj2)
  have hVo : ∀ j, ¬ (10 ≤ j ∧ j < 25) → V16 j = V j := fun j hj => (pv j (by omega)).trans (hVo j hj)
  refine lv_aload_n hx hb dX4_init_68 rfl (lv_at hl 0 rfl) ?_
  refine lv_bipush (v := (12)) hx hb dX4_init_69 (by decide) ?_
  refine mnewI hx hb ac0 hw hS 12 (by decide +kernel) (by decide) 19 (hN 19 (by omega) (by omega)) (Nat.le_of_ble_eq_true rfl) (Nat.le_of_ble_eq_true rfl) dX4_init_71 (fun α19 H pa hw hS => ?_)
  obtain ⟨V17, hV17⟩ : ∃ z9 : mV, z9 = vup V16 19 (.inl (G.2.2.1.1, 12, .inl (fun _ => 0))) := ⟨_, rfl⟩
  have hw : mW G V17 α19 s H := by rw [hV17]; exact hw
  have v19 : V17 19 = some (.inl (G.2.2.1.1, 12, .inl (fun _ => 0))) := by rw [hV17]; exact vup_s _ _ _
  have pv : ∀ j, j ≠ 19 → V17 j = V16 j := fun j hj => by rw [hV17]; exact vup_n _ _ hj
  have v10 : V17 10 = some (.inr (5, [.ref (a11), .int (0), .ref (a12), .ref (a13), .ref (a14), .ref (a15), .ref (a16), .ref (a17), .ref (a18), .int (0), .null, .int (0), .null, .null, .null, .null, .null, .int (0)])) := (pv 10 (by decide)).trans v10
  have v11 : V17 11 = some (.inl (G.2.2.1.1, 4, .inl (fun _ => 0))) := (pv 11 (by decide)).trans v11
  have v12 : V17 12 = some (.inl (G.2.2.1.1, 16, .inl (fun _ => 0))) := (pv 12 (by decide)).trans v12
  have v13 : V17 13 = some (.inl (G.2.2.1.1, 16, .inl (fun _ => 0))) := (pv 13 (by decide)).trans v13
  have v14 : V17 14 = some (.inl (G.2.2.1.1, 16, .inl (fun _ => 0))) := (pv 14 (by decide)).trans v14
  have v15 : V17 15 = some (.inl (G.2.2.1.1, 16, .inl (fun _ => 0))) := (pv 15 (by decide)).trans v15
  have v16 : V17 16 = some (.inl (G.2.2.1.1, 16, .inl (fun _ => 0))) := (pv 16 (by decide)).trans v16
  have v17 : V17 17 = some (.inl (G.2.2.1.2, 16, .inl (fun _ => 0))) := (pv 17 (by decide)).trans v17
  have v18 : V17 18 = some (.inl (G.2.2.1.2, 365, .inl (fun _ => 0))) := (pv 18 (by decide)).trans v18
  have e10 : α19 10 = a10 := (pa 10 (by decide)).trans e10
  have e11 : α19 11 = a11 := (pa 11 (by decide)).trans e11
  have e12 : α19 12 = a12 := (pa 12 (by decide)).trans e12
  have e13 : α19 13 = a13 := (pa 13 (by decide)).trans e13
  have e14 : α19 14 = a14 := (pa 14 (by decide)).trans e14
  have e15 : α19 15 = a15 := (pa 15 (by decide)).trans e15
  have e16 : α19 16 = a16 := (pa 16 (by decide)).trans e16
  have e17 : α19 17 = a17 := (pa 17 (by decide)).trans e17
  have e18 : α19 18 = a18 := (pa 18 (by decide)).trans e18
  obtain ⟨a19, e19⟩ : ∃ a, α19 19 = a := ⟨_, rfl⟩
  have hαo : ∀ j, ¬ (11 ≤ j ∧ j < 25) → α19 j = α j := fun j hj => (pa j (by omega)).trans (hαo j hj)
  have hN : ∀ j, 20 ≤ j → j < 25 → V17 j = none := fun j hj hj2 => (pv j (by omega)).trans (hN j (by omega) hj2)
  have hVo : ∀ j, ¬ (10 ≤ j ∧ j < 25) → V17 j = V j := fun j hj => (pv j (by omega)).trans (hVo j hj)
  refine W.eq (g2 := F0 m 73 ls [.ref (a19), .ref (α19 10)]) (by rw [e10, e19]) ?_
  refine mputF (C := RX4) (T := TX4) (N := 18) (ci := 5) hx hb hts in_X4 tyX4 tyX4_ok nmX4 hown hw hS v10 rfl 10 (by decide) fl_35 rfl hin rfl rfl rfl (Nat.le_of_ble_eq_true rfl) dX4_init_73 (fun H locs hw hS => ?_)
  obtain ⟨V18, hV18⟩ : ∃ z9 : mV, z9 = vup V17 10 (.inr (5, [.ref (a11), .int (0), .ref (a12), .ref (a13), .ref (a14), .ref (a15), .ref (a16), .ref (a17), .ref (a18), .int (0), .ref (a19), .int (0), .null, .null, .null, .null, .null, .int (0)])) := ⟨_, rfl⟩
  have hw : mW G V18 α19 s H := by rw [hV18]; exact hw
  have v10 : V18 10 = some (.inr (5, [.ref (a11), .int (0), .ref (a12), .ref (a13), .ref (a14), .ref (a15), .ref (a16), .ref (a17), .ref (a18), .int (0), .ref (a19), .int (0), .null, .null, .null, .null, .null, .int (0)])) := by rw [hV18]; exact vup_s _ _ _
  have pv : ∀ j, j ≠ 10 → V18 j = V17 j := fun j hj => by rw [hV18]; exact vup_n _ _ hj
  have v11 : V18 11 = some (.inl (G.2.2.1.1, 4, .inl (fun _ => 0))) := (pv 11 (by decide)).trans v11
  have v12 : V18 12 = some (.inl (G.2.2.1.1, 16, .inl (fun _ => 0))) := (pv 12 (by decide)).trans v12
  have v13 : V18 13 = some (.inl (G.2.2.1.1, 16, .inl (fun _ => 0))) := (pv 13 (by decide)).trans v13
  have v14 : V18 14 = some (.inl (G.2.2.1.1, 16, .inl (fun _ => 0))) := (pv 14 (by decide)).trans v14
  have v15 : V18 15 = some (.inl (G.2.2.1.1, 16, .inl (fun _ => 0))) := (pv 15 (by decide)).trans v15
  have v16 : V18 16 = some (.inl (G.2.2.1.1, 16, .inl (fun _ => 0))) := (pv 16 (by decide)).trans v16
  have v17 : V18 17 = some (.inl (G.2.2.1.2, 16, .inl (fun _ => 0))) := (pv 17 (by decide)).trans v17
  have v18 : V18 18 = some (.inl (G.2.2.1.2, 365, .inl (fun _ => 0))) := (pv 18 (by decide)).trans v18
  have v19 : V18 19 = some (.inl (G.2.2.1.1, 12, .inl (fun _ => 0))) := (pv 19 (by decide)).trans v19
  have hN : ∀ j, 20 ≤ j → j < 25 → V18 j = none := fun j hj hj2 => (pv j (by omega)).trans (hN j (by omega) hj2)
  have hVo : ∀ j, ¬ (10 ≤ j ∧ j < 25) → V18 j = V j := fun j hj => (pv j (by omega)).trans (hVo j hj)
  refine lv_aload_n hx hb dX4_init_76 rfl (lv_at hl 0 rfl) ?_
  refine lv_bipush (v := (80)) hx hb dX4_init_77 (by decide) ?_
  refine mnewI hx hb ac0 hw hS 80 (by decide +kernel) (by decide) 20 (hN 20 (by omega) (by omega)) (Nat.le_of_ble_eq_true rfl) (Nat.le_of_ble_eq_true rfl) dX4_init_79 (fun α20 H pa hw hS => ?_)
  obtain ⟨V19, hV19⟩ : ∃ z9 : mV, z9 = vup V18 20 (.inl (G.2.2.1.1, 80, .inl (fun _ => 0))) := ⟨_, rfl⟩
  have hw : mW G V19 α20 s H := by rw [hV19]; exact hw
  have v20 : V19 20 = some (.inl (G.2.2.1.1, 80, .inl (fun _ => 0))) := by rw [hV19]; exact vup_s _ _ _
  have pv : ∀ j, j ≠ 20 → V19 j = V18 j := fun j hj => by rw [hV19]; exact vup_n _ _ hj
  have v10 : V19 10 = some (.inr (5, [.ref (a11), .int (0), .ref (a12), .ref (a13), .ref (a14), .ref (a15), .ref (a16), .ref (a17), .ref (a18), .int (0), .ref (a19), .int (0), .null, .null, .null, .null, .null, .int (0)])) := (pv 10 (by decide)).trans v10
  have v11 : V19 11 = some (.inl (G.2.2.1.1, 4, .inl (fun _ => 0))) := (pv 11 (by decide)).trans v11
  have v12 : V19 12 = some (.inl (G.2.2.1.1, 16, .inl (fun _ => 0))) := (pv 12 (by decide)).trans v12
  have v13 : V19 13 = some (.inl (G.2.2.1.1, 16, .inl (fun _ => 0))) := (pv 13 (by decide)).trans v13
  have v14 : V19 14 = some (.inl (G.2.2.1.1, 16, .inl (fun _ => 0))) := (pv 14 (by decide)).trans v14
  have v15 : V19 15 = some (.inl (G.2.2.1.1, 16, .inl (fun _ => 0))) := (pv 15 (by decide)).trans v15
  have v16 : V19 16 = some (.inl (G.2.2.1.1, 16, .inl (fun _ => 0))) := (pv 16 (by decide)).trans v16
  have v17 : V19 17 = some (.inl (G.2.2.1.2, 16, .inl (fun _ => 0))) := (pv 17 (by decide)).trans v17
  have v18 : V19 18 = some (.inl (G.2.2.1.2, 365, .inl (fun _ => 0))) := (pv 18 (by decide)).trans v18
  have v19 : V19 19 = some (.inl (G.2.2.1.1, 12, .inl (fun _ => 0))) := (pv 19 (by decide)).trans v19
  have e10 : α20 10 = a10 := (pa 10 (by decide)).trans e10
  have e11 : α20 11 = a11 := (pa 11 (by decide)).trans e11
  have e12 : α20 12 = a12 := (pa 12 (by decide)).trans e12
  have e13 : α20 13 = a13 := (pa 13 (by decide)).trans e13
  have e14 : α20 14 = a14 := (pa 14 (by decide)).trans e14
  have e15 : α20 15 = a15 := (pa 15 (by decide)).trans e15
  have e16 : α20 16 = a16 := (pa 16 (by decide)).trans e16
  have e17 : α20 17 = a17 := (pa 17 (by decide)).trans e17
  have e18 : α20 18 = a18 := (pa 18 (by decide)).trans e18
  have e19 : α20 19 = a19 := (pa 19 (by decide)).trans e19
  obtain ⟨a20, e20⟩ : ∃ a, α20 20 = a := ⟨_, rfl⟩
  have hαo : ∀ j, ¬ (11 ≤ j ∧ j < 25) → α20 j = α j := fun j hj => (pa j (by omega)).trans (hαo j hj)
  have hN : ∀ j, 21 ≤ j → j < 25 → V19 j = none := fun j hj hj2 => (pv j (by omega)).trans (hN j (by omega) hj2)
  have hVo : ∀ j, ¬ (10 ≤ j ∧ j < 25) → V19 j = V j := fun j hj => (pv j (by omega)).trans (hVo j hj)
  refine W.eq (g2 := F0 m 81 ls [.ref (a20), .ref (α20 10)]) (by rw [e10, e20]) ?_
  refine mputF (C := RX4) (T := TX4) (N := 18) (ci := 5) hx hb hts in_X4 tyX4 tyX4_ok nmX4 hown hw hS v10 rfl 12 (by decide) fl_38 rfl hin rfl rfl rfl (Nat.le_of_ble_eq_true rfl) dX4_init_81 (fun H locs hw hS => ?_)
  obtain ⟨V20, hV20⟩ : ∃ z9 : mV, z9 = vup V19 10 (.inr (5, [.ref (a11), .int (0), .ref (a12), .ref (a13), .ref (a14), .ref (a15), .ref (a16), .ref (a17), .ref (a18), .int (0), .ref (a19), .int (0), .ref (a20), .null, .null, .null, .null, .int (0)])) := ⟨_, rfl⟩
  have hw : mW G V20 α20 s H := by rw [hV20]; exact hw
  have v10 : V20 10 = some (.inr (5, [.ref (a11), .int (0), .ref (a12), .ref (a13), .ref (a14), .ref (a15), .ref (a16), .ref (a17), .ref (a18), .int (0), .ref (a19), .int (0), .ref (a20), .null, .null, .null, .null, .int (0)])) := by rw [hV20]; exact vup_s _ _ _
  have pv : ∀ j, j ≠ 10 → V20 j = V19 j := fun j hj => by rw [hV20]; exact vup_n _ _ hj
  have v11 : V20 11 = some (.inl (G.2.2.1.1, 4, .inl (fun _ => 0))) := (pv 11 (by decide)).trans v11
  have v12 : V20 12 = some (.inl (G.2.2.1.1, 16, .inl (fun _ => 0))) := (pv 12 (by decide)).trans v12
  have v13 : V20 13 = some (.inl (G.2.2.1.1, 16, .inl (fun _ => 0))) := (pv 13 (by decide)).trans v13
  have v14 : V20 14 = some (.inl (G.2.2.1.1, 16, .inl (fun _ => 0))) := (pv 14 (by decide)).trans v14
  have v15 : V20 15 = some (.inl (G.2.2.1.1, 16, .inl (fun _ => 0))) := (pv 15 (by decide)).trans v15
  have v16 : V20 16 = some (.inl (G.2.2.1.1, 16, .inl (fun _ => 0))) := (pv 16 (by decide)).trans v16
  have v17 : V20 17 = some (.inl (G.2.2.1.2, 16, .inl (fun _ => 0))) := (pv 17 (by decide)).trans v17
  have v18 : V20 18 = some (.inl (G.2.2.1.2, 365, .inl (fun _ => 0))) := (pv 18 (by decide)).trans v18
  have v19 : V20 19 = some (.inl (G.2.2.1.1, 12, .inl (fun _ => 0))) := (pv 19 (by decide)).trans v19
  have v20 : V20 20 = some (.inl (G.2.2.1.1, 80, .inl (fun _ => 0))) := (pv 20 (by decide)).trans v20
  have hN : ∀ j, 21 ≤ j → j < 25 → V20 j = none := fun j hj hj2 => (pv j (by omega)).trans (hN j (by omega) hj2)
  have hVo : ∀ j, ¬ (10 ≤ j ∧ j < 25) → V20 j = V j := fun j hj => (pv j (by omega)).trans (hVo j hj)
  refine lv_aload_n hx hb dX4_init_84 rfl (lv_at hl 0 rfl) ?_
  refine lv_bipush (v := (80)) hx hb dX4_init_85 (by decide) ?_
  refine mnewI hx hb ac0 hw hS 80 (by decide +kernel) (by decide) 21 (hN 21 (by omega) (by omega)) (Nat.le_of_ble_eq_true rfl) (Nat.le_of_ble_eq_true rfl) dX4_init_87 (fun α21 H pa hw hS => ?_)
  obtain ⟨V21, hV21⟩ : ∃ z9 : mV, z9 = vup V20 21 (.inl (G.2.2.1.1, 80, .inl (fun _ => 0))) := ⟨_, rfl⟩
  have hw : mW G V21 α21 s H := by rw [hV21]; exact hw
  have v21 : V21 21 = some (.inl (G.2.2.1.1, 80, .inl (fun _ => 0))) := by rw [hV21]; exact vup_s _ _ _
  have pv : ∀ j, j ≠ 21 → V21 j = V20 j := fun j hj => by rw [hV21]; exact vup_n _ _ hj
  have v10 : V21 10 = some (.inr (5, [.ref (a11), .int (0), .ref (a12), .ref (a13), .ref (a14), .ref (a15), .ref (a16), .ref (a17), .ref (a18), .int (0), .ref (a19), .int (0), .ref (a20), .null, .null, .null, .null, .int (0)])) := (pv 10 (by decide)).trans v10
  have v11 : V21 11 = some (.inl (G.2.2.1.1, 4, .inl (fun _ => 0))) := (pv 11 (by decide)).trans v11
  have v12 : V21 12 = some (.inl (G.2.2.1.1, 16, .inl (fun _ => 0))) := (pv 12 (by decide)).trans v12
  have v13 : V21 13 = some (.inl (G.2.2.1.1, 16, .inl (fun _ => 0))) := (pv 13 (by decide)).trans v13
  have v14 : V21 14 = some (.inl (G.2.2.1.1, 16, .inl (fun _ => 0))) := (pv 14 (by decide)).trans v14
  have v15 : V21 15 = some (.inl (G.2.2.1.1, 16, .inl (fun _ => 0))) := (pv 15 (by decide)).trans v15
  have v16 : V21 16 = some (.inl (G.2.2.1.1, 16, .inl (fun _ => 0))) := (pv 16 (by decide)).trans v16
  have v17 : V21 17 = some (.inl (G.2.2.1.2, 16, .inl (fun _ => 0))) := (pv 17 (by decide)).trans v17
  have v18 : V21 18 = some (.inl (G.2.2.1.2, 365, .inl (fun _ => 0))) := (pv 18 (by decide)).trans v18
  have v19 : V21 19 = some (.inl (G.2.2.1.1, 12, .inl (fun _ => 0))) := (pv 19 (by decide)).trans v19
  have v20 : V21 20 = some (.inl (G.2.2.1.1, 80, .inl (fun _ => 0))) := (pv 20 (by decide)).trans v20
  have e10 : α21 10 = a10 := (pa 10 (by decide)).trans e10
  have e11 : α21 11 = a11 := (pa 11 (by decide)).trans e11
  have e12 : α21 12 = a12 := (pa 12 (by decide)).trans e12
  have e13 : α21 13 = a13 := (pa 13 (by decide)).trans e13
  have e14 : α21 14 = a14 := (pa 14 (by decide)).trans e14
  have e15 : α21 15 = a15 := (pa 15 (by decide)).trans e15
  have e16 : α21 16 = a16 := (pa 16 (by decide)).trans e16
  have e17 : α21 17 = a17 := (pa 17 (by decide)).trans e17
  have e18 : α21 18 = a18 := (pa 18 (by decide)).trans e18
  have e19 : α21 19 = a19 := (pa 19 (by decide)).trans e19
  have e20 : α21 20 = a20 := (pa 20 (by decide)).trans e20
  obtain ⟨a21, e21⟩ : ∃ a, α21 21 = a := ⟨_, rfl⟩
  have hαo : ∀ j, ¬ (11 ≤ j ∧ j < 25) → α21 j = α j := fun j hj => (pa j (by omega)).trans (hαo j hj)
  have hN : ∀ j, 22 ≤ j → j < 25 → V21 j = none := fun j hj hj2 => (pv j (by omega)).trans (hN j (by omega) hj2)
  have hVo : ∀ j, ¬ (10 ≤ j ∧ j < 25) → V21 j = V j := fun j hj => (pv j (by omega)).trans (hVo j hj)
  refine W.eq (g2 := F0 m 89 ls [.ref (a21), .ref (α21 10)]) (by rw [e10, e21]) ?_
  refine mputF (C := RX4) (T := TX4) (N := 18) (ci := 5) hx hb hts in_X4 tyX4 tyX4_ok nmX4 hown hw hS v10 rfl 13 (by decide) fl_41 rfl hin rfl rfl rfl (Nat.le_of_ble_eq_true rfl) dX4_init_89 (fun H locs hw hS => ?_)
  obtain ⟨V22, hV22⟩ : ∃ z9 : mV, z9 = vup V21 10 (.inr (5, [.ref (a11), .int (0), .ref (a12), .ref (a13), .ref (a14), .ref (a15), .ref (a16), .ref (a17), .ref (a18), .int (0), .ref (a19), .int (0), .ref (a20), .ref (a21), .null, .null, .null, .int (0)])) := ⟨_, rfl⟩
  have hw : mW G V22 α21 s H := by rw [hV22]; exact hw
  have v10 : V22 10 = some (.inr (5, [.ref (a11), .int (0), .ref (a12), .ref (a13), .ref (a14), .ref (a15), .ref (a16), .ref (a17), .ref (a18), .int (0), .ref (a19), .int (0), .ref (a20), .ref (a21), .null, .null, .null, .int (0)])) := by rw [hV22]; exact vup_s _ _ _
  have pv : ∀ j, j ≠ 10 → V22 j = V21 j := fun j hj => by rw [hV22]; exact vup_n _ _ hj
  have v11 : V22 11 = some (.inl (G.2.2.1.1, 4, .inl (fun _ => 0))) := (pv 11 (by decide)).trans v11
  have v12 : V22 12 = some (.inl (G.2.2.1.1, 16, .inl (fun _ => 0))) := (pv 12 (by decide)).trans v12
  have v13 : V22 13 = some (.inl (G.2.2.1.1, 16, .inl (fun _ => 0))) := (pv 13 (by decide)).trans v13
  have v14 : V22 14 = some (.inl (G.2.2.1.1, 16, .inl (fun _ => 0))) := (pv 14 (by decide)).trans v14
  have v15 : V22 15 = some (.inl (G.2.2.1.1, 16, .inl (fun _ => 0))) := (pv 15 (by decide)).trans v15
  have v16 : V22 16 = some (.inl (G.2.2.1.1, 16, .inl (fun _ => 0))) := (pv 16 (by decide)).trans v16
  have v17 : V22 17 = some (.inl (G.2.2.1.2, 16, .inl (fun _ => 0))) := (pv 17 (by decide)).trans v17
  have v18 : V22 18 = some (.inl (G.2.2.1.2, 365, .inl (fun _ => 0))) := (pv 18 (by decide)).trans v18
  have v19 : V22 19 = some (.inl (G.2.2.1.1, 12, .inl (fun _ => 0))) := (pv 19 (by decide)).trans v19
  have v20 : V22 20 = some (.inl (G.2.2.1.1, 80, .inl (fun _ => 0))) := (pv 20 (by decide)).trans v20
  have v21 : V22 21 = some (.inl (G.2.2.1.1, 80, .inl (fun _ => 0))) := (pv 21 (by decide)).trans v21
  have hN : ∀ j, 22 ≤ j → j < 25 → V22 j = none := fun j hj hj2 => (pv j (by omega)).trans (hN j (by omega) hj2)
  have hVo : ∀ j, ¬ (10 ≤ j ∧ j < 25) → V22 j = V j := fun j hj => (pv j (by omega)).trans (hVo j hj)
  refine lv_aload_n hx hb dX4_init_92 rfl (lv_at hl 0 rfl) ?_
  refine lv_bipush (v := (80)) hx hb dX4_init_93 (by decide) ?_
  refine mnewI hx hb ac0 hw hS 80 (by decide +kernel) (by decide) 22 (hN 22 (by omega) (by omega)) (Nat.le_of_ble_eq_true rfl) (Nat.le_of_ble_eq_true rfl) dX4_init_95 (fun α22 H pa hw hS => ?_)
  obtain ⟨V23, hV23⟩ : ∃ z9 : mV, z9 = vup V22 22 (.inl (G.2.2.1.1, 80, .inl (fun _ => 0))) := ⟨_, rfl⟩
  have hw : mW G V23 α22 s H := by rw [hV23]; exact hw
  have v22 : V23 22 = some (.inl (G.2.2.1.1, 80, .inl (fun _ => 0))) := by rw [hV23]; exact vup_s _ _ _
  have pv : ∀ j, j ≠ 22 → V23 j = V22 j := fun j hj => by rw [hV23]; exact vup_n _ _ hj
  have v10 : V23 10 = some (.inr (5, [.ref (a11), .int (0), .ref (a12), .ref (a13), .ref (a14), .ref (a15), .ref (a16), .ref (a17), .ref (a18), .int (0), .ref (a19), .int (0), .ref (a20), .ref (a21), .null, .null, .null, .int (0)])) := (pv 10 (by decide)).trans v10
  have v11 : V23 11 = some (.inl (G.2.2.1.1, 4, .inl (fun _ => 0))) := (pv 11 (by decide)).trans v11
  have v12 : V23 12 = some (.inl (G.2.2.1.1, 16, .inl (fun _ => 0))) := (pv 12 (by decide)).trans v12
  have v13 : V23 13 = some (.inl (G.2.2.1.1, 16, .inl (fun _ => 0))) := (pv 13 (by decide)).trans v13
  have v14 : V23 14 = some (.inl (G.2.2.1.1, 16, .inl (fun _ => 0))) := (pv 14 (by decide)).trans v14
  have v15 : V23 15 = some (.inl (G.2.2.1.1, 16, .inl (fun _ => 0))) := (pv 15 (by decide)).trans v15
  have v16 : V23 16 = some (.inl (G.2.2.1.1, 16, .inl (fun _ => 0))) := (pv 16 (by decide)).trans v16
  have v17 : V23 17 = some (.inl (G.2.2.1.2, 16, .inl (fun _ => 0))) := (pv 17 (by decide)).trans v17
  have v18 : V23 18 = some (.inl (G.2.2.1.2, 365, .inl (fun _ => 0))) := (pv 18 (by decide)).trans v18
  have v19 : V23 19 = some (.inl (G.2.2.1.1, 12, .inl (fun _ => 0))) := (pv 19 (by decide)).trans v19
  have v20 : V23 20 = some (.inl (G.2.2.1.1, 80, .inl (fun _ => 0))) := (pv 20 (by decide)).trans v20
  have v21 : V23 21 = some (.inl (G.2.2.1.1, 80, .inl (fun _ => 0))) := (pv 21 (by decide)).trans v21
  have e10 : α22 10 = a10 := (pa 10 (by decide)).trans e10
  have e11 : α22 11 = a11 := (pa 11 (by decide)).trans e11
  have e12 : α22 12 = a12 := (pa 12 (by decide)).trans e12
  have e13 : α22 13 = a13 := (pa 13 (by decide)).trans e13
  have e14 : α22 14 = a14 := (pa 14 (by decide)).trans e14
  have e15 : α22 15 = a15 := (pa 15 (by decide)).trans e15
  have e16 : α22 16 = a16 := (pa 16 (by decide)).trans e16
  have e17 : α22 17 = a17 := (pa 17 (by decide)).trans e17
  have e18 : α22 18 = a18 := (pa 18 (by decide)).trans e18
  have e19 : α22 19 = a19 := (pa 19 (by decide)).trans e19
  have e20 : α22 20 = a20 := (pa 20 (by decide)).trans e20
  have e21 : α22 21 = a21 := (pa 21 (by decide)).trans e21
  obtain ⟨a22, e22⟩ : ∃ a, α22 22 = a := ⟨_, rfl⟩
  have hαo : ∀ j, ¬ (11 ≤ j ∧ j < 25) → α22 j = α j := fun j hj => (pa j (by omega)).trans (hαo j hj)
  have hN : ∀ j, 23 ≤ j → j < 25 → V23 j = none := fun j hj hj2 => (pv j (by omega)).trans (hN j (by omega) hj2)
  have hVo : ∀ j, ¬ (10 ≤ j ∧ j < 25) → V23 j = V j := fun j hj => (pv j (by omega)).trans (hVo j hj)
  refine W.eq (g2 := F0 m 97 ls [.ref (a22), .ref (α22 10)]) (by rw [e10, e22]) ?_
  refine mputF (C := RX4) (T := TX4) (N := 18) (ci := 5) hx hb hts in_X4 tyX4 tyX4_ok nmX4 hown hw hS v10 rfl 14 (by decide) fl_44 rfl hin rfl rfl rfl (Nat.le_of_ble_eq_true rfl) dX4_init_97 (fun H locs hw hS => ?_)
  obtain ⟨V24, hV24⟩ : ∃ z9 : mV, z9 = vup V23 10 (.inr (5, [.ref (a11), .int (0), .ref (a12), .ref (a13), .ref (a14), .ref (a15), .ref (a16), .ref (a17), .ref (a18), .int (0), .ref (a19), .int (0), .ref (a20), .ref (a21), .ref (a22), .null, .null, .int (0)])) := ⟨_, rfl⟩
  have hw : mW G V24 α22 s H := by rw [hV24]; exact hw
  have v10 : V24 10 = some (.inr (5, [.ref (a11), .int (0), .ref (a12), .ref (a13), .ref (a14), .ref (a15), .ref (a16), .ref (a17), .ref (a18), .int (0), .ref (a19), .int (0), .ref (a20), .ref (a21), .ref (a22), .null, .null, .int (0)])) := by rw [hV24]; exact vup_s _ _ _
  have pv : ∀ j, j ≠ 10 → V24 j = V23 j := fun j hj => by rw [hV24]; exact vup_n _ _ hj
  have v11 : V24 11 = some (.inl (G.2.2.1.1, 4, .inl (fun _ => 0))) := (pv 11 (by decide)).trans v11
  have v12 : V24 12 = some (.inl (G.2.2.1.1, 16, .inl (fun _ => 0))) := (pv 12 (by decide)).trans v12
  have v13 : V24 13 = some (.inl (G.2.2.1.1, 16, .inl (fun _ => 0))) := (pv 13 (by decide)).trans v13
  have v14 : V24 14 = some (.inl (G.2.2.1.1, 16, .inl (fun _ => 0))) := (pv 14 (by decide)).trans v14
  have v15 : V24 15 = some (.inl (G.2.2.1.1, 16, .inl (fun _ => 0))) := (pv 15 (by decide)).trans v15
  have v16 : V24 16 = some (.inl (G.2.2.1.1, 16, .inl (fun _ => 0))) := (pv 16 (by decide)).trans v16
  have v17 : V24 17 = some (.inl (G.2.2.1.2, 16, .inl (fun _ => 0))) := (pv 17 (by decide)).trans v17
  have v18 : V24 18 = some (.inl (G.2.2.1.2, 365, .inl (fun _ => 0))) := (pv 18 (by decide)).trans v18
  have v19 : V24 19 = some (.inl (G.2.2.1.1, 12, .inl (fun _ => 0))) := (pv 19 (by decide)).trans v19
  have v20 : V24 20 = some (.inl (G.2.2.1.1, 80, .inl (fun _ => 0))) := (pv 20 (by decide)).trans v20
  have v21 : V24 21 = some (.inl (G.2.2.1.1, 80, .inl (fun _ => 0))) := (pv 21 (by decide)).trans v21
  have v22 : V24 22 = some (.inl (G.2.2.1.1, 80, .inl (fun _ => 0))) := (pv 22 (by decide)).trans v22
  have hN : ∀ j, 23 ≤ j → j < 25 → V24 j = none := fun j hj hj2 => (pv j (by omega)).trans (hN j (by omega) hj2)
  have hVo : ∀ j, ¬ (10 ≤ j ∧ j < 25) → V24 j = V j := fun j hj => (pv j (by omega)).trans (hVo j hj)
  refine lv_aload_n hx hb dX4_init_100 rfl (lv_at hl 0 rfl) ?_
  refine lv_bipush (v := (80)) hx hb dX4_init_101 (by decide) ?_
  refine mnewI hx hb ac0 hw hS 80 (by decide +kernel) (by decide) 23 (hN 23 (by omega) (by omega)) (Nat.le_of_ble_eq_true rfl) (Nat.le_of_ble_eq_true rfl) dX4_init_103 (fun α23 H pa hw hS => ?_)
  obtain ⟨V25, hV25⟩ : ∃ z9 : mV, z9 = vup V24 23 (.inl (G.2.2.1.1, 80, .inl (fun _ => 0))) := ⟨_, rfl⟩
  have hw : mW G V25 α23 s H := by rw [hV25]; exact hw
  have v23 : V25 23 = some (.inl (G.2.2.1.1, 80, .inl (fun _ => 0))) := by rw [hV25]; exact vup_s _ _ _
  have pv : ∀ j, j ≠ 23 → V25 j = V24 j := fun j hj => by rw [hV25]; exact vup_n _ _ hj
  have v10 : V25 10 = some (.inr (5, [.ref (a11), .int (0), .ref (a12), .ref (a13), .ref (a14), .ref (a15), .ref (a16), .ref (a17), .ref (a18), .int (0), .ref (a19), .int (0), .ref (a20), .ref (a21), .ref (a22), .null, .null, .int (0)])) := (pv 10 (by decide)).trans v10
  have v11 : V25 11 = some (.inl (G.2.2.1.1, 4, .inl (fun _ => 0))) := (pv 11 (by decide)).trans v11
  have v12 : V25 12 = some (.inl (G.2.2.1.1, 16, .inl (fun _ => 0))) := (pv 12 (by decide)).trans v12
  have v13 : V25 13 = some (.inl (G.2.2.1.1, 16, .inl (fun _ => 0))) := (pv 13 (by decide)).trans v13
  have v14 : V25 14 = some (.inl (G.2.2.1.1, 16, .inl (fun _ => 0))) := (pv 14 (by decide)).trans v14
  have v15 : V25 15 = some (.inl (G.2.2.1.1, 16, .inl (fun _ => 0))) := (pv 15 (by decide)).trans v15
  have v16 : V25 16 = some (.inl (G.2.2.1.1, 16, .inl (fun _ => 0))) := (pv 16 (by decide)).trans v16
  have v17 : V25 17 = some (.inl (G.2.2.1.2, 16, .inl (fun _ => 0))) := (pv 17 (by decide)).trans v17
  have v18 : V25 18 = some (.inl (G.2.2.1.2, 365, .inl (fun _ => 0))) := (pv 18 (by decide)).trans v18
  have v19 : V25 19 = some (.inl (G.2.2.1.1, 12, .inl (fun _ => 0))) := (pv 19 (by decide)).trans v19
  have v20 : V25 20 = some (.inl (G.2.2.1.1, 80, .inl (fun _ => 0))) := (pv 20 (by decide)).trans v20
  have v21 : V25 21 = some (.inl (G.2.2.1.1, 80, .inl (fun _ => 0))) := (pv 21 (by decide)).trans v21
  have v22 : V25 22 = some (.inl (G.2.2.1.1, 80, .inl (fun _ => 0))) := (pv 22 (by decide)).trans v22
  have e10 : α23 10 = a10 := (pa 10 (by decide)).trans e10
  have e11 : α23 11 = a11 := (pa 11 (by decide)).trans e11
  have e12 : α23 12 = a12 := (pa 12 (by decide)).trans e12
  have e13 : α23 13 = a13 := (pa 13 (by decide)).trans e13
  have e14 : α23 14 = a14 := (pa 14 (by decide)).trans e14
  have e15 : α23 15 = a15 := (pa 15 (by decide)).trans e15
  have e16 : α23 16 = a16 := (pa 16 (by decide)).trans e16
  have e17 : α23 17 = a17 := (pa 17 (by decide)).trans e17
  have e18 : α23 18 = a18 := (pa 18 (by decide)).trans e18
  have e19 : α23 19 = a19 := (pa 19 (by decide)).trans e19
  have e20 : α23 20 = a20 := (pa 20 (by decide)).trans e20
  have e21 : α23 21 = a21 := (pa 21 (by decide)).trans e21
  have e22 : α23 22 = a22 := (pa 22 (by decide)).trans e22
  obtain ⟨a23, e23⟩ : ∃ a, α23 23 = a := ⟨_, rfl⟩
  have hαo : ∀ j, ¬ (11 ≤ j ∧ j < 25) → α23 j = α j := fun j hj => (pa j (by omega)).trans (hαo j hj)
  have hN : ∀ j, 24 ≤ j → j < 25 → V25 j = none := fun j hj hj2 => (pv j (by omega)).trans (hN j (by omega) hj2)
  have hVo : ∀ j, ¬ (10 ≤ j ∧ j < 25) → V25 j = V j := fun j hj => (pv j (by omega)).trans (hVo j hj)
  refine W.eq (g2 := F0 m 105 ls [.ref (a23), .ref (α23 10)]) (by rw [e10, e23]) ?_
  refine mputF (C := RX4) (T := TX4) (N := 18) (ci := 5) hx hb hts in_X4 tyX4 tyX4_ok nmX4 hown hw hS v10 rfl 15 (by decide) fl_47 rfl hin rfl rfl rfl (Nat.le_of_ble_eq_true rfl) dX4_init_105 (fun H locs hw hS => ?_)
  obtain ⟨V26, hV26⟩ : ∃ z9 : mV, z9 = vup V25 10 (.inr (5, [.ref (a11), .int (0), .ref (a12), .ref (a13), .ref (a14), .ref (a15), .ref (a16), .ref (a17), .ref (a18), .int (0), .ref (a19), .int (0), .ref (a20), .ref (a21), .ref (a22), .ref (a23), .null, .int (0)])) := ⟨_, rfl⟩
  have hw : mW G V26 α23 s H := by rw [hV26]; exact hw
  have v10 : V26 10 = some (.inr (5, [.ref (a11), .int (0), .ref (a12), .ref (a13), .ref (a14), .ref (a15), .ref (a16), .ref (a17), .ref (a18), .int (0), .ref (a19), .int (0), .ref (a20), .ref (a21), .ref (a22), .ref (a23), .null, .int (0)])) := by rw [hV26]; exact vup_s _ _ _
  have pv : ∀ j, j ≠ 10 → V26 j = V25 j := fun j hj => by rw [hV26]; exact vup_n _ _ hj
  have v11 : V26 11 = some (.inl (G.2.2.1.1, 4, .inl (fun _ => 0))) := (pv 11 (by decide)).trans v11
  have v12 : V26 12 = some (.inl (G.2.2.1.1, 16, .inl (fun _ => 0))) := (pv 12 (by decide)).trans v12
  have v13 : V26 13 = some (.inl (G.2.2.1.1, 16, .inl (fun _ => 0))) := (pv 13 (by decide)).trans v13
  have v14 : V26 14 = some (.inl (G.2.2.1.1, 16, .inl (fun _ => 0))) := (pv 14 (by decide)).trans v14
  have v15 : V26 15 = some (.inl (G.2.2.1.1, 16, .inl (fun _ => 0))) := (pv 15 (by decide)).trans v15
  have v16 : V26 16 = some (.inl (G.2.2.1.1, 16, .inl (fun _ => 0))) := (pv 16 (by decide)).trans v16
  have v17 : V26 17 = some (.inl (G.2.2.1.2, 16, .inl (fun _ => 0))) := (pv 17 (by decide)).trans v17
  have v18 : V26 18 = some (.inl (G.2.2.1.2, 365, .inl (fun _ => 0))) := (pv 18 (by decide)).trans v18
  have v19 : V26 19 = some (.inl (G.2.2.1.1, 12, .inl (fun _ => 0))) := (pv 19 (by decide)).trans v19
  have v20 : V26 20 = some (.inl (G.2.2.1.1, 80, .inl (fun _ => 0))) := (pv 20 (by decide)).trans v20
  have v21 : V26 21 = some (.inl (G.2.2.1.1, 80, .inl (fun _ => 0))) := (pv 21 (by decide)).trans v21
  have v22 : V26 22 = some (.inl (G.2.2.1.1, 80, .inl (fun _ => 0))) := (pv 22 (by decide)).trans v22
  have v23 : V26 23 = some (.inl (G.2.2.1.1, 80, .inl (fun _ => 0))) := (pv 23 (by decide)).trans v23
  have hN : ∀ j, 24 ≤ j → j < 25 → V26 j = none := fun j hj hj2 => (pv j (by omega)).trans (hN j (by omega) hj2)
  have hVo : ∀ j, ¬ (10 ≤ j ∧ j < 25) → V26 j = V j := fun j hj => (pv j (by omega)).trans (hVo j hj)
  refine lv_aload_n hx hb dX4_init_108 rfl (lv_at hl 0 rfl) ?_
  refine lv_bipush (v := (80)) hx hb dX4_init_109 (by decide) ?_
  refine mnewZ hx hb ac1 hw hS 80 (by decide +kernel) (by decide) 24 (hN 24 (by omega) (by omega)) (Nat.le_of_ble_eq_true rfl) (Nat.le_of_ble_eq_true rfl) dX4_init_111 (fun α24 H pa hw hS => ?_)
  obtain ⟨V27, hV27⟩ : ∃ z9 : mV, z9 = vup V26 24 (.inl (G.2.2.1.2, 80, .inl (fun _ => 0))) := ⟨_, rfl⟩
  have hw : mW G V27 α24 s H := by rw [hV27]; exact hw
  have v24 : V27 24 = some (.inl (G.2.2.1.2, 80, .inl (fun _ => 0))) := by rw [hV27]; exact vup_s _ _ _
  have pv : ∀ j, j ≠ 24 → V27 j = V26 j := fun j hj => by rw [hV27]; exact vup_n _ _ hj
  have v10 : V27 10 = some (.inr (5, [.ref (a11), .int (0), .ref (a12), .ref (a13), .ref (a14), .ref (a15), .ref (a16), .ref (a17), .ref (a18), .int (0), .ref (a19), .int (0), .ref (a20), .ref (a21), .ref (a22), .ref (a23), .null, .int (0)])) := (pv 10 (by decide)).trans v10
  have v11 : V27 11 = some (.inl (G.2.2.1.1, 4, .inl (fun _ => 0))) := (pv 11 (by decide)).trans v11
  have v12 : V27 12 = some (.inl (G.2.2.1.1, 16, .inl (fun _ => 0))) := (pv 12 (by decide)).trans v12
  have v13 : V27 13 = some (.inl (G.2.2.1.1, 16, .inl (fun _ => 0))) := (pv 13 (by decide)).trans v13
  have v14 : V27 14 = some (.inl (G.2.2.1.1, 16, .inl (fun _ => 0))) := (pv 14 (by decide)).trans v14
  have v15 : V27 15 = some (.inl (G.2.2.1.1, 16, .inl (fun _ => 0))) := (pv 15 (by decide)).trans v15
  have v16 : V27 16 = some (.inl (G.2.2.1.1, 16, .inl (fun _ => 0))) := (pv 16 (by decide)).trans v16
  have v17 : V27 17 = some (.inl (G.2.2.1.2, 16, .inl (fun _ => 0))) := (pv 17 (by decide)).trans v17
  have v18 : V27 18 = some (.inl (G.2.2.1.2, 365, .inl (fun _ => 0))) := (pv 18 (by decide)).trans v18
  have v19 : V27 19 = some (.inl (G.2.2.1.1, 12, .inl (fun _ => 0))) := (pv 19 (by decide)).trans v19
  have v20 : V27 20 = some (.inl (G.2.2.1.1, 80, .inl (fun _ => 0))) := (pv 20 (by decide)).trans v20
  have v21 : V27 21 = some (.inl (G.2.2.1.1, 80, .inl (fun _ => 0))) := (pv 21 (by decide)).trans v21
  have v22 : V27 22 = some (.inl (G.2.2.1.1, 80, .inl (fun _ => 0))) := (pv 22 (by decide)).trans v22
  have v23 : V27 23 = some (.inl (G.2.2.1.1, 80, .inl (fun _ => 0))) := (pv 23 (by decide)).trans v23
  have e10 : α24 10 = a10 := (pa 10 (by decide)).trans e10
  have e11 : α24 11 = a11 := (pa 11 (by decide)).trans e11
  have e12 : α24 12 = a12 := (pa 12 (by decide)).trans e12
  have e13 : α24 13 = a13 := (pa 13 (by decide)).trans e13
  have e14 : α24 14 = a14 := (pa 14 (by decide)).trans e14
  have e15 : α24 15 = a15 := (pa 15 (by decide)).trans e15
  have e16 : α24 16 = a16 := (pa 16 (by decide)).trans e16
  have e17 : α24 17 = a17 := (pa 17 (by decide)).trans e17
  have e18 : α24 18 = a18 := (pa 18 (by decide)).trans e18
  have e19 : α24 19 = a19 := (pa 19 (by decide)).trans e19
  have e20 : α24 20 = a20 := (pa 20 (by decide)).trans e20
  have e21 : α24 21 = a21 := (pa 21 (by decide)).trans e21
  have e22 : α24 22 = a22 := (pa 22 (by decide)).trans e22
  have e23 : α24 23 = a23 := (pa 23 (by decide)).trans e23
  obtain ⟨a24, e24⟩ : ∃ a, α24 24 = a := ⟨_, rfl⟩
  have hαo : ∀ j, ¬ (11 ≤ j ∧ j < 25) → α24 j = α j := fun j hj => (pa j (by omega)).trans (hαo j hj)
  have hN : ∀ j, 25 ≤ j → j < 25 → V27 j = none := fun j hj hj2 => (pv j (by omega)).trans (hN j (by omega) hj2)
  have hVo : ∀ j, ¬ (10 ≤ j ∧ j < 25) → V27 j = V j := fun j hj => (pv j (by omega)).trans (hVo j hj)
  refine W.eq (g2 := F0 m 113 ls [.ref (a24), .ref (α24 10)]) (by rw [e10, e24]) ?_
  refine mputF (C := RX4) (T := TX4) (N := 18) (ci := 5) hx hb hts in_X4 tyX4 tyX4_ok nmX4 hown hw hS v10 rfl 16 (by decide) fl_50 rfl hin rfl rfl rfl (Nat.le_of_ble_eq_true rfl) dX4_init_113 (fun H locs hw hS => ?_)
  obtain ⟨V28, hV28⟩ : ∃ z9 : mV, z9 = vup V27 10 (.inr (5, [.ref (a11), .int (0), .ref (a12), .ref (a13), .ref (a14), .ref (a15), .ref (a16), .ref (a17), .ref (a18), .int (0), .ref (a19), .int (0), .ref (a20), .ref (a21), .ref (a22), .ref (a23), .ref (a24), .int (0)])) := ⟨_, rfl⟩
  have hw : mW G V28 α24 s H := by rw [hV28]; exact hw
  have v10 : V28 10 = some (.inr (5, [.ref (a11), .int (0), .ref (a12), .ref (a13), .ref (a14), .ref (a15), .ref (a16), .ref (a17), .ref (a18), .int (0), .ref (a19), .int (0), .ref (a20), .ref (a21), .ref (a22), .ref (a23), .ref (a24), .int (0)])) := by rw [hV28]; exact vup_s _ _ _
  have pv : ∀ j, j ≠ 10 → V28 j = V27 j := fun j hj => by rw [hV28]; exact vup_n _ _ hj
  have v11 : V28 11 = some (.inl (G.2.2.1.1, 4, .inl (fun _ => 0))) := (pv 11 (by decide)).trans v11
  have v12 : V28 12 = some (.inl (G.2.2.1.1, 16, .inl (fun _ => 0))) := (pv 12 (by decide)).trans v12
  have v13 : V28 13 = some (.inl (G.2.2.1.1, 16, .inl (fun _ => 0))) := (pv 13 (by decide)).trans v13
  have v14 : V28 14 = some (.inl (G.2.2.1.1, 16, .inl (fun _ => 0))) := (pv 14 (by decide)).trans v14
  have v15 : V28 15 = some (.inl (G.2.2.1.1, 16, .inl (fun _ => 0))) := (pv 15 (by decide)).trans v15
  have v16 : V28 16 = some (.inl (G.2.2.1.1, 16, .inl (fun _ => 0))) := (pv 16 (by decide)).trans v16
  have v17 : V28 17 = some (.inl (G.2.2.1.2, 16, .inl (fun _ => 0))) := (pv 17 (by decide)).trans v17
  have v18 : V28 18 = some (.inl (G.2.2.1.2, 365, .inl (fun _ => 0))) := (pv 18 (by decide)).trans v18
  have v19 : V28 19 = some (.inl (G.2.2.1.1, 12, .inl (fun _ => 0))) := (pv 19 (by decide)).trans v19
  have v20 : V28 20 = some (.inl (G.2.2.1.1, 80, .inl (fun _ => 0))) := (pv 20 (by decide)).trans v20
  have v21 : V28 21 = some (.inl (G.2.2.1.1, 80, .inl (fun _ => 0))) := (pv 21 (by decide)).trans v21
  have v22 : V28 22 = some (.inl (G.2.2.1.1, 80, .inl (fun _ => 0))) := (pv 22 (by decide)).trans v22
  have v23 : V28 23 = some (.inl (G.2.2.1.1, 80, .inl (fun _ => 0))) := (pv 23 (by decide)).trans v23
  have v24 : V28 24 = some (.inl (G.2.2.1.2, 80, .inl (fun _ => 0))) := (pv 24 (by decide)).trans v24
  have hN : ∀ j, 25 ≤ j → j < 25 → V28 j = none := fun j hj hj2 => (pv j (by omega)).trans (hN j (by omega) hj2)
  have hVo : ∀ j, ¬ (10 ≤ j ∧ j < 25) → V28 j = V j := fun j hj => (pv j (by omega)).trans (hVo j hj)
  refine lv_iconst (v := (0)) hx hb dX4_init_116 (by decide) ?_
  refine lv_istore_n (lv' := [(1, .int (0)), (0, .ref (a10))]) hx hb dX4_init_117 rfl hl (by decide) rfl (fun ls hl => ?_)
  have hl : lv_has ls 2 [(1, .int (nI (0))), (0, .ref (a10))] := hl
  refine mloopW 4 (fun j => [(1, .int (nI (j))), (0, .ref (a10))]) (fun j U1 => U1 11 = some (.inl (G.2.2.1.1, 4, .inl (fb j))) ∧ ∀ i, i ≠ 11 → U1 i = V28 i) (fun U1 H locs hI hw hS ls hl => ?_) (fun j hj ih U1 H locs hI hw hS ls hl => ?_) V28 H locs ⟨v11, fun _ _ => rfl⟩ hw hS ls hl
  ·
    obtain ⟨v11, pv⟩ := hI
    refine lv_iload_n hx hb dX4_init_118 rfl (lv_at hl 0 rfl) ?_
    refine lv_iconst (v := (4)) hx hb dX4_init_119 (by decide) ?_
    refine lv_icmp_ge (tgt := 138) hx hb dX4_init_120 (by decide) (fun _ => ?_) (fun z9 => absurd (by decide) z9)
    have v10 : U1 10 = some (.inr (5, [.ref (a11), .int (0), .ref (a12), .ref (a13), .ref (a14), .ref (a15), .ref (a16), .ref (a17), .ref (a18), .int (0), .ref (a19), .int (0), .ref (a20), .ref (a21), .ref (a22), .ref (a23), .ref (a24), .int (0)])) := (pv 10 (by decide)).trans v10
    have v12 : U1 12 = some (.inl (G.2.2.1.1, 16, .inl (fun _ => 0))) := (pv 12 (by decide)).trans v12
    have v13 : U1 13 = some (.inl (G.2.2.1.1, 16, .inl (fun _ => 0))) := (pv 13 (by decide)).trans v13
    have v14 : U1 14 = some (.inl (G.2.2.1.1, 16, .inl (fun _ => 0))) := (pv 14 (by decide)).trans v14
    have v15 : U1 15 = some (.inl (G.2.2.1.1, 16, .inl (fun _ => 0))) := (pv 15 (by decide)).trans v15
    have v16 : U1 16 = some (.inl (G.2.2.1.1, 16, .inl (fun _ => 0))) := (pv 16 (by decide)).trans v16
    have v17 : U1 17 = some (.inl (G.2.2.1.2, 16, .inl (fun _ => 0))) := (pv 17 (by decide)).trans v17
    have v18 : U1 18 = some (.inl (G.2.2.1.2, 365, .inl (fun _ => 0))) := (pv 18 (by decide)).trans v18
    have v19 : U1 19 = some (.inl (G.2.2.1.1, 12, .inl (fun _ => 0))) := (pv 19 (by decide)).trans v19
    have v20 : U1 20 = some (.inl (G.2.2.1.1, 80, .inl (fun _ => 0))) := (pv 20 (by decide)).trans v20
    have v21 : U1 21 = some (.inl (G.2.2.1.1, 80, .inl (fun _ => 0))) := (pv 21 (by decide)).trans v21
    have v22 : U1 22 = some (.inl (G.2.2.1.1, 80, .inl (fun _ => 0))) := (pv 22 (by decide)).trans v22
    have v23 : U1 23 = some (.inl (G.2.2.1.1, 80, .inl (fun _ => 0))) := (pv 23 (by decide)).trans v23
    have v24 : U1 24 = some (.inl (G.2.2.1.2, 80, .inl (fun _ => 0))) := (pv 24 (by decide)).trans v24
    have hVo : ∀ j, ¬ (10 ≤ j ∧ j < 25) → U1 j = V j := fun j hj => (pv j (by omega)).trans (hVo j hj)
    refine W.widen (k := 14) (n := 877) (by decide) (by decide) ?_
    have hMo : mM G U1 α24 f00 0 0 0 0 := ⟨by rw [v10]; unfold mobj; rw [e11, e12, e13, e14, e15, e16, e17, e18, e19, e20, e21, e22, e23, e24]; rfl, v11, v12, v13, v14, v15, v16, v17, v18, v19, v20, v21, v22, v23, v24⟩
    exact W.vret hx hb hr (fun t ht hW => ⟨⟨(U1, α24), rfl, ⟨hMo, hVo, hαo⟩, by show mH G U1 α24 t.heap; rw [ht]; exact hw.2.2⟩, hS.F ht⟩) hS.2.2 dX4_init_138
  ·
    refine lv_iload_n hx hb dX4_init_118 rfl (lv_at hl 0 rfl) ?_
    refine lv_iconst (v := (4)) hx hb dX4_init_119 (by decide) ?_
    refine lv_icmp_ge (tgt := 138) hx hb dX4_init_120 (by decide) (fun z9 => absurd z9 (nI_ge hj (by decide))) (fun _ => ?_)
    refine lv_aload_n hx hb dX4_init_123 rfl (lv_at hl 1 rfl) ?_
    refine W.eq (g2 := F0 m 124 ls [.ref (α24 10)]) (by rw [e10]) ?_
    refine mget (C := RX4) (T := TX4) (N := 18) (ci := 5) hx hb hts in_X4 hown hw ((hI.2 10 (by decide)).trans v10) rfl 0 (by decide) fl_7 rfl dX4_init_124 ?_
    refine W.eq (g2 := F0 m 127 ls [.ref (α24 11)]) (by rw [e11]) ?_
    refine lv_iload_n hx hb dX4_init_127 rfl (lv_at hl 0 rfl) ?_
    refine lv_sipush (v := (500)) hx hb dX4_init_128 (by decide) ?_
    refine miast' (k := j) hx hb hw hS hI.1 rfl hj (by decide) dX4_init_131 (fun H locs hw hS => ?_)
    refine lv_iinc (v := nI (j + 1)) (lv' := [(1, .int (nI (j + 1))), (0, .ref (a10))]) hx hb dX4_init_132 hl (k := 0) rfl (nI_1 (j)) (by decide) rfl (fun ls hl => ?_)
    refine lv_goto (tgt := 118) hx hb dX4_init_135 (by decide) ?_
    exact ih _ _ _ ⟨vup_s _ _ _, fun i hi => (vup_n _ _ hi).trans (hI.2 i hi)⟩ hw hS ls hl
