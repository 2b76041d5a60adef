/-! what the numbers mean: f 0 base, 1 weekdays, 2 from, 3 to, 4 ranks, 5 percent, 6 off, 7 holiday, 8 rank, 9 by, 10 start, 11 length, 12 taken, 13 gone -/
abbrev sT : Type := Nat → Nat → Int32
theorem mdiv {a : Nat} (h : a < 2 ^ 31) (d : Nat) (h0 : 0 < d) (hd : d < 2 ^ 31) : nI a / nI d = nI (a / d) := pk_div h h0 hd
theorem mrem {a : Nat} (h : a < 2 ^ 31) (d : Nat) (h0 : 0 < d) (hd : d < 2 ^ 31) : nI a - nI a / nI d * nI d = nI (a % d) := pk_rem h h0 hd
def s_ovt (q : Int32) : Int32 := if q < 40 then (if q < 32 then 100 else 150) else 200
def s_paid (f : sT) (s : Nat) : Int32 := if f 13 s = 0 then (if 12 ≤ f 11 s then f 11 s else 12) else 0
def s_owed (x : Int32) : Int32 := if x < 40 then (if x < 20 then 0 else 1) else 2
def s_lacks (f : sT) (s : Nat) : Int32 := if f 13 s = 0 then (if f 12 s ≤ s_owed (f 11 s) then s_owed (f 11 s) - f 12 s else 0) else 0
def s_on (f : sT) (k d : Nat) : Int32 := if f 1 k = 0 then f 7 d else bI ((f 1 k >>> ((nI d - nI d / 7 * 7) &&& 31)) &&& 1 = 1)
abbrev s_ap (f : sT) (k n : Nat) (r : Int32) : Prop := ¬ s_on f k (n / 96) = 0 ∧ f 6 k = 0 ∧ (f 4 k >>> (r &&& 31)) &&& 1 = 1 ∧ ¬ nI (n % 96) < f 2 k ∧ ¬ f 3 k ≤ nI (n % 96)
/-- the greatest percentage among the first rules -/
def s_P (f : sT) (w a q : Nat) : Nat → Int32
  | 0 => s_ovt (nI q)
  | k + 1 => if ¬ f 5 k ≤ s_P f w a q k ∧ s_ap f k (a + q) (f 8 w) then f 5 k else s_P f w a q k
/-- the first rule with this percentage that applies, among the first rules -/
def s_G (f : sT) (w a q : Nat) (x : Int32) : Nat → Option Nat
  | 0 => none
  | k + 1 => match s_G f w a q x k with
    | some i => some i
    | none => if f 5 k = x ∧ s_ap f k (a + q) (f 8 w) then some k else none
theorem s_G_mono {f : sT} {w a q : Nat} {x : Int32} {j i : Nat} (h : s_G f w a q x j = some i) : ∀ n, s_G f w a q x (j + n) = some i
  | 0 => h
  | n + 1 => by
    have e : s_G f w a q x (j + (n + 1)) = match s_G f w a q x (j + n) with
      | some i => some i
      | none => if f 5 (j + n) = x ∧ s_ap f (j + n) (a + q) (f 8 w) then some (j + n) else none := rfl
    rw [e, s_G_mono h n]
theorem s_G_le {f : sT} {w a q : Nat} {x : Int32} {j i n : Nat} (h : s_G f w a q x j = some i) (hn : j ≤ n) : s_G f w a q x n = some i := by
  have := s_G_mono h (n - j)
  rwa [show j + (n - j) = n by omega] at this
theorem s_G_hit {f : sT} {w a q : Nat} {x : Int32} {j : Nat} (h : s_G f w a q x j = none) (c : f 5 j = x ∧ s_ap f j (a + q) (f 8 w)) : s_G f w a q x (j + 1) = some j := by
  have e : s_G f w a q x (j + 1) = match s_G f w a q x j with
      | some i => some i
      | none => if f 5 j = x ∧ s_ap f j (a + q) (f 8 w) then some j else none := rfl
  rw [e, h]
  exact if_pos c
theorem s_G_miss {f : sT} {w a q : Nat} {x : Int32} {j : Nat} (h : s_G f w a q x j = none) (c : ¬ (f 5 j = x ∧ s_ap f j (a + q) (f 8 w))) : s_G f w a q x (j + 1) = none := by
  have e : s_G f w a q x (j + 1) = match s_G f w a q x j with
      | some i => some i
      | none => if f 5 j = x ∧ s_ap f j (a + q) (f 8 w) then some j else none := rfl
  rw [e, h]
  exact if_neg c
def s_R0 (o : Option Nat) (x y : Int32) : Int32 := match o with
  | some k => nI k
  | none => if x ≤ 100 then -1 else if x = y then -2 else -1
def s_R (f : sT) (nr w a q : Nat) : Int32 := s_R0 (s_G f w a q (s_P f w a q nr) nr) (s_P f w a q nr) (s_ovt (nI q))
def s_amt (f : sT) (nr w a r q : Nat) : Int32 := f 0 r * s_P f w a q nr / 100
def s_sum (f : sT) (nr s w a r : Nat) : Nat → Int32
  | 0 => 2 * s_lacks f s * f 0 r
  | j + 1 => s_sum f nr s w a r j + s_amt f nr w a r j
abbrev inn (x lo hi : Int32) : Prop := ¬ x < lo ∧ ¬ hi < x
abbrev mobj (α : Nat → Nat) (nr nw ns : Nat) (th : Int32) : va_E := .inr (5, [.ref (α 11), .int (nI nr), .ref (α 12), .ref (α 13), .ref (α 14), .ref (α 15), .ref (α 16), .ref (α 17), .ref (α 18), .int (nI nw), .ref (α 19), .int (nI ns), .ref (α 20), .ref (α 21), .ref (α 22), .ref (α 23), .ref (α 24), .int th])
/-- the model's cells -/
def mM (G : mG) (V : mV) (α : Nat → Nat) (f : sT) (nr nw ns : Nat) (th : Int32) : Prop :=
  V 10 = some (mobj α nr nw ns th) ∧
  V 11 = some (.inl (G.2.2.1.1, 4, .inl (f 0))) ∧ V 12 = some (.inl (G.2.2.1.1, 16, .inl (f 1))) ∧ V 13 = some (.inl (G.2.2.1.1, 16, .inl (f 2))) ∧ V 14 = some (.inl (G.2.2.1.1, 16, .inl (f 3))) ∧ V 15 = some (.inl (G.2.2.1.1, 16, .inl (f 4))) ∧ V 16 = some (.inl (G.2.2.1.1, 16, .inl (f 5))) ∧ V 17 = some (.inl (G.2.2.1.2, 16, .inl (f 6))) ∧ V 18 = some (.inl (G.2.2.1.2, 365, .inl (f 7))) ∧ V 19 = some (.inl (G.2.2.1.1, 12, .inl (f 8))) ∧ V 20 = some (.inl (G.2.2.1.1, 80, .inl (f 9))) ∧ V 21 = some (.inl (G.2.2.1.1, 80, .inl (f 10))) ∧ V 22 = some (.inl (G.2.2.1.1, 80, .inl (f 11))) ∧ V 23 = some (.inl (G.2.2.1.1, 80, .inl (f 12))) ∧ V 24 = some (.inl (G.2.2.1.2, 80, .inl (f 13)))
def u2 (f : sT) (j k : Nat) (x : Int32) : sT := fun i => if i = j then upd (f j) k x else f i
theorem u2_n (f : sT) (j k : Nat) (x : Int32) {i : Nat} (h : i ≠ j) : u2 f j k x i = f i := if_neg h
theorem u2_s (f : sT) (j k : Nat) (x : Int32) : u2 f j k x j = upd (f j) k x := if_pos rfl
theorem mM.obj {G : mG} {V : mV} {α : Nat → Nat} {f : sT} {nr nw ns : Nat} {th : Int32} (h : mM G V α f nr nw ns th) (nr1 nw1 ns1 : Nat) (th1 : Int32) : mM G (vup V 10 (mobj α nr1 nw1 ns1 th1)) α f nr1 nw1 ns1 th1 := by
  obtain ⟨m10, m11, m12, m13, m14, m15, m16, m17, m18, m19, m20, m21, m22, m23, m24⟩ := h
  exact ⟨vup_s _ _ _, (vup_n _ _ (by decide)).trans m11, (vup_n _ _ (by decide)).trans m12, (vup_n _ _ (by decide)).trans m13, (vup_n _ _ (by decide)).trans m14, (vup_n _ _ (by decide)).trans m15, (vup_n _ _ (by decide)).trans m16, (vup_n _ _ (by decide)).trans m17, (vup_n _ _ (by decide)).trans m18, (vup_n _ _ (by decide)).trans m19, (vup_n _ _ (by decide)).trans m20, (vup_n _ _ (by decide)).trans m21, (vup_n _ _ (by decide)).trans m22, (vup_n _ _ (by decide)).trans m23, (vup_n _ _ (by decide)).trans m24⟩
theorem mM.a0 {G : mG} {V : mV} {α : Nat → Nat} {f : sT} {nr nw ns : Nat} {th : Int32} (h : mM G V α f nr nw ns th) (k : Nat) (x : Int32) : mM G (vup V 11 (.inl (G.2.2.1.1, 4, .inl (upd (f 0) k x)))) α (u2 f 0 k x) nr nw ns th := by
  obtain ⟨m10, m11, m12, m13, m14, m15, m16, m17, m18, m19, m20, m21, m22, m23, m24⟩ := h
  exact ⟨(vup_n _ _ (by decide)).trans m10, by rw [vup_s, u2_s], by rw [vup_n _ _ (by decide), u2_n _ _ _ _ (by decide)]; exact m12, by rw [vup_n _ _ (by decide), u2_n _ _ _ _ (by decide)]; exact m13, by rw [vup_n _ _ (by decide), u2_n _ _ _ _ (by decide)]; exact m14, by rw [vup_n _ _ (by decide), u2_n _ _ _ _ (by decide)]; exact m15, by rw [vup_n _ _ (by decide), u2_n _ _ _ _ (by decide)]; exact m16, by rw [vup_n _ _ (by decide), u2_n _ _ _ _ (by decide)]; exact m17, by rw [vup_n _ _ (by decide), u2_n _ _ _ _ (by decide)]; exact m18, by rw [vup_n _ _ (by decide), u2_n _ _ _ _ (by decide)]; exact m19, by rw [vup_n _ _ (by decide), u2_n _ _ _ _ (by decide)]; exact m20, by rw [vup_n _ _ (by decide), u2_n _ _ _ _ (by decide)]; exact m21, by rw [vup_n _ _ (by decide), u2_n _ _ _ _ (by decide)]; exact m22, by rw [vup_n _ _ (by decide), u2_n _ _ _ _ (by decide)]; exact m23, by rw [vup_n _ _ (by decide), u2_n _ _ _ _ (by decide)]; exact m24⟩
theorem mM.a1 {G : mG} {V : mV} {α : Nat → Nat} {f : sT} {nr nw ns : Nat} {th : Int32} (h : mM G V α f nr nw ns th) (k : Nat) (x : Int32) : mM G (vup V 12 (.inl (G.2.2.1.1, 16, .inl (upd (f 1) k x)))) α (u2 f 1 k x) nr nw ns th := by
  obtain ⟨m10, m11, m12, m13, m14, m15, m16, m17, m18, m19, m20, m21, m22, m23, m24⟩ := h
  exact ⟨(vup_n _ _ (by decide)).trans m10, by rw [vup_n _ _ (by decide), u2_n _ _ _ _ (by decide)]; exact m11, by rw [vup_s, u2_s], by rw [vup_n _ _ (by decide), u2_n _ _ _ _ (by decide)]; exact m13, by rw [vup_n _ _ (by decide), u2_n _ _ _ _ (by decide)]; exact m14, by rw [vup_n _ _ (by decide), u2_n _ _ _ _ (by decide)]; exact m15, by rw [vup_n _ _ (by decide), u2_n _ _ _ _ (by decide)]; exact m16, by rw [vup_n _ _ (by decide), u2_n _ _ _ _ (by decide)]; exact m17, by rw [vup_n _ _ (by decide), u2_n _ _ _ _ (by decide)]; exact m18, by rw [vup_n _ _ (by decide), u2_n _ _ _ _ (by decide)]; exact m19, by rw [vup_n _ _ (by decide), u2_n _ _ _ _ (by decide)]; exact m20, by rw [vup_n _ _ (by decide), u2_n _ _ _ _ (by decide)]; exact m21, by rw [vup_n _ _ (by decide), u2_n _ _ _ _ (by decide)]; exact m22, by rw [vup_n _ _ (by decide), u2_n _ _ _ _ (by decide)]; exact m23, by rw [vup_n _ _ (by decide), u2_n _ _ _ _ (by decide)]; exact m24⟩
theorem mM.a2 {G : mG} {V : mV} {α : Nat → Nat} {f : sT} {nr nw ns : Nat} {th : Int32} (h : mM G V α f nr nw ns th) (k : Nat) (x : Int32) : mM G (vup V 13 (.inl (G.2.2.1.1, 16, .inl (upd (f 2) k x)))) α (u2 f 2 k x) nr nw ns th := by
  obtain ⟨m10, m11, m12, m13, m14, m15, m16, m17, m18, m19, m20, m21, m22, m23, m24⟩ := h
  exact ⟨(vup_n _ _ (by decide)).trans m10, by rw [vup_n _ _ (by decide), u2_n _ _ _ _ (by decide)]; exact m11, by rw [vup_n _ _ (by decide), u2_n _ _ _ _ (by decide)]; exact m12, by rw [vup_s, u2_s], by rw [vup_n _ _ (by decide), u2_n _ _ _ _ (by decide)]; exact m14, by rw [vup_n _ _ (by decide), u2_n _ _ _ _ (by decide)]; exact m15, by rw [vup_n _ _ (by decide), u2_n _ _ _ _ (by decide)]; exact m16, by rw [vup_n _ _ (by decide), u2_n _ _ _ _ (by decide)]; exact m17, by rw [vup_n _ _ (by decide), u2_n _ _ _ _ (by decide)]; exact m18, by rw [vup_n _ _ (by decide), u2_n _ _ _ _ (by decide)]; exact m19, by rw [vup_n _ _ (by decide), u2_n _ _ _ _ (by decide)]; exact m20, by rw [vup_n _ _ (by decide), u2_n _ _ _ _ (by decide)]; exact m21, by rw [vup_n _ _ (by decide), u2_n _ _ _ _ (by decide)]; exact m22, by rw [vup_n _ _ (by decide), u2_n _ _ _ _ (by decide)]; exact m23, by rw [vup_n _ _ (by decide), u2_n _ _ _ _ (by decide)]; exact m24⟩
theorem mM.a3 {G : mG} {V : mV} {α : Nat → Nat} {f : sT} {nr nw ns : Nat} {th : Int32} (h : mM G V α f nr nw ns th) (k : Nat) (x : Int32) : mM G (vup V 14 (.inl (G.2.2.1.1, 16, .inl (upd (f 3) k x)))) α (u2 f 3 k x) nr nw ns th := by
  obtain ⟨m10, m11, m12, m13, m14, m15, m16, m17, m18, m19, m20, m21, m22, m23, m24⟩ := h
  exact ⟨(vup_n _ _ (by decide)).trans m10, by rw [vup_n _ _ (by decide), u2_n _ _ _ _ (by decide)]; exact m11, by rw [vup_n _ _ (by decide), u2_n _ _ _ _ (by decide)]; exact m12, by rw [vup_n _ _ (by decide), u2_n _ _ _ _ (by decide)]; exact m13, by rw [vup_s, u2_s], by rw [vup_n _ _ (by decide), u2_n _ _ _ _ (by decide)]; exact m15, by rw [vup_n _ _ (by decide), u2_n _ _ _ _ (by decide)]; exact m16, by rw [vup_n _ _ (by decide), u2_n _ _ _ _ (by decide)]; exact m17, by rw [vup_n _ _ (by decide), u2_n _ _ _ _ (by decide)]; exact m18, by rw [vup_n _ _ (by decide), u2_n _ _ _ _ (by decide)]; exact m19, by rw [vup_n _ _ (by decide), u2_n _ _ _ _ (by decide)]; exact m20, by rw [vup_n _ _ (by decide), u2_n _ _ _ _ (by decide)]; exact m21, by rw [vup_n _ _ (by decide), u2_n _ _ _ _ (by decide)]; exact m22, by rw [vup_n _ _ (by decide), u2_n _ _ _ _ (by decide)]; exact m23, by rw [vup_n _ _ (by decide), u2_n _ _ _ _ (by decide)]; exact m24⟩
theorem mM.a4 {G : mG} {V : mV} {α : Nat → Nat} {f : sT} {nr nw ns : Nat} {th : Int32} (h : mM G V α f nr nw ns th) (k : Nat) (x : Int32) : mM G (vup V 15 (.inl (G.2.2.1.1, 16, .inl (upd (f 4) k x)))) α (u2 f 4 k x) nr nw ns th := by
  obtain ⟨m10, m11, m12, m13, m14, m15, m16, m17, m18, m19, m20, m21, m22, m23, m24⟩ := h
  exact ⟨(vup_n _ _ (by decide)).trans m10, by rw [vup_n _ _ (by decide), u2_n _ _ _ _ (by decide)]; exact m11, by rw [vup_n _ _ (by decide), u2_n _ _ _ _ (by decide)]; exact m12, by rw [vup_n _ _ (by decide), u2_n _ _ _ _ (by decide)]; exact m13, by rw [vup_n _ _ (by decide), u2_n _ _ _ _ (by decide)]; exact m14, by rw [vup_s, u2_s], by rw [vup_n _ _ (by decide), u2_n _ _ _ _ (by decide)]; exact m16, by rw [vup_n _ _ (by decide), u2_n _ _ _ _ (by decide)]; exact m17, by rw [vup_n _ _ (by decide), u2_n _ _ _ _ (by decide)]; exact m18, by rw [vup_n _ _ (by decide), u2_n _ _ _ _ (by decide)]; exact m19, by rw [vup_n _ _ (by decide), u2_n _ _ _ _ (by decide)]; exact m20, by rw [vup_n _ _ (by decide), u2_n _ _ _ _ (by decide)]; exact m21, by rw [vup_n _ _ (by decide), u2_n _ _ _ _ (by decide)]; exact m22, by rw [vup_n _ _ (by decide), u2_n _ _ _ _ (by decide)]; exact m23, by rw [vup_n _ _ (by decide), u2_n _ _ _ _ (by decide)]; exact m24⟩
theorem mM.a5 {G : mG} {V : mV} {α : Nat → Nat} {f : sT} {nr nw ns : Nat} {th : Int32} (h : mM G V α f nr nw ns th) (k : Nat) (x : Int32) : mM G (vup V 16 (.inl (G.2.2.1.1, 16, .inl (upd (f 5) k x)))) α (u2 f 5 k x) nr nw ns th := by
  obtain ⟨m10, m11, m12, m13, m14, m15, m16, m17, m18, m19, m20, m21, m22, m23, m24⟩ := h
  exact ⟨(vup_n _ _ (by decide)).trans m10, by rw [vup_n _ _ (by decide), u2_n _ _ _ _ (by decide)]; exact m11, by rw [vup_n _ _ (by decide), u2_n _ _ _ _ (by decide)]; exact m12, by rw [vup_n _ _ (by decide), u2_n _ _ _ _ (by decide)]; exact m13, by rw [vup_n _ _ (by decide), u2_n _ _ _ _ (by decide)]; exact m14, by rw [vup_n _ _ (by decide), u2_n _ _ _ _ (by decide)]; exact m15, by rw [vup_s, u2_s], by rw [vup_n _ _ (by decide), u2_n _ _ _ _ (by decide)]; exact m17, by rw [vup_n _ _ (by decide), u2_n _ _ _ _ (by decide)]; exact m18, by rw [vup_n _ _ (by decide), u2_n _ _ _ _ (by decide)]; exact m19, by rw [vup_n _ _ (by decide), u2_n _ _ _ _ (by decide)]; exact m20, by rw [vup_n _ _ (by decide), u2_n _ _ _ _ (by decide)]; exact m21, by rw [vup_n _ _ (by decide), u2_n _ _ _ _ (by decide)]; exact m22, by rw [vup_n _ _ (by decide), u2_n _ _ _ _ (by decide)]; exact m23, by rw [vup_n _ _ (by decide), u2_n _ _ _ _ (by decide)]; exact m24⟩
theorem mM.a6 {G : mG} {V : mV} {α : Nat → Nat} {f : sT} {nr nw ns : Nat} {th : Int32} (h : mM G V α f nr nw ns th) (k : Nat) (x : Int32) : mM G (vup V 17 (.inl (G.2.2.1.2, 16, .inl (upd (f 6) k x)))) α (u2 f 6 k x) nr nw ns th := by
  obtain ⟨m10, m11, m12, m13, m14, m15, m16, m17, m18, m19, m20, m21, m22, m23, m24⟩ := h
  exact ⟨(vup_n _ _ (by decide)).trans m10, by rw [vup_n _ _ (by decide), u2_n _ _ _ _ (by decide)]; exact m11, by rw [vup_n _ _ (by decide), u2_n _ _ _ _ (by decide)]; exact m12, by rw [vup_n _ _ (by decide), u2_n _ _ _ _ (by decide)]; exact m13, by rw [vup_n _ _ (by decide), u2_n _ _ _ _ (by decide)]; exact m14, by rw [vup_n _ _ (by decide), u2_n _ _ _ _ (by decide)]; exact m15, by rw [vup_n _ _ (by decide), u2_n _ _ _ _ (by decide)]; exact m16, by rw [vup_s, u2_s], by rw [vup_n _ _ (by decide), u2_n _ _ _ _ (by decide)]; exact m18, by rw [vup_n _ _ (by decide), u2_n _ _ _ _ (by decide)]; exact m19, by rw [vup_n _ _ (by decide), u2_n _ _ _ _ (by decide)]; exact m20, by rw [vup_n _ _ (by decide), u2_n _ _ _ _ (by decide)]; exact m21, by rw [vup_n _ _ (by decide), u2_n _ _ _ _ (by decide)]; exact m22, by rw [vup_n _ _ (by decide), u2_n _ _ _ _ (by decide)]; exact m23, by rw [vup_n _ _ (by decide), u2_n _ _ _ _ (by decide)]; exact m24⟩
theorem mM.a7 {G : mG} {V : mV} {α : Nat → Nat} {f : sT} {nr nw ns : Nat} {th : Int32} (h : mM G V α f nr nw ns th) (k : Nat) (x : Int32) : mM G (vup V 18 (.inl (G.2.2.1.2, 365, .inl (upd (f 7) k x)))) α (u2 f 7 k x) nr nw ns th := by
  obtain ⟨m10, m11, m12, m13, m14, m15, m16, m17, m18, m19, m20, m21, m22, m23, m24⟩ := h
  exact ⟨(vup_n _ _ (by decide)).trans m10, by rw [vup_n _ _ (by decide), u2_n _ _ _ _ (by decide)]; exact m11, by rw [vup_n _ _ (by decide), u2_n _ _ _ _ (by decide)]; exact m12, by rw [vup_n _ _ (by decide), u2_n _ _ _ _ (by decide)]; exact m13, by rw [vup_n _ _ (by decide), u2_n _ _ _ _ (by decide)]; exact m14, by rw [vup_n _ _ (by decide), u2_n _ _ _ _ (by decide)]; exact m15, by rw [vup_n _ _ (by decide), u2_n _ _ _ _ (by decide)]; exact m16, by rw [vup_n _ _ (by decide), u2_n _ _ _ _ (by decide)]; exact m17, by rw [vup_s, u2_s], by rw [vup_n _ _ (by decide), u2_n _ _ _ _ (by decide)]; exact m19, by rw [vup_n _ _ (by decide), u2_n _ _ _ _ (by decide)]; exact m20, by rw [vup_n _ _ (by decide), u2_n _ _ _ _ (by decide)]; exact m21, by rw [vup_n _ _ (by decide), u2_n _ _ _ _ (by decide)]; exact m22, by rw [vup_n _ _ (by decide), u2_n _ _ _ _ (by decide)]; exact m23, by rw [vup_n _ _ (by decide), u2_n _ _ _ _ (by decide)]; exact m24⟩
theorem mM.a8 {G : mG} {V : mV} {α : Nat → Nat} {f : sT} {nr nw ns : Nat} {th : Int32} (h : mM G V α f nr nw ns th) (k : Nat) (x : Int32) : mM G (vup V 19 (.inl (G.2.2.1.1, 12, .inl (upd (f 8) k x)))) α (u2 f 8 k x) nr nw ns th := by
  obtain ⟨m10, m11, m12, m13, m14, m15, m16, m17, m18, m19, m20, m21, m22, m23, m24⟩ := h
  exact ⟨(vup_n _ _ (by decide)).trans m10, by rw [vup_n _ _ (by decide), u2_n _ _ _ _ (by decide)]; exact m11, by rw [vup_n _ _ (by decide), u2_n _ _ _ _ (by decide)]; exact m12, by rw [vup_n _ _ (by decide), u2_n _ _ _ _ (by decide)]; exact m13, by rw [vup_n _ _ (by decide), u2_n _ _ _ _ (by decide)]; exact m14, by rw [vup_n _ _ (by decide), u2_n _ _ _ _ (by decide)]; exact m15, by rw [vup_n _ _ (by decide), u2_n _ _ _ _ (by decide)]; exact m16, by rw [vup_n _ _ (by decide), u2_n _ _ _ _ (by decide)]; exact m17, by rw [vup_n _ _ (by decide), u2_n _ _ _ _ (by decide)]; exact m18, by rw [vup_s, u2_s], by rw [vup_n _ _ (by decide), u2_n _ _ _ _ (by decide)]; exact m20, by rw [vup_n _ _ (by decide), u2_n _ _ _ _ (by decide)]; exact m21, by rw [vup_n _ _ (by decide), u2_n _ _ _ _ (by decide)]; exact m22, by rw [vup_n _ _ (by decide), u2_n _ _ _ _ (by decide)]; exact m23, by rw [vup_n _ _ (by decide), u2_n _ _ _ _ (by decide)]; exact m24⟩
theorem mM.a9 {G : mG} {V : mV} {α : Nat → Nat} {f : sT} {nr nw ns : Nat} {th : Int32} (h : mM G V α f nr nw ns th) (k : Nat) (x : Int32) : mM G (vup V 20 (.inl (G.2.2.1.1, 80, .inl (upd (f 9) k x)))) α (u2 f 9 k x) nr nw ns th := by
  obtain ⟨m10, m11, m12, m13, m14, m15, m16, m17, m18, m19, m20, m21, m22, m23, m24⟩ := h
  exact ⟨(vup_n _ _ (by decide)).trans m10, by rw [vup_n _ _ (by decide), u2_n _ _ _ _ (by decide)]; exact m11, by rw [vup_n _ _ (by decide), u2_n _ _ _ _ (by decide)]; exact m12, by rw [vup_n _ _ (by decide), u2_n _ _ _ _ (by decide)]; exact m13, by rw [vup_n _ _ (by decide), u2_n _ _ _ _ (by decide)]; exact m14, by rw [vup_n _ _ (by decide), u2_n _ _ _ _ (by decide)]; exact m15, by rw [vup_n _ _ (by decide), u2_n _ _ _ _ (by decide)]; exact m16, by rw [vup_n _ _ (by decide), u2_n _ _ _ _ (by decide)]; exact m17, by rw [vup_n _ _ (by decide), u2_n _ _ _ _ (by decide)]; exact m18, by rw [vup_n _ _ (by decide), u2_n _ _ _ _ (by decide)]; exact m19, by rw [vup_s, u2_s], by rw [vup_n _ _ (by decide), u2_n _ _ _ _ (by decide)]; exact m21, by rw [vup_n _ _ (by decide), u2_n _ _ _ _ (by decide)]; exact m22, by rw [vup_n _ _ (by decide), u2_n _ _ _ _ (by decide)]; exact m23, by rw [vup_n _ _ (by decide), u2_n _ _ _ _ (by decide)]; exact m24⟩
theorem mM.a10 {G : mG} {V : mV} {α : Nat → Nat} {f : sT} {nr nw ns : Nat} {th : Int32} (h : mM G V α f nr nw ns th) (k : Nat) (x : Int32) : mM G (vup V 21 (.inl (G.2.2.1.1, 80, .inl (upd (f 10) k x)))) α (u2 f 10 k x) nr nw ns th := by
  obtain ⟨m10, m11, m12, m13, m14, m15, m16, m17, m18, m19, m20, m21, m22, m23, m24⟩ := h
  exact ⟨(vup_n _ _ (by decide)).trans m10, by rw [vup_n _ _ (by decide), u2_n _ _ _ _ (by decide)]; exact m11, by rw [vup_n _ _ (by decide), u2_n _ _ _ _ (by decide)]; exact m12, by rw [vup_n _ _ (by decide), u2_n _ _ _ _ (by decide)]; exact m13, by rw [vup_n _ _ (by decide), u2_n _ _ _ _ (by decide)]; exact m14, by rw [vup_n _ _ (by decide), u2_n _ _ _ _ (by decide)]; exact m15, by rw [vup_n _ _ (by decide), u2_n _ _ _ _ (by decide)]; exact m16, by rw [vup_n _ _ (by decide), u2_n _ _ _ _ (by decide)]; exact m17, by rw [vup_n _ _ (by decide), u2_n _ _ _ _ (by decide)]; exact m18, by rw [vup_n _ _ (by decide), u2_n _ _ _ _ (by decide)]; exact m19, by rw [vup_n _ _ (by decide), u2_n _ _ _ _ (by decide)]; exact m20, by rw [vup_s, u2_s], by rw [vup_n _ _ (by decide), u2_n _ _ _ _ (by decide)]; exact m22, by rw [vup_n _ _ (by decide), u2_n _ _ _ _ (by decide)]; exact m23, by rw [vup_n _ _ (by decide), u2_n _ _ _ _ (by decide)]; exact m24⟩
theorem mM.a11 {G : mG} {V : mV} {α : Nat → Nat} {f : sT} {nr nw ns : Nat} {th : Int32} (h : mM G V α f nr nw ns th) (k : Nat) (x : Int32) : mM G (vup V 22 (.inl (G.2.2.1.1, 80, .inl (upd (f 11) k x)))) α (u2 f 11 k x) nr nw ns th := by
  obtain ⟨m10, m11, m12, m13, m14, m15, m16, m17, m18, m19, m20, m21, m22, m23, m24⟩ := h
  exact ⟨(vup_n _ _ (by decide)).trans m10, by rw [vup_n _ _ (by decide), u2_n _ _ _ _ (by decide)]; exact m11, by rw [vup_n _ _ (by decide), u2_n _ _ _ _ (by decide)]; exact m12, by rw [vup_n _ _ (by decide), u2_n _ _ _ _ (by decide)]; exact m13, by rw [vup_n _ _ (by decide), u2_n _ _ _ _ (by decide)]; exact m14, by rw [vup_n _ _ (by decide), u2_n _ _ _ _ (by decide)]; exact m15, by rw [vup_n _ _ (by decide), u2_n _ _ _ _ (by decide)]; exact m16, by rw [vup_n _ _ (by decide), u2_n _ _ _ _ (by decide)]; exact m17, by rw [vup_n _ _ (by decide), u2_n _ _ _ _ (by decide)]; exact m18, by rw [vup_n _ _ (by decide), u2_n _ _ _ _ (by decide)]; exact m19, by rw [vup_n _ _ (by decide), u2_n _ _ _ _ (by decide)]; exact m20, by rw [vup_n _ _ (by decide), u2_n _ _ _ _ (by decide)]; exact m21, by rw [vup_s, u2_s], by rw [vup_n _ _ (by decide), u2_n _ _ _ _ (by decide)]; exact m23, by rw [vup_n _ _ (by decide), u2_n _ _ _ _ (by decide)]; exact m24⟩
theorem mM.a12 {G : mG} {V : mV} {α : Nat → Nat} {f : sT} {nr nw ns : Nat} {th : Int32} (h : mM G V α f nr nw ns th) (k : Nat) (x : Int32) : mM G (vup V 23 (.inl (G.2.2.1.1, 80, .inl (upd (f 12) k x)))) α (u2 f 12 k x) nr nw ns th := by
  obtain ⟨m10, m11, m12, m13, m14, m15, m16, m17, m18, m19, m20, m21, m22, m23, m24⟩ := h
  exact ⟨(vup_n _ _ (by decide)).trans m10, by rw [vup_n _ _ (by decide), u2_n _ _ _ _ (by decide)]; exact m11, by rw [vup_n _ _ (by decide), u2_n _ _ _ _ (by decide)]; exact m12, by rw [vup_n _ _ (by decide), u2_n _ _ _ _ (by decide)]; exact m13, by rw [vup_n _ _ (by decide), u2_n _ _ _ _ (by decide)]; exact m14, by rw [vup_n _ _ (by decide), u2_n _ _ _ _ (by decide)]; exact m15, by rw [vup_n _ _ (by decide), u2_n _ _ _ _ (by decide)]; exact m16, by rw [vup_n _ _ (by decide), u2_n _ _ _ _ (by decide)]; exact m17, by rw [vup_n _ _ (by decide), u2_n _ _ _ _ (by decide)]; exact m18, by rw [vup_n _ _ (by decide), u2_n _ _ _ _ (by decide)]; exact m19, by rw [vup_n _ _ (by decide), u2_n _ _ _ _ (by decide)]; exact m20, by rw [vup_n _ _ (by decide), u2_n _ _ _ _ (by decide)]; exact m21, by rw [vup_n _ _ (by decide), u2_n _ _ _ _ (by decide)]; exact m22, by rw [vup_s, u2_s], by rw [vup_n _ _ (by decide), u2_n _ _ _ _ (by decide)]; exact m24⟩
theorem mM.a13 {G : mG} {V : mV} {α : Nat → Nat} {f : sT} {nr nw ns : Nat} {th : Int32} (h : mM G V α f nr nw ns th) (k : Nat) (x : Int32) : mM G (vup V 24 (.inl (G.2.2.1.2, 80, .inl (upd (f 13) k x)))) α (u2 f 13 k x) nr nw ns th := by
  obtain ⟨m10, m11, m12, m13, m14, m15, m16, m17, m18, m19, m20, m21, m22, m23, m24⟩ := h
  exact ⟨(vup_n _ _ (by decide)).trans m10, by rw [vup_n _ _ (by decide), u2_n _ _ _ _ (by decide)]; exact m11, by rw [vup_n _ _ (by decide), u2_n _ _ _ _ (by decide)]; exact m12, by rw [vup_n _ _ (by decide), u2_n _ _ _ _ (by decide)]; exact m13, by rw [vup_n _ _ (by decide), u2_n _ _ _ _ (by decide)]; exact m14, by rw [vup_n _ _ (by decide), u2_n _ _ _ _ (by decide)]; exact m15, by rw [vup_n _ _ (by decide), u2_n _ _ _ _ (by decide)]; exact m16, by rw [vup_n _ _ (by decide), u2_n _ _ _ _ (by decide)]; exact m17, by rw [vup_n _ _ (by decide), u2_n _ _ _ _ (by decide)]; exact m18, by rw [vup_n _ _ (by decide), u2_n _ _ _ _ (by decide)]; exact m19, by rw [vup_n _ _ (by decide), u2_n _ _ _ _ (by decide)]; exact m20, by rw [vup_n _ _ (by decide), u2_n _ _ _ _ (by decide)]; exact m21, by rw [vup_n _ _ (by decide), u2_n _ _ _ _ (by decide)]; exact m22, by rw [vup_n _ _ (by decide), u2_n _ _ _ _ (by decide)]; exact m23, by rw [vup_s, u2_s]⟩
/-- the model behind a call: nothing but its own cells has changed -/
def mQ (G : mG) (V : mV) (α : Nat → Nat) (u : mV × (Nat → Nat)) (f : sT) (nr nw ns : Nat) (th : Int32) : Prop := mM G u.1 α f nr nw ns th ∧ (∀ j, ¬ (10 ≤ j ∧ j < 25) → u.1 j = V j) ∧ α = u.2
theorem inn_ix {k n : Nat} (hk : k < n) (hn : n < 2 ^ 31) : inn (nI k) 0 (nI n - 1) := by
  obtain ⟨j, rfl⟩ : ∃ j, n = j + 1 := ⟨n - 1, by omega⟩
  rw [nI_pred]
  exact ⟨nI_pos (by omega), nI_nlt (by omega) (by omega)⟩
theorem ix_inn {x : Int32} {n : Nat} (hn : n < 2 ^ 31) (h : inn x 0 (nI n - 1)) : ∃ k, k < n ∧ x = nI k := by
  rcases Nat.eq_zero_or_pos n with h0 | h0
  · subst h0
    exact absurd (Int32.lt_of_lt_of_le (show nI 0 - 1 < 0 by decide) (Int32.not_lt.mp h.1)) h.2
  · obtain ⟨j, rfl⟩ : ∃ j, n = j + 1 := ⟨n - 1, by omega⟩
    rw [nI_pred] at h
    obtain ⟨i, h1, h2⟩ := nI_of2 (nI_toInt (by omega)) h.1 (Int32.not_lt.mp h.2)
    exact ⟨i, by omega, h2⟩
theorem bI_vn {P : Prop} [Decidable P] : vp_nar .boolean (bI P) = bI P := by
  by_cases hp : P
  · rw [bI_t hp]; rfl
  · rw [bI_f hp]; rfl
theorem z1_vn {x : Int32} (h : x = 0 ∨ x = 1) : vp_nar .boolean x = x := by
  rcases h with h | h <;> subst h <;> rfl
theorem z1_nar {x : Int32} (h : x = 0 ∨ x = 1) : narrow .boolean (.int x) = .int x := by
  rcases h with h | h <;> subst h <;> rfl
/-- what the numbers keep to -/
def mwf (f : sT) (nr nw ns : Nat) : Prop := (nr ≤ 16 ∧ nw ≤ 12 ∧ ns ≤ 80) ∧ (∀ s, s < ns → (∃ w, w < nw ∧ f 9 s = nI w) ∧ (∃ a, a < 34848 ∧ f 10 s = nI a) ∧ (∃ n, 1 ≤ n ∧ n ≤ 64 ∧ f 11 s = nI n) ∧ (∃ t, t ≤ 5 ∧ f 12 s = nI t) ∧ (f 13 s = 0 ∨ f 13 s = 1)) ∧ (∀ w, w < nw → ∃ r, r < 4 ∧ f 8 w = nI r) ∧ (∀ k, k < nr → f 6 k = 0 ∨ f 6 k = 1) ∧ (∀ d, f 7 d = 0 ∨ f 7 d = 1) ∧ (∀ k, nr ≤ k → f 6 k = 0) ∧ (∀ k, ns ≤ k → f 12 k = 0 ∧ f 13 k = 0)
theorem s_R0n (x y : Int32) : s_R0 none x y = if x ≤ 100 then -1 else if x = y then -2 else -1 := rfl
/-- the quarters of a shift between lo and hi -/
def s_fi (f : sT) (lo : Int32) (k : Nat) : Int32 := if f 10 k ≤ lo then lo else f 10 k
def s_en (f : sT) (hi : Int32) (k : Nat) : Int32 := if hi ≤ f 10 k + f 11 k then hi else f 10 k + f 11 k
def s_h1 (f : sT) (x lo hi : Int32) (k : Nat) : Int32 := if f 13 k = 0 then (if f 9 k = x then (if s_en f hi k ≤ s_fi f lo k then 0 else s_en f hi k - s_fi f lo k) else 0) else 0
def s_hr (f : sT) (x lo hi : Int32) : Nat → Int32
  | 0 => 0
  | k + 1 => s_hr f x lo hi k + s_h1 f x lo hi k
theorem inn_3 {k : Nat} (hk : k < 4) : inn (nI k) 0 3 := inn_ix (n := 4) hk (by decide)
theorem inn_n {k : Nat} (a b : Nat) (ha : a ≤ k) (hk : k ≤ b) (hb : b < 2 ^ 31) : inn (nI k) (nI a) (nI b) := ⟨nI_nlt ha (by omega), nI_nlt hk hb⟩
