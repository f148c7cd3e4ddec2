-- ===== the memory: what each place holds; a place is an object or a row; its Int32s by their number =====
abbrev MM : Type := Nat → Nat → Int32
def mrow (M : MM) (k : Nat) (f : Nat → Int32) : MM := fun a => if a = k then f else M a
def mset (M : MM) (k j : Nat) (v : Int32) : MM := mrow M k (upd (M k) j v)
-- the ghost of a run: addresses of places, classes of int, byte, boolean rows, the classes' table, static rows, String constants, the places that are there
abbrev GG : Type := (Nat → Nat) × (ClassId × ClassId × ClassId) × va_G × (Nat → Nat) × ((Nat → Nat) × (Nat → Nat)) × List Nat
def gA (g : GG) : Nat → Nat := g.1
def gI (g : GG) : ClassId := g.2.1.1
def gB (g : GG) : ClassId := g.2.1.2.1
def gZ (g : GG) : ClassId := g.2.1.2.2
def gD (g : GG) : va_G := g.2.2.1
def gS (g : GG) : Nat → Nat := g.2.2.2.1
def gK (g : GG) : Nat → Nat := g.2.2.2.2.1.1
def gV (g : GG) : Nat → Nat := g.2.2.2.2.1.2
def gP (g : GG) : List Nat := g.2.2.2.2.2
/-- the length of the row at a place -/
def lenT : List Nat := [0, 9, 12, 12, 156, 144, 12, 12, 12]
def lenL : List Nat := 0 :: 0 :: 9 :: 12 :: 12 :: 156 :: 144 :: 12 :: 12 :: 12 :: 0 :: 9 :: 12 :: 12 :: 156 :: 144 :: 12 :: 12 :: 12 :: 0 :: 9 :: 12 :: 12 :: 156 :: 144 :: 12 :: 12 :: 12 :: 0 :: 9 :: 12 :: 12 :: 156 :: 144 :: 12 :: 12 :: 12 :: 0 :: 400 :: 0 :: 72 :: 2048 :: 8 :: 8 :: 0 :: 40 :: 0 :: 40 :: 0 :: 40 :: 0 :: 40 :: 0 :: 1200 :: 2 :: 9 :: 9 :: 12 :: 144 :: 400 :: 12 :: 12 :: 3328 :: 8 :: 4 :: 4 :: 160 :: []
def alen (k : Nat) : Nat := lenL.getD k 0
def cellI (g : GG) (n : Nat) : (Nat → Int32) → va_E := fun r => .inl (gI g, n, .inl r)
def cellT (g : GG) (b : Nat) : (Nat → Int32) → va_E := fun r => .inr (2, [.ref (gA g (b + 1)), .ref (gA g (b + 2)), .ref (gA g (b + 3)), .ref (gA g (b + 4)), .ref (gA g (b + 5)), .ref (gA g (b + 6)), .ref (gA g (b + 7)), .ref (gA g (b + 8)), .int (r 8), .int (r 9), .int (r 10), .int (r 11), .int (r 12), .int (r 13)])
def cellS (g : GG) (b : Nat) : (Nat → Int32) → va_E := fun r => .inr (1, [.ref (gA g (b + 1)), .int (r 1), .int (r 2)])
def cell0 (g : GG) : (Nat → Int32) → va_E := fun r => .inr (4, [.ref (gA g 1), .ref (gA g 37), .ref (gA g 39), .ref (gA g 10), .ref (gA g 19), .ref (gA g 44), .ref (gA g 46), .ref (gA g 48), .ref (gA g 50), .int (r 9), .int (r 10), .int (r 11)])
def cell37 (g : GG) : (Nat → Int32) → va_E := fun r => .inr (3, [.ref (gA g 38), .ref (gA g 28), .int (r 2), .int (r 3), .int (r 4), .int (r 5), .int (r 6), .int (r 7), .int (r 8), .int (r 9)])
def cell38 (g : GG) : (Nat → Int32) → va_E := fun r => .inl (gB g, 400, .inl r)
def cell39 (g : GG) : (Nat → Int32) → va_E := fun r => .inr (0, [.ref (gA g 40), .ref (gA g 41), .ref (gA g 42), .ref (gA g 43), .int (r 4), .int (r 5)])
def cell52 (g : GG) : (Nat → Int32) → va_E := fun r => .inr (5, [.ref (gA g 53), .ref (gA g 54), .ref (gA g 55), .ref (gA g 56), .int (r 4), .ref (gA g 57), .ref (gA g 58), .int (r 7), .ref (gA g 59), .int (r 9), .int (r 10), .int (r 11), .int (r 12), .int (r 13), .int (r 14), .int (r 15), .ref (gA g 60), .ref (gA g 61), .ref (gA g 62), .ref (gA g 63), .int (r 20), .int (r 21), .ref (gA g 64), .ref (gA g 65), .ref (gA g 66), .int (r 25)])
def cell54 (g : GG) : (Nat → Int32) → va_E := fun r => .inl (gZ g, 2, .inl r)
def shL (g : GG) : List ((Nat → Int32) → va_E) := cell0 g :: cellT g 1 :: cellI g 9 :: cellI g 12 :: cellI g 12 :: cellI g 156 :: cellI g 144 :: cellI g 12 :: cellI g 12 :: cellI g 12 :: cellT g 10 :: cellI g 9 :: cellI g 12 :: cellI g 12 :: cellI g 156 :: cellI g 144 :: cellI g 12 :: cellI g 12 :: cellI g 12 :: cellT g 19 :: cellI g 9 :: cellI g 12 :: cellI g 12 :: cellI g 156 :: cellI g 144 :: cellI g 12 :: cellI g 12 :: cellI g 12 :: cellT g 28 :: cellI g 9 :: cellI g 12 :: cellI g 12 :: cellI g 156 :: cellI g 144 :: cellI g 12 :: cellI g 12 :: cellI g 12 :: cell37 g :: cell38 g :: cell39 g :: cellI g 72 :: cellI g 2048 :: cellI g 8 :: cellI g 8 :: cellS g 44 :: cellI g 40 :: cellS g 46 :: cellI g 40 :: cellS g 48 :: cellI g 40 :: cellS g 50 :: cellI g 40 :: cell52 g :: cellI g 1200 :: cell54 g :: cellI g 9 :: cellI g 9 :: cellI g 12 :: cellI g 144 :: cellI g 400 :: cellI g 12 :: cellI g 12 :: cellI g 3328 :: cellI g 8 :: cellI g 4 :: cellI g 4 :: cellI g 160 :: []
def cellE (g : GG) (k : Nat) : (Nat → Int32) → va_E := (shL g).getD k (cellI g 0)
def Wd (g : GG) (M : MM) : va_W := (gP g).map (fun k => (gA g k, cellE g k (M k)))
def AA (g : GG) : Nat → Prop := fun q => ∃ k, k ∈ gP g ∧ q = gA g k
def tyG (g : GG) : List (ClassId × FieldType) := [(gI g, .int), (gB g, .byte), (gZ g, .boolean)]
def IV (g : GG) (M : MM) (U : State) (H : Heap) : Prop := (gP g).Nodup ∧ va_P (gD g) vwCl (Wd g M) H ∧ va_D (AA g) (Wd g M) ∧ va_K (gD g) vwCl (tyG g) U
-- what a place is
def obA (g : GG) (k : Nat) (ci : Nat) (F : (Nat → Int32) → List Value) : Prop := k ∈ gP g ∧ ∀ r, cellE g k r = .inr (ci, F r)
def arA (g : GG) (k : Nat) (c : ClassId) : Prop := k ∈ gP g ∧ ∀ r, cellE g k r = .inl (c, alen k, .inl r)
def isI (g : GG) (k : Nat) : Prop := arA g k (gI g)
def tpB (b : Nat) : Prop := b = 1 ∨ b = 10 ∨ b = 19 ∨ b = 28
def tpl (g : GG) (b : Nat) : Prop := tpB b ∧ ∀ i, i < 9 → b + i ∈ gP g
def shB (b : Nat) : Prop := b = 44 ∨ b = 46 ∨ b = 48 ∨ b = 50
def shl (g : GG) (b : Nat) : Prop := shB b ∧ b ∈ gP g ∧ b + 1 ∈ gP g
def full (g : GG) : Prop := ∀ k, k < 67 → k ∈ gP g
/-- the reference's places are there -/
def ful5 (g : GG) : Prop := ∀ k, 52 ≤ k → k < 67 → k ∈ gP g
theorem full.f5 {g : GG} (h : full g) : ful5 g := fun k _ hk => h k hk
theorem tpl.ob {g : GG} {b : Nat} (h : tpl g b) : obA g b 2 (fun r => [.ref (gA g (b + 1)), .ref (gA g (b + 2)), .ref (gA g (b + 3)), .ref (gA g (b + 4)), .ref (gA g (b + 5)), .ref (gA g (b + 6)), .ref (gA g (b + 7)), .ref (gA g (b + 8)), .int (r 8), .int (r 9), .int (r 10), .int (r 11), .int (r 12), .int (r 13)]) := by
  refine ⟨h.2 0 (by omega), fun r => ?_⟩
  rcases h.1 with rfl | rfl | rfl | rfl <;> rfl
theorem tpl.ar {g : GG} {b : Nat} (h : tpl g b) (i : Nat) (h0 : 0 < i) (h9 : i < 9) : isI g (b + i) := by
  refine ⟨h.2 i h9, fun r => ?_⟩
  rcases (by omega : i = 1 ∨ i = 2 ∨ i = 3 ∨ i = 4 ∨ i = 5 ∨ i = 6 ∨ i = 7 ∨ i = 8) with rfl | rfl | rfl | rfl | rfl | rfl | rfl | rfl <;> rcases h.1 with rfl | rfl | rfl | rfl <;> rfl
theorem shl.ob {g : GG} {b : Nat} (h : shl g b) : obA g b 1 (fun r => [.ref (gA g (b + 1)), .int (r 1), .int (r 2)]) := by
  refine ⟨h.2.1, fun r => ?_⟩
  rcases h.1 with rfl | rfl | rfl | rfl <;> rfl
theorem shl.ar {g : GG} {b : Nat} (h : shl g b) : isI g (b + 1) := by
  refine ⟨h.2.2, fun r => ?_⟩
  rcases h.1 with rfl | rfl | rfl | rfl <;> rfl
theorem full.ob {g : GG} (h : full g) (k : Nat) (hk : k < 67) {ci : Nat} {F : (Nat → Int32) → List Value} (hs : ∀ r, cellE g k r = .inr (ci, F r)) : obA g k ci F := ⟨h k hk, hs⟩
theorem full.ar {g : GG} (h : full g) (k : Nat) (hk : k < 67) {c : ClassId} (hs : ∀ r, cellE g k r = .inl (c, alen k, .inl r)) : arA g k c := ⟨h k hk, hs⟩
theorem full.tp {g : GG} (h : full g) {b : Nat} (hb : tpB b) : tpl g b := ⟨hb, fun i hi => h _ (by rcases hb with rfl | rfl | rfl | rfl <;> omega)⟩
theorem full.sh {g : GG} (h : full g) {b : Nat} (hb : shB b) : shl g b := ⟨hb, h _ (by rcases hb with rfl | rfl | rfl | rfl <;> omega), h _ (by rcases hb with rfl | rfl | rfl | rfl <;> omega)⟩
-- the world's list
theorem Wd_at {g : GG} {M : MM} {k : Nat} (h : k ∈ gP g) : ∃ i : Nat, (gP g)[i]? = some k ∧ (Wd g M)[i]? = some (gA g k, cellE g k (M k)) := by
  obtain ⟨i, hi⟩ := List.getElem?_of_mem h
  exact ⟨i, hi, by simp [Wd, hi]⟩
theorem Wd_set {g : GG} {M : MM} {k i : Nat} (hn : (gP g).Nodup) (h : (gP g)[i]? = some k) (f : Nat → Int32) : (Wd g M).set i (gA g k, cellE g k f) = Wd g (mrow M k f) := by
  apply List.ext_getElem?
  intro j
  by_cases hj : j = i
  · subst hj
    have hlt : j < (gP g).length := (List.getElem?_eq_some_iff.mp h).1
    rw [List.getElem?_set_self (by simp [Wd, hlt])]
    simp [Wd, h, mrow]
  · rw [List.getElem?_set_ne (fun e => hj e.symm)]
    simp only [Wd, List.getElem?_map]
    cases hx : (gP g)[j]? with
    | none => rfl
    | some a =>
      have hne : a ≠ k := fun e => by
        subst e
        exact hj ((List.getElem?_inj (List.getElem?_eq_some_iff.mp hx).1 hn).mp (hx.trans h.symm))
      simp [mrow, hne]
-- statics
def stN : Nat → String := fun i => ["RULE_LEAST", "RULE_MOST", "RULE_FIRST"].getD i ""
def stV (i : Nat) : Nat → Int32 := fun j => ([[20, 5, 1, 1, 1, 0, 0, 1, 0], [9999, 99, 9, 99, 99, 99, 99, 9, 999], [1000, 20, 2, 10, 5, 3, 6, 2, 20]].getD i []).getD j 0
def nests : List (String × Nat × MethodName) := [(RX0, 40, yX4_setCell), (RX0, 47, yX4_cell), (RX1, 22, yX4_setCell), (RX1, 30, yX4_isBetween), (RX1, 34, yX4_cell), (RX2, 114, yX4_cell), (RX2, 121, yX4_dividedUp), (RX2, 139, yX4_setCell), (RX2, 42, yX4_copyRow), (RX2, 69, yX4_isBetween), (RX2, 73, yX4_lengthOfTurns), (RX3, 144, yX4_cell), (RX3, 158, yX4_setCell), (RX3, 173, yX4_isBetween), (RX4, 18, yX3_init), (RX4, 25, yX0_init), (RX4, 38, yX1_init)]
def nestF : List (String × Nat × String) := [(RX2, 39, "RULE_FIRST"), (RX3, 140, "RULE_LEAST"), (RX3, 148, "RULE_MOST")]
def lenK : List Nat := [6, 3, 5, 4, 4, 4, 3, 5, 5, 5, 4]
def bytK : List (List Int32) := [[108, 101, 110, 103, 116, 104], [104, 117, 98], [116, 104, 105, 99, 107], [112, 108, 97, 121], [119, 105, 110, 100], [114, 97, 109, 112], [103, 97, 112], [100, 101, 110, 115, 101], [104, 105, 116, 99, 104], [98, 108, 111, 99, 107], [109, 97, 114, 107]]
def txtK : List (Nat × String) := [(99, "length"), (104, "hub"), (106, "thick"), (108, "play"), (110, "wind"), (112, "ramp"), (114, "gap"), (116, "dense"), (118, "hitch"), (127, "block"), (132, "mark")]
def StA (g : GG) (A : Nat → Prop) (U : State) (H : Heap) : Prop :=
  (∀ i, i < 3 → va_Z "TwoReels" (stN i) "[I" (.ref (gS g i)) A U H ∧ va_T .int (gS g i) 9 (fun j => .int (stV i j)) A U H) ∧
  (∀ q ∈ nests, va_Nw (.methodLinkNest q.1 q.2.1 q.2.2 "TwoReels") U) ∧
  vk_S 11 lenK bytK (gK g) (gV g) A U H ∧
  (∀ i, i < 11 → vk_R "TwoReels$TextReader" ((txtK.getD i (0, "")).1) ((txtK.getD i (0, "")).2) (gK g i) U) ∧
  va_Z "java/lang/String" "COMPACT_STRINGS" "Z" (.int 1) A U H ∧
  va_Zq "jdk/internal/util/Preconditions" "SIOOBE_FORMATTER" "Ljava/util/function/BiFunction;" A U H ∧
  (∀ q ∈ nestF, va_Nw (.fieldLinkNest q.1 q.2.1 "TwoReels" q.2.2 "[I" "TwoReels") U)
theorem StA.warm {g : GG} {A : Nat → Prop} {s U : State} {H : Heap} (h : StA g A s s.heap) (hW : s.WarmedH U.vm) (hk : ∀ a : Nat, a < s.heap.size → ¬ A a → H[a]? = s.heap[a]?) : StA g A U H := by
  obtain ⟨h1, h2, h3, h4, h5, h6, h7⟩ := h
  refine ⟨fun i hi => ⟨va_Z.moved hW.alike ((h1 i hi).1.kept hk), va_T.moved hW.alike ((h1 i hi).2.kept hk)⟩, fun q hq => va_Nw.warmM hW (h2 q hq), vk_S.moved hW.alike (h3.kept hk), fun i hi => vk_R.warm hW (h4 i hi), va_Z.moved hW.alike (h5.kept hk), va_Zq.moved hW.alike (h6.kept hk), fun q hq => va_Nw.warmF hW (h7 q hq)⟩
theorem StA.same {g : GG} {A : Nat → Prop} {u U : State} {H : Heap} (h : StA g A u H) (hv : U.vm = u.vm) (ha : u.vm.Alike U.vm) : StA g A U H := by
  obtain ⟨h1, h2, h3, h4, h5, h6, h7⟩ := h
  exact ⟨fun i hi => ⟨va_Z.moved ha (h1 i hi).1, va_T.moved ha (h1 i hi).2⟩, fun q hq => va_Nw.same (by rfl) hv.symm (h2 q hq), vk_S.moved ha h3, fun i hi => vk_R.same hv (h4 i hi), va_Z.moved ha h5, va_Zq.moved ha h6, fun q hq => va_Nw.same (by rfl) hv.symm (h7 q hq)⟩
def St (g : GG) (U : State) (H : Heap) : Prop := StA g (AA g) U H
theorem St.warm {g : GG} {s U : State} {H : Heap} (h : St g s s.heap) (hW : s.WarmedH U.vm) (hk : ∀ a : Nat, a < s.heap.size → ¬ AA g a → H[a]? = s.heap[a]?) : St g U H := StA.warm h hW hk
theorem St.same {g : GG} {u U : State} {H : Heap} (h : St g u H) (hv : U.vm = u.vm) (ha : u.vm.Alike U.vm) : St g U H := StA.same h hv ha
theorem StA.narrow {g : GG} {A B : Nat → Prop} {U : State} {H : Heap} (h : StA g A U H) (hAB : ∀ q, B q → A q) : StA g B U H := by
  obtain ⟨h1, h2, h3, h4, h5, h6, h7⟩ := h
  exact ⟨fun i hi => ⟨(h1 i hi).1.narrow hAB, (h1 i hi).2.narrow hAB⟩, h2, h3.narrow hAB, h4, h5.narrow hAB, h6.narrow hAB, h7⟩
theorem IV.moved {g : GG} {M : MM} {u U : State} {H : Heap} (h : IV g M u H) (ha : u.vm.Alike U.vm) : IV g M U H := ⟨h.1, h.2.1, h.2.2.1, va_K.moved ha h.2.2.2⟩
-- ===== a frame's walk =====
abbrev ZZ : Type := Program × Launch × Env × Room × State × MethodId × Array Value × List Frame × Method × Code
def zp (z : ZZ) : Program := z.1
def zl (z : ZZ) : Launch := z.2.1
def ze (z : ZZ) : Env := z.2.2.1
def zR (z : ZZ) : Room := z.2.2.2.1
def zs (z : ZZ) : State := z.2.2.2.2.1
def zm (z : ZZ) : MethodId := z.2.2.2.2.2.1
def za (z : ZZ) : Array Value := z.2.2.2.2.2.2.1
def zb (z : ZZ) : List Frame := z.2.2.2.2.2.2.2.1
def zh (z : ZZ) : Method := z.2.2.2.2.2.2.2.2.1
def zc (z : ZZ) : Code := z.2.2.2.2.2.2.2.2.2
def WZ (z : ZZ) (H : Heap) (locs : List Loc) (Qf : State → Prop) (f : JFrame) : Prop := W (zp z) (zl z) (ze z) (zR z) (zs z) (zm z) (za z) (zb z) (zh z) (zc z) H locs (zR z).cells (zR z).slots Qf f
def XX (z : ZZ) (g : GG) (Qf : State → Prop) (nL : Nat) (pc : Nat) (L : List (Nat × Value)) (st : List Value) (M : MM) : Prop :=
  ∀ (H : Heap) (locs : List Loc) (ls : Array Slot), IV g M (zs z) H → va_S (AA g) (zs z).heap H locs → lv_has ls nL L → WZ z H locs Qf (F0 (zm z) pc ls st)
def CX (z : ZZ) (g : GG) (cc : ByteArray) (nL : Nat) (Ts : List Cond) (own : String) (rm : Room) : Prop :=
  CallFix (zp z) (zm z) (zc z) cc nL (zs z) (za z) Ts own ∧ zR z = rm ∧ St g (zs z) (zs z).heap
def RI (z : ZZ) (g : GG) (cc : ByteArray) (Qf : State → Prop) (Q : Int32 → MM → Prop) : Prop := ∀ (pc : Nat) (ls : Array Slot) (r : Int32) (M : MM) (H : Heap) (locs : List Loc), decode cc pc = .ok (.ireturn, 1) → Q r M → IV g M (zs z) H → va_S (AA g) (zs z).heap H locs → WZ z H locs Qf (F0 (zm z) pc ls [.int r])
def RV (z : ZZ) (g : GG) (cc : ByteArray) (Qf : State → Prop) (Q : MM → Prop) : Prop := ∀ (pc : Nat) (ls : Array Slot) (M : MM) (H : Heap) (locs : List Loc), decode cc pc = .ok (.return_, 1) → Q M → IV g M (zs z) H → va_S (AA g) (zs z).heap H locs → WZ z H locs Qf (F0 (zm z) pc ls [])
def RR (z : ZZ) (g : GG) (cc : ByteArray) (Qf : State → Prop) (Q : Nat → MM → Prop) : Prop := ∀ (pc : Nat) (ls : Array Slot) (r : Nat) (M : MM) (H : Heap) (locs : List Loc), decode cc pc = .ok (.areturn, 1) → Q r M → IV g M (zs z) H → va_S (AA g) (zs z).heap H locs → WZ z H locs Qf (F0 (zm z) pc ls [.ref (gA g r)])
-- ===== contracts =====
def BB (g : GG) (M : MM) (U : State) : Prop := IV g M U U.heap ∧ St g U U.heap
def MI (g : GG) (l : Launch) (y : MethodName) (ws : List Cond) (rm : Room) (As : List Value) (M : MM) (Q : Int32 → MM → Prop) : Prop := Met l y ws rm (va_Pc As (BB g M)) (va_Qi Q (fun M' t => IV g M' t t.heap) (AA g)) 0 0 (AA g)
def MV (g : GG) (l : Launch) (y : MethodName) (ws : List Cond) (rm : Room) (As : List Value) (M : MM) (Q : MM → Prop) : Prop := Met l y ws rm (va_Pc As (BB g M)) (va_Qv Q (fun M' t => IV g M' t t.heap) (AA g)) 0 0 (AA g)
def MR (g : GG) (l : Launch) (y : MethodName) (ws : List Cond) (rm : Room) (As : List Value) (M : MM) (Q : Nat → MM → Prop) : Prop := Met l y ws rm (va_Pc As (BB g M)) (va_Qr (fun u : Nat × MM => Q u.1 u.2) (fun u a t => a = gA g u.1 ∧ IV g u.2 t t.heap) (AA g)) 0 0 (AA g)
def rmOf (f w : Nat) : Room := { frames := f, cells := 0, slots := 0, locals := w }
theorem nb_0 : narrow .boolean (.int 0) = .int 0 := by decide +kernel
theorem nb_1 : narrow .boolean (.int 1) = .int 1 := by decide +kernel
def nb (r : Int32) : Prop := narrow .boolean (.int r) = .int r
theorem mk_MI {g : GG} {l : Launch} {y : MethodName} {ws ws' : List Cond} {f w : Nat} {As : List Value} {M : MM} {Q : Int32 → MM → Prop} {cc : ByteArray} {maxL : Nat} (hy : plainName y.cls = true) (hw : ws = Cond.code y cc maxL (some .int) :: ws') (hn : (lg_sl As).length ≤ maxL)
    (hb : ∀ (z : ZZ) (Qf : State → Prop), CX z g cc maxL ws y.cls (rmOf f w) → RI z g cc Qf Q → XX z g Qf maxL 0 (lv_args 0 As) [] M) : MI g l y ws (rmOf f w) As M Q := by
  refine Met.ofW (cc := cc) (maxL := maxL) (ret := some .int) hy hw ?_
  intro p e s m args below meth c s₁ B hml hv
  obtain ⟨rfl, hI, hSt⟩ := hv
  have hts := atoms_spec (ws := ws) B.pre
  have hlocks := B.notSynchronized
  have hown : s.vm.findClass y.cls = some m.cls := findClass_of_methodNamed B.named
  have hl := lv_entry As (n := maxL) hn
  rw [lg_entry_eq]
  refine hb (p, l, e, (headSpec ws (rmOf f w)).room, s, m, As.toArray, below, meth, c) _ ⟨⟨B.exec, B.bytes, hml, hown, hts⟩, rfl, hSt⟩ ?_ _ _ _ hI va_S.rf hl
  intro pc ls r M1 H locs hd hQ hI1 hS
  exact W.iret (v := r) B.exec B.bytes B.returns (fun t ht hW => ⟨⟨r, M1, rfl, hQ, by show IV g M1 t t.heap; rw [ht]; exact hI1.moved hW.alike⟩, hS.F ht⟩) hS.2.2 hd
theorem mk_MZ {g : GG} {l : Launch} {y : MethodName} {ws ws' : List Cond} {f w : Nat} {As : List Value} {M : MM} {Q : Int32 → MM → Prop} {cc : ByteArray} {maxL : Nat} (hy : plainName y.cls = true) (hw : ws = Cond.code y cc maxL (some .boolean) :: ws') (hn : (lg_sl As).length ≤ maxL)
    (hb : ∀ (z : ZZ) (Qf : State → Prop), CX z g cc maxL ws y.cls (rmOf f w) → RI z g cc Qf (fun r M => nb r ∧ Q r M) → XX z g Qf maxL 0 (lv_args 0 As) [] M) : MI g l y ws (rmOf f w) As M Q := by
  refine Met.ofW (cc := cc) (maxL := maxL) (ret := some .boolean) hy hw ?_
  intro p e s m args below meth c s₁ B hml hv
  obtain ⟨rfl, hI, hSt⟩ := hv
  have hts := atoms_spec (ws := ws) B.pre
  have hlocks := B.notSynchronized
  have hown : s.vm.findClass y.cls = some m.cls := findClass_of_methodNamed B.named
  have hl := lv_entry As (n := maxL) hn
  rw [lg_entry_eq]
  refine hb (p, l, e, (headSpec ws (rmOf f w)).room, s, m, As.toArray, below, meth, c) _ ⟨⟨B.exec, B.bytes, hml, hown, hts⟩, rfl, hSt⟩ ?_ _ _ _ hI va_S.rf hl
  intro pc ls r M1 H locs hd hQ hI1 hS
  exact W.zret (v := r) B.exec B.bytes B.returns hQ.1 (fun t ht hW => ⟨⟨r, M1, rfl, hQ.2, by show IV g M1 t t.heap; rw [ht]; exact hI1.moved hW.alike⟩, hS.F ht⟩) hS.2.2 hd
theorem mk_MV {g : GG} {l : Launch} {y : MethodName} {ws ws' : List Cond} {f w : Nat} {As : List Value} {M : MM} {Q : MM → Prop} {cc : ByteArray} {maxL : Nat} (hy : plainName y.cls = true) (hw : ws = Cond.code y cc maxL none :: ws') (hn : (lg_sl As).length ≤ maxL)
    (hb : ∀ (z : ZZ) (Qf : State → Prop), CX z g cc maxL ws y.cls (rmOf f w) → RV z g cc Qf Q → XX z g Qf maxL 0 (lv_args 0 As) [] M) : MV g l y ws (rmOf f w) As M Q := by
  refine Met.ofW (cc := cc) (maxL := maxL) (ret := none) hy hw ?_
  intro p e s m args below meth c s₁ B hml hv
  obtain ⟨rfl, hI, hSt⟩ := hv
  have hts := atoms_spec (ws := ws) B.pre
  have hlocks := B.notSynchronized
  have hown : s.vm.findClass y.cls = some m.cls := findClass_of_methodNamed B.named
  have hl := lv_entry As (n := maxL) hn
  rw [lg_entry_eq]
  refine hb (p, l, e, (headSpec ws (rmOf f w)).room, s, m, As.toArray, below, meth, c) _ ⟨⟨B.exec, B.bytes, hml, hown, hts⟩, rfl, hSt⟩ ?_ _ _ _ hI va_S.rf hl
  intro pc ls M1 H locs hd hQ hI1 hS
  exact W.vret B.exec B.bytes B.returns (fun t ht hW => ⟨⟨M1, rfl, hQ, by show IV g M1 t t.heap; rw [ht]; exact hI1.moved hW.alike⟩, hS.F ht⟩) hS.2.2 hd
theorem mk_MR {g : GG} {l : Launch} {y : MethodName} {ws ws' : List Cond} {f w : Nat} {As : List Value} {M : MM} {Q : Nat → MM → Prop} {cc : ByteArray} {maxL : Nat} {cn : String} (hy : plainName y.cls = true) (hw : ws = Cond.code y cc maxL (some (.object cn)) :: ws') (hn : (lg_sl As).length ≤ maxL)
    (hb : ∀ (z : ZZ) (Qf : State → Prop), CX z g cc maxL ws y.cls (rmOf f w) → RR z g cc Qf Q → XX z g Qf maxL 0 (lv_args 0 As) [] M) : MR g l y ws (rmOf f w) As M Q := by
  refine Met.ofW (cc := cc) (maxL := maxL) (ret := some (.object cn)) hy hw ?_
  intro p e s m args below meth c s₁ B hml hv
  obtain ⟨rfl, hI, hSt⟩ := hv
  have hts := atoms_spec (ws := ws) B.pre
  have hlocks := B.notSynchronized
  have hown : s.vm.findClass y.cls = some m.cls := findClass_of_methodNamed B.named
  have hl := lv_entry As (n := maxL) hn
  rw [lg_entry_eq]
  refine hb (p, l, e, (headSpec ws (rmOf f w)).room, s, m, As.toArray, below, meth, c) _ ⟨⟨B.exec, B.bytes, hml, hown, hts⟩, rfl, hSt⟩ ?_ _ _ _ hI va_S.rf hl
  intro pc ls r M1 H locs hd hQ hI1 hS
  exact W.aret (v := .ref (gA g r)) B.exec B.bytes B.returns (Or.inl ⟨cn, rfl⟩) (Or.inr ⟨_, rfl⟩) (fun t ht hW => ⟨⟨(r, M1), gA g r, rfl, hQ, rfl, by show IV g M1 t t.heap; rw [ht]; exact hI1.moved hW.alike⟩, hS.F ht⟩) hS.2.2 hd
-- ===== rows =====
section ROWS
variable {z : ZZ} {g : GG} {Qf : State → Prop} {nL pc : Nat} {L : List (Nat × Value)} {st rest : List Value} {M : MM} {cc : ByteArray} {Ts : List Cond} {own : String} {rm : Room}
theorem XX.sub (ks : List Nat) {L' : List (Nat × Value)} (hs : lv_pick L ks = L') (k : XX z g Qf nL pc L' st M) : XX z g Qf nL pc L st M := fun H locs ls hI hS hl => k H locs ls hI hS (lv_sub hl ks hs)
theorem q_iconst (hC : CX z g cc nL Ts own rm) {n : Int} {v : Int32} (hd : decode cc pc = .ok (.iconst n, 1)) (hv : Int32.ofInt n = v) (pc' : Nat) (he : pc + 1 = pc') (k : XX z g Qf nL pc' L (.int v :: st) M) : XX z g Qf nL pc L st M := by
  subst he; exact fun H locs ls hI hS hl => lv_iconst hC.1.1 hC.1.2.1 hd hv (k H locs ls hI hS hl)
theorem q_bipush (hC : CX z g cc nL Ts own rm) {n : Int} {v : Int32} (hd : decode cc pc = .ok (.bipush n, 2)) (hv : (Int8.ofInt n).toInt32 = v) (pc' : Nat) (he : pc + 2 = pc') (k : XX z g Qf nL pc' L (.int v :: st) M) : XX z g Qf nL pc L st M := by
  subst he; exact fun H locs ls hI hS hl => lv_bipush hC.1.1 hC.1.2.1 hd hv (k H locs ls hI hS hl)
theorem q_sipush (hC : CX z g cc nL Ts own rm) {n : Int} {v : Int32} (hd : decode cc pc = .ok (.sipush n, 3)) (hv : (Int16.ofInt n).toInt32 = v) (pc' : Nat) (he : pc + 3 = pc') (k : XX z g Qf nL pc' L (.int v :: st) M) : XX z g Qf nL pc L st M := by
  subst he; exact fun H locs ls hI hS hl => lv_sipush hC.1.1 hC.1.2.1 hd hv (k H locs ls hI hS hl)
theorem q_lconst (hC : CX z g cc nL Ts own rm) {n : Fin 2} {v : Int64} (hd : decode cc pc = .ok (.lconst n, 1)) (hv : Int64.ofNat (n : Nat) = v) (pc' : Nat) (he : pc + 1 = pc') (k : XX z g Qf nL pc' L (.long v :: st) M) : XX z g Qf nL pc L st M := by
  subst he; exact fun H locs ls hI hS hl => lv_lconst hC.1.1 hC.1.2.1 hd hv (k H locs ls hI hS hl)
theorem q_ldc (hC : CX z g cc nL Ts own rm) {index : Nat} {v : Int32} (hw : Cond.constant own index v ∈ Ts) (hd : decode cc pc = .ok (.ldc index, 2)) (pc' : Nat) (he : pc + 2 = pc') (k : XX z g Qf nL pc' L (.int v :: st) M) : XX z g Qf nL pc L st M := by
  subst he; exact fun H locs ls hI hS hl => lv_ldc hC.1.1 hC.1.2.1 hC.1.2.2.2.1 (hC.1.2.2.2.2 _ hw) hd (k H locs ls hI hS hl)
theorem q_ldcw (hC : CX z g cc nL Ts own rm) {index : Nat} {v : Int32} (hw : Cond.constant own index v ∈ Ts) (hd : decode cc pc = .ok (.ldc_w index, 3)) (pc' : Nat) (he : pc + 3 = pc') (k : XX z g Qf nL pc' L (.int v :: st) M) : XX z g Qf nL pc L st M := by
  subst he; exact fun H locs ls hI hS hl => lv_ldcw hC.1.1 hC.1.2.1 hC.1.2.2.2.1 (hC.1.2.2.2.2 _ hw) hd (k H locs ls hI hS hl)
theorem q_ldc2 (hC : CX z g cc nL Ts own rm) {index : Nat} {v : Int64} (hw : Cond.constantLong own index v ∈ Ts) (hd : decode cc pc = .ok (.ldc2_w index, 3)) (pc' : Nat) (he : pc + 3 = pc') (k : XX z g Qf nL pc' L (.long v :: st) M) : XX z g Qf nL pc L st M := by
  subst he; exact fun H locs ls hI hS hl => lv_ldc2 hC.1.1 hC.1.2.1 hC.1.2.2.2.1 (hC.1.2.2.2.2 _ hw) hd (k H locs ls hI hS hl)
theorem q_iload_n (hC : CX z g cc nL Ts own rm) {i : Fin 4} {x : Int32} (hd : decode cc pc = .ok (.iload_n i, 1)) (j : Nat) (hl : L[j]? = some ((i : Nat), .int x)) (pc' : Nat) (he : pc + 1 = pc') (k : XX z g Qf nL pc' L (.int x :: st) M) : XX z g Qf nL pc L st M := by
  subst he; exact fun H locs ls hI hS h => lv_iload_n hC.1.1 hC.1.2.1 hd rfl (lv_at h j hl) (k H locs ls hI hS h)
theorem q_iload (hC : CX z g cc nL Ts own rm) {i : Nat} {x : Int32} (hd : decode cc pc = .ok (.iload i, 2)) (j : Nat) (hl : L[j]? = some (i, .int x)) (pc' : Nat) (he : pc + 2 = pc') (k : XX z g Qf nL pc' L (.int x :: st) M) : XX z g Qf nL pc L st M := by
  subst he; exact fun H locs ls hI hS h => lv_iload hC.1.1 hC.1.2.1 hd (lv_at h j hl) (k H locs ls hI hS h)
theorem q_lload_n (hC : CX z g cc nL Ts own rm) {i : Fin 4} {x : Int64} (hd : decode cc pc = .ok (.lload_n i, 1)) (j : Nat) (hl : L[j]? = some ((i : Nat), .long x)) (pc' : Nat) (he : pc + 1 = pc') (k : XX z g Qf nL pc' L (.long x :: st) M) : XX z g Qf nL pc L st M := by
  subst he; exact fun H locs ls hI hS h => lv_lload_n hC.1.1 hC.1.2.1 hd rfl (lv_at h j hl) (k H locs ls hI hS h)
theorem q_lload (hC : CX z g cc nL Ts own rm) {i : Nat} {x : Int64} (hd : decode cc pc = .ok (.lload i, 2)) (j : Nat) (hl : L[j]? = some (i, .long x)) (pc' : Nat) (he : pc + 2 = pc') (k : XX z g Qf nL pc' L (.long x :: st) M) : XX z g Qf nL pc L st M := by
  subst he; exact fun H locs ls hI hS h => lv_lload hC.1.1 hC.1.2.1 hd (lv_at h j hl) (k H locs ls hI hS h)
theorem q_aload_n (hC : CX z g cc nL Ts own rm) {i : Fin 4} {x : Nat} (hd : decode cc pc = .ok (.aload_n i, 1)) (j : Nat) (hl : L[j]? = some ((i : Nat), .ref x)) (pc' : Nat) (he : pc + 1 = pc') (k : XX z g Qf nL pc' L (.ref x :: st) M) : XX z g Qf nL pc L st M := by
  subst he; exact fun H locs ls hI hS h => lv_aload_n hC.1.1 hC.1.2.1 hd rfl (lv_at h j hl) (k H locs ls hI hS h)
theorem q_aload (hC : CX z g cc nL Ts own rm) {i : Nat} {x : Nat} (hd : decode cc pc = .ok (.aload i, 2)) (j : Nat) (hl : L[j]? = some (i, .ref x)) (pc' : Nat) (he : pc + 2 = pc') (k : XX z g Qf nL pc' L (.ref x :: st) M) : XX z g Qf nL pc L st M := by
  subst he; exact fun H locs ls hI hS h => lv_aload hC.1.1 hC.1.2.1 hd (lv_at h j hl) (k H locs ls hI hS h)
theorem q_istore_n (hC : CX z g cc nL Ts own rm) {i : Fin 4} {x : Int32} {L' : List (Nat × Value)} (hd : decode cc pc = .ok (.istore_n i, 1)) (hi : (i : Nat) < nL) (hl : ((i : Nat), Value.int x) :: L.filter (fun q => !(q.1 == (i : Nat)) && !(q.1 + 1 == (i : Nat) && q.2.category == 2)) = L') (pc' : Nat) (he : pc + 1 = pc') (k : XX z g Qf nL pc' L' st M) : XX z g Qf nL pc L (.int x :: st) M := by
  subst he; exact fun H locs ls hI hS h => lv_istore_n hC.1.1 hC.1.2.1 hd rfl h hi hl (fun ls' h' => k H locs ls' hI hS h')
theorem q_istore (hC : CX z g cc nL Ts own rm) {i : Nat} {x : Int32} {L' : List (Nat × Value)} (hd : decode cc pc = .ok (.istore i, 2)) (hi : i < nL) (hl : (i, Value.int x) :: L.filter (fun q => !(q.1 == i) && !(q.1 + 1 == i && q.2.category == 2)) = L') (pc' : Nat) (he : pc + 2 = pc') (k : XX z g Qf nL pc' L' st M) : XX z g Qf nL pc L (.int x :: st) M := by
  subst he; exact fun H locs ls hI hS h => lv_istore hC.1.1 hC.1.2.1 hd h hi hl (fun ls' h' => k H locs ls' hI hS h')
theorem q_lstore_n (hC : CX z g cc nL Ts own rm) {i : Fin 4} {x : Int64} {L' : List (Nat × Value)} (hd : decode cc pc = .ok (.lstore_n i, 1)) (hi : (i : Nat) + 1 < nL) (hl : ((i : Nat), Value.long x) :: L.filter (fun q => !(q.1 == (i : Nat)) && (!(q.1 == (i : Nat) + 1) && !(q.1 + 1 == (i : Nat) && q.2.category == 2))) = L') (pc' : Nat) (he : pc + 1 = pc') (k : XX z g Qf nL pc' L' st M) : XX z g Qf nL pc L (.long x :: st) M := by
  subst he; exact fun H locs ls hI hS h => lv_lstore_n hC.1.1 hC.1.2.1 hd rfl h hi hl (fun ls' h' => k H locs ls' hI hS h')
theorem q_lstore (hC : CX z g cc nL Ts own rm) {i : Nat} {x : Int64} {L' : List (Nat × Value)} (hd : decode cc pc = .ok (.lstore i, 2)) (hi : i + 1 < nL) (hl : (i, Value.long x) :: L.filter (fun q => !(q.1 == i) && (!(q.1 == i + 1) && !(q.1 + 1 == i && q.2.category == 2))) = L') (pc' : Nat) (he : pc + 2 = pc') (k : XX z g Qf nL pc' L' st M) : XX z g Qf nL pc L (.long x :: st) M := by
  subst he; exact fun H locs ls hI hS h => lv_lstore hC.1.1 hC.1.2.1 hd h hi hl (fun ls' h' => k H locs ls' hI hS h')
theorem q_astore_n (hC : CX z g cc nL Ts own rm) {i : Fin 4} {x : Nat} {L' : List (Nat × Value)} (hd : decode cc pc = .ok (.astore_n i, 1)) (hi : (i : Nat) < nL) (hl : ((i : Nat), Value.ref x) :: L.filter (fun q => !(q.1 == (i : Nat)) && !(q.1 + 1 == (i : Nat) && q.2.category == 2)) = L') (pc' : Nat) (he : pc + 1 = pc') (k : XX z g Qf nL pc' L' st M) : XX z g Qf nL pc L (.ref x :: st) M := by
  subst he; exact fun H locs ls hI hS h => lv_astore_n hC.1.1 hC.1.2.1 hd rfl h hi hl (fun ls' h' => k H locs ls' hI hS h')
theorem q_astore (hC : CX z g cc nL Ts own rm) {i : Nat} {x : Nat} {L' : List (Nat × Value)} (hd : decode cc pc = .ok (.astore i, 2)) (hi : i < nL) (hl : (i, Value.ref x) :: L.filter (fun q => !(q.1 == i) && !(q.1 + 1 == i && q.2.category == 2)) = L') (pc' : Nat) (he : pc + 2 = pc') (k : XX z g Qf nL pc' L' st M) : XX z g Qf nL pc L (.ref x :: st) M := by
  subst he; exact fun H locs ls hI hS h => lv_astore hC.1.1 hC.1.2.1 hd h hi hl (fun ls' h' => k H locs ls' hI hS h')
theorem q_iinc (hC : CX z g cc nL Ts own rm) {i : Nat} {n : Int} {x v : Int32} {L' : List (Nat × Value)} (hd : decode cc pc = .ok (.iinc i n, 3)) (j : Nat) (hj : L[j]? = some (i, .int x)) (hv : x + Int32.ofInt n = v) (hi : i < nL) (hl : (i, Value.int v) :: L.filter (fun q => !(q.1 == i) && !(q.1 + 1 == i && q.2.category == 2)) = L') (pc' : Nat) (he : pc + 3 = pc') (k : XX z g Qf nL pc' L' st M) : XX z g Qf nL pc L st M := by
  subst he; exact fun H locs ls hI hS h => lv_iinc hC.1.1 hC.1.2.1 hd h hj hv hi hl (fun ls' h' => k H locs ls' hI hS h')
theorem q_iadd (hC : CX z g cc nL Ts own rm) {x y : Int32} (hd : decode cc pc = .ok (.iadd, 1)) (pc' : Nat) (he : pc + 1 = pc') (k : XX z g Qf nL pc' L (.int (x + y) :: st) M) : XX z g Qf nL pc L (.int y :: .int x :: st) M := by
  subst he; exact fun H locs ls hI hS h => lv_iadd hC.1.1 hC.1.2.1 hd (k H locs ls hI hS h)
theorem q_isub (hC : CX z g cc nL Ts own rm) {x y : Int32} (hd : decode cc pc = .ok (.isub, 1)) (pc' : Nat) (he : pc + 1 = pc') (k : XX z g Qf nL pc' L (.int (x - y) :: st) M) : XX z g Qf nL pc L (.int y :: .int x :: st) M := by
  subst he; exact fun H locs ls hI hS h => lv_isub hC.1.1 hC.1.2.1 hd (k H locs ls hI hS h)
theorem q_imul (hC : CX z g cc nL Ts own rm) {x y : Int32} (hd : decode cc pc = .ok (.imul, 1)) (pc' : Nat) (he : pc + 1 = pc') (k : XX z g Qf nL pc' L (.int (x * y) :: st) M) : XX z g Qf nL pc L (.int y :: .int x :: st) M := by
  subst he; exact fun H locs ls hI hS h => lv_imul hC.1.1 hC.1.2.1 hd (k H locs ls hI hS h)
theorem q_iand (hC : CX z g cc nL Ts own rm) {x y : Int32} (hd : decode cc pc = .ok (.iand, 1)) (pc' : Nat) (he : pc + 1 = pc') (k : XX z g Qf nL pc' L (.int (x &&& y) :: st) M) : XX z g Qf nL pc L (.int y :: .int x :: st) M := by
  subst he; exact fun H locs ls hI hS h => lv_iand hC.1.1 hC.1.2.1 hd (k H locs ls hI hS h)
theorem q_ior (hC : CX z g cc nL Ts own rm) {x y : Int32} (hd : decode cc pc = .ok (.ior, 1)) (pc' : Nat) (he : pc + 1 = pc') (k : XX z g Qf nL pc' L (.int (x ||| y) :: st) M) : XX z g Qf nL pc L (.int y :: .int x :: st) M := by
  subst he; exact fun H locs ls hI hS h => lv_ior hC.1.1 hC.1.2.1 hd (k H locs ls hI hS h)
theorem q_ixor (hC : CX z g cc nL Ts own rm) {x y : Int32} (hd : decode cc pc = .ok (.ixor, 1)) (pc' : Nat) (he : pc + 1 = pc') (k : XX z g Qf nL pc' L (.int (x ^^^ y) :: st) M) : XX z g Qf nL pc L (.int y :: .int x :: st) M := by
  subst he; exact fun H locs ls hI hS h => lv_ixor hC.1.1 hC.1.2.1 hd (k H locs ls hI hS h)
theorem q_ineg (hC : CX z g cc nL Ts own rm) {x : Int32} (hd : decode cc pc = .ok (.ineg, 1)) (pc' : Nat) (he : pc + 1 = pc') (k : XX z g Qf nL pc' L (.int (-x) :: st) M) : XX z g Qf nL pc L (.int x :: st) M := by
  subst he; exact fun H locs ls hI hS h => lv_ineg hC.1.1 hC.1.2.1 hd (k H locs ls hI hS h)
theorem q_idiv (hC : CX z g cc nL Ts own rm) {x y : Int32} (hd : decode cc pc = .ok (.idiv, 1)) (hne : ¬ y = 0) (pc' : Nat) (he : pc + 1 = pc') (k : XX z g Qf nL pc' L (.int (x / y) :: st) M) : XX z g Qf nL pc L (.int y :: .int x :: st) M := by
  subst he; exact fun H locs ls hI hS h => lv_idiv hC.1.1 hC.1.2.1 hd hne (k H locs ls hI hS h)
theorem q_irem (hC : CX z g cc nL Ts own rm) {x y : Int32} (hd : decode cc pc = .ok (.irem, 1)) (hne : ¬ y = 0) (pc' : Nat) (he : pc + 1 = pc') (k : XX z g Qf nL pc' L (.int (x - x / y * y) :: st) M) : XX z g Qf nL pc L (.int y :: .int x :: st) M := by
  subst he; exact fun H locs ls hI hS h => lv_irem hC.1.1 hC.1.2.1 hd hne (k H locs ls hI hS h)
theorem q_ishl (hC : CX z g cc nL Ts own rm) {x y : Int32} (hd : decode cc pc = .ok (.ishl, 1)) (pc' : Nat) (he : pc + 1 = pc') (k : XX z g Qf nL pc' L (.int (x <<< (y &&& 31)) :: st) M) : XX z g Qf nL pc L (.int y :: .int x :: st) M := by
  subst he; exact fun H locs ls hI hS h => lv_ishl hC.1.1 hC.1.2.1 hd (k H locs ls hI hS h)
theorem q_ishr (hC : CX z g cc nL Ts own rm) {x y : Int32} (hd : decode cc pc = .ok (.ishr, 1)) (pc' : Nat) (he : pc + 1 = pc') (k : XX z g Qf nL pc' L (.int (x >>> (y &&& 31)) :: st) M) : XX z g Qf nL pc L (.int y :: .int x :: st) M := by
  subst he; exact fun H locs ls hI hS h => lv_ishr hC.1.1 hC.1.2.1 hd (k H locs ls hI hS h)
theorem q_iushr (hC : CX z g cc nL Ts own rm) {x y : Int32} (hd : decode cc pc = .ok (.iushr, 1)) (pc' : Nat) (he : pc + 1 = pc') (k : XX z g Qf nL pc' L (.int ((x.toUInt32 >>> (y.toUInt32 &&& Int32.toUInt32 31)).toInt32) :: st) M) : XX z g Qf nL pc L (.int y :: .int x :: st) M := by
  subst he; exact fun H locs ls hI hS h => lv_iushr hC.1.1 hC.1.2.1 hd rfl (k H locs ls hI hS h)
theorem q_ladd (hC : CX z g cc nL Ts own rm) {x y : Int64} (hd : decode cc pc = .ok (.ladd, 1)) (pc' : Nat) (he : pc + 1 = pc') (k : XX z g Qf nL pc' L (.long (x + y) :: st) M) : XX z g Qf nL pc L (.long y :: .long x :: st) M := by
  subst he; exact fun H locs ls hI hS h => lv_ladd hC.1.1 hC.1.2.1 hd (k H locs ls hI hS h)
theorem q_land (hC : CX z g cc nL Ts own rm) {x y : Int64} (hd : decode cc pc = .ok (.land, 1)) (pc' : Nat) (he : pc + 1 = pc') (k : XX z g Qf nL pc' L (.long (x &&& y) :: st) M) : XX z g Qf nL pc L (.long y :: .long x :: st) M := by
  subst he; exact fun H locs ls hI hS h => lv_land hC.1.1 hC.1.2.1 hd (k H locs ls hI hS h)
theorem q_lor (hC : CX z g cc nL Ts own rm) {x y : Int64} (hd : decode cc pc = .ok (.lor, 1)) (pc' : Nat) (he : pc + 1 = pc') (k : XX z g Qf nL pc' L (.long (x ||| y) :: st) M) : XX z g Qf nL pc L (.long y :: .long x :: st) M := by
  subst he; exact fun H locs ls hI hS h => lv_lor hC.1.1 hC.1.2.1 hd (k H locs ls hI hS h)
theorem q_lushr (hC : CX z g cc nL Ts own rm) {x : Int64} {y : Int32} (hd : decode cc pc = .ok (.lushr, 1)) (pc' : Nat) (he : pc + 1 = pc') (k : XX z g Qf nL pc' L (.long ((x.toUInt64 >>> (y.toInt64.toUInt64 &&& Int64.toUInt64 63)).toInt64) :: st) M) : XX z g Qf nL pc L (.int y :: .long x :: st) M := by
  subst he; exact fun H locs ls hI hS h => lv_lushr hC.1.1 hC.1.2.1 hd rfl (k H locs ls hI hS h)
theorem q_lshr (hC : CX z g cc nL Ts own rm) {x : Int64} {y : Int32} (hd : decode cc pc = .ok (.lshr, 1)) (pc' : Nat) (he : pc + 1 = pc') (k : XX z g Qf nL pc' L (.long (x >>> (y.toInt64 &&& 63)) :: st) M) : XX z g Qf nL pc L (.int y :: .long x :: st) M := by
  subst he; exact fun H locs ls hI hS h => lv_lshr hC.1.1 hC.1.2.1 hd rfl (k H locs ls hI hS h)
theorem q_lshl (hC : CX z g cc nL Ts own rm) {x : Int64} {y : Int32} (hd : decode cc pc = .ok (.lshl, 1)) (pc' : Nat) (he : pc + 1 = pc') (k : XX z g Qf nL pc' L (.long (x <<< (y.toInt64 &&& 63)) :: st) M) : XX z g Qf nL pc L (.int y :: .long x :: st) M := by
  subst he; exact fun H locs ls hI hS h => lv_lshl hC.1.1 hC.1.2.1 hd rfl (k H locs ls hI hS h)
theorem q_lcmp (hC : CX z g cc nL Ts own rm) {x y : Int64} (hd : decode cc pc = .ok (.lcmp, 1)) (pc' : Nat) (he : pc + 1 = pc') (k : XX z g Qf nL pc' L (.int (lg_cmp x y) :: st) M) : XX z g Qf nL pc L (.long y :: .long x :: st) M := by
  subst he; exact fun H locs ls hI hS h => W.lcmp hC.1.1 hC.1.2.1 hd (k H locs ls hI hS h)
theorem q_i2l (hC : CX z g cc nL Ts own rm) {x : Int32} (hd : decode cc pc = .ok (.i2l, 1)) (pc' : Nat) (he : pc + 1 = pc') (k : XX z g Qf nL pc' L (.long x.toInt64 :: st) M) : XX z g Qf nL pc L (.int x :: st) M := by
  subst he; exact fun H locs ls hI hS h => lv_i2l hC.1.1 hC.1.2.1 hd rfl (k H locs ls hI hS h)
theorem q_l2i (hC : CX z g cc nL Ts own rm) {x : Int64} (hd : decode cc pc = .ok (.l2i, 1)) (pc' : Nat) (he : pc + 1 = pc') (k : XX z g Qf nL pc' L (.int x.toInt32 :: st) M) : XX z g Qf nL pc L (.long x :: st) M := by
  subst he; exact fun H locs ls hI hS h => lv_l2i hC.1.1 hC.1.2.1 hd rfl (k H locs ls hI hS h)
theorem q_i2b (hC : CX z g cc nL Ts own rm) {x : Int32} (hd : decode cc pc = .ok (.i2b, 1)) (pc' : Nat) (he : pc + 1 = pc') (k : XX z g Qf nL pc' L (.int x.toInt8.toInt32 :: st) M) : XX z g Qf nL pc L (.int x :: st) M := by
  subst he; exact fun H locs ls hI hS h => lv_i2b hC.1.1 hC.1.2.1 hd rfl (k H locs ls hI hS h)
theorem q_i2s (hC : CX z g cc nL Ts own rm) {x : Int32} (hd : decode cc pc = .ok (.i2s, 1)) (pc' : Nat) (he : pc + 1 = pc') (k : XX z g Qf nL pc' L (.int x.toInt16.toInt32 :: st) M) : XX z g Qf nL pc L (.int x :: st) M := by
  subst he; exact fun H locs ls hI hS h => lv_i2s hC.1.1 hC.1.2.1 hd rfl (k H locs ls hI hS h)
theorem q_dup (hC : CX z g cc nL Ts own rm) {v : Value} (hd : decode cc pc = .ok (.dup, 1)) (hv : v.category = 1) (pc' : Nat) (he : pc + 1 = pc') (k : XX z g Qf nL pc' L (v :: v :: st) M) : XX z g Qf nL pc L (v :: st) M := by
  subst he; exact fun H locs ls hI hS h => lv_dup hC.1.1 hC.1.2.1 hd hv (k H locs ls hI hS h)
theorem q_dup2 (hC : CX z g cc nL Ts own rm) {v w : Value} (hd : decode cc pc = .ok (.dup2, 1)) (hv : v.category = 1) (hw : w.category = 1) (pc' : Nat) (he : pc + 1 = pc') (k : XX z g Qf nL pc' L (v :: w :: v :: w :: st) M) : XX z g Qf nL pc L (v :: w :: st) M := by
  subst he; exact fun H locs ls hI hS h => lv_dup2_11 hC.1.1 hC.1.2.1 hd hv hw (k H locs ls hI hS h)
theorem q_pop (hC : CX z g cc nL Ts own rm) {v : Value} (hd : decode cc pc = .ok (.pop, 1)) (hv : v.category = 1) (pc' : Nat) (he : pc + 1 = pc') (k : XX z g Qf nL pc' L st M) : XX z g Qf nL pc L (v :: st) M := by
  subst he; exact fun H locs ls hI hS h => lv_pop hC.1.1 hC.1.2.1 hd hv (k H locs ls hI hS h)
theorem q_goto (hC : CX z g cc nL Ts own rm) {off : Int} (tgt : Nat) (hd : decode cc pc = .ok (.goto off, 3)) (ht : (pc : Int) + off = (tgt : Int)) (k : XX z g Qf nL tgt L st M) : XX z g Qf nL pc L st M := fun H locs ls hI hS h => lv_goto hC.1.1 hC.1.2.1 hd ht (k H locs ls hI hS h)
theorem q_if_eq (hC : CX z g cc nL Ts own rm) {x : Int32} {off : Int} {A B : Prop} (tgt : Nat) (hd : decode cc pc = .ok (.ifCond .eq off, 3)) (ht : (pc : Int) + off = (tgt : Int)) (pc' : Nat) (he : pc + 3 = pc') (hw : (x = 0 → A) ∧ (¬ x = 0 → B)) (kt : A → XX z g Qf nL tgt L st M) (kf : B → XX z g Qf nL pc' L st M) : XX z g Qf nL pc L (.int x :: st) M := by
  subst he; exact fun H locs ls hI hS h => lv_if_eq hC.1.1 hC.1.2.1 hd ht (fun c => kt (hw.1 c) H locs ls hI hS h) (fun c => kf (hw.2 c) H locs ls hI hS h)
theorem q_icmp_eq (hC : CX z g cc nL Ts own rm) {x y : Int32} {off : Int} {A B : Prop} (tgt : Nat) (hd : decode cc pc = .ok (.if_icmp .eq off, 3)) (ht : (pc : Int) + off = (tgt : Int)) (pc' : Nat) (he : pc + 3 = pc') (hw : (x = y → A) ∧ (¬ x = y → B)) (kt : A → XX z g Qf nL tgt L st M) (kf : B → XX z g Qf nL pc' L st M) : XX z g Qf nL pc L (.int y :: .int x :: st) M := by
  subst he; exact fun H locs ls hI hS h => lv_icmp_eq hC.1.1 hC.1.2.1 hd ht (fun c => kt (hw.1 c) H locs ls hI hS h) (fun c => kf (hw.2 c) H locs ls hI hS h)
theorem q_if_ne (hC : CX z g cc nL Ts own rm) {x : Int32} {off : Int} {A B : Prop} (tgt : Nat) (hd : decode cc pc = .ok (.ifCond .ne off, 3)) (ht : (pc : Int) + off = (tgt : Int)) (pc' : Nat) (he : pc + 3 = pc') (hw : (¬ x = 0 → A) ∧ (x = 0 → B)) (kt : A → XX z g Qf nL tgt L st M) (kf : B → XX z g Qf nL pc' L st M) : XX z g Qf nL pc L (.int x :: st) M := by
  subst he; exact fun H locs ls hI hS h => lv_if_ne hC.1.1 hC.1.2.1 hd ht (fun c => kt (hw.1 c) H locs ls hI hS h) (fun c => kf (hw.2 c) H locs ls hI hS h)
theorem q_icmp_ne (hC : CX z g cc nL Ts own rm) {x y : Int32} {off : Int} {A B : Prop} (tgt : Nat) (hd : decode cc pc = .ok (.if_icmp .ne off, 3)) (ht : (pc : Int) + off = (tgt : Int)) (pc' : Nat) (he : pc + 3 = pc') (hw : (¬ x = y → A) ∧ (x = y → B)) (kt : A → XX z g Qf nL tgt L st M) (kf : B → XX z g Qf nL pc' L st M) : XX z g Qf nL pc L (.int y :: .int x :: st) M := by
  subst he; exact fun H locs ls hI hS h => lv_icmp_ne hC.1.1 hC.1.2.1 hd ht (fun c => kt (hw.1 c) H locs ls hI hS h) (fun c => kf (hw.2 c) H locs ls hI hS h)
theorem q_if_lt (hC : CX z g cc nL Ts own rm) {x : Int32} {off : Int} {A B : Prop} (tgt : Nat) (hd : decode cc pc = .ok (.ifCond .lt off, 3)) (ht : (pc : Int) + off = (tgt : Int)) (pc' : Nat) (he : pc + 3 = pc') (hw : (x < 0 → A) ∧ (¬ x < 0 → B)) (kt : A → XX z g Qf nL tgt L st M) (kf : B → XX z g Qf nL pc' L st M) : XX z g Qf nL pc L (.int x :: st) M := by
  subst he; exact fun H locs ls hI hS h => lv_if_lt hC.1.1 hC.1.2.1 hd ht (fun c => kt (hw.1 c) H locs ls hI hS h) (fun c => kf (hw.2 c) H locs ls hI hS h)
theorem q_icmp_lt (hC : CX z g cc nL Ts own rm) {x y : Int32} {off : Int} {A B : Prop} (tgt : Nat) (hd : decode cc pc = .ok (.if_icmp .lt off, 3)) (ht : (pc : Int) + off = (tgt : Int)) (pc' : Nat) (he : pc + 3 = pc') (hw : (x < y → A) ∧ (¬ x < y → B)) (kt : A → XX z g Qf nL tgt L st M) (kf : B → XX z g Qf nL pc' L st M) : XX z g Qf nL pc L (.int y :: .int x :: st) M := by
  subst he; exact fun H locs ls hI hS h => lv_icmp_lt hC.1.1 hC.1.2.1 hd ht (fun c => kt (hw.1 c) H locs ls hI hS h) (fun c => kf (hw.2 c) H locs ls hI hS h)
theorem q_if_ge (hC : CX z g cc nL Ts own rm) {x : Int32} {off : Int} {A B : Prop} (tgt : Nat) (hd : decode cc pc = .ok (.ifCond .ge off, 3)) (ht : (pc : Int) + off = (tgt : Int)) (pc' : Nat) (he : pc + 3 = pc') (hw : (0 ≤ x → A) ∧ (¬ 0 ≤ x → B)) (kt : A → XX z g Qf nL tgt L st M) (kf : B → XX z g Qf nL pc' L st M) : XX z g Qf nL pc L (.int x :: st) M := by
  subst he; exact fun H locs ls hI hS h => lv_if_ge hC.1.1 hC.1.2.1 hd ht (fun c => kt (hw.1 c) H locs ls hI hS h) (fun c => kf (hw.2 c) H locs ls hI hS h)
theorem q_icmp_ge (hC : CX z g cc nL Ts own rm) {x y : Int32} {off : Int} {A B : Prop} (tgt : Nat) (hd : decode cc pc = .ok (.if_icmp .ge off, 3)) (ht : (pc : Int) + off = (tgt : Int)) (pc' : Nat) (he : pc + 3 = pc') (hw : (y ≤ x → A) ∧ (¬ y ≤ x → B)) (kt : A → XX z g Qf nL tgt L st M) (kf : B → XX z g Qf nL pc' L st M) : XX z g Qf nL pc L (.int y :: .int x :: st) M := by
  subst he; exact fun H locs ls hI hS h => lv_icmp_ge hC.1.1 hC.1.2.1 hd ht (fun c => kt (hw.1 c) H locs ls hI hS h) (fun c => kf (hw.2 c) H locs ls hI hS h)
theorem q_if_gt (hC : CX z g cc nL Ts own rm) {x : Int32} {off : Int} {A B : Prop} (tgt : Nat) (hd : decode cc pc = .ok (.ifCond .gt off, 3)) (ht : (pc : Int) + off = (tgt : Int)) (pc' : Nat) (he : pc + 3 = pc') (hw : (0 < x → A) ∧ (¬ 0 < x → B)) (kt : A → XX z g Qf nL tgt L st M) (kf : B → XX z g Qf nL pc' L st M) : XX z g Qf nL pc L (.int x :: st) M := by
  subst he; exact fun H locs ls hI hS h => lv_if_gt hC.1.1 hC.1.2.1 hd ht (fun c => kt (hw.1 c) H locs ls hI hS h) (fun c => kf (hw.2 c) H locs ls hI hS h)
theorem q_icmp_gt (hC : CX z g cc nL Ts own rm) {x y : Int32} {off : Int} {A B : Prop} (tgt : Nat) (hd : decode cc pc = .ok (.if_icmp .gt off, 3)) (ht : (pc : Int) + off = (tgt : Int)) (pc' : Nat) (he : pc + 3 = pc') (hw : (y < x → A) ∧ (¬ y < x → B)) (kt : A → XX z g Qf nL tgt L st M) (kf : B → XX z g Qf nL pc' L st M) : XX z g Qf nL pc L (.int y :: .int x :: st) M := by
  subst he; exact fun H locs ls hI hS h => lv_icmp_gt hC.1.1 hC.1.2.1 hd ht (fun c => kt (hw.1 c) H locs ls hI hS h) (fun c => kf (hw.2 c) H locs ls hI hS h)
theorem q_if_le (hC : CX z g cc nL Ts own rm) {x : Int32} {off : Int} {A B : Prop} (tgt : Nat) (hd : decode cc pc = .ok (.ifCond .le off, 3)) (ht : (pc : Int) + off = (tgt : Int)) (pc' : Nat) (he : pc + 3 = pc') (hw : (x ≤ 0 → A) ∧ (¬ x ≤ 0 → B)) (kt : A → XX z g Qf nL tgt L st M) (kf : B → XX z g Qf nL pc' L st M) : XX z g Qf nL pc L (.int x :: st) M := by
  subst he; exact fun H locs ls hI hS h => lv_if_le hC.1.1 hC.1.2.1 hd ht (fun c => kt (hw.1 c) H locs ls hI hS h) (fun c => kf (hw.2 c) H locs ls hI hS h)
theorem q_icmp_le (hC : CX z g cc nL Ts own rm) {x y : Int32} {off : Int} {A B : Prop} (tgt : Nat) (hd : decode cc pc = .ok (.if_icmp .le off, 3)) (ht : (pc : Int) + off = (tgt : Int)) (pc' : Nat) (he : pc + 3 = pc') (hw : (x ≤ y → A) ∧ (¬ x ≤ y → B)) (kt : A → XX z g Qf nL tgt L st M) (kf : B → XX z g Qf nL pc' L st M) : XX z g Qf nL pc L (.int y :: .int x :: st) M := by
  subst he; exact fun H locs ls hI hS h => lv_icmp_le hC.1.1 hC.1.2.1 hd ht (fun c => kt (hw.1 c) H locs ls hI hS h) (fun c => kf (hw.2 c) H locs ls hI hS h)
theorem q_nameI {x : Int32} (k : ∀ y : Int32, y = x → XX z g Qf nL pc L (.int y :: st) M) : XX z g Qf nL pc L (.int x :: st) M := k x rfl
theorem q_nameJ {x : Int64} (k : ∀ y : Int64, y = x → XX z g Qf nL pc L (.long y :: st) M) : XX z g Qf nL pc L (.long x :: st) M := k x rfl
theorem q_ldcS (hC : CX z g cc nL Ts "TwoReels$TextReader" rm) {index : Nat} (i : Nat) (hi : i < 11) (hx : (txtK.getD i (0, "")).1 = index) (hd : decode cc pc = .ok (.ldc index, 2)) (pc' : Nat) (he : pc + 2 = pc') (k : XX z g Qf nL pc' L (.ref (gK g i) :: st) M) : XX z g Qf nL pc L st M := by
  subst he; subst hx
  exact fun H locs ls hI hS hl => va_ldcS hC.1.1 hC.1.2.1 hC.1.2.2.2.1 (hC.2.2.2.2.2.1 i hi) hd (k H locs ls hI hS hl)
theorem q_copy (hC : CX z g cc nL Ts own rm) {index : Nat} (h1 : Cond.methodLink own index arraycopyName ∈ Ts) (h2 : Cond.native arraycopyName ∈ Ts) (h3 : Cond.static arraycopyName ∈ Ts) (h4 : Cond.initialized "java/lang/System" ∈ Ts) {k0 k1 : Nat} (ho0 : isI g k0) (ho1 : isI g k1) {sp dp n : Int32} (p1 : ¬ sp < 0) (p2 : ¬ dp < 0) (p3 : ¬ n < 0) (p4 : sp.toNatClampNeg + n.toNatClampNeg ≤ alen k0) (p5 : dp.toNatClampNeg + n.toNatClampNeg ≤ alen k1) (hf : 1 ≤ rm.frames) (hlo : (st.map fun v => v.category).sum + (nativeFrameWords "java/lang/System" "arraycopy" 5 + 11) ≤ rm.locals) (hd : decode cc pc = .ok (.invokestatic index, 3)) (pc' : Nat) (he : pc + 3 = pc') (kk : ∀ M' : MM, M' = mrow M k1 (va_cpy (M k0) (M k1) sp.toNatClampNeg dp.toNatClampNeg n.toNatClampNeg) → XX z g Qf nL pc' L st M') : XX z g Qf nL pc L (.int n :: .int dp :: .ref (gA g k1) :: .int sp :: .ref (gA g k0) :: st) M := by
  subst he
  intro H locs ls hI hS h
  have hts := hC.1.2.2.2.2
  obtain ⟨i0, hi0, hw0⟩ := Wd_at (M := M) ho0.1
  rw [ho0.2 (M k0)] at hw0
  obtain ⟨i1, hi1, hw1⟩ := Wd_at (M := M) ho1.1
  rw [ho1.2 (M k1)] at hw1
  refine va_copyi (D := gD g) (cl := vwCl) (tys := tyG g) (ty := .int) hC.1.1 hC.1.2.1 (hC.1.2.2.1.trans h.1.symm) hC.1.2.2.2.1 (hts _ h1) (hts _ h2) (hts _ h3) (hts _ h4) hI.2.2.2 hI.2.1 hI.2.2.1 hS i0 i1 0 0 hw0 hw1 rfl rfl rfl p1 p2 p3 p4 p5 (fun _ _ => rfl) (by rw [hC.2.1]; exact hf) (by rw [hC.2.1]; exact hlo) hd (fun H1 locs1 hP hD hS1 => kk _ rfl H1 locs1 ls ?_ hS1 h)
  have e := Wd_set (M := M) hI.1 hi1 (va_cpy (M k0) (M k1) sp.toNatClampNeg dp.toNatClampNeg n.toNatClampNeg)
  rw [ho1.2] at e
  rw [e] at hP hD
  exact ⟨hI.1, hP, hD, hI.2.2.2⟩
-- branches that are not on a number, switches
theorem q_ifnull (hC : CX z g cc nL Ts own rm) {x : Nat} {off : Int} (hd : decode cc pc = .ok (.ifnull off, 3)) (pc' : Nat) (he : pc + 3 = pc') (k : XX z g Qf nL pc' L st M) : XX z g Qf nL pc L (.ref x :: st) M := by
  subst he; exact fun H locs ls hI hS h => lv_ifnull hC.1.1 hC.1.2.1 hd (k H locs ls hI hS h)
theorem q_ifnonnull (hC : CX z g cc nL Ts own rm) {x : Nat} {off : Int} (tgt : Nat) (hd : decode cc pc = .ok (.ifnonnull off, 3)) (ht : (pc : Int) + off = (tgt : Int)) (k : XX z g Qf nL tgt L st M) : XX z g Qf nL pc L (.ref x :: st) M := fun H locs ls hI hS h => lv_ifnonnull hC.1.1 hC.1.2.1 hd ht (k H locs ls hI hS h)
theorem q_tabOut (hC : CX z g cc nL Ts own rm) {dflt lo hi : Int} {offs : Array Int} {len : Nat} {x : Int32} (tgt : Nat) (hd : decode cc pc = .ok (.tableswitch dflt lo hi offs, len)) (h : x.toInt < lo ∨ hi < x.toInt) (ht : (pc : Int) + dflt = (tgt : Int)) (k : XX z g Qf nL tgt L st M) : XX z g Qf nL pc L (.int x :: st) M := fun H locs ls hI hS h' => lv_tableOut hC.1.1 hC.1.2.1 hd h ht (k H locs ls hI hS h')
theorem q_tabIn (hC : CX z g cc nL Ts own rm) {dflt lo hi : Int} {offs : Array Int} {len : Nat} {x : Int32} {off : Int} (tgt : Nat) (hd : decode cc pc = .ok (.tableswitch dflt lo hi offs, len)) (h1 : ¬ x.toInt < lo) (h2 : ¬ hi < x.toInt) (ho : offs[(x.toInt - lo).toNat]? = some off) (ht : (pc : Int) + off = (tgt : Int)) (k : XX z g Qf nL tgt L st M) : XX z g Qf nL pc L (.int x :: st) M := fun H locs ls hI hS h' => lv_tableIn hC.1.1 hC.1.2.1 hd h1 h2 ho ht (k H locs ls hI hS h')
-- fields
theorem q_getI (hC : CX z g cc nL Ts own rm) {ref C : String} {T : u_T} {N ci index b : Nat} {F : (Nat → Int32) → List Value} (hin : ∀ w ∈ u_ws C T N, w ∈ Ts) (ho : obA g b ci F) (hc : vwCl[ci]? = some (C, T, N)) (k : Nat) (hk : k < N) (hlink : Cond.fieldLink own index ref (T k).2.1 (T k).2.2.1 ∈ Ts) (hsame : (T k).1 = ref) (hv : ∀ r : Nat → Int32, (F r)[k]? = some (.int (r k))) (hd : decode cc pc = .ok (.getfield index, 3)) (pc' : Nat) (he : pc + 3 = pc') (kk : XX z g Qf nL pc' L (.int (M b k) :: st) M) : XX z g Qf nL pc L (.ref (gA g b) :: st) M := by
  subst he; subst hsame
  intro H locs ls hI hS h
  obtain ⟨i, hi, hw⟩ := Wd_at (M := M) ho.1
  rw [ho.2 (M b)] at hw
  exact va_get (D := gD g) (cl := vwCl) (tys := tyG g) hC.1.1 hC.1.2.1 hC.1.2.2.2.2 hin hC.1.2.2.2.1 hI.2.2.2 hI.2.1 i hw hc k hk (hC.1.2.2.2.2 _ hlink) (fun _ h9 => h9) (hv (M b)) hd (kk H locs ls hI hS h)
theorem q_getR (hC : CX z g cc nL Ts own rm) {ref C : String} {T : u_T} {N ci index b : Nat} {F : (Nat → Int32) → List Value} (hin : ∀ w ∈ u_ws C T N, w ∈ Ts) (ho : obA g b ci F) (hc : vwCl[ci]? = some (C, T, N)) (k : Nat) (hk : k < N) (hlink : Cond.fieldLink own index ref (T k).2.1 (T k).2.2.1 ∈ Ts) (hsame : (T k).1 = ref) (b' : Nat) (hv : ∀ r : Nat → Int32, (F r)[k]? = some (.ref (gA g b'))) (hd : decode cc pc = .ok (.getfield index, 3)) (pc' : Nat) (he : pc + 3 = pc') (kk : XX z g Qf nL pc' L (.ref (gA g b') :: st) M) : XX z g Qf nL pc L (.ref (gA g b) :: st) M := by
  subst he; subst hsame
  intro H locs ls hI hS h
  obtain ⟨i, hi, hw⟩ := Wd_at (M := M) ho.1
  rw [ho.2 (M b)] at hw
  exact va_get (D := gD g) (cl := vwCl) (tys := tyG g) hC.1.1 hC.1.2.1 hC.1.2.2.2.2 hin hC.1.2.2.2.1 hI.2.2.2 hI.2.1 i hw hc k hk (hC.1.2.2.2.2 _ hlink) (fun _ h9 => h9) (hv (M b)) hd (kk H locs ls hI hS h)
theorem q_putI (hC : CX z g cc nL Ts own rm) {ref C : String} {T : u_T} {N ci index b : Nat} {F : (Nat → Int32) → List Value} (hin : ∀ w ∈ u_ws C T N, w ∈ Ts) (ty0 : Nat → FieldType) (hty : ∀ k, k < N → parseFieldDescriptor (T k).2.2.1 = some (ty0 k)) (hnm : ∀ a, a < N → ∀ b, b < N → a ≠ b → (T a).2.1 ≠ (T b).2.1) (ho : obA g b ci F) (hc : vwCl[ci]? = some (C, T, N)) (k : Nat) (hk : k < N) (hlink : Cond.fieldLink own index ref (T k).2.1 (T k).2.2.1 ∈ Ts) (hsame : (T k).1 = ref) (hfin : (T k).2.2.2 = false) (hint : ty0 k = .int) {v : Int32} (hl : ∀ r : Nat → Int32, k < (F r).length) (hset : ∀ r : Nat → Int32, (F r).set k (.int v) = F (upd r k v)) (hd : decode cc pc = .ok (.putfield index, 3)) (pc' : Nat) (he : pc + 3 = pc') (kk : ∀ M' : MM, M' = mset M b k v → XX z g Qf nL pc' L st M') : XX z g Qf nL pc L (.int v :: .ref (gA g b) :: st) M := by
  subst he; subst hsame
  intro H locs ls hI hS h
  obtain ⟨i, hi, hw⟩ := Wd_at (M := M) ho.1
  rw [ho.2 (M b)] at hw
  refine va_put (D := gD g) (cl := vwCl) (tys := tyG g) (ty := .int) hC.1.1 hC.1.2.1 hC.1.2.2.2.2 hin ty0 hty hnm hC.1.2.2.2.1 hI.2.2.2 hI.2.1 hI.2.2.1 hS i hw hc k hk (hC.1.2.2.2.2 _ hlink) (fun _ h9 => h9) hfin (by rw [hty k hk, hint]) rfl rfl (hl (M b)) hd (fun H1 locs1 hP hD hS1 => kk _ rfl H1 locs1 ls ?_ hS1 h)
  have e := Wd_set (M := M) hI.1 hi (upd (M b) k v)
  rw [ho.2 (upd (M b) k v), ← hset (M b)] at e
  rw [e] at hP hD
  exact ⟨hI.1, hP, hD, hI.2.2.2⟩
-- rows (arrays)
theorem q_iald (hC : CX z g cc nL Ts own rm) {k : Nat} (ho : arA g k (gI g)) {i : Int32} (hin : vp_in i (alen k)) (hd : decode cc pc = .ok (.iaload, 1)) (pc' : Nat) (he : pc + 1 = pc') (kk : XX z g Qf nL pc' L (.int (M k i.toNatClampNeg) :: st) M) : XX z g Qf nL pc L (.int i :: .ref (gA g k) :: st) M := by
  subst he
  intro H locs ls hI hS h
  obtain ⟨j, hj, hw⟩ := Wd_at (M := M) ho.1
  rw [ho.2 (M k)] at hw
  exact va_iald (D := gD g) (cl := vwCl) (tys := tyG g) hC.1.1 hC.1.2.1 hI.2.2.2 hI.2.1 j 0 hw rfl hin hd (kk H locs ls hI hS h)
theorem q_bald (hC : CX z g cc nL Ts own rm) {k : Nat} (ho : arA g k (gB g)) {i : Int32} (hin : vp_in i (alen k)) (hd : decode cc pc = .ok (.baload, 1)) (pc' : Nat) (he : pc + 1 = pc') (kk : XX z g Qf nL pc' L (.int (M k i.toNatClampNeg) :: st) M) : XX z g Qf nL pc L (.int i :: .ref (gA g k) :: st) M := by
  subst he
  intro H locs ls hI hS h
  obtain ⟨j, hj, hw⟩ := Wd_at (M := M) ho.1
  rw [ho.2 (M k)] at hw
  exact va_bald (D := gD g) (cl := vwCl) (tys := tyG g) hC.1.1 hC.1.2.1 hI.2.2.2 hI.2.1 j 1 hw rfl hin hd (kk H locs ls hI hS h)
theorem q_zald (hC : CX z g cc nL Ts own rm) {k : Nat} (ho : arA g k (gZ g)) {i : Int32} (hin : vp_in i (alen k)) (hd : decode cc pc = .ok (.baload, 1)) (pc' : Nat) (he : pc + 1 = pc') (kk : XX z g Qf nL pc' L (.int (M k i.toNatClampNeg) :: st) M) : XX z g Qf nL pc L (.int i :: .ref (gA g k) :: st) M := by
  subst he
  intro H locs ls hI hS h
  obtain ⟨j, hj, hw⟩ := Wd_at (M := M) ho.1
  rw [ho.2 (M k)] at hw
  exact va_zald (D := gD g) (cl := vwCl) (tys := tyG g) hC.1.1 hC.1.2.1 hI.2.2.2 hI.2.1 j 2 hw rfl hin hd (kk H locs ls hI hS h)
theorem q_iast (hC : CX z g cc nL Ts own rm) {k : Nat} (ho : arA g k (gI g)) {i v : Int32} (hin : vp_in i (alen k)) (hd : decode cc pc = .ok (.iastore, 1)) (pc' : Nat) (he : pc + 1 = pc') (kk : ∀ M' : MM, M' = mset M k i.toNatClampNeg v → XX z g Qf nL pc' L st M') : XX z g Qf nL pc L (.int v :: .int i :: .ref (gA g k) :: st) M := by
  subst he
  intro H locs ls hI hS h
  obtain ⟨j, hj, hw⟩ := Wd_at (M := M) ho.1
  rw [ho.2 (M k)] at hw
  refine va_iast (D := gD g) (cl := vwCl) (tys := tyG g) hC.1.1 hC.1.2.1 hI.2.2.2 hI.2.1 hI.2.2.1 hS j 0 hw rfl hin hd (fun H1 locs1 hP hD hS1 => kk _ rfl H1 locs1 ls ?_ hS1 h)
  have e := Wd_set (M := M) hI.1 hj (upd (M k) i.toNatClampNeg v)
  rw [ho.2 (upd (M k) i.toNatClampNeg v)] at e
  rw [e] at hP hD
  exact ⟨hI.1, hP, hD, hI.2.2.2⟩
theorem q_bast (hC : CX z g cc nL Ts own rm) {k : Nat} (ho : arA g k (gB g)) {i v : Int32} (hin : vp_in i (alen k)) (hd : decode cc pc = .ok (.bastore, 1)) (pc' : Nat) (he : pc + 1 = pc') (kk : ∀ M' : MM, M' = mset M k i.toNatClampNeg (vp_nar .byte v) → XX z g Qf nL pc' L st M') : XX z g Qf nL pc L (.int v :: .int i :: .ref (gA g k) :: st) M := by
  subst he
  intro H locs ls hI hS h
  obtain ⟨j, hj, hw⟩ := Wd_at (M := M) ho.1
  rw [ho.2 (M k)] at hw
  refine va_bast (D := gD g) (cl := vwCl) (tys := tyG g) hC.1.1 hC.1.2.1 hI.2.2.2 hI.2.1 hI.2.2.1 hS j 1 hw rfl hin hd (fun H1 locs1 hP hD hS1 => kk _ rfl H1 locs1 ls ?_ hS1 h)
  have e := Wd_set (M := M) hI.1 hj (upd (M k) i.toNatClampNeg (vp_nar .byte v))
  rw [ho.2 (upd (M k) i.toNatClampNeg (vp_nar .byte v))] at e
  rw [e] at hP hD
  exact ⟨hI.1, hP, hD, hI.2.2.2⟩
theorem q_zast (hC : CX z g cc nL Ts own rm) {k : Nat} (ho : arA g k (gZ g)) {i v : Int32} (hin : vp_in i (alen k)) (hd : decode cc pc = .ok (.bastore, 1)) (pc' : Nat) (he : pc + 1 = pc') (kk : ∀ M' : MM, M' = mset M k i.toNatClampNeg (vp_nar .boolean v) → XX z g Qf nL pc' L st M') : XX z g Qf nL pc L (.int v :: .int i :: .ref (gA g k) :: st) M := by
  subst he
  intro H locs ls hI hS h
  obtain ⟨j, hj, hw⟩ := Wd_at (M := M) ho.1
  rw [ho.2 (M k)] at hw
  refine va_zast (D := gD g) (cl := vwCl) (tys := tyG g) hC.1.1 hC.1.2.1 hI.2.2.2 hI.2.1 hI.2.2.1 hS j 2 hw rfl hin hd (fun H1 locs1 hP hD hS1 => kk _ rfl H1 locs1 ls ?_ hS1 h)
  have e := Wd_set (M := M) hI.1 hj (upd (M k) i.toNatClampNeg (vp_nar .boolean v))
  rw [ho.2 (upd (M k) i.toNatClampNeg (vp_nar .boolean v))] at e
  rw [e] at hP hD
  exact ⟨hI.1, hP, hD, hI.2.2.2⟩
theorem q_alen (hC : CX z g cc nL Ts own rm) {k : Nat} (ho : arA g k (gI g)) (hd : decode cc pc = .ok (.arraylength, 1)) (pc' : Nat) (he : pc + 1 = pc') (kk : XX z g Qf nL pc' L (.int (nI (alen k)) :: st) M) : XX z g Qf nL pc L (.ref (gA g k) :: st) M := by
  subst he
  intro H locs ls hI hS h
  obtain ⟨j, hj, hw⟩ := Wd_at (M := M) ho.1
  rw [ho.2 (M k)] at hw
  exact va_alen (D := gD g) (cl := vwCl) (tys := tyG g) hC.1.1 hC.1.2.1 hI.2.2.2 hI.2.1 j 0 hw rfl rfl hd (kk H locs ls hI hS h)
theorem q_alenB (hC : CX z g cc nL Ts own rm) {k : Nat} (ho : arA g k (gB g)) (hd : decode cc pc = .ok (.arraylength, 1)) (pc' : Nat) (he : pc + 1 = pc') (kk : XX z g Qf nL pc' L (.int (nI (alen k)) :: st) M) : XX z g Qf nL pc L (.ref (gA g k) :: st) M := by
  subst he
  intro H locs ls hI hS h
  obtain ⟨j, hj, hw⟩ := Wd_at (M := M) ho.1
  rw [ho.2 (M k)] at hw
  exact va_alen (D := gD g) (cl := vwCl) (tys := tyG g) hC.1.1 hC.1.2.1 hI.2.2.2 hI.2.1 j 1 hw rfl rfl hd (kk H locs ls hI hS h)
-- statics of the class: rows that never change
theorem q_gets (hC : CX z g cc nL Ts own rm) {index : Nat} (i : Nat) (hi : i < 3) (hlink : Cond.fieldLink own index "TwoReels" (stN i) "[I" ∈ Ts) (hd : decode cc pc = .ok (.getstatic index, 3)) (pc' : Nat) (he : pc + 3 = pc') (kk : XX z g Qf nL pc' L (.ref (gS g i) :: st) M) : XX z g Qf nL pc L st M := by
  subst he
  exact fun H locs ls hI hS h => va_gets hC.1.1 hC.1.2.1 (hC.2.2.1 i hi).1 hS hC.1.2.2.2.1 (hC.1.2.2.2.2 _ hlink) (fun _ h9 => h9) hd (kk H locs ls hI hS h)
theorem q_getsN (hC : CX z g cc nL Ts own rm) {index : Nat} (i : Nat) (hi : i < 3) (j : Nat) (hj : nestF[j]? = some (own, index, stN i)) (hd : decode cc pc = .ok (.getstatic index, 3)) (pc' : Nat) (he : pc + 3 = pc') (kk : XX z g Qf nL pc' L (.ref (gS g i) :: st) M) : XX z g Qf nL pc L st M := by
  subst he
  exact fun H locs ls hI hS h => va_getsN hC.1.1 hC.1.2.1 (hC.2.2.1 i hi).1 hS hC.1.2.2.2.1 (va_Nw.use rfl (hC.2.2.2.2.2.2.2.2 _ (List.mem_of_getElem? hj))) (fun _ h9 => h9) hd (kk H locs ls hI hS h)
theorem q_ti (hC : CX z g cc nL Ts own rm) (s : Nat) (hs : s < 3) {i : Int32} (hin : vp_in i 9) (hd : decode cc pc = .ok (.iaload, 1)) (pc' : Nat) (he : pc + 1 = pc') (kk : XX z g Qf nL pc' L (.int (stV s i.toNatClampNeg) :: st) M) : XX z g Qf nL pc L (.int i :: .ref (gS g s) :: st) M := by
  subst he
  exact fun H locs ls hI hS h => va_ti hC.1.1 hC.1.2.1 (hC.2.2.1 s hs).2 hS hin rfl hd (kk H locs ls hI hS h)
theorem q_tlen (hC : CX z g cc nL Ts own rm) (s : Nat) (hs : s < 3) (hd : decode cc pc = .ok (.arraylength, 1)) (pc' : Nat) (he : pc + 1 = pc') (kk : XX z g Qf nL pc' L (.int 9 :: st) M) : XX z g Qf nL pc L (.ref (gS g s) :: st) M := by
  subst he
  exact fun H locs ls hI hS h => va_tlen hC.1.1 hC.1.2.1 (hC.2.2.1 s hs).2 hS rfl hd (kk H locs ls hI hS h)
theorem vpd {i : Int32} {n : Nat} (h : (decide (i < 0) || decide (n ≤ i.toNatClampNeg)) = false) : vp_in i n := by
  simp only [Bool.or_eq_false_iff, decide_eq_false_iff_not] at h
  exact fun q => q.elim h.1 h.2
theorem q_ialdL (hC : CX z g cc nL Ts own rm) {k : Nat} (ho : arA g k (gI g)) {i : Int32} (j : Nat) (hin : (decide (i < 0) || decide (alen k ≤ i.toNatClampNeg)) = false) (hj : i.toNatClampNeg = j) (hd : decode cc pc = .ok (.iaload, 1)) (pc' : Nat) (he : pc + 1 = pc') (kk : XX z g Qf nL pc' L (.int (M k j) :: st) M) : XX z g Qf nL pc L (.int i :: .ref (gA g k) :: st) M := by
  subst hj; exact q_iald hC ho (vpd hin) hd pc' he kk
theorem q_iastL (hC : CX z g cc nL Ts own rm) {k : Nat} (ho : arA g k (gI g)) {i v : Int32} (j : Nat) (hin : (decide (i < 0) || decide (alen k ≤ i.toNatClampNeg)) = false) (hj : i.toNatClampNeg = j) (hd : decode cc pc = .ok (.iastore, 1)) (pc' : Nat) (he : pc + 1 = pc') (kk : ∀ M' : MM, M' = mset M k j v → XX z g Qf nL pc' L st M') : XX z g Qf nL pc L (.int v :: .int i :: .ref (gA g k) :: st) M := by
  subst hj; exact q_iast hC ho (vpd hin) hd pc' he kk
theorem q_zaldL (hC : CX z g cc nL Ts own rm) {k : Nat} (ho : arA g k (gZ g)) {i : Int32} (j : Nat) (hin : (decide (i < 0) || decide (alen k ≤ i.toNatClampNeg)) = false) (hj : i.toNatClampNeg = j) (hd : decode cc pc = .ok (.baload, 1)) (pc' : Nat) (he : pc + 1 = pc') (kk : XX z g Qf nL pc' L (.int (M k j) :: st) M) : XX z g Qf nL pc L (.int i :: .ref (gA g k) :: st) M := by
  subst hj; exact q_zald hC ho (vpd hin) hd pc' he kk
theorem q_zastL (hC : CX z g cc nL Ts own rm) {k : Nat} (ho : arA g k (gZ g)) {i v w : Int32} (j : Nat) (hin : (decide (i < 0) || decide (alen k ≤ i.toNatClampNeg)) = false) (hj : i.toNatClampNeg = j) (hv : vp_nar .boolean v = w) (hd : decode cc pc = .ok (.bastore, 1)) (pc' : Nat) (he : pc + 1 = pc') (kk : ∀ M' : MM, M' = mset M k j w → XX z g Qf nL pc' L st M') : XX z g Qf nL pc L (.int v :: .int i :: .ref (gA g k) :: st) M := by
  subst hj; subst hv; exact q_zast hC ho (vpd hin) hd pc' he kk
theorem q_tiL (hC : CX z g cc nL Ts own rm) (s : Nat) (hs : s < 3) {i v : Int32} (hin : (decide (i < 0) || decide (9 ≤ i.toNatClampNeg)) = false) (hv : stV s i.toNatClampNeg = v) (hd : decode cc pc = .ok (.iaload, 1)) (pc' : Nat) (he : pc + 1 = pc') (kk : XX z g Qf nL pc' L (.int v :: st) M) : XX z g Qf nL pc L (.int i :: .ref (gS g s) :: st) M := by
  subst hv; exact q_ti hC s hs (vpd hin) hd pc' he kk
-- Math
theorem q_mmin (hC : CX z g cc nL Ts own rm) {index : Nat} (h1 : Cond.methodLink own index Lib.Math.min.name ∈ Ts) (h2 : Cond.static Lib.Math.min.name ∈ Ts) (h3 : Cond.initialized "java/lang/Math" ∈ Ts) (h4 : Cond.code Lib.Math.min.name Lib.Math.min.code 2 (some .int) ∈ Ts) (hf : 1 ≤ rm.frames) (hlo : (st.map fun v => v.category).sum + 13 ≤ rm.locals) {x y : Int32} (hd : decode cc pc = .ok (.invokestatic index, 3)) (pc' : Nat) (he : pc + 3 = pc') (kk : XX z g Qf nL pc' L (.int (if y < x then y else x) :: st) M) : XX z g Qf nL pc L (.int y :: .int x :: st) M := by
  subst he
  intro H locs ls hI hS h
  have hts := hC.1.2.2.2.2
  exact va_mmin hC.1.1 hC.1.2.1 (hC.1.2.2.1.trans h.1.symm) hC.1.2.2.2.1 (hts _ h1) (hts _ h2) (hts _ h3) (hts _ h4) (by rw [hC.2.1]; exact hf) (by rw [hC.2.1]; exact hlo) (Nat.le_refl _) (Nat.le_refl _) hd (kk H locs ls hI hS h)
theorem q_mmax (hC : CX z g cc nL Ts own rm) {index : Nat} (h1 : Cond.methodLink own index Lib.Math.max.name ∈ Ts) (h2 : Cond.static Lib.Math.max.name ∈ Ts) (h3 : Cond.initialized "java/lang/Math" ∈ Ts) (h4 : Cond.code Lib.Math.max.name Lib.Math.max.code 2 (some .int) ∈ Ts) (hf : 1 ≤ rm.frames) (hlo : (st.map fun v => v.category).sum + 13 ≤ rm.locals) {x y : Int32} (hd : decode cc pc = .ok (.invokestatic index, 3)) (pc' : Nat) (he : pc + 3 = pc') (kk : XX z g Qf nL pc' L (.int (if x < y then y else x) :: st) M) : XX z g Qf nL pc L (.int y :: .int x :: st) M := by
  subst he
  intro H locs ls hI hS h
  have hts := hC.1.2.2.2.2
  exact va_mmax hC.1.1 hC.1.2.1 (hC.1.2.2.1.trans h.1.symm) hC.1.2.2.2.1 (hts _ h1) (hts _ h2) (hts _ h3) (hts _ h4) (by rw [hC.2.1]; exact hf) (by rw [hC.2.1]; exact hlo) (Nat.le_refl _) (Nat.le_refl _) hd (kk H locs ls hI hS h)
theorem q_mabs (hC : CX z g cc nL Ts own rm) {index : Nat} (h1 : Cond.methodLink own index Lib.Math.abs.name ∈ Ts) (h2 : Cond.static Lib.Math.abs.name ∈ Ts) (h3 : Cond.initialized "java/lang/Math" ∈ Ts) (h4 : Cond.code Lib.Math.abs.name Lib.Math.abs.code 1 (some .int) ∈ Ts) (hf : 1 ≤ rm.frames) (hlo : (st.map fun v => v.category).sum + 13 ≤ rm.locals) {x : Int32} (hd : decode cc pc = .ok (.invokestatic index, 3)) (pc' : Nat) (he : pc + 3 = pc') (kk : XX z g Qf nL pc' L (.int (if 0 ≤ x then x else 0 - x) :: st) M) : XX z g Qf nL pc L (.int x :: st) M := by
  subst he
  intro H locs ls hI hS h
  have hts := hC.1.2.2.2.2
  exact va_mabs hC.1.1 hC.1.2.1 (hC.1.2.2.1.trans h.1.symm) hC.1.2.2.2.1 (hts _ h1) (hts _ h2) (hts _ h3) (hts _ h4) (by rw [hC.2.1]; exact hf) (by rw [hC.2.1]; exact hlo) (Nat.le_refl _) (Nat.le_refl _) hd (kk H locs ls hI hS h)
-- calls: what holds of the callee's start
theorem BB.blind {As : List Value} : FrameBlind (va_Pc As (BB g M)) := fun a U f mk q => ⟨q.1, q.2.1.moved (Vm.Alike.refl U.vm), q.2.2.same rfl (Vm.Alike.refl U.vm)⟩
theorem CX.pre (hC : CX z g cc nL Ts own rm) {H : Heap} {locs : List Loc} (hI : IV g M (zs z) H) (hS : va_S (AA g) (zs z).heap H locs) {As : List Value} : ∀ U : State, U.heap = H → (zs z).WarmedH U.vm → va_Pc As (BB g M) As.toArray U := by
  intro U hU hW
  refine ⟨rfl, ?_, ?_⟩
  · rw [hU]; exact hI.moved hW.alike
  · rw [hU]; exact hC.2.2.warm hW hS.2.1
theorem CX.preS (hC : CX z g cc nL Ts own rm) {H : Heap} {locs : List Loc} (hI : IV g M (zs z) H) (hS : va_S (AA g) (zs z).heap H locs) {As : List Value} : PreS (zs z) H (va_Pc As (BB g M)) As := ⟨BB.blind, hC.pre hI hS⟩
theorem CX.preV (hC : CX z g cc nL Ts own rm) {H : Heap} {locs : List Loc} (hI : IV g M (zs z) H) (hS : va_S (AA g) (zs z).heap H locs) {b ci : Nat} {F : (Nat → Int32) → List Value} {q : vw_C} (ho : obA g b ci F) (hc : vwCl[ci]? = some q) {As : List Value} : PreV (zs z) H q.1 (gA g b) (va_Pc (.ref (gA g b) :: As) (BB g M)) As := by
  refine ⟨BB.blind, ?_, hC.pre hI hS⟩
  obtain ⟨i, hi, hw⟩ := Wd_at (M := M) ho.1
  rw [ho.2 (M b)] at hw
  exact va_recv hI.2.2.2 hI.2.1 hc hw
/-- a call, whichever its kind: it comes back as its contract says -/
def GO (z : ZZ) (g : GG) (pc : Nat) (st rest : List Value) (M : MM) (Qa : State → Outcome → State → Prop) : Prop := ∀ (H : Heap) (locs : List Loc) (ls : Array Slot), IV g M (zs z) H → va_S (AA g) (zs z).heap H locs → ls.size = (zc z).maxLocals → va_Run (zp z) (zl z) (ze z) (zR z) (zs z) (zm z) (za z) (zb z) (zh z) (zc z) H locs (zR z).cells (zR z).slots 0 0 (F0 (zm z) pc ls st) rest Qa (AA g)
theorem go_V (hC : CX z g cc nL Ts own rm) {y : MethodName} {ws ws' : List Cond} {rm' : Room} {bytes : ByteArray} {maxL idx b ci : Nat} {ret : Option FieldType} {As : List Value} {Qc : Array Value → State → Outcome → State → Prop} {F : (Nat → Int32) → List Value} {q : vw_C}
    (hM : Met (zl z) y ws rm' (va_Pc (.ref (gA g b) :: As) (BB g M)) Qc 0 0 (AA g)) (n : Nat) (hG : GoodIn Ts (wsV own idx q.1 y ws)) (hw : ws = Cond.code y bytes maxL ret :: ws') (hr : rm'.cells = 0 ∧ rm'.slots = 0)
    (hd : y.cls = q.1 ∧ y.cls ≠ "java/lang/invoke/MethodHandle" ∧ y.cls ≠ "java/lang/invoke/VarHandle" ∧ (parseMethodDescriptor y.desc).map (fun d => d.parameters.length) = some n) (hR : rm'.frames + 1 ≤ rm.frames ∧ 8 + (maxL + 11) + rm'.locals ≤ rm.locals)
    (ho : obA g b ci F) (hc : vwCl[ci]? = some q) (hn : As.length = n) (hst : st = As.reverse ++ .ref (gA g b) :: rest) (hW : (rest.map fun v => v.category).sum ≤ 8) (hdg : decode cc pc = .ok (.invokevirtual idx, 3)) : GO z g pc st rest M (Qc (Value.ref (gA g b) :: As).toArray) :=
  fun H locs ls hI hS hsz => va_runV (C := q.1) (ret := ret) hC.1 hM (cwV n hC.1.2.2.2.2 hG hw hr.1 hr.2 hd (by rw [hC.2.1]; exact hR)) (hC.preV hI hS ho hc) rfl hn (hsz.trans hC.1.2.2.1) hst (lv_room hW) hdg ⟨Nat.le_refl _, Nat.le_refl _⟩
theorem go_S (hC : CX z g cc nL Ts own rm) {y : MethodName} {ws ws' : List Cond} {rm' : Room} {bytes : ByteArray} {maxL idx : Nat} {ret : Option FieldType} {As : List Value} {Qc : Array Value → State → Outcome → State → Prop}
    (hM : Met (zl z) y ws rm' (va_Pc As (BB g M)) Qc 0 0 (AA g)) (n : Nat) (hG : GoodIn Ts (wsS own idx y ws)) (hw : ws = Cond.code y bytes maxL ret :: ws') (hr : rm'.cells = 0 ∧ rm'.slots = 0)
    (hd : y.cls = own ∧ y.cls ≠ "java/lang/invoke/MethodHandle" ∧ y.cls ≠ "java/lang/invoke/VarHandle" ∧ (parseMethodDescriptor y.desc).map (fun d => d.parameters.length) = some n) (hR : rm'.frames + 1 ≤ rm.frames ∧ 8 + (maxL + 11) + rm'.locals ≤ rm.locals)
    (hn : As.length = n) (hst : st = As.reverse ++ rest) (hW : (rest.map fun v => v.category).sum ≤ 8) (hdg : decode cc pc = .ok (.invokestatic idx, 3)) : GO z g pc st rest M (Qc As.toArray) :=
  fun H locs ls hI hS hsz => va_runS (ret := ret) hC.1 hM (cwS n hC.1.2.2.2.2 hG hw hr.1 hr.2 hd (by rw [hC.2.1]; exact hR)) (hC.preS hI hS) rfl hn (hsz.trans hC.1.2.2.1) hst (lv_room hW) hdg ⟨Nat.le_refl _, Nat.le_refl _⟩
theorem go_T (hC : CX z g cc nL Ts own rm) {y : MethodName} {ws ws' : List Cond} {rm' : Room} {bytes : ByteArray} {maxL idx : Nat} {ret : Option FieldType} {As : List Value} {Qc : Array Value → State → Outcome → State → Prop}
    (hM : Met (zl z) y ws rm' (va_Pc As (BB g M)) Qc 0 0 (AA g)) (n : Nat) (hG : GoodIn Ts (va_wsS own idx y ws)) (hw : ws = Cond.code y bytes maxL ret :: ws') (hr : rm'.cells = 0 ∧ rm'.slots = 0)
    (hd : y.cls ≠ "java/lang/invoke/MethodHandle" ∧ y.cls ≠ "java/lang/invoke/VarHandle" ∧ (parseMethodDescriptor y.desc).map (fun d => d.parameters.length) = some n) (hR : rm'.frames + 1 ≤ rm.frames ∧ 8 + (maxL + 11) + rm'.locals ≤ rm.locals)
    (hn : As.length = n) (hst : st = As.reverse ++ rest) (hW : (rest.map fun v => v.category).sum ≤ 8) (hdg : decode cc pc = .ok (.invokestatic idx, 3)) : GO z g pc st rest M (Qc As.toArray) :=
  fun H locs ls hI hS hsz => va_runS (ret := ret) hC.1 hM (va_cwS n hC.1.2.2.2.2 hG hw hr.1 hr.2 hd (by rw [hC.2.1]; exact hR)) (hC.preS hI hS) rfl hn (hsz.trans hC.1.2.2.1) hst (lv_room hW) hdg ⟨Nat.le_refl _, Nat.le_refl _⟩
theorem go_N (hC : CX z g cc nL Ts own rm) {y : MethodName} {ws ws' : List Cond} {rm' : Room} {bytes : ByteArray} {maxL idx : Nat} {ret : Option FieldType} {As : List Value} {Qc : Array Value → State → Outcome → State → Prop}
    (hM : Met (zl z) y ws rm' (va_Pc As (BB g M)) Qc 0 0 (AA g)) (n : Nat) (hG : GoodIn Ts ws) (hw : ws = Cond.code y bytes maxL ret :: ws') (hr : rm'.cells = 0 ∧ rm'.slots = 0) (k : Nat) (hk : nests[k]? = some (own, idx, y)) (hini : Cond.initialized y.cls ∈ Ts) (hstat : Cond.static y ∈ Ts)
    (hd : y.cls ≠ "java/lang/invoke/MethodHandle" ∧ y.cls ≠ "java/lang/invoke/VarHandle" ∧ (parseMethodDescriptor y.desc).map (fun d => d.parameters.length) = some n) (hR : rm'.frames + 1 ≤ rm.frames ∧ 8 + (maxL + 11) + rm'.locals ≤ rm.locals)
    (hn : As.length = n) (hst : st = As.reverse ++ rest) (hW : (rest.map fun v => v.category).sum ≤ 8) (hdg : decode cc pc = .ok (.invokestatic idx, 3)) : GO z g pc st rest M (Qc As.toArray) :=
  fun H locs ls hI hS hsz => va_runSN (ret := ret) hC.1 hM ⟨va_cnB n hC.1.2.2.2.2 hG hw hr.1 hr.2 (hC.2.2.2.1 _ (List.mem_of_getElem? hk)) (hC.1.2.2.2.2 _ hini) hd (by rw [hC.2.1]; exact hR), hC.1.2.2.2.2 _ hstat, trivial⟩ (hC.preS hI hS) rfl hn (hsz.trans hC.1.2.2.1) hst (lv_room hW) hdg ⟨Nat.le_refl _, Nat.le_refl _⟩
theorem r_callI (hC : CX z g cc nL Ts own rm) {Q : Int32 → MM → Prop} {a : Array Value} (hgo : GO z g pc st rest M (va_Qi Q (fun M' t => IV g M' t t.heap) (AA g) a)) (pc' : Nat) (he : pc + 3 = pc') (kk : ∀ (r : Int32) (M' : MM), Q r M' → XX z g Qf nL pc' L (.int r :: rest) M') : XX z g Qf nL pc L st M := by
  subst he
  intro H locs ls hI hS h
  refine va_calli (hgo H locs ls hI hS (h.1.trans hC.1.2.2.1.symm)) hS (fun q _ h => h) (fun q h => h) (fun r u t H1 locs1 ht hvm hw hB hz1 hk1 hS1 => ?_)
  rw [ht] at hB
  exact kk r u hw H1 locs1 ls (hB.moved hvm.symm) hS1 h
theorem r_callV (hC : CX z g cc nL Ts own rm) {Q : MM → Prop} {a : Array Value} (hgo : GO z g pc st rest M (va_Qv Q (fun M' t => IV g M' t t.heap) (AA g) a)) (pc' : Nat) (he : pc + 3 = pc') (kk : ∀ (M' : MM), Q M' → XX z g Qf nL pc' L rest M') : XX z g Qf nL pc L st M := by
  subst he
  intro H locs ls hI hS h
  refine va_callv (hgo H locs ls hI hS (h.1.trans hC.1.2.2.1.symm)) hS (fun q _ h => h) (fun q h => h) (fun u t H1 locs1 ht hvm hw hB hz1 hk1 hS1 => ?_)
  rw [ht] at hB
  exact kk u hw H1 locs1 ls (hB.moved hvm.symm) hS1 h
theorem r_callR (hC : CX z g cc nL Ts own rm) {Q : Nat → MM → Prop} {a : Array Value} (hgo : GO z g pc st rest M (va_Qr (fun u : Nat × MM => Q u.1 u.2) (fun u a t => a = gA g u.1 ∧ IV g u.2 t t.heap) (AA g) a)) (pc' : Nat) (he : pc + 3 = pc') (kk : ∀ (r : Nat) (M' : MM), Q r M' → XX z g Qf nL pc' L (.ref (gA g r) :: rest) M') : XX z g Qf nL pc L st M := by
  subst he
  intro H locs ls hI hS h
  refine va_callr (hgo H locs ls hI hS (h.1.trans hC.1.2.2.1.symm)) hS (fun q _ h => h) (fun q h => h) (fun u ra t H1 locs1 ht hvm hw hB hz1 hk1 hS1 => ?_)
  obtain ⟨rfl, hB⟩ := hB
  rw [ht] at hB
  exact kk u.1 u.2 hw H1 locs1 ls (hB.moved hvm.symm) hS1 h
-- returns
theorem r_iret {Q : Int32 → MM → Prop} (hR : RI z g cc Qf Q) {r : Int32} (hd : decode cc pc = .ok (.ireturn, 1)) (hq : Q r M) : XX z g Qf nL pc L [.int r] M := fun H locs ls hI hS _ => hR pc ls r M H locs hd hq hI hS
theorem r_vret {Q : MM → Prop} (hR : RV z g cc Qf Q) (hd : decode cc pc = .ok (.return_, 1)) (hq : Q M) : XX z g Qf nL pc L [] M := fun H locs ls hI hS _ => hR pc ls M H locs hd hq hI hS
theorem r_aret {Q : Nat → MM → Prop} (hR : RR z g cc Qf Q) {r : Nat} (hd : decode cc pc = .ok (.areturn, 1)) (hq : Q r M) : XX z g Qf nL pc L [.ref (gA g r)] M := fun H locs ls hI hS _ => hR pc ls r M H locs hd hq hI hS
end ROWS
-- switches: none of the numbers
theorem tab_ne {x k : Int32} (h : ¬ x = k) : x.toInt ≠ k.toInt := fun e => h (Int32.toInt_inj.mp e)
theorem tab_out2 {x : Int32} (c0 : ¬ x = 0) (c1 : ¬ x = 1) (c2 : ¬ x = 2) : x.toInt < 0 ∨ 2 < x.toInt := by
  have h0 : x.toInt ≠ 0 := tab_ne c0
  have h1 : x.toInt ≠ 1 := tab_ne c1
  have h2 : x.toInt ≠ 2 := tab_ne c2
  omega
theorem tab_out4 {x : Int32} (c0 : ¬ x = 0) (c1 : ¬ x = 1) (c2 : ¬ x = 2) (c3 : ¬ x = 3) (c4 : ¬ x = 4) : x.toInt < 0 ∨ 4 < x.toInt := by
  have h0 : x.toInt ≠ 0 := tab_ne c0
  have h1 : x.toInt ≠ 1 := tab_ne c1
  have h2 : x.toInt ≠ 2 := tab_ne c2
  have h3 : x.toInt ≠ 3 := tab_ne c3
  have h4 : x.toInt ≠ 4 := tab_ne c4
  omega
theorem tab_out5 {x : Int32} (c0 : ¬ x = 0) (c1 : ¬ x = 1) (c2 : ¬ x = 2) (c3 : ¬ x = 3) (c4 : ¬ x = 4) (c5 : ¬ x = 5) : x.toInt < 0 ∨ 5 < x.toInt := by
  have h0 : x.toInt ≠ 0 := tab_ne c0
  have h1 : x.toInt ≠ 1 := tab_ne c1
  have h2 : x.toInt ≠ 2 := tab_ne c2
  have h3 : x.toInt ≠ 3 := tab_ne c3
  have h4 : x.toInt ≠ 4 := tab_ne c4
  have h5 : x.toInt ≠ 5 := tab_ne c5
  omega
theorem tab_out6 {x : Int32} (c0 : ¬ x = 0) (c1 : ¬ x = 1) (c2 : ¬ x = 2) (c3 : ¬ x = 3) (c4 : ¬ x = 4) (c5 : ¬ x = 5) (c6 : ¬ x = 6) : x.toInt < 0 ∨ 6 < x.toInt := by
  have h0 : x.toInt ≠ 0 := tab_ne c0
  have h1 : x.toInt ≠ 1 := tab_ne c1
  have h2 : x.toInt ≠ 2 := tab_ne c2
  have h3 : x.toInt ≠ 3 := tab_ne c3
  have h4 : x.toInt ≠ 4 := tab_ne c4
  have h5 : x.toInt ≠ 5 := tab_ne c5
  have h6 : x.toInt ≠ 6 := tab_ne c6
  omega
