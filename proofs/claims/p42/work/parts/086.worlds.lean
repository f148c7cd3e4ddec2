-- ===== worlds under construction =====
/-- the ghost with other addresses, other places -/
def gp (g : GG) (a : Nat → Nat) (ps : List Nat) : GG := (a, g.2.1, g.2.2.1, g.2.2.2.1, g.2.2.2.2.1, ps)
/-- the cells of some places -/
def Wp (g : GG) (a : Nat → Nat) (ps : List Nat) (M : MM) : va_W := Wd (gp g a ps) M
theorem Wp_app {g : GG} {a : Nat → Nat} {p1 p2 : List Nat} {M : MM} : Wp g a (p1 ++ p2) M = Wp g a p1 M ++ Wp g a p2 M := by
  show List.map _ (p1 ++ p2) = _
  rw [List.map_append]
  rfl
/-- which cells a constructor may change -/
def CA (h0 sz : Nat) : Nat → Prop := fun q => q = h0 ∨ sz ≤ q
def CY (z : ZZ) (g : GG) (A : Nat → Prop) (cc : ByteArray) (nL : Nat) (Ts : List Cond) (own : String) (rm : Room) : Prop :=
  CallFix (zp z) (zm z) (zc z) cc nL (zs z) (za z) Ts own ∧ zR z = rm ∧ StA g A (zs z) (zs z).heap ∧ va_K (gD g) vwCl (tyG g) (zs z) ∧ (∀ q, (zs z).heap.size ≤ q → A q)
def YY (z : ZZ) (g : GG) (A : Nat → Prop) (Qf : State → Prop) (nL pc : Nat) (L : List (Nat × Value)) (st : List Value) (ws : va_W) (c n : Nat) : Prop :=
  ∀ (H : Heap) (locs : List Loc) (ls : Array Slot), va_P (gD g) vwCl ws H → va_D A ws → va_S A (zs z).heap H locs → lv_has ls nL L → W (zp z) (zl z) (ze z) (zR z) (zs z) (zm z) (za z) (zb z) (zh z) (zc z) H locs c n Qf (F0 (zm z) pc ls st)
theorem RA_inj {s : State} {cA cB : ClassId} {ty : FieldType} (hty : ty = .int ∨ ty = .byte ∨ ty = .boolean) (h1 : va_RA s cA ty) (h2 : va_RA s cB ty) : cA = cB := by
  rcases hty with rfl | rfl | rfl <;> exact Option.some.inj (h1.symm.trans h2)
/-- behind a call: what came back beside the rest -/
theorem join_app {A0 : Nat → Prop} {D : va_G} {cl : List vw_C} {wr wc w1 : va_W} {H H1 : Heap} {B : Nat → Prop} (hP : va_P D cl (wr ++ wc) H) (hD : va_D A0 (wr ++ wc)) (hB : ∀ q, q < H.size → B q → ∃ (k : Nat) (e : va_E), wc[k]? = some (q, e)) (hk : ∀ q : Nat, q < H.size → ¬ B q → H1[q]? = H[q]?) (hF : ∀ q, B q → A0 q) (hP1 : va_P D cl w1 H1) (hD1 : va_D B w1) : va_P D cl (wr ++ w1) H1 ∧ va_D A0 (wr ++ w1) := by
  have apart : ∀ (k : Nat) (q : Nat × va_E), wr[k]? = some q → q.1 < H.size ∧ ¬ B q.1 := by
    intro k q hq
    have hq' : (wr ++ wc)[k]? = some q := by
      rw [List.getElem?_append_left (List.getElem?_eq_some_iff.mp hq).1]; exact hq
    have hl := (hP k q hq').lt
    refine ⟨hl, fun h => ?_⟩
    obtain ⟨j, e, hj⟩ := hB _ hl h
    have hj' : (wr ++ wc)[wr.length + j]? = some (q.1, e) := by
      rw [List.getElem?_append_right (by omega), show wr.length + j - wr.length = j by omega]; exact hj
    have := hD.1 k (wr.length + j) q (q.1, e) hq' hj' rfl
    have := (List.getElem?_eq_some_iff.mp hq).1
    omega
  have hDr : va_D A0 wr := by
    have g : ∀ (k : Nat) (q : Nat × va_E), wr[k]? = some q → (wr ++ wc)[k]? = some q := fun k q h => by
      rw [List.getElem?_append_left (List.getElem?_eq_some_iff.mp h).1]; exact h
    exact ⟨fun i j p q h1 h2 e => hD.1 i j p q (g i p h1) (g j q h2) e, fun k q h => hD.2 k q (g k q h)⟩
  refine ⟨va_P.app (fun k q hq => ?_) hP1, va_D.app hDr (hD1.weaken (fun k q _ h => hF q.1 h)) (fun i j x y hx hy hxy => ?_)⟩
  · have hq' : (wr ++ wc)[k]? = some q := by
      rw [List.getElem?_append_left (List.getElem?_eq_some_iff.mp hq).1]; exact hq
    obtain ⟨g1, g2⟩ := apart k q hq
    exact (hP k q hq').kept (hk q.1 g1 g2)
  · exact (apart i x hx).2 (by rw [hxy]; exact hD1.2 j y hy)
theorem vaP_right {D : va_G} {cl : List vw_C} {wr wc : va_W} {H : Heap} (hP : va_P D cl (wr ++ wc) H) : va_P D cl wc H := fun k q h => hP (wr.length + k) q (by
  rw [List.getElem?_append_right (by omega), show wr.length + k - wr.length = k by omega]; exact h)
theorem vaD_right {A : Nat → Prop} {wr wc : va_W} (hD : va_D A (wr ++ wc)) : va_D A wc := by
  have g : ∀ (k : Nat) (q : Nat × va_E), wc[k]? = some q → (wr ++ wc)[wr.length + k]? = some q := fun k q h => by
    rw [List.getElem?_append_right (by omega), show wr.length + k - wr.length = k by omega]; exact h
  refine ⟨fun i j p q h1 h2 e => ?_, fun k q h => hD.2 _ q (g k q h)⟩
  have := hD.1 _ _ p q (g i p h1) (g j q h2) e
  omega
section YROWS
variable {z : ZZ} {g : GG} {A : Nat → Prop} {Qf : State → Prop} {nL pc c n : Nat} {L : List (Nat × Value)} {st : List Value} {ws : va_W} {cc : ByteArray} {Ts : List Cond} {own : String} {rm : Room}
theorem YY.sub (ks : List Nat) {L' : List (Nat × Value)} (hs : lv_pick L ks = L') (k : YY z g A Qf nL pc L' st ws c n) : YY z g A Qf nL pc L st ws c n := fun H locs ls hP hD hS hl => k H locs ls hP hD hS (lv_sub hl ks hs)
theorem YY.to {ws' : va_W} (h : ws = ws') (k : YY z g A Qf nL pc L st ws' c n) : YY z g A Qf nL pc L st ws c n := by rw [h]; exact k
theorem y_aload_n (hC : CY z g A cc nL Ts own rm) {i : Fin 4} {x : Nat} (hd : decode cc pc = .ok (.aload_n i, 1)) (j : Nat) (hl : L[j]? = some ((i : Nat), .ref x)) (pc' : Nat) (he : pc + 1 = pc') (k : YY z g A Qf nL pc' L (.ref x :: st) ws c n) : YY z g A Qf nL pc L st ws c n := by
  subst he; exact fun H locs ls hP hD hS h => lv_aload_n hC.1.1 hC.1.2.1 hd rfl (lv_at h j hl) (k H locs ls hP hD hS h)
theorem y_iload_n (hC : CY z g A cc nL Ts own rm) {i : Fin 4} {x : Int32} (hd : decode cc pc = .ok (.iload_n i, 1)) (j : Nat) (hl : L[j]? = some ((i : Nat), .int x)) (pc' : Nat) (he : pc + 1 = pc') (k : YY z g A Qf nL pc' L (.int x :: st) ws c n) : YY z g A Qf nL pc L st ws c n := by
  subst he; exact fun H locs ls hP hD hS h => lv_iload_n hC.1.1 hC.1.2.1 hd rfl (lv_at h j hl) (k H locs ls hP hD hS h)
theorem y_iconst (hC : CY z g A cc nL Ts own rm) {k0 : Int} {v : Int32} (hd : decode cc pc = .ok (.iconst k0, 1)) (hv : Int32.ofInt k0 = v) (pc' : Nat) (he : pc + 1 = pc') (k : YY z g A Qf nL pc' L (.int v :: st) ws c n) : YY z g A Qf nL pc L st ws c n := by
  subst he; exact fun H locs ls hP hD hS h => lv_iconst hC.1.1 hC.1.2.1 hd hv (k H locs ls hP hD hS h)
theorem y_bipush (hC : CY z g A cc nL Ts own rm) {k0 : Int} {v : Int32} (hd : decode cc pc = .ok (.bipush k0, 2)) (hv : (Int8.ofInt k0).toInt32 = v) (pc' : Nat) (he : pc + 2 = pc') (k : YY z g A Qf nL pc' L (.int v :: st) ws c n) : YY z g A Qf nL pc L st ws c n := by
  subst he; exact fun H locs ls hP hD hS h => lv_bipush hC.1.1 hC.1.2.1 hd hv (k H locs ls hP hD hS h)
theorem y_sipush (hC : CY z g A cc nL Ts own rm) {k0 : Int} {v : Int32} (hd : decode cc pc = .ok (.sipush k0, 3)) (hv : (Int16.ofInt k0).toInt32 = v) (pc' : Nat) (he : pc + 3 = pc') (k : YY z g A Qf nL pc' L (.int v :: st) ws c n) : YY z g A Qf nL pc L st ws c n := by
  subst he; exact fun H locs ls hP hD hS h => lv_sipush hC.1.1 hC.1.2.1 hd hv (k H locs ls hP hD hS h)
theorem y_dup (hC : CY z g A cc nL Ts own rm) {v : Value} (hd : decode cc pc = .ok (.dup, 1)) (hv : v.category = 1) (pc' : Nat) (he : pc + 1 = pc') (k : YY z g A Qf nL pc' L (v :: v :: st) ws c n) : YY z g A Qf nL pc L (v :: st) ws c n := by
  subst he; exact fun H locs ls hP hD hS h => lv_dup hC.1.1 hC.1.2.1 hd hv (k H locs ls hP hD hS h)
theorem y_istore_n (hC : CY z g A cc nL Ts own rm) {i : Fin 4} {x : Int32} {L' : List (Nat × Value)} (hd : decode cc pc = .ok (.istore_n i, 1)) (hi : (i : Nat) < nL) (hl : ((i : Nat), Value.int x) :: L.filter (fun q => !(q.1 == (i : Nat)) && !(q.1 + 1 == (i : Nat) && q.2.category == 2)) = L') (pc' : Nat) (he : pc + 1 = pc') (k : YY z g A Qf nL pc' L' st ws c n) : YY z g A Qf nL pc L (.int x :: st) ws c n := by
  subst he; exact fun H locs ls hP hD hS h => lv_istore_n hC.1.1 hC.1.2.1 hd rfl h hi hl (fun ls' h' => k H locs ls' hP hD hS h')
theorem y_iinc (hC : CY z g A cc nL Ts own rm) {i : Nat} {k0 : Int} {x v : Int32} {L' : List (Nat × Value)} (hd : decode cc pc = .ok (.iinc i k0, 3)) (j : Nat) (hj : L[j]? = some (i, .int x)) (hv : x + Int32.ofInt k0 = v) (hi : i < nL) (hl : (i, Value.int v) :: L.filter (fun q => !(q.1 == i) && !(q.1 + 1 == i && q.2.category == 2)) = L') (pc' : Nat) (he : pc + 3 = pc') (k : YY z g A Qf nL pc' L' st ws c n) : YY z g A Qf nL pc L st ws c n := by
  subst he; exact fun H locs ls hP hD hS h => lv_iinc hC.1.1 hC.1.2.1 hd h hj hv hi hl (fun ls' h' => k H locs ls' hP hD hS h')
theorem y_goto (hC : CY z g A cc nL Ts own rm) {off : Int} (tgt : Nat) (hd : decode cc pc = .ok (.goto off, 3)) (ht : (pc : Int) + off = (tgt : Int)) (k : YY z g A Qf nL tgt L st ws c n) : YY z g A Qf nL pc L st ws c n := fun H locs ls hP hD hS h => lv_goto hC.1.1 hC.1.2.1 hd ht (k H locs ls hP hD hS h)
theorem y_icmp_geT (hC : CY z g A cc nL Ts own rm) {x y : Int32} {off : Int} (tgt : Nat) (hd : decode cc pc = .ok (.if_icmp .ge off, 3)) (ht : (pc : Int) + off = (tgt : Int)) (hw : y ≤ x) (k : YY z g A Qf nL tgt L st ws c n) : YY z g A Qf nL pc L (.int y :: .int x :: st) ws c n := fun H locs ls hP hD hS h => lv_icmp_ge hC.1.1 hC.1.2.1 hd ht (fun _ => k H locs ls hP hD hS h) (fun q => absurd hw q)
theorem y_icmp_geF (hC : CY z g A cc nL Ts own rm) {x y : Int32} {off : Int} {tgt : Nat} (hd : decode cc pc = .ok (.if_icmp .ge off, 3)) (ht : (pc : Int) + off = (tgt : Int)) (pc' : Nat) (he : pc + 3 = pc') (hw : ¬ y ≤ x) (k : YY z g A Qf nL pc' L st ws c n) : YY z g A Qf nL pc L (.int y :: .int x :: st) ws c n := by
  subst he; exact fun H locs ls hP hD hS h => lv_icmp_ge hC.1.1 hC.1.2.1 hd ht (fun q => absurd q hw) (fun _ => k H locs ls hP hD hS h)
theorem y_oinit (hC : CY z g A cc nL Ts own rm) {idx x : Nat} (h1 : Cond.methodLink own idx objectInit ∈ Ts) (h2 : Cond.instanceMethod objectInit ∈ Ts) (h3 : Cond.code objectInit ⟨#[0xb1]⟩ 1 none ∈ Ts) (hf : 1 ≤ rm.frames) (hlo : (st.map fun v => v.category).sum + 12 ≤ rm.locals) (hd : decode cc pc = .ok (.invokespecial idx, 3)) (pc' : Nat) (he : pc + 3 = pc') (k : YY z g A Qf nL pc' L st ws c n) : YY z g A Qf nL pc L (.ref x :: st) ws c n := by
  subst he
  intro H locs ls hP hD hS h
  have hts := hC.1.2.2.2.2
  refine W.objInit hC.1.1 hC.1.2.1 hC.1.2.2.2.1 (hts _ h1) (hts _ h2) (hts _ h3) rfl (by rw [hC.1.2.2.1]; exact h.1) rfl hd (by rw [hC.2.1]; exact hf) (by rw [hC.2.1]; simpa using hlo) ?_
  exact W.eq (g2 := F0 (zm z) (pc + 3) ls st) rfl (k H locs ls hP hD hS h)
theorem y_newa (hC : CY z g A cc nL Ts own rm) {atype : ArrayType} {ty : FieldType} (t0 : Nat) {cT : ClassId} (ht : (tyG g)[t0]? = some (cT, ty)) (hty : newarray.typeOf atype = ty) (h3 : ty = .int ∨ ty = .byte ∨ ty = .boolean) (hw : Cond.arrayClass ty ∈ Ts) {nn : Int32} {N : Nat} {a0 : vp_A} (ha : ∀ cA : ClassId, vp_cell cA a0 = arrV cA N (fun _ => defaultValue ty)) (hn : ¬ nn < 0) (hN : nn.toNatClampNeg = N) (hby : N * componentBytes ty ≤ 536870912) (hc : c + 1 ≤ rm.cells) (hs : n + N ≤ rm.slots) (hd : decode cc pc = .ok (.newarray atype, 2)) (pc' : Nat) (he : pc + 2 = pc') (k : ∀ q, YY z g A Qf nL pc' L (.ref q :: st) (ws ++ [(q, .inl (cT, a0))]) (c + 1) (n + N)) : YY z g A Qf nL pc L (.int nn :: st) ws c n := by
  subst he; subst hty
  intro H locs ls hP hD hS h
  refine va_newa hC.1.1 hC.1.2.1 (hC.1.2.2.2.2 _ hw) rfl hC.2.2.2.1 hP hD hS hC.2.2.2.2 ha hn hN hby (by rw [hC.2.1]; exact hc) (by rw [hC.2.1]; exact hs) hd (fun q cA H1 hK1 hP1 hD1 hS1 => ?_)
  have e : cA = cT := by
    refine RA_inj h3 (hK1.2 (tyG g).length (cA, newarray.typeOf atype) ?_).2 (hC.2.2.2.1.2 t0 (cT, newarray.typeOf atype) ht).2
    rw [List.getElem?_append_right (Nat.le_refl _), Nat.sub_self]; rfl
  subst e
  exact k q H1 locs ls hP1 hD1 hS1 h
theorem y_new (hC : CY z g A cc nL Ts own rm) {C : String} {T : u_T} {N ci index : Nat} (hin : ∀ w ∈ u_ws C T N, w ∈ Ts) (ty : Nat → FieldType) (hty : ∀ k, k < N → parseFieldDescriptor (T k).2.2.1 = some (ty k)) (h1 : Cond.classLink own index C ∈ Ts) (h2 : Cond.instantiable C N ∈ Ts) (h3 : Cond.initialized C ∈ Ts) (hc : vwCl[ci]? = some (C, T, N)) {fs : List Value} (hfs : ∀ j, j < N → defaultValue (ty j) = vp_V fs j) (hcells : c + 1 ≤ rm.cells) (hslots : n + N ≤ rm.slots) (hd : decode cc pc = .ok (.new index, 3)) (pc' : Nat) (he : pc + 3 = pc') (k : ∀ q, YY z g A Qf nL pc' L (.ref q :: st) (ws ++ [(q, .inr (ci, fs))]) (c + 1) (n + N)) : YY z g A Qf nL pc L st ws c n := by
  subst he
  intro H locs ls hP hD hS h
  have hts := hC.1.2.2.2.2
  exact va_new hC.1.1 hC.1.2.1 hts hin ty hty hC.1.2.2.2.1 (hts _ h1) (hts _ h2) (hts _ h3) hC.2.2.2.1 hP hD hS hC.2.2.2.2 hc hfs (by rw [hC.2.1]; exact hcells) (by rw [hC.2.1]; exact hslots) hd (fun q H1 hP1 hD1 hS1 => k q H1 locs ls hP1 hD1 hS1 h)
/-- a field of one's own (the first cell of the world) -/
theorem y_put (hC : CY z g A cc nL Ts own rm) (hIn : (zh z).name = "<init>") {C : String} {T : u_T} {N ci index : Nat} (hin : ∀ w ∈ u_ws C T N, w ∈ Ts) (ty0 : Nat → FieldType) (hty : ∀ k, k < N → parseFieldDescriptor (T k).2.2.1 = some (ty0 k)) (hnm : ∀ a, a < N → ∀ b, b < N → a ≠ b → (T a).2.1 ≠ (T b).2.1) (hc : vwCl[ci]? = some (C, T, N)) (k : Nat) (hk : k < N) (hlink : Cond.fieldLink own index own (T k).2.1 (T k).2.2.1 ∈ Ts) (hdecl : (T k).1 = own) {ty : FieldType} {v : Value} (hd0 : parseFieldDescriptor (T k).2.2.1 = some ty) (hn : narrow ty v = v) (hfit : fits ty v = true) {h0 : Nat} {fs fs' : List Value} {rest : va_W} (hl : k < fs.length) (hset : fs.set k v = fs') (hd : decode cc pc = .ok (.putfield index, 3)) (pc' : Nat) (he : pc + 3 = pc') (kk : YY z g A Qf nL pc' L st ((h0, .inr (ci, fs')) :: rest) c n) : YY z g A Qf nL pc L (v :: .ref h0 :: st) ((h0, .inr (ci, fs)) :: rest) c n := by
  subst he; subst hset
  intro H locs ls hP hD hS h
  have hts := hC.1.2.2.2.2
  cases hf : (T k).2.2.2 with
  | true => exact va_putF hC.1.1 hC.1.2.1 hts hin ty0 hty hnm hC.1.2.2.2.1 hC.2.2.2.1 hP hD hS 0 rfl hc k hk (hts _ hlink) (fun x hx => by rw [hdecl] at hx; exact hx) hf hIn hdecl hd0 hn hfit hl hd (fun H1 locs1 hP1 hD1 hS1 => kk H1 locs1 ls hP1 hD1 hS1 h)
  | false => exact va_put hC.1.1 hC.1.2.1 hts hin ty0 hty hnm hC.1.2.2.2.1 hC.2.2.2.1 hP hD hS 0 rfl hc k hk (hts _ hlink) (fun x hx => by rw [hdecl] at hx; exact hx) hf hd0 hn hfit hl hd (fun H1 locs1 hP1 hD1 hS1 => kk H1 locs1 ls hP1 hD1 hS1 h)
theorem y_get (hC : CY z g A cc nL Ts own rm) {C : String} {T : u_T} {N ci index : Nat} (hin : ∀ w ∈ u_ws C T N, w ∈ Ts) (hc : vwCl[ci]? = some (C, T, N)) (k : Nat) (hk : k < N) (hlink : Cond.fieldLink own index own (T k).2.1 (T k).2.2.1 ∈ Ts) (hdecl : (T k).1 = own) {v : Value} {h0 : Nat} {fs : List Value} {rest : va_W} (hv : fs[k]? = some v) (hd : decode cc pc = .ok (.getfield index, 3)) (pc' : Nat) (he : pc + 3 = pc') (kk : YY z g A Qf nL pc' L (v :: st) ((h0, .inr (ci, fs)) :: rest) c n) : YY z g A Qf nL pc L (.ref h0 :: st) ((h0, .inr (ci, fs)) :: rest) c n := by
  subst he
  intro H locs ls hP hD hS h
  have hts := hC.1.2.2.2.2
  exact va_get hC.1.1 hC.1.2.1 hts hin hC.1.2.2.2.1 hC.2.2.2.1 hP 0 rfl hc k hk (hts _ hlink) (fun x hx => by rw [hdecl] at hx; exact hx) hv hd (kk H locs ls hP hD hS h)
theorem y_iast (hC : CY z g A cc nL Ts own rm) (q0 : Nat) {a N : Nat} {f f' : Nat → Int32} (ha : ws[q0]? = some (a, .inl (gI g, N, .inl f))) {i x : Int32} (hin : vp_in i N) (hf : upd f i.toNatClampNeg x = f') {ws' : va_W} (hw : ws.set q0 (a, .inl (gI g, N, .inl f')) = ws') (hd : decode cc pc = .ok (.iastore, 1)) (pc' : Nat) (he : pc + 1 = pc') (kk : YY z g A Qf nL pc' L st ws' c n) : YY z g A Qf nL pc L (.int x :: .int i :: .ref a :: st) ws c n := by
  subst he; subst hw; subst hf
  intro H locs ls hP hD hS h
  exact va_iast hC.1.1 hC.1.2.1 hC.2.2.2.1 hP hD hS q0 0 ha rfl hin hd (fun H1 locs1 hP1 hD1 hS1 => kk H1 locs1 ls hP1 hD1 hS1 h)
/-- a constructor's contract: its object has place k; behind it stand the places ps -/
def CI (g : GG) (l : Launch) (y : MethodName) (ws : List Cond) (rm : Room) (e0 : va_E) (k : Nat) (ps : List Nat) (post : MM → Prop) (mc ms : Nat) : Prop := ∀ (h0 sz : Nat), Met l y ws rm
  (va_Pc [.ref h0] (fun U => U.heap.size = sz ∧ va_P (gD g) vwCl [(h0, e0)] U.heap ∧ va_K (gD g) vwCl (tyG g) U ∧ StA g (CA h0 sz) U U.heap))
  (va_Qv (fun u : (Nat → Nat) × MM => u.1 k = h0 ∧ post u.2) (fun u t => va_P (gD g) vwCl (Wp g u.1 ps u.2) t.heap ∧ va_D (CA h0 sz) (Wp g u.1 ps u.2)) (CA h0 sz)) mc ms (CA h0 sz)
/-- what a constructor's call needs of its start -/
theorem CI.pre (hC : CY z g A cc nL Ts own rm) {wr : va_W} {h0 : Nat} {e0 : va_E} {H : Heap} {locs : List Loc} (hP : va_P (gD g) vwCl (wr ++ [(h0, e0)]) H) (hD : va_D A (wr ++ [(h0, e0)])) (hS : va_S A (zs z).heap H locs) : PreS (zs z) H (va_Pc [.ref h0] (fun U => U.heap.size = H.size ∧ va_P (gD g) vwCl [(h0, e0)] U.heap ∧ va_K (gD g) vwCl (tyG g) U ∧ StA g (CA h0 H.size) U U.heap)) [.ref h0] := by
  refine ⟨fun a U f mk q => ⟨q.1, q.2.1, q.2.2.1, va_K.moved (Vm.Alike.refl U.vm) q.2.2.2.1, q.2.2.2.2.same rfl (Vm.Alike.refl U.vm)⟩, fun U hU hW => ⟨rfl, by rw [hU], by rw [hU]; exact vaP_right hP, va_K.moved hW.alike hC.2.2.2.1, ?_⟩⟩
  rw [hU]
  refine (hC.2.2.1.warm hW hS.2.1).narrow (fun q h => ?_)
  rcases h with rfl | h
  · exact (vaD_right hD).2 0 _ rfl
  · exact hC.2.2.2.2 q (Nat.le_trans hS.1 h)
theorem CI.behind (hC : CY z g A cc nL Ts own rm) {wr : va_W} {h0 k : Nat} {ps : List Nat} {e0 : va_E} {H H1 : Heap} {locs : List Loc} {u : (Nat → Nat) × MM} (hP : va_P (gD g) vwCl (wr ++ [(h0, e0)]) H) (hD : va_D A (wr ++ [(h0, e0)])) (hS : va_S A (zs z).heap H locs) (hk1 : ∀ q : Nat, q < H.size → ¬ CA h0 H.size q → H1[q]? = H[q]?) (hP1 : va_P (gD g) vwCl (Wp g u.1 ps u.2) H1) (hD1 : va_D (CA h0 H.size) (Wp g u.1 ps u.2)) : va_P (gD g) vwCl (wr ++ Wp g u.1 ps u.2) H1 ∧ va_D A (wr ++ Wp g u.1 ps u.2) := by
  refine join_app (B := CA h0 H.size) hP hD (fun q hq h => ?_) hk1 (fun q h => ?_) hP1 hD1
  · rcases h with rfl | h
    · exact ⟨0, e0, rfl⟩
    · omega
  · rcases h with rfl | h
    · exact (vaD_right hD).2 0 _ rfl
    · exact hC.2.2.2.2 q (Nat.le_trans hS.1 h)
theorem CI.free (hC : CY z g A cc nL Ts own rm) {wr : va_W} {h0 : Nat} {e0 : va_E} {H : Heap} {locs : List Loc} (hD : va_D A (wr ++ [(h0, e0)])) (hS : va_S A (zs z).heap H locs) : ∀ q, CA h0 H.size q → A q := fun q h => by
  rcases h with rfl | h
  · exact (vaD_right hD).2 0 _ rfl
  · exact hC.2.2.2.2 q (Nat.le_trans hS.1 h)
theorem y_init (hC : CY z g A cc nL Ts own rm) {y : MethodName} {ws1 ws' : List Cond} {rm' : Room} {bytes : ByteArray} {maxL idx k mc ms : Nat} {e0 : va_E} {ps : List Nat} {post : MM → Prop} (hM : CI g (zl z) y ws1 rm' e0 k ps post mc ms) (hG : GoodIn Ts ws1) (hw : ws1 = Cond.code y bytes maxL none :: ws') (hr : rm'.cells = mc ∧ rm'.slots = ms) (h1 : Cond.initialized y.cls ∈ Ts) (h2 : Cond.methodLink own idx y ∈ Ts) (h3 : Cond.instanceMethod y ∈ Ts) (hy : y.name = "<init>") (hd0 : y.cls ≠ "java/lang/invoke/MethodHandle" ∧ y.cls ≠ "java/lang/invoke/VarHandle" ∧ (parseMethodDescriptor y.desc).map (fun d => d.parameters.length) = some 0) (hR : rm'.frames + 1 ≤ rm.frames ∧ 8 + (maxL + 11) + rm'.locals ≤ rm.locals) {wr : va_W} {h0 : Nat} (hcn : c + mc ≤ rm.cells ∧ n + ms ≤ rm.slots) (hW : (st.map fun v => v.category).sum ≤ 8) (hd : decode cc pc = .ok (.invokespecial idx, 3)) (pc' : Nat) (he : pc + 3 = pc') (kk : ∀ (a : Nat → Nat) (M : MM), a k = h0 → post M → YY z g A Qf nL pc' L st (wr ++ Wp g a ps M) (c + mc) (n + ms)) : YY z g A Qf nL pc L (.ref h0 :: st) (wr ++ [(h0, e0)]) c n := by
  subst he
  intro H locs ls hP hD hS h
  have hts := hC.1.2.2.2.2
  refine va_callv (va_runI (As := []) (rest := st) hC.1 (hM h0 H.size) (cwI 0 hts hG hw hr.1 hr.2 (hts _ h1) (hts _ h2) (hts _ h3) hy hd0 (by rw [hC.2.1]; exact hR)) (CI.pre hC hP hD hS) rfl rfl (h.1.trans rfl) rfl (lv_room hW) hd (by rw [hC.2.1]; exact hcn)) hS (fun q _ h => CI.free hC hD hS q h) (CI.free hC hD hS) (fun u t H1 locs1 ht hvm hw1 hB hz1 hk1 hS1 => ?_)
  rw [ht] at hB
  obtain ⟨hP2, hD2⟩ := CI.behind (k := k) hC hP hD hS hk1 hB.1 hB.2
  exact kk u.1 u.2 hw1.1 hw1.2 H1 locs1 ls hP2 hD2 hS1 h
theorem y_initN (hC : CY z g A cc nL Ts own rm) {y : MethodName} {ws1 ws' : List Cond} {rm' : Room} {bytes : ByteArray} {maxL idx k mc ms : Nat} {e0 : va_E} {ps : List Nat} {post : MM → Prop} (hM : CI g (zl z) y ws1 rm' e0 k ps post mc ms) (hG : GoodIn Ts ws1) (hw : ws1 = Cond.code y bytes maxL none :: ws') (hr : rm'.cells = mc ∧ rm'.slots = ms) (h1 : Cond.initialized y.cls ∈ Ts) (j : Nat) (h2 : nests[j]? = some (own, idx, y)) (h3 : Cond.instanceMethod y ∈ Ts) (hy : y.name = "<init>") (hd0 : y.cls ≠ "java/lang/invoke/MethodHandle" ∧ y.cls ≠ "java/lang/invoke/VarHandle" ∧ (parseMethodDescriptor y.desc).map (fun d => d.parameters.length) = some 0) (hR : rm'.frames + 1 ≤ rm.frames ∧ 8 + (maxL + 11) + rm'.locals ≤ rm.locals) {wr : va_W} {h0 : Nat} (hcn : c + mc ≤ rm.cells ∧ n + ms ≤ rm.slots) (hW : (st.map fun v => v.category).sum ≤ 8) (hd : decode cc pc = .ok (.invokespecial idx, 3)) (pc' : Nat) (he : pc + 3 = pc') (kk : ∀ (a : Nat → Nat) (M : MM), a k = h0 → post M → YY z g A Qf nL pc' L st (wr ++ Wp g a ps M) (c + mc) (n + ms)) : YY z g A Qf nL pc L (.ref h0 :: st) (wr ++ [(h0, e0)]) c n := by
  subst he
  intro H locs ls hP hD hS h
  have hts := hC.1.2.2.2.2
  refine va_callv (va_runIN (As := []) (rest := st) hC.1 (hM h0 H.size) ⟨va_cnB 0 hts hG hw hr.1 hr.2 (hC.2.2.1.2.1 _ (List.mem_of_getElem? h2)) (hts _ h1) hd0 (by rw [hC.2.1]; exact hR), hy, hts _ h3⟩ (CI.pre hC hP hD hS) rfl rfl (h.1.trans rfl) rfl (lv_room hW) hd (by rw [hC.2.1]; exact hcn)) hS (fun q _ h => CI.free hC hD hS q h) (CI.free hC hD hS) (fun u t H1 locs1 ht hvm hw1 hB hz1 hk1 hS1 => ?_)
  rw [ht] at hB
  obtain ⟨hP2, hD2⟩ := CI.behind (k := k) hC hP hD hS hk1 hB.1 hB.2
  exact kk u.1 u.2 hw1.1 hw1.2 H1 locs1 ls hP2 hD2 hS1 h
/-- a method of the whole world that stands (no new cell) -/
theorem y_callV (hC : CY z g A cc nL Ts own rm) {a : Nat → Nat} {ps : List Nat} {M : MM} (hn : ps.Nodup) {y : MethodName} {ws1 ws' : List Cond} {rm' : Room} {bytes : ByteArray} {maxL idx b ci : Nat} {Q : MM → Prop} {F : (Nat → Int32) → List Value} {q : vw_C} (hM : MV (gp g a ps) (zl z) y ws1 rm' [.ref (a b)] M Q) (hG : GoodIn Ts (wsV own idx q.1 y ws1)) (hw : ws1 = Cond.code y bytes maxL none :: ws') (hr : rm'.cells = 0 ∧ rm'.slots = 0) (hd0 : y.cls = q.1 ∧ y.cls ≠ "java/lang/invoke/MethodHandle" ∧ y.cls ≠ "java/lang/invoke/VarHandle" ∧ (parseMethodDescriptor y.desc).map (fun d => d.parameters.length) = some 0) (hR : rm'.frames + 1 ≤ rm.frames ∧ 8 + (maxL + 11) + rm'.locals ≤ rm.locals) (ho : obA (gp g a ps) b ci F) (hc : vwCl[ci]? = some q) (hcn : c ≤ rm.cells ∧ n ≤ rm.slots) (hW : (st.map fun v => v.category).sum ≤ 8) (hd : decode cc pc = .ok (.invokevirtual idx, 3)) (pc' : Nat) (he : pc + 3 = pc') (kk : ∀ M' : MM, Q M' → YY z g A Qf nL pc' L st (Wp g a ps M') c n) : YY z g A Qf nL pc L (.ref (a b) :: st) (Wp g a ps M) c n := by
  subst he
  intro H locs ls hP hD hS h
  have hts := hC.1.2.2.2.2
  have hAA : ∀ q, AA (gp g a ps) q → A q := by
    rintro q ⟨k, hk, rfl⟩
    obtain ⟨i, hi, hw⟩ := Wd_at (g := gp g a ps) (M := M) hk
    exact hD.2 i _ hw
  have hI : IV (gp g a ps) M (zs z) H := by
    refine ⟨hn, hP, ⟨hD.1, fun k q hq => ?_⟩, hC.2.2.2.1⟩
    have : q ∈ (Wd (gp g a ps) M) := List.mem_of_getElem? hq
    obtain ⟨k', hk', rfl⟩ := List.mem_map.mp this
    exact ⟨k', hk', rfl⟩
  have hpre : ∀ U : State, U.heap = H → (zs z).WarmedH U.vm → va_Pc [.ref (a b)] (BB (gp g a ps) M) [Value.ref (a b)].toArray U := by
    intro U hU hW1
    refine ⟨rfl, ?_, ?_⟩
    · rw [hU]; exact hI.moved hW1.alike
    · rw [hU]
      exact (hC.2.2.1.warm hW1 hS.2.1).narrow hAA
  have hV : PreV (zs z) H q.1 (a b) (va_Pc [.ref (a b)] (BB (gp g a ps) M)) [] := by
    refine ⟨BB.blind, ?_, hpre⟩
    obtain ⟨i, hi, hw⟩ := Wd_at (g := gp g a ps) (M := M) ho.1
    rw [ho.2 (M b)] at hw
    exact va_recv hC.2.2.2.1 hP hc hw
  refine va_callv (va_runV (C := q.1) (ret := none) (As := []) (rest := st) hC.1 hM (cwV 0 hts hG hw hr.1 hr.2 hd0 (by rw [hC.2.1]; exact hR)) hV rfl rfl (h.1.trans rfl) rfl (lv_room hW) hd (by rw [hC.2.1]; exact hcn)) hS (fun q _ h => hAA q h) hAA (fun u t H1 locs1 ht hvm hw1 hB hz1 hk1 hS1 => ?_)
  rw [ht] at hB
  exact kk u hw1 H1 locs1 ls hB.2.1 (hB.2.2.1.weaken (fun k q _ h => hAA q.1 h)) hS1 h
/-- a constructor's end -/
theorem y_ret {h0 k : Nat} {ps : List Nat} {post : MM → Prop} (hR : ∀ (pc : Nat) (ls : Array Slot) (a : Nat → Nat) (M : MM) (H : Heap) (locs : List Loc), decode cc pc = .ok (.return_, 1) → a k = h0 → post M → va_P (gD g) vwCl (Wp g a ps M) H → va_D A (Wp g a ps M) → va_S A (zs z).heap H locs → W (zp z) (zl z) (ze z) (zR z) (zs z) (zm z) (za z) (zb z) (zh z) (zc z) H locs (zR z).cells (zR z).slots Qf (F0 (zm z) pc ls [])) (hC : CY z g A cc nL Ts own rm) (a : Nat → Nat) (M : MM) (hd : decode cc pc = .ok (.return_, 1)) (ha : a k = h0) (hp : post M) (hws : ws = Wp g a ps M) (hc : c = rm.cells) (hn : n = rm.slots) : YY z g A Qf nL pc L [] ws c n := by
  subst hws; subst hc; subst hn
  intro H locs ls hP hD hS h
  have := hR pc ls a M H locs hd ha hp hP hD hS
  rw [hC.2.1] at this
  rw [hC.2.1]
  exact this
end YROWS
/-- a contract out of a constructor's walk -/
theorem mk_CI {g : GG} {l : Launch} {y : MethodName} {ws ws' : List Cond} {rm : Room} {e0 : va_E} {k : Nat} {ps : List Nat} {post : MM → Prop} {cc : ByteArray} {maxL : Nat} (hy : plainName y.cls = true) (hi : y.name = "<init>") (hw : ws = Cond.code y cc maxL none :: ws') (hn : 1 ≤ maxL)
    (hb : ∀ (z : ZZ) (Qf : State → Prop) (h0 sz : Nat) (A : Nat → Prop), CY z g A cc maxL ws y.cls rm → (zh z).name = "<init>" → (∀ (pc : Nat) (ls : Array Slot) (a : Nat → Nat) (M : MM) (H : Heap) (locs : List Loc), decode cc pc = .ok (.return_, 1) → a k = h0 → post M → va_P (gD g) vwCl (Wp g a ps M) H → va_D A (Wp g a ps M) → va_S A (zs z).heap H locs → W (zp z) (zl z) (ze z) (zR z) (zs z) (zm z) (za z) (zb z) (zh z) (zc z) H locs (zR z).cells (zR z).slots Qf (F0 (zm z) pc ls [])) → YY z g A Qf maxL 0 [(0, .ref h0)] [] [(h0, e0)] 0 0) : CI g l y ws rm e0 k ps post rm.cells rm.slots := by
  intro h0 sz
  refine Met.ofW (cc := cc) (maxL := maxL) (ret := none) hy hw ?_
  intro p e s m args below meth c s₁ B hml hv
  obtain ⟨rfl, hsz, hP, hK, hSt⟩ := hv
  have hts := atoms_spec (ws := ws) B.pre
  have hlocks := B.notSynchronized
  have hown : s.vm.findClass y.cls = some m.cls := findClass_of_methodNamed B.named
  have hin : meth.name = "<init>" := (name_of_methodNamed B.named B.method).1.trans hi
  have hl := lv_entry [.ref h0] (n := maxL) hn
  rw [lg_entry_eq]
  refine hb (p, l, e, (headSpec ws rm).room, s, m, [Value.ref h0].toArray, below, meth, c) _ h0 sz (CA h0 sz) ⟨⟨B.exec, B.bytes, hml, hown, hts⟩, rfl, hSt, hK, fun q hq => Or.inr (by rw [← hsz]; exact hq)⟩ hin ?_ _ _ _ hP ?_ va_S.rf hl
  · intro pc ls a M H locs hd ha hp hP1 hD1 hS
    exact W.vret B.exec B.bytes B.returns (fun t ht hW => ⟨⟨(a, M), rfl, ⟨ha, hp⟩, by show va_P (gD g) vwCl (Wp g a ps M) t.heap ∧ _; rw [ht]; exact ⟨hP1, hD1⟩⟩, hS.F ht⟩) hS.2.2 hd
  · exact ⟨fun i j p q h1 h2 _ => by
      have a1 := (List.getElem?_eq_some_iff.mp h1).1
      have a2 := (List.getElem?_eq_some_iff.mp h2).1
      simp at a1 a2; omega, fun k q hq => by
      have a1 := (List.getElem?_eq_some_iff.mp hq).1
      have : k = 0 := by simp at a1; omega
      subst this
      cases hq
      exact Or.inl rfl⟩
