-- String constants: length() and charAt(i), as the JDK has them
def wJ0_length_8abf5 (Q : Int32 → MM → Prop) (M : MM) (k : Nat) : Prop := Q (nI (lenK.getD k 0)) M
def chK (k j : Nat) : Int32 := (bytK.getD k []).getD j 0
def wJ0_charAt_5068e (Q : Int32 → MM → Prop) (M : MM) (k : Nat) (i : Int32) : Prop := vp_in i (lenK.getD k 0) ∧ Q (chK k i.toNatClampNeg) M
theorem chK_byte : ∀ k, k < 11 → ∀ j, j < lenK.getD k 0 → ((chK k j &&& 255).toUInt32 % 65536).toInt32 = chK k j ∧ narrow .char (.int (chK k j)) = .int (chK k j) := by decide +kernel
theorem lenK_lt : ∀ k, k < 11 → lenK.getD k 0 < 8 := by decide +kernel
theorem mk_MN {g : GG} {l : Launch} {y : MethodName} {ws ws' : List Cond} {f w : Nat} {As : List Value} {M : MM} {Q : Int32 → MM → Prop} {cc : ByteArray} {maxL : Nat} {rt : FieldType} (hy : plainName y.cls = true) (hw : ws = Cond.code y cc maxL (some rt) :: ws') (hn : (lg_sl As).length ≤ maxL)
    (hb : ∀ (z : ZZ) (Qf : State → Prop), CX z g cc maxL ws y.cls (rmOf f w) → RI z g cc Qf (fun r M => narrow rt (.int r) = .int r ∧ Q r M) → XX z g Qf maxL 0 (lv_args 0 As) [] M) : MI g l y ws (rmOf f w) As M Q := by
  refine Met.ofW (cc := cc) (maxL := maxL) (ret := some rt) hy hw ?_
  intro p e s m args below meth c s₁ B hml hv
  obtain ⟨rfl, hI, hSt⟩ := hv
  have hts := atoms_spec (ws := ws) B.pre
  have hlocks := B.notSynchronized
  have hown : s.vm.findClass y.cls = some m.cls := findClass_of_methodNamed B.named
  have hl := lv_entry As (n := maxL) hn
  rw [lg_entry_eq]
  refine hb (p, l, e, (headSpec ws (rmOf f w)).room, s, m, As.toArray, below, meth, c) _ ⟨⟨B.exec, B.bytes, hml, hown, hts⟩, rfl, hSt⟩ ?_ _ _ _ hI va_S.rf hl
  intro pc ls r M1 H locs hd hQ hI1 hS
  exact W.zret (v := r) B.exec B.bytes B.returns hQ.1 (fun t ht hW => ⟨⟨r, M1, rfl, hQ.2, by show IV g M1 t t.heap; rw [ht]; exact hI1.moved hW.alike⟩, hS.F ht⟩) hS.2.2 hd
section SROWS
variable {z : ZZ} {g : GG} {Qf : State → Prop} {nL pc : Nat} {L : List (Nat × Value)} {st rest : List Value} {M : MM} {cc : ByteArray} {Ts : List Cond} {own : String} {rm : Room}
theorem q_getsC (hC : CX z g cc nL Ts own rm) {index : Nat} (hlink : Cond.fieldLink own index "java/lang/String" "COMPACT_STRINGS" "Z" ∈ Ts) (hd : decode cc pc = .ok (.getstatic index, 3)) (pc' : Nat) (he : pc + 3 = pc') (kk : XX z g Qf nL pc' L (.int 1 :: st) M) : XX z g Qf nL pc L st M := by
  subst he
  exact fun H locs ls hI hS h => va_gets hC.1.1 hC.1.2.1 hC.2.2.2.2.2.2.1 hS hC.1.2.2.2.1 (hC.1.2.2.2.2 _ hlink) (fun _ h9 => h9) hd (kk H locs ls hI hS h)
theorem q_getsF (hC : CX z g cc nL Ts own rm) {index : Nat} (hlink : Cond.fieldLink own index "jdk/internal/util/Preconditions" "SIOOBE_FORMATTER" "Ljava/util/function/BiFunction;" ∈ Ts) (hd : decode cc pc = .ok (.getstatic index, 3)) (pc' : Nat) (he : pc + 3 = pc') (kk : XX z g Qf nL pc' L (.null :: st) M) (kr : ∀ t : Nat, XX z g Qf nL pc' L (.ref t :: st) M) : XX z g Qf nL pc L st M := by
  subst he
  intro H locs ls hI hS h
  rcases hC.2.2.2.2.2.2.2.1 with hz | ⟨t, hz⟩
  · exact va_gets hC.1.1 hC.1.2.1 hz hS hC.1.2.2.2.1 (hC.1.2.2.2.2 _ hlink) (fun _ h9 => h9) hd (kk H locs ls hI hS h)
  · exact va_gets hC.1.1 hC.1.2.1 hz hS hC.1.2.2.2.1 (hC.1.2.2.2.2 _ hlink) (fun _ h9 => h9) hd (kr t H locs ls hI hS h)
theorem q_getKc (hC : CX z g cc nL Ts own rm) {index k : Nat} (hk : k < 11) (hlink : Cond.fieldLink own index "java/lang/String" "coder" "B" ∈ Ts) (hd : decode cc pc = .ok (.getfield index, 3)) (pc' : Nat) (he : pc + 3 = pc') (kk : XX z g Qf nL pc' L (.int 0 :: st) M) : XX z g Qf nL pc L (.ref (gK g k) :: st) M := by
  subst he
  exact fun H locs ls hI hS h => vk_getf hC.1.1 hC.1.2.1 (hC.2.2.2.2.1.1 k hk).2.1 hS hC.1.2.2.2.1 (hC.1.2.2.2.2 _ hlink) (fun _ h9 => h9) hd (kk H locs ls hI hS h)
theorem q_getKv (hC : CX z g cc nL Ts own rm) {index k : Nat} (hk : k < 11) (hlink : Cond.fieldLink own index "java/lang/String" "value" "[B" ∈ Ts) (hd : decode cc pc = .ok (.getfield index, 3)) (pc' : Nat) (he : pc + 3 = pc') (kk : XX z g Qf nL pc' L (.ref (gV g k) :: st) M) : XX z g Qf nL pc L (.ref (gK g k) :: st) M := by
  subst he
  exact fun H locs ls hI hS h => vk_getf hC.1.1 hC.1.2.1 (hC.2.2.2.2.1.1 k hk).2.2.1 hS hC.1.2.2.2.1 (hC.1.2.2.2.2 _ hlink) (fun _ h9 => h9) hd (kk H locs ls hI hS h)
theorem q_lenK (hC : CX z g cc nL Ts own rm) {k : Nat} (hk : k < 11) (hd : decode cc pc = .ok (.arraylength, 1)) (pc' : Nat) (he : pc + 1 = pc') (kk : XX z g Qf nL pc' L (.int (nI (lenK.getD k 0)) :: st) M) : XX z g Qf nL pc L (.ref (gV g k) :: st) M := by
  subst he
  exact fun H locs ls hI hS h => va_tlen hC.1.1 hC.1.2.1 (hC.2.2.2.2.1.1 k hk).2.2.2 hS rfl hd (kk H locs ls hI hS h)
theorem q_baldK (hC : CX z g cc nL Ts own rm) {k : Nat} (hk : k < 11) {i : Int32} (hin : vp_in i (lenK.getD k 0)) (hd : decode cc pc = .ok (.baload, 1)) (pc' : Nat) (he : pc + 1 = pc') (kk : XX z g Qf nL pc' L (.int (chK k i.toNatClampNeg) :: st) M) : XX z g Qf nL pc L (.int i :: .ref (gV g k) :: st) M := by
  subst he
  exact fun H locs ls hI hS h => va_tb hC.1.1 hC.1.2.1 (hC.2.2.2.2.1.1 k hk).2.2.2 hS hin rfl hd (kk H locs ls hI hS h)
theorem q_i2c (hC : CX z g cc nL Ts own rm) {x v : Int32} (hd : decode cc pc = .ok (.i2c, 1)) (hv : (x.toUInt32 % 65536).toInt32 = v) (pc' : Nat) (he : pc + 1 = pc') (k : XX z g Qf nL pc' L (.int v :: st) M) : XX z g Qf nL pc L (.int x :: st) M := by
  subst he; exact fun H locs ls hI hS h => lv_i2c hC.1.1 hC.1.2.1 hd hv (k H locs ls hI hS h)
theorem q_aloadN (hC : CX z g cc nL Ts own rm) {i : Fin 4} (hd : decode cc pc = .ok (.aload_n i, 1)) (j : Nat) (hl : L[j]? = some ((i : Nat), .null)) (pc' : Nat) (he : pc + 1 = pc') (k : XX z g Qf nL pc' L (.null :: st) M) : XX z g Qf nL pc L st M := by
  subst he; exact fun H locs ls hI hS h => lv_aload_nN hC.1.1 hC.1.2.1 hd rfl (lv_at h j hl) (k H locs ls hI hS h)
theorem go_VK (hC : CX z g cc nL Ts own rm) {y : MethodName} {ws ws' : List Cond} {rm' : Room} {bytes : ByteArray} {maxL idx k : Nat} {ret : Option FieldType} {As : List Value} {Qc : Array Value → State → Outcome → State → Prop}
    (hM : Met (zl z) y ws rm' (va_Pc (.ref (gK g k) :: As) (BB g M)) Qc 0 0 (AA g)) (n : Nat) (hG : GoodIn Ts (wsV own idx "java/lang/String" y ws)) (hw : ws = Cond.code y bytes maxL ret :: ws') (hr : rm'.cells = 0 ∧ rm'.slots = 0)
    (hd : y.cls = "java/lang/String" ∧ y.cls ≠ "java/lang/invoke/MethodHandle" ∧ y.cls ≠ "java/lang/invoke/VarHandle" ∧ (parseMethodDescriptor y.desc).map (fun d => d.parameters.length) = some n) (hR : rm'.frames + 1 ≤ rm.frames ∧ 8 + (maxL + 11) + rm'.locals ≤ rm.locals)
    (hk : k < 11) (hn : As.length = n) (hst : st = As.reverse ++ .ref (gK g k) :: rest) (hW : (rest.map fun v => v.category).sum ≤ 8) (hdg : decode cc pc = .ok (.invokevirtual idx, 3)) : GO z g pc st rest M (Qc (Value.ref (gK g k) :: As).toArray) :=
  fun H locs ls hI hS hsz => va_runV (C := "java/lang/String") (ret := ret) hC.1 hM (cwV n hC.1.2.2.2.2 hG hw hr.1 hr.2 hd (by rw [hC.2.1]; exact hR)) ⟨BB.blind, vk_recv hC.2.2.2.2.1 hk hS, hC.pre hI hS⟩ rfl hn (hsz.trans hC.1.2.2.1) hst (lv_room hW) hdg ⟨Nat.le_refl _, Nat.le_refl _⟩
/-- a static row is copied into a row of the world -/
theorem q_copyt (hC : CX z g cc nL Ts own rm) {index : Nat} (w1 : Cond.methodLink own index arraycopyName ∈ Ts) (w2 : Cond.native arraycopyName ∈ Ts) (w3 : Cond.static arraycopyName ∈ Ts) (w4 : Cond.initialized "java/lang/System" ∈ Ts) {k0 k1 : Nat} (hs0 : k0 < 3) (ho1 : isI g k1) {sp dp n : Int32} (p1 : ¬ sp < 0) (p2 : ¬ dp < 0) (p3 : ¬ n < 0) (p4 : sp.toNatClampNeg + n.toNatClampNeg ≤ 9) (p5 : dp.toNatClampNeg + n.toNatClampNeg ≤ alen k1) (hf : 1 ≤ rm.frames) (hlo : (st.map fun v => v.category).sum + (nativeFrameWords "java/lang/System" "arraycopy" 5 + 11) ≤ rm.locals) (hd : decode cc pc = .ok (.invokestatic index, 3)) (pc' : Nat) (he : pc + 3 = pc') (kk : ∀ M' : MM, M' = mrow M k1 (va_cpy (stV k0) (M k1) sp.toNatClampNeg dp.toNatClampNeg n.toNatClampNeg) → XX z g Qf nL pc' L st M') : XX z g Qf nL pc L (.int n :: .int dp :: .ref (gA g k1) :: .int sp :: .ref (gS g k0) :: st) M := by
  subst he
  intro H locs ls hI hS h T hT X
  have hts := hC.1.2.2.2.2
  have pos : ∀ q : Int32, ¬ q < 0 → q.toInt = (q.toNatClampNeg : Int) := fun q hq => by
    have h0 : (0 : Int) ≤ q.toInt := by simpa using Int32.le_iff_toInt_le.mp (Int32.not_lt.mp hq)
    exact (Int.toNat_of_nonneg h0).symm
  obtain ⟨i1, hi1, hw1⟩ := Wd_at (M := M) ho1.1
  rw [ho1.2 (M k1)] at hw1
  obtain ⟨sc, c1, c2, c3, c4, -, c5, c6⟩ := (hC.2.2.1 k0 hs0).2
  have hsrc : H[gS g k0]? = some sc := (hS.2.1 _ (Array.getElem?_eq_some_iff.mp c1).1 c6).trans c1
  have hdst : H[gA g k1]? = some (vp_cell (gI g) (alen k1, .inl (M k1))) := hI.2.1 i1 _ hw1
  obtain ⟨c7, ka, ea, ma, ua⟩ := c2
  obtain ⟨-, kb, eb, mb, ub⟩ := (hI.2.2.2.2 0 _ rfl).1 (alen k1) (fun j => .int (M k1 j))
  obtain ⟨vm', X', step⟩ := X.arraycopy hC.1.1 hC.1.2.2.2.1 (hts _ w1) (hts _ w2) (hts _ w3) (hts _ w4) (src := gS g k0) (dst := gA g k1) (cs := sc) (cd := vp_cell (gI g) (alen k1, .inl (M k1))) (srcPos := sp) (destPos := dp) (n := n) (by rw [hT]; exact hsrc) (by rw [hT]; exact hdst)
    c7 (fun _ q => by cases q) c3 (fun q => by cases q) ea eb ua ub (by simp [refKind]) p1 p2 p3
    (by rw [pos sp p1, pos n p3]; omega)
    (by rw [pos dp p2, pos n p3]; show ¬ _ > ((arrV (gI g) (alen k1) (fun j => .int (M k1 j))).slots.size : Int); rw [arrV_size]; omega)
    (fun vm₁ _ i hi => by
      have e : sc.slots.getD (sp.toNatClampNeg + i) .null = .int (stV k0 (sp.toNatClampNeg + i)) := by
        rw [Array.getD_eq_getD_getElem?, c5 _ (by omega)]; rfl
      exact ⟨by rw [e]; rfl, by rw [e]; exact trivial⟩)
    (g := F0 (zm z) pc ls (.int n :: .int dp :: .ref (gA g k1) :: .int sp :: .ref (gS g k0) :: st)) rfl (by rw [hC.1.2.2.1, h.1]) (rest := st) rfl (by rw [hC.1.2.1]; exact hd) (by rw [hC.2.1]; exact hf) (by rw [hC.2.1]; show 2 * 0 + _ + _ ≤ _; omega)
  have e1 : copied sc (vp_cell (gI g) (alen k1, .inl (M k1))) sp dp n = vp_cell (gI g) (alen k1, .inl (va_cpy (stV k0) (M k1) sp.toNatClampNeg dp.toNatClampNeg n.toNatClampNeg)) := va_copiedX (fun q => .int q) sc (gI g) (stV k0) (M k1) c5 p4
  rw [e1] at X' step
  obtain ⟨H2, eH⟩ : ∃ q, q = H.setIfInBounds (gA g k1) (vp_cell (gI g) (alen k1, .inl (va_cpy (stV k0) (M k1) sp.toNatClampNeg dp.toNatClampNeg n.toNatClampNeg))) := ⟨_, rfl⟩
  have hl : gA g k1 < H.size := (Array.getElem?_eq_some_iff.mp hdst).1
  have off : ∀ q : Nat, q ≠ gA g k1 → H2[q]? = H[q]? := fun q hq => by rw [eH]; simp [Array.getElem?_setIfInBounds, Ne.symm hq]
  have on : H2[gA g k1]? = some (vp_cell (gI g) (alen k1, .inl (va_cpy (stV k0) (M k1) sp.toNatClampNeg dp.toNatClampNeg n.toNatClampNeg))) := by rw [eH]; simp [Array.getElem?_setIfInBounds, hl]
  have inA : AA g (gA g k1) := ⟨k1, ho1.1, rfl⟩
  have hP := hI.2.1.set hI.2.2.1 hw1 (e := .inl (gI g, alen k1, .inl (va_cpy (stV k0) (M k1) sp.toNatClampNeg dp.toNatClampNeg n.toNatClampNeg))) on off
  have hD := hI.2.2.1.set hw1 (e := .inl (gI g, alen k1, .inl (va_cpy (stV k0) (M k1) sp.toNatClampNeg dp.toNatClampNeg n.toNatClampNeg)))
  have e := Wd_set (M := M) hI.1 hi1 (va_cpy (stV k0) (M k1) sp.toNatClampNeg dp.toNatClampNeg n.toNatClampNeg)
  rw [ho1.2] at e
  rw [e] at hP hD
  obtain ⟨t, a1, b1⟩ := kk _ rfl H2 _ ls ⟨hI.1, hP, hD, hI.2.2.2⟩ ⟨by rw [eH]; simp; exact hS.1, fun q g1 g2 => by rw [off q (fun z => g2 (by rw [z]; exact inA))]; exact hS.2.1 q g1 g2, fun q hq => by
      rcases List.mem_append.mp hq with u | u
      · exact hS.2.2 q u
      · obtain ⟨w, -, hw⟩ := List.mem_map.mp u
        rw [← hw]; exact inA⟩ h _ (by rw [eH, ← hT]; rfl) X'
  exact ⟨t, step t a1, b1⟩
end SROWS
set_option maxHeartbeats 4000000 in
theorem ctJ0_coder_7d493 (l : Launch) (g : GG) (M : MM) (k : Nat) (Q : Int32 → MM → Prop) (hk : k < 11) (hw : Q 0 M) : MI g l yJ0_coder_7d493 wsJ0_coder_7d493 (rmOf 0 0) [.ref (gK g k)] M Q := by
  refine mk_MN (rt := .byte) (cc := cJ0_coder_7d493) (maxL := 1) (by decide) rfl (Nat.le_of_ble_eq_true rfl) ?_
  intro z Qf hC hR
  show XX z g Qf 1 0 [(0, .ref (gK g k))] [] M
  refine q_getsC hC (uJ0_coder_7d493__o _ (List.mem_of_getElem? (l := owJ0_coder_7d493) (i := 1) rfl)) dJ0_coder_7d493_0 3 rfl ?_
  refine q_if_eq (A := False) (B := Q 0 M) hC 13 dJ0_coder_7d493_3 (by decide) 6 rfl ⟨fun h => absurd h (by decide), fun _ => hw⟩ (fun h => h.elim) (fun hw => ?_)
  refine q_aload_n hC dJ0_coder_7d493_6 0 rfl 7 rfl ?_
  refine q_getKc hC hk (uJ0_coder_7d493__o _ (List.mem_of_getElem? (l := owJ0_coder_7d493) (i := 2) rfl)) dJ0_coder_7d493_7 10 rfl ?_
  refine q_goto hC 14 dJ0_coder_7d493_10 (by decide) ?_
  exact r_iret hR dJ0_coder_7d493_14 ⟨by decide +kernel, hw⟩
set_option maxHeartbeats 4000000 in
theorem ctJ0_isLatin1_aae02 (l : Launch) (g : GG) (M : MM) (k : Nat) (Q : Int32 → MM → Prop) (hk : k < 11) (hw : Q 1 M) : MI g l yJ0_isLatin1_aae02 wsJ0_isLatin1_aae02 (rmOf 0 0) [.ref (gK g k)] M Q := by
  refine mk_MN (rt := .boolean) (cc := cJ0_isLatin1_aae02) (maxL := 1) (by decide) rfl (Nat.le_of_ble_eq_true rfl) ?_
  intro z Qf hC hR
  show XX z g Qf 1 0 [(0, .ref (gK g k))] [] M
  refine q_getsC hC (uJ0_isLatin1_aae02__o _ (List.mem_of_getElem? (l := owJ0_isLatin1_aae02) (i := 1) rfl)) dJ0_isLatin1_aae02_0 3 rfl ?_
  refine q_if_eq (A := False) (B := Q 1 M) hC 17 dJ0_isLatin1_aae02_3 (by decide) 6 rfl ⟨fun h => absurd h (by decide), fun _ => hw⟩ (fun h => h.elim) (fun hw => ?_)
  refine q_aload_n hC dJ0_isLatin1_aae02_6 0 rfl 7 rfl ?_
  refine q_getKc hC hk (uJ0_isLatin1_aae02__o _ (List.mem_of_getElem? (l := owJ0_isLatin1_aae02) (i := 2) rfl)) dJ0_isLatin1_aae02_7 10 rfl ?_
  refine q_if_ne (A := False) (B := Q 1 M) hC 17 dJ0_isLatin1_aae02_10 (by decide) 13 rfl ⟨fun h => absurd rfl h, fun _ => hw⟩ (fun h => h.elim) (fun hw => ?_)
  refine q_iconst (v := 1) hC dJ0_isLatin1_aae02_13 rfl 14 rfl ?_
  refine q_goto hC 18 dJ0_isLatin1_aae02_14 (by decide) ?_
  exact r_iret hR dJ0_isLatin1_aae02_18 ⟨by decide +kernel, hw⟩
theorem i_shr0 (x : Int32) : x >>> ((0 : Int32) &&& 31) = x := by
  rw [show ((0 : Int32) &&& 31) = 0 from by decide +kernel]
  first | exact Int32.shiftRight_zero | simp
set_option maxHeartbeats 4000000 in
theorem ctJ0_length_8abf5 (l : Launch) (g : GG) (M : MM) (k : Nat) (Q : Int32 → MM → Prop) (hk : k < 11) (hw : wJ0_length_8abf5 Q M k) : MI g l yJ0_length_8abf5 wsJ0_length_8abf5 (rmOf 1 60) [.ref (gK g k)] M Q := by
  refine mk_MI (cc := cJ0_length_8abf5) (maxL := 1) (by decide) rfl (Nat.le_of_ble_eq_true rfl) ?_
  intro z Qf hC hR
  show XX z g Qf 1 0 [(0, .ref (gK g k))] [] M
  refine q_aload_n hC dJ0_length_8abf5_0 0 rfl 1 rfl ?_
  refine q_getKv hC hk (uJ0_length_8abf5__o _ (List.mem_of_getElem? (l := owJ0_length_8abf5) (i := 1) rfl)) dJ0_length_8abf5_1 4 rfl ?_
  refine q_lenK hC hk dJ0_length_8abf5_4 5 rfl ?_
  refine q_aload_n hC dJ0_length_8abf5_5 0 rfl 6 rfl ?_
  refine r_callI hC (go_VK (As := []) (rest := [.int (nI (lenK.getD k 0))]) hC (ctJ0_coder_7d493 (zl z) g M k (fun r M' => r = 0 ∧ Q (nI (lenK.getD k 0)) M') hk ⟨rfl, hw⟩) 0 gJ0_length_8abf5_J0_coder_7d493 rfl ⟨rfl, rfl⟩ (by decide +kernel) ⟨Nat.le_of_ble_eq_true rfl, Nat.le_of_ble_eq_true rfl⟩ hk rfl rfl (Nat.le_of_ble_eq_true rfl) dJ0_length_8abf5_6) 9 rfl (fun r M hw => ?_)
  obtain ⟨rfl, hw⟩ := hw
  refine q_ishr hC dJ0_length_8abf5_9 10 rfl ?_
  rw [i_shr0]
  exact r_iret hR dJ0_length_8abf5_10 hw
theorem ck_num {i : Int32} {n : Nat} (h : vp_in i n) (hn : n < 2 ^ 31) : ¬ i < 0 ∧ i < nI n := by
  obtain ⟨j, hj, rfl⟩ := vp_in_of h hn
  exact ⟨nI_pos (by omega), nI_lt hj hn⟩
set_option maxHeartbeats 4000000 in
theorem ctJ3_checkIndex_8e157 (l : Launch) (g : GG) (M : MM) (i : Int32) (n : Nat) (v : Value) (hv : v = .null ∨ ∃ t, v = .ref t) (Q : Int32 → MM → Prop) (hn : n < 2 ^ 31) (hin : vp_in i n) (hw : Q i M) : MI g l yJ3_checkIndex_8e157 wsJ3_checkIndex_8e157 (rmOf 0 0) [.int i, .int (nI n), v] M Q := by
  have key : ∀ (L : List (Nat × Value)), L[0]? = some (0, .int i) → L[1]? = some (1, .int (nI n)) → ∀ (z : ZZ) (Qf : State → Prop), CX z g cJ3_checkIndex_8e157 3 wsJ3_checkIndex_8e157 RJ3 (rmOf 0 0) → RI z g cJ3_checkIndex_8e157 Qf Q → XX z g Qf 3 0 L [] M := by
    intro L h0 h1 z Qf hC hR
    refine q_iload_n hC dJ3_checkIndex_8e157_0 0 h0 1 rfl ?_
    refine q_if_lt (A := False) (B := Q i M) hC 9 dJ3_checkIndex_8e157_1 (by decide) 4 rfl ⟨fun h => (ck_num hin hn).1 h, fun _ => hw⟩ (fun h => h.elim) (fun hw => ?_)
    refine q_iload_n hC dJ3_checkIndex_8e157_4 0 h0 5 rfl ?_
    refine q_iload_n hC dJ3_checkIndex_8e157_5 1 h1 6 rfl ?_
    refine q_icmp_lt (A := Q i M) (B := False) hC 16 dJ3_checkIndex_8e157_6 (by decide) 9 rfl ⟨fun _ => hw, fun h => h (ck_num hin hn).2⟩ (fun hw => ?_) (fun h => h.elim)
    refine q_iload_n hC dJ3_checkIndex_8e157_16 0 h0 17 rfl ?_
    exact r_iret hR dJ3_checkIndex_8e157_17 hw
  rcases hv with rfl | ⟨t, rfl⟩
  · exact mk_MI (cc := cJ3_checkIndex_8e157) (maxL := 3) (by decide) rfl (Nat.le_of_ble_eq_true rfl) (key _ rfl rfl)
  · exact mk_MI (cc := cJ3_checkIndex_8e157) (maxL := 3) (by decide) rfl (Nat.le_of_ble_eq_true rfl) (key _ rfl rfl)
set_option maxHeartbeats 4000000 in
theorem ctJ0_checkIndex_df160 (l : Launch) (g : GG) (M : MM) (i : Int32) (n : Nat) (Q : MM → Prop) (hn : n < 2 ^ 31) (hin : vp_in i n) (hw : Q M) : MV g l yJ0_checkIndex_df160 wsJ0_checkIndex_df160 (rmOf 1 22) [.int i, .int (nI n)] M Q := by
  refine mk_MV (cc := cJ0_checkIndex_df160) (maxL := 2) (by decide) rfl (Nat.le_of_ble_eq_true rfl) ?_
  intro z Qf hC hR
  show XX z g Qf 2 0 [(0, .int i), (1, .int (nI n))] [] M
  refine q_iload_n hC dJ0_checkIndex_df160_0 0 rfl 1 rfl ?_
  refine q_iload_n hC dJ0_checkIndex_df160_1 1 rfl 2 rfl ?_
  have key : ∀ v : Value, (v = .null ∨ ∃ t, v = .ref t) → XX z g Qf 2 5 [(0, .int i), (1, .int (nI n))] [v, .int (nI n), .int i] M := by
    intro v hv
    refine r_callI hC (go_T (As := [.int i, .int (nI n), v]) (rest := []) hC (ctJ3_checkIndex_8e157 (zl z) g M i n v hv (fun _ M' => Q M') hn hin hw) 3 gJ0_checkIndex_df160_J3_checkIndex_8e157 rfl ⟨rfl, rfl⟩ (by decide +kernel) ⟨Nat.le_of_ble_eq_true rfl, Nat.le_of_ble_eq_true rfl⟩ rfl rfl (Nat.le_of_ble_eq_true rfl) dJ0_checkIndex_df160_5) 8 rfl (fun r M hw => ?_)
    refine q_pop hC dJ0_checkIndex_df160_8 rfl 9 rfl ?_
    exact r_vret hR dJ0_checkIndex_df160_9 hw
  exact q_getsF hC (uJ0_checkIndex_df160__o _ (List.mem_of_getElem? (l := owJ0_checkIndex_df160) (i := 1) rfl)) dJ0_checkIndex_df160_2 5 rfl (key _ (Or.inl rfl)) (fun t => key _ (Or.inr ⟨t, rfl⟩))
set_option maxHeartbeats 4000000 in
theorem ctJ1_charAt_3b067 (l : Launch) (g : GG) (M : MM) (k : Nat) (i : Int32) (Q : Int32 → MM → Prop) (hk : k < 11) (hw : wJ0_charAt_5068e Q M k i) : MI g l yJ1_charAt_3b067 wsJ1_charAt_3b067 (rmOf 2 43) [.ref (gV g k), .int i] M Q := by
  obtain ⟨hin, hw⟩ := hw
  have hlk := lenK_lt k hk
  have hcl : i.toNatClampNeg < lenK.getD k 0 := Nat.not_le.mp fun q => hin (Or.inr q)
  have hby := chK_byte k hk _ hcl
  refine mk_MN (rt := .char) (cc := cJ1_charAt_3b067) (maxL := 2) (by decide) rfl (Nat.le_of_ble_eq_true rfl) ?_
  intro z Qf hC hR
  show XX z g Qf 2 0 [(0, .ref (gV g k)), (1, .int i)] [] M
  refine q_iload_n hC dJ1_charAt_3b067_0 1 rfl 1 rfl ?_
  refine q_aload_n hC dJ1_charAt_3b067_1 0 rfl 2 rfl ?_
  refine q_lenK hC hk dJ1_charAt_3b067_2 3 rfl ?_
  refine r_callV hC (go_T (As := [.int i, .int (nI (lenK.getD k 0))]) (rest := []) hC (ctJ0_checkIndex_df160 (zl z) g M i (lenK.getD k 0) (fun M' => Q (chK k i.toNatClampNeg) M') (by omega) hin hw) 2 gJ1_charAt_3b067_J0_checkIndex_df160 rfl ⟨rfl, rfl⟩ (by decide +kernel) ⟨Nat.le_of_ble_eq_true rfl, Nat.le_of_ble_eq_true rfl⟩ rfl rfl (Nat.le_of_ble_eq_true rfl) dJ1_charAt_3b067_3) 6 rfl (fun M hw => ?_)
  refine q_aload_n hC dJ1_charAt_3b067_6 0 rfl 7 rfl ?_
  refine q_iload_n hC dJ1_charAt_3b067_7 1 rfl 8 rfl ?_
  refine q_baldK hC hk hin dJ1_charAt_3b067_8 9 rfl ?_
  refine q_sipush (v := 255) hC dJ1_charAt_3b067_9 (by decide) 12 rfl ?_
  refine q_iand hC dJ1_charAt_3b067_12 13 rfl ?_
  refine q_i2c (v := chK k i.toNatClampNeg) hC dJ1_charAt_3b067_13 hby.1 14 rfl ?_
  exact r_iret hR dJ1_charAt_3b067_14 ⟨hby.2, hw⟩
set_option maxHeartbeats 4000000 in
theorem ctJ0_charAt_5068e (l : Launch) (g : GG) (M : MM) (k : Nat) (i : Int32) (Q : Int32 → MM → Prop) (hk : k < 11) (hw : wJ0_charAt_5068e Q M k i) : MI g l yJ0_charAt_5068e wsJ0_charAt_5068e (rmOf 4 130) [.ref (gK g k), .int i] M Q := by
  have hin := hw.1
  have hlk := lenK_lt k hk
  have hcl : i.toNatClampNeg < lenK.getD k 0 := Nat.not_le.mp fun q => hin (Or.inr q)
  have hby := chK_byte k hk _ hcl
  refine mk_MN (rt := .char) (cc := cJ0_charAt_5068e) (maxL := 2) (by decide) rfl (Nat.le_of_ble_eq_true rfl) ?_
  intro z Qf hC hR
  show XX z g Qf 2 0 [(0, .ref (gK g k)), (1, .int i)] [] M
  refine q_aload_n hC dJ0_charAt_5068e_0 0 rfl 1 rfl ?_
  refine r_callI hC (go_VK (As := []) (rest := []) hC (ctJ0_isLatin1_aae02 (zl z) g M k (fun r M' => r = 1 ∧ wJ0_charAt_5068e Q M' k i) hk ⟨rfl, hw⟩) 0 gJ0_charAt_5068e_J0_isLatin1_aae02 rfl ⟨rfl, rfl⟩ (by decide +kernel) ⟨Nat.le_of_ble_eq_true rfl, Nat.le_of_ble_eq_true rfl⟩ hk rfl rfl (Nat.le_of_ble_eq_true rfl) dJ0_charAt_5068e_1) 4 rfl (fun r M hw => ?_)
  obtain ⟨rfl, hw⟩ := hw
  refine q_if_eq (A := False) (B := wJ0_charAt_5068e Q M k i) hC 16 dJ0_charAt_5068e_4 (by decide) 7 rfl ⟨fun h => absurd h (by decide), fun _ => hw⟩ (fun h => h.elim) (fun hw => ?_)
  refine q_aload_n hC dJ0_charAt_5068e_7 0 rfl 8 rfl ?_
  refine q_getKv hC hk (uJ0_charAt_5068e__o _ (List.mem_of_getElem? (l := owJ0_charAt_5068e) (i := 1) rfl)) dJ0_charAt_5068e_8 11 rfl ?_
  refine q_iload_n hC dJ0_charAt_5068e_11 1 rfl 12 rfl ?_
  refine r_callI hC (go_T (As := [.ref (gV g k), .int i]) (rest := []) hC (ctJ1_charAt_3b067 (zl z) g M k i (fun r M' => r = chK k i.toNatClampNeg ∧ Q r M') hk ⟨hw.1, rfl, hw.2⟩) 2 gJ0_charAt_5068e_J1_charAt_3b067 rfl ⟨rfl, rfl⟩ (by decide +kernel) ⟨Nat.le_of_ble_eq_true rfl, Nat.le_of_ble_eq_true rfl⟩ rfl rfl (Nat.le_of_ble_eq_true rfl) dJ0_charAt_5068e_12) 15 rfl (fun r M hw => ?_)
  obtain ⟨rfl, hw⟩ := hw
  exact r_iret hR dJ0_charAt_5068e_15 ⟨hby.2, hw⟩
theorem arF29 {g : GG} (h : full g) : arA g 29 (gI g) := ⟨h 29 (by decide), fun _ => rfl⟩
theorem arF38 {g : GG} (h : full g) : arA g 38 (gB g) := ⟨h 38 (by decide), fun _ => rfl⟩
theorem arF40 {g : GG} (h : full g) : arA g 40 (gI g) := ⟨h 40 (by decide), fun _ => rfl⟩
theorem arF41 {g : GG} (h : full g) : arA g 41 (gI g) := ⟨h 41 (by decide), fun _ => rfl⟩
theorem arF42 {g : GG} (h : full g) : arA g 42 (gI g) := ⟨h 42 (by decide), fun _ => rfl⟩
theorem arF43 {g : GG} (h : full g) : arA g 43 (gI g) := ⟨h 43 (by decide), fun _ => rfl⟩
theorem arF53 {g : GG} (h : ful5 g) : arA g 53 (gI g) := ⟨h 53 (by decide) (by decide), fun _ => rfl⟩
theorem arF54 {g : GG} (h : ful5 g) : arA g 54 (gZ g) := ⟨h 54 (by decide) (by decide), fun _ => rfl⟩
theorem arF55 {g : GG} (h : ful5 g) : arA g 55 (gI g) := ⟨h 55 (by decide) (by decide), fun _ => rfl⟩
theorem arF56 {g : GG} (h : ful5 g) : arA g 56 (gI g) := ⟨h 56 (by decide) (by decide), fun _ => rfl⟩
theorem arF57 {g : GG} (h : ful5 g) : arA g 57 (gI g) := ⟨h 57 (by decide) (by decide), fun _ => rfl⟩
theorem arF58 {g : GG} (h : ful5 g) : arA g 58 (gI g) := ⟨h 58 (by decide) (by decide), fun _ => rfl⟩
theorem arF59 {g : GG} (h : ful5 g) : arA g 59 (gI g) := ⟨h 59 (by decide) (by decide), fun _ => rfl⟩
theorem arF60 {g : GG} (h : ful5 g) : arA g 60 (gI g) := ⟨h 60 (by decide) (by decide), fun _ => rfl⟩
theorem arF61 {g : GG} (h : ful5 g) : arA g 61 (gI g) := ⟨h 61 (by decide) (by decide), fun _ => rfl⟩
theorem arF62 {g : GG} (h : ful5 g) : arA g 62 (gI g) := ⟨h 62 (by decide) (by decide), fun _ => rfl⟩
theorem arF63 {g : GG} (h : ful5 g) : arA g 63 (gI g) := ⟨h 63 (by decide) (by decide), fun _ => rfl⟩
theorem arF64 {g : GG} (h : ful5 g) : arA g 64 (gI g) := ⟨h 64 (by decide) (by decide), fun _ => rfl⟩
theorem arF65 {g : GG} (h : ful5 g) : arA g 65 (gI g) := ⟨h 65 (by decide) (by decide), fun _ => rfl⟩
theorem arF66 {g : GG} (h : ful5 g) : arA g 66 (gI g) := ⟨h 66 (by decide) (by decide), fun _ => rfl⟩
theorem obF0 {g : GG} (h : full g) : obA g 0 4 (fun r => [.ref (gA g 1), .ref (gA g 37), .ref (gA g 39), .ref (gA g 10), .ref (gA g 19), .ref (gA g 44), .ref (gA g 46), .ref (gA g 48), .ref (gA g 50), .int (r 9), .int (r 10), .int (r 11)]) := ⟨h 0 (by decide), fun _ => rfl⟩
theorem obF37 {g : GG} (h : full g) : obA g 37 3 (fun r => [.ref (gA g 38), .ref (gA g 28), .int (r 2), .int (r 3), .int (r 4), .int (r 5), .int (r 6), .int (r 7), .int (r 8), .int (r 9)]) := ⟨h 37 (by decide), fun _ => rfl⟩
theorem obF39 {g : GG} (h : full g) : obA g 39 0 (fun r => [.ref (gA g 40), .ref (gA g 41), .ref (gA g 42), .ref (gA g 43), .int (r 4), .int (r 5)]) := ⟨h 39 (by decide), fun _ => rfl⟩
theorem obF52 {g : GG} (h : ful5 g) : obA g 52 5 (fun r => [.ref (gA g 53), .ref (gA g 54), .ref (gA g 55), .ref (gA g 56), .int (r 4), .ref (gA g 57), .ref (gA g 58), .int (r 7), .ref (gA g 59), .int (r 9), .int (r 10), .int (r 11), .int (r 12), .int (r 13), .int (r 14), .int (r 15), .ref (gA g 60), .ref (gA g 61), .ref (gA g 62), .ref (gA g 63), .int (r 20), .int (r 21), .ref (gA g 64), .ref (gA g 65), .ref (gA g 66), .int (r 25)]) := ⟨h 52 (by decide) (by decide), fun _ => rfl⟩
