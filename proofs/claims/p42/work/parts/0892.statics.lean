-- ===== what the start gives: statics, texts, arrays' classes =====
def flW : List Cond := flatC (Jvm.Cond.and given_1 narrow_1)
def tmS (i : Nat) : Term := .static "TwoReels" (stN i) "[I"
def tmK (i : Nat) : Term := .string "TwoReels$TextReader" ((txtK.getD i (0, "")).1)
set_option maxRecDepth 100000 in
theorem w_arr : ∀ i, i < 3 → Cond.arrayOf (tmS i) .int ∈ flW ∧ Cond.eq (.length (tmS i)) (.int 9) ∈ flW := by decide +kernel
set_option maxRecDepth 100000 in
theorem w_el : ∀ i, i < 3 → ∀ j, j < 9 → Cond.eq (.elem (tmS i) (.int (Int32.ofNat j))) (.int (stV i j)) ∈ flW := by decide +kernel
set_option maxRecDepth 100000 in
theorem w_st : ∀ i, i < 3 → Cond.laysStatic "TwoReels" (stN i) "[I" ∈ lw_tbl := by decide +kernel
set_option maxRecDepth 100000 in
theorem w_in4 : Cond.initialized "TwoReels" ∈ lw_tbl := by decide +kernel
set_option maxRecDepth 100000 in
theorem w_nst : ∀ q ∈ nests, Cond.methodLinkNest q.1 q.2.1 q.2.2 "TwoReels" ∈ lw_tbl := by decide +kernel
set_option maxRecDepth 100000 in
theorem w_nsf : ∀ q ∈ nestF, Cond.fieldLinkNest q.1 q.2.1 "TwoReels" q.2.2 "[I" "TwoReels" ∈ lw_tbl := by decide +kernel
set_option maxRecDepth 100000 in
theorem w_k1 : ∀ i, i < 11 → Cond.exactly (tmK i) "java/lang/String" ∈ flW ∧ Cond.eq (.field (tmK i) "java/lang/String" "coder" "B") (.int 0) ∈ flW ∧ Cond.arrayOf (.field (tmK i) "java/lang/String" "value" "[B") .byte ∈ flW ∧ Cond.eq (.length (.field (tmK i) "java/lang/String" "value" "[B")) (.int (Int32.ofNat (lenK.getD i 0))) ∈ flW := by decide +kernel
set_option maxRecDepth 100000 in
theorem w_k2 : ∀ i, i < 11 → ∀ j, j < lenK.getD i 0 → Cond.eq (.elem (.field (tmK i) "java/lang/String" "value" "[B") (.int (Int32.ofNat j))) (.int ((bytK.getD i []).getD j 0)) ∈ flW := by decide +kernel
set_option maxRecDepth 100000 in
theorem w_k3 : ∀ i, i < 11 → ∀ j, j < 11 → i = j ∨ (Cond.not (Cond.eq (tmK i) (tmK j)) ∈ flW ∨ Cond.not (Cond.eq (tmK j) (tmK i)) ∈ flW) := by decide +kernel
set_option maxRecDepth 100000 in
theorem w_k4 : ∀ i, i < 11 → Cond.stringRef "TwoReels$TextReader" ((txtK.getD i (0, "")).1) ((txtK.getD i (0, "")).2) ∈ lw_tbl := by decide +kernel
theorem w_len : ∀ i, i < 11 → lenK.getD i 0 < 2 ^ 31 := by decide +kernel
set_option maxRecDepth 100000 in
theorem w_cs : Cond.eq (.static "java/lang/String" "COMPACT_STRINGS" "Z") (.int 1) ∈ flW ∧ Cond.laysStatic "java/lang/String" "COMPACT_STRINGS" "Z" ∈ lw_tbl ∧ Cond.initialized "java/lang/String" ∈ lw_tbl := by decide +kernel
set_option maxRecDepth 100000 in
theorem w_pre : Cond.isRef (.static "jdk/internal/util/Preconditions" "SIOOBE_FORMATTER" "Ljava/util/function/BiFunction;") ∈ flW ∧ Cond.laysStatic "jdk/internal/util/Preconditions" "SIOOBE_FORMATTER" "Ljava/util/function/BiFunction;" ∈ lw_tbl ∧ Cond.initialized "jdk/internal/util/Preconditions" ∈ lw_tbl := by decide +kernel
set_option maxRecDepth 100000 in
theorem w_ac : Cond.arrayClass .int ∈ lw_tbl ∧ Cond.arrayClass .byte ∈ lw_tbl ∧ Cond.arrayClass .boolean ∈ lw_tbl := by decide +kernel
/-- what no call writes: it stands at the start -/
theorem st_start {s : State} {b : Nat} (hts : ∀ w ∈ lw_tbl, w.before #[Value.ref b] s = true) (hgv : (Jvm.Cond.and given_1 narrow_1).before #[Value.ref b] s = true) : ∃ (fS fK fV : Nat → Nat), ∀ g : GG, gS g = fS → gK g = fK → gV g = fV → StA g (fun q => s.heap.size ≤ q) s s.heap := by
  have hs : ∀ w ∈ flW, w.before #[Value.ref b] s = true := flat_of_before _ hgv
  have hA : ∀ a : Nat, a < s.heap.size → ¬ (fun q => s.heap.size ≤ q) a := fun a h q => absurd h (Nat.not_lt.mpr q)
  have h0 : ∀ i : Nat, ∃ t : Nat, i < 3 → va_Z "TwoReels" (stN i) "[I" (.ref t) (fun q => s.heap.size ≤ q) s s.heap ∧ va_T .int t 9 (fun j => .int (stV i j)) (fun q => s.heap.size ≤ q) s s.heap := by
    intro i
    by_cases hi : i < 3
    · obtain ⟨t, ht, hT⟩ := va_Tof (tm := tmS i) (f := fun j => .int (stV i j)) (N := 9) (A := fun q => s.heap.size ≤ q) (by decide) (hs _ (w_arr i hi).1) (va_eqt (hs _ (w_arr i hi).2)) (fun j hj => va_eqt (hs _ (w_el i hi j hj))) hA
      exact ⟨t, fun _ => ⟨va_Zof (hts _ (w_st i hi)) (hts _ w_in4) ht hA, hT⟩⟩
    · exact ⟨0, fun h => absurd h hi⟩
  obtain ⟨fS, hfS⟩ := Classical.axiomOfChoice h0
  obtain ⟨fK, fV, hK, hKe⟩ := vk_Sof (N := 11) (tm := tmK) (len := lenK) (byt := bytK) (A := fun q => s.heap.size ≤ q) w_len (fun i hi => hs _ (w_k1 i hi).1) (fun i hi => hs _ (w_k1 i hi).2.1) (fun i hi => hs _ (w_k1 i hi).2.2.1) (fun i hi => hs _ (w_k1 i hi).2.2.2) (fun i hi j hj => hs _ (w_k2 i hi j hj)) (fun i j hi hj hij => ((w_k3 i hi j hj).resolve_left hij).elim (fun h => Or.inl (hs _ h)) (fun h => Or.inr (hs _ h))) hA
  refine ⟨fS, fK, fV, ?_⟩
  intro g e1 e2 e3
  subst e1; subst e2; subst e3
  exact ⟨fun i hi => hfS i hi, fun q hq => va_Nw.of rfl (hts _ (w_nst q hq)), hK, fun i hi => vk_R.of (hts _ (w_k4 i hi)) (hKe i hi), va_Zof (hts _ w_cs.2.1) (hts _ w_cs.2.2) (va_eqi (hs _ w_cs.1)) hA, va_Zqof (hts _ w_pre.2.1) (hts _ w_pre.2.2) (hs _ w_pre.1) hA, fun q hq => va_Nw.of rfl (hts _ (w_nsf q hq))⟩
theorem arr_start {s : State} {args : Array Value} {ty : FieldType} (h : (Cond.arrayClass ty).before args s = true) (h3 : ty = .int ∨ ty = .byte ∨ ty = .boolean) : ∃ cA : ClassId, ArrOfT s cA ty ∧ va_RA s cA ty := by
  obtain ⟨cA, kA, comp, h1, h2, h4⟩ := Cond.arrayClass_spec h
  refine ⟨cA, fun n z => ⟨fun k hk => (by cases hk), kA, h2, comp, h4⟩, ?_⟩
  rcases h3 with rfl | rfl | rfl <;> exact h1
