-- ===== the names of a text =====
def nmL : List (List Nat) := [[108, 101, 110, 103, 116, 104], [104, 117, 98], [116, 104, 105, 99, 107], [112, 108, 97, 121], [119, 105, 110, 100], [114, 97, 109, 112], [103, 97, 112], [100, 101, 110, 115, 101], [104, 105, 116, 99, 104], [98, 108, 111, 99, 107], [109, 97, 114, 107]]
theorem name_ok : ∀ k, k < 11 → lenK.getD k 0 = (nmL.getD k []).length ∧ (3 ≤ (nmL.getD k []).length ∧ (nmL.getD k []).length ≤ 6) ∧ ∀ j, j < (nmL.getD k []).length → chK k j = nI ((nmL.getD k []).getD j 0) ∧ (nmL.getD k []).getD j 0 < 256 := by decide +kernel
abbrev nmQ (c : Nat → Nat) (s e k : Nat) : Prop := e - s = (nmL.getD k []).length ∧ ∀ i, i < (nmL.getD k []).length → c (s + i) = (nmL.getD k []).getD i 0
abbrev nqP (c : Nat → Nat) (n p k : Nat) : Prop := tK c n p = 1 ∧ nmQ c (tS c n p) (tE c n p) k
/-- which name stands there: a rule 0 to 8, 10 block, 11 mark, 12 none -/
def kN (c : Nat → Nat) (n p : Nat) : Nat := if nqP c n p 0 then 0 else if nqP c n p 1 then 1 else if nqP c n p 2 then 2 else if nqP c n p 3 then 3 else if nqP c n p 4 then 4 else if nqP c n p 5 then 5 else if nqP c n p 6 then 6 else if nqP c n p 7 then 7 else if nqP c n p 8 then 8 else if nqP c n p 9 then 10 else if nqP c n p 10 then 11 else 12
theorem nq_0 {c : Nat → Nat} {s e : Nat} : nmQ c s e 0 ↔ (e - s = 6 ∧ c s = 108 ∧ c (s + 1) = 101 ∧ c (s + 2) = 110 ∧ c (s + 3) = 103 ∧ c (s + 4) = 116 ∧ c (s + 5) = 104) := by
  constructor
  · rintro ⟨h1, h2⟩
    exact ⟨h1, h2 0 (by decide), h2 1 (by decide), h2 2 (by decide), h2 3 (by decide), h2 4 (by decide), h2 5 (by decide)⟩
  · rintro ⟨h1, g0, g1, g2, g3, g4, g5⟩
    refine ⟨h1, fun i hi => ?_⟩
    have hi2 : i < 6 := hi
    rcases (by omega : i = 0 ∨ i = 1 ∨ i = 2 ∨ i = 3 ∨ i = 4 ∨ i = 5) with rfl | rfl | rfl | rfl | rfl | rfl
    · exact g0
    · exact g1
    · exact g2
    · exact g3
    · exact g4
    · exact g5
theorem nq_1 {c : Nat → Nat} {s e : Nat} : nmQ c s e 1 ↔ (e - s = 3 ∧ c s = 104 ∧ c (s + 1) = 117 ∧ c (s + 2) = 98) := by
  constructor
  · rintro ⟨h1, h2⟩
    exact ⟨h1, h2 0 (by decide), h2 1 (by decide), h2 2 (by decide)⟩
  · rintro ⟨h1, g0, g1, g2⟩
    refine ⟨h1, fun i hi => ?_⟩
    have hi2 : i < 3 := hi
    rcases (by omega : i = 0 ∨ i = 1 ∨ i = 2) with rfl | rfl | rfl
    · exact g0
    · exact g1
    · exact g2
theorem nq_2 {c : Nat → Nat} {s e : Nat} : nmQ c s e 2 ↔ (e - s = 5 ∧ c s = 116 ∧ c (s + 1) = 104 ∧ c (s + 2) = 105 ∧ c (s + 3) = 99 ∧ c (s + 4) = 107) := by
  constructor
  · rintro ⟨h1, h2⟩
    exact ⟨h1, h2 0 (by decide), h2 1 (by decide), h2 2 (by decide), h2 3 (by decide), h2 4 (by decide)⟩
  · rintro ⟨h1, g0, g1, g2, g3, g4⟩
    refine ⟨h1, fun i hi => ?_⟩
    have hi2 : i < 5 := hi
    rcases (by omega : i = 0 ∨ i = 1 ∨ i = 2 ∨ i = 3 ∨ i = 4) with rfl | rfl | rfl | rfl | rfl
    · exact g0
    · exact g1
    · exact g2
    · exact g3
    · exact g4
theorem nq_3 {c : Nat → Nat} {s e : Nat} : nmQ c s e 3 ↔ (e - s = 4 ∧ c s = 112 ∧ c (s + 1) = 108 ∧ c (s + 2) = 97 ∧ c (s + 3) = 121) := by
  constructor
  · rintro ⟨h1, h2⟩
    exact ⟨h1, h2 0 (by decide), h2 1 (by decide), h2 2 (by decide), h2 3 (by decide)⟩
  · rintro ⟨h1, g0, g1, g2, g3⟩
    refine ⟨h1, fun i hi => ?_⟩
    have hi2 : i < 4 := hi
    rcases (by omega : i = 0 ∨ i = 1 ∨ i = 2 ∨ i = 3) with rfl | rfl | rfl | rfl
    · exact g0
    · exact g1
    · exact g2
    · exact g3
theorem nq_4 {c : Nat → Nat} {s e : Nat} : nmQ c s e 4 ↔ (e - s = 4 ∧ c s = 119 ∧ c (s + 1) = 105 ∧ c (s + 2) = 110 ∧ c (s + 3) = 100) := by
  constructor
  · rintro ⟨h1, h2⟩
    exact ⟨h1, h2 0 (by decide), h2 1 (by decide), h2 2 (by decide), h2 3 (by decide)⟩
  · rintro ⟨h1, g0, g1, g2, g3⟩
    refine ⟨h1, fun i hi => ?_⟩
    have hi2 : i < 4 := hi
    rcases (by omega : i = 0 ∨ i = 1 ∨ i = 2 ∨ i = 3) with rfl | rfl | rfl | rfl
    · exact g0
    · exact g1
    · exact g2
    · exact g3
theorem nq_5 {c : Nat → Nat} {s e : Nat} : nmQ c s e 5 ↔ (e - s = 4 ∧ c s = 114 ∧ c (s + 1) = 97 ∧ c (s + 2) = 109 ∧ c (s + 3) = 112) := by
  constructor
  · rintro ⟨h1, h2⟩
    exact ⟨h1, h2 0 (by decide), h2 1 (by decide), h2 2 (by decide), h2 3 (by decide)⟩
  · rintro ⟨h1, g0, g1, g2, g3⟩
    refine ⟨h1, fun i hi => ?_⟩
    have hi2 : i < 4 := hi
    rcases (by omega : i = 0 ∨ i = 1 ∨ i = 2 ∨ i = 3) with rfl | rfl | rfl | rfl
    · exact g0
    · exact g1
    · exact g2
    · exact g3
theorem nq_6 {c : Nat → Nat} {s e : Nat} : nmQ c s e 6 ↔ (e - s = 3 ∧ c s = 103 ∧ c (s + 1) = 97 ∧ c (s + 2) = 112) := by
  constructor
  · rintro ⟨h1, h2⟩
    exact ⟨h1, h2 0 (by decide), h2 1 (by decide), h2 2 (by decide)⟩
  · rintro ⟨h1, g0, g1, g2⟩
    refine ⟨h1, fun i hi => ?_⟩
    have hi2 : i < 3 := hi
    rcases (by omega : i = 0 ∨ i = 1 ∨ i = 2) with rfl | rfl | rfl
    · exact g0
    · exact g1
    · exact g2
theorem nq_7 {c : Nat → Nat} {s e : Nat} : nmQ c s e 7 ↔ (e - s = 5 ∧ c s = 100 ∧ c (s + 1) = 101 ∧ c (s + 2) = 110 ∧ c (s + 3) = 115 ∧ c (s + 4) = 101) := by
  constructor
  · rintro ⟨h1, h2⟩
    exact ⟨h1, h2 0 (by decide), h2 1 (by decide), h2 2 (by decide), h2 3 (by decide), h2 4 (by decide)⟩
  · rintro ⟨h1, g0, g1, g2, g3, g4⟩
    refine ⟨h1, fun i hi => ?_⟩
    have hi2 : i < 5 := hi
    rcases (by omega : i = 0 ∨ i = 1 ∨ i = 2 ∨ i = 3 ∨ i = 4) with rfl | rfl | rfl | rfl | rfl
    · exact g0
    · exact g1
    · exact g2
    · exact g3
    · exact g4
theorem nq_8 {c : Nat → Nat} {s e : Nat} : nmQ c s e 8 ↔ (e - s = 5 ∧ c s = 104 ∧ c (s + 1) = 105 ∧ c (s + 2) = 116 ∧ c (s + 3) = 99 ∧ c (s + 4) = 104) := by
  constructor
  · rintro ⟨h1, h2⟩
    exact ⟨h1, h2 0 (by decide), h2 1 (by decide), h2 2 (by decide), h2 3 (by decide), h2 4 (by decide)⟩
  · rintro ⟨h1, g0, g1, g2, g3, g4⟩
    refine ⟨h1, fun i hi => ?_⟩
    have hi2 : i < 5 := hi
    rcases (by omega : i = 0 ∨ i = 1 ∨ i = 2 ∨ i = 3 ∨ i = 4) with rfl | rfl | rfl | rfl | rfl
    · exact g0
    · exact g1
    · exact g2
    · exact g3
    · exact g4
theorem nq_9 {c : Nat → Nat} {s e : Nat} : nmQ c s e 9 ↔ (e - s = 5 ∧ c s = 98 ∧ c (s + 1) = 108 ∧ c (s + 2) = 111 ∧ c (s + 3) = 99 ∧ c (s + 4) = 107) := by
  constructor
  · rintro ⟨h1, h2⟩
    exact ⟨h1, h2 0 (by decide), h2 1 (by decide), h2 2 (by decide), h2 3 (by decide), h2 4 (by decide)⟩
  · rintro ⟨h1, g0, g1, g2, g3, g4⟩
    refine ⟨h1, fun i hi => ?_⟩
    have hi2 : i < 5 := hi
    rcases (by omega : i = 0 ∨ i = 1 ∨ i = 2 ∨ i = 3 ∨ i = 4) with rfl | rfl | rfl | rfl | rfl
    · exact g0
    · exact g1
    · exact g2
    · exact g3
    · exact g4
theorem nq_10 {c : Nat → Nat} {s e : Nat} : nmQ c s e 10 ↔ (e - s = 4 ∧ c s = 109 ∧ c (s + 1) = 97 ∧ c (s + 2) = 114 ∧ c (s + 3) = 107) := by
  constructor
  · rintro ⟨h1, h2⟩
    exact ⟨h1, h2 0 (by decide), h2 1 (by decide), h2 2 (by decide), h2 3 (by decide)⟩
  · rintro ⟨h1, g0, g1, g2, g3⟩
    refine ⟨h1, fun i hi => ?_⟩
    have hi2 : i < 4 := hi
    rcases (by omega : i = 0 ∨ i = 1 ∨ i = 2 ∨ i = 3) with rfl | rfl | rfl | rfl
    · exact g0
    · exact g1
    · exact g2
    · exact g3
theorem s_isNamed {Q : Int32 → MM → Prop} {M : MM} {c : Nat → Nat} {n p k : Nat} (hl : ltP M c n) (hp : p ≤ n) (ht : tokC c n p M) (hk : k < 11) (h1 : nqP c n p k → Q 1 M) (h0 : ¬ nqP c n p k → Q 0 M) : wX3_isNamed Q M k := by
  obtain ⟨n1', n2, n3⟩ := name_ok k hk
  have h400 := hl.1
  have hsb := tS_b (c := c) hp
  have heb := tE_b (c := c) hp
  have hkl := tK_le c n p
  unfold wX3_isNamed
  rw [ht.2.1, show (1 : Int32) = nI 1 from rfl, nI_eq (by omega) (by omega)]
  by_cases q : tK c n p = 1
  · refine br_nt q ?_
    unfold wJ0_length_8abf5
    rw [ht.1, ht.2.2.1, pk_sub heb.1, n1']
    try dsimp only
    rw [nI_eq (by omega) (by omega)]
    by_cases q2 : tE c n p - tS c n p = (nmL.getD k []).length
    · refine br_t q2 ?_
      have loop : ∀ r j, j + r = (nmL.getD k []).length → ((∀ i, j ≤ i → i < (nmL.getD k []).length → c (tS c n p + i) = (nmL.getD k []).getD i 0) → Q 1 M) → ((¬ ∀ i, j ≤ i → i < (nmL.getD k []).length → c (tS c n p + i) = (nmL.getD k []).getD i 0) → Q 0 M) → wX3_isNamed_28 Q k (r + 1) M (nI j) := by
        intro r
        induction r with
        | zero =>
          intro j hj g1 g0
          unfold wX3_isNamed_28 wJ0_length_8abf5
          rw [n1']
          exact br_t (nI_le (by omega) (by omega)) (g1 (fun i a b => by omega))
        | succ r ih =>
          intro j hj g1 g0
          unfold wX3_isNamed_28 wJ0_length_8abf5
          rw [n1']
          try dsimp only
          rw [nI_leI (by omega) (by omega), ht.2.2.1, nI_add]
          refine br_f (by omega) (s_letterAt hl (by omega) (fun hlt => ?_) (fun z => absurd (by omega) z))
          obtain ⟨m1, m2⟩ := n3 j (by omega)
          have hc := hl.2.2.2 _ hlt
          unfold wJ0_charAt_5068e
          rw [n1', clamp_nI (by omega), m1]
          try dsimp only
          refine ⟨vp_nI (by omega) (by omega), ?_⟩
          rw [nI_eq (by omega) (by omega), nI_1]
          by_cases e : c (tS c n p + j) = (nmL.getD k []).getD j 0
          · refine br_t e (ih (j + 1) (by omega) (fun z => g1 (fun i a b => ?_)) (fun z => g0 (fun y => z (fun i a b => y i (by omega) b))))
            by_cases ij : i = j
            · subst ij; exact e
            · exact z i (by omega) b
          · exact br_f e (g0 (fun y => e (y j (Nat.le_refl _) (by omega))))
      exact ⟨(nmL.getD k []).length + 1, loop (nmL.getD k []).length 0 (by omega) (fun z => h1 ⟨q, q2, fun i hi => z i (Nat.zero_le _) hi⟩) (fun z => h0 (fun y => z (fun i _ hi => y.2.2 i hi)))⟩
    · exact br_f q2 (h0 (fun y => q2 y.2.1))
  · exact br_nf q (h0 (fun y => q y.1))
theorem s_ruleNamed {Q : Int32 → MM → Prop} {M : MM} {c : Nat → Nat} {n p : Nat} (hl : ltP M c n) (hp : p ≤ n) (ht : tokC c n p M) (h1 : kN c n p ≤ 8 → Q (nI (kN c n p)) M) (h0 : (∀ k, k < 9 → ¬ nqP c n p k) → Q (-4) M) : wX3_ruleNamed Q M := by
  unfold wX3_ruleNamed
  refine s_isNamed hl hp ht (by decide) (fun y => o_t1 ?_) (fun x0 => o_t0 ?_)
  · have e : kN c n p = 0 := by unfold kN; rw [if_pos y]
    rw [e] at h1
    exact h1 (by omega)
  refine s_isNamed hl hp ht (by decide) (fun y => o_t1 ?_) (fun x1 => o_t0 ?_)
  · have e : kN c n p = 1 := by unfold kN; rw [if_neg x0, if_pos y]
    rw [e] at h1
    exact h1 (by omega)
  refine s_isNamed hl hp ht (by decide) (fun y => o_t1 ?_) (fun x2 => o_t0 ?_)
  · have e : kN c n p = 2 := by unfold kN; rw [if_neg x0, if_neg x1, if_pos y]
    rw [e] at h1
    exact h1 (by omega)
  refine s_isNamed hl hp ht (by decide) (fun y => o_t1 ?_) (fun x3 => o_t0 ?_)
  · have e : kN c n p = 3 := by unfold kN; rw [if_neg x0, if_neg x1, if_neg x2, if_pos y]
    rw [e] at h1
    exact h1 (by omega)
  refine s_isNamed hl hp ht (by decide) (fun y => o_t1 ?_) (fun x4 => o_t0 ?_)
  · have e : kN c n p = 4 := by unfold kN; rw [if_neg x0, if_neg x1, if_neg x2, if_neg x3, if_pos y]
    rw [e] at h1
    exact h1 (by omega)
  refine s_isNamed hl hp ht (by decide) (fun y => o_t1 ?_) (fun x5 => o_t0 ?_)
  · have e : kN c n p = 5 := by unfold kN; rw [if_neg x0, if_neg x1, if_neg x2, if_neg x3, if_neg x4, if_pos y]
    rw [e] at h1
    exact h1 (by omega)
  refine s_isNamed hl hp ht (by decide) (fun y => o_t1 ?_) (fun x6 => o_t0 ?_)
  · have e : kN c n p = 6 := by unfold kN; rw [if_neg x0, if_neg x1, if_neg x2, if_neg x3, if_neg x4, if_neg x5, if_pos y]
    rw [e] at h1
    exact h1 (by omega)
  refine s_isNamed hl hp ht (by decide) (fun y => o_t1 ?_) (fun x7 => o_t0 ?_)
  · have e : kN c n p = 7 := by unfold kN; rw [if_neg x0, if_neg x1, if_neg x2, if_neg x3, if_neg x4, if_neg x5, if_neg x6, if_pos y]
    rw [e] at h1
    exact h1 (by omega)
  refine s_isNamed hl hp ht (by decide) (fun y => o_t1 ?_) (fun x8 => o_t0 ?_)
  · have e : kN c n p = 8 := by unfold kN; rw [if_neg x0, if_neg x1, if_neg x2, if_neg x3, if_neg x4, if_neg x5, if_neg x6, if_neg x7, if_pos y]
    rw [e] at h1
    exact h1 (by omega)
  refine h0 (fun k hk => ?_)
  rcases (by omega : k = 0 ∨ k = 1 ∨ k = 2 ∨ k = 3 ∨ k = 4 ∨ k = 5 ∨ k = 6 ∨ k = 7 ∨ k = 8) with rfl | rfl | rfl | rfl | rfl | rfl | rfl | rfl | rfl
  · exact x0
  · exact x1
  · exact x2
  · exact x3
  · exact x4
  · exact x5
  · exact x6
  · exact x7
  · exact x8
theorem m_is {Q : Int32 → MM → Prop} {M : MM} {c : Nat → Nat} {n p L a b d f : Nat} (hl : ltM M c n) (hp : p ≤ n) (e10 : M 52 10 = nI (tE c n p)) (e11 : M 52 11 = nI (tS c n p)) (hL : 3 ≤ L ∧ L ≤ 6) (ha : a < 256) (hb : b < 256) (hd : d < 256) (hf : f < 256) (h1 : tE c n p - tS c n p = L → c (tS c n p) = a → c (tS c n p + 1) = b → c (tS c n p + 2) = d → (L < 4 ∨ c (tS c n p + 3) = f) → Q 1 M) (h0 : ¬ (tE c n p - tS c n p = L ∧ c (tS c n p) = a ∧ c (tS c n p + 1) = b ∧ c (tS c n p + 2) = d ∧ (L < 4 ∨ c (tS c n p + 3) = f)) → Q 0 M) : wX5_is Q M (nI L) (nI a) (nI b) (nI d) (nI f) := by
  have h400 := hl.1
  have hsb := tS_b (c := c) hp
  have heb := tE_b (c := c) hp
  unfold wX5_is wX5_is_78 wX5_is_74
  rw [e10, e11, pk_sub heb.1, nI_eq (by omega) (by omega)]
  by_cases q : tE c n p - tS c n p = L
  · refine br_nt q (m_look hl (by omega) (fun l1 => ?_) (fun z => absurd (by omega) z))
    have c1 := hl.2.2.2 _ l1
    rw [nI_eq (by omega) (by omega)]
    by_cases qa : c (tS c n p) = a
    · refine br_nt qa ?_
      rw [e11, show (1 : Int32) = nI 1 from rfl, nI_add]
      refine m_look hl (by omega) (fun l2 => ?_) (fun z => absurd (by omega) z)
      have c2 := hl.2.2.2 _ l2
      rw [nI_eq (by omega) (by omega)]
      by_cases qb : c (tS c n p + 1) = b
      · refine br_nt qb ?_
        rw [e11, show (2 : Int32) = nI 2 from rfl, nI_add]
        refine m_look hl (by omega) (fun l3 => ?_) (fun z => absurd (by omega) z)
        have c3 := hl.2.2.2 _ l3
        rw [nI_eq (by omega) (by omega), show (4 : Int32) = nI 4 from rfl, nI_ltI (by omega) (by omega)]
        by_cases qd : c (tS c n p + 2) = d
        · refine br_nt qd ?_
          by_cases q4 : L < 4
          · exact br_t q4 (h1 q qa qb qd (Or.inl q4))
          · refine br_f q4 ?_
            rw [e11, show (3 : Int32) = nI 3 from rfl, nI_add]
            refine m_look hl (by omega) (fun l4 => ?_) (fun z => absurd (by omega) z)
            have c4 := hl.2.2.2 _ l4
            rw [nI_eq (by omega) (by omega)]
            by_cases qf : c (tS c n p + 3) = f
            · exact br_nt qf (h1 q qa qb qd (Or.inr qf))
            · exact br_nf qf (h0 (fun y => y.2.2.2.2.elim (fun z => q4 z) (fun z => qf z)))
        · exact br_nf qd (h0 (fun y => qd y.2.2.2.1))
      · exact br_nf qb (h0 (fun y => qb y.2.2.1))
    · exact br_nf qa (h0 (fun y => qa y.2.1))
  · exact br_nf q (h0 (fun y => q y.1))
theorem m_nameNow {Q : Int32 → MM → Prop} {M : MM} {c : Nat → Nat} {n p : Nat} (hl : ltM M c n) (hp : p ≤ n) (hk : tK c n p = 1) (e10 : M 52 10 = nI (tE c n p)) (e11 : M 52 11 = nI (tS c n p)) (hq : Q (if kN c n p = 12 then -4 else nI (kN c n p)) M) : wX5_nameNow Q M := by
  have h400 := hl.1
  have hsb := tS_b (c := c) hp
  have heb := tE_b (c := c) hp
  have lk : ∀ (K : Int32 → MM → Prop) (o : Nat), o ≤ 6 → tS c n p + o < n → K (nI (c (tS c n p + o))) M → wX5_look K M (M 52 11 + nI o) := by
    intro K o ho h z
    rw [e11, nI_add]
    exact m_look hl (by omega) (fun _ => z) (fun y => absurd h y)
  have t10 : ¬ nqP c n p 0 → ¬ nqP c n p 1 → ¬ nqP c n p 2 → ¬ nqP c n p 3 → ¬ nqP c n p 4 → ¬ nqP c n p 5 → ¬ nqP c n p 6 → ¬ nqP c n p 7 → ¬ nqP c n p 8 → ¬ nqP c n p 9 → wX5_nameNow_275 Q M := by
    intro x0 x1 x2 x3 x4 x5 x6 x7 x8 x9
    unfold wX5_nameNow_275
    refine m_is (L := 4) (a := 109) (b := 97) (d := 114) (f := 107) hl hp e10 e11 (by decide) (by decide) (by decide) (by decide) (by decide) (fun i0 i1 i2 i3 i4 => o_t1 ?_) (fun z => o_t0 ?_)
    · have y : nqP c n p 10 := ⟨hk, nq_10.mpr ⟨i0, i1, i2, i3, i4.resolve_left (by decide)⟩⟩
      have e : kN c n p = 11 := by unfold kN; rw [if_neg x0, if_neg x1, if_neg x2, if_neg x3, if_neg x4, if_neg x5, if_neg x6, if_neg x7, if_neg x8, if_neg x9, if_pos y]
      rw [e, if_neg (by decide)] at hq
      exact hq
    · have x10 : ¬ nqP c n p 10 := (fun y => z ⟨(nq_10.mp y.2).1, (nq_10.mp y.2).2.1, (nq_10.mp y.2).2.2.1, (nq_10.mp y.2).2.2.2.1, Or.inr (nq_10.mp y.2).2.2.2.2⟩)
      have e : kN c n p = 12 := by unfold kN; rw [if_neg x0, if_neg x1, if_neg x2, if_neg x3, if_neg x4, if_neg x5, if_neg x6, if_neg x7, if_neg x8, if_neg x9, if_neg x10]
      rw [e, if_pos rfl] at hq
      exact hq
  have t9 : ¬ nqP c n p 0 → ¬ nqP c n p 1 → ¬ nqP c n p 2 → ¬ nqP c n p 3 → ¬ nqP c n p 4 → ¬ nqP c n p 5 → ¬ nqP c n p 6 → ¬ nqP c n p 7 → ¬ nqP c n p 8 → wX5_nameNow_239 Q M := by
    intro x0 x1 x2 x3 x4 x5 x6 x7 x8
    unfold wX5_nameNow_239
    refine m_is (L := 5) (a := 98) (b := 108) (d := 111) (f := 99) hl hp e10 e11 (by decide) (by decide) (by decide) (by decide) (by decide) (fun i0 i1 i2 i3 i4 => o_t1 ?_) (fun z => o_t0 ?_)
    · refine lk _ 4 (by decide) (by omega) ?_
      rw [show (107 : Int32) = nI 107 from rfl, nI_eq (by have := hl.2.2.2 (tS c n p + 4) (by omega); omega) (by omega)]
      by_cases e4 : c (tS c n p + 4) = 107
      · refine br_nt e4 ?_
        have y : nqP c n p 9 := ⟨hk, nq_9.mpr ⟨i0, i1, i2, i3, i4.resolve_left (by decide), e4⟩⟩
        have e : kN c n p = 10 := by unfold kN; rw [if_neg x0, if_neg x1, if_neg x2, if_neg x3, if_neg x4, if_neg x5, if_neg x6, if_neg x7, if_neg x8, if_pos y]
        rw [e, if_neg (by decide)] at hq
        exact hq
      · exact br_nf e4 (t10 x0 x1 x2 x3 x4 x5 x6 x7 x8 (fun y => e4 (nq_9.mp y.2).2.2.2.2.2))
    · exact t10 x0 x1 x2 x3 x4 x5 x6 x7 x8 (fun y => z ⟨(nq_9.mp y.2).1, (nq_9.mp y.2).2.1, (nq_9.mp y.2).2.2.1, (nq_9.mp y.2).2.2.2.1, Or.inr (nq_9.mp y.2).2.2.2.2.1⟩)
  have t8 : ¬ nqP c n p 0 → ¬ nqP c n p 1 → ¬ nqP c n p 2 → ¬ nqP c n p 3 → ¬ nqP c n p 4 → ¬ nqP c n p 5 → ¬ nqP c n p 6 → ¬ nqP c n p 7 → wX5_nameNow_205 Q M := by
    intro x0 x1 x2 x3 x4 x5 x6 x7
    unfold wX5_nameNow_205
    refine m_is (L := 5) (a := 104) (b := 105) (d := 116) (f := 99) hl hp e10 e11 (by decide) (by decide) (by decide) (by decide) (by decide) (fun i0 i1 i2 i3 i4 => o_t1 ?_) (fun z => o_t0 ?_)
    · refine lk _ 4 (by decide) (by omega) ?_
      rw [show (104 : Int32) = nI 104 from rfl, nI_eq (by have := hl.2.2.2 (tS c n p + 4) (by omega); omega) (by omega)]
      by_cases e4 : c (tS c n p + 4) = 104
      · refine br_nt e4 ?_
        have y : nqP c n p 8 := ⟨hk, nq_8.mpr ⟨i0, i1, i2, i3, i4.resolve_left (by decide), e4⟩⟩
        have e : kN c n p = 8 := by unfold kN; rw [if_neg x0, if_neg x1, if_neg x2, if_neg x3, if_neg x4, if_neg x5, if_neg x6, if_neg x7, if_pos y]
        rw [e, if_neg (by decide)] at hq
        exact hq
      · exact br_nf e4 (t9 x0 x1 x2 x3 x4 x5 x6 x7 (fun y => e4 (nq_8.mp y.2).2.2.2.2.2))
    · exact t9 x0 x1 x2 x3 x4 x5 x6 x7 (fun y => z ⟨(nq_8.mp y.2).1, (nq_8.mp y.2).2.1, (nq_8.mp y.2).2.2.1, (nq_8.mp y.2).2.2.2.1, Or.inr (nq_8.mp y.2).2.2.2.2.1⟩)
  have t3 : ¬ nqP c n p 0 → ¬ nqP c n p 1 → ¬ nqP c n p 2 → wX5_nameNow_99 Q M := by
    intro x0 x1 x2
    unfold wX5_nameNow_99
    refine m_is (L := 4) (a := 112) (b := 108) (d := 97) (f := 121) hl hp e10 e11 (by decide) (by decide) (by decide) (by decide) (by decide) (fun i0 i1 i2 i3 i4 => o_t1 ?_) (fun z => o_t0 ?_)
    · have y : nqP c n p 3 := ⟨hk, nq_3.mpr ⟨i0, i1, i2, i3, i4.resolve_left (by decide)⟩⟩
      have e : kN c n p = 3 := by unfold kN; rw [if_neg x0, if_neg x1, if_neg x2, if_pos y]
      rw [e, if_neg (by decide)] at hq
      exact hq
    have x3 : ¬ nqP c n p 3 := (fun y => z ⟨(nq_3.mp y.2).1, (nq_3.mp y.2).2.1, (nq_3.mp y.2).2.2.1, (nq_3.mp y.2).2.2.2.1, Or.inr (nq_3.mp y.2).2.2.2.2⟩)
    refine m_is (L := 4) (a := 119) (b := 105) (d := 110) (f := 100) hl hp e10 e11 (by decide) (by decide) (by decide) (by decide) (by decide) (fun i0 i1 i2 i3 i4 => o_t1 ?_) (fun z => o_t0 ?_)
    · have y : nqP c n p 4 := ⟨hk, nq_4.mpr ⟨i0, i1, i2, i3, i4.resolve_left (by decide)⟩⟩
      have e : kN c n p = 4 := by unfold kN; rw [if_neg x0, if_neg x1, if_neg x2, if_neg x3, if_pos y]
      rw [e, if_neg (by decide)] at hq
      exact hq
    have x4 : ¬ nqP c n p 4 := (fun y => z ⟨(nq_4.mp y.2).1, (nq_4.mp y.2).2.1, (nq_4.mp y.2).2.2.1, (nq_4.mp y.2).2.2.2.1, Or.inr (nq_4.mp y.2).2.2.2.2⟩)
    refine m_is (L := 4) (a := 114) (b := 97) (d := 109) (f := 112) hl hp e10 e11 (by decide) (by decide) (by decide) (by decide) (by decide) (fun i0 i1 i2 i3 i4 => o_t1 ?_) (fun z => o_t0 ?_)
    · have y : nqP c n p 5 := ⟨hk, nq_5.mpr ⟨i0, i1, i2, i3, i4.resolve_left (by decide)⟩⟩
      have e : kN c n p = 5 := by unfold kN; rw [if_neg x0, if_neg x1, if_neg x2, if_neg x3, if_neg x4, if_pos y]
      rw [e, if_neg (by decide)] at hq
      exact hq
    have x5 : ¬ nqP c n p 5 := (fun y => z ⟨(nq_5.mp y.2).1, (nq_5.mp y.2).2.1, (nq_5.mp y.2).2.2.1, (nq_5.mp y.2).2.2.2.1, Or.inr (nq_5.mp y.2).2.2.2.2⟩)
    refine m_is (L := 3) (a := 103) (b := 97) (d := 112) (f := 0) hl hp e10 e11 (by decide) (by decide) (by decide) (by decide) (by decide) (fun i0 i1 i2 i3 i4 => o_t1 ?_) (fun z => o_t0 ?_)
    · have y : nqP c n p 6 := ⟨hk, nq_6.mpr ⟨i0, i1, i2, i3⟩⟩
      have e : kN c n p = 6 := by unfold kN; rw [if_neg x0, if_neg x1, if_neg x2, if_neg x3, if_neg x4, if_neg x5, if_pos y]
      rw [e, if_neg (by decide)] at hq
      exact hq
    have x6 : ¬ nqP c n p 6 := (fun y => z ⟨(nq_6.mp y.2).1, (nq_6.mp y.2).2.1, (nq_6.mp y.2).2.2.1, (nq_6.mp y.2).2.2.2, Or.inl (by decide)⟩)
    refine m_is (L := 5) (a := 100) (b := 101) (d := 110) (f := 115) hl hp e10 e11 (by decide) (by decide) (by decide) (by decide) (by decide) (fun i0 i1 i2 i3 i4 => o_t1 ?_) (fun z => o_t0 ?_)
    · refine lk _ 4 (by decide) (by omega) ?_
      rw [show (101 : Int32) = nI 101 from rfl, nI_eq (by have := hl.2.2.2 (tS c n p + 4) (by omega); omega) (by omega)]
      by_cases e4 : c (tS c n p + 4) = 101
      · refine br_nt e4 ?_
        have y : nqP c n p 7 := ⟨hk, nq_7.mpr ⟨i0, i1, i2, i3, i4.resolve_left (by decide), e4⟩⟩
        have e : kN c n p = 7 := by unfold kN; rw [if_neg x0, if_neg x1, if_neg x2, if_neg x3, if_neg x4, if_neg x5, if_neg x6, if_pos y]
        rw [e, if_neg (by decide)] at hq
        exact hq
      · exact br_nf e4 (t8 x0 x1 x2 x3 x4 x5 x6 (fun y => e4 (nq_7.mp y.2).2.2.2.2.2))
    · exact t8 x0 x1 x2 x3 x4 x5 x6 (fun y => z ⟨(nq_7.mp y.2).1, (nq_7.mp y.2).2.1, (nq_7.mp y.2).2.2.1, (nq_7.mp y.2).2.2.2.1, Or.inr (nq_7.mp y.2).2.2.2.2.1⟩)
  have t1 : ¬ nqP c n p 0 → wX5_nameNow_49 Q M := by
    intro x0
    unfold wX5_nameNow_49
    refine m_is (L := 3) (a := 104) (b := 117) (d := 98) (f := 0) hl hp e10 e11 (by decide) (by decide) (by decide) (by decide) (by decide) (fun i0 i1 i2 i3 i4 => o_t1 ?_) (fun z => o_t0 ?_)
    · have y : nqP c n p 1 := ⟨hk, nq_1.mpr ⟨i0, i1, i2, i3⟩⟩
      have e : kN c n p = 1 := by unfold kN; rw [if_neg x0, if_pos y]
      rw [e, if_neg (by decide)] at hq
      exact hq
    have x1 : ¬ nqP c n p 1 := (fun y => z ⟨(nq_1.mp y.2).1, (nq_1.mp y.2).2.1, (nq_1.mp y.2).2.2.1, (nq_1.mp y.2).2.2.2, Or.inl (by decide)⟩)
    refine m_is (L := 5) (a := 116) (b := 104) (d := 105) (f := 99) hl hp e10 e11 (by decide) (by decide) (by decide) (by decide) (by decide) (fun i0 i1 i2 i3 i4 => o_t1 ?_) (fun z => o_t0 ?_)
    · refine lk _ 4 (by decide) (by omega) ?_
      rw [show (107 : Int32) = nI 107 from rfl, nI_eq (by have := hl.2.2.2 (tS c n p + 4) (by omega); omega) (by omega)]
      by_cases e4 : c (tS c n p + 4) = 107
      · refine br_nt e4 ?_
        have y : nqP c n p 2 := ⟨hk, nq_2.mpr ⟨i0, i1, i2, i3, i4.resolve_left (by decide), e4⟩⟩
        have e : kN c n p = 2 := by unfold kN; rw [if_neg x0, if_neg x1, if_pos y]
        rw [e, if_neg (by decide)] at hq
        exact hq
      · exact br_nf e4 (t3 x0 x1 (fun y => e4 (nq_2.mp y.2).2.2.2.2.2))
    · exact t3 x0 x1 (fun y => z ⟨(nq_2.mp y.2).1, (nq_2.mp y.2).2.1, (nq_2.mp y.2).2.2.1, (nq_2.mp y.2).2.2.2.1, Or.inr (nq_2.mp y.2).2.2.2.2.1⟩)
  unfold wX5_nameNow
  refine m_is (L := 6) (a := 108) (b := 101) (d := 110) (f := 103) hl hp e10 e11 (by decide) (by decide) (by decide) (by decide) (by decide) (fun i0 i1 i2 i3 i4 => o_t1 ?_) (fun z => o_t0 (t1 (fun y => z ⟨(nq_0.mp y.2).1, (nq_0.mp y.2).2.1, (nq_0.mp y.2).2.2.1, (nq_0.mp y.2).2.2.2.1, Or.inr (nq_0.mp y.2).2.2.2.2.1⟩)))
  refine lk _ 4 (by decide) (by omega) ?_
  rw [show (116 : Int32) = nI 116 from rfl, nI_eq (by have := hl.2.2.2 (tS c n p + 4) (by omega); omega) (by omega)]
  by_cases e4 : c (tS c n p + 4) = 116
  · refine br_nt e4 (lk _ 5 (by decide) (by omega) ?_)
    rw [show (104 : Int32) = nI 104 from rfl, nI_eq (by have := hl.2.2.2 (tS c n p + 5) (by omega); omega) (by omega)]
    by_cases e5 : c (tS c n p + 5) = 104
    · refine br_nt e5 ?_
      have y : nqP c n p 0 := ⟨hk, nq_0.mpr ⟨i0, i1, i2, i3, i4.resolve_left (by decide), e4, e5⟩⟩
      have e : kN c n p = 0 := by unfold kN; rw [if_pos y]
      rw [e, if_neg (by decide)] at hq
      exact hq
    · exact br_nf e5 (t1 (fun y => e5 (nq_0.mp y.2).2.2.2.2.2.2))
  · exact br_nf e4 (t1 (fun y => e4 (nq_0.mp y.2).2.2.2.2.2.1))
