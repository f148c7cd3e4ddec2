-- ===== sheets =====
theorem a45 : ∀ s, s < 4 → alen (45 + 2 * s) = 40 := by decide +kernel
theorem a64 : alen 64 = 4 ∧ alen 65 = 4 ∧ alen 66 = 160 := by decide +kernel
theorem v64 {n : Nat} (h : n < 4) : vp_in (nI n) (alen 64) := vp_nI (by rw [a64.1]; exact h) (by rw [a64.1]; decide)
theorem v65 {n : Nat} (h : n < 4) : vp_in (nI n) (alen 65) := vp_nI (by rw [a64.2.1]; exact h) (by rw [a64.2.1]; decide)
theorem v66 {n : Nat} (h : n < 160) : vp_in (nI n) (alen 66) := vp_nI (by rw [a64.2.2]; exact h) (by rw [a64.2.2]; decide)
theorem shB_at {s : Nat} (h : s < 4) : shB (44 + 2 * s) := by
  have : s = 0 ∨ s = 1 ∨ s = 2 ∨ s = 3 := by omega
  rcases this with rfl | rfl | rfl | rfl
  · exact Or.inl rfl
  · exact Or.inr (Or.inl rfl)
  · exact Or.inr (Or.inr (Or.inl rfl))
  · exact Or.inr (Or.inr (Or.inr rfl))
theorem s_sheetNumbered {Q : Nat → MM → Prop} {M : MM} {s : Nat} (h : s < 4) (hq : Q (44 + 2 * s) M) : wX4_sheetNumbered Q M (nI s) := by
  unfold wX4_sheetNumbered
  have : s = 0 ∨ s = 1 ∨ s = 2 ∨ s = 3 := by omega
  rcases this with rfl | rfl | rfl | rfl
  · exact br_t rfl hq
  · exact br_f (by decide +kernel) (br_t rfl hq)
  · exact br_f (by decide +kernel) (br_f (by decide +kernel) (br_t rfl hq))
  · exact br_f (by decide +kernel) (br_f (by decide +kernel) (br_f (by decide +kernel) hq))
theorem m_isSheet {Q : Int32 → MM → Prop} {M : MM} {k l : Int32} (h1 : (0 ≤ k ∧ k ≤ 3) → (0 ≤ l ∧ l ≤ 2) → Q 1 M) (h0 : ¬ ((0 ≤ k ∧ k ≤ 3) ∧ (0 ≤ l ∧ l ≤ 2)) → Q 0 M) : wX5_isSheet Q M k l := by
  unfold wX5_isSheet wX5_isSheet_28
  refine m_in32 0 3 rfl rfl ?_
  by_cases a : (0 : Int32) ≤ k ∧ k ≤ 3
  · refine zt2 a (m_in32 0 2 rfl rfl ?_)
    by_cases b : (0 : Int32) ≤ l ∧ l ≤ 2
    · exact zt2 b (h1 a b)
    · exact zf2 b (h0 (fun q => b q.2))
  · exact zf2 a (h0 (fun q => a q.1))
theorem shTs.set {M M' : MM} {s : Nat} (h : shTs M) (h1 : ∀ a, 44 ≤ a → a < 52 → a ≠ 44 + 2 * s → a ≠ 45 + 2 * s → M' a = M a) (h2 : ∀ j, j ≠ s → M' 64 j = M 64 j) (h3 : ∀ j, j ≠ s → M' 65 j = M 65 j) (h4 : ∀ j, (j < 40 * s ∨ 40 * s + 40 ≤ j) → M' 66 j = M 66 j) (h5 : shT1 M' s) : shTs M' := by
  intro s' hs'
  by_cases e : s' = s
  · rw [e]; exact h5
  have g := h s' hs'
  unfold shT1 at g ⊢
  rw [h1 _ (by omega) (by omega) (by omega) (by omega), h1 (45 + 2 * s') (by omega) (by omega) (by omega) (by omega), h2 s' e, h3 s' e]
  rcases g with g | ⟨ln, n, g1, g2, g3, g4, g5, g6, g7⟩
  · exact Or.inl g
  · exact Or.inr ⟨ln, n, g1, g2, g3, g4, g5, g6, fun i hi => by rw [g7 i hi, h4 _ (by omega)]⟩
theorem Rel.shs {M M' : MM} (h : Rel M) (hk : ∀ a, (a < 44 ∨ (52 ≤ a ∧ a < 64)) → M' a = M a) (hs : shTs M') : Rel M' := by
  obtain ⟨R, σ, hR, hS, hc, hm, hr, him, hsh, htx⟩ := h
  refine ⟨R, σ, hR, hS, hc.keep (fun i hi => hk _ (by omega)), hm.keep (hk _ (by omega)), hr.keep (hk _ (by omega)), him.keep (by rw [hk 0 (by omega)]) (fun a h1 h2 => hk a (by omega)) (fun j _ => by rw [hk 53 (by omega)]) (hk _ (by omega)), hs, htx.keep (hk _ (by omega)) (hk _ (by omega)) (hk _ (by omega)) (by rw [hk 52 (by omega)]) (by rw [hk 52 (by omega)]) (by rw [hk 52 (by omega)]) (by rw [hk 0 (by omega)]) (by rw [hk 0 (by omega)])⟩
theorem s_makeNew {Q : MM → Prop} {M : MM} {s : Nat} {v1 v2 : Int32} (h : s < 4) (hq : ∀ M', (∀ a, a ≠ 44 + 2 * s → a ≠ 45 + 2 * s → M' a = M a) → M' (44 + 2 * s) 1 = v1 → M' (44 + 2 * s) 2 = v2 → (∀ j, j < 40 → M' (45 + 2 * s) j = 0) → Q M') : wX1_makeNew Q M (44 + 2 * s) v1 v2 := by
  have e45 : 44 + 2 * s + 1 = 45 + 2 * s := by omega
  unfold wX1_makeNew
  rintro _ rfl _ rfl
  have loop : ∀ r i (M' : MM), i + r = 40 → (∀ a, a ≠ 44 + 2 * s → a ≠ 45 + 2 * s → M' a = M a) → M' (44 + 2 * s) 1 = v1 → M' (44 + 2 * s) 2 = v2 → (∀ j, j < i → M' (45 + 2 * s) j = 0) → wX1_makeNew_12 Q (44 + 2 * s) v1 v2 (r + 1) M' (nI i) := by
    intro r
    induction r with
    | zero =>
      intro i M' hi k1 k2 k3 k4
      have : i = 40 := by omega
      subst this
      exact br_t (by decide +kernel) (hq M' k1 k2 k3 k4)
    | succ r ih =>
      intro i M' hi k1 k2 k3 k4
      unfold wX1_makeNew_12
      rw [e45]
      refine br_f (fun q => ?_) (s_setCell (by rw [a45 s h]; omega) (by rw [a45 s h]; decide) ?_)
      · have := (nI_leI (a := 40) (by omega) (by omega)).mp q; omega
      rw [nI_1]
      refine ih (i + 1) _ (by omega) (fun a q1 q2 => by rw [mset_n q2]; exact k1 a q1 q2) (by rw [mset_n (by omega)]; exact k2) (by rw [mset_n (by omega)]; exact k3) (fun j hj => ?_)
      by_cases e : j = i
      · subst e; rw [mset_ss]
      · rw [mset_sn e]; exact k4 j (by omega)
  refine ⟨_, loop 40 0 _ (by omega) (fun a q1 q2 => by rw [mset_n q1, mset_n q1]) ?_ ?_ (fun _ q => by omega)⟩
  · rw [mset_sn (by decide), mset_ss]
  · rw [mset_ss]
theorem m_zero {Q : Int32 → MM → Prop} {M : MM} {s : Nat} {v2 v3 : Int32} (h : s < 4) (hq : ∀ M', (∀ a, a ≠ 66 → M' a = M a) → (∀ j, (j < 40 * s ∨ 40 * s + 40 ≤ j) → M' 66 j = M 66 j) → (∀ i, i < 40 → M' 66 (40 * s + i) = 0) → Q 1 M') : ∃ m, wX5_sheet_40 Q (nI s) v2 v3 m M 0 := by
  have loop : ∀ r i (M' : MM), i + r = 40 → (∀ a, a ≠ 66 → M' a = M a) → (∀ j, (j < 40 * s ∨ 40 * s + 40 ≤ j) → M' 66 j = M 66 j) → (∀ i', i' < i → M' 66 (40 * s + i') = 0) → wX5_sheet_40 Q (nI s) v2 v3 (r + 1) M' (nI i) := by
    intro r
    induction r with
    | zero =>
      intro i M' hi k1 k2 k3
      have : i = 40 := by omega
      subst this
      exact br_t (by decide +kernel) (hq M' k1 k2 k3)
    | succ r ih =>
      intro i M' hi k1 k2 k3
      unfold wX5_sheet_40
      rw [show (40 : Int32) * nI s = nI (40 * s) from pk_mul 40 s, nI_add, clamp_nI (by omega), nI_1]
      refine br_f (fun q => ?_) ⟨v66 (by omega), ?_⟩
      · have := (nI_leI (a := 40) (by omega) (by omega)).mp q; omega
      rintro _ rfl
      refine ih (i + 1) _ (by omega) (fun a q1 => by rw [mset_n q1]; exact k1 a q1) (fun j hj => by rw [mset_sn (by omega)]; exact k2 j hj) (fun i' hi' => ?_)
      by_cases e : i' = i
      · subst e; rw [mset_ss]
      · rw [mset_sn (by omega)]; exact k3 i' (by omega)
  exact ⟨_, loop 40 0 M (by omega) (fun _ _ => rfl) (fun _ _ => rfl) (fun _ q => by omega)⟩
theorem L_sheet {M : MM} (h : Rel M) (k l n : Int32) : wX4_sheet (fun r M1 => wX5_sheet (PQ r) M1 k l n) M k l n := by
  have hsh : shTs M := by obtain ⟨_, _, _, _, _, _, _, _, h8, _⟩ := h; exact h8
  unfold wX4_sheet
  refine s_isBetween.mpr ?_
  by_cases hk : (0 : Int32) ≤ k ∧ k ≤ 3
  · refine zt2 hk (s_isBetween.mpr ?_)
    by_cases hl : (0 : Int32) ≤ l ∧ l ≤ 2
    · refine zt2 hl ?_
      by_cases h40 : n ≤ 40
      · refine br_t h40 ?_
        by_cases h0 : 0 ≤ n
        · refine br_t h0 ?_
          obtain ⟨s, hs, rfl⟩ := pl_of (L := 3) (by omega) hk
          obtain ⟨ln, hln, rfl⟩ := pl_of (L := 2) (by omega) hl
          obtain ⟨m, hm, rfl⟩ := pl_of (L := 40) (by omega) ⟨h0, h40⟩
          refine s_sheetNumbered (by omega) ⟨shB_at (by omega), s_makeNew (by omega) (fun M1 a1 a2 a3 a4 => ?_)⟩
          unfold wX5_sheet
          refine m_isSheet (fun _ _ => o_t1 (br_t h40 (br_t h0 ⟨v64 (by omega), ?_⟩))) (fun q => absurd ⟨hk, hl⟩ q)
          rw [clamp_nI (by omega)]
          rintro _ rfl
          refine ⟨v65 (by omega), ?_⟩
          rintro _ rfl
          refine m_zero (by omega) (fun M2 b1 b2 b3 => ⟨rfl, ?_⟩)
          refine h.shs (fun a ha => by rw [b1 a (by omega), mset_n (by omega), mset_n (by omega), a1 a (by omega) (by omega)]) ?_
          refine hsh.set (s := s) (fun a q1 q2 q3 q4 => by rw [b1 a (by omega), mset_n (by omega), mset_n (by omega), a1 a q3 q4]) (fun j hj => by rw [b1 64 (by decide), mset_n (by decide), mset_sn hj, a1 64 (by omega) (by omega)]) (fun j hj => by rw [b1 65 (by decide), mset_sn hj, mset_n (by decide), a1 65 (by omega) (by omega)]) (fun j hj => by rw [b2 j hj, mset_n (by decide), mset_n (by decide), a1 66 (by omega) (by omega)]) ?_
          refine Or.inr ⟨ln, m, by omega, hm, ?_, ?_, ?_, ?_, fun i hi => ?_⟩
          · rw [b1 _ (by omega), mset_n (by omega), mset_n (by omega)]; exact a2
          · rw [b1 64 (by decide), mset_n (by decide), mset_ss]
          · rw [b1 _ (by omega), mset_n (by omega), mset_n (by omega)]; exact a3
          · rw [b1 65 (by decide), mset_ss]
          · rw [b3 i (by omega), b1 _ (by omega), mset_n (by omega), mset_n (by omega)]; exact a4 i (by omega)
        · refine br_f h0 ?_
          unfold wX5_sheet
          exact m_isSheet (fun _ _ => o_t1 (br_t h40 (br_f h0 ⟨rfl, h⟩))) (fun q => absurd ⟨hk, hl⟩ q)
      · refine br_f h40 ?_
        unfold wX5_sheet
        exact m_isSheet (fun _ _ => o_t1 (br_f h40 ⟨rfl, h⟩)) (fun q => absurd ⟨hk, hl⟩ q)
    · refine zf2 hl ?_
      unfold wX5_sheet
      exact m_isSheet (fun _ q => absurd q hl) (fun _ => o_t0 ⟨rfl, h⟩)
  · refine zf2 hk ?_
    unfold wX5_sheet
    exact m_isSheet (fun q => absurd q hk) (fun _ => o_t0 ⟨rfl, h⟩)
theorem bl2 {v : Int32} {n : Nat} (hn : n ≤ 1000) : (0 ≤ v ∧ v ≤ nI n - 1) ↔ ∃ j, j < n ∧ v = nI j := by
  constructor
  · rintro ⟨h1, h2⟩
    cases n with
    | zero => exact absurd (Int32.le_trans h1 h2) (by decide +kernel)
    | succ k =>
      rw [nI_sub1 (by omega)] at h2
      obtain ⟨j, hj, e⟩ := pl_of (L := k + 1 - 1) (by omega) ⟨h1, h2⟩
      exact ⟨j, by omega, e⟩
  · rintro ⟨j, hj, rfl⟩
    rw [nI_sub1 (by omega)]
    exact pl_in (by omega) (by omega)
theorem L_lay {M : MM} (h : Rel M) (k i v : Int32) : wX4_lay (fun r M1 => wX5_lay (PQ r) M1 k i v) M k i v := by
  have hsh : shTs M := by obtain ⟨_, _, _, _, _, _, _, _, h8, _⟩ := h; exact h8
  unfold wX4_lay
  refine s_isBetween.mpr ?_
  have hl : (0 : Int32) ≤ 0 ∧ (0 : Int32) ≤ 2 := by decide
  by_cases hk : (0 : Int32) ≤ k ∧ k ≤ 3
  · refine zt1 hk ?_
    obtain ⟨s, hs, rfl⟩ := pl_of (L := 3) (by omega) hk
    refine s_sheetNumbered (by omega) ⟨shB_at (by omega), ?_⟩
    unfold wX1_faultOf
    rcases hsh s (by omega) with ⟨s1, s2⟩ | ⟨ln, m, s1, s2, s3, s4, s5, s6, s7⟩
    · refine s_isNothing (fun _ => o_t1 (br_f (by decide) ?_)) (fun q => absurd s1 q)
      unfold wX5_lay
      refine m_isSheet (fun _ _ => o_n1 ⟨v64 (by omega), ?_⟩) (fun q => absurd ⟨hk, hl⟩ q)
      rw [clamp_nI (n := s) (by omega)]
      exact br_nt s2 ⟨rfl, h⟩
    · refine s_isNothing (fun q => absurd (s3.symm.trans q) (nI_nm1 (by omega))) (fun _ => o_t0 (br_t rfl ?_))
      rw [s5]
      refine s_isBetween.mpr ?_
      have n4 : ¬ M 64 s = -4 := by rw [s4]; exact nI_n4 (by omega)
      by_cases hi : (0 : Int32) ≤ i ∧ i ≤ nI m - 1
      · obtain ⟨c, hc, rfl⟩ := (bl2 (by omega)).mp hi
        refine zt2 hi (br_t rfl ?_)
        have e45 : 44 + 2 * s + 1 = 45 + 2 * s := by omega
        -- what is laid
        have fin : ∀ w : Int32, (M 64 s = 0 → w = v.toInt8.toInt32) → (¬ M 64 s = 0 → M 64 s = 1 → w = v.toInt16.toInt32) → (¬ M 64 s = 0 → ¬ M 64 s = 1 → w = v) → wX4_setCell (fun M1 => (fun r M1 => wX5_lay (PQ r) M1 (nI s) (nI c) v) 1 M1) M (44 + 2 * s + 1) (nI c) w := by
          intro w w0 w1 w2
          rw [e45]
          refine s_setCell (by rw [a45 s (by omega)]; omega) (by rw [a45 s (by omega)]; decide) ?_
          unfold wX5_lay
          refine m_isSheet (fun _ _ => o_n1 ⟨v64 (by omega), ?_⟩) (fun q => absurd ⟨hk, hl⟩ q)
          have k64 : mset M (45 + 2 * s) c w 64 = M 64 := mset_n (by omega)
          have k65 : mset M (45 + 2 * s) c w 65 = M 65 := mset_n (by omega)
          rw [clamp_nI (n := s) (by omega), k64, k65, s6]
          refine br_nf n4 ⟨v65 (by omega), m_in32 0 (nI m - 1) rfl rfl (zt1 hi ⟨v64 (by omega), ?_⟩)⟩
          rw [k64]
          have lay85 : ∀ p0 : Int32, p0 = w → wX5_lay_85 (PQ 1) (nI s) (nI c) v (mset M (45 + 2 * s) c w) p0 (((40 : Int32) * nI s) + nI c) := by
            rintro _ rfl
            unfold wX5_lay_85
            rw [show (40 : Int32) * nI s = nI (40 * s) from pk_mul 40 s, nI_add, clamp_nI (by omega)]
            refine ⟨v66 (by omega), ?_⟩
            rintro _ rfl
            refine ⟨rfl, h.shs (fun a ha => by rw [mset_n (by omega), mset_n (by omega)]) ?_⟩
            refine hsh.set (s := s) (fun a q1 q2 q3 q4 => by rw [mset_n (by omega), mset_n q4]) (fun j hj => by rw [mset_n (by decide), k64]) (fun j hj => by rw [mset_n (by decide), k65]) (fun j hj => by rw [mset_sn (by omega), mset_n (by omega)]) ?_
            refine Or.inr ⟨ln, m, s1, s2, ?_, ?_, ?_, ?_, fun j hj => ?_⟩
            · rw [mset_n (by omega), mset_n (by omega)]; exact s3
            · rw [mset_n (by decide), k64]; exact s4
            · rw [mset_n (by omega), mset_n (by omega)]; exact s5
            · rw [mset_n (by decide), k65]; exact s6
            · rw [mset_n (show 45 + 2 * s ≠ 66 by omega)]
              by_cases e : j = c
              · subst e; rw [mset_ss, mset_ss]
              · rw [mset_sn e, mset_sn (by omega), mset_n (by omega)]; exact s7 j hj
          by_cases q0 : M 64 s = 0
          · exact br_nt q0 (lay85 _ (w0 q0).symm)
          · refine br_nf q0 ⟨v64 (by omega), ?_⟩
            by_cases q1 : M 64 s = 1
            · exact br_nt q1 (lay85 _ (w1 q0 q1).symm)
            · exact br_nf q1 (lay85 _ (w2 q0 q1).symm)
        unfold wX1_put wX1_put_26
        rw [s3, ← s4]
        by_cases q0 : M 64 s = 0
        · exact br_nt q0 (fin _ (fun _ => rfl) (fun q => absurd q0 q) (fun q => absurd q0 q))
        · refine br_nf q0 ?_
          by_cases q1 : M 64 s = 1
          · exact br_nt q1 (fin _ (fun q => absurd q q0) (fun _ _ => rfl) (fun _ q => absurd q1 q))
          · exact br_nf q1 (fin _ (fun q => absurd q q0) (fun _ q => absurd q q1) (fun _ _ => rfl))
      · refine zf2 hi (br_f (by decide) ?_)
        unfold wX5_lay
        refine m_isSheet (fun _ _ => o_n1 ⟨v64 (by omega), ?_⟩) (fun q => absurd ⟨hk, hl⟩ q)
        rw [clamp_nI (n := s) (by omega), s6]
        exact br_nf n4 ⟨v65 (by omega), m_in32 0 (nI m - 1) rfl rfl (zf1 hi ⟨rfl, h⟩)⟩
  · refine zf1 hk ?_
    unfold wX5_lay
    exact m_isSheet (fun q => absurd q hk) (fun _ => o_n0 ⟨rfl, h⟩)
