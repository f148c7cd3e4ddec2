-- ===== read =====
def rgP (f : Int32) (t m : Nat) : Prop := ∃ c, c < m ∧ f + nI t = nI c
theorem rg_l {f : Int32} {t m : Nat} (ht : t ≤ 12) (hm : m ≤ 40) : (¬ (f.toInt64 + (nI t).toInt64 < 0) ∧ f.toInt64 + (nI t).toInt64 < (nI m).toInt64) ↔ rgP f t m := by
  have b1 := Int32.le_toInt f
  have b2 := Int32.toInt_lt f
  have hs : (f.toInt64 + (nI t).toInt64).toInt = f.toInt + t := by
    rw [Int64.toInt_add, Int32.toInt_toInt64, Int32.toInt_toInt64, nI_toInt (by omega), Int.bmod_eq_of_le (by omega) (by omega)]
  have h0 : (0 : Int64).toInt = 0 := rfl
  rw [Int64.lt_iff_toInt_lt, Int64.lt_iff_toInt_lt, hs, h0, Int32.toInt_toInt64, nI_toInt (by omega)]
  constructor
  · rintro ⟨g1, g2⟩
    refine ⟨(f.toInt + t).toNat, by omega, ?_⟩
    have e : f = nI (f.toInt + t).toNat - nI t := by
      apply Int32.toInt_inj.mp
      rw [pk_sub_toInt (by omega) (by omega)]; omega
    have e2 : nI (f.toInt + t).toNat - nI t + nI t = nI (f.toInt + t).toNat := Int32.sub_add_cancel _ _
    rw [← e] at e2; exact e2
  · rintro ⟨c, hc, e⟩
    have e2 : f = nI c - nI t := by rw [← e, Int32.add_sub_cancel]
    have e3 : f.toInt = (c : Int) - t := by rw [e2, pk_sub_toInt (by omega) (by omega)]
    omega
/-- what may be the matter with cell f + t of a sheet of type A and size B, read as lane l -/
def frv (r A B l f : Int32) (t : Nat) : Prop := (r = 1 ∧ A = -4) ∨ (r = 3 ∧ A ≠ -4 ∧ A ≠ l) ∨ (r = 2 ∧ A ≠ -4 ∧ A = l ∧ ∃ m, m ≤ 40 ∧ B = nI m ∧ ¬ rgP f t m) ∨ (r = 0 ∧ A ≠ -4 ∧ A = l ∧ ∃ m, m ≤ 40 ∧ B = nI m ∧ rgP f t m)
theorem s_faultS {Q : Int32 → MM → Prop} {M : MM} {s t : Nat} {l f : Int32} (sh : shT1 M s) (hq : ∀ r, frv r (M 64 s) (M 65 s) l f t → Q r M) : wX1_faultOf Q M (44 + 2 * s) l (f + nI t) := by
  unfold wX1_faultOf
  rcases sh with ⟨s1, s2⟩ | ⟨ln, m, s1, s2, s3, s4, s5, s6, s7⟩
  · exact s_isNothing (fun _ => o_t1 (hq 1 (Or.inl ⟨rfl, s2⟩))) (fun q => absurd s1 q)
  · have n4 : ¬ M 64 s = -4 := by rw [s4]; exact nI_n4 (by omega)
    refine s_isNothing (fun q => absurd (s3.symm.trans q) (nI_nm1 (by omega))) (fun _ => o_t0 ?_)
    rw [s3, s5]
    by_cases e : l = nI ln
    · refine br_t e (s_isBetween.mpr ?_)
      have e4 : M 64 s = l := by rw [s4, e]
      by_cases hi : (0 : Int32) ≤ f + nI t ∧ f + nI t ≤ nI m - 1
      · exact zt2 hi (hq 0 (Or.inr (Or.inr (Or.inr ⟨rfl, n4, e4, m, s2, s6, (bl2 (by omega)).mp hi⟩))))
      · exact zf2 hi (hq 2 (Or.inr (Or.inr (Or.inl ⟨rfl, n4, e4, m, s2, s6, fun q => hi ((bl2 (by omega)).mpr q)⟩))))
    · exact br_f e (hq 3 (Or.inr (Or.inl ⟨rfl, n4, fun q => e (by rw [← q, s4])⟩)))
theorem m_f32 {Q : Int32 → MM → Prop} {M : MM} {s t n k : Nat} {l f r v6 : Int32} (hs : s < 4) (ht : t < n) (hn : n ≤ 12) (hf : frv r (M 64 s) (M 65 s) l f t) (hq : wX5_read_106 Q (fun M v5 v6 v7 => wX5_read_32 Q (nI s) l f (nI n) k M v5 v6 v7) (nI s) l f (nI n) M v6 (nI t) r) : wX5_read_32 Q (nI s) l f (nI n) (k + 1) M 0 v6 (nI t) := by
  refine br_f (fun q => ?_) (br_nt rfl ?_)
  · have := (nI_leI (by omega) (by omega)).mp q; omega
  rintro _ rfl
  rw [clamp_nI (n := s) (by omega), lg_cmp_lt, lg_cmp_lt]
  refine ⟨v64 hs, ?_⟩
  unfold wX5_read_101
  rcases hf with ⟨rfl, a⟩ | ⟨rfl, a, b⟩ | ⟨rfl, a, b, m, m1, m2, m3⟩ | ⟨rfl, a, b, m, m1, m2, m3⟩
  · exact br_nt a hq
  · exact br_nf a ⟨v64 hs, br_f b hq⟩
  · refine br_nf a ⟨v64 hs, br_t b ?_⟩
    rw [m2]
    by_cases q0 : f.toInt64 + (nI t).toInt64 < 0
    · exact br_t q0 hq
    · exact br_f q0 ⟨v65 hs, br_f (fun q => m3 ((rg_l (by omega) m1).mp ⟨q0, q⟩)) hq⟩
  · refine br_nf a ⟨v64 hs, br_t b ?_⟩
    rw [m2]
    have g := (rg_l (by omega) m1).mpr m3
    exact br_f g.1 ⟨v65 hs, br_t g.2 hq⟩
theorem frv_0 {A B l f : Int32} {t : Nat} (h : frv 0 A B l f t) : ∃ m, m ≤ 40 ∧ B = nI m ∧ rgP f t m := by
  rcases h with ⟨q, -⟩ | ⟨q, -⟩ | ⟨q, -⟩ | ⟨-, -, -, g⟩
  · exact absurd q (by decide)
  · exact absurd q (by decide)
  · exact absurd q (by decide)
  · exact g
/-- the cell's number -/
def wcI (M : MM) (s : Nat) (f : Int32) (t : Nat) : Int32 := M 66 (40 * s + (f + nI t).toNatClampNeg)
def avN (M : MM) (s : Nat) (f : Int32) (t : Nat) : Nat := (wcI M s f t).toNatClampNeg
def gdP (M : MM) (s y : Nat) (l f : Int32) (t : Nat) : Prop := frv 0 (M 64 s) (M 65 s) l f t ∧ wcI M s f t = nI (avN M s f t) ∧ avN M s f t < 256 ∧ y + t < 12
theorem wc_in {M : MM} {s : Nat} {f : Int32} {t : Nat} (h : (0 : Int32) ≤ wcI M s f t ∧ wcI M s f t ≤ 255) : wcI M s f t = nI (avN M s f t) ∧ avN M s f t < 256 := by
  obtain ⟨j, hj, e⟩ := pl_of (L := 255) (by omega) h
  have : avN M s f t = j := by unfold avN; rw [e, clamp_nI (by omega)]
  rw [this]; exact ⟨e, by omega⟩
def rcI (M M' : MM) (s y : Nat) (f : Int32) (t : Nat) : Prop := (∀ a, a ≠ 1 → a ≠ 7 → M' a = M a) ∧ (∀ j, j ≠ 11 → M' 1 j = M 1 j) ∧ M' 1 11 = nI (y + t) ∧ (∀ i, i < y → M' 7 i = M 7 i) ∧ (∀ i, i < t → M' 7 (y + i) = nI (avN M s f i))
theorem s_reads {Q : Int32 → MM → Prop} {M : MM} {s y n : Nat} {l f : Int32} (hs : s < 4) (hn : n ≤ 12) (hy : y ≤ 12) (sh : shT1 M s) (e1 : ∀ M', (∀ t, t < n → gdP M s y l f t) → rcI M M' s y f n → Q (nI n) (mset M' 0 10 0)) (e2 : ∀ M' t r, t < n → (∀ t', t' < t → gdP M s y l f t') → rcI M M' s y f t → ¬ r = 0 → frv r (M 64 s) (M 65 s) l f t → Q (nI t) (mset M' 0 10 r)) (e3 : ∀ M' t, t < n → (∀ t', t' < t → gdP M s y l f t') → rcI M M' s y f t → frv 0 (M 64 s) (M 65 s) l f t → ¬ ((0 : Int32) ≤ wcI M s f t ∧ wcI M s f t ≤ 255) → Q (-20 - nI t) (mset M' 1 11 (nI y))) (e4 : ∀ M' t, t < n → (∀ t', t' < t → gdP M s y l f t') → rcI M M' s y f t → frv 0 (M 64 s) (M 65 s) l f t → ((0 : Int32) ≤ wcI M s f t ∧ wcI M s f t ≤ 255) → y + t = 12 → Q (-3) (mset M' 1 11 (nI y))) : ∀ k t M', t + k = n → (∀ t', t' < t → gdP M s y l f t') → rcI M M' s y f t → wX4_read_50 Q (nI s) l f (nI n) (k + 1) M' (44 + 2 * s) (nI y) (nI t) := by
  intro k
  induction k with
  | zero =>
    intro t M' ht hg hi
    have : t = n := by omega
    subst this
    refine br_t (nI_le (Nat.le_refl _) (by omega)) ?_
    rintro _ rfl
    exact e1 M' hg hi
  | succ k ih =>
    intro t M' ht hg hi
    obtain ⟨i1, i2, i3, i4, i5⟩ := id hi
    have yt : y + t ≤ 12 := by
      rcases Nat.eq_zero_or_pos t with q | q
      · omega
      · have := (hg (t - 1) (by omega)).2.2.2; omega
    have sh' : shT1 M' s := by
      unfold shT1
      rw [i1 _ (by omega) (by omega), i1 64 (by omega) (by omega), i1 (45 + 2 * s) (by omega) (by omega), i1 65 (by omega) (by omega), i1 66 (by omega) (by omega)]
      exact sh
    refine br_f (fun q => ?_) (s_faultS sh' (fun r hf => ?_))
    · have := (nI_leI (by omega) (by omega)).mp q; omega
    rw [i1 64 (by omega) (by omega), i1 65 (by omega) (by omega)] at hf
    by_cases hr : r = 0
    · refine br_t hr ?_
      subst hr
      obtain ⟨m, m1, m2, c, c1, c2⟩ := frv_0 hf
      rw [c2]
      unfold wX1_cellAt
      have e45 : 44 + 2 * s + 1 = 45 + 2 * s := by omega
      rw [e45]
      refine s_cell (by rw [a45 s hs]; omega) (by rw [a45 s hs]; decide) ?_
      have ew : M' (45 + 2 * s) c = wcI M s f t := by
        unfold wcI
        rw [i1 _ (by omega) (by omega), c2, clamp_nI (by omega)]
        rcases sh with ⟨s1, s2⟩ | ⟨ln, m', s1, s2, s3, s4, s5, s6, s7⟩
        · rcases hf with ⟨q, -⟩ | ⟨q, -⟩ | ⟨q, -⟩ | ⟨-, q, -⟩
          · exact absurd q (by decide)
          · exact absurd q (by decide)
          · exact absurd q (by decide)
          · exact absurd s2 q
        · have : m' = m := (nI_eq (by omega) (by omega)).mp (s6.symm.trans m2)
          exact s7 c (by omega)
      rw [ew]
      refine s_isBetween.mpr ?_
      unfold wX4_read_122
      by_cases hb : (0 : Int32) ≤ wcI M s f t ∧ wcI M s f t ≤ 255
      · refine zt2 hb ?_
        have hw := wc_in hb
        rw [i3, bI_t hb]
        by_cases h12 : y + t < 12
        · refine br_t ((nI_ltI (b := 12) (by omega) (by omega)).mpr h12) ?_
          rw [hw.1]
          refine s_typeOne (Or.inl rfl) i3 h12 ?_
          rw [nI_1]
          refine ih (t + 1) _ (by omega) (fun t' h => ?_) ⟨fun a q1 q2 => ?_, fun j hj => ?_, ?_, fun i h => ?_, fun i h => ?_⟩
          · by_cases e : t' = t
            · subst e; exact ⟨hf, hw.1, hw.2, h12⟩
            · exact hg t' (by omega)
          · rw [ctM_n q1 q2]; exact i1 a q1 q2
          · unfold ctM
            rw [mset_sn hj, mset_n (by decide)]; exact i2 j hj
          · unfold ctM
            rw [mset_ss]; rfl
          · unfold ctM
            rw [mset_n (by decide), mset_sn (by omega)]; exact i4 i h
          · unfold ctM
            rw [mset_n (by decide)]
            by_cases e : i = t
            · subst e; rw [mset_ss]
            · rw [mset_sn (by omega)]; exact i5 i (by omega)
        · refine br_f (fun q => h12 ((nI_ltI (b := 12) (by omega) (by omega)).mp q)) ?_
          rintro _ rfl
          exact o_t1 (e4 M' t (by omega) hg hi hf hb (by omega))
      · refine zf2 hb ?_
        rw [bI_f hb]
        rintro _ rfl
        exact o_t0 (e3 M' t (by omega) hg hi hf hb)
    · refine br_f hr ?_
      rintro _ rfl
      exact e2 M' t r (by omega) hg hi hr hf
-- the reference
theorem wx_ix {M : MM} {s t : Nat} {l f B : Int32} {A : Int32} (hs : s < 4) (hf : frv 0 A B l f t) : vp_in ((((40 : Int32) * nI s) + f) + nI t) (alen 66) ∧ M 66 ((((40 : Int32) * nI s) + f) + nI t).toNatClampNeg = wcI M s f t := by
  obtain ⟨m, m1, m2, c, c1, c2⟩ := frv_0 hf
  unfold wcI
  rw [Int32.add_assoc, c2, show (40 : Int32) * nI s = nI (40 * s) from pk_mul 40 s, nI_add, clamp_nI (by omega), clamp_nI (by omega)]
  exact ⟨v66 (by omega), rfl⟩
theorem m_pre {Q : Int32 → MM → Prop} {M M1 : MM} {s y n t k : Nat} {l f : Int32} (hs : s < 4) (hn : n ≤ 12) (ht : t ≤ n) (hg : ∀ t', t' < t → gdP M s y l f t') (k64 : M1 64 = M 64) (k65 : M1 65 = M 65) (k66 : M1 66 = M 66) (ky : M1 53 327 = nI y) (hq : wX5_read_32 Q (nI s) l f (nI n) k M1 0 (nI t) (nI t)) : ∀ r t', t' + r = t → wX5_read_32 Q (nI s) l f (nI n) (r + k) M1 0 (nI t') (nI t') := by
  intro r
  induction r with
  | zero =>
    intro t' h
    have : t' = t := by omega
    subst this
    rw [Nat.zero_add]; exact hq
  | succ r ih =>
    intro t' h
    obtain ⟨g1, g2, g3, g4⟩ := hg t' (by omega)
    have e : r + 1 + k = (r + k) + 1 := by omega
    rw [e]
    refine m_f32 (r := 0) hs (by omega) hn (by rw [k64, k65]; exact g1) ?_
    unfold wX5_read_106 wX5_read_166
    refine br_nt rfl ?_
    have ix := wx_ix (M := M1) hs g1
    have ew : wcI M1 s f t' = wcI M s f t' := by unfold wcI; rw [k66]
    rw [ix.2, ew, g2]
    refine ⟨ix.1, m_in32 0 255 rfl rfl (zt1 (pl_in (L := 255) (by omega) (by omega)) ?_)⟩
    rw [ky, nI_add]
    refine br_nf (fun q => ?_) ?_
    · have := (nI_eq (b := 12) (by omega) (by omega)).mp q; omega
    · rw [nI_1]; exact ih (t' + 1) (by omega)
def rmI (M M1 M' : MM) (s y : Nat) (f : Int32) (t : Nat) : Prop := (∀ a, a ≠ 53 → M' a = M1 a) ∧ (∀ j, (j < 327 ∨ 340 ≤ j) → M' 53 j = M1 53 j) ∧ M' 53 327 = nI (y + t) ∧ (∀ i, i < y → M' 53 (328 + i) = M1 53 (328 + i)) ∧ (∀ i, i < t → M' 53 (328 + (y + i)) = nI (avN M s f i))
theorem m_types {Q : Int32 → MM → Prop} {M M1 : MM} {s y n t : Nat} {l f : Int32} (hs : s < 4) (hn : n ≤ 12) (ht : t ≤ n) (hg : ∀ t', t' < t → gdP M s y l f t') (k66 : M1 66 = M 66) (hq : ∀ M', rmI M M1 M' s y f t → Q (nI t) M') : ∀ r i M', i + r = t → rmI M M1 M' s y f i → wX5_read_181 Q (nI s) l f (nI n) (r + 1) M' (nI t) (nI i) := by
  intro r
  induction r with
  | zero =>
    intro i M' h hi
    have : i = t := by omega
    subst this
    exact br_t (nI_le (Nat.le_refl _) (by omega)) (hq M' hi)
  | succ r ih =>
    intro i M' h hi
    obtain ⟨i1, i2, i3, i4, i5⟩ := id hi
    obtain ⟨g1, g2, g3, g4⟩ := hg i (by omega)
    have ix := wx_ix (M := M') hs g1
    have ew : wcI M' s f i = wcI M s f i := by unfold wcI; rw [i1 66 (by decide), k66]
    refine br_f (fun q => ?_) ⟨ix.1, ?_⟩
    · have := (nI_leI (by omega) (by omega)).mp q; omega
    rw [ix.2, ew, g2]
    refine m_type i3 g4 g3 ?_
    rw [nI_1]
    refine ih (i + 1) _ (by omega) ⟨fun a q => ?_, fun j hj => ?_, ?_, fun j hj => ?_, fun j hj => ?_⟩
    · rw [mtM_n q]; exact i1 a q
    · rw [mtM_s (by omega) (by omega)]; exact i2 j hj
    · unfold mtM; rw [mset_ss]; rfl
    · rw [mtM_s (by omega) (by omega)]; exact i4 j hj
    · by_cases e : j = i
      · subst e; unfold mtM; rw [mset_sn (by omega), mset_ss]
      · rw [mtM_s (by omega) (by omega)]; exact i5 j (by omega)
