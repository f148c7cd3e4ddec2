-- ===== block, column =====
theorem s_columnOf {Q : Int32 → MM → Prop} {M : MM} {b j i : Nat} {R : Nat → Nat} {σ : SS} (hb : tpB b) (hS : okS R σ) (hc : clT M b R σ) (hj : j < sN σ) (hi : i ≤ sZ σ j) (hq : Q (nI (sC σ (j * 13 + i))) M) : wX2_columnOf Q M b (nI j) (nI i) := by
  unfold wX2_columnOf
  have h12 := hS.2.1
  have hz := hS.z12 j hj
  rw [show (13 : Int32) = nI 13 from rfl, pk_mul, nI_add]
  refine s_cell (by rw [(alen_tp hb).2.2.2.1]; omega) (by rw [(alen_tp hb).2.2.2.1]; decide) ?_
  rw [hc.2.2.2.2.2.1 j hj i hi]; exact hq
theorem m_columnOf {Q : Int32 → MM → Prop} {M : MM} {j i : Nat} {R : Nat → Nat} {σ : SS} (hS : okS R σ) (hm : mdT M 0 σ) (hj : j < sN σ) (hi : i ≤ sZ σ j) (hq : Q (nI (sC σ (j * 13 + i))) M) : wX5_columnOf Q M (nI j) (nI i) := by
  unfold wX5_columnOf
  have h12 := hS.2.1
  have hz := hS.z12 j hj
  have e : (((25 : Int32) + ((13 : Int32) * nI j)) + nI i) = nI (25 + (j * 13 + i)) := by
    rw [show (13 : Int32) = nI 13 from rfl, show (25 : Int32) = nI 25 from rfl, pk_mul, nI_add, nI_add]; congr 1; omega
  rw [e, clamp_nI (by omega)]
  refine ⟨v53 (by omega), ?_⟩
  rw [mC hm hj hi]; exact hq
theorem s_isMark {Q : Int32 → MM → Prop} {M : MM} {b j : Nat} {R : Nat → Nat} {σ : SS} (hb : tpB b) (hS : okS R σ) (hc : clT M b R σ) (hj : j < sN σ) (hq : Q (bI (sZ σ j = 0)) M) : wX2_isMark Q M b (nI j) := by
  unfold wX2_isMark
  refine s_sizeOf hb hc hS.2.1 hj ?_
  have hz := hS.z12 j hj
  by_cases h : sZ σ j = 0
  · rw [bI_t h] at hq
    exact br_nt (by rw [h]; rfl) hq
  · rw [bI_f h] at hq
    exact br_nf (fun q => h ((nI_eq (b := 0) (by omega) (by omega)).mp q)) hq
theorem L_block {M : MM} (h : Rel M) (x w : Int32) : wX4_block (fun r M1 => wX5_block (PQ r) M1 x w) M x w := by
  obtain ⟨R, σ, hR, hS, hc, hm, hr, him, hsh, htx⟩ := id h
  have hb : tpB 1 := Or.inl rfl
  have h12 := hS.2.1
  unfold wX4_block
  refine s_hasBlock hc.2.1 ?_
  by_cases hp : (0 : Int32) ≤ x ∧ x ≤ nI (sN σ) - 1
  · refine zt1 hp ?_
    obtain ⟨j, hj, rfl⟩ := (blk_of h12).mp hp
    have hz := hS.z12 j hj
    have key : ∀ r, ((w = 0 ∧ r = nI (sB σ j)) ∨ (w = 1 ∧ r = nI (lgN R (sZ σ j))) ∨ (w = 2 ∧ r = nI (sZ σ j)) ∨ (w = 3 ∧ ((sZ σ j = 0 ∧ r = 0) ∨ (sZ σ j ≠ 0 ∧ r = nI (sC σ (j * 13 + sZ σ j))))) ∨ (w = 4 ∧ r = nI (sB σ j + lgN R (sZ σ j))) ∨ ((¬ w = 0 ∧ ¬ w = 1 ∧ ¬ w = 2 ∧ ¬ w = 3 ∧ ¬ w = 4) ∧ r = -1)) → wX5_block (PQ r) M (nI j) w := by
      intro r hw
      unfold wX5_block
      refine m_isBlock hm.2.1 (zt1 hp ?_)
      rw [show (13 : Int32) = nI 13 from rfl, nI_add, clamp_nI (by omega), mZ hm hj]
      refine ⟨v53 (by omega), ?_⟩
      rintro _ rfl
      rcases hw with ⟨rfl, rfl⟩ | ⟨rfl, rfl⟩ | ⟨rfl, rfl⟩ | ⟨rfl, hw⟩ | ⟨rfl, rfl⟩ | ⟨⟨a0, a1, a2, a3, a4⟩, rfl⟩
      · refine br_t rfl ?_
        rw [n1, nI_add, clamp_nI (by omega), mB hm hj]
        exact ⟨v53 (by omega), rfl, h⟩
      · exact br_f (by decide) (br_t rfl (m_longOf hR hr (by omega) ⟨rfl, h⟩))
      · exact br_f (by decide) (br_f (by decide) (br_t rfl ⟨rfl, h⟩))
      · refine br_f (by decide) (br_f (by decide) (br_f (by decide) (br_t rfl ?_)))
        rcases hw with ⟨e, rfl⟩ | ⟨e, rfl⟩
        · exact br_nt (by rw [e]; rfl) ⟨rfl, h⟩
        · exact br_nf (fun q => e ((nI_eq (b := 0) (by omega) (by omega)).mp q)) (m_columnOf hS hm hj (Nat.le_refl _) ⟨rfl, h⟩)
      · exact br_f (by decide) (br_f (by decide) (br_f (by decide) (br_f (by decide) (br_t rfl (m_endOf hR hS hr hm hj ⟨rfl, h⟩)))))
      · exact br_f a0 (br_f a1 (br_f a2 (br_f a3 (br_f a4 ⟨rfl, h⟩))))
    by_cases h0 : w = 0
    · exact br_t h0 (s_beginOf hb hc h12 hj (key _ (Or.inl ⟨h0, rfl⟩)))
    refine br_f h0 ?_
    by_cases h1 : w = 1
    · refine br_t h1 ?_
      unfold wX2_longOf
      exact s_sizeOf hb hc h12 hj (s_longWith hb hR hc (by omega) (key _ (Or.inr (Or.inl ⟨h1, rfl⟩))))
    refine br_f h1 ?_
    by_cases h2 : w = 2
    · exact br_t h2 (s_sizeOf hb hc h12 hj (key _ (Or.inr (Or.inr (Or.inl ⟨h2, rfl⟩)))))
    refine br_f h2 ?_
    by_cases h3 : w = 3
    · refine br_t h3 (s_isMark hb hS hc hj ?_)
      by_cases hz0 : sZ σ j = 0
      · exact zt2 hz0 (key _ (Or.inr (Or.inr (Or.inr (Or.inl ⟨h3, Or.inl ⟨hz0, rfl⟩⟩)))))
      · exact zf2 hz0 (s_sizeOf hb hc h12 hj (s_columnOf hb hS hc hj (Nat.le_refl _) (key _ (Or.inr (Or.inr (Or.inr (Or.inl ⟨h3, Or.inr ⟨hz0, rfl⟩⟩)))))))
    refine br_f h3 ?_
    by_cases h4 : w = 4
    · exact br_t h4 (s_endOf hb hR hS hc hj (key _ (Or.inr (Or.inr (Or.inr (Or.inr (Or.inl ⟨h4, rfl⟩)))))))
    · exact br_f h4 (key _ (Or.inr (Or.inr (Or.inr (Or.inr (Or.inr ⟨⟨h0, h1, h2, h3, h4⟩, rfl⟩))))))
  · refine zf1 hp ?_
    unfold wX5_block
    exact m_isBlock hm.2.1 (zf1 hp ⟨rfl, h⟩)
/-- which columns there are -/
def colP (σ : SS) (x i : Int32) : Prop := ∃ j k, j < sN σ ∧ sZ σ j ≠ 0 ∧ k ≤ sZ σ j ∧ x = nI j ∧ i = nI k
theorem s_hasColumn {Q : Int32 → MM → Prop} {M : MM} {b : Nat} {R : Nat → Nat} {σ : SS} {x i : Int32} (hb : tpB b) (hS : okS R σ) (hc : clT M b R σ) (h1 : colP σ x i → Q 1 M) (h0 : ¬ colP σ x i → Q 0 M) : wX2_hasColumn Q M b x i := by
  unfold wX2_hasColumn wX2_hasColumn_33
  refine s_hasBlock hc.2.1 ?_
  by_cases hp : (0 : Int32) ≤ x ∧ x ≤ nI (sN σ) - 1
  · refine zt2 hp ?_
    obtain ⟨j, hj, rfl⟩ := (blk_of hS.2.1).mp hp
    have hz := hS.z12 j hj
    have hinj : ∀ j', j' < sN σ → nI j = nI j' → j' = j := fun j' hj' e => ((nI_eq (by have := hS.2.1; omega) (by have := hS.2.1; omega)).mp e).symm
    refine s_isMark hb hS hc hj ?_
    by_cases hz0 : sZ σ j = 0
    · refine zt1 hz0 (h0 ?_)
      rintro ⟨j', k, a1, a2, a3, a4, a5⟩
      rw [hinj j' a1 a4] at a2; exact a2 hz0
    · refine zf1 hz0 (s_sizeOf hb hc hS.2.1 hj (s_isBetween.mpr ?_))
      by_cases hi : (0 : Int32) ≤ i ∧ i ≤ nI (sZ σ j)
      · obtain ⟨k, hk, rfl⟩ := pl_of (by omega) hi
        exact zt2 hi (h1 ⟨j, k, hj, hz0, hk, rfl, rfl⟩)
      · refine zf2 hi (h0 ?_)
        rintro ⟨j', k, a1, a2, a3, a4, a5⟩
        rw [hinj j' a1 a4] at a3
        exact hi (by rw [a5]; exact pl_in a3 (by omega))
  · refine zf2 hp (h0 ?_)
    rintro ⟨j', k, a1, a2, a3, a4, a5⟩
    exact hp ((blk_of hS.2.1).mpr ⟨j', a1, a4⟩)
theorem m_isColumn {Q : Int32 → MM → Prop} {M : MM} {R : Nat → Nat} {σ : SS} {x i : Int32} (hS : okS R σ) (hm : mdT M 0 σ) (h1 : colP σ x i → Q 1 M) (h0 : ¬ colP σ x i → Q 0 M) : wX5_isColumn Q M x i := by
  unfold wX5_isColumn wX5_isColumn_43
  refine m_isBlock hm.2.1 ?_
  by_cases hp : (0 : Int32) ≤ x ∧ x ≤ nI (sN σ) - 1
  · refine zt2 hp ?_
    obtain ⟨j, hj, rfl⟩ := (blk_of hS.2.1).mp hp
    have hz := hS.z12 j hj
    have h12 := hS.2.1
    have hinj : ∀ j', j' < sN σ → nI j = nI j' → j' = j := fun j' hj' e => ((nI_eq (by omega) (by omega)).mp e).symm
    rw [show (13 : Int32) = nI 13 from rfl, nI_add, clamp_nI (by omega), mZ hm hj]
    refine ⟨v53 (by omega), ?_⟩
    by_cases hz0 : sZ σ j = 0
    · refine br_t (by rw [hz0]; decide) (h0 ?_)
      rintro ⟨j', k, a1, a2, a3, a4, a5⟩
      rw [hinj j' a1 a4] at a2; exact a2 hz0
    · refine br_f (nI_nle (by omega) (by omega)) ⟨v53 (by omega), m_in32 0 _ rfl rfl ?_⟩
      by_cases hi : (0 : Int32) ≤ i ∧ i ≤ nI (sZ σ j)
      · obtain ⟨k, hk, rfl⟩ := pl_of (by omega) hi
        exact zt2 hi (h1 ⟨j, k, hj, hz0, hk, rfl, rfl⟩)
      · refine zf2 hi (h0 ?_)
        rintro ⟨j', k, a1, a2, a3, a4, a5⟩
        rw [hinj j' a1 a4] at a3
        exact hi (by rw [a5]; exact pl_in a3 (by omega))
  · refine zf2 hp (h0 ?_)
    rintro ⟨j', k, a1, a2, a3, a4, a5⟩
    exact hp ((blk_of hS.2.1).mpr ⟨j', a1, a4⟩)
theorem o_t1 {A B : Prop} (b : B) : ((1 : Int32) = 0 → A) ∧ (¬ (1 : Int32) = 0 → B) := ⟨fun q => absurd q (by decide), fun _ => b⟩
theorem o_t0 {A B : Prop} (a : A) : ((0 : Int32) = 0 → A) ∧ (¬ (0 : Int32) = 0 → B) := ⟨fun _ => a, fun q => absurd rfl q⟩
theorem o_n1 {A B : Prop} (a : A) : (¬ (1 : Int32) = 0 → A) ∧ ((1 : Int32) = 0 → B) := ⟨fun _ => a, fun q => absurd q (by decide)⟩
theorem o_n0 {A B : Prop} (b : B) : (¬ (0 : Int32) = 0 → A) ∧ ((0 : Int32) = 0 → B) := ⟨fun q => absurd rfl q, fun _ => b⟩
theorem L_column {M : MM} (h : Rel M) (x i : Int32) : wX4_column (fun r M1 => wX5_column (PQ r) M1 x i) M x i := by
  obtain ⟨R, σ, hR, hS, hc, hm, hr, him, hsh, htx⟩ := id h
  have hb : tpB 1 := Or.inl rfl
  unfold wX4_column
  refine s_hasColumn hb hS hc (fun hp => o_t1 ?_) (fun hp => o_t0 ?_)
  · obtain ⟨j, k, a1, a2, a3, rfl, rfl⟩ := id hp
    refine s_columnOf hb hS hc a1 a3 ?_
    unfold wX5_column
    exact m_isColumn hS hm (fun _ => o_t1 (m_columnOf hS hm a1 a3 ⟨rfl, h⟩)) (fun q => absurd hp q)
  · unfold wX5_column
    exact m_isColumn hS hm (fun q => absurd q hp) (fun _ => o_t0 ⟨rfl, h⟩)
-- ===== holds, most =====
def rfN (R : Nat → Nat) (L n : Nat) : Nat := L / (R 6 + lgN R n)
theorem s_roomFor {Q : Int32 → MM → Prop} {M : MM} {b n : Nat} {R : Nat → Nat} {σ : SS} (hb : tpB b) (hR : okR R) (hS : okS R σ) (hc : clT M b R σ) (hn : n ≤ 99) (hq : Q (nI (rfN R (sL σ) n)) M) : wX2_roomFor Q M b (nI n) := by
  unfold wX2_roomFor
  have hl := lgN_le hR hn
  have h6 := hR.2.2.2.2.1
  have hL := hS.1.2
  refine s_ruled hb 6 (by omega) rfl (s_longWith hb hR hc hn ?_)
  rw [hc.1.2 6 (by omega) (by omega), nI_add]
  refine br_t (show nI 1 ≤ nI (R 6 + lgN R n) from nI_le (by omega) (by omega)) (s_ruled hb 0 (by omega) rfl ⟨fun q => ?_, ?_⟩)
  · have := (nI_eq (b := 0) (by omega) (by omega)).mp q; omega
  · rw [hc.1.1, pk_div (by omega) (by omega) (by omega)]; exact hq
theorem m_holdsOf {Q : Int32 → MM → Prop} {M : MM} {n : Nat} {R : Nat → Nat} {σ : SS} (hR : okR R) (hS : okS R σ) (hr : rlT M R) (hm : mdT M 0 σ) (hn : n ≤ 99) (hq : Q (nI (rfN R (sL σ) n)) M) : wX5_holdsOf Q M (nI n) := by
  unfold wX5_holdsOf
  have hl := lgN_le hR hn
  have h6 := hR.2.2.2.2.1
  have hL := hS.1.2
  refine m_longOf hR hr hn ?_
  rw [hr 6 (by omega) (by omega), nI_add]
  refine ⟨fun q => ?_, ?_⟩
  · have := (nI_eq (b := 0) (by omega) (by omega)).mp q; omega
  · rw [show M 53 366 = nI (sL σ) from hm.1, pk_div (by omega) (by omega) (by omega)]; exact hq
theorem L_holds {M : MM} (h : Rel M) (x : Int32) : wX4_holds (fun r M1 => wX5_holds (PQ r) M1 x) M x := by
  obtain ⟨R, σ, hR, hS, hc, hm, hr, him, hsh, htx⟩ := id h
  have hb : tpB 1 := Or.inl rfl
  unfold wX4_holds
  refine s_isBetween.mpr ?_
  by_cases hp : (1 : Int32) ≤ x ∧ x ≤ 99
  · obtain ⟨n, hn, rfl⟩ := pl_of (L := 99) (by omega) ⟨Int32.le_trans (by decide) hp.1, hp.2⟩
    refine zt2 hp (s_roomFor hb hR hS hc hn ?_)
    unfold wX5_holds
    exact m_in32 1 99 rfl rfl (zt2 hp (m_holdsOf hR hS hr hm hn ⟨rfl, h⟩))
  · refine zf2 hp ?_
    unfold wX5_holds
    exact m_in32 1 99 rfl rfl (zf2 hp ⟨rfl, h⟩)
/-- the best n up to k, by bytes that fit -/
def bsN (R : Nat → Nat) (L : Nat) : Nat → Nat
  | 0 => 1
  | k + 1 => if k + 1 ≤ 1 then 1 else if bsN R L k * rfN R L (bsN R L k) < (k + 1) * rfN R L (k + 1) then k + 1 else bsN R L k
theorem bsN_in (R : Nat → Nat) (L : Nat) : ∀ k, 1 ≤ bsN R L k ∧ bsN R L k ≤ max 1 k := by
  intro k
  induction k with
  | zero => exact ⟨Nat.le_refl _, Nat.le_max_left _ _⟩
  | succ k ih =>
    rw [bsN]
    split
    · omega
    · split <;> omega
theorem rfN_le {R : Nat → Nat} {L n : Nat} (hL : L ≤ 9999) : rfN R L n ≤ 9999 := Nat.le_trans (Nat.div_le_self _ _) hL
theorem s_most {Q : Int32 → MM → Prop} {M : MM} {w : Int32} {R : Nat → Nat} {σ : SS} (hR : okR R) (hS : okS R σ) (hc : clT M 1 R σ) (hq : Q (if w = 0 then nI (bsN R (sL σ) 99) else nI (bsN R (sL σ) 99 * rfN R (sL σ) (bsN R (sL σ) 99))) M) : ∀ k i, i + k = 99 → 1 ≤ i → wX4_most_25 Q w (k + 1) M (nI (bsN R (sL σ) i)) (nI (bsN R (sL σ) i * rfN R (sL σ) (bsN R (sL σ) i))) (nI (i + 1)) := by
  have hb : tpB 1 := Or.inl rfl
  have hL := hS.1.2
  intro k
  induction k with
  | zero =>
    intro i hi h1
    have : i = 99 := by omega
    subst this
    refine br_t (by decide +kernel) ?_
    by_cases hw : w = 0
    · rw [if_pos hw] at hq; exact br_nt hw hq
    · rw [if_neg hw] at hq; exact br_nf hw hq
  | succ k ih =>
    intro i hi h1
    refine br_f (fun q => ?_) (s_roomFor hb hR hS hc (by omega) ?_)
    · have := (nI_ltI (a := 99) (by omega) (by omega)).mp q; omega
    · have b1 := bsN_in R (sL σ) i
      have b2 := rfN_le (R := R) (n := bsN R (sL σ) i) hL
      have b3 := rfN_le (R := R) (n := i + 1) hL
      have b4 : bsN R (sL σ) i * rfN R (sL σ) (bsN R (sL σ) i) ≤ 99 * 9999 := Nat.mul_le_mul (by omega) b2
      have b5 : (i + 1) * rfN R (sL σ) (i + 1) ≤ 99 * 9999 := Nat.mul_le_mul (by omega) b3
      rw [pk_mul, nI_leI (by omega) (by omega)]
      unfold wX4_most_58
      have e : bsN R (sL σ) (i + 1) = if bsN R (sL σ) i * rfN R (sL σ) (bsN R (sL σ) i) < (i + 1) * rfN R (sL σ) (i + 1) then i + 1 else bsN R (sL σ) i := by rw [bsN, if_neg (by omega)]
      have g := ih (i + 1) (by omega) (by omega)
      rw [e] at g
      rw [nI_1]
      by_cases c : bsN R (sL σ) i * rfN R (sL σ) (bsN R (sL σ) i) < (i + 1) * rfN R (sL σ) (i + 1)
      · rw [if_pos c] at g
        exact br_f (by omega) g
      · rw [if_neg c] at g
        exact br_t (by omega) g
theorem m_most {Q : Int32 → MM → Prop} {M : MM} {w : Int32} {R : Nat → Nat} {σ : SS} (hR : okR R) (hS : okS R σ) (hr : rlT M R) (hm : mdT M 0 σ) (hq : Q (if w = 0 then nI (bsN R (sL σ) 99) else nI (bsN R (sL σ) 99 * rfN R (sL σ) (bsN R (sL σ) 99))) M) : ∀ k i, i + k = 99 → 1 ≤ i → wX5_most_16 Q w (k + 1) M (nI (bsN R (sL σ) i)) (nI (i + 1)) := by
  have hL := hS.1.2
  intro k
  induction k with
  | zero =>
    intro i hi h1
    have : i = 99 := by omega
    subst this
    refine br_t (by decide +kernel) ?_
    by_cases hw : w = 0
    · rw [if_pos hw] at hq; exact br_nt hw hq
    · rw [if_neg hw] at hq
      refine br_nf hw (m_holdsOf hR hS hr hm (by have := bsN_in R (sL σ) 99; omega) ?_)
      rw [pk_mul]; exact hq
  | succ k ih =>
    intro i hi h1
    have b1 := bsN_in R (sL σ) i
    refine br_f (fun q => ?_) (m_holdsOf hR hS hr hm (by omega) (m_holdsOf hR hS hr hm (by omega) ?_))
    · have := (nI_leI (a := 100) (by omega) (by omega)).mp q; omega
    · have b2 := rfN_le (R := R) (n := bsN R (sL σ) i) hL
      have b3 := rfN_le (R := R) (n := i + 1) hL
      have b4 : bsN R (sL σ) i * rfN R (sL σ) (bsN R (sL σ) i) ≤ 99 * 9999 := Nat.mul_le_mul (by omega) b2
      have b5 : (i + 1) * rfN R (sL σ) (i + 1) ≤ 99 * 9999 := Nat.mul_le_mul (by omega) b3
      rw [pk_mul, pk_mul, nI_leI (by omega) (by omega)]
      unfold wX5_most_44
      have e : bsN R (sL σ) (i + 1) = if bsN R (sL σ) i * rfN R (sL σ) (bsN R (sL σ) i) < (i + 1) * rfN R (sL σ) (i + 1) then i + 1 else bsN R (sL σ) i := by rw [bsN, if_neg (by omega)]
      have g := ih (i + 1) (by omega) (by omega)
      rw [e] at g
      rw [nI_1]
      by_cases c : bsN R (sL σ) i * rfN R (sL σ) (bsN R (sL σ) i) < (i + 1) * rfN R (sL σ) (i + 1)
      · rw [if_pos c] at g
        exact br_f (by omega) g
      · rw [if_neg c] at g
        exact br_t (by omega) g
theorem L_most {M : MM} (h : Rel M) (x : Int32) : wX4_most (fun r M1 => wX5_most (PQ r) M1 x) M x := by
  obtain ⟨R, σ, hR, hS, hc, hm, hr, him, hsh, htx⟩ := id h
  have hb : tpB 1 := Or.inl rfl
  unfold wX4_most
  refine s_isBetween.mpr ?_
  by_cases hp : (0 : Int32) ≤ x ∧ x ≤ 1
  · refine zt1 hp (s_roomFor (n := 1) hb hR hS hc (by omega) ⟨99, ?_⟩)
    have g : ∀ Q : Int32 → MM → Prop, Q (if x = 0 then nI (bsN R (sL σ) 99) else nI (bsN R (sL σ) 99 * rfN R (sL σ) (bsN R (sL σ) 99))) M → wX4_most_25 Q x 99 M (nI 1) (nI (rfN R (sL σ) 1)) (nI 2) := by
      intro Q hq
      have := s_most hR hS hc hq 98 1 (by omega) (by omega)
      have e : bsN R (sL σ) 1 = 1 := rfl
      rw [e, Nat.one_mul] at this
      exact this
    refine g _ ?_
    unfold wX5_most
    refine m_in32 0 1 rfl rfl (zt1 hp ⟨99, ?_⟩)
    have := m_most (Q := PQ (if x = 0 then nI (bsN R (sL σ) 99) else nI (bsN R (sL σ) 99 * rfN R (sL σ) (bsN R (sL σ) 99)))) hR hS hr hm ⟨rfl, h⟩ 98 1 (by omega) (by omega)
    exact this
  · refine zf1 hp ?_
    unfold wX5_most
    exact m_in32 0 1 rfl rfl (zf1 hp ⟨rfl, h⟩)
