-- ===== a block read by the reference =====
theorem a61 : alen 61 = 12 := by decide +kernel
theorem v61 {n : Nat} (h : n < 12) : vp_in (nI n) (alen 61) := vp_nI (by rw [a61]; exact h) (by rw [a61]; decide)
theorem e13 (j : Nat) : (13 : Int32) + nI j = nI (13 + j) := nI_add 13 j
theorem m_across {Q : Int32 → MM → Prop} {M : MM} {j : Nat} {R : Nat → Nat} {σ : SS} (hS : okS R σ) (hm : mdT M 0 σ) (hj : j < sN σ) (hq : Q (nI (acN σ j (sZ σ j + 1))) M) : wX5_across Q M (nI j) := by
  have hz := hS.z12 j hj
  have h12 := hS.2.1
  have loop : ∀ k i, i + k = sZ σ j + 1 → wX5_across_4 Q (nI j) (k + 1) M (nI (acN σ j i)) (nI i) := by
    intro k
    induction k with
    | zero =>
      intro i hi
      have : i = sZ σ j + 1 := by omega
      subst this
      unfold wX5_across_4
      rw [e13, clamp_nI (by omega), mZ hm hj]
      exact ⟨v53 (by omega), br_t (nI_lt (by omega) (by omega)) hq⟩
    | succ k ih =>
      intro i hi
      unfold wX5_across_4
      rw [e13, clamp_nI (by omega), mZ hm hj]
      refine ⟨v53 (by omega), br_f (fun q => ?_) (m_columnOf hS hm hj (by omega) ?_)⟩
      · have := (nI_ltI (by omega) (by omega)).mp q; omega
      · rw [nI_xor, nI_1]
        exact ih (i + 1) (by omega)
  exact ⟨_, loop (sZ σ j + 1) 0 (by omega)⟩
def laN (σ : SS) (j : Nat) : Nat → Int32
  | 0 => -4
  | k + 1 => if wrN σ j k = 1 then nI k else laN σ j k
theorem al_zero {σ : SS} {j : Nat} : ∀ k, alN σ j k = 0 → ∀ i, i < k → wrN σ j i = 0 := by
  intro k
  induction k with
  | zero => intro _ i hi; omega
  | succ k ih =>
    intro h i hi
    rw [alN] at h
    by_cases e : i = k
    · subst e; omega
    · exact ih (by omega) i (by omega)
theorem al_one {σ : SS} {j : Nat} : ∀ k, alN σ j k = 1 → ∃ l, l < k ∧ laN σ j k = nI l ∧ wrN σ j l = 1 ∧ ∀ i, i < k → i ≠ l → wrN σ j i = 0 := by
  intro k
  induction k with
  | zero => intro h; exact absurd (show (0 : Nat) = 1 from h) (by decide)
  | succ k ih =>
    intro h
    rw [alN] at h
    by_cases e : wrN σ j k = 1
    · refine ⟨k, by omega, by rw [laN, if_pos e], e, fun i hi hne => ?_⟩
      exact al_zero k (by omega) i (by omega)
    · have := wrN_le σ j k
      obtain ⟨l, a1, a2, a3, a4⟩ := ih (by omega)
      refine ⟨l, by omega, by rw [laN, if_neg e]; exact a2, a3, fun i hi hne => ?_⟩
      by_cases e2 : i = k
      · subst e2; omega
      · exact a4 i (by omega) hne
def fcN (σ : SS) (j : Nat) (o : Option Nat) (i : Nat) : Nat := if wrN σ j i = 1 then sC σ (j * 13 + i) ^^^ fxN (crN σ j) o else sC σ (j * 13 + i)
theorem fcN_lt {R : Nat → Nat} {σ : SS} {o : Option Nat} (hS : okS R σ) (ho : okT o) {j i : Nat} (hj : j < sN σ) (hi : i ≤ sZ σ j) : fcN σ j o i < 512 := by
  have h5 := po9_lt hS hj hi
  have h6 := crN_lt hS hj
  have h7 : fxN (crN σ j) o < 2 ^ 9 := by
    cases o with
    | none => exact h6
    | some t =>
      have ht : t < 9 := ho
      exact Nat.pow_lt_pow_right (by omega) ht
  unfold fcN
  split
  · exact Nat.xor_lt_two_pow (n := 9) h5 h7
  · exact h5
theorem m_odd_wr {Q : Int32 → MM → Prop} {M : MM} {σ : SS} {j i : Nat} (h : sC σ (j * 13 + i) < 512) (h1 : wrN σ j i = 1 → Q 0 M) (h0 : wrN σ j i = 0 → Q 1 M) : wX5_odd Q M (nI (sC σ (j * 13 + i))) := by
  refine m_odd (by omega) ?_
  unfold wrN at h1 h0
  by_cases q : poN (sC σ (j * 13 + i)) 9 % 2 = 0
  · rw [q]; exact h1 (if_pos q)
  · have : poN (sC σ (j * 13 + i)) 9 % 2 = 1 := by omega
    rw [this]; exact h0 (if_neg q)
theorem m_reading {Q : Int32 → MM → Prop} {M : MM} {j : Nat} {o : Option Nat} {R : Nat → Nat} {σ : SS} (hS : okS R σ) (hm : mdT M 0 σ) (hj : j < sN σ) (ho : okT o) (hq : ∀ M', (∀ a, a ≠ 61 → M' a = M a) → (rdN σ j o ≠ 3 → ∀ i, i < sZ σ j → M' 61 i &&& 255 = nI (byN σ j o i)) → Q (nI (rdN σ j o)) M') : wX5_reading Q M (nI j) (tI o) := by
  have hz := hS.z12 j hj
  have h12 := hS.2.1
  have ha := alN_le σ j (sZ σ j)
  have hac := crN_lt hS hj
  -- the bytes as they lie
  have bys : ∀ M' : MM, (∀ i, i < sZ σ j → M' 61 i = nI (fcN σ j o i)) → ∀ i, i < sZ σ j → M' 61 i &&& 255 = nI (byN σ j o i) := by
    intro M' h i hi
    have := fcN_lt hS ho hj (show i ≤ sZ σ j by omega)
    rw [h i hi, pk_andN (m := 255) (by omega) 8 rfl]
    rfl
  have fin : ¬ (alN σ j (sZ σ j) = 0 ∧ crN σ j = 0) → ∀ M', (∀ a, a ≠ 61 → M' a = M a) → (∀ i, i < sZ σ j → M' 61 i = nI (sC σ (j * 13 + i))) → wX5_reading_93 Q (nI j) (tI o) M' (nI (sZ σ j)) (nI (crN σ j)) (nI (alN σ j (sZ σ j))) (laN σ j (sZ σ j)) := by
    intro hne M' hk hi
    unfold wX5_reading_93
    cases o with
    | none =>
      refine br_t rfl (m_onesOf (by omega) ?_)
      have p9 := poN_le (crN σ j) 9
      rw [n1, nI_eq (by omega) (by omega), nI_leI (by omega) (by omega), nI_eq (by omega) (by omega)]
      have er : rdN σ j none = if alN σ j (sZ σ j) ≤ 1 ∧ poN (crN σ j) 9 = 1 then 1 else 3 := by
        unfold rdN rdF
        dsimp only
        rw [if_neg hne]
      rw [er] at hq
      by_cases q : poN (crN σ j) 9 = 1
      · refine br_nt q ?_
        by_cases q1 : alN σ j (sZ σ j) ≤ 1
        · rw [if_pos ⟨q1, q⟩] at hq
          refine br_t q1 ?_
          by_cases q2 : alN σ j (sZ σ j) = 1
          · refine br_nt q2 ?_
            obtain ⟨l, a1, a2, a3, a4⟩ := al_one _ q2
            rw [a2, clamp_nI (by omega)]
            refine ⟨v61 (by omega), v61 (by omega), ?_⟩
            rintro _ rfl
            refine hq _ (fun a h => by rw [mset_n h]; exact hk a h) (fun _ => bys _ (fun i h => ?_))
            unfold fcN
            by_cases e : i = l
            · subst e
              rw [mset_ss, if_pos a3, hi i h, nI_xor]; rfl
            · rw [mset_sn e, if_neg (by rw [a4 i h e]; decide)]; exact hi i h
          · refine br_nf q2 (hq _ hk (fun _ => bys _ (fun i h => ?_)))
            unfold fcN
            rw [if_neg (by rw [al_zero _ (show alN σ j (sZ σ j) = 0 by omega) i h]; decide)]
            exact hi i h
        · rw [if_neg (fun e => q1 e.1)] at hq
          exact br_f q1 (hq _ hk (fun e => absurd rfl e))
      · rw [if_neg (fun e => q e.2)] at hq
        exact br_nf q (hq _ hk (fun e => absurd rfl e))
    | some t =>
      have ht : t < 9 := ho
      have hp : 2 ^ t ≤ 2 ^ 8 := Nat.pow_le_pow_right (by omega) (by omega)
      refine br_f (nI_n4 (by omega)) ?_
      have er : rdN σ j (some t) = if crN σ j = (if alN σ j (sZ σ j) % 2 = 1 then 2 ^ t else 0) then 2 else 3 := by
        unfold rdN rdF
        dsimp only
        rw [if_neg hne]
      rw [er] at hq
      have loop : ∀ k i (M' : MM), i + k = sZ σ j → (∀ a, a ≠ 61 → M' a = M a) → (∀ i', i' < i → M' 61 i' = nI (fcN σ j (some t) i')) → (∀ i', i ≤ i' → i' < sZ σ j → M' 61 i' = nI (sC σ (j * 13 + i'))) → wX5_reading_102 Q (nI j) (tI (some t)) (k + 1) M' (nI (sZ σ j)) (nI (crN σ j)) (nI (alN σ j (sZ σ j))) (nI i) := by
        intro k
        induction k with
        | zero =>
          intro i M' hi2 hk2 g1 g2
          have : i = sZ σ j := by omega
          subst this
          refine br_t (nI_le (Nat.le_refl _) (by omega)) ?_
          rw [n2, pk_rem (by omega) (by omega) (by omega), n1, nI_eq (by omega) (by omega)]
          unfold wX5_reading_161
          show (¬ _ → (¬ nI (crN σ j) = 0 → _) ∧ (nI (crN σ j) = 0 → _)) ∧ (_ → (¬ nI (crN σ j) = ((1 : Int32) <<< (nI t &&& 31)) → _) ∧ (nI (crN σ j) = ((1 : Int32) <<< (nI t &&& 31)) → _))
          rw [shl_1 t (by omega), show (0 : Int32) = nI 0 from rfl, nI_eq (by omega) (by omega), nI_eq (by omega) (by omega)]
          by_cases q : alN σ j (sZ σ j) % 2 = 1
          · rw [if_pos q] at hq
            refine br_nt q ?_
            by_cases q2 : crN σ j = 2 ^ t
            · rw [if_pos q2] at hq
              exact br_nt q2 (hq _ hk2 (fun _ => bys _ g1))
            · rw [if_neg q2] at hq
              exact br_nf q2 (hq _ hk2 (fun e => absurd rfl e))
          · rw [if_neg q] at hq
            refine br_nf q ?_
            by_cases q2 : crN σ j = 0
            · rw [if_pos q2] at hq
              exact br_nt q2 (hq _ hk2 (fun _ => bys _ g1))
            · rw [if_neg q2] at hq
              exact br_nf q2 (hq _ hk2 (fun e => absurd rfl e))
        | succ k ih =>
          intro i M' hi2 hk2 g1 g2
          refine br_f (fun q => ?_) ⟨v61 (by omega), v61 (by omega), ?_⟩
          · have := (nI_leI (by omega) (by omega)).mp q; omega
          rw [clamp_nI (by omega), g2 i (Nat.le_refl _) (by omega)]
          have nx : ∀ v : Nat, v = fcN σ j (some t) i → wX5_reading_102 Q (nI j) (tI (some t)) (k + 1) (mset M' 61 i (nI v)) (nI (sZ σ j)) (nI (crN σ j)) (nI (alN σ j (sZ σ j))) (nI i + 1) := by
            intro v hv
            rw [nI_1]
            refine ih (i + 1) _ (by omega) (fun a h => by rw [mset_n h]; exact hk2 a h) (fun i' h => ?_) (fun i' h1 h2 => ?_)
            · by_cases e : i' = i
              · subst e; rw [mset_ss, hv]
              · rw [mset_sn e]; exact g1 i' (by omega)
            · rw [mset_sn (by omega)]; exact g2 i' (by omega) h2
          refine m_odd_wr (po9_lt hS hj (by omega)) (fun w => br_nt rfl ?_) (fun w => br_nf (by decide) ?_)
          · unfold wX5_reading_136
            refine ⟨v61 (by omega), ?_⟩
            rintro _ rfl
            show wX5_reading_102 Q (nI j) (tI (some t)) (k + 1) (mset M' 61 (nI i).toNatClampNeg (nI (sC σ (j * 13 + i)) ^^^ ((1 : Int32) <<< (nI t &&& 31)))) _ _ _ (nI i + 1)
            rw [clamp_nI (by omega), shl_1 t (by omega), nI_xor]
            exact nx _ (by unfold fcN; rw [if_pos w]; rfl)
          · unfold wX5_reading_136
            refine ⟨v61 (by omega), ?_⟩
            rintro _ rfl
            show wX5_reading_102 Q (nI j) (tI (some t)) (k + 1) (mset M' 61 (nI i).toNatClampNeg (nI (sC σ (j * 13 + i)) ^^^ nI 0)) _ _ _ (nI i + 1)
            rw [clamp_nI (by omega), nI_xor, Nat.xor_zero]
            exact nx _ (by unfold fcN; rw [if_neg (by rw [w]; decide)])
      exact ⟨_, loop (sZ σ j) 0 M' (by omega) hk (fun _ h => by omega) (fun i' _ h => hi i' h)⟩
  have first : ∀ k i (M' : MM), i + k = sZ σ j → (∀ a, a ≠ 61 → M' a = M a) → (∀ i', i' < i → M' 61 i' = nI (sC σ (j * 13 + i'))) → wX5_reading_35 Q (nI j) (tI o) (k + 1) M' (nI (sZ σ j)) (nI (crN σ j)) (nI (alN σ j i)) (laN σ j i) (nI i) := by
    intro k
    induction k with
    | zero =>
      intro i M' hi2 hk2 g
      have : i = sZ σ j := by omega
      subst this
      refine br_t (nI_le (Nat.le_refl _) (by omega)) ?_
      rw [show (0 : Int32) = nI 0 from rfl, nI_eq (by omega) (by omega), nI_eq (by omega) (by omega)]
      by_cases h0 : alN σ j (sZ σ j) = 0
      · refine br_nt h0 ?_
        by_cases h1 : crN σ j = 0
        · have e : rdN σ j o = 0 := by
            cases o with
            | none => exact if_pos ⟨h0, h1⟩
            | some t => exact if_pos ⟨h0, h1⟩
          rw [e] at hq
          refine br_nt h1 (hq _ hk2 (fun _ => bys _ (fun i h => ?_)))
          unfold fcN
          rw [if_neg (by rw [al_zero _ h0 i h]; decide)]
          exact g i h
        · exact br_nf h1 (fin (fun q => h1 q.2) M' hk2 g)
      · exact br_nf h0 (fin (fun q => h0 q.1) M' hk2 g)
    | succ k ih =>
      intro i M' hi2 hk2 g
      refine br_f (fun q => ?_) (m_columnOf hS (hm.keep (hk2 53 (by decide))) hj (by omega) ⟨v61 (by omega), ?_⟩)
      · have := (nI_leI (by omega) (by omega)).mp q; omega
      rw [clamp_nI (by omega)]
      rintro _ rfl
      refine ⟨v61 (by omega), ?_⟩
      rw [mset_ss]
      have g2 := ih (i + 1) (mset M' 61 i (nI (sC σ (j * 13 + i)))) (by omega) (fun a h => by rw [mset_n h]; exact hk2 a h) (fun i' h => by
        by_cases e : i' = i
        · subst e; rw [mset_ss]
        · rw [mset_sn e]; exact g i' (by omega))
      rw [alN, laN] at g2
      unfold wX5_reading_75
      refine m_odd_wr (po9_lt hS hj (by omega)) (fun w => br_nt rfl ?_) (fun w => br_nf (by decide) ?_)
      · rw [w, if_pos rfl] at g2
        rw [nI_1, nI_1]; exact g2
      · rw [w, if_neg (by decide)] at g2
        rw [nI_1]; exact g2
  unfold wX5_reading
  rw [e13, clamp_nI (by omega), mZ hm hj]
  refine ⟨v53 (by omega), ?_⟩
  rintro _ rfl
  rw [show (0 : Int32) = nI 0 from rfl, nI_eq (by omega) (by omega)]
  have st := first (sZ σ j) 0 M (by omega) (fun _ _ => rfl) (fun _ h => by omega)
  unfold wX5_reading_23
  by_cases h0 : sZ σ j = 0
  · have e : crN σ j = 0 := if_pos h0
    rw [e] at st
    exact br_nt h0 ⟨_, st⟩
  · have e : crN σ j = acN σ j (sZ σ j + 1) := if_neg h0
    refine br_nf h0 (m_across hS hm hj ?_)
    rw [← e]
    exact ⟨_, st⟩
