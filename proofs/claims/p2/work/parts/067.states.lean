-- ===== state =====
def loP (σ : SS) (o : Option Nat) (j : Nat) : Nat := if rdN σ j o = 3 then 1 else 0
def meP (σ : SS) (o : Option Nat) (j : Nat) : Nat := if rdN σ j o = 1 ∨ rdN σ j o = 2 then 1 else 0
def ofN (σ : SS) (j : Nat) (o : Option Nat) : Nat → Nat
  | 0 => 0
  | k + 1 => if ofN σ j o k = 1 then 1 else if byN σ j o k = sO σ (j * 12 + k) then 0 else 1
def foP (σ : SS) (o : Option Nat) (j : Nat) : Nat := if rdN σ j o = 3 then 0 else ofN σ j o (sZ σ j)
theorem ofN_le (σ : SS) (j : Nat) (o : Option Nat) : ∀ k, ofN σ j o k ≤ 1 := by
  intro k
  cases k with
  | zero => exact (by decide : 0 ≤ 1)
  | succ k => rw [ofN]; exact ite_le (by omega) (ite_le (by omega) (by omega))
theorem ofN_1 (σ : SS) (j : Nat) (o : Option Nat) {i : Nat} (h : ofN σ j o i = 1) : ∀ k, i ≤ k → ofN σ j o k = 1 := by
  intro k hk
  induction hk with
  | refl => exact h
  | step _ ih => rw [ofN, if_pos ih]
theorem loP_le (σ : SS) (o : Option Nat) (j : Nat) : loP σ o j ≤ 1 := ite_le (by omega) (by omega)
theorem meP_le (σ : SS) (o : Option Nat) (j : Nat) : meP σ o j ≤ 1 := ite_le (by omega) (by omega)
theorem foP_le (σ : SS) (o : Option Nat) (j : Nat) : foP σ o j ≤ 1 := ite_le (by omega) (ofN_le _ _ _ _)
theorem byN_lt (σ : SS) (j : Nat) (o : Option Nat) (i : Nat) : byN σ j o i < 256 := Nat.mod_lt _ (by decide)
theorem s_originalOf {Q : Int32 → MM → Prop} {M : MM} {b j i : Nat} {R : Nat → Nat} {σ : SS} (hb : tpB b) (hS : okS R σ) (hc : clT M b R σ) (hj : j < sN σ) (hi : i < sZ σ j) (hq : Q (nI (sO σ (j * 12 + i))) M) : wX2_originalOf Q M b (nI j) (nI i) := by
  unfold wX2_originalOf
  have h12 := hS.2.1
  have hz := hS.z12 j hj
  rw [show (12 : Int32) = nI 12 from rfl, pk_mul, nI_add]
  refine s_cell (by rw [(alen_tp hb).2.2.2.2.1]; omega) (by rw [(alen_tp hb).2.2.2.2.1]; decide) ?_
  rw [hc.2.2.2.2.2.2.1 j hj i hi]; exact hq
theorem s_isReadAsWritten {Q : Int32 → MM → Prop} {M : MM} {b j : Nat} {o : Option Nat} {R : Nat → Nat} {σ : SS} (hb : tpB b) (hS : okS R σ) (hc : clT M b R σ) (hj : j < sN σ) (ho : okT o) (hd : sD σ = tI o) (hq : Q (nI (1 - ofN σ j o (sZ σ j))) M) : wX2_isReadAsWritten Q M b (nI j) := by
  have hz := hS.z12 j hj
  have loop : ∀ k i, i + k = sZ σ j → ofN σ j o i = 0 → wX2_isReadAsWritten_2 Q b (nI j) (k + 1) M (nI i) := by
    intro k
    induction k with
    | zero =>
      intro i hi h0
      have : i = sZ σ j := by omega
      subst this
      rw [h0] at hq
      exact s_sizeOf hb hc hS.2.1 hj (br_t (nI_le (Nat.le_refl _) (by omega)) hq)
    | succ k ih =>
      intro i hi h0
      refine s_sizeOf hb hc hS.2.1 hj (br_f (fun q => ?_) (s_byteAsRead hb hS hc hj (by omega) ho hd (s_originalOf hb hS hc hj (by omega) ?_)))
      · have := (nI_leI (by omega) (by omega)).mp q; omega
      have h1 := byN_lt σ j o i
      have h2 := hS.2.2.2.2.2.2.1 j hj i (by omega)
      rw [nI_eq (by omega) (by omega)]
      by_cases q : byN σ j o i = sO σ (j * 12 + i)
      · refine br_t q ?_
        rw [nI_1]
        exact ih (i + 1) (by omega) (by rw [ofN, if_neg (by omega), if_pos q])
      · refine br_f q ?_
        have : ofN σ j o (i + 1) = 1 := by rw [ofN, if_neg (by omega), if_neg q]
        rw [ofN_1 σ j o this _ (by omega)] at hq
        exact hq
  exact ⟨_, loop (sZ σ j) 0 (by omega) rfl⟩
theorem or_stp {v k x : Nat} (h : x ≤ 1) : (if x = 1 then v ||| 2 ^ k else v) = v ||| (if x = 1 then 2 ^ k else 0) := by
  by_cases q : x = 1
  · rw [if_pos q, if_pos q]
  · rw [if_neg q, if_neg q, Nat.or_zero]
theorem s_lost {Q : Int32 → MM → Prop} {M : MM} {o : Option Nat} {R : Nat → Nat} {σ : SS} (hS : okS R σ) (hc : clT M 1 R σ) (ho : okT o) (hq : Q (nI (orN (loP σ o) (sN σ))) M) : wX2_lostBlocksBy Q M 1 (tI o) := by
  have hb : tpB 1 := Or.inl rfl
  have h12 := hS.2.1
  have loop : ∀ k i, i + k = sN σ → wX2_lostBlocksBy_4 Q 1 (tI o) (k + 1) M (nI (orN (loP σ o) i)) (nI i) := by
    intro k
    induction k with
    | zero =>
      intro i hi
      have : i = sN σ := by omega
      subst this
      exact br_t (by rw [hc.2.1]; exact nI_le (Nat.le_refl _) (by omega)) hq
    | succ k ih =>
      intro i hi
      refine br_f (fun q => ?_) (s_readingOf hb hS hc (by omega) ho ?_)
      · rw [hc.2.1] at q
        have := (nI_leI (by omega) (by omega)).mp q; omega
      have g := ih (i + 1) (by omega)
      rw [orN] at g
      rw [rd3]
      unfold wX2_lostBlocksBy_28
      have e : loP σ o i = if rdN σ i o = 3 then 1 else 0 := rfl
      by_cases q : rdN σ i o = 3
      · rw [if_pos q] at e
        rw [e, if_pos rfl] at g
        refine br_nt q ?_
        rintro _ rfl
        rw [shl_1 i (by omega), nI_or, nI_1]; exact g
      · rw [if_neg q] at e
        rw [e, if_neg (by decide), Nat.or_zero] at g
        refine br_nf q ?_
        rw [nI_1]; exact g
  exact ⟨_, loop (sN σ) 0 (by omega)⟩
theorem s_fooled {Q : Int32 → MM → Prop} {M : MM} {o : Option Nat} {R : Nat → Nat} {σ : SS} (hS : okS R σ) (hc : clT M 1 R σ) (ho : okT o) (hd : sD σ = tI o) (hq : Q (nI (orN (foP σ o) (sN σ))) M) : wX2_fooledBlocks Q M 1 := by
  have hb : tpB 1 := Or.inl rfl
  have h12 := hS.2.1
  have e12 : M 1 12 = tI o := by rw [← hd]; exact hc.2.2.2.2.2.2.2.2.2.2.2.2
  have loop : ∀ k i, i + k = sN σ → wX2_fooledBlocks_4 Q 1 (k + 1) M (nI (orN (foP σ o) i)) (nI i) := by
    intro k
    induction k with
    | zero =>
      intro i hi
      have : i = sN σ := by omega
      subst this
      exact br_t (by rw [hc.2.1]; exact nI_le (Nat.le_refl _) (by omega)) hq
    | succ k ih =>
      intro i hi
      unfold wX2_fooledBlocks_4
      rw [e12]
      refine br_f (fun q => ?_) (s_readingOf hb hS hc (by omega) ho ?_)
      · rw [hc.2.1] at q
        have := (nI_leI (by omega) (by omega)).mp q; omega
      have g := ih (i + 1) (by omega)
      rw [orN] at g
      rw [rd3]
      unfold wX2_fooledBlocks_39
      have e : foP σ o i = if rdN σ i o = 3 then 0 else ofN σ i o (sZ σ i) := rfl
      by_cases q : rdN σ i o = 3
      · rw [if_pos q] at e
        rw [e, if_neg (by decide), Nat.or_zero] at g
        refine br_t q ?_
        rw [nI_1]; exact g
      · rw [if_neg q] at e
        refine br_f q (s_isReadAsWritten hb hS hc (by omega) ho hd ?_)
        have hf := ofN_le σ i o (sZ σ i)
        by_cases q2 : ofN σ i o (sZ σ i) = 1
        · rw [e, q2, if_pos rfl] at g
          rw [q2]
          refine br_nt rfl ?_
          rintro _ rfl
          rw [shl_1 i (by omega), nI_or, nI_1]; exact g
        · have q3 : ofN σ i o (sZ σ i) = 0 := by omega
          rw [e, q3, if_neg (by decide), Nat.or_zero] at g
          rw [q3]
          refine br_nf (by decide +kernel) ?_
          rw [nI_1]; exact g
  exact ⟨_, loop (sN σ) 0 (by omega)⟩
theorem s_mended {Q : Int32 → MM → Prop} {M : MM} {o : Option Nat} {R : Nat → Nat} {σ : SS} (hS : okS R σ) (hc : clT M 1 R σ) (ho : okT o) (hd : sD σ = tI o) (hq : Q (nI (orN (meP σ o) (sN σ))) M) : wX2_mendedBlocks Q M 1 := by
  have hb : tpB 1 := Or.inl rfl
  have h12 := hS.2.1
  have e12 : M 1 12 = tI o := by rw [← hd]; exact hc.2.2.2.2.2.2.2.2.2.2.2.2
  have loop : ∀ k i, i + k = sN σ → wX2_mendedBlocks_4 Q 1 (k + 1) M (nI (orN (meP σ o) i)) (nI i) := by
    intro k
    induction k with
    | zero =>
      intro i hi
      have : i = sN σ := by omega
      subst this
      exact br_t (by rw [hc.2.1]; exact nI_le (Nat.le_refl _) (by omega)) hq
    | succ k ih =>
      intro i hi
      unfold wX2_mendedBlocks_4
      rw [e12]
      refine br_f (fun q => ?_) (s_readingOf hb hS hc (by omega) ho ?_)
      · rw [hc.2.1] at q
        have := (nI_leI (by omega) (by omega)).mp q; omega
      have g := ih (i + 1) (by omega)
      rw [orN] at g
      have h3 : rdN σ i o ≤ 3 := rdF_le _ _ _
      rw [n1, n2, nI_eq (by omega) (by omega), nI_eq (by omega) (by omega)]
      unfold wX2_mendedBlocks_32 wX2_mendedBlocks_38
      have e : meP σ o i = if rdN σ i o = 1 ∨ rdN σ i o = 2 then 1 else 0 := rfl
      by_cases q : rdN σ i o = 1 ∨ rdN σ i o = 2
      · rw [if_pos q] at e
        rw [e, if_pos rfl] at g
        rcases q with q | q
        · refine br_t q ?_
          rintro _ rfl
          rw [shl_1 i (by omega), nI_or, nI_1]; exact g
        · refine br_f (by omega) (br_nt q ?_)
          rintro _ rfl
          rw [shl_1 i (by omega), nI_or, nI_1]; exact g
      · rw [if_neg q] at e
        rw [e, if_neg (by decide), Nat.or_zero] at g
        refine br_f (by omega) (br_nf (by omega) ?_)
        rw [nI_1]; exact g
  exact ⟨_, loop (sN σ) 0 (by omega)⟩
-- the reference
theorem m_isFooled {Q : Int32 → MM → Prop} {M : MM} {j : Nat} {o : Option Nat} {R : Nat → Nat} {σ : SS} (hS : okS R σ) (hm : mdT M 0 σ) (hj : j < sN σ) (ho : okT o) (hd : sD σ = tI o) (hq : ∀ M', (∀ a, a ≠ 61 → M' a = M a) → Q (nI (foP σ o j)) M') : wX5_isFooled Q M (nI j) := by
  have hz := hS.z12 j hj
  have h12 := hS.2.1
  have m12 : M 53 340 = tI o := by rw [← hd]; exact hm.2.2.2.2.2.2.2.2.2.2.2.2
  unfold wX5_isFooled
  rw [m12]
  refine m_reading hS hm hj ho (fun M' hk hg => ?_)
  have hm' : mdT M' 0 σ := hm.keep (hk 53 (by decide))
  have hq' := hq M' hk
  have i181 : ∀ i, ((181 : Int32) + ((12 : Int32) * nI j)) + nI i = nI (181 + (j * 12 + i)) := by
    intro i
    rw [show (12 : Int32) = nI 12 from rfl, show (181 : Int32) = nI 181 from rfl, pk_mul, nI_add, nI_add]; congr 1; omega
  rw [rd3]
  unfold foP at hq'
  by_cases q3 : rdN σ j o = 3
  · rw [if_pos q3] at hq'
    have loop : ∀ k i v, i + k = sZ σ j → wX5_isFooled_28 Q (nI j) (k + 1) M' v 1 (nI i) := by
      intro k
      induction k with
      | zero =>
        intro i v hi
        have : i = sZ σ j := by omega
        subst this
        unfold wX5_isFooled_28
        rw [e13, clamp_nI (n := 13 + j) (by omega), mZ hm' hj]
        refine ⟨v53 (by omega), br_t (nI_le (Nat.le_refl _) (by omega)) ?_⟩
        unfold wX5_isFooled_100
        exact ⟨fun _ => hq', fun _ => br_nf (by decide) hq'⟩
      | succ k ih =>
        intro i v hi
        unfold wX5_isFooled_28
        rw [e13, clamp_nI (n := 13 + j) (by omega), mZ hm' hj]
        refine ⟨v53 (by omega), br_f (fun q => ?_) ?_⟩
        · have := (nI_leI (by omega) (by omega)).mp q; omega
        rw [i181]
        unfold wX5_isFooled_76 wX5_isFooled_81
        rw [nI_1]
        exact ⟨fun _ => ih (i + 1) _ (by omega), fun _ => ⟨v61 (by omega), v53 (by omega), fun _ => ih (i + 1) _ (by omega), fun _ => ih (i + 1) _ (by omega)⟩⟩
    refine br_nt q3 ?_
    exact ⟨_, loop (sZ σ j) 0 _ (by omega)⟩
  · rw [if_neg q3] at hq'
    have loop : ∀ k i, i + k = sZ σ j → wX5_isFooled_28 Q (nI j) (k + 1) M' (nI (ofN σ j o i)) 0 (nI i) := by
      intro k
      induction k with
      | zero =>
        intro i hi
        have : i = sZ σ j := by omega
        subst this
        unfold wX5_isFooled_28
        rw [e13, clamp_nI (n := 13 + j) (by omega), mZ hm' hj]
        refine ⟨v53 (by omega), br_t (nI_le (Nat.le_refl _) (by omega)) ?_⟩
        unfold wX5_isFooled_100
        have hf := ofN_le σ j o (sZ σ j)
        by_cases q2 : ofN σ j o (sZ σ j) = 1
        · rw [q2] at hq' ⊢
          exact br_f (by decide +kernel) (br_nt rfl hq')
        · have q4 : ofN σ j o (sZ σ j) = 0 := by omega
          rw [q4] at hq' ⊢
          exact br_t rfl hq'
      | succ k ih =>
        intro i hi
        unfold wX5_isFooled_28
        rw [e13, clamp_nI (n := 13 + j) (by omega), mZ hm' hj]
        refine ⟨v53 (by omega), br_f (fun q => ?_) ?_⟩
        · have := (nI_leI (by omega) (by omega)).mp q; omega
        have g := ih (i + 1) (by omega)
        rw [ofN] at g
        have hf := ofN_le σ j o i
        unfold wX5_isFooled_76 wX5_isFooled_81
        rw [nI_1]
        by_cases q2 : ofN σ j o i = 1
        · rw [if_pos q2] at g
          rw [q2]
          exact br_nf (by decide +kernel) g
        · have q4 : ofN σ j o i = 0 := by omega
          rw [if_neg q2] at g
          rw [q4]
          refine br_nt rfl ?_
          have h1 := byN_lt σ j o i
          have h2 := hS.2.2.2.2.2.2.1 j hj i (by omega)
          rw [i181, clamp_nI (n := i) (by omega), clamp_nI (n := 181 + (j * 12 + i)) (by omega), mO hm' hj (by omega), hg q3 i (by omega), nI_eq (by omega) (by omega)]
          refine ⟨v61 (by omega), v53 (by omega), ?_⟩
          by_cases q5 : byN σ j o i = sO σ (j * 12 + i)
          · rw [if_pos q5] at g
            exact br_t q5 g
          · rw [if_neg q5] at g
            exact br_f q5 g
    refine br_nf q3 ?_
    exact ⟨_, loop (sZ σ j) 0 (by omega)⟩
