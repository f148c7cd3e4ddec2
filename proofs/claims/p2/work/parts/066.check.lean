-- ===== check, got =====
/-- only what is laid aside was written -/
theorem Rel.scr {M M' : MM} (h : Rel M) (hk : ∀ a, (a < 39 ∨ (44 ≤ a ∧ a < 60) ∨ 64 ≤ a) → M' a = M a) : Rel M' := by
  obtain ⟨R, σ, hR, hS, hc, hm, hr, him, hsh, htx⟩ := h
  refine Rel.step (σ' := σ) hR hS (hc.keep (fun i hi => hk _ (by omega))) (hm.keep (hk _ (by omega))) hr him hsh htx (fun k h => hk _ (by unfold keepP at h; omega)) (fun j _ => by rw [hk 53 (by omega)]) ?_
  rw [hk 52 (by omega)]; exact ⟨rfl, rfl, rfl⟩
theorem Rel.k61 {M M' : MM} (h : Rel M) (hk : ∀ a, a ≠ 61 → M' a = M a) : Rel M' := h.scr (fun a q => hk a (by omega))
theorem L_check {M : MM} (h : Rel M) (x : Int32) : wX4_check (fun r M1 => wX5_check (PQ r) M1 x) M x := by
  obtain ⟨R, σ, hR, hS, hc, hm, hr, him, hsh, htx⟩ := id h
  have hb : tpB 1 := Or.inl rfl
  obtain ⟨o, ho, hd⟩ := hS.dead
  have e12 : M 1 12 = tI o := by rw [← hd]; exact hc.2.2.2.2.2.2.2.2.2.2.2.2
  have m12 : M 53 340 = tI o := by rw [← hd]; exact hm.2.2.2.2.2.2.2.2.2.2.2.2
  unfold wX4_check
  refine s_hasBlock hc.2.1 ?_
  by_cases hp : (0 : Int32) ≤ x ∧ x ≤ nI (sN σ) - 1
  · refine zt2 hp ?_
    obtain ⟨j, hj, rfl⟩ := (blk_of hS.2.1).mp hp
    dsimp only
    rw [e12]
    refine s_readingOf hb hS hc hj ho ?_
    unfold wX5_check
    refine m_isBlock hm.2.1 (zt2 hp ?_)
    rw [m12]
    exact m_reading hS hm hj ho (fun M' hk _ => ⟨rfl, h.k61 hk⟩)
  · refine zf2 hp ?_
    unfold wX5_check
    exact m_isBlock hm.2.1 (zf2 hp ⟨rfl, h⟩)
theorem rd3 {σ : SS} {j : Nat} {o : Option Nat} : nI (rdN σ j o) = 3 ↔ rdN σ j o = 3 := by
  have : rdN σ j o ≤ 3 := rdF_le _ _ _
  exact nI_eq (b := 3) (by omega) (by omega)
theorem L_got {M : MM} (h : Rel M) (x i : Int32) : wX4_got (fun r M1 => wX5_got (PQ r) M1 x i) M x i := by
  obtain ⟨R, σ, hR, hS, hc, hm, hr, him, hsh, htx⟩ := id h
  have hb : tpB 1 := Or.inl rfl
  have h12 := hS.2.1
  obtain ⟨o, ho, hd⟩ := hS.dead
  have e12 : M 1 12 = tI o := by rw [← hd]; exact hc.2.2.2.2.2.2.2.2.2.2.2.2
  have m12 : M 53 340 = tI o := by rw [← hd]; exact hm.2.2.2.2.2.2.2.2.2.2.2.2
  unfold wX4_got
  refine s_hasBlock hc.2.1 ?_
  by_cases hp : (0 : Int32) ≤ x ∧ x ≤ nI (sN σ) - 1
  · refine zt2 hp ?_
    obtain ⟨j, hj, rfl⟩ := (blk_of hS.2.1).mp hp
    have hz := hS.z12 j hj
    refine s_sizeOf hb hc h12 hj (s_isBetween.mpr ?_)
    by_cases hi : (0 : Int32) ≤ i ∧ i ≤ nI (sZ σ j) - 1
    · obtain ⟨k, hk, rfl⟩ := (blk_of (by omega)).mp hi
      refine zt1 hi ?_
      dsimp only
      rw [e12]
      refine s_readingOf hb hS hc hj ho ?_
      have md : ∀ r : Int32, r = (if rdN σ j o = 3 then -4 else nI (byN σ j o k)) → wX5_got (PQ r) M (nI j) (nI k) := by
        intro r hr2
        unfold wX5_got
        refine m_isBlock hm.2.1 (zt2 hp ?_)
        rw [e13, clamp_nI (n := 13 + j) (by omega), mZ hm hj]
        refine ⟨v53 (by omega), m_in32 0 (nI (sZ σ j) - 1) rfl rfl (zt1 hi ?_)⟩
        rw [m12]
        refine m_reading hS hm hj ho (fun M' hk2 hg => ?_)
        rw [rd3, clamp_nI (n := k) (by omega)]
        by_cases q : rdN σ j o = 3
        · rw [if_pos q] at hr2
          exact br_nt q ⟨hr2, h.k61 hk2⟩
        · rw [if_neg q] at hr2
          refine br_nf q ⟨v61 (by omega), ?_, h.k61 hk2⟩
          rw [hg q k hk]; exact hr2
      rw [rd3]
      by_cases q : rdN σ j o = 3
      · exact br_nt q (md _ (by rw [if_pos q]))
      · exact br_nf q (s_byteAsRead hb hS hc hj hk ho hd (md _ (by rw [if_neg q])))
    · refine zf1 hi ?_
      unfold wX5_got
      refine m_isBlock hm.2.1 (zt2 hp ?_)
      rw [e13, clamp_nI (n := 13 + j) (by omega), mZ hm hj]
      exact ⟨v53 (by omega), m_in32 0 (nI (sZ σ j) - 1) rfl rfl (zf1 hi ⟨rfl, h⟩)⟩
  · refine zf2 hp ?_
    unfold wX5_got
    exact m_isBlock hm.2.1 (zf2 hp ⟨rfl, h⟩)
-- ===== sums of bits =====
def orN (p : Nat → Nat) : Nat → Nat
  | 0 => 0
  | k + 1 => orN p k ||| (if p k = 1 then 2 ^ k else 0)
def suN (p : Nat → Nat) : Nat → Nat
  | 0 => 0
  | k + 1 => suN p k + p k
theorem or_lt (p : Nat → Nat) : ∀ k, orN p k < 2 ^ k := by
  intro k
  induction k with
  | zero => exact (by decide : 0 < 1)
  | succ k ih =>
    rw [orN]
    have hp : 2 ^ (k + 1) = 2 * 2 ^ k := by rw [Nat.pow_succ]; omega
    have h0 : 0 < 2 ^ k := Nat.pow_pos (by omega)
    refine Nat.or_lt_two_pow (by omega) ?_
    split <;> omega
theorem or_bit (p : Nat → Nat) : ∀ k i, (orN p k).testBit i = decide (i < k ∧ p i = 1) := by
  intro k
  induction k with
  | zero => intro i; simp [orN]
  | succ k ih =>
    intro i
    rw [orN, Nat.testBit_or, ih]
    by_cases q : p k = 1
    · rw [if_pos q, Nat.testBit_two_pow]
      by_cases e : k = i
      · subst e; simp [q]
      · have : (i < k + 1) ↔ (i < k) := by omega
        simp [e, this]
    · rw [if_neg q, Nat.zero_testBit]
      by_cases e : k = i
      · subst e; simp [q]
      · have : (i < k + 1) ↔ (i < k) := by omega
        simp [this]
theorem or_dm {p : Nat → Nat} (hp : ∀ i, p i ≤ 1) (N i : Nat) : orN p N / 2 ^ i % 2 = if i < N then p i else 0 := by
  have h := or_bit p N i
  rw [Nat.testBit_eq_decide_div_mod_eq] at h
  have h2 : (orN p N / 2 ^ i % 2 = 1) ↔ (i < N ∧ p i = 1) := decide_eq_decide.mp h
  have h3 := hp i
  have h4 : orN p N / 2 ^ i % 2 < 2 := Nat.mod_lt _ (by omega)
  by_cases q : i < N
  · rw [if_pos q]
    by_cases q2 : p i = 1
    · rw [h2.mpr ⟨q, q2⟩, q2]
    · have : ¬ orN p N / 2 ^ i % 2 = 1 := fun e => q2 (h2.mp e).2
      omega
  · rw [if_neg q]
    have : ¬ orN p N / 2 ^ i % 2 = 1 := fun e => q (h2.mp e).1
    omega
theorem po_or {p : Nat → Nat} (hp : ∀ i, p i ≤ 1) {N : Nat} (hN : N ≤ 12) : poN (orN p N) 12 = suN p N := by
  have gen : ∀ k, poN (orN p N) k = suN p (min k N) := by
    intro k
    induction k with
    | zero => rw [Nat.zero_min]; rfl
    | succ k ih =>
      rw [poN, ih, or_dm hp]
      by_cases q : k < N
      · have e1 : min (k + 1) N = k + 1 := by omega
        have e2 : min k N = k := by omega
        rw [if_pos q, e1, e2, suN]
      · have e1 : min (k + 1) N = min k N := by omega
        rw [if_neg q, e1]; rfl
  rw [gen 12]
  congr 1; omega
theorem su_le {p : Nat → Nat} (hp : ∀ i, p i ≤ 1) : ∀ k, suN p k ≤ k := by
  intro k
  induction k with
  | zero => exact Nat.le_refl _
  | succ k ih => have := hp k; rw [suN]; omega
