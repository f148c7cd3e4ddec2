theorem L_state {M : MM} (h : Rel M) (x : Int32) : wX4_state (fun r M1 => wX5_state (PQ r) M1 x) M x := by
  obtain ⟨R, σ, hR, hS, hc, hm, hr, him, hsh, htx⟩ := id h
  have hb : tpB 1 := Or.inl rfl
  have h12 := hS.2.1
  obtain ⟨o, ho, hd⟩ := hS.dead
  have e12 : M 1 12 = tI o := by rw [← hd]; exact hc.2.2.2.2.2.2.2.2.2.2.2.2
  have m12 : M 53 340 = tI o := by rw [← hd]; exact hm.2.2.2.2.2.2.2.2.2.2.2.2
  have stepO : ∀ (p : Nat → Nat) (k i : Nat) (M' : MM) (v : Int32), i ≤ 12 → (v = 0 ∨ v = 1) → (v = 1 ↔ p i = 1) → wX5_state_18 (PQ (nI (orN p (sN σ)))) x (k + 1) M' (nI (orN p (i + 1))) (nI (i + 1)) → wX5_state_91 (PQ (nI (orN p (sN σ)))) (fun M v2 v3 => wX5_state_18 (PQ (nI (orN p (sN σ)))) x (k + 1) M v2 v3) x M' (nI (orN p i)) (nI i) v := by
    intro p k i M' v hi hv hp g
    rw [orN] at g
    unfold wX5_state_91 wX5_state_106
    by_cases q : p i = 1
    · rw [if_pos q] at g
      rw [hp.mpr q]
      refine br_f (by decide) ?_
      by_cases hi2 : i < 12
      · dsimp only
        rw [shl_1 i hi2, nI_or, nI_1]; exact g
      · have : i = 12 := by omega
        subst this
        show wX5_state_18 _ x (k + 1) M' (nI (orN p 12) ||| ((1 : Int32) <<< (nI 12 &&& 31))) (nI 12 + 1)
        rw [show ((1 : Int32) <<< (nI 12 &&& 31)) = nI (2 ^ 12) by decide +kernel, nI_or, nI_1]; exact g
    · rw [if_neg q, Nat.or_zero] at g
      have : v = 0 := by
        rcases hv with e | e
        · exact e
        · exact absurd (hp.mp e) q
      rw [this]
      refine br_t rfl ?_
      show wX5_state_18 _ x (k + 1) M' (nI (orN p i) ||| nI 0) (nI i + 1)
      rw [nI_or, Nat.or_zero, nI_1]; exact g
  have loop : ∀ (p : Nat → Nat), ((x = 0 ∧ p = loP σ o) ∨ (x = 1 ∧ p = foP σ o) ∨ (x = 2 ∧ p = meP σ o)) → ∀ k i (M' : MM), i + k = sN σ → (∀ a, a ≠ 61 → M' a = M a) → wX5_state_18 (PQ (nI (orN p (sN σ)))) x (k + 1) M' (nI (orN p i)) (nI i) := by
    intro p hx k
    induction k with
    | zero =>
      intro i M' hi hk
      have : i = sN σ := by omega
      subst this
      refine br_t ?_ ⟨rfl, h.k61 hk⟩
      rw [hk 53 (by decide), hm.2.1]; exact nI_le (Nat.le_refl _) (by omega)
    | succ k ih =>
      intro i M' hi hk
      have hm' : mdT M' 0 σ := hm.keep (hk 53 (by decide))
      unfold wX5_state_18
      rw [hm'.2.1, show M' 53 340 = tI o by rw [hk 53 (by decide)]; exact m12]
      refine br_f (fun q => ?_) (m_reading hS hm' (by omega) ho (fun M2 hk2 hg => ?_))
      · have := (nI_leI (by omega) (by omega)).mp q; omega
      have hk3 : ∀ a, a ≠ 61 → M2 a = M a := fun a q => by rw [hk2 a q, hk a q]
      have g := ih (i + 1) M2 (by omega) hk3
      have h3 : rdN σ i o ≤ 3 := rdF_le _ _ _
      have f1 : nI (rdN σ i o) = 1 ↔ rdN σ i o = 1 := nI_eq (b := 1) (by omega) (by omega)
      have f2 : nI (rdN σ i o) = 2 ↔ rdN σ i o = 2 := nI_eq (b := 2) (by omega) (by omega)
      rw [rd3, f1, f2]
      unfold wX5_state_86
      rcases hx with ⟨rfl, rfl⟩ | ⟨rfl, rfl⟩ | ⟨rfl, rfl⟩
      · refine br_nt rfl ?_
        have e : loP σ o i = if rdN σ i o = 3 then 1 else 0 := rfl
        by_cases q : rdN σ i o = 3
        · rw [if_pos q] at e
          exact br_nt q (stepO _ k i M2 1 (by omega) (Or.inr rfl) ⟨fun _ => e, fun _ => rfl⟩ g)
        · rw [if_neg q] at e
          exact br_nf q (stepO _ k i M2 0 (by omega) (Or.inl rfl) ⟨fun q => absurd q (by decide), fun q => absurd (e.symm.trans q) (by decide)⟩ g)
      · refine br_nf (by decide) (br_nt rfl (m_isFooled hS (hm.keep (hk3 53 (by decide))) (by omega) ho hd (fun M4 hk4 => ?_)))
        have g4 := ih (i + 1) M4 (by omega) (fun a q => by rw [hk4 a q, hk3 a q])
        have hf := foP_le σ o i
        have : foP σ o i = 0 ∨ foP σ o i = 1 := by omega
        rcases this with e | e
        · rw [e]
          exact stepO _ k i M4 0 (by omega) (Or.inl rfl) ⟨fun q => absurd q (by decide), fun q => absurd (e.symm.trans q) (by decide)⟩ g4
        · rw [e]
          exact stepO _ k i M4 1 (by omega) (Or.inr rfl) ⟨fun _ => e, fun _ => rfl⟩ g4
      · refine br_nf (by decide) (br_nf (by decide) ?_)
        have e : meP σ o i = if rdN σ i o = 1 ∨ rdN σ i o = 2 then 1 else 0 := rfl
        by_cases q : rdN σ i o = 1 ∨ rdN σ i o = 2
        · rw [if_pos q] at e
          have g1 := stepO _ k i M2 1 (by omega) (Or.inr rfl) ⟨fun _ => e, fun _ => rfl⟩ g
          rcases q with q | q
          · exact br_t q g1
          · exact br_f (by omega) (br_nt q g1)
        · rw [if_neg q] at e
          exact br_f (by omega) (br_nf (by omega) (stepO _ k i M2 0 (by omega) (Or.inl rfl) ⟨fun q => absurd q (by decide), fun q => absurd (e.symm.trans q) (by decide)⟩ g))
  have md : ∀ (p : Nat → Nat), ((x = 0 ∧ p = loP σ o) ∨ (x = 1 ∧ p = foP σ o) ∨ (x = 2 ∧ p = meP σ o)) → wX5_state (PQ (nI (orN p (sN σ)))) M x := by
    intro p hx
    unfold wX5_state
    have hp : (0 : Int32) ≤ x ∧ x ≤ 2 := by
      rcases hx with ⟨rfl, -⟩ | ⟨rfl, -⟩ | ⟨rfl, -⟩ <;> decide
    exact m_in32 0 2 rfl rfl (zt1 hp ⟨_, loop p hx (sN σ) 0 M (by omega) (fun _ _ => rfl)⟩)
  unfold wX4_state
  by_cases h0 : x = 0
  · refine br_t h0 ?_
    rw [e12]
    exact s_lost hS hc ho (md _ (Or.inl ⟨h0, rfl⟩))
  refine br_f h0 ?_
  by_cases h1 : x = 1
  · exact br_t h1 (s_fooled hS hc ho hd (md _ (Or.inr (Or.inl ⟨h1, rfl⟩))))
  refine br_f h1 ?_
  by_cases h2 : x = 2
  · exact br_t h2 (s_mended hS hc ho hd (md _ (Or.inr (Or.inr ⟨h2, rfl⟩))))
  refine br_f h2 ?_
  unfold wX5_state
  refine m_in32 0 2 rfl rfl (zf1 (fun q => ?_) ⟨rfl, h⟩)
  obtain ⟨k, hk, rfl⟩ := pl_of (L := 2) (by omega) q
  have : k = 0 ∨ k = 1 ∨ k = 2 := by omega
  rcases this with rfl | rfl | rfl
  · exact h0 rfl
  · exact h1 rfl
  · exact h2 rfl
-- ===== best =====
def btF (f : Nat → Nat) : Nat → Nat × Nat
  | 0 => (0, f 0)
  | k + 1 => if f (k + 1) < (btF f k).2 then (k + 1, f (k + 1)) else btF f k
theorem btF_le {f : Nat → Nat} (hf : ∀ t, f t ≤ 12) : ∀ k, (btF f k).1 ≤ k ∧ (btF f k).2 ≤ 12 := by
  intro k
  induction k with
  | zero => exact ⟨Nat.le_refl _, hf 0⟩
  | succ k ih =>
    rw [btF]
    split
    · exact ⟨Nat.le_refl _, hf _⟩
    · exact ⟨by omega, ih.2⟩
def lsF (σ : SS) (t : Nat) : Nat := suN (loP σ (some t)) (sN σ)
theorem lsF_le {R : Nat → Nat} {σ : SS} (hS : okS R σ) (t : Nat) : lsF σ t ≤ 12 := Nat.le_trans (su_le (loP_le σ (some t)) _) hS.2.1
theorem s_losts {Q : Int32 → MM → Prop} {M : MM} {t : Nat} {R : Nat → Nat} {σ : SS} (hS : okS R σ) (hc : clT M 1 R σ) (ht : t < 9) (hq : Q (nI (lsF σ t)) M) : wX2_lostBlocksBy (fun r7 M8 => wJ6_bitCount_0f7a4 Q M8 r7) M 1 (nI t) := by
  refine s_lost (o := some t) hS hc ht ?_
  have h1 := or_lt (loP σ (some t)) (sN σ)
  have h2 : 2 ^ sN σ ≤ 2 ^ 12 := Nat.pow_le_pow_right (by omega) hS.2.1
  refine s_bitCount (by omega) ?_
  rw [po_or (loP_le σ (some t)) hS.2.1]; exact hq
theorem s_best {Q : Int32 → MM → Prop} {M : MM} {w : Int32} {R : Nat → Nat} {σ : SS} (hS : okS R σ) (hc : clT M 1 R σ) (hq : Q (if w = 0 then nI (btF (lsF σ) 8).1 else nI (btF (lsF σ) 8).2) M) : ∀ k t, t + k = 8 → wX4_best_28 Q w (k + 1) M (nI (btF (lsF σ) t).1) (nI (btF (lsF σ) t).2) (nI (t + 1)) := by
  intro k
  induction k with
  | zero =>
    intro t ht
    have : t = 8 := by omega
    subst this
    refine br_t (by decide +kernel) ?_
    by_cases hw : w = 0
    · rw [if_pos hw] at hq; exact br_nt hw hq
    · rw [if_neg hw] at hq; exact br_nf hw hq
  | succ k ih =>
    intro t ht
    refine br_f (fun q => ?_) (s_losts hS hc (by omega) ?_)
    · have := (nI_leI (a := 9) (by omega) (by omega)).mp q; omega
    have g := ih (t + 1) (by omega)
    rw [btF] at g
    have b1 := btF_le (lsF_le hS) t
    have b2 := lsF_le hS (t + 1)
    rw [nI_leI (by omega) (by omega)]
    unfold wX4_best_61
    by_cases c : lsF σ (t + 1) < (btF (lsF σ) t).2
    · rw [if_pos c] at g
      refine br_f (by omega) ?_
      rw [nI_1]; exact g
    · rw [if_neg c] at g
      refine br_t (by omega) ?_
      rw [nI_1]; exact g
theorem m_best1 {Q : Int32 → MM → Prop} {K : MM → Int32 → Int32 → Int32 → Prop} {M : MM} {w v2 v3 : Int32} {t : Nat} {R : Nat → Nat} {σ : SS} (hS : okS R σ) (hm : mdT M 0 σ) (ht : t < 9) (hq : ∀ M', (∀ a, a ≠ 61 → M' a = M a) → (v2 = -4 → K M' (nI t) (nI (lsF σ t)) (nI t + 1)) ∧ (¬ v2 = -4 → (v3 ≤ nI (lsF σ t) → K M' v2 v3 (nI t + 1)) ∧ (¬ v3 ≤ nI (lsF σ t) → K M' (nI t) (nI (lsF σ t)) (nI t + 1)))) : ∀ k i (M' : MM), i + k = sN σ → (∀ a, a ≠ 61 → M' a = M a) → wX5_best_33 Q K w (k + 1) M' v2 v3 (nI t) (nI (suN (loP σ (some t)) i)) (nI i) := by
  have h12 := hS.2.1
  intro k
  induction k with
  | zero =>
    intro i M' hi hk
    have : i = sN σ := by omega
    subst this
    refine br_t ?_ ?_
    · rw [hk 53 (by decide), hm.2.1]; exact nI_le (Nat.le_refl _) (by omega)
    have hq := hq M' hk
    unfold wX5_best_87 wX5_best_92 wX5_best_105 wX5_best_117
    refine ⟨fun q => br_f (by decide) (br_f (by decide) (hq.1 q)), fun q => ⟨fun q2 => br_t rfl (br_t rfl ((hq.2 q).1 q2)), fun q2 => br_f (by decide) (br_f (by decide) ((hq.2 q).2 q2))⟩⟩
  | succ k ih =>
    intro i M' hi hk
    have hm' : mdT M' 0 σ := hm.keep (hk 53 (by decide))
    refine br_f (fun q => ?_) (m_reading (o := some t) hS hm' (by omega) ht (fun M2 hk2 hg => ?_))
    · rw [hm'.2.1] at q
      have := (nI_leI (by omega) (by omega)).mp q; omega
    have g := ih (i + 1) M2 (by omega) (fun a q => by rw [hk2 a q, hk a q])
    rw [suN] at g
    rw [rd3]
    unfold wX5_best_63 wX5_flag
    have e : loP σ (some t) i = if rdN σ i (some t) = 3 then 1 else 0 := rfl
    by_cases q : rdN σ i (some t) = 3
    · rw [if_pos q] at e
      rw [e] at g
      refine br_nt q (br_f (by decide) ?_)
      dsimp only
      rw [nI_1, nI_1]; exact g
    · rw [if_neg q] at e
      rw [e] at g
      refine br_nf q (br_t rfl ?_)
      dsimp only
      rw [Int32.add_zero, nI_1]; exact g
theorem m_best {Q : Int32 → MM → Prop} {M : MM} {w : Int32} {R : Nat → Nat} {σ : SS} (hS : okS R σ) (hm : mdT M 0 σ) (hq : ∀ M', (∀ a, a ≠ 61 → M' a = M a) → Q (if w = 0 then nI (btF (lsF σ) 8).1 else nI (btF (lsF σ) 8).2) M') : ∀ k t (M' : MM), t + k = 8 → (∀ a, a ≠ 61 → M' a = M a) → wX5_best_20 Q w (k + 1) M' (nI (btF (lsF σ) t).1) (nI (btF (lsF σ) t).2) (nI (t + 1)) := by
  intro k
  induction k with
  | zero =>
    intro t M' ht hk
    have : t = 8 := by omega
    subst this
    have hq := hq M' hk
    refine br_t (by decide +kernel) ?_
    by_cases hw : w = 0
    · rw [if_pos hw] at hq; exact br_nt hw hq
    · rw [if_neg hw] at hq; exact br_nf hw hq
  | succ k ih =>
    intro t M' ht hk
    refine br_f (fun q => ?_) ⟨sN σ + 1, m_best1 hS (hm.keep (hk 53 (by decide))) (by omega) (fun M2 hk2 => ?_) (sN σ) 0 M' (by omega) (fun _ _ => rfl)⟩
    · have := (nI_leI (a := 9) (by omega) (by omega)).mp q; omega
    have g := ih (t + 1) M2 (by omega) (fun a q => by rw [hk2 a q, hk a q])
    rw [btF] at g
    have b1 := btF_le (lsF_le hS) t
    have b2 := lsF_le hS (t + 1)
    rw [nI_leI (by omega) (by omega)]
    refine br_f (nI_n4 (by omega)) ?_
    rw [nI_1]
    by_cases c : lsF σ (t + 1) < (btF (lsF σ) t).2
    · rw [if_pos c] at g
      exact br_f (by omega) g
    · rw [if_neg c] at g
      exact br_t (by omega) g
theorem L_best {M : MM} (h : Rel M) (x : Int32) : wX4_best (fun r M1 => wX5_best (PQ r) M1 x) M x := by
  obtain ⟨R, σ, hR, hS, hc, hm, hr, him, hsh, htx⟩ := id h
  unfold wX4_best
  refine s_isBetween.mpr ?_
  by_cases hp : (0 : Int32) ≤ x ∧ x ≤ 1
  · refine zt1 hp (s_losts (t := 0) hS hc (by omega) ⟨9, s_best hS hc ?_ 8 0 (by omega)⟩)
    unfold wX5_best
    refine m_in32 0 1 rfl rfl (zt1 hp ⟨10, ?_⟩)
    refine br_f (by decide) ⟨sN σ + 1, m_best1 (t := 0) hS hm (by omega) (fun M2 hk2 => br_t rfl ?_) (sN σ) 0 M (by omega) (fun _ _ => rfl)⟩
    exact m_best (Q := PQ _) hS hm (fun M' hk => ⟨rfl, h.k61 hk⟩) 8 0 M2 (by omega) hk2
  · refine zf1 hp ?_
    unfold wX5_best
    exact m_in32 0 1 rfl rfl (zf1 hp ⟨rfl, h⟩)
