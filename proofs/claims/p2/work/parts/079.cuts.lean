-- ===== cut: which blocks stay, and where =====
def kpP (R : Nat → Nat) (σ : SS) (x y b : Nat) : Nat := if y ≤ sB σ b ∨ sB σ b + lgN R (sZ σ b) ≤ x then 1 else 0
def kcN (R : Nat → Nat) (σ : SS) (x y : Nat) : Nat → Nat := suN (kpP R σ x y)
def srN (R : Nat → Nat) (σ : SS) (x y : Nat) : Nat → Nat → Nat
  | 0 => fun _ => 0
  | b + 1 => fun k => if kpP R σ x y b = 1 ∧ k = kcN R σ x y b then b else srN R σ x y b k
def nbN (σ : SS) (x y j : Nat) : Nat := if y ≤ sB σ j then sB σ j - (y - x) else sB σ j
theorem kp_le (R : Nat → Nat) (σ : SS) (x y b : Nat) : kpP R σ x y b ≤ 1 := ite_le (by omega) (by omega)
theorem kc_le (R : Nat → Nat) (σ : SS) (x y b : Nat) : kcN R σ x y b ≤ b := su_le (kp_le R σ x y) b
theorem sr_ok (R : Nat → Nat) (σ : SS) (x y : Nat) : ∀ b, (∀ k, k < kcN R σ x y b → srN R σ x y b k < b ∧ kpP R σ x y (srN R σ x y b k) = 1) ∧ (∀ i j, i < j → j < kcN R σ x y b → srN R σ x y b i < srN R σ x y b j) := by
  intro b
  induction b with
  | zero => exact ⟨fun k hk => absurd hk (Nat.not_lt_zero _), fun i j _ hj => absurd hj (Nat.not_lt_zero _)⟩
  | succ b ih =>
    have hs : kcN R σ x y (b + 1) = kcN R σ x y b + kpP R σ x y b := rfl
    have hle := kp_le R σ x y b
    have un : ∀ k, srN R σ x y (b + 1) k = if kpP R σ x y b = 1 ∧ k = kcN R σ x y b then b else srN R σ x y b k := fun k => rfl
    constructor
    · intro k hk
      rw [un]
      by_cases e : kpP R σ x y b = 1 ∧ k = kcN R σ x y b
      · rw [if_pos e]; exact ⟨by omega, e.1⟩
      · rw [if_neg e]
        have := ih.1 k (by omega)
        exact ⟨by omega, this.2⟩
    · intro i j hi hj
      rw [un, un]
      rw [if_neg (show ¬ (kpP R σ x y b = 1 ∧ i = kcN R σ x y b) by omega)]
      by_cases e : kpP R σ x y b = 1 ∧ j = kcN R σ x y b
      · rw [if_pos e]; exact (ih.1 i (by omega)).1
      · rw [if_neg e]; exact ih.2 i j hi (by omega)
/-- the class's rows when b blocks are gone through -/
def cuI (R : Nat → Nat) (σ : SS) (x y : Nat) (M M' : MM) (b : Nat) : Prop :=
  (∀ a, a ≠ 3 → a ≠ 4 → a ≠ 5 → a ≠ 6 → M' a = M a) ∧
  (∀ k, k < kcN R σ x y b → M' 3 k = nI (nbN σ x y (srN R σ x y b k)) ∧ M' 4 k = nI (sZ σ (srN R σ x y b k)) ∧ (∀ i, i ≤ sZ σ (srN R σ x y b k) → M' 5 (13 * k + i) = nI (sC σ (srN R σ x y b k * 13 + i))) ∧ (∀ i, i < sZ σ (srN R σ x y b k) → M' 6 (12 * k + i) = nI (sO σ (srN R σ x y b k * 12 + i)))) ∧
  (∀ j, b ≤ j → j < sN σ → M' 3 j = nI (sB σ j) ∧ M' 4 j = nI (sZ σ j) ∧ (∀ i, i ≤ sZ σ j → M' 5 (13 * j + i) = nI (sC σ (j * 13 + i))) ∧ (∀ i, i < sZ σ j → M' 6 (12 * j + i) = nI (sO σ (j * 12 + i))))
def cmI (R : Nat → Nat) (σ : SS) (x y : Nat) (M M' : MM) (b : Nat) : Prop :=
  (∀ a, a ≠ 53 → M' a = M a) ∧ (∀ j, (j = 0 ∨ 325 ≤ j) → M' 53 j = M 53 j) ∧
  (∀ k, k < kcN R σ x y b → M' 53 (1 + k) = nI (nbN σ x y (srN R σ x y b k)) ∧ M' 53 (13 + k) = nI (sZ σ (srN R σ x y b k)) ∧ (∀ i, i ≤ sZ σ (srN R σ x y b k) → M' 53 (25 + 13 * k + i) = nI (sC σ (srN R σ x y b k * 13 + i))) ∧ (∀ i, i < sZ σ (srN R σ x y b k) → M' 53 (181 + 12 * k + i) = nI (sO σ (srN R σ x y b k * 12 + i)))) ∧
  (∀ j, b ≤ j → j < sN σ → M' 53 (1 + j) = nI (sB σ j) ∧ M' 53 (13 + j) = nI (sZ σ j) ∧ (∀ i, i ≤ sZ σ j → M' 53 (25 + 13 * j + i) = nI (sC σ (j * 13 + i))) ∧ (∀ i, i < sZ σ j → M' 53 (181 + 12 * j + i) = nI (sO σ (j * 12 + i))))
theorem sr_old {R : Nat → Nat} {σ : SS} {x y b k : Nat} (h : ¬ (kpP R σ x y b = 1 ∧ k = kcN R σ x y b)) : srN R σ x y (b + 1) k = srN R σ x y b k := if_neg h
theorem sr_new {R : Nat → Nat} {σ : SS} {x y b k : Nat} (h : kpP R σ x y b = 1 ∧ k = kcN R σ x y b) : srN R σ x y (b + 1) k = b := if_pos h
theorem kc_s (R : Nat → Nat) (σ : SS) (x y b : Nat) : kcN R σ x y (b + 1) = kcN R σ x y b + kpP R σ x y b := rfl
theorem cuI.skip {R : Nat → Nat} {σ : SS} {x y : Nat} {M M' : MM} {b : Nat} (h : cuI R σ x y M M' b) (hk : kpP R σ x y b = 0) : cuI R σ x y M M' (b + 1) := by
  obtain ⟨h1, h2, h3⟩ := h
  refine ⟨h1, fun k q => ?_, fun j j1 j2 => h3 j (by omega) j2⟩
  rw [kc_s, hk] at q
  rw [sr_old (by omega)]
  exact h2 k q
theorem cmI.skip {R : Nat → Nat} {σ : SS} {x y : Nat} {M M' : MM} {b : Nat} (h : cmI R σ x y M M' b) (hk : kpP R σ x y b = 0) : cmI R σ x y M M' (b + 1) := by
  obtain ⟨h1, h0, h2, h3⟩ := h
  refine ⟨h1, h0, fun k q => ?_, fun j j1 j2 => h3 j (by omega) j2⟩
  rw [kc_s, hk] at q
  rw [sr_old (by omega)]
  exact h2 k q
theorem cuI.take {R : Nat → Nat} {σ : SS} {x y : Nat} {M M' M2 : MM} {b : Nat} {v : Int32} (hS : okS R σ) (h : cuI R σ x y M M' b) (hb : b < sN σ) (hk : kpP R σ x y b = 1) (hv : nI (sB σ b) - v = nI (nbN σ x y b)) (hm : mvP M' M2 b (kcN R σ x y b) v) : cuI R σ x y M M2 (b + 1) := by
  obtain ⟨h1, h2, h3⟩ := h
  obtain ⟨m1, m2, m3, m4, m5, m6, m7, m8, m9⟩ := hm
  have hle := kc_le R σ x y b
  refine ⟨fun a a1 a2 a3 a4 => by rw [m1 a a1 a2 a3 a4]; exact h1 a a1 a2 a3 a4, fun k q => ?_, fun j j1 j2 => ?_⟩
  · rw [kc_s, hk] at q
    by_cases e : k = kcN R σ x y b
    · rw [sr_new ⟨hk, e⟩]
      subst e
      obtain ⟨g1, g2, g3, g4⟩ := h3 b (Nat.le_refl _) hb
      have hz := hS.z12 b hb
      refine ⟨by rw [m3, g1, hv], by rw [m5]; exact g2, fun i hi => ?_, fun i hi => ?_⟩
      · rw [m7 i (by omega)]; exact g3 i hi
      · rw [m9 i (by omega)]; exact g4 i hi
    · rw [sr_old (fun q => e q.2)]
      obtain ⟨g1, g2, g3, g4⟩ := h2 k (by omega)
      have hsr := (sr_ok R σ x y b).1 k (by omega)
      have hz := hS.z12 _ (show srN R σ x y b k < sN σ by omega)
      refine ⟨by rw [m2 k e]; exact g1, by rw [m4 k e]; exact g2, fun i hi => ?_, fun i hi => ?_⟩
      · rw [m6 _ (by omega)]; exact g3 i hi
      · rw [m8 _ (by omega)]; exact g4 i hi
  · obtain ⟨g1, g2, g3, g4⟩ := h3 j (by omega) j2
    refine ⟨by rw [m2 j (by omega)]; exact g1, by rw [m4 j (by omega)]; exact g2, fun i hi => ?_, fun i hi => ?_⟩
    · rw [m6 _ (by omega)]; exact g3 i hi
    · rw [m8 _ (by omega)]; exact g4 i hi
theorem cmI.take {R : Nat → Nat} {σ : SS} {x y : Nat} {M M' M2 : MM} {b : Nat} {v : Int32} (hS : okS R σ) (h : cmI R σ x y M M' b) (hb : b < sN σ) (hk : kpP R σ x y b = 1) (hv : nI (sB σ b) - v = nI (nbN σ x y b)) (hm : mmP M' M2 b (kcN R σ x y b) v) : cmI R σ x y M M2 (b + 1) := by
  obtain ⟨h1, h0, h2, h3⟩ := h
  obtain ⟨m1, m2, m3, m4, m5, m6⟩ := hm
  have hle := kc_le R σ x y b
  have h12 := hS.2.1
  refine ⟨fun a a1 => by rw [m1 a a1]; exact h1 a a1, fun j hj => by rw [m6 j (by omega) (by omega) (by omega) (by omega)]; exact h0 j hj, fun k q => ?_, fun j j1 j2 => ?_⟩
  · rw [kc_s, hk] at q
    by_cases e : k = kcN R σ x y b
    · rw [sr_new ⟨hk, e⟩]
      subst e
      obtain ⟨g1, g2, g3, g4⟩ := h3 b (Nat.le_refl _) hb
      have hz := hS.z12 b hb
      refine ⟨by rw [m2, g1, hv], by rw [m3]; exact g2, fun i hi => ?_, fun i hi => ?_⟩
      · rw [m4 i (by omega)]; exact g3 i hi
      · rw [m5 i (by omega)]; exact g4 i hi
    · rw [sr_old (fun q => e q.2)]
      obtain ⟨g1, g2, g3, g4⟩ := h2 k (by omega)
      have hsr := (sr_ok R σ x y b).1 k (by omega)
      have hz := hS.z12 _ (show srN R σ x y b k < sN σ by omega)
      refine ⟨by rw [m6 _ (by omega) (by omega) (by omega) (by omega)]; exact g1, by rw [m6 _ (by omega) (by omega) (by omega) (by omega)]; exact g2, fun i hi => ?_, fun i hi => ?_⟩
      · rw [m6 _ (by omega) (by omega) (by omega) (by omega)]; exact g3 i hi
      · rw [m6 _ (by omega) (by omega) (by omega) (by omega)]; exact g4 i hi
  · obtain ⟨g1, g2, g3, g4⟩ := h3 j (by omega) j2
    have hz := hS.z12 j j2
    refine ⟨by rw [m6 _ (by omega) (by omega) (by omega) (by omega)]; exact g1, by rw [m6 _ (by omega) (by omega) (by omega) (by omega)]; exact g2, fun i hi => ?_, fun i hi => ?_⟩
    · rw [m6 _ (by omega) (by omega) (by omega) (by omega)]; exact g3 i hi
    · rw [m6 _ (by omega) (by omega) (by omega) (by omega)]; exact g4 i hi
theorem nb_val {σ : SS} {x y b : Nat} (h : x < y) (hb : y ≤ sB σ b) : nI (sB σ b) - (nI y - nI x) = nI (nbN σ x y b) := by
  rw [pk_sub (by omega), pk_sub (by omega)]
  unfold nbN
  rw [if_pos hb]
theorem nb_val0 {σ : SS} {x y b : Nat} (hb : ¬ y ≤ sB σ b) : nI (sB σ b) - (0 : Int32) = nI (nbN σ x y b) := by
  unfold nbN
  rw [if_neg hb, Int32.sub_zero]
theorem s_cutLoop {Q : Int32 → MM → Prop} {M : MM} {R : Nat → Nat} {σ : SS} {x y : Nat} (hR : okR R) (hS : okS R σ) (hc : clT M 1 R σ) (hxy : x < y) (hy : y ≤ sL σ) (hq : ∀ M', cuI R σ x y M M' (sN σ) → wX2_cutOut_11 Q 1 (nI x) (nI y) 1 M' (nI (kcN R σ x y (sN σ))) (nI (sN σ)) (nI (sN σ))) : ∀ r b M', b + r = sN σ → cuI R σ x y M M' b → wX2_cutOut_11 Q 1 (nI x) (nI y) (r + 1) M' (nI (kcN R σ x y b)) (nI (sN σ)) (nI b) := by
  have hb1 : tpB 1 := Or.inl rfl
  have h12 := hS.2.1
  have hL := hS.1.2
  intro r
  induction r with
  | zero =>
    intro b M' hb hi
    have : b = sN σ := by omega
    subst this
    exact hq M' hi
  | succ r ih =>
    intro b M' hb hi
    have hbN : b < sN σ := by omega
    obtain ⟨i1, i2, i3⟩ := id hi
    obtain ⟨g1, g2, g3, g4⟩ := i3 b (Nat.le_refl _) hbN
    have hz := hS.2.2.2.1 b hbN
    have hle := kc_le R σ x y b
    have hd := hR.2.2.2.2.2.1
    have e7 : M' 2 7 = nI (R 7) := by rw [i1 2 (by decide) (by decide) (by decide) (by decide)]; exact hc.1.2 7 (by omega) (by omega)
    have e8 : M' 1 8 = nI (sN σ) := by rw [i1 1 (by decide) (by decide) (by decide) (by decide)]; exact hc.2.1
    have kpe : kpP R σ x y b = if y ≤ sB σ b ∨ sB σ b + lgN R (sZ σ b) ≤ x then 1 else 0 := rfl
    refine br_f (fun q => ?_) (s_beginRaw hb1 (by omega) ?_)
    · have := (nI_leI (by omega) (by omega)).mp q; omega
    rw [show M' (1 + 2) b = nI (sB σ b) from g1, nI_ltI (by omega) (by omega)]
    -- a block that stays
    have stay : ∀ v : Int32, kpP R σ x y b = 1 → nI (sB σ b) - v = nI (nbN σ x y b) → wX2_cutOut_69 Q (fun M v3 v4 v5 => wX2_cutOut_11 Q 1 (nI x) (nI y) (r + 1) M v3 v4 v5) 1 (nI x) (nI y) M' (nI (kcN R σ x y b)) (nI (sN σ)) (nI b) v (nI (kcN R σ x y b)) (nI b) := by
      intro v hk hv
      unfold wX2_cutOut_69 wX2_cutOut_75
      refine s_moveBlock hle (by omega) (fun M2 hm => ?_)
      have g := ih (b + 1) _ (by omega) (hi.take hS hbN hk hv hm)
      rw [kc_s, hk] at g
      rw [nI_1, nI_1]; exact g
    have go : ∀ (B : Int32), ((B = 0 ∧ ¬ y ≤ sB σ b) ∨ (B = 1 ∧ y ≤ sB σ b)) → kpP R σ x y b = 1 → wX2_cutOut_53 Q (fun M v3 v4 v5 => wX2_cutOut_11 Q 1 (nI x) (nI y) (r + 1) M v3 v4 v5) 1 (nI x) (nI y) M' (nI (kcN R σ x y b)) (nI (sN σ)) (nI b) B := by
      intro B hB hk
      unfold wX2_cutOut_53
      rcases hB with ⟨rfl, q⟩ | ⟨rfl, q⟩
      · exact br_t rfl (stay 0 hk (nb_val0 q))
      · exact br_f (by decide) (stay _ hk (nb_val hxy q))
    unfold wX2_cutOut_33
    by_cases c1 : sB σ b < y
    · refine br_t c1 (o_n0 ?_)
      refine s_endRaw hb1 hd e7 h12 hbN e8 g1 g2 (by omega) ?_
      rw [nI_leI (by omega) (by omega)]
      by_cases c2 : sB σ b + lgN R (sZ σ b) ≤ x
      · exact br_t c2 (go 0 (Or.inl ⟨rfl, by omega⟩) (by rw [kpe, if_pos (Or.inr c2)]))
      · refine br_f c2 ?_
        have k0 : kpP R σ x y b = 0 := by rw [kpe, if_neg (by omega)]
        have g := ih (b + 1) M' (by omega) (hi.skip k0)
        rw [kc_s, k0] at g
        unfold wX2_cutOut_75
        rw [nI_1]; exact g
    · exact br_f c1 (o_n1 (go 1 (Or.inr ⟨rfl, by omega⟩) (by rw [kpe, if_pos (Or.inl (by omega))])))
