-- ===== within =====
theorem soN_0 {R : Nat → Nat} {L x : Nat} : soN R L x x = 0 := by
  unfold soN
  have e1 : plN R x x = 0 := if_pos rfl
  rw [e1]
  split <;> omega
theorem soN_up {R : Nat → Nat} (hR : okR R) {L x i j : Nat} (hL : L ≤ 9999) (hij : i ≤ j) (hj : x + j ≤ L) : soN R L x (x + i) ≤ soN R L x (x + j) := by
  have p : plN R x (x + i) ≤ plN R x (x + j) := by
    unfold plN
    by_cases h : i = 0
    · rw [if_pos (by omega)]; omega
    · rw [if_neg (by omega), if_neg (by omega)]
      have : R 3 * dstN x (x + i) ≤ R 3 * dstN x (x + j) := Nat.mul_le_mul_left _ (by unfold dstN; omega)
      omega
  have w : woN R L x (x + i) ≤ woN R L x (x + j) := by
    unfold woN
    by_cases h : i = 0
    · rw [if_pos (by omega)]; omega
    · rw [if_neg (by omega), if_neg (by omega), if_neg (by omega), if_neg (by omega)]
      have m := Tn_mono (a := x + i) (b := x + j) hR.1 (by omega) (by omega)
      have : R 4 * (Tn (R 1) (R 2) (x + i) - Tn (R 1) (R 2) x) ≤ R 4 * (Tn (R 1) (R 2) (x + j) - Tn (R 1) (R 2) x) := Nat.mul_le_mul_left _ (by omega)
      omega
  unfold soN
  split <;> split <;> omega
theorem soN_dn {R : Nat → Nat} (hR : okR R) {L x i j : Nat} (hL : L ≤ 9999) (hx : x ≤ L) (hij : i ≤ j) (hj : j ≤ x) : soN R L x (x - i) ≤ soN R L x (x - j) := by
  have p : plN R x (x - i) ≤ plN R x (x - j) := by
    unfold plN
    by_cases h : i = 0
    · rw [if_pos (by omega)]; omega
    · rw [if_neg (by omega), if_neg (by omega)]
      have : R 3 * dstN x (x - i) ≤ R 3 * dstN x (x - j) := Nat.mul_le_mul_left _ (by unfold dstN; omega)
      omega
  have w : woN R L x (x - i) ≤ woN R L x (x - j) := by
    unfold woN
    by_cases h : i = 0
    · rw [if_pos (by omega)]; omega
    · have a1 : ¬ x = x - i := by omega
      have a2 : ¬ x = x - j := by omega
      have b1 : x - i ≤ x := by omega
      have b2 : x - j ≤ x := by omega
      rw [if_neg a1, if_neg a2, if_pos b1, if_pos b2]
      have m := Tn_mono (a := L - (x - i)) (b := L - (x - j)) hR.1 (by omega) (by omega)
      have : R 4 * (Tn (R 1) (R 2) (L - (x - i)) - Tn (R 1) (R 2) (L - x)) ≤ R 4 * (Tn (R 1) (R 2) (L - (x - j)) - Tn (R 1) (R 2) (L - x)) := Nat.mul_le_mul_left _ (by omega)
      omega
  unfold soN
  split <;> split <;> omega
/-- the farthest of m steps that y allows -/
def farN (f : Nat → Nat) (y : Nat) : Nat → Nat
  | 0 => 0
  | k + 1 => if f (k + 1) ≤ y then k + 1 else farN f y k
theorem farN_le (f : Nat → Nat) (y : Nat) : ∀ k, farN f y k ≤ k := by
  intro k
  induction k with
  | zero => exact Nat.le_refl _
  | succ k ih => rw [farN]; split <;> omega
theorem farN_ok {f : Nat → Nat} {y : Nat} (h0 : f 0 ≤ y) : ∀ k, f (farN f y k) ≤ y := by
  intro k
  induction k with
  | zero => exact h0
  | succ k ih => rw [farN]; split <;> assumption
theorem farN_hi {f : Nat → Nat} {y : Nat} : ∀ k i, farN f y k < i → i ≤ k → y < f i := by
  intro k
  induction k with
  | zero => intro i h1 h2; omega
  | succ k ih =>
    intro i h1 h2
    rw [farN] at h1
    by_cases c : f (k + 1) ≤ y
    · rw [if_pos c] at h1; omega
    · rw [if_neg c] at h1
      by_cases e : i = k + 1
      · subst e; omega
      · exact ih i h1 (by omega)
theorem s_reach {Q : Int32 → MM → Prop} {M : MM} {R : Nat → Nat} {σ : SS} {y m : Nat} {d : Int32} {f pos : Nat → Nat} (hR : okR R) (hS : okS R σ) (hc : clT M 1 R σ) (hy : y ≤ 999999) (hm : m ≤ 9999) (hpos : ∀ k, k ≤ m → nI (sH σ) + d * nI k = nI (pos k) ∧ pos k ≤ sL σ ∧ f k = soN R (sL σ) (sH σ) (pos k)) (hmono : ∀ i j, i ≤ j → j ≤ m → f i ≤ f j) (h0 : f 0 ≤ y) (hq : Q (nI (farN f y m)) M) : wX2_reach Q M 1 (nI y) (nI m) d := by
  have hL := hS.1.2
  have hH := hS.2.2.1
  have hb : tpB 1 := Or.inl rfl
  have k1 := farN_le f y m
  have k2 := farN_ok (f := f) h0 m
  have k3 := farN_hi (f := f) (y := y) m
  have loop : ∀ k s lo hi, s + k = 14 → hi - lo < 2 ^ k → lo ≤ farN f y m → farN f y m ≤ hi → hi ≤ m → wX2_reach_9 Q 1 (nI y) (nI m) d (k + 1) M (nI lo) (nI hi) (nI s) := by
    intro k
    induction k with
    | zero =>
      intro s lo hi hs hd a1 a2 a3
      have e2 : lo = farN f y m := by omega
      refine br_f (fun q => ?_) (br_t (nI_le (by omega) (by omega)) (by rw [e2]; exact hq))
      have := (nI_leI (a := 32) (by omega) (by omega)).mp q; omega
    | succ k ih =>
      intro s lo hi hs hd a1 a2 a3
      refine br_f (fun q => ?_) ?_
      · have := (nI_leI (a := 32) (by omega) (by omega)).mp q; omega
      rw [nI_leI (by omega) (by omega)]
      by_cases c : hi ≤ lo
      · have e2 : lo = farN f y m := by omega
        exact br_t c (by rw [e2]; exact hq)
      · refine br_f c ?_
        rintro x3 e3
        rw [nI_add, nI_1, n2, pk_div (by omega) (by omega) (by omega)] at e3
        subst e3
        have hp : 2 ^ (k + 1) = 2 * 2 ^ k := by rw [Nat.pow_succ]; omega
        have hmid : (lo + hi + 1) / 2 ≤ hi ∧ lo < (lo + hi + 1) / 2 := by omega
        obtain ⟨p1, p2, p3⟩ := hpos ((lo + hi + 1) / 2) (by omega)
        rw [show M 1 9 = nI (sH σ) from hc.2.2.1, p1]
        refine s_sooner hb hR hc hL hH p2 ?_
        rw [← p3]
        have fb : f ((lo + hi + 1) / 2) < 1000000 := by
          rw [p3]
          have := plN_lt hR (x := sH σ) (y := pos ((lo + hi + 1) / 2)) (by omega) (by omega)
          have := woN_lt hR hL hH p2
          unfold soN; split <;> omega
        rw [nI_ltI (by omega) (by omega)]
        unfold wX2_reach_68
        by_cases g : y < f ((lo + hi + 1) / 2)
        · refine br_t g ?_
          rintro _ rfl
          rw [nI_sub1 (by omega), nI_1]
          have : farN f y m < (lo + hi + 1) / 2 := by
            apply Nat.lt_of_not_le
            intro q
            have := hmono _ _ q (by omega); omega
          exact ih (s + 1) _ _ (by omega) (by omega) a1 (by omega) (by omega)
        · refine br_f g ?_
          rw [nI_1]
          have : (lo + hi + 1) / 2 ≤ farN f y m := by
            apply Nat.le_of_not_lt
            intro q
            exact g (k3 _ q (by omega))
          exact ih (s + 1) _ _ (by omega) (by omega) this a2 a3
  unfold wX2_reach
  exact ⟨15, loop 14 0 0 m rfl (by have : (2:Nat) ^ 14 = 16384 := rfl; omega) (Nat.zero_le _) k1 (Nat.le_refl _)⟩
/-- forward -/
theorem m_fwd {Q : Int32 → MM → Prop} {M : MM} {R : Nat → Nat} {σ : SS} {y : Nat} {w : Int32} (hw : w = 0) (hR : okR R) (hS : okS R σ) (hr : rlT M R) (hm : mdT M 0 σ) (hy : y ≤ 999999) (hq : Q (nI (sH σ + farN (fun k => soN R (sL σ) (sH σ) (sH σ + k)) y (sL σ - sH σ))) M) : ∀ k i, i + k = sL σ - sH σ → wX5_within_83 Q (nI y) w (k + 2) M (nI (sH σ + farN (fun k => soN R (sL σ) (sH σ) (sH σ + k)) y i)) (nI (sH σ + (i + 1))) := by
  have hL := hS.1.2
  have hH := hS.2.2.1
  have head : ∀ k i, i + k = sL σ - sH σ → k = 0 → wX5_within_83 Q (nI y) w (k + 2) M (nI (sH σ + farN (fun k => soN R (sL σ) (sH σ) (sH σ + k)) y i)) (nI (sH σ + (i + 1))) := by
    intro k i hi hk
    subst hk
    have e : i = sL σ - sH σ := by omega
    refine br_t ?_ (by rw [e]; exact hq)
    rw [show M 53 366 = nI (sL σ) from hm.1]
    exact nI_lt (by omega) (by omega)
  intro k
  induction k with
  | zero => intro i hi; exact head 0 i hi rfl
  | succ k ih =>
    intro i hi
    refine br_f (fun q => ?_) (br_nt hw ?_)
    · rw [show M 53 366 = nI (sL σ) from hm.1] at q
      have := (nI_ltI (by omega) (by omega)).mp q; omega
    rw [show M 53 325 = nI (sH σ) from hm.2.2.1]
    refine m_sooner hR hr hm.1 hL hH (by omega) ?_
    have fb : soN R (sL σ) (sH σ) (sH σ + (i + 1)) < 1000000 := by
      have := plN_lt hR (x := sH σ) (y := sH σ + (i + 1)) (by omega) (by omega)
      have := woN_lt hR hL hH (show sH σ + (i + 1) ≤ sL σ by omega)
      unfold soN; split <;> omega
    rw [nI_ltI (by omega) (by omega)]
    unfold wX5_within_124
    have g := ih (i + 1) (by omega)
    rw [farN] at g
    rw [nI_1]
    by_cases c : soN R (sL σ) (sH σ) (sH σ + (i + 1)) ≤ y
    · rw [if_pos c] at g
      exact br_f (by omega) g
    · rw [if_neg c] at g
      exact br_t (by omega) g
/-- back -/
theorem m_bwd {Q : Int32 → MM → Prop} {M : MM} {R : Nat → Nat} {σ : SS} {y : Nat} {w : Int32} (hw : ¬ w = 0) (hR : okR R) (hS : okS R σ) (hr : rlT M R) (hm : mdT M 0 σ) (hy : y ≤ 999999) (hq : Q (nI (sH σ - farN (fun k => soN R (sL σ) (sH σ) (sH σ - k)) y (sH σ))) M) : ∀ k i, i + k = sH σ → wX5_within_33 Q (nI y) w (k + 2) M (nI (sH σ - farN (fun k => soN R (sL σ) (sH σ) (sH σ - k)) y i)) (nI (sH σ - i) + (-1)) := by
  have hL := hS.1.2
  have hH := hS.2.2.1
  have exit : ∀ v : Int32, wX5_within_73 Q (nI y) w M v ↔ ∃ m, wX5_within_83 Q (nI y) w m M v (nI (sH σ)) := by
    intro v
    unfold wX5_within_73
    rw [show M 53 325 = nI (sH σ) from hm.2.2.1]
  intro k
  induction k with
  | zero =>
    intro i hi
    have e : i = sH σ := by omega
    refine br_t ?_ ?_
    · rw [e, Nat.sub_self]; decide +kernel
    · refine (exit _).mpr ⟨1, br_f (fun q => ?_) (br_nf hw (by rw [e]; exact hq))⟩
      rw [show M 53 366 = nI (sL σ) from hm.1] at q
      have := (nI_ltI (by omega) (by omega)).mp q; omega
  | succ k ih =>
    intro i hi
    have e1 : nI (sH σ - i) + (-1) = nI (sH σ - (i + 1)) := by
      have : sH σ - i = (sH σ - (i + 1)) + 1 := by omega
      rw [this, pk_m1]
    rw [e1]
    refine br_f (nI_pos (by omega)) (br_f hw ?_)
    rw [show M 53 325 = nI (sH σ) from hm.2.2.1]
    refine m_sooner hR hr hm.1 hL hH (by omega) ?_
    have fb : soN R (sL σ) (sH σ) (sH σ - (i + 1)) < 1000000 := by
      have := plN_lt hR (x := sH σ) (y := sH σ - (i + 1)) (by omega) (by omega)
      have := woN_lt hR hL hH (show sH σ - (i + 1) ≤ sL σ by omega)
      unfold soN; split <;> omega
    rw [nI_ltI (by omega) (by omega)]
    unfold wX5_within_66
    have g := ih (i + 1) (by omega)
    rw [farN] at g
    by_cases c : soN R (sL σ) (sH σ) (sH σ - (i + 1)) ≤ y
    · rw [if_pos c] at g
      exact br_f (by omega) g
    · rw [if_neg c] at g
      exact br_t (by omega) g
theorem L_within {M : MM} (h : Rel M) (x w : Int32) : wX4_within (fun r M1 => wX5_within (PQ r) M1 x w) M x w := by
  obtain ⟨R, σ, hR, hS, hc, hm, hr, him, hsh, htx⟩ := id h
  have hL := hS.1.2
  have hH := hS.2.2.1
  have e9 : M 1 9 = nI (sH σ) := hc.2.2.1
  have m9 : M 53 325 = nI (sH σ) := hm.2.2.1
  unfold wX4_within
  refine s_isBetween.mpr ?_
  by_cases hp : (0 : Int32) ≤ x ∧ x ≤ 999999
  · refine zt1 hp ?_
    obtain ⟨y, hy, rfl⟩ := pl_of (L := 999999) (by omega) hp
    by_cases hw : w = 0
    · refine br_t hw (s_ruled (Or.inl rfl) 0 (by omega) rfl ?_)
      rw [hc.1.1, e9, pk_sub hH]
      refine s_reach (f := fun k => soN R (sL σ) (sH σ) (sH σ + k)) (pos := fun k => sH σ + k) hR hS hc hy (by omega) (fun k hk => ⟨by rw [n1, pk_mul, nI_add, Nat.one_mul], by omega, rfl⟩) (fun i j hij hj => soN_up hR hL hij (by omega)) (by show soN R (sL σ) (sH σ) (sH σ + 0) ≤ y; rw [Nat.add_zero, soN_0]; omega) ?_
      rw [nI_add]
      unfold wX5_within
      refine m_in32 0 999999 rfl rfl (zt1 hp ⟨1, ?_⟩)
      rw [m9]
      have g := m_fwd (Q := PQ (nI (sH σ + farN (fun k => soN R (sL σ) (sH σ) (sH σ + k)) y (sL σ - sH σ)))) (w := w) hw hR hS hr hm hy ⟨rfl, h⟩ (sL σ - sH σ) 0 (by omega)
      refine br_f (nI_pos (by omega)) (br_t hw ?_)
      unfold wX5_within_73
      rw [m9]
      refine ⟨sL σ - sH σ + 2 + 1, br_f (fun q => ?_) (br_nt hw ?_)⟩
      · rw [show M 53 366 = nI (sL σ) from hm.1] at q
        have := (nI_ltI (by omega) (by omega)).mp q; omega
      rw [m9]
      refine m_sooner hR hr hm.1 hL hH hH ?_
      rw [soN_0]
      refine br_f (fun q => ?_) ?_
      · have := (nI_ltI (b := 0) (by omega) (by omega)).mp q; omega
      · unfold wX5_within_124
        rw [nI_1]; exact g
    · refine br_f hw ?_
      rw [e9]
      have pm : ∀ k, k ≤ sH σ → nI (sH σ) + (-1) * nI k = nI (sH σ - k) := by
        intro k hk
        have : (-1 : Int32) * nI k = - nI k := by rw [Int32.neg_mul, n1, pk_mul, Nat.one_mul]
        rw [this, ← Int32.sub_eq_add_neg, pk_sub hk]
      refine s_reach (f := fun k => soN R (sL σ) (sH σ) (sH σ - k)) (pos := fun k => sH σ - k) hR hS hc hy (by omega) (fun k hk => ⟨pm k hk, by omega, rfl⟩) (fun i j hij hj => soN_dn hR hL hH hij (by omega)) (by show soN R (sL σ) (sH σ) (sH σ - 0) ≤ y; rw [Nat.sub_zero, soN_0]; omega) ?_
      have fl := farN_le (fun k => soN R (sL σ) (sH σ) (sH σ - k)) y (sH σ)
      rw [← Int32.sub_eq_add_neg, pk_sub fl]
      unfold wX5_within
      refine m_in32 0 999999 rfl rfl (zt1 hp ⟨sH σ + 2 + 1, ?_⟩)
      rw [m9]
      have g := m_bwd (Q := PQ (nI (sH σ - farN (fun k => soN R (sL σ) (sH σ) (sH σ - k)) y (sH σ)))) (w := w) hw hR hS hr hm hy ⟨rfl, h⟩ (sH σ) 0 (by omega)
      refine br_f (nI_pos (by omega)) (br_f hw ?_)
      rw [m9]
      refine m_sooner hR hr hm.1 hL hH hH ?_
      rw [soN_0]
      refine br_f (fun q => ?_) ?_
      · have := (nI_ltI (b := 0) (by omega) (by omega)).mp q; omega
      · unfold wX5_within_66
        exact g
  · refine zf1 hp ?_
    unfold wX5_within
    exact m_in32 0 999999 rfl rfl (zf1 hp ⟨rfl, h⟩)
