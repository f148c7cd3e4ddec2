-- ===== numbers: turns of a reel =====
def Sn (h t : Nat) : Nat → Nat
  | 0 => 0
  | n + 1 => Sn h t n + h + t * n
theorem tri_s (n : Nat) : (n + 1) * n / 2 = n * (n - 1) / 2 + n := by
  cases n with
  | zero => rfl
  | succ k =>
    have e : (k + 1 + 1) * (k + 1) = (k + 1) * k + 2 * (k + 1) := by
      rw [Nat.add_mul (k + 1) 1 (k + 1), Nat.mul_succ (k + 1) k]; omega
    have e2 : k + 1 - 1 = k := by omega
    rw [e, e2]; omega
theorem Sn_eq (h t n : Nat) : Sn h t n = n * h + t * (n * (n - 1) / 2) := by
  induction n with
  | zero => simp [Sn]
  | succ n ih =>
    rw [Sn, ih]
    have e : n + 1 - 1 = n := by omega
    rw [e, tri_s, Nat.mul_add, Nat.add_mul, Nat.one_mul]; omega
theorem Sn_mono {h t a b : Nat} (hab : a ≤ b) : Sn h t a ≤ Sn h t b := by
  induction hab with
  | refl => exact Nat.le_refl _
  | step _ ih => rw [Sn]; omega
theorem Sn_lt {h t a b : Nat} (hh : 0 < h) (hab : a < b) : Sn h t a < Sn h t b := by
  have h1 : Sn h t (a + 1) ≤ Sn h t b := Sn_mono hab
  rw [Sn] at h1; omega
theorem Sn_ge {h t : Nat} (n : Nat) : n * h ≤ Sn h t n := by rw [Sn_eq]; omega
theorem Sn_le {h t n : Nat} (hh : h ≤ 99) (ht : t ≤ 9) (hn : n ≤ 10000) : Sn h t n ≤ 460000000 := by
  have h1 : Sn h t n ≤ Sn h t 10000 := Sn_mono hn
  have h2 : Sn h t 10000 = 10000 * h + t * (10000 * (10000 - 1) / 2) := Sn_eq h t 10000
  have h3 : t * (10000 * (10000 - 1) / 2) ≤ 9 * (10000 * (10000 - 1) / 2) := Nat.mul_le_mul_right _ ht
  omega
/-- the turns that are whole -/
def Tf (h t a : Nat) : Nat → Nat
  | 0 => 0
  | k + 1 => if Sn h t (k + 1) ≤ a then k + 1 else Tf h t a k
def Tn (h t a : Nat) : Nat := Tf h t a 2047
theorem Tf_lo (h t a k : Nat) : Sn h t (Tf h t a k) ≤ a := by
  induction k with
  | zero => exact Nat.zero_le _
  | succ k ih => rw [Tf]; split <;> assumption
theorem Tf_hi (h t a : Nat) : ∀ k n, Tf h t a k < n → n ≤ k → a < Sn h t n := by
  intro k
  induction k with
  | zero => intro n h1 h2; omega
  | succ k ih =>
    intro n h1 h2
    rw [Tf] at h1
    by_cases hc : Sn h t (k + 1) ≤ a
    · rw [if_pos hc] at h1; omega
    · rw [if_neg hc] at h1
      by_cases hn : n = k + 1
      · subst hn; omega
      · exact ih n h1 (by omega)
/-- the rules of the reels -/
def okHT (h t : Nat) : Prop := 5 ≤ h ∧ h ≤ 99 ∧ 1 ≤ t ∧ t ≤ 9
theorem Sn_big {h t : Nat} (ok : okHT h t) : 10000 < Sn h t 2001 := by
  have h1 := Sn_ge (h := h) (t := t) 2001
  obtain ⟨h5, _⟩ := ok
  omega
theorem Tn_lo (h t a : Nat) : Sn h t (Tn h t a) ≤ a := Tf_lo h t a 2047
theorem Tn_lt {h t a : Nat} (ok : okHT h t) (ha : a ≤ 9999) : Tn h t a < 2001 := by
  have h1 := Tn_lo h t a
  have h2 := Sn_big ok
  apply Nat.lt_of_not_le
  intro h3
  have h4 : Sn h t 2001 ≤ Sn h t (Tn h t a) := Sn_mono h3
  omega
theorem Tn_hi {h t a : Nat} (ok : okHT h t) (ha : a ≤ 9999) : a < Sn h t (Tn h t a + 1) := by
  have h1 := Tn_lt ok ha
  exact Tf_hi h t a 2047 _ (by show Tn h t a < _; omega) (by omega)
theorem Tn_uniq {h t a n : Nat} (ok : okHT h t) (ha : a ≤ 9999) (h1 : Sn h t n ≤ a) (h2 : a < Sn h t (n + 1)) : n = Tn h t a := by
  have h3 := Tn_lo h t a
  have h4 := Tn_hi ok ha
  rcases Nat.lt_trichotomy n (Tn h t a) with q | q | q
  · have := Sn_mono (h := h) (t := t) (show n + 1 ≤ Tn h t a from q); omega
  · exact q
  · have := Sn_mono (h := h) (t := t) (show Tn h t a + 1 ≤ n from q); omega
theorem Tn_iff {h t a n : Nat} (ok : okHT h t) (ha : a ≤ 9999) : Tn h t a = n ↔ (Sn h t n ≤ a ∧ a < Sn h t (n + 1)) := by
  constructor
  · rintro rfl; exact ⟨Tn_lo h t a, Tn_hi ok ha⟩
  · rintro ⟨h1, h2⟩; exact (Tn_uniq ok ha h1 h2).symm
theorem Tn_mono {h t a b : Nat} (ok : okHT h t) (hb : b ≤ 9999) (hab : a ≤ b) : Tn h t a ≤ Tn h t b := by
  have h1 := Tn_lo h t a
  have h2 := Tn_hi ok hb
  apply Nat.le_of_not_lt
  intro q
  have := Sn_mono (h := h) (t := t) (show Tn h t b + 1 ≤ Tn h t a from q)
  omega
-- ===== Int32 as Nat =====
theorem n0 : (0 : Int32) = nI 0 := rfl
theorem n1 : (1 : Int32) = nI 1 := rfl
theorem n2 : (2 : Int32) = nI 2 := rfl
theorem nI_sub1 {n : Nat} (h : 1 ≤ n) : nI n - 1 = nI (n - 1) := by rw [n1]; exact pk_sub h
theorem len_val {h t n : Nat} (hn : n ≤ 10000) : (nI n * nI h) + (nI t * ((nI n * (nI n - (1 : Int32))) / 2)) = nI (Sn h t n) := by
  have e : (nI n * (nI n - (1 : Int32))) = nI (n * (n - 1)) := by
    cases n with
    | zero => decide +kernel
    | succ k => rw [nI_sub1 (by omega), pk_mul]
  have hb : n * (n - 1) ≤ 10000 * 10000 := Nat.mul_le_mul hn (by omega)
  rw [e, n2, pk_div (by omega) (by omega) (by omega), pk_mul, pk_mul, nI_add, Sn_eq]
theorem s_lengthOfTurns {Q : Int32 → MM → Prop} {M : MM} {h t n : Nat} (hn : n ≤ 10000) (hq : Q (nI (Sn h t n)) M) : wX4_lengthOfTurns Q M (nI n) (nI h) (nI t) := by
  unfold wX4_lengthOfTurns
  rw [len_val hn]; exact hq
-- ===== small methods of the class =====
def bI (p : Prop) [Decidable p] : Int32 := if p then 1 else 0
theorem bI_t {p : Prop} [Decidable p] (h : p) : bI p = 1 := if_pos h
theorem bI_f {p : Prop} [Decidable p] (h : ¬ p) : bI p = 0 := if_neg h
theorem nb_bI (p : Prop) [Decidable p] : nb (bI p) := by
  by_cases h : p
  · rw [bI_t h]; exact nb_1
  · rw [bI_f h]; exact nb_0
theorem bI_0 {p : Prop} [Decidable p] : bI p = 0 ↔ ¬ p := by
  by_cases h : p
  · rw [bI_t h]; simp [h]
  · rw [bI_f h]; simp [h]
theorem s_isBetween {Q : Int32 → MM → Prop} {M : MM} {v lo hi : Int32} : wX4_isBetween Q M v lo hi ↔ Q (bI (lo ≤ v ∧ v ≤ hi)) M := by
  unfold wX4_isBetween wX4_isBetween_14
  by_cases h1 : v < lo
  · have h3 : ¬ (lo ≤ v ∧ v ≤ hi) := fun q => absurd q.1 (Int32.not_le.mpr h1)
    simp [h1, bI_f h3]
  · by_cases h2 : hi < v
    · have h3 : ¬ (lo ≤ v ∧ v ≤ hi) := fun q => absurd q.2 (Int32.not_le.mpr h2)
      simp [h1, h2, bI_f h3]
    · have h3 : lo ≤ v ∧ v ≤ hi := ⟨Int32.not_lt.mp h1, Int32.not_lt.mp h2⟩
      simp [h1, h2, bI_t h3]
theorem clamp_nI {n : Nat} (h : n < 2 ^ 31) : (nI n).toNatClampNeg = n := nI_clamp h
theorem vp_nI {n N : Nat} (h : n < N) (hN : N < 2 ^ 31) : vp_in (nI n) N := vp_in_nI h hN
theorem alen_tp {b : Nat} (hb : tpB b) : alen (b + 1) = 9 ∧ alen (b + 2) = 12 ∧ alen (b + 3) = 12 ∧ alen (b + 4) = 156 ∧ alen (b + 5) = 144 ∧ alen (b + 6) = 12 ∧ alen (b + 7) = 12 ∧ alen (b + 8) = 12 := by
  rcases hb with rfl | rfl | rfl | rfl <;> decide +kernel
theorem s_ruled {Q : Int32 → MM → Prop} {M : MM} {b : Nat} (hb : tpB b) (r : Nat) (hr : r < 9) {v : Int32} (hv : v = nI r) (hq : Q (M (b + 1) r) M) : wX2_ruled Q M b v := by
  subst hv
  unfold wX2_ruled wX2_ruled_22
  rw [(alen_tp hb).1]
  refine ⟨fun h => absurd h (nI_pos (by omega)), fun _ => ⟨fun h => absurd h (nI_ge (by omega) (by omega)), fun _ => ⟨vp_nI hr (by omega), ?_⟩⟩⟩
  rw [clamp_nI (by omega)]; exact hq
theorem s_cell {Q : Int32 → MM → Prop} {M : MM} {k j : Nat} (hj : j < alen k) (hk : alen k < 2 ^ 31) (hq : Q (M k j) M) : wX4_cell Q M k (nI j) := by
  unfold wX4_cell wX4_cell_20
  refine ⟨fun h => absurd h (nI_pos (by omega)), fun _ => ⟨fun h => absurd h (nI_ge (by omega) (by omega)), fun _ => ⟨vp_nI hj (by omega), ?_⟩⟩⟩
  rw [clamp_nI (by omega)]; exact hq
theorem s_setCell {Q : MM → Prop} {M : MM} {k j : Nat} {v : Int32} (hj : j < alen k) (hk : alen k < 2 ^ 31) (hq : Q (mset M k j v)) : wX4_setCell Q M k (nI j) v := by
  unfold wX4_setCell
  refine ⟨fun h => absurd h (nI_pos (by omega)), fun _ => ⟨fun h => absurd h (nI_ge (by omega) (by omega)), fun _ => ⟨vp_nI hj (by omega), ?_⟩⟩⟩
  rw [clamp_nI (by omega)]; rintro _ rfl; exact hq
-- ===== turnsOf of the class =====
theorem turns_loop {Q : Int32 → MM → Prop} {M : MM} {b h t a : Nat} (ok : okHT h t) (ha : a ≤ 9999) (hq : Q (nI (Tn h t a)) M) : ∀ k c, k ≤ 10 → Sn h t c ≤ a → a < Sn h t (c + 2 ^ (k + 1)) → c + 2 ^ (k + 1) ≤ 2048 → wX2_turnsOf_20 Q b (nI a) (k + 2) M (nI h) (nI t) (nI c) (nI (2 ^ k)) := by
  intro k
  induction k with
  | zero =>
    intro c _ h1 h2 h3
    have step : ∀ c', Sn h t c' ≤ a → a < Sn h t (c' + 1) → wX2_turnsOf_20 Q b (nI a) 1 M (nI h) (nI t) (nI c') (nI (2 ^ 0) / 2) := by
      intro c' g1 g2
      rw [← Tn_uniq ok ha g1 g2] at hq
      exact ⟨fun _ => hq, fun q => absurd (show nI (2 ^ 0) / 2 ≤ 0 by decide +kernel) q⟩
    refine ⟨fun q => absurd q (by decide +kernel), fun _ => ?_⟩
    rw [nI_add]
    have hs := Sn_le ok.2.1 ok.2.2.2 (show c + 2 ^ 0 ≤ 10000 by omega)
    refine s_lengthOfTurns (by omega) ⟨fun q => ?_, fun q => ?_⟩
    · rw [nI_ltI (by omega) (by omega)] at q
      exact step c h1 q
    · rw [nI_ltI (by omega) (by omega)] at q
      exact step (c + 2 ^ 0) (by omega) (by simpa using h2)
  | succ k ih =>
    intro c hk h1 h2 h3
    have hp : 2 ^ (k + 1) = 2 * 2 ^ k := by rw [Nat.pow_succ]; omega
    have hp2 : 2 ^ (k + 1 + 1) = 2 * 2 ^ (k + 1) := by rw [Nat.pow_succ]; omega
    have hpos : 0 < 2 ^ k := Nat.pow_pos (by omega)
    have hd : nI (2 ^ (k + 1)) / 2 = nI (2 ^ k) := by
      rw [n2, pk_div (by omega) (by omega) (by omega), hp]; congr 1; omega
    refine ⟨fun q => absurd q (nI_nle (by omega) (by omega)), fun _ => ?_⟩
    rw [nI_add]
    have hs := Sn_le ok.2.1 ok.2.2.2 (show c + 2 ^ (k + 1) ≤ 10000 by omega)
    refine s_lengthOfTurns (by omega) ⟨fun q => ?_, fun q => ?_⟩
    · rw [nI_ltI (by omega) (by omega)] at q
      show wX2_turnsOf_20 Q b (nI a) (k + 2) M (nI h) (nI t) (nI c) (nI (2 ^ (k + 1)) / 2)
      rw [hd]
      exact ih c (by omega) h1 q (by omega)
    · rw [nI_ltI (by omega) (by omega)] at q
      show wX2_turnsOf_20 Q b (nI a) (k + 2) M (nI h) (nI t) (nI (c + 2 ^ (k + 1))) (nI (2 ^ (k + 1)) / 2)
      rw [hd]
      exact ih (c + 2 ^ (k + 1)) (by omega) (by omega) (by rw [Nat.add_assoc, ← Nat.two_mul, ← hp2]; exact h2) (by omega)
theorem s_turnsOf {Q : Int32 → MM → Prop} {M : MM} {b h t a : Nat} (hb : tpB b) (ok : okHT h t) (e1 : M (b + 1) 1 = nI h) (e2 : M (b + 1) 2 = nI t) (ha : a ≤ 9999) (hq : Q (nI (Tn h t a)) M) : wX2_turnsOf Q M b (nI a) := by
  unfold wX2_turnsOf
  refine s_ruled hb 1 (by omega) rfl (s_ruled hb 2 (by omega) rfl ⟨12, ?_⟩)
  rw [e1, e2]
  have h2 := Sn_big ok
  have h3 : Sn h t 2001 ≤ Sn h t (0 + 2 ^ (10 + 1)) := Sn_mono (by decide)
  exact turns_loop ok ha hq 10 0 (by omega) (Nat.zero_le _) (by omega) (by decide)
-- ===== turnsOf of the reference =====
theorem mturns_loop {Q : Int32 → MM → Prop} {M : MM} {h t a : Nat} (ok : okHT h t) (ha : a ≤ 9999) (hq : Q (nI (Tn h t a)) M) : ∀ k n, n + k = Tn h t a + 1 → 0 < k → wX5_turnsOf_5 Q (nI a) (nI h) (nI t) k M (nI n) (nI (Sn h t n)) := by
  intro k
  induction k with
  | zero => intro n _ h0; omega
  | succ k ih =>
    intro n h1 _
    have hT := Tn_lt ok ha
    have hs := Sn_le ok.2.1 ok.2.2.2 (show n + 1 ≤ 10000 by omega)
    have e : (nI (Sn h t n) + nI h) + (nI t * nI n) = nI (Sn h t (n + 1)) := by rw [pk_mul, nI_add, nI_add, Sn]
    have e' : nI (Sn h t n) + (nI h + (nI t * nI n)) = nI (Sn h t (n + 1)) := by rw [pk_mul, nI_add, nI_add, Sn, Nat.add_assoc]
    refine ⟨fun q => ?_, fun q => ?_⟩
    · rw [e, nI_ltI (by omega) (by omega)] at q
      have h4 : n = Tn h t a := by
        have h5 : Sn h t n ≤ Sn h t (Tn h t a) := Sn_mono (by omega)
        exact Tn_uniq ok ha (by have := Tn_lo h t a; omega) q
      rw [h4]; exact hq
    · rw [e, nI_ltI (by omega) (by omega)] at q
      rintro _ rfl
      rw [e', nI_1]
      have h4 : n ≠ Tn h t a := by
        rintro rfl
        have := Tn_hi ok ha; omega
      exact ih (n + 1) (by omega) (by omega)
theorem m_turnsOf {Q : Int32 → MM → Prop} {M : MM} {h t a : Nat} (ok : okHT h t) (ha : a ≤ 9999) (hq : Q (nI (Tn h t a)) M) : wX5_turnsOf Q M (nI a) (nI h) (nI t) :=
  ⟨Tn h t a + 1, mturns_loop ok ha hq (Tn h t a + 1) 0 (by omega) (by omega)⟩
-- ===== a state of the tape, as numbers =====
abbrev SS : Type := (Nat × Nat × Nat) × ((Nat → Nat) × (Nat → Nat) × (Nat → Nat) × (Nat → Nat)) × (Nat × (Nat → Nat)) × (Nat × (Nat → Nat) × (Nat → Nat)) × (Int32 × Int32)
def sL (σ : SS) : Nat := σ.1.1
def sN (σ : SS) : Nat := σ.1.2.1
def sH (σ : SS) : Nat := σ.1.2.2
def sB (σ : SS) : Nat → Nat := σ.2.1.1
def sZ (σ : SS) : Nat → Nat := σ.2.1.2.1
def sC (σ : SS) : Nat → Nat := σ.2.1.2.2.1
def sO (σ : SS) : Nat → Nat := σ.2.1.2.2.2
def sY (σ : SS) : Nat := σ.2.2.1.1
def sT (σ : SS) : Nat → Nat := σ.2.2.1.2
def sW (σ : SS) : Nat := σ.2.2.2.1.1
def sP (σ : SS) : Nat → Nat := σ.2.2.2.1.2.1
def sX (σ : SS) : Nat → Nat := σ.2.2.2.1.2.2
def sK (σ : SS) : Int32 := σ.2.2.2.2.1
def sD (σ : SS) : Int32 := σ.2.2.2.2.2
/-- how long a block of n bytes is -/
def lgN (R : Nat → Nat) (n : Nat) : Nat := if n = 0 then 1 else (n + R 7) / R 7
def okR (R : Nat → Nat) : Prop := okHT (R 1) (R 2) ∧ (1 ≤ R 3 ∧ R 3 ≤ 99) ∧ (1 ≤ R 4 ∧ R 4 ≤ 99) ∧ R 5 ≤ 99 ∧ R 6 ≤ 99 ∧ (1 ≤ R 7 ∧ R 7 ≤ 9) ∧ R 8 ≤ 999
def okS (R : Nat → Nat) (σ : SS) : Prop :=
  (20 ≤ sL σ ∧ sL σ ≤ 9999) ∧ sN σ ≤ 12 ∧ sH σ ≤ sL σ ∧ (∀ j, j < sN σ → sZ σ j ≤ 12 ∧ sB σ j + lgN R (sZ σ j) ≤ sL σ) ∧
  (∀ i j, i < j → j < sN σ → sB σ i + lgN R (sZ σ i) ≤ sB σ j) ∧
  (∀ j, j < sN σ → ∀ i, i ≤ sZ σ j → sC σ (j * 13 + i) < 512) ∧ (∀ j, j < sN σ → ∀ i, i < sZ σ j → sO σ (j * 12 + i) < 256) ∧
  sY σ ≤ 12 ∧ (∀ i, i < sY σ → sT σ i < 256) ∧ sW σ ≤ 12 ∧ (∀ i, i < sW σ → sP σ i ≤ 999 ∧ sX σ i ≤ 9999) ∧ (sD σ = -4 ∨ ∃ t, t < 9 ∧ sD σ = nI t)
/-- the class's tape at b holds it -/
def clT (M : MM) (b : Nat) (R : Nat → Nat) (σ : SS) : Prop :=
  (M (b + 1) 0 = nI (sL σ) ∧ (∀ r, 1 ≤ r → r < 9 → M (b + 1) r = nI (R r))) ∧ M b 8 = nI (sN σ) ∧ M b 9 = nI (sH σ) ∧
  (∀ j, j < sN σ → M (b + 2) j = nI (sB σ j)) ∧ (∀ j, j < sN σ → M (b + 3) j = nI (sZ σ j)) ∧
  (∀ j, j < sN σ → ∀ i, i ≤ sZ σ j → M (b + 4) (j * 13 + i) = nI (sC σ (j * 13 + i))) ∧ (∀ j, j < sN σ → ∀ i, i < sZ σ j → M (b + 5) (j * 12 + i) = nI (sO σ (j * 12 + i))) ∧
  M b 11 = nI (sY σ) ∧ (∀ i, i < sY σ → M (b + 6) i = nI (sT σ i)) ∧ M b 13 = nI (sW σ) ∧ (∀ i, i < sW σ → M (b + 7) i = nI (sP σ i) ∧ M (b + 8) i = nI (sX σ i)) ∧
  M b 10 = sK σ ∧ M b 12 = sD σ
/-- the reference's row holds it, from o on -/
def mdT (M : MM) (o : Nat) (σ : SS) : Prop :=
  M 53 (o + 366) = nI (sL σ) ∧ M 53 o = nI (sN σ) ∧ M 53 (o + 325) = nI (sH σ) ∧
  (∀ j, j < sN σ → M 53 (o + (1 + j)) = nI (sB σ j)) ∧ (∀ j, j < sN σ → M 53 (o + (13 + j)) = nI (sZ σ j)) ∧
  (∀ j, j < sN σ → ∀ i, i ≤ sZ σ j → M 53 (o + (25 + (j * 13 + i))) = nI (sC σ (j * 13 + i))) ∧ (∀ j, j < sN σ → ∀ i, i < sZ σ j → M 53 (o + (181 + (j * 12 + i))) = nI (sO σ (j * 12 + i))) ∧
  M 53 (o + 327) = nI (sY σ) ∧ (∀ i, i < sY σ → M 53 (o + (328 + i)) = nI (sT σ i)) ∧ M 53 (o + 341) = nI (sW σ) ∧ (∀ i, i < sW σ → M 53 (o + (342 + 2 * i)) = nI (sP σ i) ∧ M 53 (o + (343 + 2 * i)) = nI (sX σ i)) ∧
  M 53 (o + 326) = sK σ ∧ M 53 (o + 340) = sD σ
def rlT (M : MM) (R : Nat → Nat) : Prop := ∀ r, 1 ≤ r → r < 9 → M 55 r = nI (R r)
def imT (M : MM) (R : Nat → Nat) : Prop := ∃ k0 k1 : Nat, k0 ≤ 1 ∧ k1 ≤ 1 ∧ M 0 11 = nI (k0 + 2 * k1) ∧ M 54 0 = nI k0 ∧ M 54 1 = nI k1 ∧ (k0 = 1 → ∃ σ, okS R σ ∧ clT M 10 R σ ∧ mdT M 400 σ) ∧ (k1 = 1 → ∃ σ, okS R σ ∧ clT M 19 R σ ∧ mdT M 800 σ)
def shT1 (M : MM) (s : Nat) : Prop := (M (44 + 2 * s) 1 = -1 ∧ M 64 s = -4) ∨ ∃ ln n : Nat, ln < 3 ∧ n ≤ 40 ∧ M (44 + 2 * s) 1 = nI ln ∧ M 64 s = nI ln ∧ M (44 + 2 * s) 2 = nI n ∧ M 65 s = nI n ∧ ∀ i, i < n → M (45 + 2 * s) i = M 66 (40 * s + i)
def shTs (M : MM) : Prop := ∀ s, s < 4 → shT1 M s
def txT (M : MM) : Prop := (∃ n : Nat, n ≤ 400 ∧ M 37 2 = nI n ∧ M 52 9 = nI n ∧ ∀ i, i < n → ∃ c : Nat, c < 256 ∧ (M 38 i) &&& 255 = nI c ∧ M 59 i = nI c) ∧ True ∧ M 0 10 = M 52 25
def Rel (M : MM) : Prop := ∃ (R : Nat → Nat) (σ : SS), okR R ∧ okS R σ ∧ clT M 1 R σ ∧ mdT M 0 σ ∧ rlT M R ∧ imT M R ∧ shTs M ∧ txT M
-- rows that stay
theorem clT.keep {M M1 : MM} {b : Nat} {R : Nat → Nat} {σ : SS} (h : clT M b R σ) (e : ∀ i, i < 9 → M1 (b + i) = M (b + i)) : clT M1 b R σ := by
  have e0 : M1 b = M b := e 0 (by omega)
  unfold clT
  rw [e0, e 1 (by omega), e 2 (by omega), e 3 (by omega), e 4 (by omega), e 5 (by omega), e 6 (by omega), e 7 (by omega), e 8 (by omega)]
  exact h
theorem mdT.keep {M M1 : MM} {o : Nat} {σ : SS} (h : mdT M o σ) (e : M1 53 = M 53) : mdT M1 o σ := by
  unfold mdT; rw [e]; exact h
theorem rlT.keep {M M1 : MM} {R : Nat → Nat} (h : rlT M R) (e : M1 55 = M 55) : rlT M1 R := by
  unfold rlT; rw [e]; exact h
/-- the images, where only other rows were written -/
theorem imT.keep {M M1 : MM} {R : Nat → Nat} (h : imT M R) (e0 : M1 0 11 = M 0 11) (e1 : ∀ k, 10 ≤ k → k < 28 → M1 k = M k) (e2 : ∀ j, 400 ≤ j → M1 53 j = M 53 j) (e3 : M1 54 = M 54) : imT M1 R := by
  obtain ⟨k0, k1, a0, a1, a2, a3, a4, a5, a6⟩ := h
  have md : ∀ o σ, 400 ≤ o → mdT M o σ → mdT M1 o σ := by
    intro o σ ho h
    unfold mdT
    rw [e2 _ (by omega), e2 _ (by omega), e2 _ (by omega), e2 (o + 327) (by omega), e2 (o + 341) (by omega), e2 (o + 326) (by omega), e2 (o + 340) (by omega)]
    obtain ⟨h1, h2, h3, h4, h5, h6, h7, h8, h9, h10, h11, h12, h13⟩ := h
    exact ⟨h1, h2, h3, fun j hj => by rw [e2 _ (by omega)]; exact h4 j hj, fun j hj => by rw [e2 _ (by omega)]; exact h5 j hj, fun j hj i hi => by rw [e2 _ (by omega)]; exact h6 j hj i hi, fun j hj i hi => by rw [e2 _ (by omega)]; exact h7 j hj i hi, h8, fun i hi => by rw [e2 _ (by omega)]; exact h9 i hi, h10, fun i hi => by rw [e2 _ (by omega), e2 _ (by omega)]; exact h11 i hi, h12, h13⟩
  refine ⟨k0, k1, a0, a1, by rw [e0]; exact a2, by rw [e3]; exact a3, by rw [e3]; exact a4, fun hk => ?_, fun hk => ?_⟩
  · obtain ⟨σ, b1, b2, b3⟩ := a5 hk
    exact ⟨σ, b1, b2.keep (fun i hi => e1 _ (by omega) (by omega)), md _ _ (by omega) b3⟩
  · obtain ⟨σ, b1, b2, b3⟩ := a6 hk
    exact ⟨σ, b1, b2.keep (fun i hi => e1 _ (by omega) (by omega)), md _ _ (by omega) b3⟩
theorem shTs.keep {M M1 : MM} (h : shTs M) (e1 : ∀ k, 44 ≤ k → k < 52 → M1 k = M k) (e2 : ∀ k, 64 ≤ k → k < 67 → M1 k = M k) : shTs M1 := by
  intro s hs
  unfold shT1
  rw [e1 _ (by omega) (by omega), e1 (45 + 2 * s) (by omega) (by omega), e2 64 (by omega) (by omega), e2 65 (by omega) (by omega), e2 66 (by omega) (by omega)]
  exact h s hs
theorem txT.keep {M M1 : MM} (h : txT M) (e1 : M1 37 = M 37) (e2 : M1 38 = M 38) (e3 : M1 59 = M 59) (e4 : M1 52 9 = M 52 9) (e5 : M1 52 14 = M 52 14) (e6 : M1 52 25 = M 52 25) (e7 : M1 0 9 = M 0 9) (e8 : M1 0 10 = M 0 10) : txT M1 := by
  unfold txT; rw [e1, e2, e3, e4, e6, e8]; exact h
-- ===== the memory's laws =====
theorem mrow_s {M : MM} {k : Nat} {f : Nat → Int32} : mrow M k f k = f := if_pos rfl
theorem mrow_n {M : MM} {k a : Nat} {f : Nat → Int32} (h : a ≠ k) : mrow M k f a = M a := if_neg h
theorem mset_n {M : MM} {k j a : Nat} {v : Int32} (h : a ≠ k) : mset M k j v a = M a := mrow_n h
theorem mset_s {M : MM} {k j : Nat} {v : Int32} : mset M k j v k = upd (M k) j v := mrow_s
theorem mset_ss {M : MM} {k j : Nat} {v : Int32} : mset M k j v k j = v := by rw [mset_s]; exact if_pos rfl
theorem mset_sn {M : MM} {k j i : Nat} {v : Int32} (h : i ≠ j) : mset M k j v k i = M k i := by rw [mset_s]; exact if_neg h
-- ===== branches on what is known =====
theorem br_nt {c A B : Prop} (h : c) (b : B) : (¬ c → A) ∧ (c → B) := ⟨fun q => absurd h q, fun _ => b⟩
theorem br_nf {c A B : Prop} (h : ¬ c) (a : A) : (¬ c → A) ∧ (c → B) := ⟨fun _ => a, fun q => absurd q h⟩
theorem zt1 {p : Prop} [Decidable p] {A B : Prop} (h : p) (a : A) : (¬ bI p = 0 → A) ∧ (bI p = 0 → B) := ⟨fun _ => a, fun q => absurd h (bI_0.mp q)⟩
theorem zt2 {p : Prop} [Decidable p] {A B : Prop} (h : p) (a : A) : (bI p = 0 → B) ∧ (¬ bI p = 0 → A) := ⟨fun q => absurd h (bI_0.mp q), fun _ => a⟩
theorem zf1 {p : Prop} [Decidable p] {A B : Prop} (h : ¬ p) (b : B) : (¬ bI p = 0 → A) ∧ (bI p = 0 → B) := ⟨fun q => absurd (bI_0.mpr h) q, fun _ => b⟩
theorem zf2 {p : Prop} [Decidable p] {A B : Prop} (h : ¬ p) (b : B) : (bI p = 0 → B) ∧ (¬ bI p = 0 → A) := ⟨fun _ => b, fun q => absurd (bI_0.mpr h) q⟩
-- ===== the reference's 'in' =====
theorem m_in {Q : Int32 → MM → Prop} {M : MM} {x lo hi : Int64} : wX5_in Q M x lo hi ↔ Q (bI (lo ≤ x ∧ x ≤ hi)) M := by
  unfold wX5_in wX5_in_17
  rw [lg_cmp_lt, lg_cmp_gt]
  by_cases h1 : x < lo
  · have h3 : ¬ (lo ≤ x ∧ x ≤ hi) := fun q => absurd q.1 (Int64.not_le.mpr h1)
    simp [h1, bI_f h3]
  · by_cases h2 : hi < x
    · have h3 : ¬ (lo ≤ x ∧ x ≤ hi) := fun q => absurd q.2 (Int64.not_le.mpr h2)
      simp [h1, h2, bI_f h3]
    · have h3 : lo ≤ x ∧ x ≤ hi := ⟨Int64.not_lt.mp h1, Int64.not_lt.mp h2⟩
      simp [h1, h2, bI_t h3]
theorem wide_le (a b : Int32) : a.toInt64 ≤ b.toInt64 ↔ a ≤ b := by
  rw [Int64.le_iff_toInt_le, Int32.le_iff_toInt_le, Int32.toInt_toInt64, Int32.toInt_toInt64]
theorem bI_cg {p q : Prop} [Decidable p] [Decidable q] (h : p ↔ q) : bI p = bI q := by
  by_cases hp : p
  · rw [bI_t hp, bI_t (h.mp hp)]
  · rw [bI_f hp, bI_f (fun x => hp (h.mpr x))]
theorem m_in32 {Q : Int32 → MM → Prop} {M : MM} {x : Int32} {lo' hi' : Int64} (lo hi : Int32) (e1 : lo' = lo.toInt64) (e2 : hi' = hi.toInt64) (hq : Q (bI (lo ≤ x ∧ x ≤ hi)) M) : wX5_in Q M x.toInt64 lo' hi' := by
  subst e1; subst e2
  rw [m_in, bI_cg (q := lo ≤ x ∧ x ≤ hi) (by rw [wide_le, wide_le])]
  exact hq
theorem m_isPlace {Q : Int32 → MM → Prop} {M : MM} {x : Int32} {L : Nat} (e : M 53 366 = nI L) (hq : Q (bI (0 ≤ x ∧ x ≤ nI L)) M) : wX5_isPlace Q M x := by
  unfold wX5_isPlace
  rw [e]
  exact m_in32 0 (nI L) rfl rfl ⟨nb_bI _, hq⟩
theorem s_hasPlace {Q : Int32 → MM → Prop} {M : MM} {b L : Nat} {x : Int32} (hb : tpB b) (e : M (b + 1) 0 = nI L) (hq : Q (bI (0 ≤ x ∧ x ≤ nI L)) M) : wX2_hasPlace Q M b x := by
  unfold wX2_hasPlace
  refine s_ruled hb 0 (by omega) rfl ?_
  rw [e]
  exact s_isBetween.mpr ⟨nb_bI _, hq⟩
/-- a number that lies from 0 to L -/
theorem pl_of {x : Int32} {L : Nat} (hL : L < 2 ^ 31) (h : 0 ≤ x ∧ x ≤ nI L) : ∃ j, j ≤ L ∧ x = nI j := nI_of2 (nI_toInt hL) (Int32.not_lt.mpr h.1) h.2
theorem pl_in {j L : Nat} (hj : j ≤ L) (hL : L < 2 ^ 31) : (0 : Int32) ≤ nI j ∧ nI j ≤ nI L := ⟨nI_pos' (by omega), nI_le hj hL⟩
theorem m_turnsAt {Q : Int32 → MM → Prop} {M : MM} {R : Nat → Nat} {a : Nat} (hR : okR R) (hr : rlT M R) (ha : a ≤ 9999) (hq : Q (nI (Tn (R 1) (R 2) a)) M) : wX5_turnsAt Q M (nI a) := by
  unfold wX5_turnsAt
  rw [hr 1 (by omega) (by omega), hr 2 (by omega) (by omega)]
  exact m_turnsOf hR.1 ha hq
theorem s_turnsR {Q : Int32 → MM → Prop} {M : MM} {b a : Nat} {R : Nat → Nat} {σ : SS} (hb : tpB b) (hR : okR R) (hc : clT M b R σ) (ha : a ≤ 9999) (hq : Q (nI (Tn (R 1) (R 2) a)) M) : wX2_turnsOf Q M b (nI a) :=
  s_turnsOf hb hR.1 (hc.1.2 1 (by omega) (by omega)) (hc.1.2 2 (by omega) (by omega)) ha hq
-- ===== TICKS =====
def dstN (x y : Nat) : Nat := (y - x) + (x - y)
def plN (R : Nat → Nat) (x y : Nat) : Nat := if x = y then 0 else R 5 + R 3 * dstN x y
def woN (R : Nat → Nat) (L x y : Nat) : Nat := if x = y then 0 else 2 * R 5 + R 4 * (if y ≤ x then Tn (R 1) (R 2) (L - y) - Tn (R 1) (R 2) (L - x) else Tn (R 1) (R 2) y - Tn (R 1) (R 2) x)
def soN (R : Nat → Nat) (L x y : Nat) : Nat := if woN R L x y < plN R x y then woN R L x y else plN R x y
theorem plN_lt {R : Nat → Nat} (hR : okR R) {x y : Nat} (hx : x ≤ 9999) (hy : y ≤ 9999) : plN R x y < 1000000 := by
  unfold plN dstN
  split
  · omega
  · have h1 : R 3 * ((y - x) + (x - y)) ≤ 99 * 9999 := Nat.mul_le_mul hR.2.1.2 (by omega)
    have h2 := hR.2.2.2.1
    omega
theorem woN_lt {R : Nat → Nat} (hR : okR R) {L x y : Nat} (hL : L ≤ 9999) (hx : x ≤ L) (hy : y ≤ L) : woN R L x y < 1000000 := by
  unfold woN
  split
  · omega
  · have h3 : (if y ≤ x then Tn (R 1) (R 2) (L - y) - Tn (R 1) (R 2) (L - x) else Tn (R 1) (R 2) y - Tn (R 1) (R 2) x) ≤ 2001 := by
      have a1 := Tn_lt (a := L - y) hR.1 (by omega)
      have a2 := Tn_lt (a := y) hR.1 (by omega)
      split <;> omega
    have h1 := Nat.mul_le_mul hR.2.2.1.2 h3
    have h2 := hR.2.2.2.1
    omega
theorem abs_dst {x y : Nat} (hx : x ≤ 9999) (hy : y ≤ 9999) : (if (0 : Int32) ≤ (nI y - nI x) then (nI y - nI x) else 0 - (nI y - nI x)) = nI (dstN x y) := by
  unfold dstN
  by_cases h : x ≤ y
  · rw [pk_sub h, if_pos (nI_pos' (by omega))]; congr 1; omega
  · rw [if_neg (Int32.not_le.mpr (pk_sneg (by omega) (by omega)))]
    have e : (0 : Int32) - (nI y - nI x) = nI x - nI y := by rw [Int32.zero_sub, Int32.neg_sub]
    rw [e, pk_sub (by omega)]; congr 1; omega
theorem s_played {Q : Int32 → MM → Prop} {M : MM} {b x y : Nat} {R : Nat → Nat} {σ : SS} (hb : tpB b) (hc : clT M b R σ) (hx : x ≤ 9999) (hy : y ≤ 9999) (hq : Q (nI (plN R x y)) M) : wX2_played Q M b (nI x) (nI y) := by
  unfold wX2_played
  rw [nI_eq (by omega) (by omega)]
  by_cases h : x = y
  · refine br_nt h ?_
    have e : plN R x y = 0 := if_pos h
    rw [e] at hq; exact hq
  · refine br_nf h (s_ruled hb 5 (by omega) rfl ?_)
    unfold wX2_playedThrough
    refine s_ruled hb 3 (by omega) rfl ?_
    rw [abs_dst hx hy, hc.1.2 5 (by omega) (by omega), hc.1.2 3 (by omega) (by omega), pk_mul]
    dsimp only
    rw [nI_add]
    have e : plN R x y = R 5 + R 3 * dstN x y := if_neg h
    rw [e] at hq; exact hq
theorem s_wound {Q : Int32 → MM → Prop} {M : MM} {b x y : Nat} {R : Nat → Nat} {σ : SS} (hb : tpB b) (hR : okR R) (hc : clT M b R σ) (hL : sL σ ≤ 9999) (hx : x ≤ sL σ) (hy : y ≤ sL σ) (hq : Q (nI (woN R (sL σ) x y)) M) : wX2_wound Q M b (nI x) (nI y) := by
  unfold wX2_wound
  rw [nI_eq (by omega) (by omega)]
  by_cases h : x = y
  · refine br_nt h ?_
    have e : woN R (sL σ) x y = 0 := if_pos h
    rw [e] at hq; exact hq
  · refine br_nf h (s_ruled hb 0 (by omega) rfl ?_)
    have e : woN R (sL σ) x y = 2 * R 5 + R 4 * (if y ≤ x then Tn (R 1) (R 2) (sL σ - y) - Tn (R 1) (R 2) (sL σ - x) else Tn (R 1) (R 2) y - Tn (R 1) (R 2) x) := if_neg h
    rw [hc.1.1, nI_leI (by omega) (by omega)]
    have fin : ∀ d, d = (if y ≤ x then Tn (R 1) (R 2) (sL σ - y) - Tn (R 1) (R 2) (sL σ - x) else Tn (R 1) (R 2) y - Tn (R 1) (R 2) x) → wX2_wound_47 Q b (nI x) (nI y) M (nI d) := by
      intro d hd
      unfold wX2_wound_47
      refine s_ruled hb 5 (by omega) rfl (s_ruled hb 4 (by omega) rfl ?_)
      rw [hc.1.2 5 (by omega) (by omega), hc.1.2 4 (by omega) (by omega), n2, pk_mul, pk_mul, nI_add, hd, ← e]
      exact hq
    by_cases g : y ≤ x
    · refine br_t g ?_
      rw [pk_sub hy]
      refine s_turnsR hb hR hc (by omega) ?_
      rw [pk_sub hx]
      refine s_turnsR hb hR hc (by omega) ?_
      rw [pk_sub (Tn_mono hR.1 (by omega) (by omega))]
      exact fin _ (by rw [if_pos g])
    · refine br_f g (s_turnsR hb hR hc (by omega) (s_turnsR hb hR hc (by omega) ?_))
      rw [pk_sub (Tn_mono hR.1 (by omega) (by omega))]
      exact fin _ (by rw [if_neg g])
theorem s_sooner {Q : Int32 → MM → Prop} {M : MM} {b x y : Nat} {R : Nat → Nat} {σ : SS} (hb : tpB b) (hR : okR R) (hc : clT M b R σ) (hL : sL σ ≤ 9999) (hx : x ≤ sL σ) (hy : y ≤ sL σ) (hq : Q (nI (soN R (sL σ) x y)) M) : wX2_sooner Q M b (nI x) (nI y) := by
  unfold wX2_sooner
  refine s_played hb hc (by omega) (by omega) (s_wound hb hR hc hL hx hy ?_)
  have h1 := plN_lt hR (x := x) (y := y) (by omega) (by omega)
  have h2 := woN_lt hR hL hx hy
  have e : (if nI (woN R (sL σ) x y) < nI (plN R x y) then nI (woN R (sL σ) x y) else nI (plN R x y)) = nI (soN R (sL σ) x y) := by
    unfold soN
    by_cases g : woN R (sL σ) x y < plN R x y
    · rw [if_pos g, if_pos ((nI_ltI (by omega) (by omega)).mpr g)]
    · rw [if_neg g, if_neg (fun q => g ((nI_ltI (by omega) (by omega)).mp q))]
  rw [e]; exact hq
theorem m_played {Q : Int32 → MM → Prop} {M : MM} {x y : Nat} {R : Nat → Nat} (hr : rlT M R) (hx : x ≤ 9999) (hy : y ≤ 9999) (hq : Q (nI (plN R x y)) M) : wX5_playedTo Q M (nI x) (nI y) := by
  unfold wX5_playedTo
  rw [nI_eq (by omega) (by omega)]
  by_cases h : x = y
  · refine br_nt h ?_
    have e : plN R x y = 0 := if_pos h
    rw [e] at hq; exact hq
  · refine br_nf h ?_
    have e : plN R x y = R 5 + R 3 * dstN x y := if_neg h
    rw [e] at hq
    unfold wX5_apart
    rw [nI_leI (by omega) (by omega), hr 5 (by omega) (by omega), hr 3 (by omega) (by omega)]
    by_cases g : y ≤ x
    · refine br_t g ?_
      rw [pk_sub g]
      dsimp only
      rw [pk_mul, nI_add]
      have e2 : dstN x y = x - y := by unfold dstN; omega
      rw [← e2]; exact hq
    · refine br_f g ?_
      rw [pk_sub (by omega)]
      dsimp only
      rw [pk_mul, nI_add]
      have e2 : dstN x y = y - x := by unfold dstN; omega
      rw [← e2]; exact hq
theorem m_wound {Q : Int32 → MM → Prop} {M : MM} {x y L : Nat} {R : Nat → Nat} (hR : okR R) (hr : rlT M R) (eL : M 53 366 = nI L) (hL : L ≤ 9999) (hx : x ≤ L) (hy : y ≤ L) (hq : Q (nI (woN R L x y)) M) : wX5_woundTo Q M (nI x) (nI y) := by
  unfold wX5_woundTo
  rw [nI_eq (by omega) (by omega)]
  by_cases h : x = y
  · refine br_nt h ?_
    have e : woN R L x y = 0 := if_pos h
    rw [e] at hq; exact hq
  · refine br_nf h ?_
    have e : woN R L x y = 2 * R 5 + R 4 * (if y ≤ x then Tn (R 1) (R 2) (L - y) - Tn (R 1) (R 2) (L - x) else Tn (R 1) (R 2) y - Tn (R 1) (R 2) x) := if_neg h
    rw [eL, nI_leI (by omega) (by omega)]
    have fin : ∀ d, d = (if y ≤ x then Tn (R 1) (R 2) (L - y) - Tn (R 1) (R 2) (L - x) else Tn (R 1) (R 2) y - Tn (R 1) (R 2) x) → wX5_woundTo_55 Q (nI x) (nI y) M (nI d) := by
      intro d hd
      unfold wX5_woundTo_55
      rw [hr 5 (by omega) (by omega), hr 4 (by omega) (by omega), n2, pk_mul, pk_mul, nI_add, hd, ← e]
      exact hq
    by_cases g : y ≤ x
    · refine br_t g ?_
      rw [pk_sub hy]
      refine m_turnsAt hR hr (by omega) ?_
      rw [eL, pk_sub hx]
      refine m_turnsAt hR hr (by omega) ?_
      rw [pk_sub (Tn_mono hR.1 (by omega) (by omega))]
      exact fin _ (by rw [if_pos g])
    · refine br_f g (m_turnsAt hR hr (by omega) (m_turnsAt hR hr (by omega) ?_))
      rw [pk_sub (Tn_mono hR.1 (by omega) (by omega))]
      exact fin _ (by rw [if_neg g])
theorem m_sooner {Q : Int32 → MM → Prop} {M : MM} {x y L : Nat} {R : Nat → Nat} (hR : okR R) (hr : rlT M R) (eL : M 53 366 = nI L) (hL : L ≤ 9999) (hx : x ≤ L) (hy : y ≤ L) (hq : Q (nI (soN R L x y)) M) : wX5_sooner Q M (nI x) (nI y) := by
  unfold wX5_sooner
  refine m_played hr (by omega) (by omega) (m_wound hR hr eL hL hx hy ?_)
  have h1 := plN_lt hR (x := x) (y := y) (by omega) (by omega)
  have h2 := woN_lt hR hL hx hy
  unfold wX5_less
  rw [nI_leI (by omega) (by omega)]
  by_cases g : woN R L x y ≤ plN R x y
  · refine br_t g ?_
    have e : soN R L x y = woN R L x y := by unfold soN; split <;> omega
    rw [e] at hq; exact hq
  · refine br_f g ?_
    have e : soN R L x y = plN R x y := by unfold soN; split <;> omega
    rw [e] at hq; exact hq
-- ===== pairs: rule, turns, ticks, fault, torn =====
/-- what the law asks of a pair of answers -/
def PQ (r : Int32) : Int32 → MM → Prop := fun r2 M2 => r = r2 ∧ Rel M2
/-- which fault is told: where both hold the same -/
theorem L_fault1 {M : MM} (h : Rel M) (e : M 0 9 = M 52 14) : wX4_fault (fun r M1 => wX5_fault (PQ r) M1) M := by
  unfold wX4_fault wX5_fault
  exact ⟨e, h⟩
theorem L_fault {M : MM} (h : Rel M) : wX4_fault (fun _ M1 => wX5_fault (fun _ M2 => Rel M2) M1) M := by
  unfold wX4_fault wX5_fault
  exact h
theorem L_torn {M : MM} (h : Rel M) : wX4_torn (fun r M1 => wX5_torn (PQ r) M1) M := by
  unfold wX4_torn wX5_torn
  have h1 : txT M := by obtain ⟨_, _, _, _, _, _, _, _, _, h8⟩ := h; exact h8
  exact ⟨h1.2.2, h⟩
theorem L_turns {M : MM} (h : Rel M) (x l : Int32) : wX4_turns (fun r M1 => wX5_turns (PQ r) M1 x l) M x l := by
  obtain ⟨R, σ, hR, hS, hc, hm, hr, -⟩ := id h
  have hL := hS.1.2
  have hb : tpB 1 := Or.inl rfl
  unfold wX4_turns
  refine s_hasPlace hb hc.1.1 ?_
  by_cases hp : (0 : Int32) ≤ x ∧ x ≤ nI (sL σ)
  · obtain ⟨j, hj, rfl⟩ := pl_of (by omega) hp
    have md : ∀ r a, (a = if l = 0 then j else sL σ - j) → r = nI (Tn (R 1) (R 2) a) → wX5_turns (PQ r) M (nI j) l := by
      intro r a ha hr2
      unfold wX5_turns
      refine m_isPlace hm.1 (zt1 hp ?_)
      unfold wX5_turns_31
      by_cases hl : l = 0
      · rw [if_pos hl] at ha
        exact br_t hl (m_turnsAt hR hr (by omega) ⟨by rw [hr2, ha], h⟩)
      · rw [if_neg hl] at ha
        refine br_f hl ?_
        rw [hm.1, pk_sub hj]
        exact m_turnsAt hR hr (by omega) ⟨by rw [hr2, ha], h⟩
    refine zt1 hp ?_
    by_cases hl : l = 0
    · exact br_t hl (s_turnsR hb hR hc (by omega) (md _ j (by rw [if_pos hl]) rfl))
    · refine br_f hl ?_
      unfold wX2_leftTurns
      refine s_ruled hb 0 (by omega) rfl ?_
      rw [hc.1.1, pk_sub hj]
      exact s_turnsR hb hR hc (by omega) (md _ _ (by rw [if_neg hl]) rfl)
  · refine zf1 hp ?_
    unfold wX5_turns
    exact m_isPlace hm.1 (zf1 hp ⟨rfl, h⟩)
theorem L_ticks {M : MM} (h : Rel M) (x y w : Int32) : wX4_ticks (fun r M1 => wX5_ticks (PQ r) M1 x y w) M x y w := by
  obtain ⟨R, σ, hR, hS, hc, hm, hr, -⟩ := id h
  have hL := hS.1.2
  have hb : tpB 1 := Or.inl rfl
  unfold wX4_ticks
  refine s_hasPlace hb hc.1.1 ?_
  by_cases hp : (0 : Int32) ≤ x ∧ x ≤ nI (sL σ)
  · refine zt2 hp (s_hasPlace hb hc.1.1 ?_)
    by_cases hp2 : (0 : Int32) ≤ y ∧ y ≤ nI (sL σ)
    · refine zt1 hp2 ?_
      obtain ⟨i, hi, rfl⟩ := pl_of (by omega) hp
      obtain ⟨j, hj, rfl⟩ := pl_of (by omega) hp2
      have md : ∀ r, ((w = 0 ∧ r = nI (plN R i j)) ∨ (w = 1 ∧ r = nI (woN R (sL σ) i j)) ∨ (w = 2 ∧ r = nI (soN R (sL σ) i j)) ∨ (¬ (0 ≤ w ∧ w ≤ 2) ∧ r = -1)) → wX5_ticks (PQ r) M (nI i) (nI j) w := by
        intro r hw
        unfold wX5_ticks
        refine m_isPlace hm.1 (zt2 hp (m_isPlace hm.1 (zt2 hp2 (m_in32 0 2 rfl rfl ?_))))
        rcases hw with ⟨rfl, rfl⟩ | ⟨rfl, rfl⟩ | ⟨rfl, rfl⟩ | ⟨hw, rfl⟩
        · exact zt1 (by decide) (br_nt rfl (m_played hr (by omega) (by omega) ⟨rfl, h⟩))
        · exact zt1 (by decide) (br_nf (by decide) (br_nt rfl (m_wound hR hr hm.1 hL hi hj ⟨rfl, h⟩)))
        · exact zt1 (by decide) (br_nf (by decide) (br_nf (by decide) (m_sooner hR hr hm.1 hL hi hj ⟨rfl, h⟩)))
        · exact zf1 hw ⟨rfl, h⟩
      by_cases h0 : w = 0
      · exact br_t h0 (s_played hb hc (by omega) (by omega) (md _ (Or.inl ⟨h0, rfl⟩)))
      refine br_f h0 ?_
      by_cases h1 : w = 1
      · exact br_t h1 (s_wound hb hR hc hL hi hj (md _ (Or.inr (Or.inl ⟨h1, rfl⟩))))
      refine br_f h1 ?_
      by_cases h2 : w = 2
      · exact br_t h2 (s_sooner hb hR hc hL hi hj (md _ (Or.inr (Or.inr (Or.inl ⟨h2, rfl⟩)))))
      refine br_f h2 (md _ (Or.inr (Or.inr (Or.inr ⟨fun q => ?_, rfl⟩))))
      obtain ⟨k, hk, rfl⟩ := pl_of (L := 2) (by omega) q
      have : k = 0 ∨ k = 1 ∨ k = 2 := by omega
      rcases this with rfl | rfl | rfl
      · exact h0 rfl
      · exact h1 rfl
      · exact h2 rfl
    · refine zf1 hp2 ?_
      unfold wX5_ticks
      exact m_isPlace hm.1 (zt2 hp (m_isPlace hm.1 (zf2 hp2 ⟨rfl, h⟩)))
  · refine zf2 hp ?_
    unfold wX5_ticks
    exact m_isPlace hm.1 (zf2 hp ⟨rfl, h⟩)
-- ===== a state's parts set anew =====
def uH (σ : SS) (h : Nat) (k : Int32) : SS := ((sL σ, sN σ, h), σ.2.1, σ.2.2.1, σ.2.2.2.1, (k, sD σ))
def uD (σ : SS) (d : Int32) : SS := (σ.1, σ.2.1, σ.2.2.1, σ.2.2.2.1, (sK σ, d))
/-- another head, other ticks, another dead track; all else as it was -/
theorem clT.obj {M M1 : MM} {b : Nat} {R : Nat → Nat} {σ σ' : SS} (h : clT M b R σ) (e : ∀ i, 1 ≤ i → i < 9 → M1 (b + i) = M (b + i)) (eL : sL σ' = sL σ) (eN : sN σ' = sN σ) (e2 : σ'.2.1 = σ.2.1) (e3 : σ'.2.2.1 = σ.2.2.1) (e4 : σ'.2.2.2.1 = σ.2.2.2.1) (f8 : M1 b 8 = M b 8) (f11 : M1 b 11 = M b 11) (f13 : M1 b 13 = M b 13) (f9 : M1 b 9 = nI (sH σ')) (f10 : M1 b 10 = sK σ') (f12 : M1 b 12 = sD σ') : clT M1 b R σ' := by
  unfold clT
  have a1 : sB σ' = sB σ := by unfold sB; rw [e2]
  have a2 : sZ σ' = sZ σ := by unfold sZ; rw [e2]
  have a3 : sC σ' = sC σ := by unfold sC; rw [e2]
  have a4 : sO σ' = sO σ := by unfold sO; rw [e2]
  have a5 : sY σ' = sY σ := by unfold sY; rw [e3]
  have a6 : sT σ' = sT σ := by unfold sT; rw [e3]
  have a7 : sW σ' = sW σ := by unfold sW; rw [e4]
  have a8 : sP σ' = sP σ := by unfold sP; rw [e4]
  have a9 : sX σ' = sX σ := by unfold sX; rw [e4]
  rw [e 1 (by omega) (by omega), e 2 (by omega) (by omega), e 3 (by omega) (by omega), e 4 (by omega) (by omega), e 5 (by omega) (by omega), e 6 (by omega) (by omega), e 7 (by omega) (by omega), e 8 (by omega) (by omega), f8, f9, f10, f11, f12, f13, eL, eN, a1, a2, a3, a4, a5, a6, a7, a8, a9]
  obtain ⟨h1, h2, -, h4, h5, h6, h7, h8, h9, h10, h11, -, -⟩ := h
  exact ⟨h1, h2, rfl, h4, h5, h6, h7, h8, h9, h10, h11, rfl, rfl⟩
theorem mdT.obj {M M1 : MM} {σ σ' : SS} (h : mdT M 0 σ) (hS : sN σ ≤ 12 ∧ sY σ ≤ 12 ∧ sW σ ≤ 12) (hZ : ∀ j, j < sN σ → sZ σ j ≤ 12) (e : ∀ j, j ≠ 325 → j ≠ 326 → j ≠ 340 → M1 53 j = M 53 j) (eL : sL σ' = sL σ) (eN : sN σ' = sN σ) (e2 : σ'.2.1 = σ.2.1) (e3 : σ'.2.2.1 = σ.2.2.1) (e4 : σ'.2.2.2.1 = σ.2.2.2.1) (f9 : M1 53 325 = nI (sH σ')) (f10 : M1 53 326 = sK σ') (f12 : M1 53 340 = sD σ') : mdT M1 0 σ' := by
  unfold mdT
  have a1 : sB σ' = sB σ := by unfold sB; rw [e2]
  have a2 : sZ σ' = sZ σ := by unfold sZ; rw [e2]
  have a3 : sC σ' = sC σ := by unfold sC; rw [e2]
  have a4 : sO σ' = sO σ := by unfold sO; rw [e2]
  have a5 : sY σ' = sY σ := by unfold sY; rw [e3]
  have a6 : sT σ' = sT σ := by unfold sT; rw [e3]
  have a7 : sW σ' = sW σ := by unfold sW; rw [e4]
  have a8 : sP σ' = sP σ := by unfold sP; rw [e4]
  have a9 : sX σ' = sX σ := by unfold sX; rw [e4]
  rw [eL, eN, a1, a2, a3, a4, a5, a6, a7, a8, a9, e (0 + 366) (by omega) (by omega) (by omega), e 0 (by omega) (by omega) (by omega), e (0 + 327) (by omega) (by omega) (by omega), e (0 + 341) (by omega) (by omega) (by omega)]
  obtain ⟨h1, h2, -, h4, h5, h6, h7, h8, h9, h10, h11, -, -⟩ := h
  refine ⟨h1, h2, f9, fun j hj => ?_, fun j hj => ?_, fun j hj i hi => ?_, fun j hj i hi => ?_, h8, fun i hi => ?_, h10, fun i hi => ?_, f10, f12⟩
  · rw [e _ (by omega) (by omega) (by omega)]; exact h4 j hj
  · rw [e _ (by omega) (by omega) (by omega)]; exact h5 j hj
  · have := hZ j hj
    rw [e _ (by omega) (by omega) (by omega)]; exact h6 j hj i hi
  · have := hZ j hj
    rw [e _ (by omega) (by omega) (by omega)]; exact h7 j hj i hi
  · rw [e _ (by omega) (by omega) (by omega)]; exact h9 i hi
  · rw [e _ (by omega) (by omega) (by omega), e _ (by omega) (by omega) (by omega)]; exact h11 i hi
def keepP (k : Nat) : Prop := k = 0 ∨ (10 ≤ k ∧ k < 39) ∨ (44 ≤ k ∧ k < 52) ∨ (54 ≤ k ∧ k < 56) ∨ k = 59 ∨ (64 ≤ k ∧ k < 67)
/-- a call that changes the tape alone (and what is laid aside) -/
theorem Rel.step {M M2 : MM} {R : Nat → Nat} {σ' : SS} (hR : okR R) (hS : okS R σ') (hc : clT M2 1 R σ') (hm : mdT M2 0 σ') (hr : rlT M R) (him : imT M R) (hsh : shTs M) (htx : txT M) (hk : ∀ k, keepP k → M2 k = M k) (h53 : ∀ j, 400 ≤ j → M2 53 j = M 53 j) (h52 : M2 52 9 = M 52 9 ∧ M2 52 14 = M 52 14 ∧ M2 52 25 = M 52 25) : Rel M2 := by
  have k : ∀ a, keepP a → M2 a = M a := hk
  refine ⟨R, σ', hR, hS, hc, hm, hr.keep (k 55 (by unfold keepP; omega)), him.keep (by rw [k 0 (by unfold keepP; omega)]) (fun a h1 h2 => k a (by unfold keepP; omega)) h53 (k 54 (by unfold keepP; omega)), hsh.keep (fun a h1 h2 => k a (by unfold keepP; omega)) (fun a h1 h2 => k a (by unfold keepP; omega)), htx.keep (k 37 (by unfold keepP; omega)) (k 38 (by unfold keepP; omega)) (k 59 (by unfold keepP; omega)) h52.1 h52.2.1 h52.2.2 (by rw [k 0 (by unfold keepP; omega)]) (by rw [k 0 (by unfold keepP; omega)])⟩
theorem okS.uH {R : Nat → Nat} {σ : SS} (h : okS R σ) {x : Nat} (hx : x ≤ sL σ) (k : Int32) : okS R (uH σ x k) := by
  obtain ⟨h1, h2, h3, h4⟩ := h
  exact ⟨h1, h2, hx, h4⟩
theorem okS.uD {R : Nat → Nat} {σ : SS} (h : okS R σ) {d : Int32} (hd : d = -4 ∨ ∃ t, t < 9 ∧ d = nI t) : okS R (uD σ d) := by
  obtain ⟨h1, h2, h3, h4, h5, h6, h7, h8, h9, h10, h11, -⟩ := h
  exact ⟨h1, h2, h3, h4, h5, h6, h7, h8, h9, h10, h11, hd⟩
theorem okS.n3 {R : Nat → Nat} {σ : SS} (h : okS R σ) : sN σ ≤ 12 ∧ sY σ ≤ 12 ∧ sW σ ≤ 12 := ⟨h.2.1, h.2.2.2.2.2.2.2.1, h.2.2.2.2.2.2.2.2.2.1⟩
theorem okS.z12 {R : Nat → Nat} {σ : SS} (h : okS R σ) : ∀ j, j < sN σ → sZ σ j ≤ 12 := fun j hj => (h.2.2.2.1 j hj).1
-- ===== go =====
theorem L_go {M : MM} (h : Rel M) (x : Int32) : wX4_go (fun r M1 => wX5_go (PQ r) M1 x) M x := by
  obtain ⟨R, σ, hR, hS, hc, hm, hr, him, hsh, htx⟩ := id h
  have hL := hS.1.2
  have hH := hS.2.2.1
  have hb : tpB 1 := Or.inl rfl
  unfold wX4_go
  refine s_hasPlace hb hc.1.1 ?_
  by_cases hp : (0 : Int32) ≤ x ∧ x ≤ nI (sL σ)
  · obtain ⟨j, hj, rfl⟩ := pl_of (by omega) hp
    refine zt2 hp ?_
    unfold wX2_goTo
    rw [hc.2.2.1]
    refine s_sooner hb hR hc hL hH hj ?_
    rintro M3 rfl M4 rfl
    unfold wX5_go
    refine m_isPlace (L := sL σ) (by simpa [mset, mrow] using hm.1) (zt2 hp ?_)
    unfold wX5_goesTo
    have e325 : mset (mset M 1 9 (nI j)) 1 10 (mset M 1 9 (nI j) 1 10 + nI (soN R (sL σ) (sH σ) j)) 53 325 = nI (sH σ) := by simpa [mset, mrow] using hm.2.2.1
    rw [e325]
    refine m_sooner hR (hr.keep (by simp [mset, mrow])) (by simpa [mset, mrow] using hm.1) hL hH hj ?_
    rintro M5 rfl M6 rfl
    refine ⟨rfl, ?_⟩
    refine Rel.step (σ' := uH σ j (sK σ + nI (soN R (sL σ) (sH σ) j))) hR (hS.uH hj _) ?_ ?_ hr him hsh htx ?_ ?_ ?_
    · refine hc.obj (fun i h1 h2 => ?_) rfl rfl rfl rfl rfl ?_ ?_ ?_ ?_ ?_ ?_
      · have : 1 + i ≠ 53 := by omega
        have : i ≠ 0 := by omega
        simp [mset, mrow, *]
      · simp [mset, mrow, upd]
      · simp [mset, mrow, upd]
      · simp [mset, mrow, upd]
      · simp [mset, mrow, upd, uH, sH]
      · simp [mset, mrow, upd, uH, sK]; exact hc.2.2.2.2.2.2.2.2.2.2.2.1
      · simp [mset, mrow, upd, uH, sD]; exact hc.2.2.2.2.2.2.2.2.2.2.2.2
    · refine hm.obj hS.n3 hS.z12 (fun i h1 h2 h3 => ?_) rfl rfl rfl rfl rfl ?_ ?_ ?_
      · simp [mset, mrow, upd, h1, h2]
      · simp [mset, mrow, upd, uH, sH]
      · simp [mset, mrow, upd, uH, sK]; exact hm.2.2.2.2.2.2.2.2.2.2.2.1
      · simp [mset, mrow, upd, uH, sD]; exact hm.2.2.2.2.2.2.2.2.2.2.2.2
    · intro k hk
      have h1 : k ≠ 1 := by unfold keepP at hk; omega
      have h2 : k ≠ 53 := by unfold keepP at hk; omega
      simp [mset, mrow, h1, h2]
    · intro k hk
      have h1 : k ≠ 325 := by omega
      have h2 : k ≠ 326 := by omega
      simp [mset, mrow, upd, h1, h2]
    · simp [mset, mrow]
  · refine zf2 hp ?_
    unfold wX5_go
    exact m_isPlace hm.1 (zf2 hp ⟨rfl, h⟩)
-- ===== rule, dead, forget =====
theorem L_rule {M : MM} (h : Rel M) (x : Int32) : wX4_rule (fun r M1 => wX5_rule (PQ r) M1 x) M x := by
  obtain ⟨R, σ, hR, hS, hc, hm, hr, -⟩ := id h
  have hb : tpB 1 := Or.inl rfl
  unfold wX4_rule
  refine s_isBetween.mpr ?_
  by_cases hp : (0 : Int32) ≤ x ∧ x ≤ 8
  · obtain ⟨j, hj, rfl⟩ := pl_of (L := 8) (by omega) hp
    refine zt2 hp (s_ruled hb j (by omega) rfl ?_)
    unfold wX5_rule
    by_cases h0 : nI j = 0
    · have : j = 0 := (nI_eq (b := 0) (by omega) (by omega)).mp h0
      subst this
      refine br_nt rfl ⟨?_, h⟩
      rw [hc.1.1]; exact hm.1.symm
    · refine br_nf h0 ?_
      have hj1 : 1 ≤ j := by
        rcases Nat.eq_zero_or_pos j with q | q
        · subst q; exact absurd rfl h0
        · exact q
      refine m_in32 1 8 rfl rfl (zt2 ⟨(show nI 1 ≤ nI j from nI_le hj1 (by omega)), (show nI j ≤ nI 8 from nI_le hj (by omega))⟩ ⟨vp_nI (N := alen 55) (by show j < 9; omega) (by decide +kernel), ?_, h⟩)
      rw [clamp_nI (by omega), hc.1.2 j hj1 (by omega), hr j hj1 (by omega)]
  · refine zf2 hp ?_
    unfold wX5_rule
    by_cases h0 : x = 0
    · subst h0; exact absurd (by decide) hp
    · refine br_nf h0 (m_in32 1 8 rfl rfl (zf2 (fun q => hp ⟨?_, q.2⟩) ⟨rfl, h⟩))
      exact Int32.le_trans (by decide) q.1
-- ===== dead, forget, end =====
theorem L_dead {M : MM} (h : Rel M) (x : Int32) : wX4_dead (fun r M1 => wX5_dead (PQ r) M1 x) M x := by
  obtain ⟨R, σ, hR, hS, hc, hm, hr, him, hsh, htx⟩ := id h
  have fin : (x = -4 ∨ ∃ t, t < 9 ∧ x = nI t) → wX4_dead_18 (fun r M1 => wX5_dead_15 (PQ r) x M1) x M := by
    intro hx
    unfold wX4_dead_18
    rintro M3 rfl
    unfold wX5_dead_15
    rintro M4 rfl
    have e1 : M 1 12 = sD σ := hc.2.2.2.2.2.2.2.2.2.2.2.2
    have e2 : M 53 340 = sD σ := hm.2.2.2.2.2.2.2.2.2.2.2.2
    refine ⟨by rw [e1]; simp [mset, mrow, e2], ?_⟩
    refine Rel.step (σ' := uD σ x) hR (hS.uD hx) ?_ ?_ hr him hsh htx ?_ ?_ ?_
    · refine hc.obj (fun i h1 h2 => ?_) rfl rfl rfl rfl rfl ?_ ?_ ?_ ?_ ?_ ?_
      · have : 1 + i ≠ 53 := by omega
        have : i ≠ 0 := by omega
        simp [mset, mrow, *]
      · simp [mset, mrow, upd]
      · simp [mset, mrow, upd]
      · simp [mset, mrow, upd]
      · simp [mset, mrow, upd, uD, sH]; exact hc.2.2.1
      · simp [mset, mrow, upd, uD, sK]; exact hc.2.2.2.2.2.2.2.2.2.2.2.1
      · simp [mset, mrow, upd, uD, sD]
    · refine hm.obj hS.n3 hS.z12 (fun i h1 h2 h3 => ?_) rfl rfl rfl rfl rfl ?_ ?_ ?_
      · simp [mset, mrow, upd, h3]
      · simp [mset, mrow, upd, uD, sH]; exact hm.2.2.1
      · simp [mset, mrow, upd, uD, sK]; exact hm.2.2.2.2.2.2.2.2.2.2.2.1
      · simp [mset, mrow, upd, uD, sD]
    · intro k hk
      have h1 : k ≠ 1 := by unfold keepP at hk; omega
      have h2 : k ≠ 53 := by unfold keepP at hk; omega
      simp [mset, mrow, h1, h2]
    · intro k hk
      have h1 : k ≠ 340 := by omega
      simp [mset, mrow, upd, h1]
    · simp [mset, mrow]
  unfold wX4_dead wX5_dead
  by_cases h4 : x = -4
  · have g := fin (Or.inl h4)
    unfold wX4_dead_18 at g ⊢
    exact br_t h4 (fun M3 e => br_t h4 (g M3 e))
  · refine br_f h4 (s_isBetween.mpr ?_)
    by_cases hp : (0 : Int32) ≤ x ∧ x ≤ 8
    · obtain ⟨j, hj, e⟩ := pl_of (L := 8) (by omega) hp
      have g := fin (Or.inr ⟨j, by omega, e⟩)
      unfold wX4_dead_18 at g ⊢
      refine zt1 hp (fun M3 e => br_f h4 ?_)
      unfold wX5_isTrack
      exact m_in32 0 8 rfl rfl ⟨nb_bI _, zt1 hp (g M3 e)⟩
    · refine zf1 hp (br_f h4 ?_)
      unfold wX5_isTrack
      exact m_in32 0 8 rfl rfl ⟨nb_bI _, zf1 hp ⟨rfl, h⟩⟩
def uW (σ : SS) (w : Nat) (p x : Nat → Nat) : SS := (σ.1, σ.2.1, σ.2.2.1, (w, p, x), σ.2.2.2.2)
def uY (σ : SS) (y : Nat) (t : Nat → Nat) : SS := (σ.1, σ.2.1, (y, t), σ.2.2.2.1, σ.2.2.2.2)
theorem clT.seen {M M1 : MM} {R : Nat → Nat} {σ : SS} (h : clT M 1 R σ) (w : Nat) (p x : Nat → Nat) (e : ∀ k, 2 ≤ k → k < 8 → M1 k = M k) (f : ∀ j, j ≠ 13 → M1 1 j = M 1 j) (f13 : M1 1 13 = nI w) (g : ∀ i, i < w → M1 8 i = nI (p i) ∧ M1 9 i = nI (x i)) : clT M1 1 R (uW σ w p x) := by
  obtain ⟨h1, h2, h3, h4, h5, h6, h7, h8, h9, h10, h11, h12, h13⟩ := h
  unfold clT
  rw [e (1 + 1) (by omega) (by omega), e (1 + 2) (by omega) (by omega), e (1 + 3) (by omega) (by omega), e (1 + 4) (by omega) (by omega), e (1 + 5) (by omega) (by omega), e (1 + 6) (by omega) (by omega), f 8 (by omega), f 9 (by omega), f 11 (by omega), f 10 (by omega), f 12 (by omega), f13]
  exact ⟨h1, h2, h3, h4, h5, h6, h7, h8, h9, rfl, g, h12, h13⟩
theorem mdT.seen {M M1 : MM} {σ : SS} (h : mdT M 0 σ) (hS : sN σ ≤ 12 ∧ sY σ ≤ 12 ∧ sW σ ≤ 12) (hZ : ∀ j, j < sN σ → sZ σ j ≤ 12) (w : Nat) (p x : Nat → Nat) (e : ∀ j, (j < 341 ∨ 366 ≤ j) → M1 53 j = M 53 j) (f13 : M1 53 341 = nI w) (g : ∀ i, i < w → M1 53 (342 + 2 * i) = nI (p i) ∧ M1 53 (343 + 2 * i) = nI (x i)) : mdT M1 0 (uW σ w p x) := by
  obtain ⟨h1, h2, h3, h4, h5, h6, h7, h8, h9, h10, h11, h12, h13⟩ := h
  refine ⟨?_, ?_, ?_, fun j hj => ?_, fun j hj => ?_, fun j hj i hi => ?_, fun j hj i hi => ?_, ?_, fun i hi => ?_, f13, fun i hi => ?_, ?_, ?_⟩
  · rw [e _ (by omega)]; exact h1
  · rw [e _ (by omega)]; exact h2
  · rw [e _ (by omega)]; exact h3
  · have : j < sN σ := hj
    rw [e _ (by omega)]; exact h4 j hj
  · have : j < sN σ := hj
    rw [e _ (by omega)]; exact h5 j hj
  · have := hZ j hj
    have hj' : j < sN σ := hj
    have hi' : i ≤ sZ σ j := hi
    rw [e _ (by omega)]; exact h6 j hj i hi
  · have := hZ j hj
    have hj' : j < sN σ := hj
    have hi' : i < sZ σ j := hi
    rw [e _ (by omega)]; exact h7 j hj i hi
  · rw [e _ (by omega)]; exact h8
  · have hi' : i < sY σ := hi
    rw [e _ (by omega)]; exact h9 i hi
  · have := g i hi
    rw [Nat.zero_add, Nat.zero_add]; exact this
  · rw [e _ (by omega)]; exact h12
  · rw [e _ (by omega)]; exact h13
theorem okS.uW {R : Nat → Nat} {σ : SS} (h : okS R σ) {w : Nat} {p x : Nat → Nat} (hw : w ≤ 12) (g : ∀ i, i < w → p i ≤ 999 ∧ x i ≤ 9999) : okS R (uW σ w p x) := by
  obtain ⟨h1, h2, h3, h4, h5, h6, h7, h8, h9, -, -, h12⟩ := h
  exact ⟨h1, h2, h3, h4, h5, h6, h7, h8, h9, hw, g, h12⟩
theorem L_forget {M : MM} (h : Rel M) : wX4_forget (fun r M1 => wX5_forget (PQ r) M1) M := by
  obtain ⟨R, σ, hR, hS, hc, hm, hr, him, hsh, htx⟩ := id h
  unfold wX4_forget
  rintro M1 rfl
  unfold wX5_forget
  rintro M2 rfl
  have e1 : M 1 13 = nI (sW σ) := hc.2.2.2.2.2.2.2.2.2.1
  have e2 : M 53 341 = nI (sW σ) := hm.2.2.2.2.2.2.2.2.2.1
  refine ⟨by rw [e1]; simp [mset, mrow, e2], ?_⟩
  refine Rel.step (σ' := uW σ 0 (fun _ => 0) (fun _ => 0)) hR (hS.uW (by omega) (fun i hi => by omega)) ?_ ?_ hr him hsh htx ?_ ?_ ?_
  · refine hc.seen 0 _ _ (fun k h1 h2 => ?_) (fun j hj => ?_) ?_ (fun i hi => by omega)
    · have a1 : k ≠ 53 := by omega
      have a2 : k ≠ 1 := by omega
      simp [mset, mrow, a1, a2]
    · simp [mset, mrow, upd, hj]
    · simp [mset, mrow, upd]; rfl
  · refine hm.seen hS.n3 hS.z12 0 _ _ (fun j hj => ?_) ?_ (fun i hi => by omega)
    · have a1 : j ≠ 341 := by omega
      simp [mset, mrow, upd, a1]
    · simp [mset, mrow, upd]; rfl
  · intro k hk
    have h1 : k ≠ 1 := by unfold keepP at hk; omega
    have h2 : k ≠ 53 := by unfold keepP at hk; omega
    simp [mset, mrow, h1, h2]
  · intro k hk
    have h1 : k ≠ 341 := by omega
    simp [mset, mrow, upd, h1]
  · simp [mset, mrow]
theorem vp_of {i : Int32} {n N : Nat} (e : i = nI n) (h : n < N) (hN : N < 2 ^ 31) : vp_in i N := by rw [e]; exact vp_nI h hN
theorem a53 : alen 53 = 1200 := by decide +kernel
theorem L_saw {M : MM} (h : Rel M) (c x : Int32) : wX4_saw (fun r M1 => wX5_saw (PQ r) M1 c x) M c x := by
  obtain ⟨R, σ, hR, hS, hc, hm, hr, him, hsh, htx⟩ := id h
  have e1 : M 1 13 = nI (sW σ) := hc.2.2.2.2.2.2.2.2.2.1
  have e2 : M 53 341 = nI (sW σ) := hm.2.2.2.2.2.2.2.2.2.1
  have hW : sW σ ≤ 12 := hS.n3.2.2
  unfold wX4_saw
  refine s_isBetween.mpr ?_
  by_cases hp : (0 : Int32) ≤ c ∧ c ≤ 999
  · refine zt2 hp (s_isBetween.mpr ?_)
    by_cases hp2 : (0 : Int32) ≤ x ∧ x ≤ 9999
    · obtain ⟨a, ha, rfl⟩ := pl_of (L := 999) (by omega) hp
      obtain ⟨d, hd, rfl⟩ := pl_of (L := 9999) (by omega) hp2
      refine zt1 hp2 ?_
      rw [e1]
      by_cases hw : sW σ < 12
      · refine br_t ((nI_ltI (b := 12) (by omega) (by omega)).mpr hw) ?_
        unfold wX2_addSeen
        rw [e1]
        refine s_setCell (by show sW σ < 12; exact hw) (by decide +kernel) ?_
        have e3 : mset M (1 + 7) (sW σ) (nI a) 1 13 = nI (sW σ) := by simp [mset, mrow, e1]
        rw [e3]
        refine s_setCell (by show sW σ < 12; exact hw) (by decide +kernel) ?_
        rintro M3 rfl
        unfold wX5_saw
        refine m_in32 0 999 rfl rfl (zt2 hp (m_in32 0 9999 rfl rfl (zt1 hp2 ?_)))
        have f1 : mset (mset (mset M (1 + 7) (sW σ) (nI a)) (1 + 8) (sW σ) (nI d)) 1 13 (mset (mset M (1 + 7) (sW σ) (nI a)) (1 + 8) (sW σ) (nI d) 1 13 + 1) 53 = M 53 := by simp [mset, mrow]
        rw [f1, e2]
        refine br_nf (fun q => ?_) ?_
        · have := (nI_eq (b := 12) (by omega) (by omega)).mp q; omega
        have g1 : (342 : Int32) + (2 : Int32) * nI (sW σ) = nI (342 + 2 * sW σ) := by rw [n2, pk_mul, show (342 : Int32) = nI 342 from rfl, nI_add]
        have g2 : (342 : Int32) + (2 : Int32) * nI (sW σ) + 1 = nI (343 + 2 * sW σ) := by rw [g1, nI_1]; congr 1; omega
        rw [g1, clamp_nI (by omega)]
        refine ⟨vp_nI (by rw [a53]; omega) (by decide +kernel), ?_⟩
        rintro M5 rfl
        have f2 : mset (mset (mset (mset M (1 + 7) (sW σ) (nI a)) (1 + 8) (sW σ) (nI d)) 1 13 (mset (mset M (1 + 7) (sW σ) (nI a)) (1 + 8) (sW σ) (nI d) 1 13 + 1)) 53 (342 + 2 * sW σ) (nI a) 53 341 = nI (sW σ) := by
          have : ¬ 341 = 342 + 2 * sW σ := by omega
          simp [mset, mrow, upd, this, e2]
        rw [f2, g2, clamp_nI (by omega)]
        refine ⟨vp_nI (by rw [a53]; omega) (by decide +kernel), ?_⟩
        rintro M6 rfl
        rintro M7 rfl
        have n341 : ¬ 341 = 342 + 2 * sW σ := by omega
        have n341' : ¬ 341 = 343 + 2 * sW σ := by omega
        refine ⟨by simp [mset, mrow, upd, n341, n341', e1, e2], ?_⟩
        refine Rel.step (σ' := uW σ (sW σ + 1) (fun i => if i = sW σ then a else sP σ i) (fun i => if i = sW σ then d else sX σ i)) hR (hS.uW (by omega) (fun i hi => ?_)) ?_ ?_ hr him hsh htx ?_ ?_ ?_
        · by_cases q : i = sW σ
          · simp only [q, if_true]; omega
          · simp only [q, if_false]; exact hS.2.2.2.2.2.2.2.2.2.2.1 i (by omega)
        · refine hc.seen _ _ _ (fun k h1 h2 => ?_) (fun j hj => ?_) ?_ (fun i hi => ?_)
          · have a1 : k ≠ 53 := by omega
            have a2 : k ≠ 1 := by omega
            have a3 : k ≠ 8 := by omega
            have a4 : k ≠ 9 := by omega
            simp [mset, mrow, a1, a2, a3, a4]
          · simp [mset, mrow, upd, hj]
          · simp [mset, mrow, upd, e1, nI_1]
          · by_cases q : i = sW σ
            · subst q; simp [mset, mrow, upd]
            · have := hc.2.2.2.2.2.2.2.2.2.2.1 i (by omega)
              simp [mset, mrow, upd, q]
              exact this
        · refine hm.seen hS.n3 hS.z12 _ _ _ (fun j hj => ?_) ?_ (fun i hi => ?_)
          · have a1 : j ≠ 341 := by omega
            have a2 : j ≠ 342 + 2 * sW σ := by omega
            have a3 : j ≠ 343 + 2 * sW σ := by omega
            simp [mset, mrow, upd, a1, a2, a3]
          · simp [mset, mrow, upd, n341, n341', e2, nI_1]
          · have b1 : ¬ 342 + 2 * i = 341 := by omega
            have b2 : ¬ 343 + 2 * i = 341 := by omega
            have b3 : ¬ 342 + 2 * i = 343 + 2 * sW σ := by omega
            have b4 : ¬ 343 + 2 * i = 342 + 2 * sW σ := by omega
            by_cases q : i = sW σ
            · subst q; simp [mset, mrow, upd, b1, b2, b3, b4]
            · have b5 : ¬ 342 + 2 * i = 342 + 2 * sW σ := by omega
              have b6 : ¬ 343 + 2 * i = 343 + 2 * sW σ := by omega
              have := hm.2.2.2.2.2.2.2.2.2.2.1 i (by omega)
              rw [Nat.zero_add, Nat.zero_add] at this
              simp only [mset, mrow, upd, q, b1, b2, b3, b4, b5, b6, if_true, if_false]
              exact this
        · intro k hk
          have h1 : k ≠ 1 := by unfold keepP at hk; omega
          have h2 : k ≠ 53 := by unfold keepP at hk; omega
          have h3 : k ≠ 8 := by unfold keepP at hk; omega
          have h4 : k ≠ 9 := by unfold keepP at hk; omega
          simp [mset, mrow, h1, h2, h3, h4]
        · intro k hk
          have h1 : k ≠ 341 := by omega
          have h2 : k ≠ 342 + 2 * sW σ := by omega
          have h3 : k ≠ 343 + 2 * sW σ := by omega
          simp [mset, mrow, upd, h1, h2, h3]
        · simp [mset, mrow]
      · refine br_f (fun q => hw ((nI_ltI (b := 12) (by omega) (by omega)).mp q)) ?_
        unfold wX5_saw
        refine m_in32 0 999 rfl rfl (zt2 hp (m_in32 0 9999 rfl rfl (zt1 hp2 ?_)))
        rw [e2]
        exact br_nt (by rw [show sW σ = 12 by omega]; rfl) ⟨rfl, h⟩
    · refine zf1 hp2 ?_
      unfold wX5_saw
      exact m_in32 0 999 rfl rfl (zt2 hp (m_in32 0 9999 rfl rfl (zf1 hp2 ⟨rfl, h⟩)))
  · refine zf2 hp ?_
    unfold wX5_saw
    exact m_in32 0 999 rfl rfl (zf2 hp ⟨rfl, h⟩)
-- ===== blocks: readers of the class =====
theorem blk_of {v : Int32} {n : Nat} (hn : n ≤ 12) : (0 ≤ v ∧ v ≤ nI n - 1) ↔ ∃ j, j < n ∧ v = nI j := by
  constructor
  · rintro ⟨h1, h2⟩
    cases n with
    | zero => exact absurd (Int32.le_trans h1 h2) (by decide +kernel)
    | succ k =>
      rw [nI_sub1 (by omega)] at h2
      obtain ⟨j, hj, e⟩ := pl_of (L := k + 1 - 1) (by omega) ⟨h1, h2⟩
      exact ⟨j, by omega, e⟩
  · rintro ⟨j, hj, rfl⟩
    rw [nI_sub1 (by omega)]
    exact pl_in (by omega) (by omega)
theorem blk_in {j n : Nat} (hn : n ≤ 12) (hj : j < n) : (0 : Int32) ≤ nI j ∧ nI j ≤ nI n - 1 := (blk_of hn).mpr ⟨j, hj, rfl⟩
theorem s_hasBlock {Q : Int32 → MM → Prop} {M : MM} {b : Nat} {v : Int32} {n : Nat} (e : M b 8 = nI n) (hq : Q (bI (0 ≤ v ∧ v ≤ nI n - 1)) M) : wX2_hasBlock Q M b v := by
  unfold wX2_hasBlock
  rw [e]
  exact s_isBetween.mpr ⟨nb_bI _, hq⟩
theorem s_beginOf {Q : Int32 → MM → Prop} {M : MM} {b j : Nat} {R : Nat → Nat} {σ : SS} (hb : tpB b) (hc : clT M b R σ) (hn : sN σ ≤ 12) (hj : j < sN σ) (hq : Q (nI (sB σ j)) M) : wX2_beginOf Q M b (nI j) := by
  unfold wX2_beginOf
  refine s_cell (by rw [(alen_tp hb).2.1]; omega) (by rw [(alen_tp hb).2.1]; decide) ?_
  rw [hc.2.2.2.1 j hj]; exact hq
theorem s_sizeOf {Q : Int32 → MM → Prop} {M : MM} {b j : Nat} {R : Nat → Nat} {σ : SS} (hb : tpB b) (hc : clT M b R σ) (hn : sN σ ≤ 12) (hj : j < sN σ) (hq : Q (nI (sZ σ j)) M) : wX2_sizeOf Q M b (nI j) := by
  unfold wX2_sizeOf
  refine s_cell (by rw [(alen_tp hb).2.2.1]; omega) (by rw [(alen_tp hb).2.2.1]; decide) ?_
  rw [hc.2.2.2.2.1 j hj]; exact hq
theorem lgN_le {R : Nat → Nat} (hR : okR R) {n : Nat} (hn : n ≤ 99) : 1 ≤ lgN R n ∧ lgN R n ≤ 108 := by
  unfold lgN
  have h7 := hR.2.2.2.2.2.1
  split
  · omega
  · constructor
    · exact (Nat.le_div_iff_mul_le (by omega)).mpr (by omega)
    · exact Nat.le_trans (Nat.div_le_self _ _) (by omega)
theorem s_longWith {Q : Int32 → MM → Prop} {M : MM} {b n : Nat} {R : Nat → Nat} {σ : SS} (hb : tpB b) (hR : okR R) (hc : clT M b R σ) (hn : n ≤ 99) (hq : Q (nI (lgN R n)) M) : wX2_longWith Q M b (nI n) := by
  unfold wX2_longWith
  have h7 := hR.2.2.2.2.2.1
  by_cases h : n = 0
  · subst h
    exact br_nt rfl hq
  · refine br_nf (fun q => h ((nI_eq (b := 0) (by omega) (by omega)).mp q)) (s_ruled hb 7 (by omega) rfl ?_)
    rw [hc.1.2 7 (by omega) (by omega), nI_1]
    unfold wX4_dividedUp
    refine br_t (show nI 1 ≤ nI (R 7) from nI_le h7.1 (by omega)) ⟨fun q => ?_, ?_⟩
    · have := (nI_eq (b := 0) (by omega) (by omega)).mp q; omega
    · rw [nI_add, nI_sub1 (by omega), pk_div (by omega) (by omega) (by omega)]
      have e : lgN R n = (n + 1 + R 7 - 1) / R 7 := by unfold lgN; rw [if_neg h]; congr 1; omega
      rw [← e]; exact hq
theorem s_endOf {Q : Int32 → MM → Prop} {M : MM} {b j : Nat} {R : Nat → Nat} {σ : SS} (hb : tpB b) (hR : okR R) (hS : okS R σ) (hc : clT M b R σ) (hj : j < sN σ) (hq : Q (nI (sB σ j + lgN R (sZ σ j))) M) : wX2_endOf Q M b (nI j) := by
  unfold wX2_endOf
  refine s_hasBlock hc.2.1 (zt2 (blk_in hS.2.1 hj) (s_beginOf hb hc hS.2.1 hj (s_sizeOf hb hc hS.2.1 hj (s_longWith hb hR hc (by have := hS.z12 j hj; omega) ?_))))
  rw [nI_add]; exact hq
theorem s_endOf0 {Q : Int32 → MM → Prop} {M : MM} {b : Nat} {R : Nat → Nat} {σ : SS} {v : Int32} (hS : okS R σ) (hc : clT M b R σ) (hv : ¬ ∃ j, j < sN σ ∧ v = nI j) (hq : Q 0 M) : wX2_endOf Q M b v := by
  unfold wX2_endOf
  exact s_hasBlock hc.2.1 (zf2 (fun q => hv ((blk_of hS.2.1).mp q)) hq)
/-- the end of all blocks -/
def eaN (R : Nat → Nat) (σ : SS) (n : Nat) : Nat := if n = 0 then 0 else sB σ (n - 1) + lgN R (sZ σ (n - 1))
theorem s_endAt {Q : Int32 → MM → Prop} {M : MM} {b n : Nat} {R : Nat → Nat} {σ : SS} (hb : tpB b) (hR : okR R) (hS : okS R σ) (hc : clT M b R σ) (hn : n ≤ sN σ) (hq : Q (nI (eaN R σ n)) M) : wX2_endOf Q M b (nI n - 1) := by
  have h12 := hS.2.1
  unfold eaN at hq
  by_cases h : n = 0
  · subst h
    refine s_endOf0 hS hc ?_ (by rw [if_pos rfl] at hq; exact hq)
    rintro ⟨j, hj, e⟩
    have e1 : nI 0 - 1 = (-1 : Int32) := by decide +kernel
    rw [e1] at e
    exact absurd (e ▸ nI_pos' (n := j) (by omega)) (by decide +kernel)
  · rw [nI_sub1 (by omega)]
    rw [if_neg h] at hq
    exact s_endOf hb hR hS hc (by omega) hq
-- ===== blocks: readers of the reference =====
theorem mB {M : MM} {σ : SS} (hm : mdT M 0 σ) {j : Nat} (hj : j < sN σ) : M 53 (1 + j) = nI (sB σ j) := by
  have := hm.2.2.2.1 j hj; rwa [Nat.zero_add] at this
theorem mZ {M : MM} {σ : SS} (hm : mdT M 0 σ) {j : Nat} (hj : j < sN σ) : M 53 (13 + j) = nI (sZ σ j) := by
  have := hm.2.2.2.2.1 j hj; rwa [Nat.zero_add] at this
theorem mC {M : MM} {σ : SS} (hm : mdT M 0 σ) {j i : Nat} (hj : j < sN σ) (hi : i ≤ sZ σ j) : M 53 (25 + (j * 13 + i)) = nI (sC σ (j * 13 + i)) := by
  have := hm.2.2.2.2.2.1 j hj i hi; rwa [Nat.zero_add] at this
theorem mO {M : MM} {σ : SS} (hm : mdT M 0 σ) {j i : Nat} (hj : j < sN σ) (hi : i < sZ σ j) : M 53 (181 + (j * 12 + i)) = nI (sO σ (j * 12 + i)) := by
  have := hm.2.2.2.2.2.2.1 j hj i hi; rwa [Nat.zero_add] at this
theorem v53 {n : Nat} (h : n < 1200) : vp_in (nI n) (alen 53) := vp_nI (by rw [a53]; exact h) (by rw [a53]; decide)
theorem m_longOf {Q : Int32 → MM → Prop} {M : MM} {n : Nat} {R : Nat → Nat} (hR : okR R) (hr : rlT M R) (hn : n ≤ 99) (hq : Q (nI (lgN R n)) M) : wX5_longOf Q M (nI n) := by
  unfold wX5_longOf
  have h7 := hR.2.2.2.2.2.1
  by_cases h : n = 0
  · subst h
    exact br_nt rfl hq
  · refine br_nf (fun q => h ((nI_eq (b := 0) (by omega) (by omega)).mp q)) ?_
    rw [hr 7 (by omega) (by omega)]
    refine ⟨fun q => ?_, ?_⟩
    · have := (nI_eq (b := 0) (by omega) (by omega)).mp q; omega
    · rw [nI_add, pk_div (by omega) (by omega) (by omega)]
      have e : lgN R n = (n + R 7) / R 7 := by unfold lgN; rw [if_neg h]
      rw [← e]; exact hq
theorem m_endOf {Q : Int32 → MM → Prop} {M : MM} {j : Nat} {R : Nat → Nat} {σ : SS} (hR : okR R) (hS : okS R σ) (hr : rlT M R) (hm : mdT M 0 σ) (hj : j < sN σ) (hq : Q (nI (sB σ j + lgN R (sZ σ j))) M) : wX5_endOf Q M (nI j) := by
  unfold wX5_endOf
  have h12 := hS.2.1
  rw [n1, nI_add, show (13 : Int32) = nI 13 from rfl, nI_add, clamp_nI (by omega), clamp_nI (by omega)]
  refine ⟨v53 (by omega), v53 (by omega), ?_⟩
  rw [mZ hm hj]
  refine m_longOf hR hr (by have := hS.z12 j hj; omega) ?_
  rw [mB hm hj, nI_add]; exact hq
theorem m_endOfAll {Q : Int32 → MM → Prop} {M : MM} {R : Nat → Nat} {σ : SS} (hR : okR R) (hS : okS R σ) (hr : rlT M R) (hm : mdT M 0 σ) (hq : Q (nI (eaN R σ (sN σ))) M) : wX5_endOfAll Q M := by
  unfold wX5_endOfAll
  have h12 := hS.2.1
  unfold eaN at hq
  rw [hm.2.1]
  by_cases h : sN σ = 0
  · rw [h]
    exact br_nt rfl (by rw [if_pos h] at hq; exact hq)
  · refine br_nf (fun q => h ((nI_eq (b := 0) (by omega) (by omega)).mp q)) ?_
    rw [nI_sub1 (by omega)]
    rw [if_neg h] at hq
    exact m_endOf hR hS hr hm (by omega) hq
theorem m_isBlock {Q : Int32 → MM → Prop} {M : MM} {v : Int32} {n : Nat} (e : M 53 0 = nI n) (hq : Q (bI (0 ≤ v ∧ v ≤ nI n - 1)) M) : wX5_isBlock Q M v := by
  unfold wX5_isBlock
  rw [e]
  exact m_in32 0 _ rfl rfl ⟨nb_bI _, hq⟩
-- ===== now =====
theorem L_now {M : MM} (h : Rel M) (x : Int32) : wX4_now (fun r M1 => wX5_now (PQ r) M1 x) M x := by
  obtain ⟨R, σ, hR, hS, hc, hm, hr, him, hsh, htx⟩ := id h
  have hb : tpB 1 := Or.inl rfl
  have hH := hS.2.2.1
  have hL := hS.1.2
  have e9 : M 1 9 = nI (sH σ) := hc.2.2.1
  have m9 : M 53 325 = nI (sH σ) := hm.2.2.1
  unfold wX4_now wX5_now
  by_cases h0 : x = 0
  · refine br_t h0 (br_t h0 ⟨by rw [e9, m9], h⟩)
  refine br_f h0 ?_
  by_cases h1 : x = 1
  · refine br_t h1 (br_f h0 (br_t h1 ⟨?_, h⟩))
    rw [show M 1 10 = sK σ from hc.2.2.2.2.2.2.2.2.2.2.2.1, show M 53 326 = sK σ from hm.2.2.2.2.2.2.2.2.2.2.2.1]
  refine br_f h1 ?_
  by_cases h2 : x = 2
  · refine br_t h2 ?_
    rw [e9]
    refine s_turnsR hb hR hc (by omega) (br_f h0 (br_f h1 (br_t h2 ?_)))
    rw [m9]
    exact m_turnsAt hR hr (by omega) ⟨rfl, h⟩
  refine br_f h2 ?_
  by_cases h3 : x = 3
  · refine br_t h3 (br_f h0 (br_f h1 (br_f h2 (br_t h3 ⟨?_, h⟩))))
    rw [show M 1 12 = sD σ from hc.2.2.2.2.2.2.2.2.2.2.2.2, show M 53 340 = sD σ from hm.2.2.2.2.2.2.2.2.2.2.2.2]
  refine br_f h3 ?_
  by_cases h4 : x = 4
  · refine br_t h4 (br_f h0 (br_f h1 (br_f h2 (br_f h3 (br_t h4 ⟨?_, h⟩)))))
    rw [show M 1 11 = nI (sY σ) from hc.2.2.2.2.2.2.2.1, show M 53 327 = nI (sY σ) from hm.2.2.2.2.2.2.2.1]
  refine br_f h4 ?_
  by_cases h5 : x = 5
  · refine br_t h5 (s_ruled hb 0 (by omega) rfl ?_)
    rw [hc.2.1]
    refine s_endAt hb hR hS hc (Nat.le_refl _) (br_f h0 (br_f h1 (br_f h2 (br_f h3 (br_f h4 (br_t h5 (m_endOfAll hR hS hr hm ⟨?_, h⟩)))))))
    rw [hc.1.1]
    exact congrArg (· - nI (eaN R σ (sN σ))) hm.1.symm
  · exact br_f h5 (br_f h0 (br_f h1 (br_f h2 (br_f h3 (br_f h4 (br_f h5 ⟨rfl, h⟩))))))
-- ===== block, column =====
theorem s_columnOf {Q : Int32 → MM → Prop} {M : MM} {b j i : Nat} {R : Nat → Nat} {σ : SS} (hb : tpB b) (hS : okS R σ) (hc : clT M b R σ) (hj : j < sN σ) (hi : i ≤ sZ σ j) (hq : Q (nI (sC σ (j * 13 + i))) M) : wX2_columnOf Q M b (nI j) (nI i) := by
  unfold wX2_columnOf
  have h12 := hS.2.1
  have hz := hS.z12 j hj
  rw [show (13 : Int32) = nI 13 from rfl, pk_mul, nI_add]
  refine s_cell (by rw [(alen_tp hb).2.2.2.1]; omega) (by rw [(alen_tp hb).2.2.2.1]; decide) ?_
  rw [hc.2.2.2.2.2.1 j hj i hi]; exact hq
theorem m_columnOf {Q : Int32 → MM → Prop} {M : MM} {j i : Nat} {R : Nat → Nat} {σ : SS} (hS : okS R σ) (hm : mdT M 0 σ) (hj : j < sN σ) (hi : i ≤ sZ σ j) (hq : Q (nI (sC σ (j * 13 + i))) M) : wX5_columnOf Q M (nI j) (nI i) := by
  unfold wX5_columnOf
  have h12 := hS.2.1
  have hz := hS.z12 j hj
  have e : (((25 : Int32) + ((13 : Int32) * nI j)) + nI i) = nI (25 + (j * 13 + i)) := by
    rw [show (13 : Int32) = nI 13 from rfl, show (25 : Int32) = nI 25 from rfl, pk_mul, nI_add, nI_add]; congr 1; omega
  rw [e, clamp_nI (by omega)]
  refine ⟨v53 (by omega), ?_⟩
  rw [mC hm hj hi]; exact hq
theorem s_isMark {Q : Int32 → MM → Prop} {M : MM} {b j : Nat} {R : Nat → Nat} {σ : SS} (hb : tpB b) (hS : okS R σ) (hc : clT M b R σ) (hj : j < sN σ) (hq : Q (bI (sZ σ j = 0)) M) : wX2_isMark Q M b (nI j) := by
  unfold wX2_isMark
  refine s_sizeOf hb hc hS.2.1 hj ?_
  have hz := hS.z12 j hj
  by_cases h : sZ σ j = 0
  · rw [bI_t h] at hq
    exact br_nt (by rw [h]; rfl) hq
  · rw [bI_f h] at hq
    exact br_nf (fun q => h ((nI_eq (b := 0) (by omega) (by omega)).mp q)) hq
theorem L_block {M : MM} (h : Rel M) (x w : Int32) : wX4_block (fun r M1 => wX5_block (PQ r) M1 x w) M x w := by
  obtain ⟨R, σ, hR, hS, hc, hm, hr, him, hsh, htx⟩ := id h
  have hb : tpB 1 := Or.inl rfl
  have h12 := hS.2.1
  unfold wX4_block
  refine s_hasBlock hc.2.1 ?_
  by_cases hp : (0 : Int32) ≤ x ∧ x ≤ nI (sN σ) - 1
  · refine zt1 hp ?_
    obtain ⟨j, hj, rfl⟩ := (blk_of h12).mp hp
    have hz := hS.z12 j hj
    have key : ∀ r, ((w = 0 ∧ r = nI (sB σ j)) ∨ (w = 1 ∧ r = nI (lgN R (sZ σ j))) ∨ (w = 2 ∧ r = nI (sZ σ j)) ∨ (w = 3 ∧ ((sZ σ j = 0 ∧ r = 0) ∨ (sZ σ j ≠ 0 ∧ r = nI (sC σ (j * 13 + sZ σ j))))) ∨ (w = 4 ∧ r = nI (sB σ j + lgN R (sZ σ j))) ∨ ((¬ w = 0 ∧ ¬ w = 1 ∧ ¬ w = 2 ∧ ¬ w = 3 ∧ ¬ w = 4) ∧ r = -1)) → wX5_block (PQ r) M (nI j) w := by
      intro r hw
      unfold wX5_block
      refine m_isBlock hm.2.1 (zt1 hp ?_)
      rw [show (13 : Int32) = nI 13 from rfl, nI_add, clamp_nI (by omega), mZ hm hj]
      refine ⟨v53 (by omega), ?_⟩
      rintro _ rfl
      rcases hw with ⟨rfl, rfl⟩ | ⟨rfl, rfl⟩ | ⟨rfl, rfl⟩ | ⟨rfl, hw⟩ | ⟨rfl, rfl⟩ | ⟨⟨a0, a1, a2, a3, a4⟩, rfl⟩
      · refine br_t rfl ?_
        rw [n1, nI_add, clamp_nI (by omega), mB hm hj]
        exact ⟨v53 (by omega), rfl, h⟩
      · exact br_f (by decide) (br_t rfl (m_longOf hR hr (by omega) ⟨rfl, h⟩))
      · exact br_f (by decide) (br_f (by decide) (br_t rfl ⟨rfl, h⟩))
      · refine br_f (by decide) (br_f (by decide) (br_f (by decide) (br_t rfl ?_)))
        rcases hw with ⟨e, rfl⟩ | ⟨e, rfl⟩
        · exact br_nt (by rw [e]; rfl) ⟨rfl, h⟩
        · exact br_nf (fun q => e ((nI_eq (b := 0) (by omega) (by omega)).mp q)) (m_columnOf hS hm hj (Nat.le_refl _) ⟨rfl, h⟩)
      · exact br_f (by decide) (br_f (by decide) (br_f (by decide) (br_f (by decide) (br_t rfl (m_endOf hR hS hr hm hj ⟨rfl, h⟩)))))
      · exact br_f a0 (br_f a1 (br_f a2 (br_f a3 (br_f a4 ⟨rfl, h⟩))))
    by_cases h0 : w = 0
    · exact br_t h0 (s_beginOf hb hc h12 hj (key _ (Or.inl ⟨h0, rfl⟩)))
    refine br_f h0 ?_
    by_cases h1 : w = 1
    · refine br_t h1 ?_
      unfold wX2_longOf
      exact s_sizeOf hb hc h12 hj (s_longWith hb hR hc (by omega) (key _ (Or.inr (Or.inl ⟨h1, rfl⟩))))
    refine br_f h1 ?_
    by_cases h2 : w = 2
    · exact br_t h2 (s_sizeOf hb hc h12 hj (key _ (Or.inr (Or.inr (Or.inl ⟨h2, rfl⟩)))))
    refine br_f h2 ?_
    by_cases h3 : w = 3
    · refine br_t h3 (s_isMark hb hS hc hj ?_)
      by_cases hz0 : sZ σ j = 0
      · exact zt2 hz0 (key _ (Or.inr (Or.inr (Or.inr (Or.inl ⟨h3, Or.inl ⟨hz0, rfl⟩⟩)))))
      · exact zf2 hz0 (s_sizeOf hb hc h12 hj (s_columnOf hb hS hc hj (Nat.le_refl _) (key _ (Or.inr (Or.inr (Or.inr (Or.inl ⟨h3, Or.inr ⟨hz0, rfl⟩⟩)))))))
    refine br_f h3 ?_
    by_cases h4 : w = 4
    · exact br_t h4 (s_endOf hb hR hS hc hj (key _ (Or.inr (Or.inr (Or.inr (Or.inr (Or.inl ⟨h4, rfl⟩)))))))
    · exact br_f h4 (key _ (Or.inr (Or.inr (Or.inr (Or.inr (Or.inr ⟨⟨h0, h1, h2, h3, h4⟩, rfl⟩))))))
  · refine zf1 hp ?_
    unfold wX5_block
    exact m_isBlock hm.2.1 (zf1 hp ⟨rfl, h⟩)
/-- which columns there are -/
def colP (σ : SS) (x i : Int32) : Prop := ∃ j k, j < sN σ ∧ sZ σ j ≠ 0 ∧ k ≤ sZ σ j ∧ x = nI j ∧ i = nI k
theorem s_hasColumn {Q : Int32 → MM → Prop} {M : MM} {b : Nat} {R : Nat → Nat} {σ : SS} {x i : Int32} (hb : tpB b) (hS : okS R σ) (hc : clT M b R σ) (h1 : colP σ x i → Q 1 M) (h0 : ¬ colP σ x i → Q 0 M) : wX2_hasColumn Q M b x i := by
  unfold wX2_hasColumn wX2_hasColumn_33
  refine s_hasBlock hc.2.1 ?_
  by_cases hp : (0 : Int32) ≤ x ∧ x ≤ nI (sN σ) - 1
  · refine zt2 hp ?_
    obtain ⟨j, hj, rfl⟩ := (blk_of hS.2.1).mp hp
    have hz := hS.z12 j hj
    have hinj : ∀ j', j' < sN σ → nI j = nI j' → j' = j := fun j' hj' e => ((nI_eq (by have := hS.2.1; omega) (by have := hS.2.1; omega)).mp e).symm
    refine s_isMark hb hS hc hj ?_
    by_cases hz0 : sZ σ j = 0
    · refine zt1 hz0 (h0 ?_)
      rintro ⟨j', k, a1, a2, a3, a4, a5⟩
      rw [hinj j' a1 a4] at a2; exact a2 hz0
    · refine zf1 hz0 (s_sizeOf hb hc hS.2.1 hj (s_isBetween.mpr ?_))
      by_cases hi : (0 : Int32) ≤ i ∧ i ≤ nI (sZ σ j)
      · obtain ⟨k, hk, rfl⟩ := pl_of (by omega) hi
        exact zt2 hi (h1 ⟨j, k, hj, hz0, hk, rfl, rfl⟩)
      · refine zf2 hi (h0 ?_)
        rintro ⟨j', k, a1, a2, a3, a4, a5⟩
        rw [hinj j' a1 a4] at a3
        exact hi (by rw [a5]; exact pl_in a3 (by omega))
  · refine zf2 hp (h0 ?_)
    rintro ⟨j', k, a1, a2, a3, a4, a5⟩
    exact hp ((blk_of hS.2.1).mpr ⟨j', a1, a4⟩)
theorem m_isColumn {Q : Int32 → MM → Prop} {M : MM} {R : Nat → Nat} {σ : SS} {x i : Int32} (hS : okS R σ) (hm : mdT M 0 σ) (h1 : colP σ x i → Q 1 M) (h0 : ¬ colP σ x i → Q 0 M) : wX5_isColumn Q M x i := by
  unfold wX5_isColumn wX5_isColumn_43
  refine m_isBlock hm.2.1 ?_
  by_cases hp : (0 : Int32) ≤ x ∧ x ≤ nI (sN σ) - 1
  · refine zt2 hp ?_
    obtain ⟨j, hj, rfl⟩ := (blk_of hS.2.1).mp hp
    have hz := hS.z12 j hj
    have h12 := hS.2.1
    have hinj : ∀ j', j' < sN σ → nI j = nI j' → j' = j := fun j' hj' e => ((nI_eq (by omega) (by omega)).mp e).symm
    rw [show (13 : Int32) = nI 13 from rfl, nI_add, clamp_nI (by omega), mZ hm hj]
    refine ⟨v53 (by omega), ?_⟩
    by_cases hz0 : sZ σ j = 0
    · refine br_t (by rw [hz0]; decide) (h0 ?_)
      rintro ⟨j', k, a1, a2, a3, a4, a5⟩
      rw [hinj j' a1 a4] at a2; exact a2 hz0
    · refine br_f (nI_nle (by omega) (by omega)) ⟨v53 (by omega), m_in32 0 _ rfl rfl ?_⟩
      by_cases hi : (0 : Int32) ≤ i ∧ i ≤ nI (sZ σ j)
      · obtain ⟨k, hk, rfl⟩ := pl_of (by omega) hi
        exact zt2 hi (h1 ⟨j, k, hj, hz0, hk, rfl, rfl⟩)
      · refine zf2 hi (h0 ?_)
        rintro ⟨j', k, a1, a2, a3, a4, a5⟩
        rw [hinj j' a1 a4] at a3
        exact hi (by rw [a5]; exact pl_in a3 (by omega))
  · refine zf2 hp (h0 ?_)
    rintro ⟨j', k, a1, a2, a3, a4, a5⟩
    exact hp ((blk_of hS.2.1).mpr ⟨j', a1, a4⟩)
theorem o_t1 {A B : Prop} (b : B) : ((1 : Int32) = 0 → A) ∧ (¬ (1 : Int32) = 0 → B) := ⟨fun q => absurd q (by decide), fun _ => b⟩
theorem o_t0 {A B : Prop} (a : A) : ((0 : Int32) = 0 → A) ∧ (¬ (0 : Int32) = 0 → B) := ⟨fun _ => a, fun q => absurd rfl q⟩
theorem o_n1 {A B : Prop} (a : A) : (¬ (1 : Int32) = 0 → A) ∧ ((1 : Int32) = 0 → B) := ⟨fun _ => a, fun q => absurd q (by decide)⟩
theorem o_n0 {A B : Prop} (b : B) : (¬ (0 : Int32) = 0 → A) ∧ ((0 : Int32) = 0 → B) := ⟨fun q => absurd rfl q, fun _ => b⟩
theorem L_column {M : MM} (h : Rel M) (x i : Int32) : wX4_column (fun r M1 => wX5_column (PQ r) M1 x i) M x i := by
  obtain ⟨R, σ, hR, hS, hc, hm, hr, him, hsh, htx⟩ := id h
  have hb : tpB 1 := Or.inl rfl
  unfold wX4_column
  refine s_hasColumn hb hS hc (fun hp => o_t1 ?_) (fun hp => o_t0 ?_)
  · obtain ⟨j, k, a1, a2, a3, rfl, rfl⟩ := id hp
    refine s_columnOf hb hS hc a1 a3 ?_
    unfold wX5_column
    exact m_isColumn hS hm (fun _ => o_t1 (m_columnOf hS hm a1 a3 ⟨rfl, h⟩)) (fun q => absurd hp q)
  · unfold wX5_column
    exact m_isColumn hS hm (fun q => absurd q hp) (fun _ => o_t0 ⟨rfl, h⟩)
-- ===== holds, most =====
def rfN (R : Nat → Nat) (L n : Nat) : Nat := L / (R 6 + lgN R n)
theorem s_roomFor {Q : Int32 → MM → Prop} {M : MM} {b n : Nat} {R : Nat → Nat} {σ : SS} (hb : tpB b) (hR : okR R) (hS : okS R σ) (hc : clT M b R σ) (hn : n ≤ 99) (hq : Q (nI (rfN R (sL σ) n)) M) : wX2_roomFor Q M b (nI n) := by
  unfold wX2_roomFor
  have hl := lgN_le hR hn
  have h6 := hR.2.2.2.2.1
  have hL := hS.1.2
  refine s_ruled hb 6 (by omega) rfl (s_longWith hb hR hc hn ?_)
  rw [hc.1.2 6 (by omega) (by omega), nI_add]
  refine br_t (show nI 1 ≤ nI (R 6 + lgN R n) from nI_le (by omega) (by omega)) (s_ruled hb 0 (by omega) rfl ⟨fun q => ?_, ?_⟩)
  · have := (nI_eq (b := 0) (by omega) (by omega)).mp q; omega
  · rw [hc.1.1, pk_div (by omega) (by omega) (by omega)]; exact hq
theorem m_holdsOf {Q : Int32 → MM → Prop} {M : MM} {n : Nat} {R : Nat → Nat} {σ : SS} (hR : okR R) (hS : okS R σ) (hr : rlT M R) (hm : mdT M 0 σ) (hn : n ≤ 99) (hq : Q (nI (rfN R (sL σ) n)) M) : wX5_holdsOf Q M (nI n) := by
  unfold wX5_holdsOf
  have hl := lgN_le hR hn
  have h6 := hR.2.2.2.2.1
  have hL := hS.1.2
  refine m_longOf hR hr hn ?_
  rw [hr 6 (by omega) (by omega), nI_add]
  refine ⟨fun q => ?_, ?_⟩
  · have := (nI_eq (b := 0) (by omega) (by omega)).mp q; omega
  · rw [show M 53 366 = nI (sL σ) from hm.1, pk_div (by omega) (by omega) (by omega)]; exact hq
theorem L_holds {M : MM} (h : Rel M) (x : Int32) : wX4_holds (fun r M1 => wX5_holds (PQ r) M1 x) M x := by
  obtain ⟨R, σ, hR, hS, hc, hm, hr, him, hsh, htx⟩ := id h
  have hb : tpB 1 := Or.inl rfl
  unfold wX4_holds
  refine s_isBetween.mpr ?_
  by_cases hp : (1 : Int32) ≤ x ∧ x ≤ 99
  · obtain ⟨n, hn, rfl⟩ := pl_of (L := 99) (by omega) ⟨Int32.le_trans (by decide) hp.1, hp.2⟩
    refine zt2 hp (s_roomFor hb hR hS hc hn ?_)
    unfold wX5_holds
    exact m_in32 1 99 rfl rfl (zt2 hp (m_holdsOf hR hS hr hm hn ⟨rfl, h⟩))
  · refine zf2 hp ?_
    unfold wX5_holds
    exact m_in32 1 99 rfl rfl (zf2 hp ⟨rfl, h⟩)
/-- the best n up to k, by bytes that fit -/
def bsN (R : Nat → Nat) (L : Nat) : Nat → Nat
  | 0 => 1
  | k + 1 => if k + 1 ≤ 1 then 1 else if bsN R L k * rfN R L (bsN R L k) < (k + 1) * rfN R L (k + 1) then k + 1 else bsN R L k
theorem bsN_in (R : Nat → Nat) (L : Nat) : ∀ k, 1 ≤ bsN R L k ∧ bsN R L k ≤ max 1 k := by
  intro k
  induction k with
  | zero => exact ⟨Nat.le_refl _, Nat.le_max_left _ _⟩
  | succ k ih =>
    rw [bsN]
    split
    · omega
    · split <;> omega
theorem rfN_le {R : Nat → Nat} {L n : Nat} (hL : L ≤ 9999) : rfN R L n ≤ 9999 := Nat.le_trans (Nat.div_le_self _ _) hL
theorem s_most {Q : Int32 → MM → Prop} {M : MM} {w : Int32} {R : Nat → Nat} {σ : SS} (hR : okR R) (hS : okS R σ) (hc : clT M 1 R σ) (hq : Q (if w = 0 then nI (bsN R (sL σ) 99) else nI (bsN R (sL σ) 99 * rfN R (sL σ) (bsN R (sL σ) 99))) M) : ∀ k i, i + k = 99 → 1 ≤ i → wX4_most_25 Q w (k + 1) M (nI (bsN R (sL σ) i)) (nI (bsN R (sL σ) i * rfN R (sL σ) (bsN R (sL σ) i))) (nI (i + 1)) := by
  have hb : tpB 1 := Or.inl rfl
  have hL := hS.1.2
  intro k
  induction k with
  | zero =>
    intro i hi h1
    have : i = 99 := by omega
    subst this
    refine br_t (by decide +kernel) ?_
    by_cases hw : w = 0
    · rw [if_pos hw] at hq; exact br_nt hw hq
    · rw [if_neg hw] at hq; exact br_nf hw hq
  | succ k ih =>
    intro i hi h1
    refine br_f (fun q => ?_) (s_roomFor hb hR hS hc (by omega) ?_)
    · have := (nI_ltI (a := 99) (by omega) (by omega)).mp q; omega
    · have b1 := bsN_in R (sL σ) i
      have b2 := rfN_le (R := R) (n := bsN R (sL σ) i) hL
      have b3 := rfN_le (R := R) (n := i + 1) hL
      have b4 : bsN R (sL σ) i * rfN R (sL σ) (bsN R (sL σ) i) ≤ 99 * 9999 := Nat.mul_le_mul (by omega) b2
      have b5 : (i + 1) * rfN R (sL σ) (i + 1) ≤ 99 * 9999 := Nat.mul_le_mul (by omega) b3
      rw [pk_mul, nI_leI (by omega) (by omega)]
      unfold wX4_most_58
      have e : bsN R (sL σ) (i + 1) = if bsN R (sL σ) i * rfN R (sL σ) (bsN R (sL σ) i) < (i + 1) * rfN R (sL σ) (i + 1) then i + 1 else bsN R (sL σ) i := by rw [bsN, if_neg (by omega)]
      have g := ih (i + 1) (by omega) (by omega)
      rw [e] at g
      rw [nI_1]
      by_cases c : bsN R (sL σ) i * rfN R (sL σ) (bsN R (sL σ) i) < (i + 1) * rfN R (sL σ) (i + 1)
      · rw [if_pos c] at g
        exact br_f (by omega) g
      · rw [if_neg c] at g
        exact br_t (by omega) g
theorem m_most {Q : Int32 → MM → Prop} {M : MM} {w : Int32} {R : Nat → Nat} {σ : SS} (hR : okR R) (hS : okS R σ) (hr : rlT M R) (hm : mdT M 0 σ) (hq : Q (if w = 0 then nI (bsN R (sL σ) 99) else nI (bsN R (sL σ) 99 * rfN R (sL σ) (bsN R (sL σ) 99))) M) : ∀ k i, i + k = 99 → 1 ≤ i → wX5_most_16 Q w (k + 1) M (nI (bsN R (sL σ) i)) (nI (i + 1)) := by
  have hL := hS.1.2
  intro k
  induction k with
  | zero =>
    intro i hi h1
    have : i = 99 := by omega
    subst this
    refine br_t (by decide +kernel) ?_
    by_cases hw : w = 0
    · rw [if_pos hw] at hq; exact br_nt hw hq
    · rw [if_neg hw] at hq
      refine br_nf hw (m_holdsOf hR hS hr hm (by have := bsN_in R (sL σ) 99; omega) ?_)
      rw [pk_mul]; exact hq
  | succ k ih =>
    intro i hi h1
    have b1 := bsN_in R (sL σ) i
    refine br_f (fun q => ?_) (m_holdsOf hR hS hr hm (by omega) (m_holdsOf hR hS hr hm (by omega) ?_))
    · have := (nI_leI (a := 100) (by omega) (by omega)).mp q; omega
    · have b2 := rfN_le (R := R) (n := bsN R (sL σ) i) hL
      have b3 := rfN_le (R := R) (n := i + 1) hL
      have b4 : bsN R (sL σ) i * rfN R (sL σ) (bsN R (sL σ) i) ≤ 99 * 9999 := Nat.mul_le_mul (by omega) b2
      have b5 : (i + 1) * rfN R (sL σ) (i + 1) ≤ 99 * 9999 := Nat.mul_le_mul (by omega) b3
      rw [pk_mul, pk_mul, nI_leI (by omega) (by omega)]
      unfold wX5_most_44
      have e : bsN R (sL σ) (i + 1) = if bsN R (sL σ) i * rfN R (sL σ) (bsN R (sL σ) i) < (i + 1) * rfN R (sL σ) (i + 1) then i + 1 else bsN R (sL σ) i := by rw [bsN, if_neg (by omega)]
      have g := ih (i + 1) (by omega) (by omega)
      rw [e] at g
      rw [nI_1]
      by_cases c : bsN R (sL σ) i * rfN R (sL σ) (bsN R (sL σ) i) < (i + 1) * rfN R (sL σ) (i + 1)
      · rw [if_pos c] at g
        exact br_f (by omega) g
      · rw [if_neg c] at g
        exact br_t (by omega) g
theorem L_most {M : MM} (h : Rel M) (x : Int32) : wX4_most (fun r M1 => wX5_most (PQ r) M1 x) M x := by
  obtain ⟨R, σ, hR, hS, hc, hm, hr, him, hsh, htx⟩ := id h
  have hb : tpB 1 := Or.inl rfl
  unfold wX4_most
  refine s_isBetween.mpr ?_
  by_cases hp : (0 : Int32) ≤ x ∧ x ≤ 1
  · refine zt1 hp (s_roomFor (n := 1) hb hR hS hc (by omega) ⟨99, ?_⟩)
    have g : ∀ Q : Int32 → MM → Prop, Q (if x = 0 then nI (bsN R (sL σ) 99) else nI (bsN R (sL σ) 99 * rfN R (sL σ) (bsN R (sL σ) 99))) M → wX4_most_25 Q x 99 M (nI 1) (nI (rfN R (sL σ) 1)) (nI 2) := by
      intro Q hq
      have := s_most hR hS hc hq 98 1 (by omega) (by omega)
      have e : bsN R (sL σ) 1 = 1 := rfl
      rw [e, Nat.one_mul] at this
      exact this
    refine g _ ?_
    unfold wX5_most
    refine m_in32 0 1 rfl rfl (zt1 hp ⟨99, ?_⟩)
    have := m_most (Q := PQ (if x = 0 then nI (bsN R (sL σ) 99) else nI (bsN R (sL σ) 99 * rfN R (sL σ) (bsN R (sL σ) 99)))) hR hS hr hm ⟨rfl, h⟩ 98 1 (by omega) (by omega)
    exact this
  · refine zf1 hp ?_
    unfold wX5_most
    exact m_in32 0 1 rfl rfl (zf1 hp ⟨rfl, h⟩)
-- ===== streams =====
def lsN (n bf nx : Nat) : Nat := (if n < nx + bf then n else nx + bf) - 1
def flN (n ev bf t nx : Nat) : Nat := if t < lsN n bf nx * ev then lsN n bf nx * ev else t
def stF (n ev each hit bf : Nat) : Nat → Nat → Nat → Nat → Nat × Nat
  | 0, _, U, st => (U + each, st)
  | k + 1, i, U, st => if U + each < (i + 1) * ev then stF n ev each hit bf k (i + 1) (flN n ev bf (U + each + hit) (i + 1)) (st + 1) else stF n ev each hit bf k (i + 1) (U + each) st
theorem lsN_le {n bf nx : Nat} (hn : n ≤ 99) : lsN n bf nx ≤ 98 := by unfold lsN; split <;> omega
theorem lsN_mul {n bf nx ev : Nat} (hn : n ≤ 99) (he : ev ≤ 9999) : lsN n bf nx * ev ≤ 1000000 := Nat.le_trans (Nat.mul_le_mul (lsN_le hn) he) (by decide)
theorem flN_le {n ev bf t nx : Nat} (hn : n ≤ 99) (he : ev ≤ 9999) : flN n ev bf t nx ≤ 1000000 ∨ flN n ev bf t nx ≤ t := by
  have h1 := lsN_mul (bf := bf) (nx := nx) hn he
  unfold flN
  split
  · left; exact h1
  · right; exact Nat.le_refl _
theorem flN_ge {n ev bf t nx : Nat} : t ≤ flN n ev bf t nx := by unfold flN; split <;> omega
theorem s_fill {Q : Int32 → MM → Prop} {M : MM} {t nx n ev bf : Nat} (hn : 1 ≤ n ∧ n ≤ 99) (hb : 1 ≤ bf ∧ bf ≤ 99) (hx : nx ≤ 99) (he : ev ≤ 9999) (ht : t < 100000000) (hq : Q (nI (flN n ev bf t nx)) M) : wX2_timeWhenFilled Q M (nI t) (nI nx) (nI n) (nI ev) (nI bf) := by
  unfold wX2_timeWhenFilled
  rintro x1 e1
  have e2 : x1 = nI (lsN n bf nx) := by
    rw [e1, nI_add]
    unfold lsN
    by_cases c : n < nx + bf
    · rw [if_pos c, if_pos ((nI_ltI (by omega) (by omega)).mpr c), nI_sub1 hn.1]
    · rw [if_neg c, if_neg (fun q => c ((nI_ltI (by omega) (by omega)).mp q)), nI_sub1 (by omega)]
  have h1 := lsN_mul (bf := bf) (nx := nx) hn.2 he
  rw [e2, pk_mul]
  unfold flN at hq
  by_cases c : t < lsN n bf nx * ev
  · rw [if_pos c] at hq
    rw [if_pos ((nI_ltI (by omega) (by omega)).mpr c)]; exact hq
  · rw [if_neg c] at hq
    rw [if_neg (fun q => c ((nI_ltI (by omega) (by omega)).mp q))]; exact hq
theorem s_str {Q : Int32 → MM → Prop} {M : MM} {n l ev bf each : Nat} {w : Int32} {R : Nat → Nat} {σ : SS} (hR : okR R) (hc : clT M 1 R σ) (hn : 1 ≤ n ∧ n ≤ 99) (hb : 1 ≤ bf ∧ bf ≤ 99) (he : ev ≤ 9999) (hea : each ≤ 20000) : ∀ k i U st, i + k + 1 = n → U ≤ 1000000 + i * 21000 → Q (if w = 0 then nI (stF n ev each (R 8) bf k i U st).1 else nI (stF n ev each (R 8) bf k i U st).2) M → wX2_streamed_31 Q 1 (nI n) (nI l) (nI ev) (nI bf) w (k + 1) M (nI each) (nI st) (nI (U + each)) (nI (i + 1)) := by
  have h8 := hR.2.2.2.2.2.2
  intro k
  induction k with
  | zero =>
    intro i U st hi hU hq
    refine br_t (nI_le (by omega) (by omega)) ?_
    by_cases hw : w = 0
    · rw [if_pos hw] at hq; exact br_t hw hq
    · rw [if_neg hw] at hq; exact br_f hw hq
  | succ k ih =>
    intro i U st hi hU hq
    have hm := Nat.mul_le_mul (show i + 1 ≤ 99 by omega) he
    refine br_f (fun q => ?_) ?_
    · have := (nI_leI (by omega) (by omega)).mp q; omega
    · rw [pk_mul, nI_leI (by omega) (by omega)]
      rw [stF] at hq
      by_cases c : U + each < (i + 1) * ev
      · rw [if_pos c] at hq
        refine br_f (by omega) (s_ruled (Or.inl rfl) 8 (by omega) rfl ?_)
        rw [hc.1.2 8 (by omega) (by omega), nI_add]
        refine s_fill hn hb (by omega) he (by omega) ?_
        unfold wX2_streamed_69
        rw [nI_add, nI_1, nI_1]
        refine ih (i + 1) _ (st + 1) (by omega) ?_ hq
        rcases flN_le (bf := bf) (t := U + each + R 8) (nx := i + 1) hn.2 he with g | g <;> omega
      · rw [if_neg c] at hq
        refine br_t (by omega) ?_
        unfold wX2_streamed_69
        rw [nI_add, nI_1]
        exact ih (i + 1) _ st (by omega) (by omega) hq
def stA (R : Nat → Nat) (n l ev bf : Nat) : Nat × Nat := stF n ev (R 3 * (l + R 6)) (R 8) bf (n - 1) 0 (flN n ev bf 0 0) 0
theorem s_streamed {Q : Int32 → MM → Prop} {M : MM} {n l ev bf : Nat} {w : Int32} {R : Nat → Nat} {σ : SS} (hR : okR R) (hc : clT M 1 R σ) (hn : 1 ≤ n ∧ n ≤ 99) (hl : l ≤ 99) (hb : 1 ≤ bf ∧ bf ≤ 99) (he : ev ≤ 9999) (hq : Q (if w = 0 then nI (stA R n l ev bf).1 else nI (stA R n l ev bf).2) M) : wX2_streamed Q M 1 (nI n) (nI l) (nI ev) (nI bf) w := by
  unfold wX2_streamed
  have hb1 : tpB 1 := Or.inl rfl
  have h3 := hR.2.1
  have h6 := hR.2.2.2.2.1
  have hea : R 3 * (l + R 6) ≤ 20000 := Nat.le_trans (Nat.mul_le_mul h3.2 (show l + R 6 ≤ 198 by omega)) (by decide)
  refine s_ruled hb1 6 (by omega) rfl ?_
  unfold wX2_playedThrough
  refine s_ruled hb1 3 (by omega) rfl ?_
  rw [hc.1.2 6 (by omega) (by omega), hc.1.2 3 (by omega) (by omega), nI_add, pk_mul]
  refine s_fill (t := 0) (nx := 0) hn hb (by omega) he (by omega) ⟨n + 1, ?_⟩
  refine br_f (fun q => ?_) (br_t ?_ ?_)
  · have := (nI_leI (b := 0) (by omega) (by omega)).mp q; omega
  · have e : (0 : Int32) * nI ev = nI 0 := by rw [n0, pk_mul, Nat.zero_mul]
    rw [e]
    refine nI_le (Nat.zero_le _) ?_
    rcases flN_le (n := n) (bf := bf) (t := 0) (nx := 0) hn.2 he with g | g <;> omega
  · unfold wX2_streamed_69
    rw [nI_add]
    have := s_str (l := l) (w := w) (each := R 3 * (l + R 6)) hR hc hn hb he hea (n - 1) 0 (flN n ev bf 0 0) 0 (by omega) (by rcases flN_le (n := n) (bf := bf) (t := 0) (nx := 0) hn.2 he with g | g <;> omega) hq
    have e2 : n - 1 + 1 = n := by omega
    rw [e2] at this
    exact this
-- ===== the reference's streams =====
theorem mset_mset {M : MM} {k j : Nat} {v w : Int32} : mset (mset M k j v) k j w = mset M k j w := by
  funext a i
  unfold mset mrow upd
  by_cases h : a = k
  · simp only [h, if_true]; by_cases g : i = j <;> simp [g]
  · simp only [h, if_false]
theorem m_less {Q : Int32 → MM → Prop} {M : MM} {a b : Nat} (ha : a < 2 ^ 31) (hb : b < 2 ^ 31) (hq : Q (nI (if b < a then b else a)) M) : wX5_less Q M (nI a) (nI b) := by
  unfold wX5_less
  rw [nI_leI hb ha]
  by_cases c : b ≤ a
  · have e : (if b < a then b else a) = b := by split <;> omega
    rw [e] at hq; exact br_t c hq
  · have e : (if b < a then b else a) = a := by split <;> omega
    rw [e] at hq; exact br_f c hq
theorem m_head {Q : Int32 → MM → Prop} {M : MM} {n l ev bf f i t w U : Nat} (hn : 1 ≤ n ∧ n ≤ 99) (hb : 1 ≤ bf ∧ bf ≤ 99) (he : ev ≤ 9999) (hi : i < n) (ht : t < 100000000) (hw : w ≤ 1) (eU : U = (if w = 0 then t else flN n ev bf t i)) (h : wX5_streams_56 Q (fun M v5 v6 v7 => wX5_streams_14 Q (nI n) (nI l) (nI ev) (nI bf) f M v5 v6 v7) (nI n) (nI l) (nI ev) (nI bf) M (nI i) (nI U)) : wX5_streams_14 Q (nI n) (nI l) (nI ev) (nI bf) (f + 1) M (nI t) (nI i) (nI w) := by
  refine br_f (fun q => ?_) ?_
  · have := (nI_leI (by omega) (by omega)).mp q; omega
  rw [nI_add]
  refine m_less (by omega) (by omega) ?_
  rintro x4 e4
  have e5 : x4 = nI (lsN n bf i) := by rw [e4]; unfold lsN; exact nI_sub1 (by split <;> omega)
  have h1 := lsN_mul (bf := bf) (nx := i) hn.2 he
  rw [e5, pk_mul, nI_leI (by omega) (by omega)]
  unfold wX5_streams_54
  by_cases hw0 : w = 0
  · rw [if_pos hw0] at eU
    rw [eU] at h
    exact br_t (by rw [hw0]; rfl) h
  · rw [if_neg hw0] at eU
    refine br_f (fun q => hw0 ((nI_eq (b := 0) (by omega) (by omega)).mp q)) ?_
    unfold flN at eU
    by_cases c : t < lsN n bf i * ev
    · rw [if_pos c] at eU
      rw [eU] at h
      exact br_f (by omega) h
    · rw [if_neg c] at eU
      rw [eU] at h
      exact br_t (by omega) h
theorem m_str {Q : Int32 → MM → Prop} {M : MM} {n l ev bf : Nat} {R : Nat → Nat} (hR : okR R) (hr : rlT M R) (hn : 1 ≤ n ∧ n ≤ 99) (hl : l ≤ 99) (hb : 1 ≤ bf ∧ bf ≤ 99) (he : ev ≤ 9999) : ∀ k i t w U st, i + k + 1 = n → U ≤ 1000000 + i * 21000 → t ≤ U → w ≤ 1 → U = (if w = 0 then t else flN n ev bf t i) → Q (nI (stF n ev (R 3 * (l + R 6)) (R 8) bf k i U st).1) (mset M 52 21 (nI (stF n ev (R 3 * (l + R 6)) (R 8) bf k i U st).2)) → wX5_streams_14 Q (nI n) (nI l) (nI ev) (nI bf) (k + 2) (mset M 52 21 (nI st)) (nI t) (nI i) (nI w) := by
  have h8 := hR.2.2.2.2.2.2
  have h3 := hR.2.1
  have h6 := hR.2.2.2.2.1
  have hea : R 3 * (l + R 6) ≤ 20000 := Nat.le_trans (Nat.mul_le_mul h3.2 (show l + R 6 ≤ 198 by omega)) (by decide)
  have r3 : ∀ v, mset M 52 21 v 55 3 = nI (R 3) := fun v => by rw [mset_n (by decide)]; exact hr 3 (by omega) (by omega)
  have r6 : ∀ v, mset M 52 21 v 55 6 = nI (R 6) := fun v => by rw [mset_n (by decide)]; exact hr 6 (by omega) (by omega)
  have r8 : ∀ v, mset M 52 21 v 55 8 = nI (R 8) := fun v => by rw [mset_n (by decide)]; exact hr 8 (by omega) (by omega)
  intro k
  induction k with
  | zero =>
    intro i t w U st hi hU htU hw eU hq
    refine m_head hn hb he (by omega) (by omega) hw eU ?_
    unfold wX5_streams_56
    rintro _ rfl
    rw [r3, r6, nI_add, pk_mul, nI_add, nI_1]
    refine br_t (nI_le (by omega) (by omega)) ?_
    unfold wX5_streams_101 wX5_streams_102 wX5_flag
    refine o_t0 ?_
    rintro _ rfl
    refine o_t0 ?_
    unfold wX5_streams_136
    refine br_t (nI_le (by omega) (by omega)) ?_
    rw [mset_ss, mset_mset, n0, nI_add, nI_add, Nat.add_zero, Nat.add_zero]
    exact hq
  | succ k ih =>
    intro i t w U st hi hU htU hw eU hq
    have hm := Nat.mul_le_mul (show i + 1 ≤ 99 by omega) he
    refine m_head hn hb he (by omega) (by omega) hw eU ?_
    unfold wX5_streams_56
    rintro _ rfl
    rw [r3, r6, nI_add, pk_mul, nI_add, nI_1]
    refine br_f (fun q => ?_) ?_
    · have := (nI_leI (by omega) (by omega)).mp q; omega
    rw [pk_mul, nI_leI (by omega) (by omega)]
    rw [stF] at hq
    by_cases c : U + R 3 * (l + R 6) < (i + 1) * ev
    · rw [if_pos c] at hq
      refine br_f (by omega) ?_
      unfold wX5_streams_102 wX5_flag
      refine o_t1 ?_
      rintro _ rfl
      refine o_t1 ?_
      unfold wX5_streams_136
      rw [mset_ss, mset_mset, r8, nI_1, nI_add]
      refine ih (i + 1) _ 1 _ (st + 1) (by omega) ?_ flN_ge (by omega) rfl hq
      rcases flN_le (bf := bf) (t := U + R 3 * (l + R 6) + R 8) (nx := i + 1) hn.2 he with g | g <;> omega
    · rw [if_neg c] at hq
      refine br_t (by omega) ?_
      unfold wX5_streams_101 wX5_streams_102 wX5_flag
      refine o_t0 ?_
      rintro _ rfl
      refine o_t0 ?_
      unfold wX5_streams_136
      rw [mset_ss, mset_mset, n0, nI_add, nI_add, Nat.add_zero, Nat.add_zero]
      exact ih (i + 1) _ 0 _ st (by omega) (by omega) (Nat.le_refl _) (by omega) rfl hq
theorem m_streams {Q : Int32 → MM → Prop} {M : MM} {n l ev bf : Nat} {R : Nat → Nat} (hR : okR R) (hr : rlT M R) (hn : 1 ≤ n ∧ n ≤ 99) (hl : l ≤ 99) (hb : 1 ≤ bf ∧ bf ≤ 99) (he : ev ≤ 9999) (hq : Q (nI (stA R n l ev bf).1) (mset M 52 21 (nI (stA R n l ev bf).2))) : wX5_streams Q M (nI n) (nI l) (nI ev) (nI bf) := by
  unfold wX5_streams
  rintro _ rfl
  refine ⟨n - 1 + 2, ?_⟩
  exact m_str hR hr hn hl hb he (n - 1) 0 0 1 (flN n ev bf 0 0) 0 (by omega) (by rcases flN_le (n := n) (bf := bf) (t := 0) (nx := 0) hn.2 he with g | g <;> omega) (Nat.zero_le _) (by omega) rfl hq
/-- what lies aside may change -/
theorem Rel.stops {M : MM} (h : Rel M) (v : Int32) : Rel (mset M 52 21 v) := by
  obtain ⟨R, σ, hR, hS, hc, hm, hr, him, hsh, htx⟩ := id h
  refine Rel.step hR hS (hc.keep (fun i hi => mset_n (by omega))) (hm.keep (mset_n (by omega))) hr him hsh htx (fun k hk => mset_n (by unfold keepP at hk; omega)) (fun j _ => by rw [mset_n (by omega)]) ⟨mset_sn (by omega), mset_sn (by omega), mset_sn (by omega)⟩
-- ===== stream, buffer =====
def stP (n l e : Int32) : Prop := (1 ≤ n ∧ n ≤ 99) ∧ (1 ≤ l ∧ l ≤ 99) ∧ (0 ≤ e ∧ e ≤ 9999)
theorem s_isStream {Q : Int32 → MM → Prop} {M : MM} {n l e : Int32} (h1 : stP n l e → Q 1 M) (h0 : ¬ stP n l e → Q 0 M) : wX4_isStream Q M n l e := by
  unfold wX4_isStream wX4_isStream_35
  refine s_isBetween.mpr ?_
  by_cases a : (1 : Int32) ≤ n ∧ n ≤ 99
  · refine zt2 a (s_isBetween.mpr ?_)
    by_cases b : (1 : Int32) ≤ l ∧ l ≤ 99
    · refine zt2 b (s_isBetween.mpr ?_)
      by_cases c : (0 : Int32) ≤ e ∧ e ≤ 9999
      · exact zt2 c (h1 ⟨a, b, c⟩)
      · exact zf2 c (h0 (fun q => c q.2.2))
    · exact zf2 b (h0 (fun q => b q.2.1))
  · exact zf2 a (h0 (fun q => a q.1))
theorem m_isStream {Q : Int32 → MM → Prop} {M : MM} {n l e : Int32} (h1 : stP n l e → Q 1 M) (h0 : ¬ stP n l e → Q 0 M) : wX5_isStream Q M n l e := by
  unfold wX5_isStream wX5_isStream_40
  refine m_in32 1 99 rfl rfl ?_
  by_cases a : (1 : Int32) ≤ n ∧ n ≤ 99
  · refine zt2 a (m_in32 1 99 rfl rfl ?_)
    by_cases b : (1 : Int32) ≤ l ∧ l ≤ 99
    · refine zt2 b (m_in32 0 9999 rfl rfl ?_)
      by_cases c : (0 : Int32) ≤ e ∧ e ≤ 9999
      · exact zt2 c (h1 ⟨a, b, c⟩)
      · exact zf2 c (h0 (fun q => c q.2.2))
    · exact zf2 b (h0 (fun q => b q.2.1))
  · exact zf2 a (h0 (fun q => a q.1))
theorem in1_of {x : Int32} {L : Nat} (hL : L < 2 ^ 31) (h : (1 : Int32) ≤ x ∧ x ≤ nI L) : ∃ j, 1 ≤ j ∧ j ≤ L ∧ x = nI j := by
  obtain ⟨j, hj, rfl⟩ := pl_of hL ⟨Int32.le_trans (by decide) h.1, h.2⟩
  exact ⟨j, (nI_leI (a := 1) (by omega) (by omega)).mp h.1, hj, rfl⟩
theorem L_stream {M : MM} (h : Rel M) (n l e b w : Int32) : wX4_stream (fun r M1 => wX5_stream (PQ r) M1 n l e b w) M n l e b w := by
  obtain ⟨R, σ, hR, hS, hc, hm, hr, him, hsh, htx⟩ := id h
  unfold wX4_stream
  refine s_isStream (fun hp => o_t1 (s_isBetween.mpr ?_)) (fun hp => o_t0 ?_)
  · by_cases hb : (1 : Int32) ≤ b ∧ b ≤ 99
    · refine zt2 hb (s_isBetween.mpr ?_)
      by_cases hw : (0 : Int32) ≤ w ∧ w ≤ 1
      · refine zt1 hw ?_
        obtain ⟨n', hn1, hn2, rfl⟩ := in1_of (L := 99) (by omega) hp.1
        obtain ⟨l', hl1, hl2, rfl⟩ := in1_of (L := 99) (by omega) hp.2.1
        obtain ⟨e', he, rfl⟩ := pl_of (L := 9999) (by omega) hp.2.2
        obtain ⟨b', hb1, hb2, rfl⟩ := in1_of (L := 99) (by omega) hb
        have md : ∀ r, r = (if w = 0 then nI (stA R n' l' e' b').1 else nI (stA R n' l' e' b').2) → wX5_stream (PQ r) M (nI n') (nI l') (nI e') (nI b') w := by
          intro r hr2
          unfold wX5_stream
          refine m_isStream (fun _ => o_t1 (m_in32 1 99 rfl rfl (zt2 hb (m_in32 0 1 rfl rfl (zt1 hw (m_streams hR hr ⟨hn1, hn2⟩ hl2 ⟨hb1, hb2⟩ he ?_)))))) (fun q => absurd hp q)
          by_cases h0 : w = 0
          · rw [if_pos h0] at hr2
            exact br_nt h0 ⟨hr2, h.stops _⟩
          · rw [if_neg h0] at hr2
            exact br_nf h0 ⟨by rw [hr2, mset_ss], h.stops _⟩
        unfold wX4_stream_52
        by_cases h1 : w = 1
        · refine br_nt h1 (s_streamed hR hc ⟨hn1, hn2⟩ hl2 ⟨hb1, hb2⟩ he (md _ ?_))
          rw [h1]
        · have h0 : w = 0 := by
            obtain ⟨k, hk, rfl⟩ := pl_of (L := 1) (by omega) hw
            have : k = 0 ∨ k = 1 := by omega
            rcases this with rfl | rfl
            · rfl
            · exact absurd rfl h1
          refine br_nf h1 (s_streamed hR hc ⟨hn1, hn2⟩ hl2 ⟨hb1, hb2⟩ he (md _ ?_))
          rw [h0]
      · refine zf1 hw ?_
        unfold wX5_stream
        exact m_isStream (fun _ => o_t1 (m_in32 1 99 rfl rfl (zt2 hb (m_in32 0 1 rfl rfl (zf1 hw ⟨rfl, h⟩))))) (fun q => absurd hp q)
    · refine zf2 hb ?_
      unfold wX5_stream
      exact m_isStream (fun _ => o_t1 (m_in32 1 99 rfl rfl (zf2 hb ⟨rfl, h⟩))) (fun q => absurd hp q)
  · unfold wX5_stream
    exact m_isStream (fun q => absurd q hp) (fun _ => o_t0 ⟨rfl, h⟩)
-- ===== buffer =====
theorem stF_le {n ev each hit bf : Nat} (hn : n ≤ 99) (he : ev ≤ 9999) (hea : each ≤ 20000) (hh : hit ≤ 999) : ∀ k i U st, U ≤ 1000000 + i * 21000 → (stF n ev each hit bf k i U st).1 ≤ 1000000 + (i + k + 1) * 21000 := by
  intro k
  induction k with
  | zero => intro i U st hU; show U + each ≤ _; omega
  | succ k ih =>
    intro i U st hU
    rw [stF]
    split
    · have := ih (i + 1) (flN n ev bf (U + each + hit) (i + 1)) (st + 1) (by rcases flN_le (n := n) (bf := bf) (t := U + each + hit) (nx := i + 1) hn he with g | g <;> omega)
      exact Nat.le_trans this (by omega)
    · have := ih (i + 1) (U + each) st (by omega)
      exact Nat.le_trans this (by omega)
theorem stA_lt {R : Nat → Nat} {n l ev bf : Nat} (hR : okR R) (hn : 1 ≤ n ∧ n ≤ 99) (hl : l ≤ 99) (he : ev ≤ 9999) : (stA R n l ev bf).1 < 10000000 := by
  have h8 := hR.2.2.2.2.2.2
  have h3 := hR.2.1
  have h6 := hR.2.2.2.2.1
  have hea : R 3 * (l + R 6) ≤ 20000 := Nat.le_trans (Nat.mul_le_mul h3.2 (show l + R 6 ≤ 198 by omega)) (by decide)
  have := stF_le (bf := bf) (hit := R 8) hn.2 he hea h8 (n - 1) 0 (flN n ev bf 0 0) 0 (by rcases flN_le (n := n) (bf := bf) (t := 0) (nx := 0) hn.2 he with g | g <;> omega)
  unfold stA
  omega
/-- the best buffer up to k -/
def bfN (R : Nat → Nat) (n l ev : Nat) : Nat → Nat
  | 0 => 1
  | k + 1 => if k = 0 then 1 else if (stA R n l ev (k + 1)).1 < (stA R n l ev (bfN R n l ev k)).1 then k + 1 else bfN R n l ev k
theorem bfN_in (R : Nat → Nat) (n l ev : Nat) : ∀ k, 1 ≤ bfN R n l ev k ∧ (1 ≤ k → bfN R n l ev k ≤ k) := by
  intro k
  induction k with
  | zero => exact ⟨Nat.le_refl _, fun q => by omega⟩
  | succ k ih =>
    rw [bfN]
    split
    · omega
    · split <;> omega
theorem s_buf {Q : Int32 → MM → Prop} {M : MM} {n l ev : Nat} {w : Int32} {R : Nat → Nat} {σ : SS} (hR : okR R) (hc : clT M 1 R σ) (hn : 1 ≤ n ∧ n ≤ 99) (hl : l ≤ 99) (he : ev ≤ 9999) (hq : Q (if w = 0 then nI (bfN R n l ev n) else nI (stA R n l ev (bfN R n l ev n)).1) M) : ∀ k i, i + k = n → 1 ≤ i → wX4_buffer_41 Q (nI n) (nI l) (nI ev) w (k + 1) M (nI (bfN R n l ev i)) (nI (stA R n l ev (bfN R n l ev i)).1) (nI (i + 1)) := by
  intro k
  induction k with
  | zero =>
    intro i hi h1
    have : i = n := by omega
    subst this
    refine br_t (nI_lt (by omega) (by omega)) ?_
    by_cases hw : w = 0
    · rw [if_pos hw] at hq; exact br_nt hw hq
    · rw [if_neg hw] at hq; exact br_nf hw hq
  | succ k ih =>
    intro i hi h1
    refine br_f (fun q => ?_) (s_streamed hR hc hn hl ⟨by omega, by omega⟩ he ?_)
    · have := (nI_ltI (by omega) (by omega)).mp q; omega
    · rw [if_pos rfl]
      have t1 := stA_lt (bf := i + 1) hR hn hl he
      have t2 := stA_lt (bf := bfN R n l ev i) hR hn hl he
      rw [nI_leI (by omega) (by omega)]
      unfold wX4_buffer_77
      have e : bfN R n l ev (i + 1) = if (stA R n l ev (i + 1)).1 < (stA R n l ev (bfN R n l ev i)).1 then i + 1 else bfN R n l ev i := by rw [bfN, if_neg (by omega)]
      have g := ih (i + 1) (by omega) (by omega)
      rw [e] at g
      rw [nI_1]
      by_cases c : (stA R n l ev (i + 1)).1 < (stA R n l ev (bfN R n l ev i)).1
      · rw [if_pos c] at g
        exact br_f (by omega) g
      · rw [if_neg c] at g
        exact br_t (by omega) g
theorem m_buf {Q : Int32 → MM → Prop} {M : MM} {n l ev : Nat} {w : Int32} {R : Nat → Nat} (hR : okR R) (hr : rlT M R) (hn : 1 ≤ n ∧ n ≤ 99) (hl : l ≤ 99) (he : ev ≤ 9999) (hq : ∀ v, Q (if w = 0 then nI (bfN R n l ev n) else nI (stA R n l ev (bfN R n l ev n)).1) (mset M 52 21 v)) : ∀ k i v, i + k = n → 1 ≤ i → wX5_buffer_38 Q (nI n) (nI l) (nI ev) w (k + 1) (mset M 52 21 v) (nI (bfN R n l ev i)) (nI (stA R n l ev (bfN R n l ev i)).1) (nI (i + 1)) := by
  intro k
  induction k with
  | zero =>
    intro i v hi h1
    have : i = n := by omega
    subst this
    refine br_t (nI_lt (by omega) (by omega)) ?_
    have hq := hq v
    by_cases hw : w = 0
    · rw [if_pos hw] at hq; exact br_nt hw hq
    · rw [if_neg hw] at hq; exact br_nf hw hq
  | succ k ih =>
    intro i v hi h1
    refine br_f (fun q => ?_) (m_streams hR (hr.keep (mset_n (by decide))) hn hl ⟨by omega, by omega⟩ he ?_)
    · have := (nI_ltI (by omega) (by omega)).mp q; omega
    · rw [mset_mset]
      have t1 := stA_lt (bf := i + 1) hR hn hl he
      have t2 := stA_lt (bf := bfN R n l ev i) hR hn hl he
      rw [nI_leI (by omega) (by omega)]
      unfold wX5_buffer_69
      have e : bfN R n l ev (i + 1) = if (stA R n l ev (i + 1)).1 < (stA R n l ev (bfN R n l ev i)).1 then i + 1 else bfN R n l ev i := by rw [bfN, if_neg (by omega)]
      have g := ih (i + 1) (nI (stA R n l ev (i + 1)).2) (by omega) (by omega)
      rw [e] at g
      by_cases c : (stA R n l ev (i + 1)).1 < (stA R n l ev (bfN R n l ev i)).1
      · rw [if_pos c] at g
        refine br_f (by omega) (m_less (by omega) (by omega) ?_)
        have e2 : (if (stA R n l ev (bfN R n l ev i)).1 < (stA R n l ev (i + 1)).1 then (stA R n l ev (bfN R n l ev i)).1 else (stA R n l ev (i + 1)).1) = (stA R n l ev (i + 1)).1 := by split <;> omega
        rw [e2, nI_1]; exact g
      · rw [if_neg c] at g
        refine br_t (by omega) (m_less (by omega) (by omega) ?_)
        have e2 : (if (stA R n l ev (bfN R n l ev i)).1 < (stA R n l ev (i + 1)).1 then (stA R n l ev (bfN R n l ev i)).1 else (stA R n l ev (i + 1)).1) = (stA R n l ev (bfN R n l ev i)).1 := by split <;> omega
        rw [e2, nI_1]; exact g
theorem L_buffer {M : MM} (h : Rel M) (n l e w : Int32) : wX4_buffer (fun r M1 => wX5_buffer (PQ r) M1 n l e w) M n l e w := by
  obtain ⟨R, σ, hR, hS, hc, hm, hr, him, hsh, htx⟩ := id h
  unfold wX4_buffer
  refine s_isStream (fun hp => o_t1 (s_isBetween.mpr ?_)) (fun hp => o_t0 ?_)
  · by_cases hw : (0 : Int32) ≤ w ∧ w ≤ 1
    · refine zt1 hw ?_
      obtain ⟨n', hn1, hn2, rfl⟩ := in1_of (L := 99) (by omega) hp.1
      obtain ⟨l', hl1, hl2, rfl⟩ := in1_of (L := 99) (by omega) hp.2.1
      obtain ⟨e', he, rfl⟩ := pl_of (L := 9999) (by omega) hp.2.2
      refine s_streamed (bf := 1) hR hc ⟨hn1, hn2⟩ hl2 ⟨by omega, by omega⟩ he ?_
      rw [if_pos rfl]
      refine ⟨n' - 1 + 1, s_buf hR hc ⟨hn1, hn2⟩ hl2 he ?_ (n' - 1) 1 (by omega) (by omega)⟩
      unfold wX5_buffer
      refine m_isStream (fun _ => o_t1 (m_in32 0 1 rfl rfl (zt1 hw (m_streams (bf := 1) hR hr ⟨hn1, hn2⟩ hl2 ⟨by omega, by omega⟩ he ⟨n' - 1 + 1, ?_⟩)))) (fun q => absurd hp q)
      exact m_buf (Q := PQ _) hR hr ⟨hn1, hn2⟩ hl2 he (fun v => ⟨rfl, h.stops v⟩) (n' - 1) 1 _ (by omega) (by omega)
    · refine zf1 hw ?_
      unfold wX5_buffer
      exact m_isStream (fun _ => o_t1 (m_in32 0 1 rfl rfl (zf1 hw ⟨rfl, h⟩))) (fun q => absurd hp q)
  · unfold wX5_buffer
    exact m_isStream (fun q => absurd q hp) (fun _ => o_t0 ⟨rfl, h⟩)
-- ===== meet =====
theorem s_meet {Q : Int32 → MM → Prop} {M : MM} {R : Nat → Nat} {σ : SS} {x0 : Nat} (hR : okR R) (hS : okS R σ) (hc : clT M 1 R σ) (hq : Q (nI x0) M) (hx : x0 ≤ sL σ) (h1 : ∀ x, x0 ≤ x → x ≤ sL σ → Tn (R 1) (R 2) (sL σ - x) ≤ Tn (R 1) (R 2) x) (h0 : ∀ x, x < x0 → Tn (R 1) (R 2) x < Tn (R 1) (R 2) (sL σ - x)) : ∀ k s lo hi, s + k = 14 → hi - lo < 2 ^ k → lo ≤ x0 → x0 ≤ hi → hi ≤ sL σ → wX2_meetingPlace_10 Q 1 (k + 1) M (nI lo) (nI hi) (nI s) := by
  have hL := hS.1.2
  have hb : tpB 1 := Or.inl rfl
  intro k
  induction k with
  | zero =>
    intro s lo hi hs hd a1 a2 a3
    have e : lo = hi := by omega
    have e2 : lo = x0 := by omega
    refine br_f (fun q => ?_) (br_t (nI_le (by omega) (by omega)) (by rw [e2]; exact hq))
    have := (nI_leI (a := 32) (by omega) (by omega)).mp q; omega
  | succ k ih =>
    intro s lo hi hs hd a1 a2 a3
    refine br_f (fun q => ?_) ?_
    · have := (nI_leI (a := 32) (by omega) (by omega)).mp q; omega
    rw [nI_leI (by omega) (by omega)]
    by_cases c : hi ≤ lo
    · have e2 : lo = x0 := by omega
      exact br_t c (by rw [e2]; exact hq)
    · refine br_f c ?_
      rintro x3 e3
      rw [nI_add, n2, pk_div (by omega) (by omega) (by omega)] at e3
      subst e3
      have hp : 2 ^ (k + 1) = 2 * 2 ^ k := by rw [Nat.pow_succ]; omega
      have hmid : (lo + hi) / 2 < hi ∧ lo ≤ (lo + hi) / 2 := by omega
      unfold wX2_rightTurns
      refine s_turnsR hb hR hc (by omega) ?_
      unfold wX2_leftTurns
      refine s_ruled hb 0 (by omega) rfl ?_
      rw [hc.1.1, pk_sub (by omega)]
      refine s_turnsR hb hR hc (by omega) ?_
      have t1 := Tn_lt (a := (lo + hi) / 2) hR.1 (by omega)
      have t2 := Tn_lt (a := sL σ - (lo + hi) / 2) hR.1 (by omega)
      dsimp only
      rw [nI_ltI (by omega) (by omega)]
      unfold wX2_meetingPlace_54
      by_cases d : Tn (R 1) (R 2) ((lo + hi) / 2) < Tn (R 1) (R 2) (sL σ - (lo + hi) / 2)
      · refine br_t d ?_
        rintro _ rfl
        rw [nI_1, nI_1]
        have : (lo + hi) / 2 < x0 := by
          apply Nat.lt_of_not_le
          intro q
          have := h1 _ q (by omega); omega
        exact ih (s + 1) _ _ (by omega) (by omega) (by omega) a2 a3
      · refine br_f d ?_
        rw [nI_1]
        have : x0 ≤ (lo + hi) / 2 := by
          apply Nat.le_of_not_lt
          intro q
          exact d (h0 _ q)
        exact ih (s + 1) _ _ (by omega) (by omega) a1 this (by omega)
theorem m_meet {Q : Int32 → MM → Prop} {M : MM} {R : Nat → Nat} {σ : SS} {x0 : Nat} (hR : okR R) (hS : okS R σ) (hr : rlT M R) (hm : mdT M 0 σ) (hq : Q (nI x0) M) (hx : x0 ≤ sL σ) (h1 : Tn (R 1) (R 2) (sL σ - x0) ≤ Tn (R 1) (R 2) x0) (h0 : ∀ x, x < x0 → Tn (R 1) (R 2) x < Tn (R 1) (R 2) (sL σ - x)) : ∀ k x, x + k = x0 → wX5_meet_2 Q (k + 1) M (nI x) := by
  have hL := hS.1.2
  intro k
  induction k with
  | zero =>
    intro x hx0
    have : x = x0 := by omega
    subst this
    refine m_turnsAt hR hr (by omega) ?_
    rw [show M 53 366 = nI (sL σ) from hm.1, pk_sub (by omega)]
    refine m_turnsAt hR hr (by omega) ?_
    have t1 := Tn_lt (a := x) hR.1 (by omega)
    exact br_t (nI_le h1 (by omega)) hq
  | succ k ih =>
    intro x hx0
    refine m_turnsAt hR hr (by omega) ?_
    rw [show M 53 366 = nI (sL σ) from hm.1, pk_sub (by omega)]
    refine m_turnsAt hR hr (by omega) ?_
    have t1 := Tn_lt (a := x) hR.1 (by omega)
    have t2 := Tn_lt (a := sL σ - x) hR.1 (by omega)
    have := h0 x (by omega)
    refine br_f (fun q => ?_) ?_
    · have := (nI_leI (by omega) (by omega)).mp q; omega
    · rw [nI_1]; exact ih (x + 1) (by omega)
theorem L_meet {M : MM} (h : Rel M) : wX4_meet (fun r M1 => wX5_meet (PQ r) M1) M := by
  obtain ⟨R, σ, hR, hS, hc, hm, hr, him, hsh, htx⟩ := id h
  have hL := hS.1.2
  obtain ⟨x0, p0, p1⟩ := pk_least (fun x => sL σ ≤ x ∨ Tn (R 1) (R 2) (sL σ - x) ≤ Tn (R 1) (R 2) x) ⟨sL σ, Or.inl (Nat.le_refl _)⟩
  have hx : x0 ≤ sL σ := by
    apply Nat.le_of_not_lt
    intro q
    exact p1 _ q (Or.inl (Nat.le_refl _))
  have e1 : Tn (R 1) (R 2) (sL σ - x0) ≤ Tn (R 1) (R 2) x0 := by
    rcases p0 with q | q
    · exact Tn_mono hR.1 (by omega) (by omega)
    · exact q
  have e2 : ∀ x, x0 ≤ x → x ≤ sL σ → Tn (R 1) (R 2) (sL σ - x) ≤ Tn (R 1) (R 2) x := by
    intro x a1 a2
    have b1 := Tn_mono (a := sL σ - x) (b := sL σ - x0) hR.1 (by omega) (by omega)
    have b2 := Tn_mono (a := x0) (b := x) hR.1 (by omega) a1
    omega
  have e3 : ∀ x, x < x0 → Tn (R 1) (R 2) x < Tn (R 1) (R 2) (sL σ - x) := by
    intro x hx2
    have := p1 x hx2
    omega
  unfold wX4_meet wX2_meetingPlace
  refine s_ruled (Or.inl rfl) 0 (by omega) rfl ⟨15, ?_⟩
  rw [hc.1.1]
  refine s_meet hR hS hc ?_ hx e2 e3 14 0 0 (sL σ) rfl (by have : (2:Nat) ^ 14 = 16384 := rfl; omega) (Nat.zero_le _) hx (Nat.le_refl _)
  unfold wX5_meet
  exact ⟨x0 + 1, m_meet (Q := PQ _) hR hS hr hm ⟨rfl, h⟩ hx e1 e3 x0 0 (by omega)⟩
-- ===== within =====
theorem soN_0 {R : Nat → Nat} {L x : Nat} : soN R L x x = 0 := by
  unfold soN
  have e1 : plN R x x = 0 := if_pos rfl
  rw [e1]
  split <;> omega
theorem soN_up {R : Nat → Nat} (hR : okR R) {L x i j : Nat} (hL : L ≤ 9999) (hij : i ≤ j) (hj : x + j ≤ L) : soN R L x (x + i) ≤ soN R L x (x + j) := by
  have p : plN R x (x + i) ≤ plN R x (x + j) := by
    unfold plN
    by_cases h : i = 0
    · rw [if_pos (by omega)]; omega
    · rw [if_neg (by omega), if_neg (by omega)]
      have : R 3 * dstN x (x + i) ≤ R 3 * dstN x (x + j) := Nat.mul_le_mul_left _ (by unfold dstN; omega)
      omega
  have w : woN R L x (x + i) ≤ woN R L x (x + j) := by
    unfold woN
    by_cases h : i = 0
    · rw [if_pos (by omega)]; omega
    · rw [if_neg (by omega), if_neg (by omega), if_neg (by omega), if_neg (by omega)]
      have m := Tn_mono (a := x + i) (b := x + j) hR.1 (by omega) (by omega)
      have : R 4 * (Tn (R 1) (R 2) (x + i) - Tn (R 1) (R 2) x) ≤ R 4 * (Tn (R 1) (R 2) (x + j) - Tn (R 1) (R 2) x) := Nat.mul_le_mul_left _ (by omega)
      omega
  unfold soN
  split <;> split <;> omega
theorem soN_dn {R : Nat → Nat} (hR : okR R) {L x i j : Nat} (hL : L ≤ 9999) (hx : x ≤ L) (hij : i ≤ j) (hj : j ≤ x) : soN R L x (x - i) ≤ soN R L x (x - j) := by
  have p : plN R x (x - i) ≤ plN R x (x - j) := by
    unfold plN
    by_cases h : i = 0
    · rw [if_pos (by omega)]; omega
    · rw [if_neg (by omega), if_neg (by omega)]
      have : R 3 * dstN x (x - i) ≤ R 3 * dstN x (x - j) := Nat.mul_le_mul_left _ (by unfold dstN; omega)
      omega
  have w : woN R L x (x - i) ≤ woN R L x (x - j) := by
    unfold woN
    by_cases h : i = 0
    · rw [if_pos (by omega)]; omega
    · have a1 : ¬ x = x - i := by omega
      have a2 : ¬ x = x - j := by omega
      have b1 : x - i ≤ x := by omega
      have b2 : x - j ≤ x := by omega
      rw [if_neg a1, if_neg a2, if_pos b1, if_pos b2]
      have m := Tn_mono (a := L - (x - i)) (b := L - (x - j)) hR.1 (by omega) (by omega)
      have : R 4 * (Tn (R 1) (R 2) (L - (x - i)) - Tn (R 1) (R 2) (L - x)) ≤ R 4 * (Tn (R 1) (R 2) (L - (x - j)) - Tn (R 1) (R 2) (L - x)) := Nat.mul_le_mul_left _ (by omega)
      omega
  unfold soN
  split <;> split <;> omega
/-- the farthest of m steps that y allows -/
def farN (f : Nat → Nat) (y : Nat) : Nat → Nat
  | 0 => 0
  | k + 1 => if f (k + 1) ≤ y then k + 1 else farN f y k
theorem farN_le (f : Nat → Nat) (y : Nat) : ∀ k, farN f y k ≤ k := by
  intro k
  induction k with
  | zero => exact Nat.le_refl _
  | succ k ih => rw [farN]; split <;> omega
theorem farN_ok {f : Nat → Nat} {y : Nat} (h0 : f 0 ≤ y) : ∀ k, f (farN f y k) ≤ y := by
  intro k
  induction k with
  | zero => exact h0
  | succ k ih => rw [farN]; split <;> assumption
theorem farN_hi {f : Nat → Nat} {y : Nat} : ∀ k i, farN f y k < i → i ≤ k → y < f i := by
  intro k
  induction k with
  | zero => intro i h1 h2; omega
  | succ k ih =>
    intro i h1 h2
    rw [farN] at h1
    by_cases c : f (k + 1) ≤ y
    · rw [if_pos c] at h1; omega
    · rw [if_neg c] at h1
      by_cases e : i = k + 1
      · subst e; omega
      · exact ih i h1 (by omega)
theorem s_reach {Q : Int32 → MM → Prop} {M : MM} {R : Nat → Nat} {σ : SS} {y m : Nat} {d : Int32} {f pos : Nat → Nat} (hR : okR R) (hS : okS R σ) (hc : clT M 1 R σ) (hy : y ≤ 999999) (hm : m ≤ 9999) (hpos : ∀ k, k ≤ m → nI (sH σ) + d * nI k = nI (pos k) ∧ pos k ≤ sL σ ∧ f k = soN R (sL σ) (sH σ) (pos k)) (hmono : ∀ i j, i ≤ j → j ≤ m → f i ≤ f j) (h0 : f 0 ≤ y) (hq : Q (nI (farN f y m)) M) : wX2_reach Q M 1 (nI y) (nI m) d := by
  have hL := hS.1.2
  have hH := hS.2.2.1
  have hb : tpB 1 := Or.inl rfl
  have k1 := farN_le f y m
  have k2 := farN_ok (f := f) h0 m
  have k3 := farN_hi (f := f) (y := y) m
  have loop : ∀ k s lo hi, s + k = 14 → hi - lo < 2 ^ k → lo ≤ farN f y m → farN f y m ≤ hi → hi ≤ m → wX2_reach_9 Q 1 (nI y) (nI m) d (k + 1) M (nI lo) (nI hi) (nI s) := by
    intro k
    induction k with
    | zero =>
      intro s lo hi hs hd a1 a2 a3
      have e2 : lo = farN f y m := by omega
      refine br_f (fun q => ?_) (br_t (nI_le (by omega) (by omega)) (by rw [e2]; exact hq))
      have := (nI_leI (a := 32) (by omega) (by omega)).mp q; omega
    | succ k ih =>
      intro s lo hi hs hd a1 a2 a3
      refine br_f (fun q => ?_) ?_
      · have := (nI_leI (a := 32) (by omega) (by omega)).mp q; omega
      rw [nI_leI (by omega) (by omega)]
      by_cases c : hi ≤ lo
      · have e2 : lo = farN f y m := by omega
        exact br_t c (by rw [e2]; exact hq)
      · refine br_f c ?_
        rintro x3 e3
        rw [nI_add, nI_1, n2, pk_div (by omega) (by omega) (by omega)] at e3
        subst e3
        have hp : 2 ^ (k + 1) = 2 * 2 ^ k := by rw [Nat.pow_succ]; omega
        have hmid : (lo + hi + 1) / 2 ≤ hi ∧ lo < (lo + hi + 1) / 2 := by omega
        obtain ⟨p1, p2, p3⟩ := hpos ((lo + hi + 1) / 2) (by omega)
        rw [show M 1 9 = nI (sH σ) from hc.2.2.1, p1]
        refine s_sooner hb hR hc hL hH p2 ?_
        rw [← p3]
        have fb : f ((lo + hi + 1) / 2) < 1000000 := by
          rw [p3]
          have := plN_lt hR (x := sH σ) (y := pos ((lo + hi + 1) / 2)) (by omega) (by omega)
          have := woN_lt hR hL hH p2
          unfold soN; split <;> omega
        rw [nI_ltI (by omega) (by omega)]
        unfold wX2_reach_68
        by_cases g : y < f ((lo + hi + 1) / 2)
        · refine br_t g ?_
          rintro _ rfl
          rw [nI_sub1 (by omega), nI_1]
          have : farN f y m < (lo + hi + 1) / 2 := by
            apply Nat.lt_of_not_le
            intro q
            have := hmono _ _ q (by omega); omega
          exact ih (s + 1) _ _ (by omega) (by omega) a1 (by omega) (by omega)
        · refine br_f g ?_
          rw [nI_1]
          have : (lo + hi + 1) / 2 ≤ farN f y m := by
            apply Nat.le_of_not_lt
            intro q
            exact g (k3 _ q (by omega))
          exact ih (s + 1) _ _ (by omega) (by omega) this a2 a3
  unfold wX2_reach
  exact ⟨15, loop 14 0 0 m rfl (by have : (2:Nat) ^ 14 = 16384 := rfl; omega) (Nat.zero_le _) k1 (Nat.le_refl _)⟩
/-- forward -/
theorem m_fwd {Q : Int32 → MM → Prop} {M : MM} {R : Nat → Nat} {σ : SS} {y : Nat} {w : Int32} (hw : w = 0) (hR : okR R) (hS : okS R σ) (hr : rlT M R) (hm : mdT M 0 σ) (hy : y ≤ 999999) (hq : Q (nI (sH σ + farN (fun k => soN R (sL σ) (sH σ) (sH σ + k)) y (sL σ - sH σ))) M) : ∀ k i, i + k = sL σ - sH σ → wX5_within_83 Q (nI y) w (k + 2) M (nI (sH σ + farN (fun k => soN R (sL σ) (sH σ) (sH σ + k)) y i)) (nI (sH σ + (i + 1))) := by
  have hL := hS.1.2
  have hH := hS.2.2.1
  have head : ∀ k i, i + k = sL σ - sH σ → k = 0 → wX5_within_83 Q (nI y) w (k + 2) M (nI (sH σ + farN (fun k => soN R (sL σ) (sH σ) (sH σ + k)) y i)) (nI (sH σ + (i + 1))) := by
    intro k i hi hk
    subst hk
    have e : i = sL σ - sH σ := by omega
    refine br_t ?_ (by rw [e]; exact hq)
    rw [show M 53 366 = nI (sL σ) from hm.1]
    exact nI_lt (by omega) (by omega)
  intro k
  induction k with
  | zero => intro i hi; exact head 0 i hi rfl
  | succ k ih =>
    intro i hi
    refine br_f (fun q => ?_) (br_nt hw ?_)
    · rw [show M 53 366 = nI (sL σ) from hm.1] at q
      have := (nI_ltI (by omega) (by omega)).mp q; omega
    rw [show M 53 325 = nI (sH σ) from hm.2.2.1]
    refine m_sooner hR hr hm.1 hL hH (by omega) ?_
    have fb : soN R (sL σ) (sH σ) (sH σ + (i + 1)) < 1000000 := by
      have := plN_lt hR (x := sH σ) (y := sH σ + (i + 1)) (by omega) (by omega)
      have := woN_lt hR hL hH (show sH σ + (i + 1) ≤ sL σ by omega)
      unfold soN; split <;> omega
    rw [nI_ltI (by omega) (by omega)]
    unfold wX5_within_124
    have g := ih (i + 1) (by omega)
    rw [farN] at g
    rw [nI_1]
    by_cases c : soN R (sL σ) (sH σ) (sH σ + (i + 1)) ≤ y
    · rw [if_pos c] at g
      exact br_f (by omega) g
    · rw [if_neg c] at g
      exact br_t (by omega) g
/-- back -/
theorem m_bwd {Q : Int32 → MM → Prop} {M : MM} {R : Nat → Nat} {σ : SS} {y : Nat} {w : Int32} (hw : ¬ w = 0) (hR : okR R) (hS : okS R σ) (hr : rlT M R) (hm : mdT M 0 σ) (hy : y ≤ 999999) (hq : Q (nI (sH σ - farN (fun k => soN R (sL σ) (sH σ) (sH σ - k)) y (sH σ))) M) : ∀ k i, i + k = sH σ → wX5_within_33 Q (nI y) w (k + 2) M (nI (sH σ - farN (fun k => soN R (sL σ) (sH σ) (sH σ - k)) y i)) (nI (sH σ - i) + (-1)) := by
  have hL := hS.1.2
  have hH := hS.2.2.1
  have exit : ∀ v : Int32, wX5_within_73 Q (nI y) w M v ↔ ∃ m, wX5_within_83 Q (nI y) w m M v (nI (sH σ)) := by
    intro v
    unfold wX5_within_73
    rw [show M 53 325 = nI (sH σ) from hm.2.2.1]
  intro k
  induction k with
  | zero =>
    intro i hi
    have e : i = sH σ := by omega
    refine br_t ?_ ?_
    · rw [e, Nat.sub_self]; decide +kernel
    · refine (exit _).mpr ⟨1, br_f (fun q => ?_) (br_nf hw (by rw [e]; exact hq))⟩
      rw [show M 53 366 = nI (sL σ) from hm.1] at q
      have := (nI_ltI (by omega) (by omega)).mp q; omega
  | succ k ih =>
    intro i hi
    have e1 : nI (sH σ - i) + (-1) = nI (sH σ - (i + 1)) := by
      have : sH σ - i = (sH σ - (i + 1)) + 1 := by omega
      rw [this, pk_m1]
    rw [e1]
    refine br_f (nI_pos (by omega)) (br_f hw ?_)
    rw [show M 53 325 = nI (sH σ) from hm.2.2.1]
    refine m_sooner hR hr hm.1 hL hH (by omega) ?_
    have fb : soN R (sL σ) (sH σ) (sH σ - (i + 1)) < 1000000 := by
      have := plN_lt hR (x := sH σ) (y := sH σ - (i + 1)) (by omega) (by omega)
      have := woN_lt hR hL hH (show sH σ - (i + 1) ≤ sL σ by omega)
      unfold soN; split <;> omega
    rw [nI_ltI (by omega) (by omega)]
    unfold wX5_within_66
    have g := ih (i + 1) (by omega)
    rw [farN] at g
    by_cases c : soN R (sL σ) (sH σ) (sH σ - (i + 1)) ≤ y
    · rw [if_pos c] at g
      exact br_f (by omega) g
    · rw [if_neg c] at g
      exact br_t (by omega) g
theorem L_within {M : MM} (h : Rel M) (x w : Int32) : wX4_within (fun r M1 => wX5_within (PQ r) M1 x w) M x w := by
  obtain ⟨R, σ, hR, hS, hc, hm, hr, him, hsh, htx⟩ := id h
  have hL := hS.1.2
  have hH := hS.2.2.1
  have e9 : M 1 9 = nI (sH σ) := hc.2.2.1
  have m9 : M 53 325 = nI (sH σ) := hm.2.2.1
  unfold wX4_within
  refine s_isBetween.mpr ?_
  by_cases hp : (0 : Int32) ≤ x ∧ x ≤ 999999
  · refine zt1 hp ?_
    obtain ⟨y, hy, rfl⟩ := pl_of (L := 999999) (by omega) hp
    by_cases hw : w = 0
    · refine br_t hw (s_ruled (Or.inl rfl) 0 (by omega) rfl ?_)
      rw [hc.1.1, e9, pk_sub hH]
      refine s_reach (f := fun k => soN R (sL σ) (sH σ) (sH σ + k)) (pos := fun k => sH σ + k) hR hS hc hy (by omega) (fun k hk => ⟨by rw [n1, pk_mul, nI_add, Nat.one_mul], by omega, rfl⟩) (fun i j hij hj => soN_up hR hL hij (by omega)) (by show soN R (sL σ) (sH σ) (sH σ + 0) ≤ y; rw [Nat.add_zero, soN_0]; omega) ?_
      rw [nI_add]
      unfold wX5_within
      refine m_in32 0 999999 rfl rfl (zt1 hp ⟨1, ?_⟩)
      rw [m9]
      have g := m_fwd (Q := PQ (nI (sH σ + farN (fun k => soN R (sL σ) (sH σ) (sH σ + k)) y (sL σ - sH σ)))) (w := w) hw hR hS hr hm hy ⟨rfl, h⟩ (sL σ - sH σ) 0 (by omega)
      refine br_f (nI_pos (by omega)) (br_t hw ?_)
      unfold wX5_within_73
      rw [m9]
      refine ⟨sL σ - sH σ + 2 + 1, br_f (fun q => ?_) (br_nt hw ?_)⟩
      · rw [show M 53 366 = nI (sL σ) from hm.1] at q
        have := (nI_ltI (by omega) (by omega)).mp q; omega
      rw [m9]
      refine m_sooner hR hr hm.1 hL hH hH ?_
      rw [soN_0]
      refine br_f (fun q => ?_) ?_
      · have := (nI_ltI (b := 0) (by omega) (by omega)).mp q; omega
      · unfold wX5_within_124
        rw [nI_1]; exact g
    · refine br_f hw ?_
      rw [e9]
      have pm : ∀ k, k ≤ sH σ → nI (sH σ) + (-1) * nI k = nI (sH σ - k) := by
        intro k hk
        have : (-1 : Int32) * nI k = - nI k := by rw [Int32.neg_mul, n1, pk_mul, Nat.one_mul]
        rw [this, ← Int32.sub_eq_add_neg, pk_sub hk]
      refine s_reach (f := fun k => soN R (sL σ) (sH σ) (sH σ - k)) (pos := fun k => sH σ - k) hR hS hc hy (by omega) (fun k hk => ⟨pm k hk, by omega, rfl⟩) (fun i j hij hj => soN_dn hR hL hH hij (by omega)) (by show soN R (sL σ) (sH σ) (sH σ - 0) ≤ y; rw [Nat.sub_zero, soN_0]; omega) ?_
      have fl := farN_le (fun k => soN R (sL σ) (sH σ) (sH σ - k)) y (sH σ)
      rw [← Int32.sub_eq_add_neg, pk_sub fl]
      unfold wX5_within
      refine m_in32 0 999999 rfl rfl (zt1 hp ⟨sH σ + 2 + 1, ?_⟩)
      rw [m9]
      have g := m_bwd (Q := PQ (nI (sH σ - farN (fun k => soN R (sL σ) (sH σ) (sH σ - k)) y (sH σ)))) (w := w) hw hR hS hr hm hy ⟨rfl, h⟩ (sH σ) 0 (by omega)
      refine br_f (nI_pos (by omega)) (br_f hw ?_)
      rw [m9]
      refine m_sooner hR hr hm.1 hL hH hH ?_
      rw [soN_0]
      refine br_f (fun q => ?_) ?_
      · have := (nI_ltI (b := 0) (by omega) (by omega)).mp q; omega
      · unfold wX5_within_66
        exact g
  · refine zf1 hp ?_
    unfold wX5_within
    exact m_in32 0 999999 rfl rfl (zf1 hp ⟨rfl, h⟩)
