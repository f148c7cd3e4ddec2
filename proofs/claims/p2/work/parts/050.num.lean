-- ===== numbers: turns of a reel =====
def Sn (h t : Nat) : Nat → Nat
  | 0 => 0
  | n + 1 => Sn h t n + h + t * n
theorem tri_s (n : Nat) : (n + 1) * n / 2 = n * (n - 1) / 2 + n := by
  cases n with
  | zero => rfl
  | succ k =>
    have e : (k + 1 + 1) * (k + 1) = (k + 1) * k + 2 * (k + 1) := by
      rw [Nat.add_mul (k + 1) 1 (k + 1), Nat.mul_succ (k + 1) k]; omega
    have e2 : k + 1 - 1 = k := by omega
    rw [e, e2]; omega
theorem Sn_eq (h t n : Nat) : Sn h t n = n * h + t * (n * (n - 1) / 2) := by
  induction n with
  | zero => simp [Sn]
  | succ n ih =>
    rw [Sn, ih]
    have e : n + 1 - 1 = n := by omega
    rw [e, tri_s, Nat.mul_add, Nat.add_mul, Nat.one_mul]; omega
theorem Sn_mono {h t a b : Nat} (hab : a ≤ b) : Sn h t a ≤ Sn h t b := by
  induction hab with
  | refl => exact Nat.le_refl _
  | step _ ih => rw [Sn]; omega
theorem Sn_lt {h t a b : Nat} (hh : 0 < h) (hab : a < b) : Sn h t a < Sn h t b := by
  have h1 : Sn h t (a + 1) ≤ Sn h t b := Sn_mono hab
  rw [Sn] at h1; omega
theorem Sn_ge {h t : Nat} (n : Nat) : n * h ≤ Sn h t n := by rw [Sn_eq]; omega
theorem Sn_le {h t n : Nat} (hh : h ≤ 99) (ht : t ≤ 9) (hn : n ≤ 10000) : Sn h t n ≤ 460000000 := by
  have h1 : Sn h t n ≤ Sn h t 10000 := Sn_mono hn
  have h2 : Sn h t 10000 = 10000 * h + t * (10000 * (10000 - 1) / 2) := Sn_eq h t 10000
  have h3 : t * (10000 * (10000 - 1) / 2) ≤ 9 * (10000 * (10000 - 1) / 2) := Nat.mul_le_mul_right _ ht
  omega
/-- the turns that are whole -/
def Tf (h t a : Nat) : Nat → Nat
  | 0 => 0
  | k + 1 => if Sn h t (k + 1) ≤ a then k + 1 else Tf h t a k
def Tn (h t a : Nat) : Nat := Tf h t a 2047
theorem Tf_lo (h t a k : Nat) : Sn h t (Tf h t a k) ≤ a := by
  induction k with
  | zero => exact Nat.zero_le _
  | succ k ih => rw [Tf]; split <;> assumption
theorem Tf_hi (h t a : Nat) : ∀ k n, Tf h t a k < n → n ≤ k → a < Sn h t n := by
  intro k
  induction k with
  | zero => intro n h1 h2; omega
  | succ k ih =>
    intro n h1 h2
    rw [Tf] at h1
    by_cases hc : Sn h t (k + 1) ≤ a
    · rw [if_pos hc] at h1; omega
    · rw [if_neg hc] at h1
      by_cases hn : n = k + 1
      · subst hn; omega
      · exact ih n h1 (by omega)
/-- the rules of the reels -/
def okHT (h t : Nat) : Prop := 5 ≤ h ∧ h ≤ 99 ∧ 1 ≤ t ∧ t ≤ 9
theorem Sn_big {h t : Nat} (ok : okHT h t) : 10000 < Sn h t 2001 := by
  have h1 := Sn_ge (h := h) (t := t) 2001
  obtain ⟨h5, _⟩ := ok
  omega
theorem Tn_lo (h t a : Nat) : Sn h t (Tn h t a) ≤ a := Tf_lo h t a 2047
theorem Tn_lt {h t a : Nat} (ok : okHT h t) (ha : a ≤ 9999) : Tn h t a < 2001 := by
  have h1 := Tn_lo h t a
  have h2 := Sn_big ok
  apply Nat.lt_of_not_le
  intro h3
  have h4 : Sn h t 2001 ≤ Sn h t (Tn h t a) := Sn_mono h3
  omega
theorem Tn_hi {h t a : Nat} (ok : okHT h t) (ha : a ≤ 9999) : a < Sn h t (Tn h t a + 1) := by
  have h1 := Tn_lt ok ha
  exact Tf_hi h t a 2047 _ (by show Tn h t a < _; omega) (by omega)
theorem Tn_uniq {h t a n : Nat} (ok : okHT h t) (ha : a ≤ 9999) (h1 : Sn h t n ≤ a) (h2 : a < Sn h t (n + 1)) : n = Tn h t a := by
  have h3 := Tn_lo h t a
  have h4 := Tn_hi ok ha
  rcases Nat.lt_trichotomy n (Tn h t a) with q | q | q
  · have := Sn_mono (h := h) (t := t) (show n + 1 ≤ Tn h t a from q); omega
  · exact q
  · have := Sn_mono (h := h) (t := t) (show Tn h t a + 1 ≤ n from q); omega
theorem Tn_iff {h t a n : Nat} (ok : okHT h t) (ha : a ≤ 9999) : Tn h t a = n ↔ (Sn h t n ≤ a ∧ a < Sn h t (n + 1)) := by
  constructor
  · rintro rfl; exact ⟨Tn_lo h t a, Tn_hi ok ha⟩
  · rintro ⟨h1, h2⟩; exact (Tn_uniq ok ha h1 h2).symm
theorem Tn_mono {h t a b : Nat} (ok : okHT h t) (hb : b ≤ 9999) (hab : a ≤ b) : Tn h t a ≤ Tn h t b := by
  have h1 := Tn_lo h t a
  have h2 := Tn_hi ok hb
  apply Nat.le_of_not_lt
  intro q
  have := Sn_mono (h := h) (t := t) (show Tn h t b + 1 ≤ Tn h t a from q)
  omega
-- ===== Int32 as Nat =====
theorem n0 : (0 : Int32) = nI 0 := rfl
theorem n1 : (1 : Int32) = nI 1 := rfl
theorem n2 : (2 : Int32) = nI 2 := rfl
theorem nI_sub1 {n : Nat} (h : 1 ≤ n) : nI n - 1 = nI (n - 1) := by rw [n1]; exact pk_sub h
theorem len_val {h t n : Nat} (hn : n ≤ 10000) : (nI n * nI h) + (nI t * ((nI n * (nI n - (1 : Int32))) / 2)) = nI (Sn h t n) := by
  have e : (nI n * (nI n - (1 : Int32))) = nI (n * (n - 1)) := by
    cases n with
    | zero => decide +kernel
    | succ k => rw [nI_sub1 (by omega), pk_mul]
  have hb : n * (n - 1) ≤ 10000 * 10000 := Nat.mul_le_mul hn (by omega)
  rw [e, n2, pk_div (by omega) (by omega) (by omega), pk_mul, pk_mul, nI_add, Sn_eq]
theorem s_lengthOfTurns {Q : Int32 → MM → Prop} {M : MM} {h t n : Nat} (hn : n ≤ 10000) (hq : Q (nI (Sn h t n)) M) : wX4_lengthOfTurns Q M (nI n) (nI h) (nI t) := by
  unfold wX4_lengthOfTurns
  rw [len_val hn]; exact hq
-- ===== small methods of the class =====
def bI (p : Prop) [Decidable p] : Int32 := if p then 1 else 0
theorem bI_t {p : Prop} [Decidable p] (h : p) : bI p = 1 := if_pos h
theorem bI_f {p : Prop} [Decidable p] (h : ¬ p) : bI p = 0 := if_neg h
theorem nb_bI (p : Prop) [Decidable p] : nb (bI p) := by
  by_cases h : p
  · rw [bI_t h]; exact nb_1
  · rw [bI_f h]; exact nb_0
theorem bI_0 {p : Prop} [Decidable p] : bI p = 0 ↔ ¬ p := by
  by_cases h : p
  · rw [bI_t h]; simp [h]
  · rw [bI_f h]; simp [h]
theorem s_isBetween {Q : Int32 → MM → Prop} {M : MM} {v lo hi : Int32} : wX4_isBetween Q M v lo hi ↔ Q (bI (lo ≤ v ∧ v ≤ hi)) M := by
  unfold wX4_isBetween wX4_isBetween_14
  by_cases h1 : v < lo
  · have h3 : ¬ (lo ≤ v ∧ v ≤ hi) := fun q => absurd q.1 (Int32.not_le.mpr h1)
    simp [h1, bI_f h3]
  · by_cases h2 : hi < v
    · have h3 : ¬ (lo ≤ v ∧ v ≤ hi) := fun q => absurd q.2 (Int32.not_le.mpr h2)
      simp [h1, h2, bI_f h3]
    · have h3 : lo ≤ v ∧ v ≤ hi := ⟨Int32.not_lt.mp h1, Int32.not_lt.mp h2⟩
      simp [h1, h2, bI_t h3]
theorem clamp_nI {n : Nat} (h : n < 2 ^ 31) : (nI n).toNatClampNeg = n := nI_clamp h
theorem vp_nI {n N : Nat} (h : n < N) (hN : N < 2 ^ 31) : vp_in (nI n) N := vp_in_nI h hN
theorem alen_tp {b : Nat} (hb : tpB b) : alen (b + 1) = 9 ∧ alen (b + 2) = 12 ∧ alen (b + 3) = 12 ∧ alen (b + 4) = 156 ∧ alen (b + 5) = 144 ∧ alen (b + 6) = 12 ∧ alen (b + 7) = 12 ∧ alen (b + 8) = 12 := by
  rcases hb with rfl | rfl | rfl | rfl <;> decide +kernel
theorem s_ruled {Q : Int32 → MM → Prop} {M : MM} {b : Nat} (hb : tpB b) (r : Nat) (hr : r < 9) {v : Int32} (hv : v = nI r) (hq : Q (M (b + 1) r) M) : wX2_ruled Q M b v := by
  subst hv
  unfold wX2_ruled wX2_ruled_22
  rw [(alen_tp hb).1]
  refine ⟨fun h => absurd h (nI_pos (by omega)), fun _ => ⟨fun h => absurd h (nI_ge (by omega) (by omega)), fun _ => ⟨vp_nI hr (by omega), ?_⟩⟩⟩
  rw [clamp_nI (by omega)]; exact hq
theorem s_cell {Q : Int32 → MM → Prop} {M : MM} {k j : Nat} (hj : j < alen k) (hk : alen k < 2 ^ 31) (hq : Q (M k j) M) : wX4_cell Q M k (nI j) := by
  unfold wX4_cell wX4_cell_20
  refine ⟨fun h => absurd h (nI_pos (by omega)), fun _ => ⟨fun h => absurd h (nI_ge (by omega) (by omega)), fun _ => ⟨vp_nI hj (by omega), ?_⟩⟩⟩
  rw [clamp_nI (by omega)]; exact hq
theorem s_setCell {Q : MM → Prop} {M : MM} {k j : Nat} {v : Int32} (hj : j < alen k) (hk : alen k < 2 ^ 31) (hq : Q (mset M k j v)) : wX4_setCell Q M k (nI j) v := by
  unfold wX4_setCell
  refine ⟨fun h => absurd h (nI_pos (by omega)), fun _ => ⟨fun h => absurd h (nI_ge (by omega) (by omega)), fun _ => ⟨vp_nI hj (by omega), ?_⟩⟩⟩
  rw [clamp_nI (by omega)]; rintro _ rfl; exact hq
-- ===== turnsOf of the class =====
theorem turns_loop {Q : Int32 → MM → Prop} {M : MM} {b h t a : Nat} (ok : okHT h t) (ha : a ≤ 9999) (hq : Q (nI (Tn h t a)) M) : ∀ k c, k ≤ 10 → Sn h t c ≤ a → a < Sn h t (c + 2 ^ (k + 1)) → c + 2 ^ (k + 1) ≤ 2048 → wX2_turnsOf_20 Q b (nI a) (k + 2) M (nI h) (nI t) (nI c) (nI (2 ^ k)) := by
  intro k
  induction k with
  | zero =>
    intro c _ h1 h2 h3
    have step : ∀ c', Sn h t c' ≤ a → a < Sn h t (c' + 1) → wX2_turnsOf_20 Q b (nI a) 1 M (nI h) (nI t) (nI c') (nI (2 ^ 0) / 2) := by
      intro c' g1 g2
      rw [← Tn_uniq ok ha g1 g2] at hq
      exact ⟨fun _ => hq, fun q => absurd (show nI (2 ^ 0) / 2 ≤ 0 by decide +kernel) q⟩
    refine ⟨fun q => absurd q (by decide +kernel), fun _ => ?_⟩
    rw [nI_add]
    have hs := Sn_le ok.2.1 ok.2.2.2 (show c + 2 ^ 0 ≤ 10000 by omega)
    refine s_lengthOfTurns (by omega) ⟨fun q => ?_, fun q => ?_⟩
    · rw [nI_ltI (by omega) (by omega)] at q
      exact step c h1 q
    · rw [nI_ltI (by omega) (by omega)] at q
      exact step (c + 2 ^ 0) (by omega) (by simpa using h2)
  | succ k ih =>
    intro c hk h1 h2 h3
    have hp : 2 ^ (k + 1) = 2 * 2 ^ k := by rw [Nat.pow_succ]; omega
    have hp2 : 2 ^ (k + 1 + 1) = 2 * 2 ^ (k + 1) := by rw [Nat.pow_succ]; omega
    have hpos : 0 < 2 ^ k := Nat.pow_pos (by omega)
    have hd : nI (2 ^ (k + 1)) / 2 = nI (2 ^ k) := by
      rw [n2, pk_div (by omega) (by omega) (by omega), hp]; congr 1; omega
    refine ⟨fun q => absurd q (nI_nle (by omega) (by omega)), fun _ => ?_⟩
    rw [nI_add]
    have hs := Sn_le ok.2.1 ok.2.2.2 (show c + 2 ^ (k + 1) ≤ 10000 by omega)
    refine s_lengthOfTurns (by omega) ⟨fun q => ?_, fun q => ?_⟩
    · rw [nI_ltI (by omega) (by omega)] at q
      show wX2_turnsOf_20 Q b (nI a) (k + 2) M (nI h) (nI t) (nI c) (nI (2 ^ (k + 1)) / 2)
      rw [hd]
      exact ih c (by omega) h1 q (by omega)
    · rw [nI_ltI (by omega) (by omega)] at q
      show wX2_turnsOf_20 Q b (nI a) (k + 2) M (nI h) (nI t) (nI (c + 2 ^ (k + 1))) (nI (2 ^ (k + 1)) / 2)
      rw [hd]
      exact ih (c + 2 ^ (k + 1)) (by omega) (by omega) (by rw [Nat.add_assoc, ← Nat.two_mul, ← hp2]; exact h2) (by omega)
theorem s_turnsOf {Q : Int32 → MM → Prop} {M : MM} {b h t a : Nat} (hb : tpB b) (ok : okHT h t) (e1 : M (b + 1) 1 = nI h) (e2 : M (b + 1) 2 = nI t) (ha : a ≤ 9999) (hq : Q (nI (Tn h t a)) M) : wX2_turnsOf Q M b (nI a) := by
  unfold wX2_turnsOf
  refine s_ruled hb 1 (by omega) rfl (s_ruled hb 2 (by omega) rfl ⟨12, ?_⟩)
  rw [e1, e2]
  have h2 := Sn_big ok
  have h3 : Sn h t 2001 ≤ Sn h t (0 + 2 ^ (10 + 1)) := Sn_mono (by decide)
  exact turns_loop ok ha hq 10 0 (by omega) (Nat.zero_le _) (by omega) (by decide)
-- ===== turnsOf of the reference =====
theorem mturns_loop {Q : Int32 → MM → Prop} {M : MM} {h t a : Nat} (ok : okHT h t) (ha : a ≤ 9999) (hq : Q (nI (Tn h t a)) M) : ∀ k n, n + k = Tn h t a + 1 → 0 < k → wX5_turnsOf_5 Q (nI a) (nI h) (nI t) k M (nI n) (nI (Sn h t n)) := by
  intro k
  induction k with
  | zero => intro n _ h0; omega
  | succ k ih =>
    intro n h1 _
    have hT := Tn_lt ok ha
    have hs := Sn_le ok.2.1 ok.2.2.2 (show n + 1 ≤ 10000 by omega)
    have e : (nI (Sn h t n) + nI h) + (nI t * nI n) = nI (Sn h t (n + 1)) := by rw [pk_mul, nI_add, nI_add, Sn]
    have e' : nI (Sn h t n) + (nI h + (nI t * nI n)) = nI (Sn h t (n + 1)) := by rw [pk_mul, nI_add, nI_add, Sn, Nat.add_assoc]
    refine ⟨fun q => ?_, fun q => ?_⟩
    · rw [e, nI_ltI (by omega) (by omega)] at q
      have h4 : n = Tn h t a := by
        have h5 : Sn h t n ≤ Sn h t (Tn h t a) := Sn_mono (by omega)
        exact Tn_uniq ok ha (by have := Tn_lo h t a; omega) q
      rw [h4]; exact hq
    · rw [e, nI_ltI (by omega) (by omega)] at q
      rintro _ rfl
      rw [e', nI_1]
      have h4 : n ≠ Tn h t a := by
        rintro rfl
        have := Tn_hi ok ha; omega
      exact ih (n + 1) (by omega) (by omega)
theorem m_turnsOf {Q : Int32 → MM → Prop} {M : MM} {h t a : Nat} (ok : okHT h t) (ha : a ≤ 9999) (hq : Q (nI (Tn h t a)) M) : wX5_turnsOf Q M (nI a) (nI h) (nI t) :=
  ⟨Tn h t a + 1, mturns_loop ok ha hq (Tn h t a + 1) 0 (by omega) (by omega)⟩
