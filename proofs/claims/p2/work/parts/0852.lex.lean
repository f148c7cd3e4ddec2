-- ===== letters and tokens, as numbers =====
def isB (x : Nat) : Bool := Nat.beq x 32
def isA (x : Nat) : Bool := Nat.ble 97 x && Nat.ble x 122
def isF (x : Nat) : Bool := Nat.ble 48 x && Nat.ble x 57
theorem isB_t {x : Nat} : isB x = true ↔ x = 32 := by
  unfold isB; rw [Nat.beq_eq]
theorem isA_t {x : Nat} : isA x = true ↔ 97 ≤ x ∧ x ≤ 122 := by
  unfold isA; rw [Bool.and_eq_true, Nat.ble_eq, Nat.ble_eq]
theorem isF_t {x : Nat} : isF x = true ↔ 48 ≤ x ∧ x ≤ 57 := by
  unfold isF; rw [Bool.and_eq_true, Nat.ble_eq, Nat.ble_eq]
def rnF (P : Nat → Bool) (c : Nat → Nat) (n : Nat) : Nat → Nat → Nat
  | 0, p => p
  | k + 1, p => if p < n ∧ P (c p) = true then rnF P c n k (p + 1) else p
/-- behind a run of letters of a kind -/
def rnN (P : Nat → Bool) (c : Nat → Nat) (n p : Nat) : Nat := rnF P c n (n - p) p
theorem rn_go {P : Nat → Bool} {c : Nat → Nat} {n p : Nat} (h : p < n) (q : P (c p) = true) : rnN P c n p = rnN P c n (p + 1) := by
  unfold rnN
  rw [show n - p = (n - (p + 1)) + 1 by omega, rnF, if_pos ⟨h, q⟩]
theorem rn_st {P : Nat → Bool} {c : Nat → Nat} {n p : Nat} (h : ¬ (p < n ∧ P (c p) = true)) : rnN P c n p = p := by
  unfold rnN
  cases n - p with
  | zero => rfl
  | succ k => rw [rnF, if_neg h]
theorem rn_ge {P : Nat → Bool} {c : Nat → Nat} {n : Nat} : ∀ k p, p ≤ rnF P c n k p ∧ (p ≤ n → rnF P c n k p ≤ n) := by
  intro k
  induction k with
  | zero => intro p; exact ⟨Nat.le_refl _, fun h => h⟩
  | succ k ih =>
    intro p
    rw [rnF]
    by_cases h : p < n ∧ P (c p) = true
    · rw [if_pos h]
      have := ih (p + 1)
      exact ⟨by omega, fun _ => this.2 (by omega)⟩
    · rw [if_neg h]; exact ⟨Nat.le_refl _, fun h => h⟩
theorem rn_b {P : Nat → Bool} {c : Nat → Nat} {n p : Nat} (h : p ≤ n) : p ≤ rnN P c n p ∧ rnN P c n p ≤ n := ⟨(rn_ge _ _).1, (rn_ge _ _).2 h⟩
theorem rn_in {P : Nat → Bool} {c : Nat → Nat} {n : Nat} : ∀ k p j, p ≤ j → j < rnF P c n k p → P (c j) = true := by
  intro k
  induction k with
  | zero =>
    intro p j h1 h2
    have : rnF P c n 0 p = p := rfl
    omega
  | succ k ih =>
    intro p j h1 h2
    rw [rnF] at h2
    by_cases h : p < n ∧ P (c p) = true
    · rw [if_pos h] at h2
      by_cases e : j = p
      · subst e; exact h.2
      · exact ih (p + 1) j (by omega) h2
    · rw [if_neg h] at h2; omega
theorem rn_end {P : Nat → Bool} {c : Nat → Nat} {n : Nat} : ∀ k p, n ≤ p + k → ¬ (rnF P c n k p < n ∧ P (c (rnF P c n k p)) = true) := by
  intro k
  induction k with
  | zero =>
    intro p h q
    have : rnF P c n 0 p = p := rfl
    omega
  | succ k ih =>
    intro p h
    rw [rnF]
    by_cases e : p < n ∧ P (c p) = true
    · rw [if_pos e]; exact ih (p + 1) (by omega)
    · rw [if_neg e]; exact e
def tS (c : Nat → Nat) (n p : Nat) : Nat := rnN isB c n p
def tE (c : Nat → Nat) (n p : Nat) : Nat := if tS c n p < n then (if isA (c (tS c n p)) = true then rnN isA c n (tS c n p) else if isF (c (tS c n p)) = true then rnN isF c n (tS c n p) else tS c n p + 1) else tS c n p
def tK (c : Nat → Nat) (n p : Nat) : Nat := if tS c n p < n then (if isA (c (tS c n p)) = true then 1 else if isF (c (tS c n p)) = true then (if rnN isF c n (tS c n p) - tS c n p ≤ 4 then 2 else 4) else if c (tS c n p) = 59 then 3 else 4) else 0
def vF (c : Nat → Nat) (s : Nat) : Nat → Nat
  | 0 => 0
  | k + 1 => 10 * vF c s k + (c (s + k) - 48)
def tV (c : Nat → Nat) (n p : Nat) : Nat := vF c (tS c n p) (min (tE c n p - tS c n p) 4)
theorem tS_b {c : Nat → Nat} {n p : Nat} (h : p ≤ n) : p ≤ tS c n p ∧ tS c n p ≤ n := rn_b h
theorem tE_b {c : Nat → Nat} {n p : Nat} (h : p ≤ n) : tS c n p ≤ tE c n p ∧ tE c n p ≤ n := by
  have hs := tS_b (c := c) h
  unfold tE
  by_cases h1 : tS c n p < n
  · rw [if_pos h1]
    by_cases h2 : isA (c (tS c n p)) = true
    · rw [if_pos h2]; exact rn_b hs.2
    · rw [if_neg h2]
      by_cases h3 : isF (c (tS c n p)) = true
      · rw [if_pos h3]; exact rn_b hs.2
      · rw [if_neg h3]; omega
  · rw [if_neg h1]; omega
theorem tE_gt {c : Nat → Nat} {n p : Nat} (h : p ≤ n) (hk : tK c n p ≠ 0) : tS c n p < tE c n p := by
  have hs := tS_b (c := c) h
  by_cases h1 : tS c n p < n
  · unfold tE
    rw [if_pos h1]
    by_cases h2 : isA (c (tS c n p)) = true
    · rw [if_pos h2, rn_go h1 h2]
      have := (rn_b (P := isA) (c := c) (show tS c n p + 1 ≤ n by omega)).1
      omega
    · rw [if_neg h2]
      by_cases h3 : isF (c (tS c n p)) = true
      · rw [if_pos h3, rn_go h1 h3]
        have := (rn_b (P := isF) (c := c) (show tS c n p + 1 ≤ n by omega)).1
        omega
      · rw [if_neg h3]; omega
  · exact absurd (show tK c n p = 0 by unfold tK; rw [if_neg h1]) hk
theorem tK_0 {c : Nat → Nat} {n p : Nat} (h : p ≤ n) (hk : tK c n p = 0) : tS c n p = n ∧ tE c n p = n := by
  have hs := tS_b (c := c) h
  by_cases h1 : tS c n p < n
  · unfold tK at hk
    rw [if_pos h1] at hk
    repeat' split at hk
    all_goals omega
  · have : tS c n p = n := by omega
    refine ⟨this, ?_⟩
    unfold tE
    rw [if_neg h1]; exact this
theorem tK_le (c : Nat → Nat) (n p : Nat) : tK c n p ≤ 4 := by
  unfold tK
  repeat' split
  all_goals omega
theorem vF_lt {c : Nat → Nat} {s : Nat} : ∀ k, (∀ j, j < k → c (s + j) ≤ 57) → vF c s k < 10 ^ k := by
  intro k
  induction k with
  | zero => intro _; exact Nat.one_pos
  | succ k ih =>
    intro h
    have h1 := ih (fun j hj => h j (by omega))
    have h2 := h k (by omega)
    rw [vF, Nat.pow_succ]
    omega
theorem tV_lt (c : Nat → Nat) (n p : Nat) (hk : tK c n p = 2) : tV c n p < 10000 := by
  unfold tK at hk
  by_cases h1 : tS c n p < n
  · rw [if_pos h1] at hk
    by_cases h2 : isA (c (tS c n p)) = true
    · rw [if_pos h2] at hk; omega
    · rw [if_neg h2] at hk
      by_cases h3 : isF (c (tS c n p)) = true
      · rw [if_pos h3] at hk
        have e : tE c n p = rnN isF c n (tS c n p) := by unfold tE; rw [if_pos h1, if_neg h2, if_pos h3]
        unfold tV
        have hm : min (tE c n p - tS c n p) 4 ≤ 4 := by omega
        have hv := vF_lt (c := c) (s := tS c n p) (min (tE c n p - tS c n p) 4) (fun j hj => (isF_t.mp (rn_in (P := isF) (c := c) (n := n) (n - tS c n p) (tS c n p) (tS c n p + j) (by omega) (show _ < rnN isF c n (tS c n p) by omega))).2)
        have := Nat.pow_le_pow_right (n := 10) (by omega) hm
        omega
      · rw [if_neg h3] at hk
        split at hk <;> omega
  · rw [if_neg h1] at hk; omega
-- ===== the class's letters =====
def ltP (M : MM) (c : Nat → Nat) (n : Nat) : Prop := n ≤ 400 ∧ M 37 2 = nI n ∧ (∀ i, i < n → (M 38 i) &&& 255 = nI (c i)) ∧ ∀ i, i < n → c i < 256
theorem ltP.keep {M M1 : MM} {c : Nat → Nat} {n : Nat} (h : ltP M c n) (e1 : M1 37 2 = M 37 2) (e2 : M1 38 = M 38) : ltP M1 c n := by
  unfold ltP; rw [e1, e2]; exact h
theorem a38 : alen 38 = 400 := by decide +kernel
theorem s_letterAt {Q : Int32 → MM → Prop} {M : MM} {c : Nat → Nat} {n i : Nat} (hl : ltP M c n) (hi : i ≤ 410) (h1 : i < n → Q (nI (c i)) M) (h0 : ¬ i < n → Q (-1) M) : wX3_letterAt Q M (nI i) := by
  obtain ⟨l1, l2, l3, l4⟩ := hl
  unfold wX3_letterAt wX3_letterAt_34
  rw [l2, a38, nI_leI (by omega) (by omega), nI_leI (by omega) (by omega)]
  refine br_f (nI_pos (by omega)) ?_
  by_cases h : i < n
  · refine br_f (by omega) (br_f (by omega) ⟨vp_nI (by omega) (by omega), ?_⟩)
    rw [clamp_nI (by omega), l3 i h]
    exact h1 h
  · exact br_t (by omega) (h0 h)
theorem s_small {Q : Int32 → MM → Prop} {M : MM} {x : Nat} (hx : x < 256) (h1 : isA x = true → Q 1 M) (h0 : ¬ isA x = true → Q 0 M) : wX3_isSmallLetter Q M (nI x) := by
  unfold wX3_isSmallLetter wX3_isSmallLetter_16
  rw [isA_t] at h1 h0
  rw [show (97 : Int32) = nI 97 from rfl, show (122 : Int32) = nI 122 from rfl, nI_ltI (by omega) (by omega), nI_ltI (by omega) (by omega)]
  by_cases a : x < 97
  · exact br_t a (h0 (by omega))
  · refine br_f a ?_
    by_cases b : 122 < x
    · exact br_t b (h0 (by omega))
    · exact br_f b (h1 (by omega))
theorem s_figure {Q : Int32 → MM → Prop} {M : MM} {x : Nat} (hx : x < 256) (h1 : isF x = true → Q 1 M) (h0 : ¬ isF x = true → Q 0 M) : wX3_isFigure Q M (nI x) := by
  unfold wX3_isFigure wX3_isFigure_16
  rw [isF_t] at h1 h0
  rw [show (48 : Int32) = nI 48 from rfl, show (57 : Int32) = nI 57 from rfl, nI_ltI (by omega) (by omega), nI_ltI (by omega) (by omega)]
  by_cases a : x < 48
  · exact br_t a (h0 (by omega))
  · refine br_f a ?_
    by_cases b : 57 < x
    · exact br_t b (h0 (by omega))
    · exact br_f b (h1 (by omega))
/-- the token that begins at p, or behind blanks, is read -/
def tokC (c : Nat → Nat) (n p : Nat) (M : MM) : Prop := M 37 3 = nI (tE c n p) ∧ M 37 4 = nI (tK c n p) ∧ M 37 5 = nI (tS c n p) ∧ (tK c n p = 2 → M 37 6 = nI (tV c n p))
def tk0 (c : Nat → Nat) (n p : Nat) (M M1 : MM) : Prop := (∀ a, a ≠ 37 → M1 a = M a) ∧ M1 37 2 = M 37 2 ∧ M1 37 7 = M 37 7 ∧ M1 37 8 = M 37 8 ∧ M1 37 9 = M 37 9 ∧ tokC c n p M1
def tkP (c : Nat → Nat) (n p : Nat) (M M' : MM) : Prop := (∀ a, a ≠ 37 → M' a = M a) ∧ M' 37 2 = M 37 2 ∧ M' 37 7 = M 37 7 ∧ tokC c n p M' ∧ (tK c n p = 4 → M 37 8 = 0 → M' 37 8 = nI 1 ∧ M' 37 9 = nI (tS c n p)) ∧ (¬ (tK c n p = 4 ∧ M 37 8 = 0) → M' 37 8 = M 37 8 ∧ M' 37 9 = M 37 9)
theorem s_155 {Q : MM → Prop} {M M1 : MM} {c : Nat → Nat} {n p : Nat} (h : tk0 c n p M M1) (hq : ∀ M', tkP c n p M M' → Q M') : wX3_readToken_155 Q M1 := by
  obtain ⟨h1, h2, h3, h4, h5, h6⟩ := h
  have hk := tK_le c n p
  unfold wX3_readToken_155
  rw [h6.2.1, show (4 : Int32) = nI 4 from rfl, nI_eq (by omega) (by omega)]
  by_cases k4 : tK c n p = 4
  · refine br_nt k4 ?_
    unfold wX3_refuse
    rw [h4]
    by_cases f : M 37 8 = 0
    · refine br_t f ?_
      rintro _ rfl _ rfl
      refine hq _ ⟨fun a ha => by rw [mset_n ha, mset_n ha]; exact h1 a ha, by rw [mset_sn (by decide), mset_sn (by decide)]; exact h2, by rw [mset_sn (by decide), mset_sn (by decide)]; exact h3, ?_, fun _ _ => ⟨by rw [mset_sn (by decide), mset_ss]; rfl, by rw [mset_ss]; exact h6.2.2.1⟩, fun q => absurd ⟨k4, f⟩ q⟩
      exact ⟨by rw [mset_sn (by decide), mset_sn (by decide)]; exact h6.1, by rw [mset_sn (by decide), mset_sn (by decide)]; exact h6.2.1, by rw [mset_sn (by decide), mset_sn (by decide)]; exact h6.2.2.1, fun q => by omega⟩
    · exact br_f f (hq _ ⟨h1, h2, h3, h6, fun _ q => absurd q f, fun _ => ⟨h4, h5⟩⟩)
  · exact br_nf k4 (hq _ ⟨h1, h2, h3, h6, fun q => absurd q k4, fun _ => ⟨h4, h5⟩⟩)
/-- only the reader's place was moved -/
def k3 (M M' : MM) (i : Nat) : Prop := (∀ a, a ≠ 37 → M' a = M a) ∧ (∀ j, j ≠ 3 → M' 37 j = M 37 j) ∧ M' 37 3 = nI i
theorem k3.up {M M' : MM} {i : Nat} (h : k3 M M' i) : k3 M (mset M' 37 3 (M' 37 3 + 1)) (i + 1) :=
  ⟨fun a ha => by rw [mset_n ha]; exact h.1 a ha, fun j hj => by rw [mset_sn hj]; exact h.2.1 j hj, by rw [mset_ss, h.2.2, nI_1]⟩
theorem k3.lt {M M' : MM} {i n : Nat} {c : Nat → Nat} (h : k3 M M' i) (hl : ltP M c n) : ltP M' c n := hl.keep (h.2.1 2 (by decide)) (h.1 38 (by decide))
theorem s_run78 {Q : MM → Prop} {M : MM} {c : Nat → Nat} {n e : Nat} (hl : ltP M c n) (hq : ∀ M', k3 M M' e → wX3_readToken_155 Q M') : ∀ r i M', i + r = n → rnN isA c n i = e → k3 M M' i → wX3_readToken_78 Q (r + 1) M' := by
  have h400 := hl.1
  intro r
  induction r with
  | zero =>
    intro i M' hi he hk
    have : ¬ i < n := by omega
    rw [rn_st (fun q => this q.1)] at he
    subst he
    refine br_t ?_ (hq M' hk)
    rw [(hk.lt hl).2.1, hk.2.2]; exact nI_le (by omega) (by omega)
  | succ r ih =>
    intro i M' hi he hk
    have hl' := hk.lt hl
    unfold wX3_readToken_78
    rw [hl'.2.1, hk.2.2, nI_leI (by omega) (by omega)]
    refine br_f (by omega) (s_letterAt hl' (by omega) (fun h => s_small (hl.2.2.2 i h) (fun q => o_t1 ?_) (fun q => o_t0 ?_)) (fun h => absurd (by omega) h))
    · rintro _ rfl
      have g := hk.up
      exact ih (i + 1) _ (by omega) (by rw [← rn_go h q]; exact he) g
    · rw [rn_st (fun z => q z.2)] at he
      subst he
      exact hq M' hk
theorem s_runF {Q : MM → Prop} {M : MM} {c : Nat → Nat} {n e : Nat} (hl : ltP M c n) (hq : ∀ M', k3 M M' e → wX3_readNumber_38 Q M') : ∀ r i M', i + r = n → rnN isF c n i = e → k3 M M' i → wX3_readNumber_0 Q (r + 1) M' := by
  have h400 := hl.1
  intro r
  induction r with
  | zero =>
    intro i M' hi he hk
    have : ¬ i < n := by omega
    rw [rn_st (fun q => this q.1)] at he
    subst he
    refine br_t ?_ (hq M' hk)
    rw [(hk.lt hl).2.1, hk.2.2]; exact nI_le (by omega) (by omega)
  | succ r ih =>
    intro i M' hi he hk
    have hl' := hk.lt hl
    unfold wX3_readNumber_0
    rw [hl'.2.1, hk.2.2, nI_leI (by omega) (by omega)]
    refine br_f (by omega) (s_letterAt hl' (by omega) (fun h => s_figure (hl.2.2.2 i h) (fun q => o_t1 ?_) (fun q => o_t0 ?_)) (fun h => absurd (by omega) h))
    · rintro _ rfl
      have g := hk.up
      exact ih (i + 1) _ (by omega) (by rw [← rn_go h q]; exact he) g
    · rw [rn_st (fun z => q z.2)] at he
      subst he
      exact hq M' hk
/-- the value is counted up -/
def k6 (M M' : MM) (v : Nat) : Prop := (∀ a, a ≠ 37 → M' a = M a) ∧ (∀ j, j ≠ 6 → M' 37 j = M 37 j) ∧ M' 37 6 = nI v
theorem s_value {Q : MM → Prop} {M : MM} {c : Nat → Nat} {n s e : Nat} (hl : ltP M c n) (hse : s ≤ e) (he : e ≤ n) (h4 : e - s ≤ 4) (e3 : M 37 3 = nI e) (hf : ∀ j, s ≤ j → j < e → isF (c j) = true) (hq : ∀ M', k6 M M' (vF c s (e - s)) → Q M') : ∀ r k M', s + k + r = e → k6 M M' (vF c s k) → wX3_readNumber_79 Q (r + 1) M' (nI (s + k)) := by
  have h400 := hl.1
  intro r
  induction r with
  | zero =>
    intro k M' hk h
    have : k = e - s := by omega
    subst this
    refine br_t ?_ (hq M' h)
    rw [h.2.1 3 (by decide), e3]; exact nI_le (by omega) (by omega)
  | succ r ih =>
    intro k M' hk h
    have hl' : ltP M' c n := hl.keep (h.2.1 2 (by decide)) (h.1 38 (by decide))
    unfold wX3_readNumber_79
    rw [h.2.1 3 (by decide), e3, nI_leI (by omega) (by omega)]
    refine br_f (by omega) (s_letterAt hl' (by omega) (fun hlt => ?_) (fun z => absurd (by omega) z))
    rintro _ rfl
    have hc := isF_t.mp (hf (s + k) (by omega) (by omega))
    have hv := vF_lt (c := c) (s := s) k (fun j hj => (isF_t.mp (hf (s + j) (by omega) (by omega))).2)
    have := Nat.pow_le_pow_right (n := 10) (by omega) (show k ≤ 4 by omega)
    rw [h.2.2, show (10 : Int32) = nI 10 from rfl, show (48 : Int32) = nI 48 from rfl, pk_mul, nI_add, pk_sub (by omega), nI_1]
    refine ih (k + 1) _ (by omega) ⟨fun a ha => by rw [mset_n ha]; exact h.1 a ha, fun j hj => by rw [mset_sn hj]; exact h.2.1 j hj, ?_⟩
    rw [mset_ss, vF]; congr 1; omega
/-- a token is read -/
theorem s_readToken {Q : MM → Prop} {M : MM} {c : Nat → Nat} {n p : Nat} (hl : ltP M c n) (hp : p ≤ n) (e3 : M 37 3 = nI p) (hq : ∀ M', tkP c n p M M' → Q M') : wX3_readToken Q M := by
  have h400 := hl.1
  have hsb := tS_b (c := c) hp
  have heb := tE_b (c := c) hp
  -- behind the blanks
  have t37 : ∀ M1, k3 M M1 (tS c n p) → wX3_readToken_37 Q M1 := by
    intro M1 hk
    have hl1 := hk.lt hl
    unfold wX3_readToken_37
    rintro _ rfl
    have l2 : ltP (mset M1 37 5 (M1 37 3)) c n := hl1.keep (mset_sn (by decide)) (mset_n (by decide))
    rw [mset_ss, hk.2.2]
    rw [hk.2.2] at l2
    -- what holds from there on
    have base : ∀ (M2 : MM) (k e : Nat), (∀ a, a ≠ 37 → M2 a = M1 a) → (∀ j, j ≠ 3 → j ≠ 4 → j ≠ 5 → j ≠ 6 → M2 37 j = M1 37 j) → M2 37 3 = nI e → M2 37 4 = nI k → M2 37 5 = nI (tS c n p) → tE c n p = e → tK c n p = k → (k = 2 → M2 37 6 = nI (tV c n p)) → wX3_readToken_155 Q M2 := by
      intro M2 k e g1 g2 g3 g4 g5 g6 g7 g8
      refine s_155 (c := c) (n := n) (p := p) (M := M) ⟨fun a ha => by rw [g1 a ha]; exact hk.1 a ha, by rw [g2 2 (by decide) (by decide) (by decide) (by decide)]; exact hk.2.1 2 (by decide), by rw [g2 7 (by decide) (by decide) (by decide) (by decide)]; exact hk.2.1 7 (by decide), by rw [g2 8 (by decide) (by decide) (by decide) (by decide)]; exact hk.2.1 8 (by decide), by rw [g2 9 (by decide) (by decide) (by decide) (by decide)]; exact hk.2.1 9 (by decide), ?_⟩ hq
      exact ⟨by rw [g6]; exact g3, by rw [g7]; exact g4, g5, fun z => g8 (by rw [← g7]; exact z)⟩
    refine s_letterAt l2 (by omega) (fun h1 => ?_) (fun h1 => ?_)
    · have hc := hl.2.2.2 _ h1
      refine br_t (show (0 : Int32) ≤ _ from nI_le (a := 0) (Nat.zero_le _) (by omega)) (s_small hc (fun q => o_t1 ?_) (fun q => o_t0 ?_))
      · -- a name
        rintro _ rfl
        have g : k3 (mset (mset M1 37 5 (nI (tS c n p))) 37 4 1) (mset (mset M1 37 5 (nI (tS c n p))) 37 4 1) (tS c n p) := ⟨fun _ _ => rfl, fun _ _ => rfl, by rw [mset_sn (by decide), mset_sn (by decide)]; exact hk.2.2⟩
        refine ⟨n - tS c n p + 1, s_run78 (c := c) (n := n) (e := tE c n p) (l2.keep (mset_sn (by decide)) (mset_n (by decide))) (fun M3 g3 => ?_) (n - tS c n p) (tS c n p) _ (by omega) ?_ g⟩
        · refine base M3 1 (tE c n p) (fun a ha => by rw [g3.1 a ha, mset_n ha, mset_n ha]) (fun j j3 j4 j5 j6 => by rw [g3.2.1 j j3, mset_sn j4, mset_sn j5]) g3.2.2 ?_ ?_ rfl ?_ (fun z => absurd z (by decide))
          · rw [g3.2.1 4 (by decide), mset_ss]; rfl
          · rw [g3.2.1 5 (by decide), mset_sn (by decide), mset_ss]
          · unfold tK; rw [if_pos h1, if_pos q]
        · unfold tE; rw [if_pos h1, if_pos q]
      · refine s_figure hc (fun q2 => o_t1 ?_) (fun q2 => o_t0 ?_)
        · -- a number
          unfold wX3_readNumber
          have eE : tE c n p = rnN isF c n (tS c n p) := by unfold tE; rw [if_pos h1, if_neg q, if_pos q2]
          have eK : tK c n p = if tE c n p - tS c n p ≤ 4 then 2 else 4 := by rw [eE]; unfold tK; rw [if_pos h1, if_neg q, if_pos q2]
          have g : k3 (mset M1 37 5 (nI (tS c n p))) (mset M1 37 5 (nI (tS c n p))) (tS c n p) := ⟨fun _ _ => rfl, fun _ _ => rfl, by rw [mset_sn (by decide)]; exact hk.2.2⟩
          refine ⟨n - tS c n p + 1, s_runF (c := c) (n := n) (e := tE c n p) l2 (fun M3 g3 => ?_) (n - tS c n p) (tS c n p) _ (by omega) eE.symm g⟩
          have e5 : M3 37 5 = nI (tS c n p) := by rw [g3.2.1 5 (by decide), mset_ss]
          unfold wX3_readNumber_38
          rw [g3.2.2, e5, pk_sub heb.1, show (4 : Int32) = nI 4 from rfl, nI_leI (by omega) (by omega)]
          by_cases k4 : tE c n p - tS c n p ≤ 4
          · rw [if_pos k4] at eK
            refine br_t k4 ?_
            unfold wX3_readNumber_57
            rintro _ rfl _ rfl
            refine br_nf (by rw [mset_sn (by decide), mset_ss]; decide) ?_
            rw [mset_sn (show 5 ≠ 6 by decide), mset_sn (show 5 ≠ 4 by decide), e5]
            have l3 : ltP (mset (mset M3 37 4 2) 37 6 0) c n := (g3.lt l2).keep (by rw [mset_sn (by decide), mset_sn (by decide)]) (by rw [mset_n (by decide), mset_n (by decide)])
            have b6 : k6 (mset (mset M3 37 4 2) 37 6 0) (mset (mset M3 37 4 2) 37 6 0) (vF c (tS c n p) 0) := ⟨fun _ _ => rfl, fun _ _ => rfl, by rw [mset_ss]; rfl⟩
            refine ⟨tE c n p - tS c n p + 1, s_value (c := c) (n := n) (s := tS c n p) (e := tE c n p) l3 heb.1 heb.2 k4 (by rw [mset_sn (by decide), mset_sn (by decide)]; exact g3.2.2) (fun j j1 j2 => rn_in (P := isF) (c := c) (n := n) (n - tS c n p) (tS c n p) j j1 (by show j < rnN isF c n (tS c n p); omega)) (fun M4 g4 => ?_) (tE c n p - tS c n p) 0 _ (by omega) b6⟩
            refine base M4 2 (tE c n p) (fun a ha => by rw [g4.1 a ha, mset_n ha, mset_n ha, g3.1 a ha, mset_n ha]) (fun j j3 j4 j5 j6 => by rw [g4.2.1 j j6, mset_sn j6, mset_sn j4, g3.2.1 j j3, mset_sn j5]) ?_ ?_ ?_ rfl eK (fun _ => ?_)
            · rw [g4.2.1 3 (by decide), mset_sn (by decide), mset_sn (by decide)]; exact g3.2.2
            · rw [g4.2.1 4 (by decide), mset_sn (by decide), mset_ss]; rfl
            · rw [g4.2.1 5 (by decide), mset_sn (by decide), mset_sn (by decide)]; exact e5
            · rw [g4.2.2]; unfold tV; rw [Nat.min_eq_left k4]
          · rw [if_neg k4] at eK
            refine br_f k4 ?_
            unfold wX3_readNumber_57
            rintro _ rfl _ rfl
            refine br_nt (by rw [mset_sn (by decide), mset_ss]; rfl) ?_
            refine base _ 4 (tE c n p) (fun a ha => by rw [mset_n ha, mset_n ha, g3.1 a ha, mset_n ha]) (fun j j3 j4 j5 j6 => by rw [mset_sn j6, mset_sn j4, g3.2.1 j j3, mset_sn j5]) ?_ ?_ ?_ rfl eK (fun z => absurd z (by decide))
            · rw [mset_sn (by decide), mset_sn (by decide)]; exact g3.2.2
            · rw [mset_sn (by decide), mset_ss]
            · rw [mset_sn (by decide), mset_sn (by decide)]; exact e5
        · -- a sign
          have eE : tE c n p = tS c n p + 1 := by unfold tE; rw [if_pos h1, if_neg q, if_neg q2]
          have eK : tK c n p = if c (tS c n p) = 59 then 3 else 4 := by unfold tK; rw [if_pos h1, if_neg q, if_neg q2]
          have sg : ∀ (p0 : Int32) (k : Nat), p0 = nI k → tK c n p = k → k ≠ 2 → wX3_readToken_142 Q (mset M1 37 5 (nI (tS c n p))) p0 := by
            intro p0 k e0 ek k2
            unfold wX3_readToken_142
            rintro _ rfl _ rfl
            refine base _ k (tS c n p + 1) (fun a ha => by rw [mset_n ha, mset_n ha, mset_n ha]) (fun j j3 j4 j5 j6 => by rw [mset_sn j3, mset_sn j4, mset_sn j5]) ?_ ?_ ?_ eE ek (fun z => absurd z k2)
            · rw [mset_ss, mset_sn (by decide), mset_sn (by decide), hk.2.2, nI_1]
            · rw [mset_sn (by decide), mset_ss, e0]
            · rw [mset_sn (by decide), mset_sn (by decide), mset_ss]
          rw [show (59 : Int32) = nI 59 from rfl, nI_eq (by omega) (by omega)]
          by_cases c59 : c (tS c n p) = 59
          · rw [if_pos c59] at eK
            exact br_nt c59 (sg 3 3 rfl eK (by decide))
          · rw [if_neg c59] at eK
            exact br_nf c59 (sg 4 4 rfl eK (by decide))
    · -- the end
      refine br_f (by decide) ?_
      rintro _ rfl
      refine base _ 0 (tS c n p) (fun a ha => by rw [mset_n ha, mset_n ha]) (fun j j3 j4 j5 j6 => by rw [mset_sn j4, mset_sn j5]) ?_ ?_ ?_ ?_ ?_ (fun z => absurd z (by decide))
      · rw [mset_sn (by decide), mset_sn (by decide)]; exact hk.2.2
      · rw [mset_ss]; rfl
      · rw [mset_sn (by decide), mset_ss]
      · unfold tE; rw [if_neg h1]
      · unfold tK; rw [if_neg h1]
  -- the blanks
  have t0 : ∀ r i M', i + r = n → rnN isB c n i = tS c n p → k3 M M' i → wX3_readToken_0 Q (r + 1) M' := by
    intro r
    induction r with
    | zero =>
      intro i M' hi he hk
      have : ¬ i < n := by omega
      rw [rn_st (fun q => this q.1)] at he
      subst he
      refine br_t ?_ (t37 M' hk)
      rw [(hk.lt hl).2.1, hk.2.2]; exact nI_le (by omega) (by omega)
    | succ r ih =>
      intro i M' hi he hk
      have hl' := hk.lt hl
      unfold wX3_readToken_0
      rw [hl'.2.1, hk.2.2, nI_leI (by omega) (by omega)]
      refine br_f (by omega) (s_letterAt hl' (by omega) (fun h => ?_) (fun h => absurd (by omega) h))
      have hc := hl.2.2.2 i h
      rw [show (32 : Int32) = nI 32 from rfl, nI_eq (by omega) (by omega)]
      by_cases q : c i = 32
      · refine br_nt q ?_
        rintro _ rfl
        have g := hk.up
        exact ih (i + 1) _ (by omega) (by rw [← rn_go h (isB_t.mpr q)]; exact he) g
      · refine br_nf q ?_
        rw [rn_st (fun z => q (isB_t.mp z.2))] at he
        rw [he] at hk
        exact t37 M' hk
  exact ⟨n - p + 1, t0 (n - p) p M (by omega) rfl ⟨fun _ _ => rfl, fun _ _ => rfl, e3⟩⟩
