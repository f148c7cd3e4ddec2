-- ===== a block more =====
def odN (v : Nat) : Nat := if poN v 9 % 2 = 0 then v ||| 256 else v
def rwN (T : Nat → Nat) : Nat → Nat
  | 0 => 0
  | k + 1 => rwN T k ^^^ odN (T k)
theorem odN_lt {v : Nat} (h : v < 256) : odN v < 512 := by
  unfold odN
  split
  · exact Nat.or_lt_two_pow (n := 9) (by omega) (by decide)
  · omega
theorem rwN_lt {T : Nat → Nat} : ∀ n, (∀ i, i < n → T i < 256) → rwN T n < 512 := by
  intro n
  induction n with
  | zero => intro _; exact (by decide : 0 < 512)
  | succ n ih =>
    intro h
    rw [rwN]
    exact Nat.xor_lt_two_pow (n := 9) (ih (fun i hi => h i (by omega))) (odN_lt (h n (by omega)))
/-- how the class's rows lie when i of the bytes are put -/
def pbI (M M' : MM) (b k : Nat) (T : Nat → Nat) (i : Nat) : Prop :=
  (∀ a, a ≠ b + 4 → a ≠ b + 5 → M' a = M a) ∧ (∀ c, (c < 13 * k ∨ 13 * k + i ≤ c) → M' (b + 4) c = M (b + 4) c) ∧ (∀ j, j < i → M' (b + 4) (13 * k + j) = nI (odN (T j))) ∧ (∀ c, (c < 12 * k ∨ 12 * k + i ≤ c) → M' (b + 5) c = M (b + 5) c) ∧ (∀ j, j < i → M' (b + 5) (12 * k + j) = nI (T j))
theorem tp_ne {b : Nat} (hb : tpB b) : b < 29 := by
  rcases hb with rfl | rfl | rfl | rfl <;> omega
theorem s_puts {Q : MM → Prop} {M : MM} {b k n : Nat} {v2 : Int32} {T : Nat → Nat} (hb : tpB b) (hk : k < 12) (hn : n ≤ 12) (hT : ∀ i, i < n → T i < 256 ∧ M (b + 6) i = nI (T i)) (hq : ∀ M', pbI M M' b k T n → Q (mset M' (b + 4) (13 * k + n) (nI (rwN T n)))) : ∀ r i M', i + r = n → pbI M M' b k T i → wX2_putBlock_31 Q b (nI k) v2 (nI n) (r + 1) M' (nI (rwN T i)) (nI i) := by
  obtain ⟨l1, l2, l3, l4, l5, l6, -⟩ := alen_tp hb
  have e13 : ∀ j, nI k * (13 : Int32) + nI j = nI (13 * k + j) := by
    intro j
    rw [show (13 : Int32) = nI 13 from rfl, pk_mul, nI_add, Nat.mul_comm]
  have e12 : ∀ j, nI k * (12 : Int32) + nI j = nI (12 * k + j) := by
    intro j
    rw [show (12 : Int32) = nI 12 from rfl, pk_mul, nI_add, Nat.mul_comm]
  intro r
  induction r with
  | zero =>
    intro i M' hi hp
    have : i = n := by omega
    subst this
    refine br_t (nI_le (Nat.le_refl _) (by omega)) ?_
    unfold wX2_setColumn
    rw [e13]
    exact s_setCell (by rw [l4]; omega) (by rw [l4]; decide) (hq M' hp)
  | succ r ih =>
    intro i M' hi hp
    obtain ⟨p1, p2, p3, p4, p5⟩ := id hp
    have hTi := hT i (by omega)
    have hq2 := poN_le (T i) 9
    refine br_f (fun q => ?_) (s_cell (by rw [l6]; omega) (by rw [l6]; decide) ?_)
    · have := (nI_leI (by omega) (by omega)).mp q; omega
    rw [p1 (b + 6) (by omega) (by omega), hTi.2]
    refine s_bitCount (by omega) ?_
    rw [po12 (by omega), n2, pk_rem (by omega) (by omega) (by omega)]
    have nx : ∀ v : Nat, v = odN (T i) → wX2_putBlock_31 Q b (nI k) v2 (nI n) (r + 1) (mset (mset M' (b + 5) (12 * k + i) (nI (T i))) (b + 4) (13 * k + i) (nI v)) (nI (rwN T i) ^^^ nI v) (nI i + 1) := by
      intro v hv
      subst hv
      rw [nI_xor, nI_1]
      refine ih (i + 1) _ (by omega) ⟨fun a h1 h2 => ?_, fun c hc => ?_, fun j hj => ?_, fun c hc => ?_, fun j hj => ?_⟩
      · rw [mset_n h1, mset_n h2]; exact p1 a h1 h2
      · rw [mset_sn (by omega), mset_n (by omega)]; exact p2 c (by omega)
      · by_cases e : j = i
        · subst e; rw [mset_ss]
        · rw [mset_sn (by omega), mset_n (by omega)]; exact p3 j (by omega)
      · rw [mset_n (by omega), mset_sn (by omega)]; exact p4 c (by omega)
      · rw [mset_n (by omega)]
        by_cases e : j = i
        · subst e; rw [mset_ss]
        · rw [mset_sn (by omega)]; exact p5 j (by omega)
    unfold wX2_putBlock_67 wX2_setColumn
    rw [e12, e13]
    by_cases q : poN (T i) 9 % 2 = 0
    · refine br_nt (by rw [q]; rfl) (s_setCell (by rw [l5]; omega) (by rw [l5]; decide) (s_setCell (by rw [l4]; omega) (by rw [l4]; decide) ?_))
      rintro _ rfl
      rw [show (256 : Int32) = nI 256 from rfl, nI_or]
      exact nx _ (by unfold odN; rw [if_pos q])
    · refine br_nf (fun e => q ((nI_eq (b := 0) (by omega) (by omega)).mp e)) (s_setCell (by rw [l5]; omega) (by rw [l5]; decide) (s_setCell (by rw [l4]; omega) (by rw [l4]; decide) ?_))
      rintro _ rfl
      rw [show (0 : Int32) = nI 0 from rfl, nI_or, Nat.or_zero]
      exact nx _ (by unfold odN; rw [if_neg q])
/-- what a block put leaves -/
def pbP (M M' : MM) (b k n bg : Nat) (T : Nat → Nat) : Prop :=
  (∀ a, a ≠ b → a ≠ b + 2 → a ≠ b + 3 → a ≠ b + 4 → a ≠ b + 5 → M' a = M a) ∧ (∀ j, j ≠ 8 → M' b j = M b j) ∧ M' b 8 = nI (k + 1) ∧ (∀ j, j ≠ k → M' (b + 2) j = M (b + 2) j) ∧ M' (b + 2) k = nI bg ∧ (∀ j, j ≠ k → M' (b + 3) j = M (b + 3) j) ∧ M' (b + 3) k = nI n ∧
  (∀ c, (c < 13 * k ∨ 13 * k + n < c) → M' (b + 4) c = M (b + 4) c) ∧ (∀ j, j < n → M' (b + 4) (13 * k + j) = nI (odN (T j))) ∧ M' (b + 4) (13 * k + n) = nI (rwN T n) ∧
  (∀ c, (c < 12 * k ∨ 12 * k + n ≤ c) → M' (b + 5) c = M (b + 5) c) ∧ (∀ j, j < n → M' (b + 5) (12 * k + j) = nI (T j))
theorem s_putBlock {Q : MM → Prop} {M : MM} {b k n bg : Nat} {T : Nat → Nat} (hb : tpB b) (hk : k < 12) (hn : n ≤ 12) (hT : ∀ i, i < n → T i < 256 ∧ M (b + 6) i = nI (T i)) (hq : ∀ M', pbP M M' b k n bg T → Q M') : wX2_putBlock Q M b (nI k) (nI bg) (nI n) := by
  obtain ⟨l1, l2, l3, l4, l5, l6, -⟩ := alen_tp hb
  unfold wX2_putBlock
  rintro _ rfl
  rw [nI_1]
  refine s_setCell (by rw [l2]; omega) (by rw [l2]; decide) (s_setCell (by rw [l3]; omega) (by rw [l3]; decide) ?_)
  refine ⟨n + 1, s_puts hb hk hn (fun i hi => ⟨(hT i hi).1, ?_⟩) (fun M' hp => hq _ ?_) n 0 _ (by omega) ⟨fun _ _ _ => rfl, fun _ _ => rfl, fun _ h => by omega, fun _ _ => rfl, fun _ h => by omega⟩⟩
  · rw [mset_n (by omega), mset_n (by omega), mset_n (by omega)]; exact (hT i hi).2
  · obtain ⟨p1, p2, p3, p4, p5⟩ := hp
    refine ⟨fun a h1 h2 h3 h4 h5 => ?_, fun j hj => ?_, ?_, fun j hj => ?_, ?_, fun j hj => ?_, ?_, fun c hc => ?_, fun j hj => ?_, ?_, fun c hc => ?_, fun j hj => ?_⟩
    · rw [mset_n h4, p1 a h4 h5, mset_n h3, mset_n h2, mset_n h1]
    · rw [mset_n (by omega), p1 b (by omega) (by omega), mset_n (by omega), mset_n (by omega), mset_sn hj]
    · rw [mset_n (by omega), p1 b (by omega) (by omega), mset_n (by omega), mset_n (by omega), mset_ss]
    · rw [mset_n (by omega), p1 (b + 2) (by omega) (by omega), mset_n (by omega), mset_sn hj, mset_n (by omega)]
    · rw [mset_n (by omega), p1 (b + 2) (by omega) (by omega), mset_n (by omega), mset_ss]
    · rw [mset_n (by omega), p1 (b + 3) (by omega) (by omega), mset_sn hj, mset_n (by omega), mset_n (by omega)]
    · rw [mset_n (by omega), p1 (b + 3) (by omega) (by omega), mset_ss]
    · rw [mset_sn (by omega), p2 c (by omega), mset_n (by omega), mset_n (by omega), mset_n (by omega)]
    · rw [mset_sn (by omega)]; exact p3 j hj
    · rw [mset_ss]
    · rw [mset_n (by omega), p4 c (by omega), mset_n (by omega), mset_n (by omega), mset_n (by omega)]
    · rw [mset_n (by omega)]; exact p5 j hj
-- the reference
theorem a60 : alen 60 = 12 := by decide +kernel
theorem v60 {n : Nat} (h : n < 12) : vp_in (nI n) (alen 60) := vp_nI (by rw [a60]; exact h) (by rw [a60]; decide)
def plI (M M' : MM) (k : Nat) (T : Nat → Nat) (i : Nat) : Prop :=
  (∀ a, a ≠ 53 → M' a = M a) ∧ (∀ j, (j < 25 + 13 * k ∨ 25 + 13 * k + i ≤ j) → (j < 181 + 12 * k ∨ 181 + 12 * k + i ≤ j) → M' 53 j = M 53 j) ∧ (∀ j, j < i → M' 53 (25 + 13 * k + j) = nI (odN (T j))) ∧ (∀ j, j < i → M' 53 (181 + 12 * k + j) = nI (T j))
/-- what the reference's block leaves -/
def plP (M M' : MM) (k n bg : Nat) (T : Nat → Nat) : Prop :=
  (∀ a, a ≠ 53 → M' a = M a) ∧ M' 53 0 = nI (k + 1) ∧ M' 53 (1 + k) = nI bg ∧ M' 53 (13 + k) = nI n ∧ (∀ j, j < n → M' 53 (25 + 13 * k + j) = nI (odN (T j))) ∧ M' 53 (25 + 13 * k + n) = nI (rwN T n) ∧ (∀ j, j < n → M' 53 (181 + 12 * k + j) = nI (T j)) ∧
  (∀ j, j ≠ 0 → j ≠ 1 + k → j ≠ 13 + k → (j < 25 + 13 * k ∨ 25 + 13 * k + n < j) → (j < 181 + 12 * k ∨ 181 + 12 * k + n ≤ j) → M' 53 j = M 53 j)
theorem m_lay1 {Q : MM → Prop} {M : MM} {k n : Nat} {T : Nat → Nat} (hk : k < 12) (hn : n ≤ 12) (hT : ∀ i, i < n → T i < 256 ∧ M 60 i = nI (T i)) (hq : ∀ M', plI M M' k T n → Q (mset (mset M' 53 (25 + 13 * k + n) (nI (rwN T n))) 53 0 (nI (k + 1)))) : ∀ r i M', i + r = n → plI M M' k T i → wX5_lays_35 Q (nI n) (r + 1) M' (nI k) (nI (rwN T i)) (nI i) := by
  have e25 : ∀ j, ((25 : Int32) + ((13 : Int32) * nI k)) + nI j = nI (25 + 13 * k + j) := by
    intro j
    rw [show (13 : Int32) = nI 13 from rfl, show (25 : Int32) = nI 25 from rfl, pk_mul, nI_add, nI_add]
  have e181 : ∀ j, ((181 : Int32) + ((12 : Int32) * nI k)) + nI j = nI (181 + 12 * k + j) := by
    intro j
    rw [show (12 : Int32) = nI 12 from rfl, show (181 : Int32) = nI 181 from rfl, pk_mul, nI_add, nI_add]
  intro r
  induction r with
  | zero =>
    intro i M' hi hp
    have : i = n := by omega
    subst this
    refine br_t (nI_le (Nat.le_refl _) (by omega)) ?_
    rw [e25, clamp_nI (by omega)]
    refine ⟨v53 (by omega), ?_⟩
    rintro _ rfl _ rfl
    rw [nI_1]
    exact hq M' hp
  | succ r ih =>
    intro i M' hi hp
    obtain ⟨p1, p2, p3, p4⟩ := id hp
    have hTi := hT i (by omega)
    have hq2 := poN_le (T i) 9
    refine br_f (fun q => ?_) ⟨v60 (by omega), v60 (by omega), ?_⟩
    · have := (nI_leI (by omega) (by omega)).mp q; omega
    have e60 : M' 60 i = nI (T i) := by rw [p1 60 (by decide)]; exact hTi.2
    rw [clamp_nI (n := i) (by omega), e60]
    refine m_odd (by omega) ?_
    have nx : ∀ v : Nat, v = odN (T i) → wX5_lays_35 Q (nI n) (r + 1) (mset (mset M' 53 (25 + 13 * k + i) (nI v)) 53 (181 + 12 * k + i) (nI (T i))) (nI k) (nI (rwN T i) ^^^ nI v) (nI i + 1) := by
      intro v hv
      subst hv
      rw [nI_xor, nI_1]
      refine ih (i + 1) _ (by omega) ⟨fun a h1 => ?_, fun j h1 h2 => ?_, fun j hj => ?_, fun j hj => ?_⟩
      · rw [mset_n h1, mset_n h1]; exact p1 a h1
      · rw [mset_sn (by omega), mset_sn (by omega)]; exact p2 j (by omega) (by omega)
      · rw [mset_sn (by omega)]
        by_cases e : j = i
        · subst e; rw [mset_ss]
        · rw [mset_sn (by omega)]; exact p3 j (by omega)
      · by_cases e : j = i
        · subst e; rw [mset_ss]
        · rw [mset_sn (by omega), mset_sn (by omega)]; exact p4 j (by omega)
    unfold wX5_lays_68
    rw [e25, e181, clamp_nI (n := i) (by omega), clamp_nI (n := 25 + 13 * k + i) (by omega), clamp_nI (n := 181 + 12 * k + i) (by omega)]
    by_cases q : poN (T i) 9 % 2 = 0
    · refine br_nt (by rw [q]; rfl) ⟨v53 (by omega), ?_⟩
      rintro _ rfl
      refine ⟨v60 (by omega), v53 (by omega), ?_⟩
      rintro _ rfl _ rfl
      rw [mset_n (show (60:Nat) ≠ 53 by decide), e60, show (256 : Int32) = nI 256 from rfl, nI_or]
      exact nx _ (by unfold odN; rw [if_pos q])
    · refine br_nf (fun e => q ((nI_eq (b := 0) (by omega) (by omega)).mp e)) ⟨v53 (by omega), ?_⟩
      rintro _ rfl
      refine ⟨v60 (by omega), v53 (by omega), ?_⟩
      rintro _ rfl _ rfl
      rw [mset_n (show (60:Nat) ≠ 53 by decide), e60, show (0 : Int32) = nI 0 from rfl, nI_or, Nat.or_zero]
      exact nx _ (by unfold odN; rw [if_neg q])
theorem m_lays {Q : MM → Prop} {M : MM} {k n bg : Nat} {T : Nat → Nat} (hk : k < 12) (hn : n ≤ 12) (e0 : M 53 0 = nI k) (hT : ∀ i, i < n → T i < 256 ∧ M 60 i = nI (T i)) (hbg : ∀ Q : Int32 → MM → Prop, Q (nI bg) M → wX5_beginOf Q M (nI k)) (hq : ∀ M', plP M M' k n bg T → Q M') : wX5_lays Q M (nI n) := by
  unfold wX5_lays
  rw [e0]
  refine hbg _ ?_
  rw [e13, clamp_nI (n := 13 + k) (by omega), n1, nI_add, clamp_nI (n := 1 + k) (by omega)]
  refine ⟨v53 (by omega), ?_⟩
  rintro _ rfl
  refine ⟨v53 (by omega), ?_⟩
  rintro _ rfl
  refine ⟨n + 1, m_lay1 hk hn (fun i hi => ⟨(hT i hi).1, ?_⟩) (fun M' hp => hq _ ?_) n 0 _ (by omega) ⟨fun _ _ => rfl, fun _ _ _ => rfl, fun _ h => by omega, fun _ h => by omega⟩⟩
  · rw [mset_n (by decide), mset_n (by decide)]; exact (hT i hi).2
  · obtain ⟨p1, p2, p3, p4⟩ := hp
    refine ⟨fun a h => ?_, ?_, ?_, ?_, fun j hj => ?_, ?_, fun j hj => ?_, fun j h0 h1 h2 h3 h4 => ?_⟩
    · rw [mset_n h, mset_n h, p1 a h, mset_n h, mset_n h]
    · rw [mset_ss]
    · rw [mset_sn (by omega), mset_sn (by omega), p2 _ (by omega) (by omega), mset_sn (by omega), mset_ss]
    · rw [mset_sn (by omega), mset_sn (by omega), p2 _ (by omega) (by omega), mset_ss]
    · rw [mset_sn (by omega), mset_sn (by omega)]; exact p3 j hj
    · rw [mset_sn (by omega), mset_ss]
    · rw [mset_sn (by omega), mset_sn (by omega)]; exact p4 j hj
    · rw [mset_sn h0, mset_sn (by omega), p2 j (by omega) h4, mset_sn h2, mset_sn h1]
