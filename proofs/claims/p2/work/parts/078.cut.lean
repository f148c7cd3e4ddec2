-- ===== cut: rows as they lie =====
theorem s_longRaw {Q : Int32 → MM → Prop} {M : MM} {b n : Nat} {R : Nat → Nat} (hb : tpB b) (h7 : 1 ≤ R 7 ∧ R 7 ≤ 9) (e7 : M (b + 1) 7 = nI (R 7)) (hn : n ≤ 99) (hq : Q (nI (lgN R n)) M) : wX2_longWith Q M b (nI n) := by
  unfold wX2_longWith
  by_cases h : n = 0
  · subst h
    exact br_nt rfl hq
  · refine br_nf (fun q => h ((nI_eq (b := 0) (by omega) (by omega)).mp q)) (s_ruled hb 7 (by omega) rfl ?_)
    rw [e7, nI_1]
    unfold wX4_dividedUp
    refine br_t (show nI 1 ≤ nI (R 7) from nI_le h7.1 (by omega)) ⟨fun q => ?_, ?_⟩
    · have := (nI_eq (b := 0) (by omega) (by omega)).mp q; omega
    · rw [nI_add, nI_sub1 (by omega), pk_div (by omega) (by omega) (by omega)]
      have e : lgN R n = (n + 1 + R 7 - 1) / R 7 := by unfold lgN; rw [if_neg h]; congr 1; omega
      rw [← e]; exact hq
theorem s_beginRaw {Q : Int32 → MM → Prop} {M : MM} {b j : Nat} (hb : tpB b) (hj : j < 12) (hq : Q (M (b + 2) j) M) : wX2_beginOf Q M b (nI j) := by
  unfold wX2_beginOf
  exact s_cell (by rw [(alen_tp hb).2.1]; omega) (by rw [(alen_tp hb).2.1]; decide) hq
theorem s_sizeRaw {Q : Int32 → MM → Prop} {M : MM} {b j : Nat} (hb : tpB b) (hj : j < 12) (hq : Q (M (b + 3) j) M) : wX2_sizeOf Q M b (nI j) := by
  unfold wX2_sizeOf
  exact s_cell (by rw [(alen_tp hb).2.2.1]; omega) (by rw [(alen_tp hb).2.2.1]; decide) hq
theorem s_endRaw {Q : Int32 → MM → Prop} {M : MM} {b j N B Z : Nat} {R : Nat → Nat} (hb : tpB b) (h7 : 1 ≤ R 7 ∧ R 7 ≤ 9) (e7 : M (b + 1) 7 = nI (R 7)) (hN : N ≤ 12) (hj : j < N) (e8 : M b 8 = nI N) (eB : M (b + 2) j = nI B) (eZ : M (b + 3) j = nI Z) (hZ : Z ≤ 99) (hq : Q (nI (B + lgN R Z)) M) : wX2_endOf Q M b (nI j) := by
  unfold wX2_endOf
  refine s_hasBlock e8 (zt2 (blk_in hN hj) (s_beginRaw hb (by omega) ?_))
  rw [eB]
  refine s_sizeRaw hb (by omega) ?_
  rw [eZ]
  refine s_longRaw hb h7 e7 hZ ?_
  rw [nI_add]; exact hq
theorem s_colRaw {Q : Int32 → MM → Prop} {M : MM} {b j i : Nat} (hb : tpB b) (hj : j < 12) (hi : i < 13) (hq : Q (M (b + 4) (13 * j + i)) M) : wX2_columnOf Q M b (nI j) (nI i) := by
  unfold wX2_columnOf
  rw [show (13 : Int32) = nI 13 from rfl, pk_mul, nI_add, Nat.mul_comm]
  exact s_cell (by rw [(alen_tp hb).2.2.2.1]; omega) (by rw [(alen_tp hb).2.2.2.1]; decide) hq
theorem s_orgRaw {Q : Int32 → MM → Prop} {M : MM} {b j i : Nat} (hb : tpB b) (hj : j < 12) (hi : i < 12) (hq : Q (M (b + 5) (12 * j + i)) M) : wX2_originalOf Q M b (nI j) (nI i) := by
  unfold wX2_originalOf
  rw [show (12 : Int32) = nI 12 from rfl, pk_mul, nI_add, Nat.mul_comm]
  exact s_cell (by rw [(alen_tp hb).2.2.2.2.1]; omega) (by rw [(alen_tp hb).2.2.2.2.1]; decide) hq
/-- what a block moved leaves -/
def mvP (M M' : MM) (f t : Nat) (v : Int32) : Prop := (∀ a, a ≠ 3 → a ≠ 4 → a ≠ 5 → a ≠ 6 → M' a = M a) ∧ (∀ j, j ≠ t → M' 3 j = M 3 j) ∧ M' 3 t = M 3 f - v ∧ (∀ j, j ≠ t → M' 4 j = M 4 j) ∧ M' 4 t = M 4 f ∧ (∀ c, (c < 13 * t ∨ 13 * t + 13 ≤ c) → M' 5 c = M 5 c) ∧ (∀ i, i < 13 → M' 5 (13 * t + i) = M 5 (13 * f + i)) ∧ (∀ c, (c < 12 * t ∨ 12 * t + 12 ≤ c) → M' 6 c = M 6 c) ∧ (∀ i, i < 12 → M' 6 (12 * t + i) = M 6 (12 * f + i))
theorem s_moveBlock {Q : MM → Prop} {M : MM} {f t : Nat} {v : Int32} (ht : t ≤ f) (hf : f < 12) (hq : ∀ M', mvP M M' f t v → Q M') : wX2_moveBlock Q M 1 (nI f) (nI t) v := by
  have hb : tpB 1 := Or.inl rfl
  unfold wX2_moveBlock
  refine s_beginRaw hb hf (s_setCell (by show t < 12; omega) (by decide +kernel) (s_sizeRaw hb hf (s_setCell (by show t < 12; omega) (by decide +kernel) ?_)))
  rw [mset_n (show 1 + 3 ≠ 1 + 2 by decide)]
  have l2 : ∀ (M2 : MM), (∀ a, a ≠ 6 → M2 a = M2 a) → (∀ a, a ≠ 3 → a ≠ 4 → a ≠ 5 → M2 a = M a) → (∀ j, j ≠ t → M2 3 j = M 3 j) → M2 3 t = M 3 f - v → (∀ j, j ≠ t → M2 4 j = M 4 j) → M2 4 t = M 4 f → (∀ c, (c < 13 * t ∨ 13 * t + 13 ≤ c) → M2 5 c = M 5 c) → (∀ i, i < 13 → M2 5 (13 * t + i) = M 5 (13 * f + i)) → ∀ r i (M' : MM), i + r = 12 → (∀ a, a ≠ 6 → M' a = M2 a) → (∀ c, (c < 12 * t ∨ 12 * t + i ≤ c) → M' 6 c = M 6 c) → (∀ i', i' < i → M' 6 (12 * t + i') = M 6 (12 * f + i')) → wX2_moveBlock_61 Q 1 (nI f) (nI t) v (r + 1) M' (nI i) := by
    intro M2 _ p1 p2 p3 p4 p5 p6 p7 r
    induction r with
    | zero =>
      intro i M' hi k1 k2 k3
      have : i = 12 := by omega
      subst this
      refine br_t (by decide +kernel) (hq M' ⟨fun a a1 a2 a3 a4 => by rw [k1 a a4]; exact p1 a a1 a2 a3, fun j hj => by rw [k1 3 (by decide)]; exact p2 j hj, by rw [k1 3 (by decide)]; exact p3, fun j hj => by rw [k1 4 (by decide)]; exact p4 j hj, by rw [k1 4 (by decide)]; exact p5, fun c hc => by rw [k1 5 (by decide)]; exact p6 c hc, fun i hi => by rw [k1 5 (by decide)]; exact p7 i hi, k2, k3⟩)
    | succ r ih =>
      intro i M' hi k1 k2 k3
      refine br_f (fun q => ?_) (s_orgRaw hb hf (by omega) ?_)
      · have := (nI_leI (a := 12) (by omega) (by omega)).mp q; omega
      rw [show nI t * (12 : Int32) + nI i = nI (12 * t + i) by rw [show (12 : Int32) = nI 12 from rfl, pk_mul, nI_add, Nat.mul_comm]]
      refine s_setCell (by show 12 * t + i < 144; omega) (by decide +kernel) ?_
      rw [nI_1, k2 (12 * f + i) (by omega)]
      refine ih (i + 1) _ (by omega) (fun a h => by rw [mset_n h]; exact k1 a h) (fun c hc => by rw [mset_sn (by omega)]; exact k2 c (by omega)) (fun i' hi' => ?_)
      by_cases e : i' = i
      · subst e; rw [mset_ss]
      · rw [mset_sn (by omega)]; exact k3 i' (by omega)
  have l1 : ∀ r i (M' : MM), i + r = 13 → (∀ a, a ≠ 3 → a ≠ 4 → a ≠ 5 → M' a = M a) → (∀ j, j ≠ t → M' 3 j = M 3 j) → M' 3 t = M 3 f - v → (∀ j, j ≠ t → M' 4 j = M 4 j) → M' 4 t = M 4 f → (∀ c, (c < 13 * t ∨ 13 * t + i ≤ c) → M' 5 c = M 5 c) → (∀ i', i' < i → M' 5 (13 * t + i') = M 5 (13 * f + i')) → wX2_moveBlock_31 Q 1 (nI f) (nI t) v (r + 1) M' (nI i) := by
    intro r
    induction r with
    | zero =>
      intro i M' hi k1 k2 k3 k4 k5 k6 k7
      have : i = 13 := by omega
      subst this
      exact br_t (by decide +kernel) ⟨_, l2 M' (fun _ _ => rfl) k1 k2 k3 k4 k5 k6 k7 12 0 M' (by omega) (fun _ _ => rfl) (fun c _ => by rw [k1 6 (by decide) (by decide) (by decide)]) (fun _ q => by omega)⟩
    | succ r ih =>
      intro i M' hi k1 k2 k3 k4 k5 k6 k7
      refine br_f (fun q => ?_) (s_colRaw hb hf (by omega) ?_)
      · have := (nI_leI (a := 13) (by omega) (by omega)).mp q; omega
      unfold wX2_setColumn
      rw [show nI t * (13 : Int32) + nI i = nI (13 * t + i) by rw [show (13 : Int32) = nI 13 from rfl, pk_mul, nI_add, Nat.mul_comm]]
      refine s_setCell (by show 13 * t + i < 156; omega) (by decide +kernel) ?_
      rw [nI_1, k6 (13 * f + i) (by omega)]
      refine ih (i + 1) _ (by omega) (fun a a1 a2 a3 => by rw [mset_n a3]; exact k1 a a1 a2 a3) (fun j hj => by rw [mset_n (by decide)]; exact k2 j hj) (by rw [mset_n (by decide)]; exact k3) (fun j hj => by rw [mset_n (by decide)]; exact k4 j hj) (by rw [mset_n (by decide)]; exact k5) (fun c hc => by rw [mset_sn (by omega)]; exact k6 c (by omega)) (fun i' hi' => ?_)
      by_cases e : i' = i
      · subst e; rw [mset_ss]
      · rw [mset_sn (by omega)]; exact k7 i' (by omega)
  refine ⟨_, l1 13 0 _ (by omega) (fun a a1 a2 a3 => by rw [mset_n a2, mset_n a1]) (fun j hj => by rw [mset_n (by decide), mset_sn hj]) (by rw [mset_n (by decide), mset_ss]) (fun j hj => by rw [mset_sn hj, mset_n (by decide)]) (by rw [mset_ss]) (fun c _ => by rw [mset_n (by decide), mset_n (by decide)]) (fun _ q => by omega)⟩
-- the reference
def mmP (M M' : MM) (f t : Nat) (v : Int32) : Prop := (∀ a, a ≠ 53 → M' a = M a) ∧ M' 53 (1 + t) = M 53 (1 + f) - v ∧ M' 53 (13 + t) = M 53 (13 + f) ∧ (∀ i, i < 13 → M' 53 (25 + 13 * t + i) = M 53 (25 + 13 * f + i)) ∧ (∀ i, i < 12 → M' 53 (181 + 12 * t + i) = M 53 (181 + 12 * f + i)) ∧ (∀ j, j ≠ 1 + t → j ≠ 13 + t → (j < 25 + 13 * t ∨ 25 + 13 * t + 13 ≤ j) → (j < 181 + 12 * t ∨ 181 + 12 * t + 12 ≤ j) → M' 53 j = M 53 j)
theorem m_moves {Q : MM → Prop} {M : MM} {f t : Nat} {v : Int32} (ht : t ≤ f) (hf : f < 12) (hq : ∀ M', mmP M M' f t v → Q M') : wX5_moves Q M (nI t) (nI f) v := by
  have e25 : ∀ k j, ((25 : Int32) + ((13 : Int32) * nI k)) + nI j = nI (25 + 13 * k + j) := by
    intro k j
    rw [show (13 : Int32) = nI 13 from rfl, show (25 : Int32) = nI 25 from rfl, pk_mul, nI_add, nI_add]
  have e181 : ∀ k j, ((181 : Int32) + ((12 : Int32) * nI k)) + nI j = nI (181 + 12 * k + j) := by
    intro k j
    rw [show (12 : Int32) = nI 12 from rfl, show (181 : Int32) = nI 181 from rfl, pk_mul, nI_add, nI_add]
  unfold wX5_moves
  rw [n1, nI_add, nI_add, e13, e13, clamp_nI (n := 1 + f) (by omega), clamp_nI (n := 1 + t) (by omega), clamp_nI (n := 13 + f) (by omega), clamp_nI (n := 13 + t) (by omega)]
  refine ⟨v53 (by omega), v53 (by omega), ?_⟩
  rintro _ rfl
  refine ⟨v53 (by omega), v53 (by omega), ?_⟩
  rintro _ rfl
  rw [mset_sn (show 13 + f ≠ 1 + t by omega)]
  have l2 : ∀ r i (M' : MM), i + r = 12 → (∀ a, a ≠ 53 → M' a = M a) → M' 53 (1 + t) = M 53 (1 + f) - v → M' 53 (13 + t) = M 53 (13 + f) → (∀ i, i < 13 → M' 53 (25 + 13 * t + i) = M 53 (25 + 13 * f + i)) → (∀ i', i' < i → M' 53 (181 + 12 * t + i') = M 53 (181 + 12 * f + i')) → (∀ j, j ≠ 1 + t → j ≠ 13 + t → (j < 25 + 13 * t ∨ 25 + 13 * t + 13 ≤ j) → (j < 181 + 12 * t ∨ 181 + 12 * t + i ≤ j) → M' 53 j = M 53 j) → wX5_moves_85 Q (nI t) (nI f) v (r + 1) M' (nI i) := by
    intro r
    induction r with
    | zero =>
      intro i M' hi k1 k2 k3 k4 k5 k6
      have : i = 12 := by omega
      subst this
      exact br_t (by decide +kernel) (hq M' ⟨k1, k2, k3, k4, k5, k6⟩)
    | succ r ih =>
      intro i M' hi k1 k2 k3 k4 k5 k6
      unfold wX5_moves_85
      rw [e181, e181, clamp_nI (n := 181 + 12 * t + i) (by omega), clamp_nI (n := 181 + 12 * f + i) (by omega)]
      refine br_f (fun q => ?_) ⟨v53 (by omega), v53 (by omega), ?_⟩
      · have := (nI_leI (a := 12) (by omega) (by omega)).mp q; omega
      rintro _ rfl
      rw [nI_1, k6 (181 + 12 * f + i) (by omega) (by omega) (by omega) (by omega)]
      refine ih (i + 1) _ (by omega) (fun a h => by rw [mset_n h]; exact k1 a h) (by rw [mset_sn (by omega)]; exact k2) (by rw [mset_sn (by omega)]; exact k3) (fun i' hi' => by rw [mset_sn (by omega)]; exact k4 i' hi') (fun i' hi' => ?_) (fun j h1 h2 h3 h4 => by rw [mset_sn (by omega)]; exact k6 j h1 h2 h3 (by omega))
      by_cases e : i' = i
      · subst e; rw [mset_ss]
      · rw [mset_sn (by omega)]; exact k5 i' (by omega)
  have l1 : ∀ r i (M' : MM), i + r = 13 → (∀ a, a ≠ 53 → M' a = M a) → M' 53 (1 + t) = M 53 (1 + f) - v → M' 53 (13 + t) = M 53 (13 + f) → (∀ i', i' < i → M' 53 (25 + 13 * t + i') = M 53 (25 + 13 * f + i')) → (∀ j, j ≠ 1 + t → j ≠ 13 + t → (j < 25 + 13 * t ∨ 25 + 13 * t + i ≤ j) → M' 53 j = M 53 j) → wX5_moves_39 Q (nI t) (nI f) v (r + 1) M' (nI i) := by
    intro r
    induction r with
    | zero =>
      intro i M' hi k1 k2 k3 k4 k5
      have : i = 13 := by omega
      subst this
      exact br_t (by decide +kernel) ⟨_, l2 12 0 M' (by omega) k1 k2 k3 k4 (fun _ q => by omega) (fun j h1 h2 h3 _ => k5 j h1 h2 h3)⟩
    | succ r ih =>
      intro i M' hi k1 k2 k3 k4 k5
      unfold wX5_moves_39
      rw [e25, e25, clamp_nI (n := 25 + 13 * t + i) (by omega), clamp_nI (n := 25 + 13 * f + i) (by omega)]
      refine br_f (fun q => ?_) ⟨v53 (by omega), v53 (by omega), ?_⟩
      · have := (nI_leI (a := 13) (by omega) (by omega)).mp q; omega
      rintro _ rfl
      rw [nI_1, k5 (25 + 13 * f + i) (by omega) (by omega) (by omega)]
      refine ih (i + 1) _ (by omega) (fun a h => by rw [mset_n h]; exact k1 a h) (by rw [mset_sn (by omega)]; exact k2) (by rw [mset_sn (by omega)]; exact k3) (fun i' hi' => ?_) (fun j h1 h2 h3 => by rw [mset_sn (by omega)]; exact k5 j h1 h2 (by omega))
      by_cases e : i' = i
      · subst e; rw [mset_ss]
      · rw [mset_sn (by omega)]; exact k4 i' (by omega)
  refine ⟨_, l1 13 0 _ (by omega) (fun a h => by rw [mset_n h, mset_n h]) (by rw [mset_sn (by omega), mset_ss]) (by rw [mset_ss]) (fun _ q => by omega) (fun j h1 h2 _ => by rw [mset_sn h2, mset_sn h1])⟩
