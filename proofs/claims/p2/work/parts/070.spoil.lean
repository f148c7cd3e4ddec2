-- ===== another tape, but typed, seen, dead as they were =====
def uB (σ : SS) (l n h : Nat) (B Z C O : Nat → Nat) (k : Int32) : SS := ((l, n, h), (B, Z, C, O), σ.2.2.1, σ.2.2.2.1, (k, sD σ))
theorem clT.blk {M M1 : MM} {b : Nat} {R : Nat → Nat} {σ : SS} (h : clT M b R σ) (l n hd : Nat) (B Z C O : Nat → Nat) (k : Int32) (a0 : M1 (b + 1) 0 = nI l) (a1 : ∀ r, r ≠ 0 → M1 (b + 1) r = M (b + 1) r) (a2 : M1 b 8 = nI n) (a3 : M1 b 9 = nI hd) (a4 : ∀ j, j < n → M1 (b + 2) j = nI (B j)) (a5 : ∀ j, j < n → M1 (b + 3) j = nI (Z j)) (a6 : ∀ j, j < n → ∀ i, i ≤ Z j → M1 (b + 4) (j * 13 + i) = nI (C (j * 13 + i))) (a7 : ∀ j, j < n → ∀ i, i < Z j → M1 (b + 5) (j * 12 + i) = nI (O (j * 12 + i))) (a8 : M1 b 11 = M b 11) (a9 : M1 (b + 6) = M (b + 6)) (a10 : M1 b 13 = M b 13) (a11 : M1 (b + 7) = M (b + 7)) (a12 : M1 (b + 8) = M (b + 8)) (a13 : M1 b 10 = k) (a14 : M1 b 12 = M b 12) : clT M1 b R (uB σ l n hd B Z C O k) := by
  obtain ⟨h1, h2, h3, h4, h5, h6, h7, h8, h9, h10, h11, h12, h13⟩ := h
  unfold clT
  rw [a0, a2, a3, a8, a9, a10, a11, a12, a13, a14]
  exact ⟨⟨rfl, fun r r1 r2 => by rw [a1 r (by omega)]; exact h1.2 r r1 r2⟩, rfl, rfl, a4, a5, a6, a7, h8, h9, h10, h11, rfl, h13⟩
theorem mdT.blk {M M1 : MM} {R : Nat → Nat} {σ : SS} (h : mdT M 0 σ) (hS : okS R σ) (l n hd : Nat) (B Z C O : Nat → Nat) (k : Int32) (a0 : M1 53 366 = nI l) (a2 : M1 53 0 = nI n) (a3 : M1 53 325 = nI hd) (a4 : ∀ j, j < n → M1 53 (1 + j) = nI (B j)) (a5 : ∀ j, j < n → M1 53 (13 + j) = nI (Z j)) (a6 : ∀ j, j < n → ∀ i, i ≤ Z j → M1 53 (25 + (j * 13 + i)) = nI (C (j * 13 + i))) (a7 : ∀ j, j < n → ∀ i, i < Z j → M1 53 (181 + (j * 12 + i)) = nI (O (j * 12 + i))) (a8 : ∀ j, 327 ≤ j → j < 366 → M1 53 j = M 53 j) (a13 : M1 53 326 = k) : mdT M1 0 (uB σ l n hd B Z C O k) := by
  obtain ⟨h1, h2, h3, h4, h5, h6, h7, h8, h9, h10, h11, h12, h13⟩ := h
  have hn := hS.n3
  refine ⟨a0, a2, a3, fun j hj => ?_, fun j hj => ?_, fun j hj i hi => ?_, fun j hj i hi => ?_, ?_, fun i hi => ?_, ?_, fun i hi => ?_, a13, ?_⟩
  · rw [Nat.zero_add]; exact a4 j hj
  · rw [Nat.zero_add]; exact a5 j hj
  · rw [Nat.zero_add]; exact a6 j hj i hi
  · rw [Nat.zero_add]; exact a7 j hj i hi
  · rw [a8 _ (by omega) (by omega)]; exact h8
  · have hi' : i < sY σ := hi
    rw [a8 _ (by omega) (by omega)]; exact h9 i hi
  · rw [a8 _ (by omega) (by omega)]; exact h10
  · have hi' : i < sW σ := hi
    rw [a8 _ (by omega) (by omega), a8 _ (by omega) (by omega)]; exact h11 i hi
  · rw [a8 _ (by omega) (by omega)]; exact h13
theorem okS.blk {R : Nat → Nat} {σ : SS} (h : okS R σ) {l n hd : Nat} {B Z C O : Nat → Nat} {k : Int32} (a1 : 20 ≤ l ∧ l ≤ 9999) (a2 : n ≤ 12) (a3 : hd ≤ l) (a4 : ∀ j, j < n → Z j ≤ 12 ∧ B j + lgN R (Z j) ≤ l) (a5 : ∀ i j, i < j → j < n → B i + lgN R (Z i) ≤ B j) (a6 : ∀ j, j < n → ∀ i, i ≤ Z j → C (j * 13 + i) < 512) (a7 : ∀ j, j < n → ∀ i, i < Z j → O (j * 12 + i) < 256) : okS R (uB σ l n hd B Z C O k) := by
  obtain ⟨-, -, -, -, -, -, -, h8, h9, h10, h11, h12⟩ := h
  exact ⟨a1, a2, a3, a4, a5, a6, a7, h8, h9, h10, h11, h12⟩
-- ===== spoil =====
theorem xr_lt {a t : Nat} (ha : a < 512) (ht : t < 9) : a ^^^ 2 ^ t < 512 := Nat.xor_lt_two_pow (n := 9) ha (Nat.pow_lt_pow_right (by omega) ht)
theorem L_spoil {M : MM} (h : Rel M) (x i t : Int32) : wX4_spoil (fun r M1 => wX5_spoil (PQ r) M1 x i t) M x i t := by
  obtain ⟨R, σ, hR, hS, hc, hm, hr, him, hsh, htx⟩ := id h
  have hb : tpB 1 := Or.inl rfl
  unfold wX4_spoil
  refine s_hasColumn hb hS hc (fun hp => o_t1 (s_isBetween.mpr ?_)) (fun hp => o_t0 ?_)
  · obtain ⟨j, k, a1, a2, a3, rfl, rfl⟩ := id hp
    have hz := hS.z12 j a1
    have h12 := hS.2.1
    by_cases ht : (0 : Int32) ≤ t ∧ t ≤ 8
    · refine zt1 ht ?_
      obtain ⟨u, hu, rfl⟩ := pl_of (L := 8) (by omega) ht
      have h5 := hS.2.2.2.2.2.1 j a1 k a3
      unfold wX2_turnBit
      refine s_columnOf hb hS hc a1 a3 ?_
      rw [shl_1 u (by omega), nI_xor]
      unfold wX2_setColumn
      rw [show (13 : Int32) = nI 13 from rfl, pk_mul, nI_add]
      refine s_setCell (by rw [(alen_tp hb).2.2.2.1]; omega) (by rw [(alen_tp hb).2.2.2.1]; decide) ?_
      have nC : ∀ c, (if c = j * 13 + k then sC σ (j * 13 + k) ^^^ 2 ^ u else sC σ c) = (fun c => if c = j * 13 + k then sC σ (j * 13 + k) ^^^ 2 ^ u else sC σ c) c := fun _ => rfl
      have hS' : okS R (uB σ (sL σ) (sN σ) (sH σ) (sB σ) (sZ σ) (fun c => if c = j * 13 + k then sC σ (j * 13 + k) ^^^ 2 ^ u else sC σ c) (sO σ) (sK σ)) := by
        refine hS.blk hS.1 hS.2.1 hS.2.2.1 hS.2.2.2.1 hS.2.2.2.2.1 (fun j' hj' i' hi' => ?_) hS.2.2.2.2.2.2.1
        by_cases e : j' * 13 + i' = j * 13 + k
        · rw [if_pos e]; exact xr_lt h5 (by omega)
        · rw [if_neg e]; exact hS.2.2.2.2.2.1 j' hj' i' hi'
      have hc' : clT (mset M (1 + 4) (j * 13 + k) (nI (sC σ (j * 13 + k) ^^^ 2 ^ u))) 1 R (uB σ (sL σ) (sN σ) (sH σ) (sB σ) (sZ σ) (fun c => if c = j * 13 + k then sC σ (j * 13 + k) ^^^ 2 ^ u else sC σ c) (sO σ) (sK σ)) := by
        refine hc.blk _ _ _ _ _ _ _ _ ?_ (fun r hr => ?_) ?_ ?_ (fun j' hj' => ?_) (fun j' hj' => ?_) (fun j' hj' i' hi' => ?_) (fun j' hj' i' hi' => ?_) ?_ ?_ ?_ ?_ ?_ ?_ ?_
        · rw [mset_n (by omega)]; exact hc.1.1
        · rw [mset_n (by omega)]
        · rw [mset_n (by omega)]; exact hc.2.1
        · rw [mset_n (by omega)]; exact hc.2.2.1
        · rw [mset_n (by omega)]; exact hc.2.2.2.1 j' hj'
        · rw [mset_n (by omega)]; exact hc.2.2.2.2.1 j' hj'
        · by_cases e : j' * 13 + i' = j * 13 + k
          · rw [e, mset_ss, if_pos rfl]
          · rw [mset_sn e, if_neg e]; exact hc.2.2.2.2.2.1 j' hj' i' hi'
        · rw [mset_n (by omega)]; exact hc.2.2.2.2.2.2.1 j' hj' i' hi'
        · rw [mset_n (by omega)]
        · rw [mset_n (by omega)]
        · rw [mset_n (by omega)]
        · rw [mset_n (by omega)]
        · rw [mset_n (by omega)]
        · rw [mset_n (by omega)]; exact hc.2.2.2.2.2.2.2.2.2.2.2.1
        · rw [mset_n (by omega)]
      refine s_columnOf hb hS' hc' a1 a3 ?_
      show wX5_spoil (PQ (nI (if j * 13 + k = j * 13 + k then sC σ (j * 13 + k) ^^^ 2 ^ u else _))) _ _ _ _
      rw [if_pos rfl]
      unfold wX5_spoil
      have hm1 : mdT (mset M (1 + 4) (j * 13 + k) (nI (sC σ (j * 13 + k) ^^^ 2 ^ u))) 0 σ := hm.keep (mset_n (by omega))
      refine m_isColumn hS hm1 (fun _ => o_t1 ?_) (fun q => absurd hp q)
      unfold wX5_isTrack
      refine m_in32 0 8 rfl rfl ⟨nb_bI _, zt1 ht ?_⟩
      have e5 : (((25 : Int32) + ((13 : Int32) * nI j)) + nI k) = nI (25 + (j * 13 + k)) := by
        rw [show (13 : Int32) = nI 13 from rfl, show (25 : Int32) = nI 25 from rfl, pk_mul, nI_add, nI_add]; congr 1; omega
      rw [e5, clamp_nI (n := 25 + (j * 13 + k)) (by omega), mC hm1 a1 a3, shl_1 u (by omega), nI_xor]
      refine ⟨v53 (by omega), v53 (by omega), ?_⟩
      rintro _ rfl
      have hm' : mdT (mset (mset M (1 + 4) (j * 13 + k) (nI (sC σ (j * 13 + k) ^^^ 2 ^ u))) 53 (25 + (j * 13 + k)) (nI (sC σ (j * 13 + k) ^^^ 2 ^ u))) 0 (uB σ (sL σ) (sN σ) (sH σ) (sB σ) (sZ σ) (fun c => if c = j * 13 + k then sC σ (j * 13 + k) ^^^ 2 ^ u else sC σ c) (sO σ) (sK σ)) := by
        refine hm1.blk hS _ _ _ _ _ _ _ _ ?_ ?_ ?_ (fun j' hj' => ?_) (fun j' hj' => ?_) (fun j' hj' i' hi' => ?_) (fun j' hj' i' hi' => ?_) (fun q q1 q2 => ?_) ?_
        · rw [mset_sn (by omega)]; exact hm1.1
        · rw [mset_sn (by omega)]; exact hm1.2.1
        · rw [mset_sn (by omega)]; exact hm1.2.2.1
        · rw [mset_sn (by omega)]; exact mB hm1 hj'
        · rw [mset_sn (by omega)]; exact mZ hm1 hj'
        · by_cases e : j' * 13 + i' = j * 13 + k
          · rw [e, mset_ss, if_pos rfl]
          · rw [mset_sn (by omega), if_neg e]; exact mC hm1 hj' hi'
        · rw [mset_sn (by omega)]; exact mO hm1 hj' hi'
        · rw [mset_sn (by omega)]
        · rw [mset_sn (by omega)]; exact hm1.2.2.2.2.2.2.2.2.2.2.2.1
      refine m_columnOf hS' hm' a1 a3 ⟨?_, ?_⟩
      · show _ = nI (if j * 13 + k = j * 13 + k then _ else _)
        rw [if_pos rfl]
      · refine Rel.step hR hS' (hc'.keep (fun i hi => by rw [mset_n (by omega)])) hm' hr him hsh htx (fun a ha => ?_) (fun a ha => ?_) ?_
        · unfold keepP at ha
          rw [mset_n (by omega), mset_n (by omega)]
        · rw [mset_sn (by omega), mset_n (by omega)]
        · rw [mset_n (by omega), mset_n (by omega)]; exact ⟨rfl, rfl, rfl⟩
    · refine zf1 ht ?_
      unfold wX5_spoil
      refine m_isColumn hS hm (fun _ => o_t1 ?_) (fun q => absurd hp q)
      unfold wX5_isTrack
      exact m_in32 0 8 rfl rfl ⟨nb_bI _, zf1 ht ⟨rfl, h⟩⟩
  · unfold wX5_spoil
    exact m_isColumn hS hm (fun q => absurd q hp) (fun _ => o_t0 ⟨rfl, h⟩)
-- ===== count =====
def mkP (σ : SS) (j : Nat) : Nat := if sZ σ j = 0 then 1 else 0
theorem s_marks {Q : Int32 → MM → Prop} {M : MM} {R : Nat → Nat} {σ : SS} (hS : okS R σ) (hc : clT M 1 R σ) (hq : Q (nI (suN (mkP σ) (sN σ))) M) : wX2_markCount Q M 1 := by
  have hb : tpB 1 := Or.inl rfl
  have h12 := hS.2.1
  have loop : ∀ k i, i + k = sN σ → wX2_markCount_4 Q 1 (k + 1) M (nI (suN (mkP σ) i)) (nI i) := by
    intro k
    induction k with
    | zero =>
      intro i hi
      have : i = sN σ := by omega
      subst this
      exact br_t (by rw [hc.2.1]; exact nI_le (Nat.le_refl _) (by omega)) hq
    | succ k ih =>
      intro i hi
      refine br_f (fun q => ?_) (s_isMark hb hS hc (by omega) ?_)
      · rw [hc.2.1] at q
        have := (nI_leI (by omega) (by omega)).mp q; omega
      have g := ih (i + 1) (by omega)
      rw [suN] at g
      have e : mkP σ i = if sZ σ i = 0 then 1 else 0 := rfl
      unfold wX2_markCount_23
      by_cases q : sZ σ i = 0
      · rw [if_pos q] at e
        rw [e] at g
        refine zt2 q ?_
        rw [nI_1, nI_1]; exact g
      · rw [if_neg q] at e
        rw [e] at g
        refine zf2 q ?_
        rw [nI_1]; exact g
  exact ⟨_, loop (sN σ) 0 (by omega)⟩
theorem s_bytes {Q : Int32 → MM → Prop} {M : MM} {R : Nat → Nat} {σ : SS} (hS : okS R σ) (hc : clT M 1 R σ) (hq : Q (nI (suN (sZ σ) (sN σ))) M) : wX2_byteCount Q M 1 := by
  have hb : tpB 1 := Or.inl rfl
  have h12 := hS.2.1
  have loop : ∀ k i, i + k = sN σ → wX2_byteCount_4 Q 1 (k + 1) M (nI (suN (sZ σ) i)) (nI i) := by
    intro k
    induction k with
    | zero =>
      intro i hi
      have : i = sN σ := by omega
      subst this
      exact br_t (by rw [hc.2.1]; exact nI_le (Nat.le_refl _) (by omega)) hq
    | succ k ih =>
      intro i hi
      refine br_f (fun q => ?_) (s_sizeOf hb hc h12 (by omega) ?_)
      · rw [hc.2.1] at q
        have := (nI_leI (by omega) (by omega)).mp q; omega
      rw [nI_add, nI_1]
      exact ih (i + 1) (by omega)
  exact ⟨_, loop (sN σ) 0 (by omega)⟩
theorem s_isNothing {Q : Int32 → MM → Prop} {M : MM} {s : Nat} (h1 : M (44 + 2 * s) 1 = -1 → Q 1 M) (h0 : ¬ M (44 + 2 * s) 1 = -1 → Q 0 M) : wX1_isNothing Q M (44 + 2 * s) := ⟨h0, h1⟩
theorem nI_nm1 {n : Nat} (h : n < 2 ^ 31) : ¬ nI n = -1 := fun q => absurd (q ▸ nI_pos' h : (0 : Int32) ≤ -1) (by decide)
theorem L_count {M : MM} (h : Rel M) (x : Int32) : wX4_count (fun r M1 => wX5_count (PQ r) M1 x) M x := by
  obtain ⟨R, σ, hR, hS, hc, hm, hr, him, hsh, htx⟩ := id h
  have h12 := hS.2.1
  obtain ⟨⟨n, hn, e1, e2, g0⟩, t2, t3⟩ := htx
  obtain ⟨k0, k1, c0, c1, i1, i2, i3, -, -⟩ := him
  have sh := hsh 0 (by omega)
  have m13 : M 53 341 = nI (sW σ) := hm.2.2.2.2.2.2.2.2.2.1
  have loop : ∀ r : Int32, (∀ N : Nat, ((x = 0 → r = nI (sN σ)) ∧ (x = 1 → r = nI (suN (mkP σ) (sN σ))) ∧ (x = 2 → r = nI (suN (sZ σ) (sN σ))) ∧ (x = 3 → r = nI (sW σ)) ∧ (x = 4 → r = nI (k0 + k1)) ∧ (x = 5 → r = nI n) ∧ (x = 6 → r = if M 64 0 = -4 then -4 else M 65 0) ∧ (¬ x = 0 → ¬ x = 1 → ¬ x = 2 → ¬ x = 3 → ¬ x = 4 → ¬ x = 5 → ¬ x = 6 → r = -1))) → ∀ k i, i + k = sN σ → wX5_count_7 (PQ r) x (k + 1) M (nI (suN (mkP σ) i)) (nI (suN (sZ σ) i)) (nI i) := by
    intro r hr0 k
    obtain ⟨r0, r1, r2, r3, r4, r5, r6, r7⟩ := hr0 0
    induction k with
    | zero =>
      intro i hi
      have : i = sN σ := by omega
      subst this
      refine br_t (by rw [hm.2.1]; exact nI_le (Nat.le_refl _) (by omega)) ?_
      by_cases q0 : x = 0
      · exact br_t q0 ⟨by rw [r0 q0, hm.2.1], h⟩
      refine br_f q0 ?_
      by_cases q1 : x = 1
      · exact br_t q1 ⟨r1 q1, h⟩
      refine br_f q1 ?_
      by_cases q2 : x = 2
      · exact br_t q2 ⟨r2 q2, h⟩
      refine br_f q2 ?_
      by_cases q3 : x = 3
      · exact br_t q3 ⟨by rw [r3 q3, m13], h⟩
      refine br_f q3 ?_
      by_cases q4 : x = 4
      · refine br_t q4 ?_
        unfold wX5_flag
        dsimp only
        rw [i2, i3]
        have d0 : k0 = 0 ∨ k0 = 1 := by omega
        have d1 : k1 = 0 ∨ k1 = 1 := by omega
        rw [r4 q4]
        rcases d0 with rfl | rfl <;> rcases d1 with rfl | rfl
        · exact br_t rfl (br_t rfl ⟨by decide +kernel, h⟩)
        · exact br_t rfl (br_f (by decide +kernel) ⟨by decide +kernel, h⟩)
        · exact br_f (by decide +kernel) (br_t rfl ⟨by decide +kernel, h⟩)
        · exact br_f (by decide +kernel) (br_f (by decide +kernel) ⟨by decide +kernel, h⟩)
      refine br_f q4 ?_
      by_cases q5 : x = 5
      · exact br_t q5 ⟨by rw [r5 q5, e2], h⟩
      refine br_f q5 ?_
      by_cases q6 : x = 6
      · refine br_t q6 ?_
        by_cases q : M 64 0 = -4
        · exact br_nt q ⟨by rw [r6 q6, if_pos q], h⟩
        · exact br_nf q ⟨by rw [r6 q6, if_neg q], h⟩
      · exact br_f q6 ⟨r7 q0 q1 q2 q3 q4 q5 q6, h⟩
    | succ k ih =>
      intro i hi
      have hi2 : i < sN σ := by omega
      have hz := hS.z12 i hi2
      refine br_f (fun q => ?_) ?_
      · rw [hm.2.1] at q
        have := (nI_leI (by omega) (by omega)).mp q; omega
      have g := ih (i + 1) (by omega)
      rw [suN, suN] at g
      have e : mkP σ i = if sZ σ i = 0 then 1 else 0 := rfl
      unfold wX5_count_37 wX5_flag
      rw [e13, clamp_nI (n := 13 + i) (by omega), mZ hm hi2, show (0 : Int32) = nI 0 from rfl, nI_eq (by omega) (by omega)]
      refine ⟨v53 (by omega), ?_⟩
      by_cases q : sZ σ i = 0
      · rw [if_pos q] at e
        rw [e] at g
        refine br_nt q (br_f (by decide +kernel) ⟨v53 (by omega), ?_⟩)
        rintro _ rfl
        rw [nI_1, nI_1, mZ hm hi2, nI_add]; exact g
      · rw [if_neg q] at e
        rw [e] at g
        refine br_nf q (br_t rfl ⟨v53 (by omega), ?_⟩)
        rintro _ rfl
        rw [nI_add, nI_1, mZ hm hi2, nI_add]; exact g
  have md : ∀ r : Int32, (∀ N : Nat, ((x = 0 → r = nI (sN σ)) ∧ (x = 1 → r = nI (suN (mkP σ) (sN σ))) ∧ (x = 2 → r = nI (suN (sZ σ) (sN σ))) ∧ (x = 3 → r = nI (sW σ)) ∧ (x = 4 → r = nI (k0 + k1)) ∧ (x = 5 → r = nI n) ∧ (x = 6 → r = if M 64 0 = -4 then -4 else M 65 0) ∧ (¬ x = 0 → ¬ x = 1 → ¬ x = 2 → ¬ x = 3 → ¬ x = 4 → ¬ x = 5 → ¬ x = 6 → r = -1))) → wX5_count (PQ r) M x := fun r hr0 => ⟨_, loop r hr0 (sN σ) 0 (by omega)⟩
  unfold wX4_count
  by_cases q0 : x = 0
  · refine br_t q0 (md _ (fun _ => ?_))
    subst q0
    refine ⟨fun _ => hc.2.1, fun q => absurd q (by decide), fun q => absurd q (by decide), fun q => absurd q (by decide), fun q => absurd q (by decide), fun q => absurd q (by decide), fun q => absurd q (by decide), fun q => absurd rfl q⟩
  refine br_f q0 ?_
  by_cases q1 : x = 1
  · refine br_t q1 (s_marks hS hc (md _ (fun _ => ?_)))
    subst q1
    refine ⟨fun q => absurd q q0, fun _ => rfl, fun q => absurd q (by decide), fun q => absurd q (by decide), fun q => absurd q (by decide), fun q => absurd q (by decide), fun q => absurd q (by decide), fun _ q => absurd rfl q⟩
  refine br_f q1 ?_
  by_cases q2 : x = 2
  · refine br_t q2 (s_bytes hS hc (md _ (fun _ => ?_)))
    subst q2
    refine ⟨fun q => absurd q q0, fun q => absurd q q1, fun _ => rfl, fun q => absurd q (by decide), fun q => absurd q (by decide), fun q => absurd q (by decide), fun q => absurd q (by decide), fun _ _ q => absurd rfl q⟩
  refine br_f q2 ?_
  by_cases q3 : x = 3
  · refine br_t q3 (md _ (fun _ => ?_))
    subst q3
    refine ⟨fun q => absurd q q0, fun q => absurd q q1, fun q => absurd q q2, fun _ => hc.2.2.2.2.2.2.2.2.2.1, fun q => absurd q (by decide), fun q => absurd q (by decide), fun q => absurd q (by decide), fun _ _ _ q => absurd rfl q⟩
  refine br_f q3 ?_
  by_cases q4 : x = 4
  · refine br_t q4 ?_
    rw [i1]
    refine s_bitCount (by omega) (md _ (fun _ => ?_))
    subst q4
    refine ⟨fun q => absurd q q0, fun q => absurd q q1, fun q => absurd q q2, fun q => absurd q q3, fun _ => ?_, fun q => absurd q (by decide), fun q => absurd q (by decide), fun _ _ _ _ q => absurd rfl q⟩
    have d0 : k0 = 0 ∨ k0 = 1 := by omega
    have d1 : k1 = 0 ∨ k1 = 1 := by omega
    rcases d0 with rfl | rfl <;> rcases d1 with rfl | rfl <;> decide +kernel
  refine br_f q4 ?_
  by_cases q5 : x = 5
  · refine br_t q5 (md _ (fun _ => ?_))
    subst q5
    refine ⟨fun q => absurd q q0, fun q => absurd q q1, fun q => absurd q q2, fun q => absurd q q3, fun q => absurd q q4, fun _ => e1, fun q => absurd q (by decide), fun _ _ _ _ _ q => absurd rfl q⟩
  refine br_f q5 ?_
  by_cases q6 : x = 6
  · refine br_t q6 ?_
    have fin : ∀ r : Int32, (r = if M 64 0 = -4 then -4 else M 65 0) → wX5_count (PQ r) M x := by
      intro r hr0
      refine md r (fun _ => ⟨fun q => absurd q q0, fun q => absurd q q1, fun q => absurd q q2, fun q => absurd q q3, fun q => absurd q q4, fun q => absurd q q5, fun _ => hr0, fun _ _ _ _ _ _ q => absurd q6 q⟩)
    rcases sh with ⟨s1, s2⟩ | ⟨ln, m, s1, s2, s3, s4, s5, s6, s7⟩
    · refine s_isNothing (s := 0) (fun q => ?_) (fun q => absurd s1 q)
      exact br_f (by decide) (fin _ (by rw [if_pos s2]))
    · refine s_isNothing (s := 0) (fun q => ?_) (fun q => ?_)
      · rw [s3] at q; exact absurd q (nI_nm1 (by omega))
      · refine br_t rfl (fin _ ?_)
        rw [s4, if_neg (nI_n4 (by omega))]
        exact s5.trans s6.symm
  · refine br_f q6 (md _ (fun _ => ?_))
    exact ⟨fun q => absurd q q0, fun q => absurd q q1, fun q => absurd q q2, fun q => absurd q q3, fun q => absurd q q4, fun q => absurd q q5, fun q => absurd q q6, fun _ _ _ _ _ _ _ => rfl⟩
