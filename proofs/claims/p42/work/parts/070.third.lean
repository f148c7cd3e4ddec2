-- ===== another tape, but typed, seen, dead as they were =====
def uB (σ : SS) (l n h : Nat) (B Z C O : Nat → Nat) (k : Int32) : SS := ((l, n, h), (B, Z, C, O), σ.2.2.1, σ.2.2.2.1, (k, sD σ))
theorem clT.blk {M M1 : MM} {b : Nat} {R : Nat → Nat} {σ : SS} (h : clT M b R σ) (l n hd : Nat) (B Z C O : Nat → Nat) (k : Int32) (a0 : M1 (b + 1) 0 = nI l) (a1 : ∀ r, r ≠ 0 → M1 (b + 1) r = M (b + 1) r) (a2 : M1 b 8 = nI n) (a3 : M1 b 9 = nI hd) (a4 : ∀ j, j < n → M1 (b + 2) j = nI (B j)) (a5 : ∀ j, j < n → M1 (b + 3) j = nI (Z j)) (a6 : ∀ j, j < n → ∀ i, i ≤ Z j → M1 (b + 4) (j * 13 + i) = nI (C (j * 13 + i))) (a7 : ∀ j, j < n → ∀ i, i < Z j → M1 (b + 5) (j * 12 + i) = nI (O (j * 12 + i))) (a8 : M1 b 11 = M b 11) (a9 : M1 (b + 6) = M (b + 6)) (a10 : M1 b 13 = M b 13) (a11 : M1 (b + 7) = M (b + 7)) (a12 : M1 (b + 8) = M (b + 8)) (a13 : M1 b 10 = k) (a14 : M1 b 12 = M b 12) : clT M1 b R (uB σ l n hd B Z C O k) := by
  obtain ⟨h1, h2, h3, h4, h5, h6, h7, h8, h9, h10, h11, h12, h13⟩ := h
  unfold clT
  rw [a0, a2, a3, a8, a9, a10, a11, a12, a13, a14]
  exact ⟨⟨rfl, fun r r1 r2 => by rw [a1 r (by omega)]; exact h1.2 r r1 r2⟩, rfl, rfl, a4, a5, a6, a7, h8, h9, h10, h11, rfl, h13⟩
theorem mdT.blk {M M1 : MM} {R : Nat → Nat} {σ : SS} (h : mdT M 0 σ) (hS : okS R σ) (l n hd : Nat) (B Z C O : Nat → Nat) (k : Int32) (a0 : M1 53 366 = nI l) (a2 : M1 53 0 = nI n) (a3 : M1 53 325 = nI hd) (a4 : ∀ j, j < n → M1 53 (1 + j) = nI (B j)) (a5 : ∀ j, j < n → M1 53 (13 + j) = nI (Z j)) (a6 : ∀ j, j < n → ∀ i, i ≤ Z j → M1 53 (25 + (j * 13 + i)) = nI (C (j * 13 + i))) (a7 : ∀ j, j < n → ∀ i, i < Z j → M1 53 (181 + (j * 12 + i)) = nI (O (j * 12 + i))) (a8 : ∀ j, 327 ≤ j → j < 366 → M1 53 j = M 53 j) (a13 : M1 53 326 = k) : mdT M1 0 (uB σ l n hd B Z C O k) := by
  obtain ⟨h1, h2, h3, h4, h5, h6, h7, h8, h9, h10, h11, h12, h13⟩ := h
  have hn := hS.n3
  refine ⟨a0, a2, a3, fun j hj => ?_, fun j hj => ?_, fun j hj i hi => ?_, fun j hj i hi => ?_, ?_, fun i hi => ?_, ?_, fun i hi => ?_, a13, ?_⟩
  · rw [Nat.zero_add]; exact a4 j hj
  · rw [Nat.zero_add]; exact a5 j hj
  · rw [Nat.zero_add]; exact a6 j hj i hi
  · rw [Nat.zero_add]; exact a7 j hj i hi
  · rw [a8 _ (by omega) (by omega)]; exact h8
  · have hi' : i < sY σ := hi
    rw [a8 _ (by omega) (by omega)]; exact h9 i hi
  · rw [a8 _ (by omega) (by omega)]; exact h10
  · have hi' : i < sW σ := hi
    rw [a8 _ (by omega) (by omega), a8 _ (by omega) (by omega)]; exact h11 i hi
  · rw [a8 _ (by omega) (by omega)]; exact h13
theorem okS.blk {R : Nat → Nat} {σ : SS} (h : okS R σ) {l n hd : Nat} {B Z C O : Nat → Nat} {k : Int32} (a1 : 20 ≤ l ∧ l ≤ 9999) (a2 : n ≤ 12) (a3 : hd ≤ l) (a4 : ∀ j, j < n → Z j ≤ 12 ∧ B j + lgN R (Z j) ≤ l) (a5 : ∀ i j, i < j → j < n → B i + lgN R (Z i) ≤ B j) (a6 : ∀ j, j < n → ∀ i, i ≤ Z j → C (j * 13 + i) < 512) (a7 : ∀ j, j < n → ∀ i, i < Z j → O (j * 12 + i) < 256) : okS R (uB σ l n hd B Z C O k) := by
  obtain ⟨-, -, -, -, -, -, -, h8, h9, h10, h11, h12⟩ := h
  exact ⟨a1, a2, a3, a4, a5, a6, a7, h8, h9, h10, h11, h12⟩
-- ===== spoil =====
theorem xr_lt {a t : Nat} (ha : a < 512) (ht : t < 9) : a ^^^ 2 ^ t < 512 := Nat.xor_lt_two_pow (n := 9) ha (Nat.pow_lt_pow_right (by omega) ht)
theorem L_spoil {M : MM} (h : Rel M) (x i t : Int32) : wX4_spoil (fun r M1 => wX5_spoil (PQ r) M1 x i t) M x i t := by
  obtain ⟨R, σ, hR, hS, hc, hm, hr, him, hsh, htx⟩ := id h
  have hb : tpB 1 := Or.inl rfl
  unfold wX4_spoil
  refine s_hasColumn hb hS hc (fun hp => o_t1 (s_isBetween.mpr ?_)) (fun hp => o_t0 ?_)
  · obtain ⟨j, k, a1, a2, a3, rfl, rfl⟩ := id hp
    have hz := hS.z12 j a1
    have h12 := hS.2.1
    by_cases ht : (0 : Int32) ≤ t ∧ t ≤ 8
    · refine zt1 ht ?_
      obtain ⟨u, hu, rfl⟩ := pl_of (L := 8) (by omega) ht
      have h5 := hS.2.2.2.2.2.1 j a1 k a3
      unfold wX2_turnBit
      refine s_columnOf hb hS hc a1 a3 ?_
      rw [shl_1 u (by omega), nI_xor]
      unfold wX2_setColumn
      rw [show (13 : Int32) = nI 13 from rfl, pk_mul, nI_add]
      refine s_setCell (by rw [(alen_tp hb).2.2.2.1]; omega) (by rw [(alen_tp hb).2.2.2.1]; decide) ?_
      have nC : ∀ c, (if c = j * 13 + k then sC σ (j * 13 + k) ^^^ 2 ^ u else sC σ c) = (fun c => if c = j * 13 + k then sC σ (j * 13 + k) ^^^ 2 ^ u else sC σ c) c := fun _ => rfl
      have hS' : okS R (uB σ (sL σ) (sN σ) (sH σ) (sB σ) (sZ σ) (fun c => if c = j * 13 + k then sC σ (j * 13 + k) ^^^ 2 ^ u else sC σ c) (sO σ) (sK σ)) := by
        refine hS.blk hS.1 hS.2.1 hS.2.2.1 hS.2.2.2.1 hS.2.2.2.2.1 (fun j' hj' i' hi' => ?_) hS.2.2.2.2.2.2.1
        by_cases e : j' * 13 + i' = j * 13 + k
        · rw [if_pos e]; exact xr_lt h5 (by omega)
        · rw [if_neg e]; exact hS.2.2.2.2.2.1 j' hj' i' hi'
      have hc' : clT (mset M (1 + 4) (j * 13 + k) (nI (sC σ (j * 13 + k) ^^^ 2 ^ u))) 1 R (uB σ (sL σ) (sN σ) (sH σ) (sB σ) (sZ σ) (fun c => if c = j * 13 + k then sC σ (j * 13 + k) ^^^ 2 ^ u else sC σ c) (sO σ) (sK σ)) := by
        refine hc.blk _ _ _ _ _ _ _ _ ?_ (fun r hr => ?_) ?_ ?_ (fun j' hj' => ?_) (fun j' hj' => ?_) (fun j' hj' i' hi' => ?_) (fun j' hj' i' hi' => ?_) ?_ ?_ ?_ ?_ ?_ ?_ ?_
        · rw [mset_n (by omega)]; exact hc.1.1
        · rw [mset_n (by omega)]
        · rw [mset_n (by omega)]; exact hc.2.1
        · rw [mset_n (by omega)]; exact hc.2.2.1
        · rw [mset_n (by omega)]; exact hc.2.2.2.1 j' hj'
        · rw [mset_n (by omega)]; exact hc.2.2.2.2.1 j' hj'
        · by_cases e : j' * 13 + i' = j * 13 + k
          · rw [e, mset_ss, if_pos rfl]
          · rw [mset_sn e, if_neg e]; exact hc.2.2.2.2.2.1 j' hj' i' hi'
        · rw [mset_n (by omega)]; exact hc.2.2.2.2.2.2.1 j' hj' i' hi'
        · rw [mset_n (by omega)]
        · rw [mset_n (by omega)]
        · rw [mset_n (by omega)]
        · rw [mset_n (by omega)]
        · rw [mset_n (by omega)]
        · rw [mset_n (by omega)]; exact hc.2.2.2.2.2.2.2.2.2.2.2.1
        · rw [mset_n (by omega)]
      refine s_columnOf hb hS' hc' a1 a3 ?_
      show wX5_spoil (PQ (nI (if j * 13 + k = j * 13 + k then sC σ (j * 13 + k) ^^^ 2 ^ u else _))) _ _ _ _
      rw [if_pos rfl]
      unfold wX5_spoil
      have hm1 : mdT (mset M (1 + 4) (j * 13 + k) (nI (sC σ (j * 13 + k) ^^^ 2 ^ u))) 0 σ := hm.keep (mset_n (by omega))
      refine m_isColumn hS hm1 (fun _ => o_t1 ?_) (fun q => absurd hp q)
      unfold wX5_isTrack
      refine m_in32 0 8 rfl rfl ⟨nb_bI _, zt1 ht ?_⟩
      have e5 : (((25 : Int32) + ((13 : Int32) * nI j)) + nI k) = nI (25 + (j * 13 + k)) := by
        rw [show (13 : Int32) = nI 13 from rfl, show (25 : Int32) = nI 25 from rfl, pk_mul, nI_add, nI_add]; congr 1; omega
      rw [e5, clamp_nI (n := 25 + (j * 13 + k)) (by omega), mC hm1 a1 a3, shl_1 u (by omega), nI_xor]
      refine ⟨v53 (by omega), v53 (by omega), ?_⟩
      rintro _ rfl
      have hm' : mdT (mset (mset M (1 + 4) (j * 13 + k) (nI (sC σ (j * 13 + k) ^^^ 2 ^ u))) 53 (25 + (j * 13 + k)) (nI (sC σ (j * 13 + k) ^^^ 2 ^ u))) 0 (uB σ (sL σ) (sN σ) (sH σ) (sB σ) (sZ σ) (fun c => if c = j * 13 + k then sC σ (j * 13 + k) ^^^ 2 ^ u else sC σ c) (sO σ) (sK σ)) := by
        refine hm1.blk hS _ _ _ _ _ _ _ _ ?_ ?_ ?_ (fun j' hj' => ?_) (fun j' hj' => ?_) (fun j' hj' i' hi' => ?_) (fun j' hj' i' hi' => ?_) (fun q q1 q2 => ?_) ?_
        · rw [mset_sn (by omega)]; exact hm1.1
        · rw [mset_sn (by omega)]; exact hm1.2.1
        · rw [mset_sn (by omega)]; exact hm1.2.2.1
        · rw [mset_sn (by omega)]; exact mB hm1 hj'
        · rw [mset_sn (by omega)]; exact mZ hm1 hj'
        · by_cases e : j' * 13 + i' = j * 13 + k
          · rw [e, mset_ss, if_pos rfl]
          · rw [mset_sn (by omega), if_neg e]; exact mC hm1 hj' hi'
        · rw [mset_sn (by omega)]; exact mO hm1 hj' hi'
        · rw [mset_sn (by omega)]
        · rw [mset_sn (by omega)]; exact hm1.2.2.2.2.2.2.2.2.2.2.2.1
      refine m_columnOf hS' hm' a1 a3 ⟨?_, ?_⟩
      · show _ = nI (if j * 13 + k = j * 13 + k then _ else _)
        rw [if_pos rfl]
      · refine Rel.step hR hS' (hc'.keep (fun i hi => by rw [mset_n (by omega)])) hm' hr him hsh htx (fun a ha => ?_) (fun a ha => ?_) ?_
        · unfold keepP at ha
          rw [mset_n (by omega), mset_n (by omega)]
        · rw [mset_sn (by omega), mset_n (by omega)]
        · rw [mset_n (by omega), mset_n (by omega)]; exact ⟨rfl, rfl, rfl⟩
    · refine zf1 ht ?_
      unfold wX5_spoil
      refine m_isColumn hS hm (fun _ => o_t1 ?_) (fun q => absurd hp q)
      unfold wX5_isTrack
      exact m_in32 0 8 rfl rfl ⟨nb_bI _, zf1 ht ⟨rfl, h⟩⟩
  · unfold wX5_spoil
    exact m_isColumn hS hm (fun q => absurd q hp) (fun _ => o_t0 ⟨rfl, h⟩)
-- ===== count =====
def mkP (σ : SS) (j : Nat) : Nat := if sZ σ j = 0 then 1 else 0
theorem s_marks {Q : Int32 → MM → Prop} {M : MM} {R : Nat → Nat} {σ : SS} (hS : okS R σ) (hc : clT M 1 R σ) (hq : Q (nI (suN (mkP σ) (sN σ))) M) : wX2_markCount Q M 1 := by
  have hb : tpB 1 := Or.inl rfl
  have h12 := hS.2.1
  have loop : ∀ k i, i + k = sN σ → wX2_markCount_4 Q 1 (k + 1) M (nI (suN (mkP σ) i)) (nI i) := by
    intro k
    induction k with
    | zero =>
      intro i hi
      have : i = sN σ := by omega
      subst this
      exact br_t (by rw [hc.2.1]; exact nI_le (Nat.le_refl _) (by omega)) hq
    | succ k ih =>
      intro i hi
      refine br_f (fun q => ?_) (s_isMark hb hS hc (by omega) ?_)
      · rw [hc.2.1] at q
        have := (nI_leI (by omega) (by omega)).mp q; omega
      have g := ih (i + 1) (by omega)
      rw [suN] at g
      have e : mkP σ i = if sZ σ i = 0 then 1 else 0 := rfl
      unfold wX2_markCount_23
      by_cases q : sZ σ i = 0
      · rw [if_pos q] at e
        rw [e] at g
        refine zt2 q ?_
        rw [nI_1, nI_1]; exact g
      · rw [if_neg q] at e
        rw [e] at g
        refine zf2 q ?_
        rw [nI_1]; exact g
  exact ⟨_, loop (sN σ) 0 (by omega)⟩
theorem s_bytes {Q : Int32 → MM → Prop} {M : MM} {R : Nat → Nat} {σ : SS} (hS : okS R σ) (hc : clT M 1 R σ) (hq : Q (nI (suN (sZ σ) (sN σ))) M) : wX2_byteCount Q M 1 := by
  have hb : tpB 1 := Or.inl rfl
  have h12 := hS.2.1
  have loop : ∀ k i, i + k = sN σ → wX2_byteCount_4 Q 1 (k + 1) M (nI (suN (sZ σ) i)) (nI i) := by
    intro k
    induction k with
    | zero =>
      intro i hi
      have : i = sN σ := by omega
      subst this
      exact br_t (by rw [hc.2.1]; exact nI_le (Nat.le_refl _) (by omega)) hq
    | succ k ih =>
      intro i hi
      refine br_f (fun q => ?_) (s_sizeOf hb hc h12 (by omega) ?_)
      · rw [hc.2.1] at q
        have := (nI_leI (by omega) (by omega)).mp q; omega
      rw [nI_add, nI_1]
      exact ih (i + 1) (by omega)
  exact ⟨_, loop (sN σ) 0 (by omega)⟩
theorem s_isNothing {Q : Int32 → MM → Prop} {M : MM} {s : Nat} (h1 : M (44 + 2 * s) 1 = -1 → Q 1 M) (h0 : ¬ M (44 + 2 * s) 1 = -1 → Q 0 M) : wX1_isNothing Q M (44 + 2 * s) := ⟨h0, h1⟩
theorem nI_nm1 {n : Nat} (h : n < 2 ^ 31) : ¬ nI n = -1 := fun q => absurd (q ▸ nI_pos' h : (0 : Int32) ≤ -1) (by decide)
theorem L_count {M : MM} (h : Rel M) (x : Int32) : wX4_count (fun r M1 => wX5_count (PQ r) M1 x) M x := by
  obtain ⟨R, σ, hR, hS, hc, hm, hr, him, hsh, htx⟩ := id h
  have h12 := hS.2.1
  obtain ⟨⟨n, hn, e1, e2, g0⟩, t2, t3⟩ := htx
  obtain ⟨k0, k1, c0, c1, i1, i2, i3, -, -⟩ := him
  have sh := hsh 0 (by omega)
  have m13 : M 53 341 = nI (sW σ) := hm.2.2.2.2.2.2.2.2.2.1
  have loop : ∀ r : Int32, (∀ N : Nat, ((x = 0 → r = nI (sN σ)) ∧ (x = 1 → r = nI (suN (mkP σ) (sN σ))) ∧ (x = 2 → r = nI (suN (sZ σ) (sN σ))) ∧ (x = 3 → r = nI (sW σ)) ∧ (x = 4 → r = nI (k0 + k1)) ∧ (x = 5 → r = nI n) ∧ (x = 6 → r = if M 64 0 = -4 then -4 else M 65 0) ∧ (¬ x = 0 → ¬ x = 1 → ¬ x = 2 → ¬ x = 3 → ¬ x = 4 → ¬ x = 5 → ¬ x = 6 → r = -1))) → ∀ k i, i + k = sN σ → wX5_count_7 (PQ r) x (k + 1) M (nI (suN (mkP σ) i)) (nI (suN (sZ σ) i)) (nI i) := by
    intro r hr0 k
    obtain ⟨r0, r1, r2, r3, r4, r5, r6, r7⟩ := hr0 0
    induction k with
    | zero =>
      intro i hi
      have : i = sN σ := by omega
      subst this
      refine br_t (by rw [hm.2.1]; exact nI_le (Nat.le_refl _) (by omega)) ?_
      by_cases q0 : x = 0
      · exact br_t q0 ⟨by rw [r0 q0, hm.2.1], h⟩
      refine br_f q0 ?_
      by_cases q1 : x = 1
      · exact br_t q1 ⟨r1 q1, h⟩
      refine br_f q1 ?_
      by_cases q2 : x = 2
      · exact br_t q2 ⟨r2 q2, h⟩
      refine br_f q2 ?_
      by_cases q3 : x = 3
      · exact br_t q3 ⟨by rw [r3 q3, m13], h⟩
      refine br_f q3 ?_
      by_cases q4 : x = 4
      · refine br_t q4 ?_
        unfold wX5_flag
        dsimp only
        rw [i2, i3]
        have d0 : k0 = 0 ∨ k0 = 1 := by omega
        have d1 : k1 = 0 ∨ k1 = 1 := by omega
        rw [r4 q4]
        rcases d0 with rfl | rfl <;> rcases d1 with rfl | rfl
        · exact br_t rfl (br_t rfl ⟨by decide +kernel, h⟩)
        · exact br_t rfl (br_f (by decide +kernel) ⟨by decide +kernel, h⟩)
        · exact br_f (by decide +kernel) (br_t rfl ⟨by decide +kernel, h⟩)
        · exact br_f (by decide +kernel) (br_f (by decide +kernel) ⟨by decide +kernel, h⟩)
      refine br_f q4 ?_
      by_cases q5 : x = 5
      · exact br_t q5 ⟨by rw [r5 q5, e2], h⟩
      refine br_f q5 ?_
      by_cases q6 : x = 6
      · refine br_t q6 ?_
        by_cases q : M 64 0 = -4
        · exact br_nt q ⟨by rw [r6 q6, if_pos q], h⟩
        · exact br_nf q ⟨by rw [r6 q6, if_neg q], h⟩
      · exact br_f q6 ⟨r7 q0 q1 q2 q3 q4 q5 q6, h⟩
    | succ k ih =>
      intro i hi
      have hi2 : i < sN σ := by omega
      have hz := hS.z12 i hi2
      refine br_f (fun q => ?_) ?_
      · rw [hm.2.1] at q
        have := (nI_leI (by omega) (by omega)).mp q; omega
      have g := ih (i + 1) (by omega)
      rw [suN, suN] at g
      have e : mkP σ i = if sZ σ i = 0 then 1 else 0 := rfl
      unfold wX5_count_37 wX5_flag
      rw [e13, clamp_nI (n := 13 + i) (by omega), mZ hm hi2, show (0 : Int32) = nI 0 from rfl, nI_eq (by omega) (by omega)]
      refine ⟨v53 (by omega), ?_⟩
      by_cases q : sZ σ i = 0
      · rw [if_pos q] at e
        rw [e] at g
        refine br_nt q (br_f (by decide +kernel) ⟨v53 (by omega), ?_⟩)
        rintro _ rfl
        rw [nI_1, nI_1, mZ hm hi2, nI_add]; exact g
      · rw [if_neg q] at e
        rw [e] at g
        refine br_nf q (br_t rfl ⟨v53 (by omega), ?_⟩)
        rintro _ rfl
        rw [nI_add, nI_1, mZ hm hi2, nI_add]; exact g
  have md : ∀ r : Int32, (∀ N : Nat, ((x = 0 → r = nI (sN σ)) ∧ (x = 1 → r = nI (suN (mkP σ) (sN σ))) ∧ (x = 2 → r = nI (suN (sZ σ) (sN σ))) ∧ (x = 3 → r = nI (sW σ)) ∧ (x = 4 → r = nI (k0 + k1)) ∧ (x = 5 → r = nI n) ∧ (x = 6 → r = if M 64 0 = -4 then -4 else M 65 0) ∧ (¬ x = 0 → ¬ x = 1 → ¬ x = 2 → ¬ x = 3 → ¬ x = 4 → ¬ x = 5 → ¬ x = 6 → r = -1))) → wX5_count (PQ r) M x := fun r hr0 => ⟨_, loop r hr0 (sN σ) 0 (by omega)⟩
  unfold wX4_count
  by_cases q0 : x = 0
  · refine br_t q0 (md _ (fun _ => ?_))
    subst q0
    refine ⟨fun _ => hc.2.1, fun q => absurd q (by decide), fun q => absurd q (by decide), fun q => absurd q (by decide), fun q => absurd q (by decide), fun q => absurd q (by decide), fun q => absurd q (by decide), fun q => absurd rfl q⟩
  refine br_f q0 ?_
  by_cases q1 : x = 1
  · refine br_t q1 (s_marks hS hc (md _ (fun _ => ?_)))
    subst q1
    refine ⟨fun q => absurd q q0, fun _ => rfl, fun q => absurd q (by decide), fun q => absurd q (by decide), fun q => absurd q (by decide), fun q => absurd q (by decide), fun q => absurd q (by decide), fun _ q => absurd rfl q⟩
  refine br_f q1 ?_
  by_cases q2 : x = 2
  · refine br_t q2 (s_bytes hS hc (md _ (fun _ => ?_)))
    subst q2
    refine ⟨fun q => absurd q q0, fun q => absurd q q1, fun _ => rfl, fun q => absurd q (by decide), fun q => absurd q (by decide), fun q => absurd q (by decide), fun q => absurd q (by decide), fun _ _ q => absurd rfl q⟩
  refine br_f q2 ?_
  by_cases q3 : x = 3
  · refine br_t q3 (md _ (fun _ => ?_))
    subst q3
    refine ⟨fun q => absurd q q0, fun q => absurd q q1, fun q => absurd q q2, fun _ => hc.2.2.2.2.2.2.2.2.2.1, fun q => absurd q (by decide), fun q => absurd q (by decide), fun q => absurd q (by decide), fun _ _ _ q => absurd rfl q⟩
  refine br_f q3 ?_
  by_cases q4 : x = 4
  · refine br_t q4 ?_
    rw [i1]
    refine s_bitCount (by omega) (md _ (fun _ => ?_))
    subst q4
    refine ⟨fun q => absurd q q0, fun q => absurd q q1, fun q => absurd q q2, fun q => absurd q q3, fun _ => ?_, fun q => absurd q (by decide), fun q => absurd q (by decide), fun _ _ _ _ q => absurd rfl q⟩
    have d0 : k0 = 0 ∨ k0 = 1 := by omega
    have d1 : k1 = 0 ∨ k1 = 1 := by omega
    rcases d0 with rfl | rfl <;> rcases d1 with rfl | rfl <;> decide +kernel
  refine br_f q4 ?_
  by_cases q5 : x = 5
  · refine br_t q5 (md _ (fun _ => ?_))
    subst q5
    refine ⟨fun q => absurd q q0, fun q => absurd q q1, fun q => absurd q q2, fun q => absurd q q3, fun q => absurd q q4, fun _ => e1, fun q => absurd q (by decide), fun _ _ _ _ _ q => absurd rfl q⟩
  refine br_f q5 ?_
  by_cases q6 : x = 6
  · refine br_t q6 ?_
    have fin : ∀ r : Int32, (r = if M 64 0 = -4 then -4 else M 65 0) → wX5_count (PQ r) M x := by
      intro r hr0
      refine md r (fun _ => ⟨fun q => absurd q q0, fun q => absurd q q1, fun q => absurd q q2, fun q => absurd q q3, fun q => absurd q q4, fun q => absurd q q5, fun _ => hr0, fun _ _ _ _ _ _ q => absurd q6 q⟩)
    rcases sh with ⟨s1, s2⟩ | ⟨ln, m, s1, s2, s3, s4, s5, s6, s7⟩
    · refine s_isNothing (s := 0) (fun q => ?_) (fun q => absurd s1 q)
      exact br_f (by decide) (fin _ (by rw [if_pos s2]))
    · refine s_isNothing (s := 0) (fun q => ?_) (fun q => ?_)
      · rw [s3] at q; exact absurd q (nI_nm1 (by omega))
      · refine br_t rfl (fin _ ?_)
        rw [s4, if_neg (nI_n4 (by omega))]
        exact s5.trans s6.symm
  · refine br_f q6 (md _ (fun _ => ?_))
    exact ⟨fun q => absurd q q0, fun q => absurd q q1, fun q => absurd q q2, fun q => absurd q q3, fun q => absurd q q4, fun q => absurd q q5, fun q => absurd q q6, fun _ _ _ _ _ _ _ => rfl⟩
-- ===== a block more =====
def odN (v : Nat) : Nat := if poN v 9 % 2 = 0 then v ||| 256 else v
def rwN (T : Nat → Nat) : Nat → Nat
  | 0 => 0
  | k + 1 => rwN T k ^^^ odN (T k)
theorem odN_lt {v : Nat} (h : v < 256) : odN v < 512 := by
  unfold odN
  split
  · exact Nat.or_lt_two_pow (n := 9) (by omega) (by decide)
  · omega
theorem rwN_lt {T : Nat → Nat} : ∀ n, (∀ i, i < n → T i < 256) → rwN T n < 512 := by
  intro n
  induction n with
  | zero => intro _; exact (by decide : 0 < 512)
  | succ n ih =>
    intro h
    rw [rwN]
    exact Nat.xor_lt_two_pow (n := 9) (ih (fun i hi => h i (by omega))) (odN_lt (h n (by omega)))
/-- how the class's rows lie when i of the bytes are put -/
def pbI (M M' : MM) (b k : Nat) (T : Nat → Nat) (i : Nat) : Prop :=
  (∀ a, a ≠ b + 4 → a ≠ b + 5 → M' a = M a) ∧ (∀ c, (c < 13 * k ∨ 13 * k + i ≤ c) → M' (b + 4) c = M (b + 4) c) ∧ (∀ j, j < i → M' (b + 4) (13 * k + j) = nI (odN (T j))) ∧ (∀ c, (c < 12 * k ∨ 12 * k + i ≤ c) → M' (b + 5) c = M (b + 5) c) ∧ (∀ j, j < i → M' (b + 5) (12 * k + j) = nI (T j))
theorem tp_ne {b : Nat} (hb : tpB b) : b < 29 := by
  rcases hb with rfl | rfl | rfl | rfl <;> omega
theorem s_puts {Q : MM → Prop} {M : MM} {b k n : Nat} {v2 : Int32} {T : Nat → Nat} (hb : tpB b) (hk : k < 12) (hn : n ≤ 12) (hT : ∀ i, i < n → T i < 256 ∧ M (b + 6) i = nI (T i)) (hq : ∀ M', pbI M M' b k T n → Q (mset M' (b + 4) (13 * k + n) (nI (rwN T n)))) : ∀ r i M', i + r = n → pbI M M' b k T i → wX2_putBlock_31 Q b (nI k) v2 (nI n) (r + 1) M' (nI (rwN T i)) (nI i) := by
  obtain ⟨l1, l2, l3, l4, l5, l6, -⟩ := alen_tp hb
  have e13 : ∀ j, nI k * (13 : Int32) + nI j = nI (13 * k + j) := by
    intro j
    rw [show (13 : Int32) = nI 13 from rfl, pk_mul, nI_add, Nat.mul_comm]
  have e12 : ∀ j, nI k * (12 : Int32) + nI j = nI (12 * k + j) := by
    intro j
    rw [show (12 : Int32) = nI 12 from rfl, pk_mul, nI_add, Nat.mul_comm]
  intro r
  induction r with
  | zero =>
    intro i M' hi hp
    have : i = n := by omega
    subst this
    refine br_t (nI_le (Nat.le_refl _) (by omega)) ?_
    unfold wX2_setColumn
    rw [e13]
    exact s_setCell (by rw [l4]; omega) (by rw [l4]; decide) (hq M' hp)
  | succ r ih =>
    intro i M' hi hp
    obtain ⟨p1, p2, p3, p4, p5⟩ := id hp
    have hTi := hT i (by omega)
    have hq2 := poN_le (T i) 9
    refine br_f (fun q => ?_) (s_cell (by rw [l6]; omega) (by rw [l6]; decide) ?_)
    · have := (nI_leI (by omega) (by omega)).mp q; omega
    rw [p1 (b + 6) (by omega) (by omega), hTi.2]
    refine s_bitCount (by omega) ?_
    rw [po12 (by omega), n2, pk_rem (by omega) (by omega) (by omega)]
    have nx : ∀ v : Nat, v = odN (T i) → wX2_putBlock_31 Q b (nI k) v2 (nI n) (r + 1) (mset (mset M' (b + 5) (12 * k + i) (nI (T i))) (b + 4) (13 * k + i) (nI v)) (nI (rwN T i) ^^^ nI v) (nI i + 1) := by
      intro v hv
      subst hv
      rw [nI_xor, nI_1]
      refine ih (i + 1) _ (by omega) ⟨fun a h1 h2 => ?_, fun c hc => ?_, fun j hj => ?_, fun c hc => ?_, fun j hj => ?_⟩
      · rw [mset_n h1, mset_n h2]; exact p1 a h1 h2
      · rw [mset_sn (by omega), mset_n (by omega)]; exact p2 c (by omega)
      · by_cases e : j = i
        · subst e; rw [mset_ss]
        · rw [mset_sn (by omega), mset_n (by omega)]; exact p3 j (by omega)
      · rw [mset_n (by omega), mset_sn (by omega)]; exact p4 c (by omega)
      · rw [mset_n (by omega)]
        by_cases e : j = i
        · subst e; rw [mset_ss]
        · rw [mset_sn (by omega)]; exact p5 j (by omega)
    unfold wX2_putBlock_67 wX2_setColumn
    rw [e12, e13]
    by_cases q : poN (T i) 9 % 2 = 0
    · refine br_nt (by rw [q]; rfl) (s_setCell (by rw [l5]; omega) (by rw [l5]; decide) (s_setCell (by rw [l4]; omega) (by rw [l4]; decide) ?_))
      rintro _ rfl
      rw [show (256 : Int32) = nI 256 from rfl, nI_or]
      exact nx _ (by unfold odN; rw [if_pos q])
    · refine br_nf (fun e => q ((nI_eq (b := 0) (by omega) (by omega)).mp e)) (s_setCell (by rw [l5]; omega) (by rw [l5]; decide) (s_setCell (by rw [l4]; omega) (by rw [l4]; decide) ?_))
      rintro _ rfl
      rw [show (0 : Int32) = nI 0 from rfl, nI_or, Nat.or_zero]
      exact nx _ (by unfold odN; rw [if_neg q])
/-- what a block put leaves -/
def pbP (M M' : MM) (b k n bg : Nat) (T : Nat → Nat) : Prop :=
  (∀ a, a ≠ b → a ≠ b + 2 → a ≠ b + 3 → a ≠ b + 4 → a ≠ b + 5 → M' a = M a) ∧ (∀ j, j ≠ 8 → M' b j = M b j) ∧ M' b 8 = nI (k + 1) ∧ (∀ j, j ≠ k → M' (b + 2) j = M (b + 2) j) ∧ M' (b + 2) k = nI bg ∧ (∀ j, j ≠ k → M' (b + 3) j = M (b + 3) j) ∧ M' (b + 3) k = nI n ∧
  (∀ c, (c < 13 * k ∨ 13 * k + n < c) → M' (b + 4) c = M (b + 4) c) ∧ (∀ j, j < n → M' (b + 4) (13 * k + j) = nI (odN (T j))) ∧ M' (b + 4) (13 * k + n) = nI (rwN T n) ∧
  (∀ c, (c < 12 * k ∨ 12 * k + n ≤ c) → M' (b + 5) c = M (b + 5) c) ∧ (∀ j, j < n → M' (b + 5) (12 * k + j) = nI (T j))
theorem s_putBlock {Q : MM → Prop} {M : MM} {b k n bg : Nat} {T : Nat → Nat} (hb : tpB b) (hk : k < 12) (hn : n ≤ 12) (hT : ∀ i, i < n → T i < 256 ∧ M (b + 6) i = nI (T i)) (hq : ∀ M', pbP M M' b k n bg T → Q M') : wX2_putBlock Q M b (nI k) (nI bg) (nI n) := by
  obtain ⟨l1, l2, l3, l4, l5, l6, -⟩ := alen_tp hb
  unfold wX2_putBlock
  rintro _ rfl
  rw [nI_1]
  refine s_setCell (by rw [l2]; omega) (by rw [l2]; decide) (s_setCell (by rw [l3]; omega) (by rw [l3]; decide) ?_)
  refine ⟨n + 1, s_puts hb hk hn (fun i hi => ⟨(hT i hi).1, ?_⟩) (fun M' hp => hq _ ?_) n 0 _ (by omega) ⟨fun _ _ _ => rfl, fun _ _ => rfl, fun _ h => by omega, fun _ _ => rfl, fun _ h => by omega⟩⟩
  · rw [mset_n (by omega), mset_n (by omega), mset_n (by omega)]; exact (hT i hi).2
  · obtain ⟨p1, p2, p3, p4, p5⟩ := hp
    refine ⟨fun a h1 h2 h3 h4 h5 => ?_, fun j hj => ?_, ?_, fun j hj => ?_, ?_, fun j hj => ?_, ?_, fun c hc => ?_, fun j hj => ?_, ?_, fun c hc => ?_, fun j hj => ?_⟩
    · rw [mset_n h4, p1 a h4 h5, mset_n h3, mset_n h2, mset_n h1]
    · rw [mset_n (by omega), p1 b (by omega) (by omega), mset_n (by omega), mset_n (by omega), mset_sn hj]
    · rw [mset_n (by omega), p1 b (by omega) (by omega), mset_n (by omega), mset_n (by omega), mset_ss]
    · rw [mset_n (by omega), p1 (b + 2) (by omega) (by omega), mset_n (by omega), mset_sn hj, mset_n (by omega)]
    · rw [mset_n (by omega), p1 (b + 2) (by omega) (by omega), mset_n (by omega), mset_ss]
    · rw [mset_n (by omega), p1 (b + 3) (by omega) (by omega), mset_sn hj, mset_n (by omega), mset_n (by omega)]
    · rw [mset_n (by omega), p1 (b + 3) (by omega) (by omega), mset_ss]
    · rw [mset_sn (by omega), p2 c (by omega), mset_n (by omega), mset_n (by omega), mset_n (by omega)]
    · rw [mset_sn (by omega)]; exact p3 j hj
    · rw [mset_ss]
    · rw [mset_n (by omega), p4 c (by omega), mset_n (by omega), mset_n (by omega), mset_n (by omega)]
    · rw [mset_n (by omega)]; exact p5 j hj
-- the reference
theorem a60 : alen 60 = 12 := by decide +kernel
theorem v60 {n : Nat} (h : n < 12) : vp_in (nI n) (alen 60) := vp_nI (by rw [a60]; exact h) (by rw [a60]; decide)
def plI (M M' : MM) (k : Nat) (T : Nat → Nat) (i : Nat) : Prop :=
  (∀ a, a ≠ 53 → M' a = M a) ∧ (∀ j, (j < 25 + 13 * k ∨ 25 + 13 * k + i ≤ j) → (j < 181 + 12 * k ∨ 181 + 12 * k + i ≤ j) → M' 53 j = M 53 j) ∧ (∀ j, j < i → M' 53 (25 + 13 * k + j) = nI (odN (T j))) ∧ (∀ j, j < i → M' 53 (181 + 12 * k + j) = nI (T j))
/-- what the reference's block leaves -/
def plP (M M' : MM) (k n bg : Nat) (T : Nat → Nat) : Prop :=
  (∀ a, a ≠ 53 → M' a = M a) ∧ M' 53 0 = nI (k + 1) ∧ M' 53 (1 + k) = nI bg ∧ M' 53 (13 + k) = nI n ∧ (∀ j, j < n → M' 53 (25 + 13 * k + j) = nI (odN (T j))) ∧ M' 53 (25 + 13 * k + n) = nI (rwN T n) ∧ (∀ j, j < n → M' 53 (181 + 12 * k + j) = nI (T j)) ∧
  (∀ j, j ≠ 0 → j ≠ 1 + k → j ≠ 13 + k → (j < 25 + 13 * k ∨ 25 + 13 * k + n < j) → (j < 181 + 12 * k ∨ 181 + 12 * k + n ≤ j) → M' 53 j = M 53 j)
theorem m_lay1 {Q : MM → Prop} {M : MM} {k n : Nat} {T : Nat → Nat} (hk : k < 12) (hn : n ≤ 12) (hT : ∀ i, i < n → T i < 256 ∧ M 60 i = nI (T i)) (hq : ∀ M', plI M M' k T n → Q (mset (mset M' 53 (25 + 13 * k + n) (nI (rwN T n))) 53 0 (nI (k + 1)))) : ∀ r i M', i + r = n → plI M M' k T i → wX5_lays_35 Q (nI n) (r + 1) M' (nI k) (nI (rwN T i)) (nI i) := by
  have e25 : ∀ j, ((25 : Int32) + ((13 : Int32) * nI k)) + nI j = nI (25 + 13 * k + j) := by
    intro j
    rw [show (13 : Int32) = nI 13 from rfl, show (25 : Int32) = nI 25 from rfl, pk_mul, nI_add, nI_add]
  have e181 : ∀ j, ((181 : Int32) + ((12 : Int32) * nI k)) + nI j = nI (181 + 12 * k + j) := by
    intro j
    rw [show (12 : Int32) = nI 12 from rfl, show (181 : Int32) = nI 181 from rfl, pk_mul, nI_add, nI_add]
  intro r
  induction r with
  | zero =>
    intro i M' hi hp
    have : i = n := by omega
    subst this
    refine br_t (nI_le (Nat.le_refl _) (by omega)) ?_
    rw [e25, clamp_nI (by omega)]
    refine ⟨v53 (by omega), ?_⟩
    rintro _ rfl _ rfl
    rw [nI_1]
    exact hq M' hp
  | succ r ih =>
    intro i M' hi hp
    obtain ⟨p1, p2, p3, p4⟩ := id hp
    have hTi := hT i (by omega)
    have hq2 := poN_le (T i) 9
    refine br_f (fun q => ?_) ⟨v60 (by omega), v60 (by omega), ?_⟩
    · have := (nI_leI (by omega) (by omega)).mp q; omega
    have e60 : M' 60 i = nI (T i) := by rw [p1 60 (by decide)]; exact hTi.2
    rw [clamp_nI (n := i) (by omega), e60]
    refine m_odd (by omega) ?_
    have nx : ∀ v : Nat, v = odN (T i) → wX5_lays_35 Q (nI n) (r + 1) (mset (mset M' 53 (25 + 13 * k + i) (nI v)) 53 (181 + 12 * k + i) (nI (T i))) (nI k) (nI (rwN T i) ^^^ nI v) (nI i + 1) := by
      intro v hv
      subst hv
      rw [nI_xor, nI_1]
      refine ih (i + 1) _ (by omega) ⟨fun a h1 => ?_, fun j h1 h2 => ?_, fun j hj => ?_, fun j hj => ?_⟩
      · rw [mset_n h1, mset_n h1]; exact p1 a h1
      · rw [mset_sn (by omega), mset_sn (by omega)]; exact p2 j (by omega) (by omega)
      · rw [mset_sn (by omega)]
        by_cases e : j = i
        · subst e; rw [mset_ss]
        · rw [mset_sn (by omega)]; exact p3 j (by omega)
      · by_cases e : j = i
        · subst e; rw [mset_ss]
        · rw [mset_sn (by omega), mset_sn (by omega)]; exact p4 j (by omega)
    unfold wX5_lays_68
    rw [e25, e181, clamp_nI (n := i) (by omega), clamp_nI (n := 25 + 13 * k + i) (by omega), clamp_nI (n := 181 + 12 * k + i) (by omega)]
    by_cases q : poN (T i) 9 % 2 = 0
    · refine br_nt (by rw [q]; rfl) ⟨v53 (by omega), ?_⟩
      rintro _ rfl
      refine ⟨v60 (by omega), v53 (by omega), ?_⟩
      rintro _ rfl _ rfl
      rw [mset_n (show (60:Nat) ≠ 53 by decide), e60, show (256 : Int32) = nI 256 from rfl, nI_or]
      exact nx _ (by unfold odN; rw [if_pos q])
    · refine br_nf (fun e => q ((nI_eq (b := 0) (by omega) (by omega)).mp e)) ⟨v53 (by omega), ?_⟩
      rintro _ rfl
      refine ⟨v60 (by omega), v53 (by omega), ?_⟩
      rintro _ rfl _ rfl
      rw [mset_n (show (60:Nat) ≠ 53 by decide), e60, show (0 : Int32) = nI 0 from rfl, nI_or, Nat.or_zero]
      exact nx _ (by unfold odN; rw [if_neg q])
theorem m_lays {Q : MM → Prop} {M : MM} {k n bg : Nat} {T : Nat → Nat} (hk : k < 12) (hn : n ≤ 12) (e0 : M 53 0 = nI k) (hT : ∀ i, i < n → T i < 256 ∧ M 60 i = nI (T i)) (hbg : ∀ Q : Int32 → MM → Prop, Q (nI bg) M → wX5_beginOf Q M (nI k)) (hq : ∀ M', plP M M' k n bg T → Q M') : wX5_lays Q M (nI n) := by
  unfold wX5_lays
  rw [e0]
  refine hbg _ ?_
  rw [e13, clamp_nI (n := 13 + k) (by omega), n1, nI_add, clamp_nI (n := 1 + k) (by omega)]
  refine ⟨v53 (by omega), ?_⟩
  rintro _ rfl
  refine ⟨v53 (by omega), ?_⟩
  rintro _ rfl
  refine ⟨n + 1, m_lay1 hk hn (fun i hi => ⟨(hT i hi).1, ?_⟩) (fun M' hp => hq _ ?_) n 0 _ (by omega) ⟨fun _ _ => rfl, fun _ _ _ => rfl, fun _ h => by omega, fun _ h => by omega⟩⟩
  · rw [mset_n (by decide), mset_n (by decide)]; exact (hT i hi).2
  · obtain ⟨p1, p2, p3, p4⟩ := hp
    refine ⟨fun a h => ?_, ?_, ?_, ?_, fun j hj => ?_, ?_, fun j hj => ?_, fun j h0 h1 h2 h3 h4 => ?_⟩
    · rw [mset_n h, mset_n h, p1 a h, mset_n h, mset_n h]
    · rw [mset_ss]
    · rw [mset_sn (by omega), mset_sn (by omega), p2 _ (by omega) (by omega), mset_sn (by omega), mset_ss]
    · rw [mset_sn (by omega), mset_sn (by omega), p2 _ (by omega) (by omega), mset_ss]
    · rw [mset_sn (by omega), mset_sn (by omega)]; exact p3 j hj
    · rw [mset_sn (by omega), mset_ss]
    · rw [mset_sn (by omega), mset_sn (by omega)]; exact p4 j hj
    · rw [mset_sn h0, mset_sn (by omega), p2 j (by omega) h4, mset_sn h2, mset_sn h1]
-- ===== write, mark =====
def puS (σ : SS) (k n bg : Nat) (T : Nat → Nat) : SS :=
  uB σ (sL σ) (k + 1) (sH σ) (fun j => if j = k then bg else sB σ j) (fun j => if j = k then n else sZ σ j) (fun c => if c < 13 * k then sC σ c else if c < 13 * k + n then odN (T (c - 13 * k)) else rwN T n) (fun c => if c < 12 * k then sO σ c else T (c - 12 * k)) (sK σ)
theorem clT.put {M M' : MM} {b k n bg : Nat} {T : Nat → Nat} {R : Nat → Nat} {σ : SS} (h : clT M b R σ) (hZ : ∀ j, j < sN σ → sZ σ j ≤ 12) (hk : k ≤ sN σ) (hp : pbP M M' b k n bg T) : clT M' b R (puS σ k n bg T) := by
  obtain ⟨p1, p2, p3, p4, p5, p6, p7, p8, p9, p10, p11, p12⟩ := hp
  refine h.blk _ _ _ _ _ _ _ _ ?_ (fun r hr => ?_) p3 ?_ (fun j hj => ?_) (fun j hj => ?_) (fun j hj i hi => ?_) (fun j hj i hi => ?_) ?_ ?_ ?_ ?_ ?_ ?_ ?_
  · rw [p1 _ (by omega) (by omega) (by omega) (by omega) (by omega)]; exact h.1.1
  · rw [p1 _ (by omega) (by omega) (by omega) (by omega) (by omega)]
  · rw [p2 _ (by omega)]; exact h.2.2.1
  · by_cases e : j = k
    · rw [if_pos e, e]; exact p5
    · rw [if_neg e, p4 j e]; exact h.2.2.2.1 j (by omega)
  · by_cases e : j = k
    · rw [if_pos e, e]; exact p7
    · rw [if_neg e, p6 j e]; exact h.2.2.2.2.1 j (by omega)
  · by_cases e : j = k
    · subst e
      rw [if_pos rfl] at hi
      rw [if_neg (by omega)]
      by_cases e2 : i = n
      · subst e2
        rw [if_neg (by omega), show j * 13 + i = 13 * j + i by omega]; exact p10
      · rw [if_pos (by omega), show j * 13 + i - 13 * j = i by omega, show j * 13 + i = 13 * j + i by omega]; exact p9 i (by omega)
    · rw [if_neg e] at hi
      have := hZ j (by omega)
      rw [if_pos (by omega), p8 _ (by omega)]
      exact h.2.2.2.2.2.1 j (by omega) i hi
  · by_cases e : j = k
    · subst e
      rw [if_pos rfl] at hi
      rw [if_neg (by omega), show j * 12 + i - 12 * j = i by omega, show j * 12 + i = 12 * j + i by omega]; exact p12 i hi
    · rw [if_neg e] at hi
      have := hZ j (by omega)
      rw [if_pos (by omega), p11 _ (by omega)]
      exact h.2.2.2.2.2.2.1 j (by omega) i hi
  · rw [p2 _ (by omega)]
  · rw [p1 _ (by omega) (by omega) (by omega) (by omega) (by omega)]
  · rw [p2 _ (by omega)]
  · rw [p1 _ (by omega) (by omega) (by omega) (by omega) (by omega)]
  · rw [p1 _ (by omega) (by omega) (by omega) (by omega) (by omega)]
  · rw [p2 _ (by omega)]; exact h.2.2.2.2.2.2.2.2.2.2.2.1
  · rw [p2 _ (by omega)]
theorem mdT.put {M M' : MM} {k n bg : Nat} {T : Nat → Nat} {R : Nat → Nat} {σ : SS} (h : mdT M 0 σ) (hS : okS R σ) (hk : k ≤ sN σ) (hk12 : k < 12) (hn : n ≤ 12) (hp : plP M M' k n bg T) : mdT M' 0 (puS σ k n bg T) := by
  obtain ⟨p1, p2, p3, p4, p5, p6, p7, p8⟩ := hp
  have h12 := hS.2.1
  refine h.blk hS _ _ _ _ _ _ _ _ ?_ p2 ?_ (fun j hj => ?_) (fun j hj => ?_) (fun j hj i hi => ?_) (fun j hj i hi => ?_) (fun j h1 h2 => ?_) ?_
  · rw [p8 _ (by omega) (by omega) (by omega) (by omega) (by omega)]; exact h.1
  · rw [p8 _ (by omega) (by omega) (by omega) (by omega) (by omega)]; exact h.2.2.1
  · by_cases e : j = k
    · rw [if_pos e, e]; exact p3
    · rw [if_neg e, p8 _ (by omega) (by omega) (by omega) (by omega) (by omega)]; exact mB h (by omega)
  · by_cases e : j = k
    · rw [if_pos e, e]; exact p4
    · rw [if_neg e, p8 _ (by omega) (by omega) (by omega) (by omega) (by omega)]; exact mZ h (by omega)
  · by_cases e : j = k
    · subst e
      rw [if_pos rfl] at hi
      rw [if_neg (by omega)]
      by_cases e2 : i = n
      · subst e2
        rw [if_neg (by omega), show 25 + (j * 13 + i) = 25 + 13 * j + i by omega]; exact p6
      · rw [if_pos (by omega), show j * 13 + i - 13 * j = i by omega, show 25 + (j * 13 + i) = 25 + 13 * j + i by omega]; exact p5 i (by omega)
    · rw [if_neg e] at hi
      have := hS.z12 j (by omega)
      rw [if_pos (by omega), p8 _ (by omega) (by omega) (by omega) (by omega) (by omega)]
      exact mC h (by omega) hi
  · by_cases e : j = k
    · subst e
      rw [if_pos rfl] at hi
      rw [if_neg (by omega), show j * 12 + i - 12 * j = i by omega, show 181 + (j * 12 + i) = 181 + 12 * j + i by omega]; exact p7 i hi
    · rw [if_neg e] at hi
      have := hS.z12 j (by omega)
      rw [if_pos (by omega), p8 _ (by omega) (by omega) (by omega) (by omega) (by omega)]
      exact mO h (by omega) hi
  · rw [p8 _ (by omega) (by omega) (by omega) (by omega) (by omega)]
  · rw [p8 _ (by omega) (by omega) (by omega) (by omega) (by omega)]; exact h.2.2.2.2.2.2.2.2.2.2.2.1
theorem ea_ge {R : Nat → Nat} {σ : SS} (hS : okS R σ) {j k : Nat} (hj : j < k) (hk : k ≤ sN σ) : sB σ j + lgN R (sZ σ j) ≤ eaN R σ k := by
  unfold eaN
  rw [if_neg (by omega)]
  by_cases e : j = k - 1
  · rw [e]; exact Nat.le_refl _
  · have := hS.2.2.2.2.1 j (k - 1) (by omega) (by omega)
    omega
theorem ea_le {R : Nat → Nat} {σ : SS} (hS : okS R σ) {k : Nat} (hk : k ≤ sN σ) : eaN R σ k ≤ sL σ := by
  unfold eaN
  by_cases e : k = 0
  · rw [if_pos e]; omega
  · rw [if_neg e]; exact (hS.2.2.2.1 (k - 1) (by omega)).2
theorem okS.put {R : Nat → Nat} {σ : SS} (hS : okS R σ) {k n bg : Nat} {T : Nat → Nat} (hk : k ≤ sN σ) (hk12 : k < 12) (hn : n ≤ 12) (hbg : eaN R σ k ≤ bg) (hL : bg + lgN R n ≤ sL σ) (hT : ∀ i, i < n → T i < 256) : okS R (puS σ k n bg T) := by
  refine hS.blk hS.1 (by omega) hS.2.2.1 (fun j hj => ?_) (fun i j hi hj => ?_) (fun j hj i hi => ?_) (fun j hj i hi => ?_)
  · by_cases e : j = k
    · rw [if_pos e, if_pos e]; exact ⟨hn, hL⟩
    · rw [if_neg e, if_neg e]; exact hS.2.2.2.1 j (by omega)
  · rw [if_neg (show i ≠ k by omega), if_neg (show i ≠ k by omega)]
    by_cases e : j = k
    · rw [if_pos e]
      exact Nat.le_trans (ea_ge hS (by omega) hk) hbg
    · rw [if_neg e]; exact hS.2.2.2.2.1 i j hi (by omega)
  · by_cases e : j = k
    · subst e
      rw [if_pos rfl] at hi
      rw [if_neg (by omega)]
      by_cases e2 : i < n
      · rw [if_pos (by omega)]; exact odN_lt (hT _ (by omega))
      · rw [if_neg (by omega)]; exact rwN_lt n hT
    · rw [if_neg e] at hi
      have := hS.z12 j (by omega)
      rw [if_pos (by omega)]; exact hS.2.2.2.2.2.1 j (by omega) i hi
  · by_cases e : j = k
    · subst e
      rw [if_pos rfl] at hi
      rw [if_neg (by omega)]; exact hT _ (by omega)
    · rw [if_neg e] at hi
      have := hS.z12 j (by omega)
      rw [if_pos (by omega)]; exact hS.2.2.2.2.2.2.1 j (by omega) i hi
-- the class
theorem s_beginningAt {Q : Int32 → MM → Prop} {M : MM} {b k : Nat} {R : Nat → Nat} {σ : SS} (hb : tpB b) (hR : okR R) (hS : okS R σ) (hc : clT M b R σ) (hk : k ≤ sN σ) (hq : Q (nI (eaN R σ k + R 6)) M) : wX2_beginningAt Q M b (nI k) := by
  unfold wX2_beginningAt
  refine s_endAt hb hR hS hc hk (s_ruled hb 6 (by omega) rfl ?_)
  rw [hc.1.2 6 (by omega) (by omega), nI_add]; exact hq
def rmP (R : Nat → Nat) (σ : SS) (k n : Nat) : Prop := k < 12 ∧ eaN R σ k + R 6 + lgN R n ≤ sL σ
theorem s_hasRoomAt {Q : Int32 → MM → Prop} {M : MM} {k n : Nat} {R : Nat → Nat} {σ : SS} (hR : okR R) (hS : okS R σ) (hc : clT M 1 R σ) (hk : k ≤ sN σ) (hn : n ≤ 12) (h1 : rmP R σ k n → Q 1 M) (h0 : ¬ rmP R σ k n → Q 0 M) : wX2_hasRoomAt Q M 1 (nI k) (nI n) := by
  have hb : tpB 1 := Or.inl rfl
  have h12 := hS.2.1
  have hL := hS.1.2
  have hl := lgN_le hR (n := n) (by omega)
  have he := ea_le hS hk
  have h6 := hR.2.2.2.2.1
  unfold wX2_hasRoomAt wX2_hasRoomAt_29
  by_cases q : 12 ≤ k
  · exact br_t (nI_le q (by omega)) (h0 (fun e => by have := e.1; omega))
  · refine br_f (fun e => q ((nI_leI (a := 12) (by omega) (by omega)).mp e)) (s_beginningAt hb hR hS hc hk (s_longWith hb hR hc (by omega) (s_ruled hb 0 (by omega) rfl ?_)))
    rw [hc.1.1, nI_add, nI_ltI (by omega) (by omega)]
    by_cases q2 : eaN R σ k + R 6 + lgN R n ≤ sL σ
    · exact br_f (by omega) (h1 ⟨by omega, q2⟩)
    · exact br_t (by omega) (h0 (fun e => q2 e.2))
def tkN (R : Nat → Nat) (σ : SS) (k n : Nat) : Nat := soN R (sL σ) (sH σ) (eaN R σ k + R 6) + R 3 * lgN R n
def wrS (R : Nat → Nat) (σ : SS) (k n : Nat) (T : Nat → Nat) : SS := uH (puS σ k n (eaN R σ k + R 6) T) (eaN R σ k + R 6 + lgN R n) (sK σ + nI (tkN R σ k n))
theorem okS.wr {R : Nat → Nat} {σ : SS} (hS : okS R σ) {k n : Nat} {T : Nat → Nat} (hk : k ≤ sN σ) (hn : n ≤ 12) (hr : rmP R σ k n) (hT : ∀ i, i < n → T i < 256) : okS R (wrS R σ k n T) :=
  (hS.put hk hr.1 hn (by omega) hr.2 hT).uH hr.2 _
theorem tkN_lt {R : Nat → Nat} (hR : okR R) {σ : SS} (hS : okS R σ) {k n : Nat} (hn : n ≤ 12) (hr : rmP R σ k n) : tkN R σ k n < 2000000 := by
  have hL := hS.1.2
  have hH := hS.2.2.1
  have hl := lgN_le hR (n := n) (by omega)
  have hx := hr.2
  have h1 := plN_lt hR (x := sH σ) (y := eaN R σ k + R 6) (by omega) (by omega)
  have h2 := woN_lt hR hL hH (show eaN R σ k + R 6 ≤ sL σ by omega)
  have h3 : R 3 * lgN R n ≤ 99 * 108 := Nat.mul_le_mul hR.2.1.2 hl.2
  unfold tkN soN
  split <;> omega
theorem s_writeAt {Q : Int32 → MM → Prop} {M : MM} {k n : Nat} {T : Nat → Nat} {R : Nat → Nat} {σ : SS} (hR : okR R) (hS : okS R σ) (hc : clT M 1 R σ) (hk : k ≤ sN σ) (hn : n ≤ 12) (hr : rmP R σ k n) (hT : ∀ i, i < n → T i < 256 ∧ M 7 i = nI (T i)) (hq : ∀ M', clT M' 1 R (wrS R σ k n T) → (∀ a, a ≠ 1 → a ≠ 3 → a ≠ 4 → a ≠ 5 → a ≠ 6 → M' a = M a) → Q (nI (tkN R σ k n)) M') : wX2_writeAt Q M 1 (nI k) (nI n) := by
  have hb : tpB 1 := Or.inl rfl
  have hL := hS.1.2
  have hH := hS.2.2.1
  have h12 := hS.2.1
  have hl := lgN_le hR (n := n) (by omega)
  have hx := hr.2
  have hT0 : ∀ i, i < n → T i < 256 := fun i hi => (hT i hi).1
  unfold wX2_writeAt
  refine s_beginningAt hb hR hS hc hk ?_
  rw [show M 1 9 = nI (sH σ) from hc.2.2.1]
  refine s_sooner hb hR hc hL hH (by omega) (s_longWith hb hR hc (by omega) ?_)
  unfold wX2_playedThrough
  refine s_ruled hb 3 (by omega) rfl ?_
  rw [hc.1.2 3 (by omega) (by omega), pk_mul]
  refine s_putBlock hb hr.1 hn hT (fun M9 hp => ?_)
  have hS9 := hS.put hk hr.1 hn (by omega) hr.2 hT0
  have hc9 := hc.put hS.z12 hk hp
  refine s_endOf hb hR hS9 hc9 (show k < k + 1 by omega) ?_
  have e1 : sB (puS σ k n (eaN R σ k + R 6) T) k = eaN R σ k + R 6 := if_pos rfl
  have e2 : sZ (puS σ k n (eaN R σ k + R 6) T) k = n := if_pos rfl
  rw [e1, e2]
  rintro _ rfl _ rfl
  rw [nI_add]
  refine hq _ ?_ (fun a q1 q2 q3 q4 q5 => ?_)
  · refine hc9.obj (fun i h1 h2 => ?_) rfl rfl rfl rfl rfl ?_ ?_ ?_ ?_ ?_ ?_
    · rw [mset_n (by omega), mset_n (by omega)]
    · rw [mset_sn (by omega), mset_sn (by omega)]
    · rw [mset_sn (by omega), mset_sn (by omega)]
    · rw [mset_sn (by omega), mset_sn (by omega)]
    · rw [mset_sn (by omega), mset_ss]; rfl
    · rw [mset_ss, mset_sn (by omega), hp.2.1 10 (by decide)]
      show M 1 10 + _ = sK σ + _
      rw [show M 1 10 = sK σ from hc.2.2.2.2.2.2.2.2.2.2.2.1]; rfl
    · rw [mset_sn (by omega), mset_sn (by omega), hp.2.1 12 (by decide)]
      exact hc.2.2.2.2.2.2.2.2.2.2.2.2
  · rw [mset_n q1, mset_n q1, hp.1 a q1 (by omega) (by omega) (by omega) (by omega)]
-- the reference
theorem m_beginOf {Q : Int32 → MM → Prop} {M : MM} {k : Nat} {R : Nat → Nat} {σ : SS} (hR : okR R) (hS : okS R σ) (hr : rlT M R) (hm : mdT M 0 σ) (hk : k ≤ sN σ) (hq : Q (nI (eaN R σ k + R 6)) M) : wX5_beginOf Q M (nI k) := by
  have h12 := hS.2.1
  unfold wX5_beginOf
  unfold eaN at hq
  rw [hr 6 (by omega) (by omega), show (0 : Int32) = nI 0 from rfl, nI_eq (by omega) (by omega)]
  by_cases q : k = 0
  · rw [if_pos q] at hq
    refine br_nt q ?_
    rw [nI_add, Nat.add_comm]; exact hq
  · rw [if_neg q] at hq
    refine br_nf q ?_
    rw [nI_sub1 (by omega)]
    refine m_endOf hR hS hr hm (by omega) ?_
    rw [nI_add, Nat.add_comm]; exact hq
theorem m_goesTo {Q : Int32 → MM → Prop} {M : MM} {x h L : Nat} {R : Nat → Nat} (hR : okR R) (hr : rlT M R) (eL : M 53 366 = nI L) (eH : M 53 325 = nI h) (hL : L ≤ 9999) (hh : h ≤ L) (hx : x ≤ L) (hq : Q (nI (soN R L h x)) (mset (mset M 53 325 (nI x)) 53 326 (M 53 326 + nI (soN R L h x)))) : wX5_goesTo Q M (nI x) := by
  unfold wX5_goesTo
  rw [eH]
  refine m_sooner hR hr eL hL hh hx ?_
  rintro _ rfl _ rfl
  rw [mset_sn (show (326:Nat) ≠ 325 by decide)]
  exact hq
theorem m_writes {Q : Int32 → MM → Prop} {M : MM} {k n : Nat} {T : Nat → Nat} {R : Nat → Nat} {σ : SS} (hR : okR R) (hS : okS R σ) (hr : rlT M R) (hm : mdT M 0 σ) (hk : k ≤ sN σ) (hn : n ≤ 12) (hT : ∀ i, i < n → T i < 256 ∧ M 60 i = nI (T i)) (h1 : rmP R σ k n → ∀ M', mdT M' 0 (wrS R σ k n T) → (∀ a, a ≠ 53 → M' a = M a) → (∀ j, 400 ≤ j → M' 53 j = M 53 j) → Q (nI (tkN R σ k n)) M') (h0 : ¬ rmP R σ k n → Q (-3) M) : wX5_writes Q M (nI k) (nI n) := by
  have hL := hS.1.2
  have hH := hS.2.2.1
  have h12 := hS.2.1
  have hl := lgN_le hR (n := n) (by omega)
  have he := ea_le hS hk
  have h6 := hR.2.2.2.2.1
  unfold wX5_writes
  by_cases q : k = 12
  · refine br_t (by rw [q]; rfl) (h0 (fun e => by have := e.1; omega))
  refine br_f (fun e => q ((nI_eq (b := 12) (by omega) (by omega)).mp e)) (m_beginOf hR hS hr hm hk (m_longOf hR hr (by omega) ?_))
  rw [nI_add, show M 53 366 = nI (sL σ) from hm.1, nI_leI (by omega) (by omega)]
  by_cases q3 : sL σ < eaN R σ k + R 6 + lgN R n
  · exact br_f (by omega) (h0 (fun e => by have := e.2; omega))
  have q2 : eaN R σ k + R 6 + lgN R n ≤ sL σ := by omega
  refine br_t q2 ?_
  have hrm : rmP R σ k n := ⟨by omega, q2⟩
  have h1 := h1 hrm
  rintro _ rfl
  -- the state with the blocks from k on gone
  have hS1 : okS R (uB σ (sL σ) k (eaN R σ k + R 6) (sB σ) (sZ σ) (sC σ) (sO σ) (sK σ + nI (soN R (sL σ) (sH σ) (eaN R σ k + R 6)))) := by
    refine hS.blk hS.1 (by omega) (by omega) (fun j hj => hS.2.2.2.1 j (by omega)) (fun i j hi hj => hS.2.2.2.2.1 i j hi (by omega)) (fun j hj i hi => hS.2.2.2.2.2.1 j (by omega) i hi) (fun j hj i hi => hS.2.2.2.2.2.2.1 j (by omega) i hi)
  have hS0 : okS R (uB σ (sL σ) k (sH σ) (sB σ) (sZ σ) (sC σ) (sO σ) (sK σ)) := by
    refine hS.blk hS.1 (by omega) hH (fun j hj => hS.2.2.2.1 j (by omega)) (fun i j hi hj => hS.2.2.2.2.1 i j hi (by omega)) (fun j hj i hi => hS.2.2.2.2.2.1 j (by omega) i hi) (fun j hj i hi => hS.2.2.2.2.2.2.1 j (by omega) i hi)
  have hm0 : mdT (mset M 53 0 (nI k)) 0 (uB σ (sL σ) k (sH σ) (sB σ) (sZ σ) (sC σ) (sO σ) (sK σ)) := by
    refine hm.blk hS _ _ _ _ _ _ _ _ ?_ ?_ ?_ (fun j hj => ?_) (fun j hj => ?_) (fun j hj i hi => ?_) (fun j hj i hi => ?_) (fun j q1 q2 => ?_) ?_
    · rw [mset_sn (by omega)]; exact hm.1
    · rw [mset_ss]
    · rw [mset_sn (by omega)]; exact hm.2.2.1
    · rw [mset_sn (by omega)]; exact mB hm (by omega)
    · rw [mset_sn (by omega)]; exact mZ hm (by omega)
    · rw [mset_sn (by omega)]; exact mC hm (by omega) hi
    · rw [mset_sn (by omega)]; exact mO hm (by omega) hi
    · rw [mset_sn (by omega)]
    · rw [mset_sn (by omega)]; exact hm.2.2.2.2.2.2.2.2.2.2.2.1
  have hr0 : rlT (mset M 53 0 (nI k)) R := hr.keep (mset_n (by decide))
  have ee : ∀ K h, eaN R (uB σ (sL σ) k h (sB σ) (sZ σ) (sC σ) (sO σ) K) k = eaN R σ k := fun K h => rfl
  refine m_beginOf hR hS0 hr0 hm0 (Nat.le_refl _) ?_
  rw [ee]
  refine m_goesTo (L := sL σ) (h := sH σ) hR hr0 hm0.1 hm0.2.2.1 hL hH (by omega) ?_
  show wX5_longOf _ _ _
  have e326 : mset M 53 0 (nI k) 53 326 = sK σ := by rw [mset_sn (by decide)]; exact hm.2.2.2.2.2.2.2.2.2.2.2.1
  have eso : soN R (sL (uB σ (sL σ) k (sH σ) (sB σ) (sZ σ) (sC σ) (sO σ) (sK σ))) (sH (uB σ (sL σ) k (sH σ) (sB σ) (sZ σ) (sC σ) (sO σ) (sK σ))) (eaN R σ k + R 6) = soN R (sL σ) (sH σ) (eaN R σ k + R 6) := rfl
  rw [e326]
  have hm1 : mdT (mset (mset (mset M 53 0 (nI k)) 53 325 (nI (eaN R σ k + R 6))) 53 326 (sK σ + nI (soN R (sL σ) (sH σ) (eaN R σ k + R 6)))) 0 (uB σ (sL σ) k (eaN R σ k + R 6) (sB σ) (sZ σ) (sC σ) (sO σ) (sK σ + nI (soN R (sL σ) (sH σ) (eaN R σ k + R 6)))) := by
    refine hm0.obj hS0.n3 hS0.z12 (fun j q1 q2 q3 => ?_) rfl rfl rfl rfl rfl ?_ ?_ ?_
    · rw [mset_sn q2, mset_sn q1]
    · rw [mset_sn (by decide), mset_ss]; rfl
    · rw [mset_ss]; rfl
    · rw [mset_sn (by decide), mset_sn (by decide)]; exact hm0.2.2.2.2.2.2.2.2.2.2.2.2
  have hr1 : rlT (mset (mset (mset M 53 0 (nI k)) 53 325 (nI (eaN R σ k + R 6))) 53 326 (sK σ + nI (soN R (sL σ) (sH σ) (eaN R σ k + R 6)))) R := hr.keep (by rw [mset_n (by decide), mset_n (by decide), mset_n (by decide)])
  refine m_longOf hR hr1 (by omega) ?_
  rintro _ rfl
  refine m_lays (k := k) (bg := eaN R σ k + R 6) (T := T) (by omega) hn hm1.2.1 (fun i hi => ?_) (fun Q' hq' => ?_) (fun M9 hp => ?_)
  · rw [mset_n (by decide), mset_n (by decide), mset_n (by decide)]; exact hT i hi
  · refine m_beginOf (k := k) hR hS1 hr1 hm1 (Nat.le_refl _) ?_
    rw [ee]; exact hq'
  have hm9 := hm1.put hS1 (Nat.le_refl k) (show k < 12 by omega) hn hp
  have hr9 : rlT M9 R := hr1.keep (hp.1 55 (by decide))
  have hT0 : ∀ i, i < n → T i < 256 := fun i hi => (hT i hi).1
  have hS9 := hS1.put (Nat.le_refl k) (show k < 12 by omega) hn (show eaN R _ k ≤ eaN R σ k + R 6 by rw [ee]; omega) q2 hT0
  refine m_longOf hR hr9 (by omega) ?_
  rintro _ rfl
  have e3 : ∀ M' : MM, rlT M' R → M' 55 3 = nI (R 3) := fun M' q => q 3 (by omega) (by omega)
  rw [e3 _ hr9, e3 _ hr1, pk_mul, nI_add]
  have e9 : M9 53 326 = sK σ + nI (soN R (sL σ) (sH σ) (eaN R σ k + R 6)) := hm9.2.2.2.2.2.2.2.2.2.2.2.1
  rw [e9]
  have hm10 : mdT (mset M9 53 326 (sK σ + nI (soN R (sL σ) (sH σ) (eaN R σ k + R 6)) + nI (R 3 * lgN R n))) 0 (uH (puS (uB σ (sL σ) k (eaN R σ k + R 6) (sB σ) (sZ σ) (sC σ) (sO σ) (sK σ + nI (soN R (sL σ) (sH σ) (eaN R σ k + R 6)))) k n (eaN R σ k + R 6) T) (eaN R σ k + R 6) (sK σ + nI (soN R (sL σ) (sH σ) (eaN R σ k + R 6)) + nI (R 3 * lgN R n))) := by
    refine hm9.obj hS9.n3 hS9.z12 (fun j q1 q2 q3 => ?_) rfl rfl rfl rfl rfl ?_ ?_ ?_
    · rw [mset_sn q2]
    · rw [mset_sn (by decide)]; exact hm9.2.2.1
    · rw [mset_ss]; rfl
    · rw [mset_sn (by decide)]; exact hm9.2.2.2.2.2.2.2.2.2.2.2.2
  have hS10 := hS9.uH (show eaN R σ k + R 6 ≤ sL σ by omega) (sK σ + nI (soN R (sL σ) (sH σ) (eaN R σ k + R 6)) + nI (R 3 * lgN R n))
  refine m_endOf hR hS10 (hr9.keep (mset_n (by decide))) hm10 (show k < k + 1 by omega) ?_
  rintro _ rfl
  refine h1 _ ?_ (fun a q1 => ?_) (fun j q1 => ?_)
  · refine hm10.obj hS10.n3 hS10.z12 (fun j q1 q2 q3 => ?_) rfl rfl rfl rfl rfl ?_ ?_ ?_
    · rw [mset_sn q1]
    · rw [mset_ss]
      show nI ((if k = k then eaN R σ k + R 6 else _) + lgN R (if k = k then n else _)) = nI (eaN R σ k + R 6 + lgN R n)
      rw [if_pos rfl, if_pos rfl]
    · rw [mset_sn (by decide), mset_ss]
      show _ = sK σ + nI (tkN R σ k n)
      unfold tkN
      rw [← nI_add, Int32.add_assoc]
    · rw [mset_sn (by decide)]; exact hm10.2.2.2.2.2.2.2.2.2.2.2.2
  · rw [mset_n q1, mset_n q1, hp.1 a q1, mset_n q1, mset_n q1, mset_n q1]
  · rw [mset_sn (by omega), mset_sn (by omega), hp.2.2.2.2.2.2.2 j (by omega) (by omega) (by omega) (by omega) (by omega), mset_sn (by omega), mset_sn (by omega), mset_sn (by omega)]
theorem L_mark {M : MM} (h : Rel M) (x : Int32) : wX4_mark (fun r M1 => wX5_mark (PQ r) M1 x) M x := by
  obtain ⟨R, σ, hR, hS, hc, hm, hr, him, hsh, htx⟩ := id h
  have h12 := hS.2.1
  unfold wX4_mark
  rw [show M 1 8 = nI (sN σ) from hc.2.1]
  refine s_isBetween.mpr ?_
  by_cases hp : (0 : Int32) ≤ x ∧ x ≤ nI (sN σ)
  · refine zt1 hp ?_
    obtain ⟨k, hk, rfl⟩ := pl_of (by omega) hp
    refine s_hasRoomAt (n := 0) hR hS hc hk (by omega) (fun hrm => o_n1 ?_) (fun hrm => o_n0 ?_)
    · refine s_writeAt (n := 0) (T := sT σ) hR hS hc hk (by omega) hrm (fun i hi => by omega) (fun M' hc' hk' => ?_)
      have m53 : M' 53 = M 53 := hk' 53 (by decide) (by decide) (by decide) (by decide) (by decide)
      have hm' : mdT M' 0 σ := hm.keep m53
      unfold wX5_mark
      dsimp only
      rw [hm'.2.1]
      refine m_in32 0 (nI (sN σ)) rfl rfl (zt2 hp ?_)
      refine m_writes (n := 0) (T := sT σ) hR hS (hr.keep (hk' 55 (by decide) (by decide) (by decide) (by decide) (by decide))) hm' hk (by omega) (fun i hi => by omega) (fun _ M2 hm2 k2 k3 => ⟨rfl, ?_⟩) (fun q => absurd hrm q)
      refine Rel.step hR (hS.wr hk (by omega) hrm (fun i hi => by omega)) (hc'.keep (fun i hi => k2 _ (by omega))) hm2 hr him hsh htx (fun a ha => ?_) (fun j hj => ?_) ?_
      · unfold keepP at ha
        rw [k2 a (by omega), hk' a (by omega) (by omega) (by omega) (by omega) (by omega)]
      · rw [k3 j hj, m53]
      · rw [k2 52 (by decide), hk' 52 (by decide) (by decide) (by decide) (by decide) (by decide)]; exact ⟨rfl, rfl, rfl⟩
    · unfold wX5_mark
      dsimp only
      rw [hm.2.1]
      exact m_in32 0 (nI (sN σ)) rfl rfl (zt2 hp (m_writes (n := 0) (T := sT σ) hR hS hr hm hk (by omega) (fun i hi => by omega) (fun q => absurd q hrm) (fun _ => ⟨rfl, h⟩)))
  · refine zf1 hp ?_
    unfold wX5_mark
    dsimp only
    rw [hm.2.1]
    exact m_in32 0 (nI (sN σ)) rfl rfl (zf2 hp ⟨rfl, h⟩)
theorem mset_id {M : MM} {k j : Nat} : mset M k j (M k j) = M := by
  funext a i
  by_cases e : a = k
  · subst e
    by_cases e2 : i = j
    · subst e2; rw [mset_ss]
    · rw [mset_sn e2]
  · rw [mset_n e]
theorem L_write {M : MM} (h : Rel M) (x : Int32) : wX4_write (fun r M1 => wX5_write (PQ r) M1 x) M x := by
  obtain ⟨R, σ, hR, hS, hc, hm, hr, him, hsh, htx⟩ := id h
  have h12 := hS.2.1
  have hY := hS.n3.2.1
  have e11 : M 1 11 = nI (sY σ) := hc.2.2.2.2.2.2.2.1
  have m11 : M 53 327 = nI (sY σ) := hm.2.2.2.2.2.2.2.1
  have hT : ∀ i, i < sY σ → sT σ i < 256 ∧ M 7 i = nI (sT σ i) := fun i hi => ⟨hS.2.2.2.2.2.2.2.2.1 i hi, hc.2.2.2.2.2.2.2.2.1 i hi⟩
  -- what is typed is laid aside
  have spare : ∀ (Q : Int32 → MM → Prop) (M' : MM) (k : Nat), M' 53 = M 53 → (∀ M2, (∀ a, a ≠ 60 → M2 a = M' a) → (∀ i, i < sY σ → M2 60 i = nI (sT σ i)) → wX5_writes (fun r3 M4 => (0 ≤ r3 → wX5_write_105 Q (nI k) M4 r3 0 327) ∧ (¬ 0 ≤ r3 → wX5_write_105 Q (nI k) M4 r3 (M4 53 327) 327)) M2 (nI k) (nI (sY σ))) → ∀ r i (M2 : MM), i + r = sY σ → (∀ a, a ≠ 60 → M2 a = M' a) → (∀ j, j < i → M2 60 j = nI (sT σ j)) → wX5_write_34 Q (nI k) (r + 1) M2 (nI i) := by
    intro Q M' k e53 fin r
    induction r with
    | zero =>
      intro i M2 hi k1 k2
      have : i = sY σ := by omega
      subst this
      unfold wX5_write_34
      rw [show M2 53 327 = nI (sY σ) by rw [k1 53 (by decide), e53]; exact m11]
      exact br_t (nI_le (Nat.le_refl _) (by omega)) (fin M2 k1 k2)
    | succ r ih =>
      intro i M2 hi k1 k2
      unfold wX5_write_34
      have g := hm.2.2.2.2.2.2.2.2.1 i (by omega)
      rw [Nat.zero_add] at g
      rw [show M2 53 327 = nI (sY σ) by rw [k1 53 (by decide), e53]; exact m11, show (328 : Int32) = nI 328 from rfl, nI_add, clamp_nI (n := 328 + i) (by omega), clamp_nI (n := i) (by omega)]
      refine br_f (fun q => ?_) ⟨v53 (by omega), v60 (by omega), ?_⟩
      · have := (nI_leI (by omega) (by omega)).mp q; omega
      rintro _ rfl
      rw [nI_1]
      refine ih (i + 1) _ (by omega) (fun a q => by rw [mset_n q]; exact k1 a q) (fun j hj => ?_)
      by_cases e : j = i
      · subst e; rw [mset_ss, k1 53 (by decide), e53]; exact g
      · rw [mset_sn e]; exact k2 j (by omega)
  have i105 : ∀ (Q : Int32 → MM → Prop) (v : Int32) (M4 : MM) (r p : Int32), Q r (mset M4 53 327 p) → wX5_write_105 Q v M4 r p 327 := by
    intro Q v M4 r p hq
    refine ⟨v53 (n := 327) (by omega), ?_⟩
    rintro _ rfl
    exact hq
  unfold wX4_write
  rw [show M 1 8 = nI (sN σ) from hc.2.1]
  refine s_isBetween.mpr ?_
  by_cases hp : (0 : Int32) ≤ x ∧ x ≤ nI (sN σ)
  · refine zt1 hp ?_
    obtain ⟨k, hk, rfl⟩ := pl_of (by omega) hp
    dsimp only
    rw [e11]
    by_cases hy : sY σ = 0
    · refine br_nt (by rw [hy]; rfl) ?_
      unfold wX5_write
      rw [hm.2.1]
      refine m_in32 0 (nI (sN σ)) rfl rfl (zt1 hp ?_)
      rw [m11]
      exact br_nt (by rw [hy]; rfl) ⟨rfl, h⟩
    · have hy0 : ¬ nI (sY σ) = 0 := fun q => hy ((nI_eq (b := 0) (by omega) (by omega)).mp q)
      refine br_nf hy0 (s_hasRoomAt hR hS hc hk hY (fun hrm => o_n1 ?_) (fun hrm => o_n0 ?_))
      · rw [e11]
        refine s_writeAt (T := sT σ) hR hS hc hk hY hrm hT (fun M' hc' hk' => ?_)
        rintro _ rfl
        have m53 : M' 53 = M 53 := hk' 53 (by decide) (by decide) (by decide) (by decide) (by decide)
        have m53' : mset M' 1 11 0 53 = M 53 := by rw [mset_n (by decide)]; exact m53
        have hm' : mdT (mset M' 1 11 0) 0 σ := hm.keep m53'
        have hcf : clT (mset M' 1 11 0) 1 R (uY (wrS R σ k (sY σ) (sT σ)) 0 (fun _ => 0)) := by
          refine hc'.typed _ _ (fun a h1 h2 h3 => ?_) (fun j hj => ?_) ?_ (fun i hi => by omega)
          · rw [mset_n (by omega)]
          · rw [mset_sn hj]
          · rw [mset_ss]; rfl
        unfold wX5_write
        rw [hm'.2.1]
        refine m_in32 0 (nI (sN σ)) rfl rfl (zt1 hp ?_)
        rw [show mset M' 1 11 0 53 327 = nI (sY σ) by rw [m53']; exact m11]
        refine br_nf hy0 ⟨sY σ + 1, spare _ _ k m53' (fun M2 k1 k2 => ?_) (sY σ) 0 _ (by omega) (fun _ _ => rfl) (fun _ q => by omega)⟩
        have hm2 : mdT M2 0 σ := hm'.keep (k1 53 (by decide))
        have m55 : M2 55 = M 55 := by rw [k1 55 (by decide), mset_n (by decide)]; exact hk' 55 (by decide) (by decide) (by decide) (by decide) (by decide)
        refine m_writes (T := sT σ) hR hS (hr.keep m55) hm2 hk hY (fun i hi => ⟨(hT i hi).1, k2 i hi⟩) (fun _ M3 hm3 k3 k4 => ?_) (fun q => absurd hrm q)
        have htk := tkN_lt hR hS hY hrm
        refine br_t (nI_pos' (by omega)) (i105 _ _ _ _ _ ⟨rfl, ?_⟩)
        have hSw := hS.wr hk hY hrm (fun i hi => (hT i hi).1)
        refine Rel.step hR (hSw.uY (y := 0) (t := fun _ => 0) (by omega) (fun i hi => by omega)) (hcf.keep (fun i hi => ?_)) ?_ hr him hsh htx (fun a ha => ?_) (fun j hj => ?_) ?_
        · rw [mset_n (by omega), k3 _ (by omega), k1 _ (by omega)]
        · refine hm3.typed hSw.n3 hSw.z12 0 _ (fun j hj => ?_) ?_ (fun i hi => by omega)
          · rw [mset_sn (by omega)]
          · rw [mset_ss]; rfl
        · unfold keepP at ha
          rw [mset_n (by omega), k3 a (by omega), k1 a (by omega), mset_n (by omega), hk' a (by omega) (by omega) (by omega) (by omega) (by omega)]
        · rw [mset_sn (by omega), k4 j hj, k1 53 (by decide), m53']
        · rw [mset_n (by decide), k3 52 (by decide), k1 52 (by decide), mset_n (by decide), hk' 52 (by decide) (by decide) (by decide) (by decide) (by decide)]; exact ⟨rfl, rfl, rfl⟩
      · unfold wX5_write
        rw [hm.2.1]
        refine m_in32 0 (nI (sN σ)) rfl rfl (zt1 hp ?_)
        rw [m11]
        refine br_nf hy0 ⟨sY σ + 1, spare _ _ k rfl (fun M2 k1 k2 => ?_) (sY σ) 0 _ (by omega) (fun _ _ => rfl) (fun _ q => by omega)⟩
        refine m_writes (T := sT σ) hR hS (hr.keep (k1 55 (by decide))) (hm.keep (k1 53 (by decide))) hk hY (fun i hi => ⟨(hT i hi).1, k2 i hi⟩) (fun q => absurd q hrm) (fun _ => ?_)
        refine br_f (by decide) (i105 _ _ _ _ _ ⟨rfl, ?_⟩)
        rw [mset_id]
        exact h.scr (fun a ha => k1 a (by omega))
  · refine zf1 hp ?_
    unfold wX5_write
    dsimp only
    rw [hm.2.1]
    exact m_in32 0 (nI (sN σ)) rfl rfl (zf1 hp ⟨rfl, h⟩)
-- ===== images =====
theorem clT.mv {M M1 : MM} {b b' : Nat} {R : Nat → Nat} {σ : SS} (h : clT M b R σ) (hS : okS R σ) (e : ∀ r, 1 ≤ r → r < 9 → ∀ j, j < (if r = 1 then 9 else if r = 4 then 156 else if r = 5 then 144 else 12) → M1 (b' + r) j = M (b + r) j) (f : ∀ j, 8 ≤ j → j < 14 → M1 b' j = M b j) : clT M1 b' R σ := by
  obtain ⟨h1, h2, h3, h4, h5, h6, h7, h8, h9, h10, h11, h12, h13⟩ := h
  have hn := hS.n3
  have e1 := e 1 (by omega) (by omega)
  have e2 := e 2 (by omega) (by omega)
  have e3 := e 3 (by omega) (by omega)
  have e4 := e 4 (by omega) (by omega)
  have e5 := e 5 (by omega) (by omega)
  have e6 := e 6 (by omega) (by omega)
  have e7 := e 7 (by omega) (by omega)
  have e8 := e 8 (by omega) (by omega)
  simp only [Nat.reduceEqDiff, if_true, if_false] at e1 e2 e3 e4 e5 e6 e7 e8
  refine ⟨⟨by rw [e1 0 (by omega)]; exact h1.1, fun r r1 r2 => by rw [e1 r (by omega)]; exact h1.2 r r1 r2⟩, by rw [f 8 (by omega) (by omega)]; exact h2, by rw [f 9 (by omega) (by omega)]; exact h3, fun j hj => by rw [e2 j (by omega)]; exact h4 j hj, fun j hj => by rw [e3 j (by omega)]; exact h5 j hj, fun j hj i hi => ?_, fun j hj i hi => ?_, by rw [f 11 (by omega) (by omega)]; exact h8, fun i hi => by rw [e6 i (by omega)]; exact h9 i hi, by rw [f 13 (by omega) (by omega)]; exact h10, fun i hi => by rw [e7 i (by omega), e8 i (by omega)]; exact h11 i hi, by rw [f 10 (by omega) (by omega)]; exact h12, by rw [f 12 (by omega) (by omega)]; exact h13⟩
  · have := hS.z12 j hj
    rw [e4 _ (by omega)]; exact h6 j hj i hi
  · have := hS.z12 j hj
    rw [e5 _ (by omega)]; exact h7 j hj i hi
theorem mdT.mv {M M1 : MM} {o o' : Nat} {R : Nat → Nat} {σ : SS} (h : mdT M o σ) (hS : okS R σ) (e : ∀ i, i < 400 → M1 53 (o' + i) = M 53 (o + i)) : mdT M1 o' σ := by
  obtain ⟨h1, h2, h3, h4, h5, h6, h7, h8, h9, h10, h11, h12, h13⟩ := h
  have hn := hS.n3
  refine ⟨by rw [e 366 (by omega)]; exact h1, ?_, by rw [e 325 (by omega)]; exact h3, fun j hj => by rw [e (1 + j) (by omega)]; exact h4 j hj, fun j hj => by rw [e (13 + j) (by omega)]; exact h5 j hj, fun j hj i hi => ?_, fun j hj i hi => ?_, by rw [e 327 (by omega)]; exact h8, fun i hi => by rw [e (328 + i) (by omega)]; exact h9 i hi, by rw [e 341 (by omega)]; exact h10, fun i hi => by rw [e (342 + 2 * i) (by omega), e (343 + 2 * i) (by omega)]; exact h11 i hi, by rw [e 326 (by omega)]; exact h12, by rw [e 340 (by omega)]; exact h13⟩
  · have := e 0 (by omega)
    rw [Nat.add_zero, Nat.add_zero] at this
    rw [this]; exact h2
  · have := hS.z12 j hj
    rw [e (25 + (j * 13 + i)) (by omega)]; exact h6 j hj i hi
  · have := hS.z12 j hj
    rw [e (181 + (j * 12 + i)) (by omega)]; exact h7 j hj i hi
theorem s_copyRow {Q : MM → Prop} {M : MM} {k0 k1 n : Nat} (h0 : alen k0 = n) (h1 : alen k1 = n) (hn : n < 2 ^ 31) (hq : ∀ M', (∀ a, a ≠ k1 → M' a = M a) → (∀ j, j < n → M' k1 j = M k0 j) → Q M') : wX4_copyRow Q M k0 k1 := by
  unfold wX4_copyRow
  rw [h0, h1, min_nI hn hn, Nat.min_self, clamp_nI hn]
  refine ⟨by decide, by decide, nI_pos hn, by show 0 + n ≤ n; omega, by show 0 + n ≤ n; omega, ?_⟩
  rintro _ rfl
  refine hq _ (fun a h => mrow_n h) (fun j hj => ?_)
  rw [mrow_s]
  show va_cpy (M k0) (M k1) 0 0 n j = M k0 j
  rw [pk_cpy_in (Nat.zero_le _) (by omega)]; congr 1; omega
/-- t rows are copied -/
def cpI (M M' : MM) (b o t : Nat) : Prop := (∀ a, (a < b + 1 ∨ b + 1 + t ≤ a) → M' a = M a) ∧ ∀ r, 1 ≤ r → r ≤ t → ∀ j, j < alen (o + r) → M' (b + r) j = M (o + r) j
theorem cpI.step {Q : MM → Prop} {M M' : MM} {b o t : Nat} (h : cpI M M' b o t) (ht : t < 8) (hbo : b + 9 ≤ o ∨ o + 9 ≤ b) (hl : alen (o + (t + 1)) = alen (b + (t + 1))) (hn : alen (b + (t + 1)) < 2 ^ 31) (hq : ∀ M2, cpI M M2 b o (t + 1) → Q M2) : wX4_copyRow Q M' (o + (t + 1)) (b + (t + 1)) := by
  refine s_copyRow hl rfl hn (fun M2 e1 e2 => hq M2 ⟨fun a ha => ?_, fun r r1 r2 j hj => ?_⟩)
  · rw [e1 a (by omega)]; exact h.1 a (by omega)
  · by_cases e : r = t + 1
    · subst e
      rw [e2 j (by rw [← hl]; exact hj), h.1 _ (by omega)]
    · rw [e1 _ (by omega)]; exact h.2 r r1 (by omega) j hj
theorem s_becomes {Q : MM → Prop} {M : MM} {b o : Nat} (hb : tpB b) (ho : tpB o) (hbo : b + 9 ≤ o ∨ o + 9 ≤ b) (hq : ∀ M', (∀ a, (a < b ∨ b + 9 ≤ a) → M' a = M a) → (∀ r, 1 ≤ r → r < 9 → ∀ j, j < (if r = 1 then 9 else if r = 4 then 156 else if r = 5 then 144 else 12) → M' (b + r) j = M (o + r) j) → (∀ j, 8 ≤ j → j < 14 → M' b j = M o j) → Q M') : wX2_becomes Q M b o := by
  obtain ⟨l1, l2, l3, l4, l5, l6, l7, l8⟩ := alen_tp hb
  obtain ⟨m1, m2, m3, m4, m5, m6, m7, m8⟩ := alen_tp ho
  unfold wX2_becomes
  have c0 : cpI M M b o 0 := ⟨fun _ _ => rfl, fun r r1 r2 => by omega⟩
  refine c0.step (by omega) hbo (by rw [m1, l1]) (by rw [l1]; decide) (fun M1 c1 => ?_)
  refine c1.step (by omega) hbo (by rw [m2, l2]) (by rw [l2]; decide) (fun M2 c2 => ?_)
  refine c2.step (by omega) hbo (by rw [m3, l3]) (by rw [l3]; decide) (fun M3 c3 => ?_)
  refine c3.step (by omega) hbo (by rw [m4, l4]) (by rw [l4]; decide) (fun M4 c4 => ?_)
  refine c4.step (by omega) hbo (by rw [m5, l5]) (by rw [l5]; decide) (fun M5 c5 => ?_)
  refine c5.step (by omega) hbo (by rw [m6, l6]) (by rw [l6]; decide) (fun M6 c6 => ?_)
  refine c6.step (by omega) hbo (by rw [m7, l7]) (by rw [l7]; decide) (fun M7 c7 => ?_)
  refine c7.step (by omega) hbo (by rw [m8, l8]) (by rw [l8]; decide) (fun M8 c8 => ?_)
  rintro _ rfl _ rfl _ rfl _ rfl _ rfl _ rfl
  have hne : o ≠ b := by omega
  have eo : M8 o = M o := c8.1 o (by omega)
  refine hq _ (fun a ha => ?_) (fun r r1 r2 j hj => ?_) (fun j j1 j2 => ?_)
  · have : a ≠ b := by omega
    rw [mset_n this, mset_n this, mset_n this, mset_n this, mset_n this, mset_n this]
    exact c8.1 a (by omega)
  · have : b + r ≠ b := by omega
    rw [mset_n this, mset_n this, mset_n this, mset_n this, mset_n this, mset_n this]
    refine c8.2 r r1 (by omega) j ?_
    have : r = 1 ∨ r = 2 ∨ r = 3 ∨ r = 4 ∨ r = 5 ∨ r = 6 ∨ r = 7 ∨ r = 8 := by omega
    rcases this with rfl | rfl | rfl | rfl | rfl | rfl | rfl | rfl
    · rw [m1]; exact hj
    · rw [m2]; exact hj
    · rw [m3]; exact hj
    · rw [m4]; exact hj
    · rw [m5]; exact hj
    · rw [m6]; exact hj
    · rw [m7]; exact hj
    · rw [m8]; exact hj
  · have : j = 8 ∨ j = 9 ∨ j = 10 ∨ j = 11 ∨ j = 12 ∨ j = 13 := by omega
    rcases this with rfl | rfl | rfl | rfl | rfl | rfl <;> simp [mset, mrow, upd, hne, eo]
theorem m_copies {Q : MM → Prop} {M : MM} {o o' : Nat} {v1 v2 : Int32} (e1 : v1 = nI o') (e2 : v2 = nI o) (ho : o ≤ 800) (ho' : o' ≤ 800) (hoo : o + 400 ≤ o' ∨ o' + 400 ≤ o) (hq : ∀ M', (∀ a, a ≠ 53 → M' a = M a) → (∀ j, (j < o' ∨ o' + 400 ≤ j) → M' 53 j = M 53 j) → (∀ i, i < 400 → M' 53 (o' + i) = M 53 (o + i)) → Q M') : wX5_copies Q M v1 v2 := by
  subst e1; subst e2
  have loop : ∀ r i (M' : MM), i + r = 400 → (∀ a, a ≠ 53 → M' a = M a) → (∀ j, (j < o' ∨ o' + i ≤ j) → M' 53 j = M 53 j) → (∀ i', i' < i → M' 53 (o' + i') = M 53 (o + i')) → wX5_copies_2 Q (nI o') (nI o) (r + 1) M' (nI i) := by
    intro r
    induction r with
    | zero =>
      intro i M' hi k1 k2 k3
      have : i = 400 := by omega
      subst this
      exact br_t (by decide +kernel) (hq M' k1 k2 k3)
    | succ r ih =>
      intro i M' hi k1 k2 k3
      unfold wX5_copies_2
      rw [nI_add, nI_add, clamp_nI (by omega), clamp_nI (by omega), nI_1]
      refine br_f (fun q => ?_) ⟨v53 (by omega), v53 (by omega), ?_⟩
      · have := (nI_leI (a := 400) (by omega) (by omega)).mp q; omega
      rintro _ rfl
      refine ih (i + 1) _ (by omega) (fun a h => by rw [mset_n h]; exact k1 a h) (fun j hj => by rw [mset_sn (by omega)]; exact k2 j (by omega)) (fun i' hi' => ?_)
      by_cases e : i' = i
      · subst e; rw [mset_ss, k2 _ (by omega)]
      · rw [mset_sn (by omega)]; exact k3 i' (by omega)
  exact ⟨_, loop 400 0 M (by omega) (fun _ _ => rfl) (fun _ _ => rfl) (fun _ h => by omega)⟩
theorem a54 : alen 54 = 2 := by decide +kernel
theorem m_flag {Q : Int32 → MM → Prop} {M : MM} {k : Nat} (hk : k ≤ 1) (hq : Q (nI k) M) : wX5_flag Q M (nI k) := by
  have : k = 0 ∨ k = 1 := by omega
  rcases this with rfl | rfl
  · exact br_t rfl hq
  · exact br_f (by decide +kernel) hq
theorem rlT.k {M M1 : MM} {R : Nat → Nat} (h : rlT M R) (e : M1 55 = M 55) : rlT M1 R := h.keep e
theorem L_keep {M : MM} (h : Rel M) (x : Int32) : wX4_keep (fun r M1 => wX5_keep (PQ r) M1 x) M x := by
  obtain ⟨R, σ, hR, hS, hc, hm, hr, him, hsh, htx⟩ := id h
  have t1 : tpB 1 := Or.inl rfl
  have t10 : tpB 10 := Or.inr (Or.inl rfl)
  have t19 : tpB 19 := Or.inr (Or.inr (Or.inl rfl))
  obtain ⟨k0, k1, c0, c1, i1, i2, i3, im0, im1⟩ := id him
  unfold wX4_keep
  refine s_isBetween.mpr ?_
  by_cases hp : (0 : Int32) ≤ x ∧ x ≤ 1
  · have hx : x = 0 ∨ x = 1 := by
      obtain ⟨k, hk, rfl⟩ := pl_of (L := 1) (by omega) hp
      have : k = 0 ∨ k = 1 := by omega
      rcases this with rfl | rfl
      · exact Or.inl rfl
      · exact Or.inr rfl
    rcases hx with rfl | rfl
    · refine zt1 (by decide) ?_
      rintro _ rfl
      rw [i1, show ((0 : Int32) &&& 31) = (nI 0 &&& 31) by decide +kernel, bit_at (by omega) (by omega)]
      have eb : (k0 + 2 * k1) / 2 ^ 0 % 2 = k0 := by rw [Nat.pow_zero]; omega
      rw [eb]
      have ev : (nI (k0 + 2 * k1) ||| ((1 : Int32) <<< (nI 0 &&& 31))) = nI (1 + 2 * k1) := by
        have d0 : k0 = 0 ∨ k0 = 1 := by omega
        have d1 : k1 = 0 ∨ k1 = 1 := by omega
        rcases d0 with rfl | rfl <;> rcases d1 with rfl | rfl <;> decide +kernel
      unfold wX4_imageNumbered
      refine br_nt rfl ⟨t10, s_becomes t10 t1 (by omega) (fun M1 a1 a2 a3 => ?_)⟩
      rintro _ rfl
      rw [a1 0 (by omega), i1, ev]
      unfold wX5_keep
      have e54 : mset M1 0 11 (nI (1 + 2 * k1)) 54 = M 54 := by rw [mset_n (by decide)]; exact a1 54 (by omega)
      have e53 : mset M1 0 11 (nI (1 + 2 * k1)) 53 = M 53 := by rw [mset_n (by decide)]; exact a1 53 (by omega)
      refine m_in32 0 1 rfl rfl (zt1 (by decide) ⟨vp_of (n := 0) rfl (by rw [a54]; decide) (by rw [a54]; decide), ?_⟩)
      rw [show (0 : Int32).toNatClampNeg = 0 from rfl, e54, i2]
      refine m_flag c0 ⟨vp_of (n := 0) rfl (by rw [a54]; decide) (by rw [a54]; decide), ?_⟩
      rintro _ rfl
      refine m_copies (o' := 400) (o := 0) (by decide +kernel) rfl (by omega) (by omega) (by omega) (fun M2 b1 b2 b3 => ⟨rfl, ?_⟩)
      have kk : ∀ a, a ≠ 0 → (a < 10 ∨ 19 ≤ a) → a ≠ 53 → a ≠ 54 → M2 a = M a := fun a q1 q2 q3 q4 => by rw [b1 a q3, mset_n q4, mset_n q1, a1 a (by omega)]
      have kt : ∀ r, r < 9 → M2 (10 + r) = M1 (10 + r) := fun r q => by rw [b1 _ (by omega), mset_n (by omega), mset_n (by omega)]
      have k53 : ∀ j, (j < 400 ∨ 800 ≤ j) → M2 53 j = M 53 j := fun j q => by rw [b2 j (by omega), mset_n (by decide), e53]
      have e1' : ∀ j, j ≠ 11 → M2 0 j = M 0 j := fun j q => by rw [b1 0 (by decide), mset_n (by decide), mset_sn q, a1 0 (by omega)]
      refine ⟨R, σ, hR, hS, hc.keep (fun j hj => kk _ (by omega) (by omega) (by omega) (by omega)), hm.mv hS (fun j hj => k53 _ (by omega)), hr.keep (kk 55 (by omega) (by omega) (by omega) (by omega)), ?_, hsh.keep (fun a q1 q2 => kk a (by omega) (by omega) (by omega) (by omega)) (fun a q1 q2 => kk a (by omega) (by omega) (by omega) (by omega)), ?_⟩
      · refine ⟨1, k1, by omega, by omega, ?_, ?_, ?_, fun q => ?_, fun q => ?_⟩
        · rw [b1 0 (by decide), mset_n (by decide), mset_ss]
        · rw [b1 54 (by decide), mset_ss]; rfl
        · rw [b1 54 (by decide), mset_sn (by decide), e54]; exact i3
        · refine ⟨σ, hS, hc.mv hS (fun r r1 r2 j hj => by rw [kt r r2]; exact a2 r r1 r2 j hj) (fun j j1 j2 => ?_), hm.mv hS (fun j hj => by rw [b3 j hj, mset_n (by decide), e53])⟩
          have := kt 0 (by omega)
          rw [this]; exact a3 j j1 j2
        · obtain ⟨σ', s1, s2, s3⟩ := im1 q
          exact ⟨σ', s1, s2.keep (fun j hj => kk _ (by omega) (by omega) (by omega) (by omega)), s3.mv s1 (fun j hj => k53 _ (by omega))⟩
      · exact htx.keep (kk 37 (by omega) (by omega) (by omega) (by omega)) (kk 38 (by omega) (by omega) (by omega) (by omega)) (kk 59 (by omega) (by omega) (by omega) (by omega)) (by rw [kk 52 (by omega) (by omega) (by omega) (by omega)]) (by rw [kk 52 (by omega) (by omega) (by omega) (by omega)]) (by rw [kk 52 (by omega) (by omega) (by omega) (by omega)]) (e1' 9 (by decide)) (e1' 10 (by decide))
    · refine zt1 (by decide) ?_
      rintro _ rfl
      rw [i1, show ((1 : Int32) &&& 31) = (nI 1 &&& 31) by decide +kernel, bit_at (by omega) (by omega)]
      have eb : (k0 + 2 * k1) / 2 ^ 1 % 2 = k1 := by rw [Nat.pow_one]; omega
      rw [eb]
      have ev : (nI (k0 + 2 * k1) ||| ((1 : Int32) <<< (nI 1 &&& 31))) = nI (k0 + 2 * 1) := by
        have d0 : k0 = 0 ∨ k0 = 1 := by omega
        have d1 : k1 = 0 ∨ k1 = 1 := by omega
        rcases d0 with rfl | rfl <;> rcases d1 with rfl | rfl <;> decide +kernel
      unfold wX4_imageNumbered
      refine br_nf (by decide) ⟨t19, s_becomes t19 t1 (by omega) (fun M1 a1 a2 a3 => ?_)⟩
      rintro _ rfl
      rw [a1 0 (by omega), i1, ev]
      unfold wX5_keep
      have e54 : mset M1 0 11 (nI (k0 + 2 * 1)) 54 = M 54 := by rw [mset_n (by decide)]; exact a1 54 (by omega)
      have e53 : mset M1 0 11 (nI (k0 + 2 * 1)) 53 = M 53 := by rw [mset_n (by decide)]; exact a1 53 (by omega)
      refine m_in32 0 1 rfl rfl (zt1 (by decide) ⟨vp_of (n := 1) rfl (by rw [a54]; decide) (by rw [a54]; decide), ?_⟩)
      rw [show (1 : Int32).toNatClampNeg = 1 from rfl, e54, i3]
      refine m_flag c1 ⟨vp_of (n := 1) rfl (by rw [a54]; decide) (by rw [a54]; decide), ?_⟩
      rintro _ rfl
      refine m_copies (o' := 800) (o := 0) (by decide +kernel) rfl (by omega) (by omega) (by omega) (fun M2 b1 b2 b3 => ⟨rfl, ?_⟩)
      have kk : ∀ a, a ≠ 0 → (a < 19 ∨ 28 ≤ a) → a ≠ 53 → a ≠ 54 → M2 a = M a := fun a q1 q2 q3 q4 => by rw [b1 a q3, mset_n q4, mset_n q1, a1 a (by omega)]
      have kt : ∀ r, r < 9 → M2 (19 + r) = M1 (19 + r) := fun r q => by rw [b1 _ (by omega), mset_n (by omega), mset_n (by omega)]
      have k53 : ∀ j, (j < 800 ∨ 1200 ≤ j) → M2 53 j = M 53 j := fun j q => by rw [b2 j (by omega), mset_n (by decide), e53]
      have e1' : ∀ j, j ≠ 11 → M2 0 j = M 0 j := fun j q => by rw [b1 0 (by decide), mset_n (by decide), mset_sn q, a1 0 (by omega)]
      refine ⟨R, σ, hR, hS, hc.keep (fun j hj => kk _ (by omega) (by omega) (by omega) (by omega)), hm.mv hS (fun j hj => k53 _ (by omega)), hr.keep (kk 55 (by omega) (by omega) (by omega) (by omega)), ?_, hsh.keep (fun a q1 q2 => kk a (by omega) (by omega) (by omega) (by omega)) (fun a q1 q2 => kk a (by omega) (by omega) (by omega) (by omega)), ?_⟩
      · refine ⟨k0, 1, by omega, by omega, ?_, ?_, ?_, fun q => ?_, fun q => ?_⟩
        · rw [b1 0 (by decide), mset_n (by decide), mset_ss]
        · rw [b1 54 (by decide), mset_sn (by decide), e54]; exact i2
        · rw [b1 54 (by decide), mset_ss]; rfl
        · obtain ⟨σ', s1, s2, s3⟩ := im0 q
          exact ⟨σ', s1, s2.keep (fun j hj => kk _ (by omega) (by omega) (by omega) (by omega)), s3.mv s1 (fun j hj => k53 _ (by omega))⟩
        · refine ⟨σ, hS, hc.mv hS (fun r r1 r2 j hj => by rw [kt r r2]; exact a2 r r1 r2 j hj) (fun j j1 j2 => ?_), hm.mv hS (fun j hj => by rw [b3 j hj, mset_n (by decide), e53])⟩
          have := kt 0 (by omega)
          rw [this]; exact a3 j j1 j2
      · exact htx.keep (kk 37 (by omega) (by omega) (by omega) (by omega)) (kk 38 (by omega) (by omega) (by omega) (by omega)) (kk 59 (by omega) (by omega) (by omega) (by omega)) (by rw [kk 52 (by omega) (by omega) (by omega) (by omega)]) (by rw [kk 52 (by omega) (by omega) (by omega) (by omega)]) (by rw [kk 52 (by omega) (by omega) (by omega) (by omega)]) (e1' 9 (by decide)) (e1' 10 (by decide))
  · refine zf1 hp ?_
    unfold wX5_keep
    exact m_in32 0 1 rfl rfl (zf1 hp ⟨rfl, h⟩)
theorem L_back {M : MM} (h : Rel M) (x : Int32) : wX4_back (fun r M1 => wX5_back (PQ r) M1 x) M x := by
  obtain ⟨R, σ, hR, hS, hc, hm, hr, him, hsh, htx⟩ := id h
  have t1 : tpB 1 := Or.inl rfl
  have t10 : tpB 10 := Or.inr (Or.inl rfl)
  have t19 : tpB 19 := Or.inr (Or.inr (Or.inl rfl))
  obtain ⟨k0, k1, c0, c1, i1, i2, i3, im0, im1⟩ := id him
  unfold wX4_back
  refine s_isBetween.mpr ?_
  by_cases hp : (0 : Int32) ≤ x ∧ x ≤ 1
  · have hx : x = 0 ∨ x = 1 := by
      obtain ⟨k, hk, rfl⟩ := pl_of (L := 1) (by omega) hp
      have : k = 0 ∨ k = 1 := by omega
      rcases this with rfl | rfl
      · exact Or.inl rfl
      · exact Or.inr rfl
    rcases hx with rfl | rfl
    · refine zt1 (by decide) ?_
      dsimp only
      rw [i1, show ((0 : Int32) &&& 31) = (nI 0 &&& 31) by decide +kernel, bit_at (by omega) (by omega)]
      have eb : (k0 + 2 * k1) / 2 ^ 0 % 2 = k0 := by rw [Nat.pow_zero]; omega
      rw [eb]
      have d0 : k0 = 0 ∨ k0 = 1 := by omega
      rcases d0 with hk | hk
      · rw [hk] at i2 ⊢
        refine br_nt rfl ?_
        unfold wX5_back
        refine m_in32 0 1 rfl rfl (zt1 (by decide) ⟨vp_of (n := 0) rfl (by rw [a54]; decide) (by rw [a54]; decide), ?_⟩)
        rw [show (0 : Int32).toNatClampNeg = 0 from rfl, i2]
        exact br_nt rfl ⟨rfl, h⟩
      · obtain ⟨σ', s1, s2, s3⟩ := im0 hk
        rw [hk] at i2 ⊢
        refine br_nf (by decide +kernel) ?_
        unfold wX4_imageNumbered
        refine br_nt rfl ⟨t10, s_becomes t1 t10 (by omega) (fun M1 a1 a2 a3 => ?_)⟩
        have hc1 : clT M1 1 R σ' := s2.mv s1 a2 a3
        unfold wX5_back
        have e54 : M1 54 = M 54 := a1 54 (by omega)
        have e53 : M1 53 = M 53 := a1 53 (by omega)
        refine m_in32 0 1 rfl rfl (zt1 (by decide) ⟨vp_of (n := 0) rfl (by rw [a54]; decide) (by rw [a54]; decide), ?_⟩)
        rw [show (0 : Int32).toNatClampNeg = 0 from rfl, e54, i2]
        refine br_nf (by decide +kernel) (m_copies (o' := 0) (o := 400) rfl (by decide +kernel) (by omega) (by omega) (by omega) (fun M2 b1 b2 b3 => ?_))
        have hm2 : mdT M2 0 σ' := s3.mv s1 (fun j hj => by rw [b3 j hj, e53])
        refine ⟨?_, Rel.step hR s1 (hc1.keep (fun j hj => b1 _ (by omega))) hm2 hr him hsh htx (fun a ha => ?_) (fun j hj => ?_) ?_⟩
        · rw [show M1 1 8 = nI (sN σ') from hc1.2.1, show M2 53 0 = nI (sN σ') from hm2.2.1]
        · unfold keepP at ha
          rw [b1 a (by omega), a1 a (by omega)]
        · rw [b2 j (by omega), e53]
        · rw [b1 52 (by decide), a1 52 (by omega)]; exact ⟨rfl, rfl, rfl⟩
    · refine zt1 (by decide) ?_
      dsimp only
      rw [i1, show ((1 : Int32) &&& 31) = (nI 1 &&& 31) by decide +kernel, bit_at (by omega) (by omega)]
      have eb : (k0 + 2 * k1) / 2 ^ 1 % 2 = k1 := by rw [Nat.pow_one]; omega
      rw [eb]
      have d0 : k1 = 0 ∨ k1 = 1 := by omega
      rcases d0 with hk | hk
      · rw [hk] at i3 ⊢
        refine br_nt rfl ?_
        unfold wX5_back
        refine m_in32 0 1 rfl rfl (zt1 (by decide) ⟨vp_of (n := 1) rfl (by rw [a54]; decide) (by rw [a54]; decide), ?_⟩)
        rw [show (1 : Int32).toNatClampNeg = 1 from rfl, i3]
        exact br_nt rfl ⟨rfl, h⟩
      · obtain ⟨σ', s1, s2, s3⟩ := im1 hk
        rw [hk] at i3 ⊢
        refine br_nf (by decide +kernel) ?_
        unfold wX4_imageNumbered
        refine br_nf (by decide) ⟨t19, s_becomes t1 t19 (by omega) (fun M1 a1 a2 a3 => ?_)⟩
        have hc1 : clT M1 1 R σ' := s2.mv s1 a2 a3
        unfold wX5_back
        have e54 : M1 54 = M 54 := a1 54 (by omega)
        have e53 : M1 53 = M 53 := a1 53 (by omega)
        refine m_in32 0 1 rfl rfl (zt1 (by decide) ⟨vp_of (n := 1) rfl (by rw [a54]; decide) (by rw [a54]; decide), ?_⟩)
        rw [show (1 : Int32).toNatClampNeg = 1 from rfl, e54, i3]
        refine br_nf (by decide +kernel) (m_copies (o' := 0) (o := 800) rfl (by decide +kernel) (by omega) (by omega) (by omega) (fun M2 b1 b2 b3 => ?_))
        have hm2 : mdT M2 0 σ' := s3.mv s1 (fun j hj => by rw [b3 j hj, e53])
        refine ⟨?_, Rel.step hR s1 (hc1.keep (fun j hj => b1 _ (by omega))) hm2 hr him hsh htx (fun a ha => ?_) (fun j hj => ?_) ?_⟩
        · rw [show M1 1 8 = nI (sN σ') from hc1.2.1, show M2 53 0 = nI (sN σ') from hm2.2.1]
        · unfold keepP at ha
          rw [b1 a (by omega), a1 a (by omega)]
        · rw [b2 j (by omega), e53]
        · rw [b1 52 (by decide), a1 52 (by omega)]; exact ⟨rfl, rfl, rfl⟩
  · refine zf1 hp ?_
    unfold wX5_back
    exact m_in32 0 1 rfl rfl (zf1 hp ⟨rfl, h⟩)
-- ===== sheets =====
theorem a45 : ∀ s, s < 4 → alen (45 + 2 * s) = 40 := by decide +kernel
theorem a64 : alen 64 = 4 ∧ alen 65 = 4 ∧ alen 66 = 160 := by decide +kernel
theorem v64 {n : Nat} (h : n < 4) : vp_in (nI n) (alen 64) := vp_nI (by rw [a64.1]; exact h) (by rw [a64.1]; decide)
theorem v65 {n : Nat} (h : n < 4) : vp_in (nI n) (alen 65) := vp_nI (by rw [a64.2.1]; exact h) (by rw [a64.2.1]; decide)
theorem v66 {n : Nat} (h : n < 160) : vp_in (nI n) (alen 66) := vp_nI (by rw [a64.2.2]; exact h) (by rw [a64.2.2]; decide)
theorem shB_at {s : Nat} (h : s < 4) : shB (44 + 2 * s) := by
  have : s = 0 ∨ s = 1 ∨ s = 2 ∨ s = 3 := by omega
  rcases this with rfl | rfl | rfl | rfl
  · exact Or.inl rfl
  · exact Or.inr (Or.inl rfl)
  · exact Or.inr (Or.inr (Or.inl rfl))
  · exact Or.inr (Or.inr (Or.inr rfl))
theorem s_sheetNumbered {Q : Nat → MM → Prop} {M : MM} {s : Nat} (h : s < 4) (hq : Q (44 + 2 * s) M) : wX4_sheetNumbered Q M (nI s) := by
  unfold wX4_sheetNumbered
  have : s = 0 ∨ s = 1 ∨ s = 2 ∨ s = 3 := by omega
  rcases this with rfl | rfl | rfl | rfl
  · exact br_t rfl hq
  · exact br_f (by decide +kernel) (br_t rfl hq)
  · exact br_f (by decide +kernel) (br_f (by decide +kernel) (br_t rfl hq))
  · exact br_f (by decide +kernel) (br_f (by decide +kernel) (br_f (by decide +kernel) hq))
theorem m_isSheet {Q : Int32 → MM → Prop} {M : MM} {k l : Int32} (h1 : (0 ≤ k ∧ k ≤ 3) → (0 ≤ l ∧ l ≤ 2) → Q 1 M) (h0 : ¬ ((0 ≤ k ∧ k ≤ 3) ∧ (0 ≤ l ∧ l ≤ 2)) → Q 0 M) : wX5_isSheet Q M k l := by
  unfold wX5_isSheet wX5_isSheet_28
  refine m_in32 0 3 rfl rfl ?_
  by_cases a : (0 : Int32) ≤ k ∧ k ≤ 3
  · refine zt2 a (m_in32 0 2 rfl rfl ?_)
    by_cases b : (0 : Int32) ≤ l ∧ l ≤ 2
    · exact zt2 b (h1 a b)
    · exact zf2 b (h0 (fun q => b q.2))
  · exact zf2 a (h0 (fun q => a q.1))
theorem shTs.set {M M' : MM} {s : Nat} (h : shTs M) (h1 : ∀ a, 44 ≤ a → a < 52 → a ≠ 44 + 2 * s → a ≠ 45 + 2 * s → M' a = M a) (h2 : ∀ j, j ≠ s → M' 64 j = M 64 j) (h3 : ∀ j, j ≠ s → M' 65 j = M 65 j) (h4 : ∀ j, (j < 40 * s ∨ 40 * s + 40 ≤ j) → M' 66 j = M 66 j) (h5 : shT1 M' s) : shTs M' := by
  intro s' hs'
  by_cases e : s' = s
  · rw [e]; exact h5
  have g := h s' hs'
  unfold shT1 at g ⊢
  rw [h1 _ (by omega) (by omega) (by omega) (by omega), h1 (45 + 2 * s') (by omega) (by omega) (by omega) (by omega), h2 s' e, h3 s' e]
  rcases g with g | ⟨ln, n, g1, g2, g3, g4, g5, g6, g7⟩
  · exact Or.inl g
  · exact Or.inr ⟨ln, n, g1, g2, g3, g4, g5, g6, fun i hi => by rw [g7 i hi, h4 _ (by omega)]⟩
theorem Rel.shs {M M' : MM} (h : Rel M) (hk : ∀ a, (a < 44 ∨ (52 ≤ a ∧ a < 64)) → M' a = M a) (hs : shTs M') : Rel M' := by
  obtain ⟨R, σ, hR, hS, hc, hm, hr, him, hsh, htx⟩ := h
  refine ⟨R, σ, hR, hS, hc.keep (fun i hi => hk _ (by omega)), hm.keep (hk _ (by omega)), hr.keep (hk _ (by omega)), him.keep (by rw [hk 0 (by omega)]) (fun a h1 h2 => hk a (by omega)) (fun j _ => by rw [hk 53 (by omega)]) (hk _ (by omega)), hs, htx.keep (hk _ (by omega)) (hk _ (by omega)) (hk _ (by omega)) (by rw [hk 52 (by omega)]) (by rw [hk 52 (by omega)]) (by rw [hk 52 (by omega)]) (by rw [hk 0 (by omega)]) (by rw [hk 0 (by omega)])⟩
theorem s_makeNew {Q : MM → Prop} {M : MM} {s : Nat} {v1 v2 : Int32} (h : s < 4) (hq : ∀ M', (∀ a, a ≠ 44 + 2 * s → a ≠ 45 + 2 * s → M' a = M a) → M' (44 + 2 * s) 1 = v1 → M' (44 + 2 * s) 2 = v2 → (∀ j, j < 40 → M' (45 + 2 * s) j = 0) → Q M') : wX1_makeNew Q M (44 + 2 * s) v1 v2 := by
  have e45 : 44 + 2 * s + 1 = 45 + 2 * s := by omega
  unfold wX1_makeNew
  rintro _ rfl _ rfl
  have loop : ∀ r i (M' : MM), i + r = 40 → (∀ a, a ≠ 44 + 2 * s → a ≠ 45 + 2 * s → M' a = M a) → M' (44 + 2 * s) 1 = v1 → M' (44 + 2 * s) 2 = v2 → (∀ j, j < i → M' (45 + 2 * s) j = 0) → wX1_makeNew_12 Q (44 + 2 * s) v1 v2 (r + 1) M' (nI i) := by
    intro r
    induction r with
    | zero =>
      intro i M' hi k1 k2 k3 k4
      have : i = 40 := by omega
      subst this
      exact br_t (by decide +kernel) (hq M' k1 k2 k3 k4)
    | succ r ih =>
      intro i M' hi k1 k2 k3 k4
      unfold wX1_makeNew_12
      rw [e45]
      refine br_f (fun q => ?_) (s_setCell (by rw [a45 s h]; omega) (by rw [a45 s h]; decide) ?_)
      · have := (nI_leI (a := 40) (by omega) (by omega)).mp q; omega
      rw [nI_1]
      refine ih (i + 1) _ (by omega) (fun a q1 q2 => by rw [mset_n q2]; exact k1 a q1 q2) (by rw [mset_n (by omega)]; exact k2) (by rw [mset_n (by omega)]; exact k3) (fun j hj => ?_)
      by_cases e : j = i
      · subst e; rw [mset_ss]
      · rw [mset_sn e]; exact k4 j (by omega)
  refine ⟨_, loop 40 0 _ (by omega) (fun a q1 q2 => by rw [mset_n q1, mset_n q1]) ?_ ?_ (fun _ q => by omega)⟩
  · rw [mset_sn (by decide), mset_ss]
  · rw [mset_ss]
theorem m_zero {Q : Int32 → MM → Prop} {M : MM} {s : Nat} {v2 v3 : Int32} (h : s < 4) (hq : ∀ M', (∀ a, a ≠ 66 → M' a = M a) → (∀ j, (j < 40 * s ∨ 40 * s + 40 ≤ j) → M' 66 j = M 66 j) → (∀ i, i < 40 → M' 66 (40 * s + i) = 0) → Q 1 M') : ∃ m, wX5_sheet_40 Q (nI s) v2 v3 m M 0 := by
  have loop : ∀ r i (M' : MM), i + r = 40 → (∀ a, a ≠ 66 → M' a = M a) → (∀ j, (j < 40 * s ∨ 40 * s + 40 ≤ j) → M' 66 j = M 66 j) → (∀ i', i' < i → M' 66 (40 * s + i') = 0) → wX5_sheet_40 Q (nI s) v2 v3 (r + 1) M' (nI i) := by
    intro r
    induction r with
    | zero =>
      intro i M' hi k1 k2 k3
      have : i = 40 := by omega
      subst this
      exact br_t (by decide +kernel) (hq M' k1 k2 k3)
    | succ r ih =>
      intro i M' hi k1 k2 k3
      unfold wX5_sheet_40
      rw [show (40 : Int32) * nI s = nI (40 * s) from pk_mul 40 s, nI_add, clamp_nI (by omega), nI_1]
      refine br_f (fun q => ?_) ⟨v66 (by omega), ?_⟩
      · have := (nI_leI (a := 40) (by omega) (by omega)).mp q; omega
      rintro _ rfl
      refine ih (i + 1) _ (by omega) (fun a q1 => by rw [mset_n q1]; exact k1 a q1) (fun j hj => by rw [mset_sn (by omega)]; exact k2 j hj) (fun i' hi' => ?_)
      by_cases e : i' = i
      · subst e; rw [mset_ss]
      · rw [mset_sn (by omega)]; exact k3 i' (by omega)
  exact ⟨_, loop 40 0 M (by omega) (fun _ _ => rfl) (fun _ _ => rfl) (fun _ q => by omega)⟩
theorem L_sheet {M : MM} (h : Rel M) (k l n : Int32) : wX4_sheet (fun r M1 => wX5_sheet (PQ r) M1 k l n) M k l n := by
  have hsh : shTs M := by obtain ⟨_, _, _, _, _, _, _, _, h8, _⟩ := h; exact h8
  unfold wX4_sheet
  refine s_isBetween.mpr ?_
  by_cases hk : (0 : Int32) ≤ k ∧ k ≤ 3
  · refine zt2 hk (s_isBetween.mpr ?_)
    by_cases hl : (0 : Int32) ≤ l ∧ l ≤ 2
    · refine zt2 hl ?_
      by_cases h40 : n ≤ 40
      · refine br_t h40 ?_
        by_cases h0 : 0 ≤ n
        · refine br_t h0 ?_
          obtain ⟨s, hs, rfl⟩ := pl_of (L := 3) (by omega) hk
          obtain ⟨ln, hln, rfl⟩ := pl_of (L := 2) (by omega) hl
          obtain ⟨m, hm, rfl⟩ := pl_of (L := 40) (by omega) ⟨h0, h40⟩
          refine s_sheetNumbered (by omega) ⟨shB_at (by omega), s_makeNew (by omega) (fun M1 a1 a2 a3 a4 => ?_)⟩
          unfold wX5_sheet
          refine m_isSheet (fun _ _ => o_t1 (br_t h40 (br_t h0 ⟨v64 (by omega), ?_⟩))) (fun q => absurd ⟨hk, hl⟩ q)
          rw [clamp_nI (by omega)]
          rintro _ rfl
          refine ⟨v65 (by omega), ?_⟩
          rintro _ rfl
          refine m_zero (by omega) (fun M2 b1 b2 b3 => ⟨rfl, ?_⟩)
          refine h.shs (fun a ha => by rw [b1 a (by omega), mset_n (by omega), mset_n (by omega), a1 a (by omega) (by omega)]) ?_
          refine hsh.set (s := s) (fun a q1 q2 q3 q4 => by rw [b1 a (by omega), mset_n (by omega), mset_n (by omega), a1 a q3 q4]) (fun j hj => by rw [b1 64 (by decide), mset_n (by decide), mset_sn hj, a1 64 (by omega) (by omega)]) (fun j hj => by rw [b1 65 (by decide), mset_sn hj, mset_n (by decide), a1 65 (by omega) (by omega)]) (fun j hj => by rw [b2 j hj, mset_n (by decide), mset_n (by decide), a1 66 (by omega) (by omega)]) ?_
          refine Or.inr ⟨ln, m, by omega, hm, ?_, ?_, ?_, ?_, fun i hi => ?_⟩
          · rw [b1 _ (by omega), mset_n (by omega), mset_n (by omega)]; exact a2
          · rw [b1 64 (by decide), mset_n (by decide), mset_ss]
          · rw [b1 _ (by omega), mset_n (by omega), mset_n (by omega)]; exact a3
          · rw [b1 65 (by decide), mset_ss]
          · rw [b3 i (by omega), b1 _ (by omega), mset_n (by omega), mset_n (by omega)]; exact a4 i (by omega)
        · refine br_f h0 ?_
          unfold wX5_sheet
          exact m_isSheet (fun _ _ => o_t1 (br_t h40 (br_f h0 ⟨rfl, h⟩))) (fun q => absurd ⟨hk, hl⟩ q)
      · refine br_f h40 ?_
        unfold wX5_sheet
        exact m_isSheet (fun _ _ => o_t1 (br_f h40 ⟨rfl, h⟩)) (fun q => absurd ⟨hk, hl⟩ q)
    · refine zf2 hl ?_
      unfold wX5_sheet
      exact m_isSheet (fun _ q => absurd q hl) (fun _ => o_t0 ⟨rfl, h⟩)
  · refine zf2 hk ?_
    unfold wX5_sheet
    exact m_isSheet (fun q => absurd q hk) (fun _ => o_t0 ⟨rfl, h⟩)
theorem bl2 {v : Int32} {n : Nat} (hn : n ≤ 1000) : (0 ≤ v ∧ v ≤ nI n - 1) ↔ ∃ j, j < n ∧ v = nI j := by
  constructor
  · rintro ⟨h1, h2⟩
    cases n with
    | zero => exact absurd (Int32.le_trans h1 h2) (by decide +kernel)
    | succ k =>
      rw [nI_sub1 (by omega)] at h2
      obtain ⟨j, hj, e⟩ := pl_of (L := k + 1 - 1) (by omega) ⟨h1, h2⟩
      exact ⟨j, by omega, e⟩
  · rintro ⟨j, hj, rfl⟩
    rw [nI_sub1 (by omega)]
    exact pl_in (by omega) (by omega)
theorem L_lay {M : MM} (h : Rel M) (k i v : Int32) : wX4_lay (fun r M1 => wX5_lay (PQ r) M1 k i v) M k i v := by
  have hsh : shTs M := by obtain ⟨_, _, _, _, _, _, _, _, h8, _⟩ := h; exact h8
  unfold wX4_lay
  refine s_isBetween.mpr ?_
  have hl : (0 : Int32) ≤ 0 ∧ (0 : Int32) ≤ 2 := by decide
  by_cases hk : (0 : Int32) ≤ k ∧ k ≤ 3
  · refine zt1 hk ?_
    obtain ⟨s, hs, rfl⟩ := pl_of (L := 3) (by omega) hk
    refine s_sheetNumbered (by omega) ⟨shB_at (by omega), ?_⟩
    unfold wX1_faultOf
    rcases hsh s (by omega) with ⟨s1, s2⟩ | ⟨ln, m, s1, s2, s3, s4, s5, s6, s7⟩
    · refine s_isNothing (fun _ => o_t1 (br_f (by decide) ?_)) (fun q => absurd s1 q)
      unfold wX5_lay
      refine m_isSheet (fun _ _ => o_n1 ⟨v64 (by omega), ?_⟩) (fun q => absurd ⟨hk, hl⟩ q)
      rw [clamp_nI (n := s) (by omega)]
      exact br_nt s2 ⟨rfl, h⟩
    · refine s_isNothing (fun q => absurd (s3.symm.trans q) (nI_nm1 (by omega))) (fun _ => o_t0 (br_t rfl ?_))
      rw [s5]
      refine s_isBetween.mpr ?_
      have n4 : ¬ M 64 s = -4 := by rw [s4]; exact nI_n4 (by omega)
      by_cases hi : (0 : Int32) ≤ i ∧ i ≤ nI m - 1
      · obtain ⟨c, hc, rfl⟩ := (bl2 (by omega)).mp hi
        refine zt2 hi (br_t rfl ?_)
        have e45 : 44 + 2 * s + 1 = 45 + 2 * s := by omega
        -- what is laid
        have fin : ∀ w : Int32, (M 64 s = 0 → w = v.toInt8.toInt32) → (¬ M 64 s = 0 → M 64 s = 1 → w = v.toInt16.toInt32) → (¬ M 64 s = 0 → ¬ M 64 s = 1 → w = v) → wX4_setCell (fun M1 => (fun r M1 => wX5_lay (PQ r) M1 (nI s) (nI c) v) 1 M1) M (44 + 2 * s + 1) (nI c) w := by
          intro w w0 w1 w2
          rw [e45]
          refine s_setCell (by rw [a45 s (by omega)]; omega) (by rw [a45 s (by omega)]; decide) ?_
          unfold wX5_lay
          refine m_isSheet (fun _ _ => o_n1 ⟨v64 (by omega), ?_⟩) (fun q => absurd ⟨hk, hl⟩ q)
          have k64 : mset M (45 + 2 * s) c w 64 = M 64 := mset_n (by omega)
          have k65 : mset M (45 + 2 * s) c w 65 = M 65 := mset_n (by omega)
          rw [clamp_nI (n := s) (by omega), k64, k65, s6]
          refine br_nf n4 ⟨v65 (by omega), m_in32 0 (nI m - 1) rfl rfl (zt1 hi ⟨v64 (by omega), ?_⟩)⟩
          rw [k64]
          have lay85 : ∀ p0 : Int32, p0 = w → wX5_lay_85 (PQ 1) (nI s) (nI c) v (mset M (45 + 2 * s) c w) p0 (((40 : Int32) * nI s) + nI c) := by
            rintro _ rfl
            unfold wX5_lay_85
            rw [show (40 : Int32) * nI s = nI (40 * s) from pk_mul 40 s, nI_add, clamp_nI (by omega)]
            refine ⟨v66 (by omega), ?_⟩
            rintro _ rfl
            refine ⟨rfl, h.shs (fun a ha => by rw [mset_n (by omega), mset_n (by omega)]) ?_⟩
            refine hsh.set (s := s) (fun a q1 q2 q3 q4 => by rw [mset_n (by omega), mset_n q4]) (fun j hj => by rw [mset_n (by decide), k64]) (fun j hj => by rw [mset_n (by decide), k65]) (fun j hj => by rw [mset_sn (by omega), mset_n (by omega)]) ?_
            refine Or.inr ⟨ln, m, s1, s2, ?_, ?_, ?_, ?_, fun j hj => ?_⟩
            · rw [mset_n (by omega), mset_n (by omega)]; exact s3
            · rw [mset_n (by decide), k64]; exact s4
            · rw [mset_n (by omega), mset_n (by omega)]; exact s5
            · rw [mset_n (by decide), k65]; exact s6
            · rw [mset_n (show 45 + 2 * s ≠ 66 by omega)]
              by_cases e : j = c
              · subst e; rw [mset_ss, mset_ss]
              · rw [mset_sn e, mset_sn (by omega), mset_n (by omega)]; exact s7 j hj
          by_cases q0 : M 64 s = 0
          · exact br_nt q0 (lay85 _ (w0 q0).symm)
          · refine br_nf q0 ⟨v64 (by omega), ?_⟩
            by_cases q1 : M 64 s = 1
            · exact br_nt q1 (lay85 _ (w1 q0 q1).symm)
            · exact br_nf q1 (lay85 _ (w2 q0 q1).symm)
        unfold wX1_put wX1_put_26
        rw [s3, ← s4]
        by_cases q0 : M 64 s = 0
        · exact br_nt q0 (fin _ (fun _ => rfl) (fun q => absurd q0 q) (fun q => absurd q0 q))
        · refine br_nf q0 ?_
          by_cases q1 : M 64 s = 1
          · exact br_nt q1 (fin _ (fun q => absurd q q0) (fun _ _ => rfl) (fun _ q => absurd q1 q))
          · exact br_nf q1 (fin _ (fun q => absurd q q0) (fun _ q => absurd q q1) (fun _ _ => rfl))
      · refine zf2 hi (br_f (by decide) ?_)
        unfold wX5_lay
        refine m_isSheet (fun _ _ => o_n1 ⟨v64 (by omega), ?_⟩) (fun q => absurd ⟨hk, hl⟩ q)
        rw [clamp_nI (n := s) (by omega), s6]
        exact br_nf n4 ⟨v65 (by omega), m_in32 0 (nI m - 1) rfl rfl (zf1 hi ⟨rfl, h⟩)⟩
  · refine zf1 hk ?_
    unfold wX5_lay
    exact m_isSheet (fun q => absurd q hk) (fun _ => o_n0 ⟨rfl, h⟩)
-- ===== read =====
def rgP (f : Int32) (t m : Nat) : Prop := ∃ c, c < m ∧ f + nI t = nI c
theorem rg_l {f : Int32} {t m : Nat} (ht : t ≤ 12) (hm : m ≤ 40) : (¬ (f.toInt64 + (nI t).toInt64 < 0) ∧ f.toInt64 + (nI t).toInt64 < (nI m).toInt64) ↔ rgP f t m := by
  have b1 := Int32.le_toInt f
  have b2 := Int32.toInt_lt f
  have hs : (f.toInt64 + (nI t).toInt64).toInt = f.toInt + t := by
    rw [Int64.toInt_add, Int32.toInt_toInt64, Int32.toInt_toInt64, nI_toInt (by omega), Int.bmod_eq_of_le (by omega) (by omega)]
  have h0 : (0 : Int64).toInt = 0 := rfl
  rw [Int64.lt_iff_toInt_lt, Int64.lt_iff_toInt_lt, hs, h0, Int32.toInt_toInt64, nI_toInt (by omega)]
  constructor
  · rintro ⟨g1, g2⟩
    refine ⟨(f.toInt + t).toNat, by omega, ?_⟩
    have e : f = nI (f.toInt + t).toNat - nI t := by
      apply Int32.toInt_inj.mp
      rw [pk_sub_toInt (by omega) (by omega)]; omega
    have e2 : nI (f.toInt + t).toNat - nI t + nI t = nI (f.toInt + t).toNat := Int32.sub_add_cancel _ _
    rw [← e] at e2; exact e2
  · rintro ⟨c, hc, e⟩
    have e2 : f = nI c - nI t := by rw [← e, Int32.add_sub_cancel]
    have e3 : f.toInt = (c : Int) - t := by rw [e2, pk_sub_toInt (by omega) (by omega)]
    omega
/-- what may be the matter with cell f + t of a sheet of type A and size B, read as lane l -/
def frv (r A B l f : Int32) (t : Nat) : Prop := (r = 1 ∧ A = -4) ∨ (r = 3 ∧ A ≠ -4 ∧ A ≠ l) ∨ (r = 2 ∧ A ≠ -4 ∧ A = l ∧ ∃ m, m ≤ 40 ∧ B = nI m ∧ ¬ rgP f t m) ∨ (r = 0 ∧ A ≠ -4 ∧ A = l ∧ ∃ m, m ≤ 40 ∧ B = nI m ∧ rgP f t m)
theorem s_faultS {Q : Int32 → MM → Prop} {M : MM} {s t : Nat} {l f : Int32} (sh : shT1 M s) (hq : ∀ r, frv r (M 64 s) (M 65 s) l f t → Q r M) : wX1_faultOf Q M (44 + 2 * s) l (f + nI t) := by
  unfold wX1_faultOf
  rcases sh with ⟨s1, s2⟩ | ⟨ln, m, s1, s2, s3, s4, s5, s6, s7⟩
  · exact s_isNothing (fun _ => o_t1 (hq 1 (Or.inl ⟨rfl, s2⟩))) (fun q => absurd s1 q)
  · have n4 : ¬ M 64 s = -4 := by rw [s4]; exact nI_n4 (by omega)
    refine s_isNothing (fun q => absurd (s3.symm.trans q) (nI_nm1 (by omega))) (fun _ => o_t0 ?_)
    rw [s3, s5]
    by_cases e : l = nI ln
    · refine br_t e (s_isBetween.mpr ?_)
      have e4 : M 64 s = l := by rw [s4, e]
      by_cases hi : (0 : Int32) ≤ f + nI t ∧ f + nI t ≤ nI m - 1
      · exact zt2 hi (hq 0 (Or.inr (Or.inr (Or.inr ⟨rfl, n4, e4, m, s2, s6, (bl2 (by omega)).mp hi⟩))))
      · exact zf2 hi (hq 2 (Or.inr (Or.inr (Or.inl ⟨rfl, n4, e4, m, s2, s6, fun q => hi ((bl2 (by omega)).mpr q)⟩))))
    · exact br_f e (hq 3 (Or.inr (Or.inl ⟨rfl, n4, fun q => e (by rw [← q, s4])⟩)))
theorem m_f32 {Q : Int32 → MM → Prop} {M : MM} {s t n k : Nat} {l f r v6 : Int32} (hs : s < 4) (ht : t < n) (hn : n ≤ 12) (hf : frv r (M 64 s) (M 65 s) l f t) (hq : wX5_read_106 Q (fun M v5 v6 v7 => wX5_read_32 Q (nI s) l f (nI n) k M v5 v6 v7) (nI s) l f (nI n) M v6 (nI t) r) : wX5_read_32 Q (nI s) l f (nI n) (k + 1) M 0 v6 (nI t) := by
  refine br_f (fun q => ?_) (br_nt rfl ?_)
  · have := (nI_leI (by omega) (by omega)).mp q; omega
  rintro _ rfl
  rw [clamp_nI (n := s) (by omega), lg_cmp_lt, lg_cmp_lt]
  refine ⟨v64 hs, ?_⟩
  unfold wX5_read_101
  rcases hf with ⟨rfl, a⟩ | ⟨rfl, a, b⟩ | ⟨rfl, a, b, m, m1, m2, m3⟩ | ⟨rfl, a, b, m, m1, m2, m3⟩
  · exact br_nt a hq
  · exact br_nf a ⟨v64 hs, br_f b hq⟩
  · refine br_nf a ⟨v64 hs, br_t b ?_⟩
    rw [m2]
    by_cases q0 : f.toInt64 + (nI t).toInt64 < 0
    · exact br_t q0 hq
    · exact br_f q0 ⟨v65 hs, br_f (fun q => m3 ((rg_l (by omega) m1).mp ⟨q0, q⟩)) hq⟩
  · refine br_nf a ⟨v64 hs, br_t b ?_⟩
    rw [m2]
    have g := (rg_l (by omega) m1).mpr m3
    exact br_f g.1 ⟨v65 hs, br_t g.2 hq⟩
theorem frv_0 {A B l f : Int32} {t : Nat} (h : frv 0 A B l f t) : ∃ m, m ≤ 40 ∧ B = nI m ∧ rgP f t m := by
  rcases h with ⟨q, -⟩ | ⟨q, -⟩ | ⟨q, -⟩ | ⟨-, -, -, g⟩
  · exact absurd q (by decide)
  · exact absurd q (by decide)
  · exact absurd q (by decide)
  · exact g
/-- the cell's number -/
def wcI (M : MM) (s : Nat) (f : Int32) (t : Nat) : Int32 := M 66 (40 * s + (f + nI t).toNatClampNeg)
def avN (M : MM) (s : Nat) (f : Int32) (t : Nat) : Nat := (wcI M s f t).toNatClampNeg
def gdP (M : MM) (s y : Nat) (l f : Int32) (t : Nat) : Prop := frv 0 (M 64 s) (M 65 s) l f t ∧ wcI M s f t = nI (avN M s f t) ∧ avN M s f t < 256 ∧ y + t < 12
theorem wc_in {M : MM} {s : Nat} {f : Int32} {t : Nat} (h : (0 : Int32) ≤ wcI M s f t ∧ wcI M s f t ≤ 255) : wcI M s f t = nI (avN M s f t) ∧ avN M s f t < 256 := by
  obtain ⟨j, hj, e⟩ := pl_of (L := 255) (by omega) h
  have : avN M s f t = j := by unfold avN; rw [e, clamp_nI (by omega)]
  rw [this]; exact ⟨e, by omega⟩
def rcI (M M' : MM) (s y : Nat) (f : Int32) (t : Nat) : Prop := (∀ a, a ≠ 1 → a ≠ 7 → M' a = M a) ∧ (∀ j, j ≠ 11 → M' 1 j = M 1 j) ∧ M' 1 11 = nI (y + t) ∧ (∀ i, i < y → M' 7 i = M 7 i) ∧ (∀ i, i < t → M' 7 (y + i) = nI (avN M s f i))
theorem s_reads {Q : Int32 → MM → Prop} {M : MM} {s y n : Nat} {l f : Int32} (hs : s < 4) (hn : n ≤ 12) (hy : y ≤ 12) (sh : shT1 M s) (e1 : ∀ M', (∀ t, t < n → gdP M s y l f t) → rcI M M' s y f n → Q (nI n) (mset M' 0 10 0)) (e2 : ∀ M' t r, t < n → (∀ t', t' < t → gdP M s y l f t') → rcI M M' s y f t → ¬ r = 0 → frv r (M 64 s) (M 65 s) l f t → Q (nI t) (mset M' 0 10 r)) (e3 : ∀ M' t, t < n → (∀ t', t' < t → gdP M s y l f t') → rcI M M' s y f t → frv 0 (M 64 s) (M 65 s) l f t → ¬ ((0 : Int32) ≤ wcI M s f t ∧ wcI M s f t ≤ 255) → Q (-20 - nI t) (mset M' 1 11 (nI y))) (e4 : ∀ M' t, t < n → (∀ t', t' < t → gdP M s y l f t') → rcI M M' s y f t → frv 0 (M 64 s) (M 65 s) l f t → ((0 : Int32) ≤ wcI M s f t ∧ wcI M s f t ≤ 255) → y + t = 12 → Q (-3) (mset M' 1 11 (nI y))) : ∀ k t M', t + k = n → (∀ t', t' < t → gdP M s y l f t') → rcI M M' s y f t → wX4_read_50 Q (nI s) l f (nI n) (k + 1) M' (44 + 2 * s) (nI y) (nI t) := by
  intro k
  induction k with
  | zero =>
    intro t M' ht hg hi
    have : t = n := by omega
    subst this
    refine br_t (nI_le (Nat.le_refl _) (by omega)) ?_
    rintro _ rfl
    exact e1 M' hg hi
  | succ k ih =>
    intro t M' ht hg hi
    obtain ⟨i1, i2, i3, i4, i5⟩ := id hi
    have yt : y + t ≤ 12 := by
      rcases Nat.eq_zero_or_pos t with q | q
      · omega
      · have := (hg (t - 1) (by omega)).2.2.2; omega
    have sh' : shT1 M' s := by
      unfold shT1
      rw [i1 _ (by omega) (by omega), i1 64 (by omega) (by omega), i1 (45 + 2 * s) (by omega) (by omega), i1 65 (by omega) (by omega), i1 66 (by omega) (by omega)]
      exact sh
    refine br_f (fun q => ?_) (s_faultS sh' (fun r hf => ?_))
    · have := (nI_leI (by omega) (by omega)).mp q; omega
    rw [i1 64 (by omega) (by omega), i1 65 (by omega) (by omega)] at hf
    by_cases hr : r = 0
    · refine br_t hr ?_
      subst hr
      obtain ⟨m, m1, m2, c, c1, c2⟩ := frv_0 hf
      rw [c2]
      unfold wX1_cellAt
      have e45 : 44 + 2 * s + 1 = 45 + 2 * s := by omega
      rw [e45]
      refine s_cell (by rw [a45 s hs]; omega) (by rw [a45 s hs]; decide) ?_
      have ew : M' (45 + 2 * s) c = wcI M s f t := by
        unfold wcI
        rw [i1 _ (by omega) (by omega), c2, clamp_nI (by omega)]
        rcases sh with ⟨s1, s2⟩ | ⟨ln, m', s1, s2, s3, s4, s5, s6, s7⟩
        · rcases hf with ⟨q, -⟩ | ⟨q, -⟩ | ⟨q, -⟩ | ⟨-, q, -⟩
          · exact absurd q (by decide)
          · exact absurd q (by decide)
          · exact absurd q (by decide)
          · exact absurd s2 q
        · have : m' = m := (nI_eq (by omega) (by omega)).mp (s6.symm.trans m2)
          exact s7 c (by omega)
      rw [ew]
      refine s_isBetween.mpr ?_
      unfold wX4_read_122
      by_cases hb : (0 : Int32) ≤ wcI M s f t ∧ wcI M s f t ≤ 255
      · refine zt2 hb ?_
        have hw := wc_in hb
        rw [i3, bI_t hb]
        by_cases h12 : y + t < 12
        · refine br_t ((nI_ltI (b := 12) (by omega) (by omega)).mpr h12) ?_
          rw [hw.1]
          refine s_typeOne (Or.inl rfl) i3 h12 ?_
          rw [nI_1]
          refine ih (t + 1) _ (by omega) (fun t' h => ?_) ⟨fun a q1 q2 => ?_, fun j hj => ?_, ?_, fun i h => ?_, fun i h => ?_⟩
          · by_cases e : t' = t
            · subst e; exact ⟨hf, hw.1, hw.2, h12⟩
            · exact hg t' (by omega)
          · rw [ctM_n q1 q2]; exact i1 a q1 q2
          · unfold ctM
            rw [mset_sn hj, mset_n (by decide)]; exact i2 j hj
          · unfold ctM
            rw [mset_ss]; rfl
          · unfold ctM
            rw [mset_n (by decide), mset_sn (by omega)]; exact i4 i h
          · unfold ctM
            rw [mset_n (by decide)]
            by_cases e : i = t
            · subst e; rw [mset_ss]
            · rw [mset_sn (by omega)]; exact i5 i (by omega)
        · refine br_f (fun q => h12 ((nI_ltI (b := 12) (by omega) (by omega)).mp q)) ?_
          rintro _ rfl
          exact o_t1 (e4 M' t (by omega) hg hi hf hb (by omega))
      · refine zf2 hb ?_
        rw [bI_f hb]
        rintro _ rfl
        exact o_t0 (e3 M' t (by omega) hg hi hf hb)
    · refine br_f hr ?_
      rintro _ rfl
      exact e2 M' t r (by omega) hg hi hr hf
-- the reference
theorem wx_ix {M : MM} {s t : Nat} {l f B : Int32} {A : Int32} (hs : s < 4) (hf : frv 0 A B l f t) : vp_in ((((40 : Int32) * nI s) + f) + nI t) (alen 66) ∧ M 66 ((((40 : Int32) * nI s) + f) + nI t).toNatClampNeg = wcI M s f t := by
  obtain ⟨m, m1, m2, c, c1, c2⟩ := frv_0 hf
  unfold wcI
  rw [Int32.add_assoc, c2, show (40 : Int32) * nI s = nI (40 * s) from pk_mul 40 s, nI_add, clamp_nI (by omega), clamp_nI (by omega)]
  exact ⟨v66 (by omega), rfl⟩
theorem m_pre {Q : Int32 → MM → Prop} {M M1 : MM} {s y n t k : Nat} {l f : Int32} (hs : s < 4) (hn : n ≤ 12) (ht : t ≤ n) (hg : ∀ t', t' < t → gdP M s y l f t') (k64 : M1 64 = M 64) (k65 : M1 65 = M 65) (k66 : M1 66 = M 66) (ky : M1 53 327 = nI y) (hq : wX5_read_32 Q (nI s) l f (nI n) k M1 0 (nI t) (nI t)) : ∀ r t', t' + r = t → wX5_read_32 Q (nI s) l f (nI n) (r + k) M1 0 (nI t') (nI t') := by
  intro r
  induction r with
  | zero =>
    intro t' h
    have : t' = t := by omega
    subst this
    rw [Nat.zero_add]; exact hq
  | succ r ih =>
    intro t' h
    obtain ⟨g1, g2, g3, g4⟩ := hg t' (by omega)
    have e : r + 1 + k = (r + k) + 1 := by omega
    rw [e]
    refine m_f32 (r := 0) hs (by omega) hn (by rw [k64, k65]; exact g1) ?_
    unfold wX5_read_106 wX5_read_166
    refine br_nt rfl ?_
    have ix := wx_ix (M := M1) hs g1
    have ew : wcI M1 s f t' = wcI M s f t' := by unfold wcI; rw [k66]
    rw [ix.2, ew, g2]
    refine ⟨ix.1, m_in32 0 255 rfl rfl (zt1 (pl_in (L := 255) (by omega) (by omega)) ?_)⟩
    rw [ky, nI_add]
    refine br_nf (fun q => ?_) ?_
    · have := (nI_eq (b := 12) (by omega) (by omega)).mp q; omega
    · rw [nI_1]; exact ih (t' + 1) (by omega)
def rmI (M M1 M' : MM) (s y : Nat) (f : Int32) (t : Nat) : Prop := (∀ a, a ≠ 53 → M' a = M1 a) ∧ (∀ j, (j < 327 ∨ 340 ≤ j) → M' 53 j = M1 53 j) ∧ M' 53 327 = nI (y + t) ∧ (∀ i, i < y → M' 53 (328 + i) = M1 53 (328 + i)) ∧ (∀ i, i < t → M' 53 (328 + (y + i)) = nI (avN M s f i))
theorem m_types {Q : Int32 → MM → Prop} {M M1 : MM} {s y n t : Nat} {l f : Int32} (hs : s < 4) (hn : n ≤ 12) (ht : t ≤ n) (hg : ∀ t', t' < t → gdP M s y l f t') (k66 : M1 66 = M 66) (hq : ∀ M', rmI M M1 M' s y f t → Q (nI t) M') : ∀ r i M', i + r = t → rmI M M1 M' s y f i → wX5_read_181 Q (nI s) l f (nI n) (r + 1) M' (nI t) (nI i) := by
  intro r
  induction r with
  | zero =>
    intro i M' h hi
    have : i = t := by omega
    subst this
    exact br_t (nI_le (Nat.le_refl _) (by omega)) (hq M' hi)
  | succ r ih =>
    intro i M' h hi
    obtain ⟨i1, i2, i3, i4, i5⟩ := id hi
    obtain ⟨g1, g2, g3, g4⟩ := hg i (by omega)
    have ix := wx_ix (M := M') hs g1
    have ew : wcI M' s f i = wcI M s f i := by unfold wcI; rw [i1 66 (by decide), k66]
    refine br_f (fun q => ?_) ⟨ix.1, ?_⟩
    · have := (nI_leI (by omega) (by omega)).mp q; omega
    rw [ix.2, ew, g2]
    refine m_type i3 g4 g3 ?_
    rw [nI_1]
    refine ih (i + 1) _ (by omega) ⟨fun a q => ?_, fun j hj => ?_, ?_, fun j hj => ?_, fun j hj => ?_⟩
    · rw [mtM_n q]; exact i1 a q
    · rw [mtM_s (by omega) (by omega)]; exact i2 j hj
    · unfold mtM; rw [mset_ss]; rfl
    · rw [mtM_s (by omega) (by omega)]; exact i4 j hj
    · by_cases e : j = i
      · subst e; unfold mtM; rw [mset_sn (by omega), mset_ss]
      · rw [mtM_s (by omega) (by omega)]; exact i5 j (by omega)
theorem L_read {M : MM} (h : Rel M) (k l f n : Int32) : wX4_read (fun r M1 => wX5_read (PQ r) M1 k l f n) M k l f n := by
  obtain ⟨R, σ, hR, hS, hc, hm, hr, him, hsh, htx⟩ := id h
  have hY := hS.n3.2.1
  have e11 : M 1 11 = nI (sY σ) := hc.2.2.2.2.2.2.2.1
  have m11 : M 53 327 = nI (sY σ) := hm.2.2.2.2.2.2.2.1
  unfold wX4_read
  refine s_isBetween.mpr ?_
  by_cases hk : (0 : Int32) ≤ k ∧ k ≤ 3
  · refine zt2 hk (s_isBetween.mpr ?_)
    by_cases hl : (0 : Int32) ≤ l ∧ l ≤ 2
    · refine zt2 hl (s_isBetween.mpr ?_)
      by_cases hn : (0 : Int32) ≤ n ∧ n ≤ 12
      · refine zt1 hn ?_
        obtain ⟨s, hs, rfl⟩ := pl_of (L := 3) (by omega) hk
        obtain ⟨N, hN, rfl⟩ := pl_of (L := 12) (by omega) hn
        refine s_sheetNumbered (by omega) ⟨shB_at (by omega), ?_⟩
        rw [e11]
        have sh := hsh s (by omega)
        -- the reference's way to its loop
        have mst : ∀ (r : Int32) (M1 : MM), (∃ m, wX5_read_32 (PQ r) (nI s) l f (nI N) m M1 0 0 0) → wX5_read (PQ r) M1 (nI s) l f (nI N) := by
          intro r M1 g
          unfold wX5_read
          exact m_isSheet (fun _ _ => o_t1 (m_in32 0 12 rfl rfl (zt1 hn g))) (fun q => absurd ⟨hk, hl⟩ q)
        -- what both have typed
        have fin : ∀ (M' : MM) (t : Nat) (r : Int32), t ≤ N → (∀ t', t' < t → gdP M s (sY σ) l f t') → rcI M M' s (sY σ) f t → ∀ M3, rmI M (mset (mset M' 0 10 r) 52 25 r) M3 s (sY σ) f t → Rel M3 := by
          intro M' t r ht hg hi M3 hj
          obtain ⟨i1, i2, i3, i4, i5⟩ := hi
          obtain ⟨j1, j2, j3, j4, j5⟩ := hj
          have yt : sY σ + t ≤ 12 := by
            rcases Nat.eq_zero_or_pos t with q | q
            · omega
            · have := (hg (t - 1) (by omega)).2.2.2; omega
          have kk : ∀ a, a ≠ 0 → a ≠ 1 → a ≠ 7 → a ≠ 52 → a ≠ 53 → M3 a = M a := fun a q0 q1 q2 q3 q4 => by rw [j1 a q4, mset_n q3, mset_n q0, i1 a q1 q2]
          have k53 : ∀ j, (j < 327 ∨ 340 ≤ j) → M3 53 j = M 53 j := fun j q => by rw [j2 j q, mset_n (by decide), mset_n (by decide), i1 53 (by decide) (by decide)]
          have k1 : M3 1 = M' 1 := by rw [j1 1 (by decide), mset_n (by decide), mset_n (by decide)]
          have k7 : M3 7 = M' 7 := by rw [j1 7 (by decide), mset_n (by decide), mset_n (by decide)]
          have k0 : ∀ j, j ≠ 10 → M3 0 j = M 0 j := fun j q => by rw [j1 0 (by decide), mset_n (by decide), mset_sn q, i1 0 (by decide) (by decide)]
          have k52 : ∀ j, j ≠ 25 → M3 52 j = M 52 j := fun j q => by rw [j1 52 (by decide), mset_sn q, mset_n (by decide), i1 52 (by decide) (by decide)]
          refine ⟨R, uY σ (sY σ + t) (fun i => if i < sY σ then sT σ i else avN M s f (i - sY σ)), hR, hS.uY yt (fun i hi => ?_), ?_, ?_, hr.keep (kk 55 (by decide) (by decide) (by decide) (by decide) (by decide)), him.keep (k0 11 (by decide)) (fun a q1 q2 => kk a (by omega) (by omega) (by omega) (by omega) (by omega)) (fun j q => k53 j (by omega)) (kk 54 (by decide) (by decide) (by decide) (by decide) (by decide)), hsh.keep (fun a q1 q2 => kk a (by omega) (by omega) (by omega) (by omega) (by omega)) (fun a q1 q2 => kk a (by omega) (by omega) (by omega) (by omega) (by omega)), ?_⟩
          · by_cases q : i < sY σ
            · rw [if_pos q]; exact hS.2.2.2.2.2.2.2.2.1 i q
            · rw [if_neg q]; exact (hg _ (by omega)).2.2.1
          · refine hc.typed _ _ (fun r q1 q2 q3 => kk _ (by omega) (by omega) (by omega) (by omega) (by omega)) (fun j q => by rw [k1]; exact i2 j q) (by rw [k1]; exact i3) (fun i hi => ?_)
            rw [k7]
            by_cases q : i < sY σ
            · rw [if_pos q, i4 i q]; exact hc.2.2.2.2.2.2.2.2.1 i q
            · rw [if_neg q]
              have := i5 (i - sY σ) (by omega)
              rwa [show sY σ + (i - sY σ) = i by omega] at this
          · refine hm.typed hS.n3 hS.z12 _ _ k53 j3 (fun i hi => ?_)
            by_cases q : i < sY σ
            · rw [if_pos q, j4 i q, mset_n (by decide), mset_n (by decide), i1 53 (by decide) (by decide)]
              have := hm.2.2.2.2.2.2.2.2.1 i q
              rwa [Nat.zero_add] at this
            · rw [if_neg q]
              have := j5 (i - sY σ) (by omega)
              rwa [show sY σ + (i - sY σ) = i by omega] at this
          · obtain ⟨t1, t2, t3⟩ := htx
            refine ⟨?_, ?_, ?_⟩
            · rw [kk 37 (by decide) (by decide) (by decide) (by decide) (by decide), kk 38 (by decide) (by decide) (by decide) (by decide) (by decide), kk 59 (by decide) (by decide) (by decide) (by decide) (by decide), k52 9 (by decide)]; exact t1
            · exact True.intro
            · rw [j1 0 (by decide), mset_n (by decide), mset_ss, j1 52 (by decide), mset_ss]
        -- the reference's end: so many are typed
        have end1 : ∀ (M' : MM) (t : Nat) (r : Int32), t ≤ N → (∀ t', t' < t → gdP M s (sY σ) l f t') → rcI M M' s (sY σ) f t → wX5_read_172 (PQ (nI t)) (nI s) l f (nI N) (mset M' 0 10 r) r (nI t) := by
          intro M' t r ht hg hi
          unfold wX5_read_172
          rintro _ rfl
          have e53 : mset (mset M' 0 10 r) 52 25 r 53 = M 53 := by rw [mset_n (by decide), mset_n (by decide)]; exact hi.1 53 (by decide) (by decide)
          have e66 : mset (mset M' 0 10 r) 52 25 r 66 = M 66 := by rw [mset_n (by decide), mset_n (by decide)]; exact hi.1 66 (by decide) (by decide)
          refine ⟨t + 1, m_types (M := M) (M1 := mset (mset M' 0 10 r) 52 25 r) (y := sY σ) (by omega) hN ht hg e66 (fun M3 hj => ⟨rfl, fin M' t r ht hg hi M3 hj⟩) t 0 _ (by omega) ⟨fun _ _ => rfl, fun _ _ => rfl, ?_, fun _ _ => rfl, fun _ q => by omega⟩⟩
          rw [e53]; exact m11
        have rst : ∀ (M' : MM) (t : Nat), rcI M M' s (sY σ) f t → Rel (mset M' 1 11 (nI (sY σ))) := by
          intro M' t hi
          obtain ⟨i1, i2, i3, i4, i5⟩ := hi
          have hcf : clT (mset M' 1 11 (nI (sY σ))) 1 R (uY σ (sY σ) (sT σ)) := by
            refine hc.typed _ _ (fun r q1 q2 q3 => by rw [mset_n (by omega), i1 _ (by omega) (by omega)]) (fun j q => by rw [mset_sn q]; exact i2 j q) (by rw [mset_ss]) (fun i hi => ?_)
            rw [mset_n (by decide)]
            exact (i4 i hi).trans (hc.2.2.2.2.2.2.2.2.1 i hi)
          refine Rel.step (σ' := σ) hR hS hcf (hm.keep (by rw [mset_n (by decide)]; exact i1 53 (by decide) (by decide))) hr him hsh htx (fun a ha => ?_) (fun j _ => by rw [mset_n (by decide), i1 53 (by decide) (by decide)]) ?_
          · unfold keepP at ha
            rw [mset_n (by omega), i1 a (by omega) (by omega)]
          · rw [mset_n (by decide), i1 52 (by decide) (by decide)]; exact ⟨rfl, rfl, rfl⟩
        -- ways through the reference's loop
        have pre : ∀ (r0 : Int32) (M1 : MM) (t k : Nat), t ≤ N → (∀ t', t' < t → gdP M s (sY σ) l f t') → M1 64 = M 64 → M1 65 = M 65 → M1 66 = M 66 → M1 53 = M 53 → wX5_read_32 (PQ r0) (nI s) l f (nI N) k M1 0 (nI t) (nI t) → wX5_read (PQ r0) M1 (nI s) l f (nI N) := by
          intro r0 M1 t k ht hg k64 k65 k66 k53 g
          exact mst r0 M1 ⟨_, m_pre (M := M) (y := sY σ) (by omega) hN ht hg k64 k65 k66 (by rw [k53]; exact m11) g t 0 (by omega)⟩
        refine ⟨N + 1, s_reads (M := M) (y := sY σ) (by omega) hN hY sh (fun M' hg hi => ?_) (fun M' t r ht hg hi hr0 hf => ?_) (fun M' t ht hg hi hf hb => ?_) (fun M' t ht hg hi hf hb h12 => ?_) N 0 M (by omega) (fun _ q => by omega) ⟨fun _ _ _ => rfl, fun _ _ => rfl, e11, fun _ _ => rfl, fun _ q => by omega⟩⟩
        · have kk : ∀ a, a ≠ 0 → a ≠ 1 → a ≠ 7 → mset M' 0 10 0 a = M a := fun a q0 q1 q2 => by rw [mset_n q0]; exact hi.1 a q1 q2
          refine pre _ _ N 1 (Nat.le_refl _) hg (kk _ (by decide) (by decide) (by decide)) (kk _ (by decide) (by decide) (by decide)) (kk _ (by decide) (by decide) (by decide)) (kk _ (by decide) (by decide) (by decide)) ?_
          exact br_t (nI_le (Nat.le_refl _) (by omega)) (end1 M' N 0 (Nat.le_refl _) hg hi)
        · have kk : ∀ a, a ≠ 0 → a ≠ 1 → a ≠ 7 → mset M' 0 10 r a = M a := fun a q0 q1 q2 => by rw [mset_n q0]; exact hi.1 a q1 q2
          have k64 := kk 64 (by decide) (by decide) (by decide)
          have k65 := kk 65 (by decide) (by decide) (by decide)
          refine pre _ _ t 2 (by omega) hg k64 k65 (kk _ (by decide) (by decide) (by decide)) (kk _ (by decide) (by decide) (by decide)) ?_
          refine m_f32 (r := r) (by omega) ht hN (by rw [k64, k65]; exact hf) ?_
          unfold wX5_read_106 wX5_read_166
          refine br_nf hr0 ?_
          have g := end1 M' t r (by omega) hg hi
          rw [nI_1]
          exact ⟨fun _ => g, fun _ => br_nf hr0 g⟩
        · have kk : ∀ a, a ≠ 1 → a ≠ 7 → mset M' 1 11 (nI (sY σ)) a = M a := fun a q1 q2 => by rw [mset_n q1]; exact hi.1 a q1 q2
          have k64 := kk 64 (by decide) (by decide)
          have k65 := kk 65 (by decide) (by decide)
          have k66 := kk 66 (by decide) (by decide)
          refine pre _ _ t 1 (by omega) hg k64 k65 k66 (kk _ (by decide) (by decide)) ?_
          refine m_f32 (r := 0) (by omega) ht hN (by rw [k64, k65]; exact hf) ?_
          unfold wX5_read_106
          have ix := wx_ix (s := s) (M := mset M' 1 11 (nI (sY σ))) (by omega) hf
          have ew : wcI (mset M' 1 11 (nI (sY σ))) s f t = wcI M s f t := by unfold wcI; rw [k66]
          rw [ix.2, ew]
          exact br_nt rfl ⟨ix.1, m_in32 0 255 rfl rfl (zf1 hb ⟨rfl, rst M' t hi⟩)⟩
        · have kk : ∀ a, a ≠ 1 → a ≠ 7 → mset M' 1 11 (nI (sY σ)) a = M a := fun a q1 q2 => by rw [mset_n q1]; exact hi.1 a q1 q2
          have k64 := kk 64 (by decide) (by decide)
          have k65 := kk 65 (by decide) (by decide)
          have k66 := kk 66 (by decide) (by decide)
          have k53 := kk 53 (by decide) (by decide)
          refine pre _ _ t 1 (by omega) hg k64 k65 k66 k53 ?_
          refine m_f32 (r := 0) (by omega) ht hN (by rw [k64, k65]; exact hf) ?_
          unfold wX5_read_106
          have ix := wx_ix (s := s) (M := mset M' 1 11 (nI (sY σ))) (by omega) hf
          have ew : wcI (mset M' 1 11 (nI (sY σ))) s f t = wcI M s f t := by unfold wcI; rw [k66]
          rw [ix.2, ew]
          refine br_nt rfl ⟨ix.1, m_in32 0 255 rfl rfl (zt1 hb ?_)⟩
          rw [k53, m11, nI_add]
          exact br_nt (by rw [h12]; rfl) ⟨rfl, rst M' t hi⟩
      · refine zf1 hn ?_
        unfold wX5_read
        exact m_isSheet (fun _ _ => o_t1 (m_in32 0 12 rfl rfl (zf1 hn ⟨rfl, h⟩))) (fun q => absurd ⟨hk, hl⟩ q)
    · refine zf2 hl ?_
      unfold wX5_read
      exact m_isSheet (fun _ q => absurd q hl) (fun _ => o_t0 ⟨rfl, h⟩)
  · refine zf2 hk ?_
    unfold wX5_read
    exact m_isSheet (fun q => absurd q hk) (fun _ => o_t0 ⟨rfl, h⟩)
-- ===== cut: rows as they lie =====
theorem s_longRaw {Q : Int32 → MM → Prop} {M : MM} {b n : Nat} {R : Nat → Nat} (hb : tpB b) (h7 : 1 ≤ R 7 ∧ R 7 ≤ 9) (e7 : M (b + 1) 7 = nI (R 7)) (hn : n ≤ 99) (hq : Q (nI (lgN R n)) M) : wX2_longWith Q M b (nI n) := by
  unfold wX2_longWith
  by_cases h : n = 0
  · subst h
    exact br_nt rfl hq
  · refine br_nf (fun q => h ((nI_eq (b := 0) (by omega) (by omega)).mp q)) (s_ruled hb 7 (by omega) rfl ?_)
    rw [e7, nI_1]
    unfold wX4_dividedUp
    refine br_t (show nI 1 ≤ nI (R 7) from nI_le h7.1 (by omega)) ⟨fun q => ?_, ?_⟩
    · have := (nI_eq (b := 0) (by omega) (by omega)).mp q; omega
    · rw [nI_add, nI_sub1 (by omega), pk_div (by omega) (by omega) (by omega)]
      have e : lgN R n = (n + 1 + R 7 - 1) / R 7 := by unfold lgN; rw [if_neg h]; congr 1; omega
      rw [← e]; exact hq
theorem s_beginRaw {Q : Int32 → MM → Prop} {M : MM} {b j : Nat} (hb : tpB b) (hj : j < 12) (hq : Q (M (b + 2) j) M) : wX2_beginOf Q M b (nI j) := by
  unfold wX2_beginOf
  exact s_cell (by rw [(alen_tp hb).2.1]; omega) (by rw [(alen_tp hb).2.1]; decide) hq
theorem s_sizeRaw {Q : Int32 → MM → Prop} {M : MM} {b j : Nat} (hb : tpB b) (hj : j < 12) (hq : Q (M (b + 3) j) M) : wX2_sizeOf Q M b (nI j) := by
  unfold wX2_sizeOf
  exact s_cell (by rw [(alen_tp hb).2.2.1]; omega) (by rw [(alen_tp hb).2.2.1]; decide) hq
theorem s_endRaw {Q : Int32 → MM → Prop} {M : MM} {b j N B Z : Nat} {R : Nat → Nat} (hb : tpB b) (h7 : 1 ≤ R 7 ∧ R 7 ≤ 9) (e7 : M (b + 1) 7 = nI (R 7)) (hN : N ≤ 12) (hj : j < N) (e8 : M b 8 = nI N) (eB : M (b + 2) j = nI B) (eZ : M (b + 3) j = nI Z) (hZ : Z ≤ 99) (hq : Q (nI (B + lgN R Z)) M) : wX2_endOf Q M b (nI j) := by
  unfold wX2_endOf
  refine s_hasBlock e8 (zt2 (blk_in hN hj) (s_beginRaw hb (by omega) ?_))
  rw [eB]
  refine s_sizeRaw hb (by omega) ?_
  rw [eZ]
  refine s_longRaw hb h7 e7 hZ ?_
  rw [nI_add]; exact hq
theorem s_colRaw {Q : Int32 → MM → Prop} {M : MM} {b j i : Nat} (hb : tpB b) (hj : j < 12) (hi : i < 13) (hq : Q (M (b + 4) (13 * j + i)) M) : wX2_columnOf Q M b (nI j) (nI i) := by
  unfold wX2_columnOf
  rw [show (13 : Int32) = nI 13 from rfl, pk_mul, nI_add, Nat.mul_comm]
  exact s_cell (by rw [(alen_tp hb).2.2.2.1]; omega) (by rw [(alen_tp hb).2.2.2.1]; decide) hq
theorem s_orgRaw {Q : Int32 → MM → Prop} {M : MM} {b j i : Nat} (hb : tpB b) (hj : j < 12) (hi : i < 12) (hq : Q (M (b + 5) (12 * j + i)) M) : wX2_originalOf Q M b (nI j) (nI i) := by
  unfold wX2_originalOf
  rw [show (12 : Int32) = nI 12 from rfl, pk_mul, nI_add, Nat.mul_comm]
  exact s_cell (by rw [(alen_tp hb).2.2.2.2.1]; omega) (by rw [(alen_tp hb).2.2.2.2.1]; decide) hq
/-- what a block moved leaves -/
def mvP (M M' : MM) (f t : Nat) (v : Int32) : Prop := (∀ a, a ≠ 3 → a ≠ 4 → a ≠ 5 → a ≠ 6 → M' a = M a) ∧ (∀ j, j ≠ t → M' 3 j = M 3 j) ∧ M' 3 t = M 3 f - v ∧ (∀ j, j ≠ t → M' 4 j = M 4 j) ∧ M' 4 t = M 4 f ∧ (∀ c, (c < 13 * t ∨ 13 * t + 13 ≤ c) → M' 5 c = M 5 c) ∧ (∀ i, i < 13 → M' 5 (13 * t + i) = M 5 (13 * f + i)) ∧ (∀ c, (c < 12 * t ∨ 12 * t + 12 ≤ c) → M' 6 c = M 6 c) ∧ (∀ i, i < 12 → M' 6 (12 * t + i) = M 6 (12 * f + i))
theorem s_moveBlock {Q : MM → Prop} {M : MM} {f t : Nat} {v : Int32} (ht : t ≤ f) (hf : f < 12) (hq : ∀ M', mvP M M' f t v → Q M') : wX2_moveBlock Q M 1 (nI f) (nI t) v := by
  have hb : tpB 1 := Or.inl rfl
  unfold wX2_moveBlock
  refine s_beginRaw hb hf (s_setCell (by show t < 12; omega) (by decide +kernel) (s_sizeRaw hb hf (s_setCell (by show t < 12; omega) (by decide +kernel) ?_)))
  rw [mset_n (show 1 + 3 ≠ 1 + 2 by decide)]
  have l2 : ∀ (M2 : MM), (∀ a, a ≠ 6 → M2 a = M2 a) → (∀ a, a ≠ 3 → a ≠ 4 → a ≠ 5 → M2 a = M a) → (∀ j, j ≠ t → M2 3 j = M 3 j) → M2 3 t = M 3 f - v → (∀ j, j ≠ t → M2 4 j = M 4 j) → M2 4 t = M 4 f → (∀ c, (c < 13 * t ∨ 13 * t + 13 ≤ c) → M2 5 c = M 5 c) → (∀ i, i < 13 → M2 5 (13 * t + i) = M 5 (13 * f + i)) → ∀ r i (M' : MM), i + r = 12 → (∀ a, a ≠ 6 → M' a = M2 a) → (∀ c, (c < 12 * t ∨ 12 * t + i ≤ c) → M' 6 c = M 6 c) → (∀ i', i' < i → M' 6 (12 * t + i') = M 6 (12 * f + i')) → wX2_moveBlock_61 Q 1 (nI f) (nI t) v (r + 1) M' (nI i) := by
    intro M2 _ p1 p2 p3 p4 p5 p6 p7 r
    induction r with
    | zero =>
      intro i M' hi k1 k2 k3
      have : i = 12 := by omega
      subst this
      refine br_t (by decide +kernel) (hq M' ⟨fun a a1 a2 a3 a4 => by rw [k1 a a4]; exact p1 a a1 a2 a3, fun j hj => by rw [k1 3 (by decide)]; exact p2 j hj, by rw [k1 3 (by decide)]; exact p3, fun j hj => by rw [k1 4 (by decide)]; exact p4 j hj, by rw [k1 4 (by decide)]; exact p5, fun c hc => by rw [k1 5 (by decide)]; exact p6 c hc, fun i hi => by rw [k1 5 (by decide)]; exact p7 i hi, k2, k3⟩)
    | succ r ih =>
      intro i M' hi k1 k2 k3
      refine br_f (fun q => ?_) (s_orgRaw hb hf (by omega) ?_)
      · have := (nI_leI (a := 12) (by omega) (by omega)).mp q; omega
      rw [show nI t * (12 : Int32) + nI i = nI (12 * t + i) by rw [show (12 : Int32) = nI 12 from rfl, pk_mul, nI_add, Nat.mul_comm]]
      refine s_setCell (by show 12 * t + i < 144; omega) (by decide +kernel) ?_
      rw [nI_1, k2 (12 * f + i) (by omega)]
      refine ih (i + 1) _ (by omega) (fun a h => by rw [mset_n h]; exact k1 a h) (fun c hc => by rw [mset_sn (by omega)]; exact k2 c (by omega)) (fun i' hi' => ?_)
      by_cases e : i' = i
      · subst e; rw [mset_ss]
      · rw [mset_sn (by omega)]; exact k3 i' (by omega)
  have l1 : ∀ r i (M' : MM), i + r = 13 → (∀ a, a ≠ 3 → a ≠ 4 → a ≠ 5 → M' a = M a) → (∀ j, j ≠ t → M' 3 j = M 3 j) → M' 3 t = M 3 f - v → (∀ j, j ≠ t → M' 4 j = M 4 j) → M' 4 t = M 4 f → (∀ c, (c < 13 * t ∨ 13 * t + i ≤ c) → M' 5 c = M 5 c) → (∀ i', i' < i → M' 5 (13 * t + i') = M 5 (13 * f + i')) → wX2_moveBlock_31 Q 1 (nI f) (nI t) v (r + 1) M' (nI i) := by
    intro r
    induction r with
    | zero =>
      intro i M' hi k1 k2 k3 k4 k5 k6 k7
      have : i = 13 := by omega
      subst this
      exact br_t (by decide +kernel) ⟨_, l2 M' (fun _ _ => rfl) k1 k2 k3 k4 k5 k6 k7 12 0 M' (by omega) (fun _ _ => rfl) (fun c _ => by rw [k1 6 (by decide) (by decide) (by decide)]) (fun _ q => by omega)⟩
    | succ r ih =>
      intro i M' hi k1 k2 k3 k4 k5 k6 k7
      refine br_f (fun q => ?_) (s_colRaw hb hf (by omega) ?_)
      · have := (nI_leI (a := 13) (by omega) (by omega)).mp q; omega
      unfold wX2_setColumn
      rw [show nI t * (13 : Int32) + nI i = nI (13 * t + i) by rw [show (13 : Int32) = nI 13 from rfl, pk_mul, nI_add, Nat.mul_comm]]
      refine s_setCell (by show 13 * t + i < 156; omega) (by decide +kernel) ?_
      rw [nI_1, k6 (13 * f + i) (by omega)]
      refine ih (i + 1) _ (by omega) (fun a a1 a2 a3 => by rw [mset_n a3]; exact k1 a a1 a2 a3) (fun j hj => by rw [mset_n (by decide)]; exact k2 j hj) (by rw [mset_n (by decide)]; exact k3) (fun j hj => by rw [mset_n (by decide)]; exact k4 j hj) (by rw [mset_n (by decide)]; exact k5) (fun c hc => by rw [mset_sn (by omega)]; exact k6 c (by omega)) (fun i' hi' => ?_)
      by_cases e : i' = i
      · subst e; rw [mset_ss]
      · rw [mset_sn (by omega)]; exact k7 i' (by omega)
  refine ⟨_, l1 13 0 _ (by omega) (fun a a1 a2 a3 => by rw [mset_n a2, mset_n a1]) (fun j hj => by rw [mset_n (by decide), mset_sn hj]) (by rw [mset_n (by decide), mset_ss]) (fun j hj => by rw [mset_sn hj, mset_n (by decide)]) (by rw [mset_ss]) (fun c _ => by rw [mset_n (by decide), mset_n (by decide)]) (fun _ q => by omega)⟩
-- the reference
def mmP (M M' : MM) (f t : Nat) (v : Int32) : Prop := (∀ a, a ≠ 53 → M' a = M a) ∧ M' 53 (1 + t) = M 53 (1 + f) - v ∧ M' 53 (13 + t) = M 53 (13 + f) ∧ (∀ i, i < 13 → M' 53 (25 + 13 * t + i) = M 53 (25 + 13 * f + i)) ∧ (∀ i, i < 12 → M' 53 (181 + 12 * t + i) = M 53 (181 + 12 * f + i)) ∧ (∀ j, j ≠ 1 + t → j ≠ 13 + t → (j < 25 + 13 * t ∨ 25 + 13 * t + 13 ≤ j) → (j < 181 + 12 * t ∨ 181 + 12 * t + 12 ≤ j) → M' 53 j = M 53 j)
theorem m_moves {Q : MM → Prop} {M : MM} {f t : Nat} {v : Int32} (ht : t ≤ f) (hf : f < 12) (hq : ∀ M', mmP M M' f t v → Q M') : wX5_moves Q M (nI t) (nI f) v := by
  have e25 : ∀ k j, ((25 : Int32) + ((13 : Int32) * nI k)) + nI j = nI (25 + 13 * k + j) := by
    intro k j
    rw [show (13 : Int32) = nI 13 from rfl, show (25 : Int32) = nI 25 from rfl, pk_mul, nI_add, nI_add]
  have e181 : ∀ k j, ((181 : Int32) + ((12 : Int32) * nI k)) + nI j = nI (181 + 12 * k + j) := by
    intro k j
    rw [show (12 : Int32) = nI 12 from rfl, show (181 : Int32) = nI 181 from rfl, pk_mul, nI_add, nI_add]
  unfold wX5_moves
  rw [n1, nI_add, nI_add, e13, e13, clamp_nI (n := 1 + f) (by omega), clamp_nI (n := 1 + t) (by omega), clamp_nI (n := 13 + f) (by omega), clamp_nI (n := 13 + t) (by omega)]
  refine ⟨v53 (by omega), v53 (by omega), ?_⟩
  rintro _ rfl
  refine ⟨v53 (by omega), v53 (by omega), ?_⟩
  rintro _ rfl
  rw [mset_sn (show 13 + f ≠ 1 + t by omega)]
  have l2 : ∀ r i (M' : MM), i + r = 12 → (∀ a, a ≠ 53 → M' a = M a) → M' 53 (1 + t) = M 53 (1 + f) - v → M' 53 (13 + t) = M 53 (13 + f) → (∀ i, i < 13 → M' 53 (25 + 13 * t + i) = M 53 (25 + 13 * f + i)) → (∀ i', i' < i → M' 53 (181 + 12 * t + i') = M 53 (181 + 12 * f + i')) → (∀ j, j ≠ 1 + t → j ≠ 13 + t → (j < 25 + 13 * t ∨ 25 + 13 * t + 13 ≤ j) → (j < 181 + 12 * t ∨ 181 + 12 * t + i ≤ j) → M' 53 j = M 53 j) → wX5_moves_85 Q (nI t) (nI f) v (r + 1) M' (nI i) := by
    intro r
    induction r with
    | zero =>
      intro i M' hi k1 k2 k3 k4 k5 k6
      have : i = 12 := by omega
      subst this
      exact br_t (by decide +kernel) (hq M' ⟨k1, k2, k3, k4, k5, k6⟩)
    | succ r ih =>
      intro i M' hi k1 k2 k3 k4 k5 k6
      unfold wX5_moves_85
      rw [e181, e181, clamp_nI (n := 181 + 12 * t + i) (by omega), clamp_nI (n := 181 + 12 * f + i) (by omega)]
      refine br_f (fun q => ?_) ⟨v53 (by omega), v53 (by omega), ?_⟩
      · have := (nI_leI (a := 12) (by omega) (by omega)).mp q; omega
      rintro _ rfl
      rw [nI_1, k6 (181 + 12 * f + i) (by omega) (by omega) (by omega) (by omega)]
      refine ih (i + 1) _ (by omega) (fun a h => by rw [mset_n h]; exact k1 a h) (by rw [mset_sn (by omega)]; exact k2) (by rw [mset_sn (by omega)]; exact k3) (fun i' hi' => by rw [mset_sn (by omega)]; exact k4 i' hi') (fun i' hi' => ?_) (fun j h1 h2 h3 h4 => by rw [mset_sn (by omega)]; exact k6 j h1 h2 h3 (by omega))
      by_cases e : i' = i
      · subst e; rw [mset_ss]
      · rw [mset_sn (by omega)]; exact k5 i' (by omega)
  have l1 : ∀ r i (M' : MM), i + r = 13 → (∀ a, a ≠ 53 → M' a = M a) → M' 53 (1 + t) = M 53 (1 + f) - v → M' 53 (13 + t) = M 53 (13 + f) → (∀ i', i' < i → M' 53 (25 + 13 * t + i') = M 53 (25 + 13 * f + i')) → (∀ j, j ≠ 1 + t → j ≠ 13 + t → (j < 25 + 13 * t ∨ 25 + 13 * t + i ≤ j) → M' 53 j = M 53 j) → wX5_moves_39 Q (nI t) (nI f) v (r + 1) M' (nI i) := by
    intro r
    induction r with
    | zero =>
      intro i M' hi k1 k2 k3 k4 k5
      have : i = 13 := by omega
      subst this
      exact br_t (by decide +kernel) ⟨_, l2 12 0 M' (by omega) k1 k2 k3 k4 (fun _ q => by omega) (fun j h1 h2 h3 _ => k5 j h1 h2 h3)⟩
    | succ r ih =>
      intro i M' hi k1 k2 k3 k4 k5
      unfold wX5_moves_39
      rw [e25, e25, clamp_nI (n := 25 + 13 * t + i) (by omega), clamp_nI (n := 25 + 13 * f + i) (by omega)]
      refine br_f (fun q => ?_) ⟨v53 (by omega), v53 (by omega), ?_⟩
      · have := (nI_leI (a := 13) (by omega) (by omega)).mp q; omega
      rintro _ rfl
      rw [nI_1, k5 (25 + 13 * f + i) (by omega) (by omega) (by omega)]
      refine ih (i + 1) _ (by omega) (fun a h => by rw [mset_n h]; exact k1 a h) (by rw [mset_sn (by omega)]; exact k2) (by rw [mset_sn (by omega)]; exact k3) (fun i' hi' => ?_) (fun j h1 h2 h3 => by rw [mset_sn (by omega)]; exact k5 j h1 h2 (by omega))
      by_cases e : i' = i
      · subst e; rw [mset_ss]
      · rw [mset_sn (by omega)]; exact k4 i' (by omega)
  refine ⟨_, l1 13 0 _ (by omega) (fun a h => by rw [mset_n h, mset_n h]) (by rw [mset_sn (by omega), mset_ss]) (by rw [mset_ss]) (fun _ q => by omega) (fun j h1 h2 _ => by rw [mset_sn h2, mset_sn h1])⟩
-- ===== cut: which blocks stay, and where =====
def kpP (R : Nat → Nat) (σ : SS) (x y b : Nat) : Nat := if y ≤ sB σ b ∨ sB σ b + lgN R (sZ σ b) ≤ x then 1 else 0
def kcN (R : Nat → Nat) (σ : SS) (x y : Nat) : Nat → Nat := suN (kpP R σ x y)
def srN (R : Nat → Nat) (σ : SS) (x y : Nat) : Nat → Nat → Nat
  | 0 => fun _ => 0
  | b + 1 => fun k => if kpP R σ x y b = 1 ∧ k = kcN R σ x y b then b else srN R σ x y b k
def nbN (σ : SS) (x y j : Nat) : Nat := if y ≤ sB σ j then sB σ j - (y - x) else sB σ j
theorem kp_le (R : Nat → Nat) (σ : SS) (x y b : Nat) : kpP R σ x y b ≤ 1 := ite_le (by omega) (by omega)
theorem kc_le (R : Nat → Nat) (σ : SS) (x y b : Nat) : kcN R σ x y b ≤ b := su_le (kp_le R σ x y) b
theorem sr_ok (R : Nat → Nat) (σ : SS) (x y : Nat) : ∀ b, (∀ k, k < kcN R σ x y b → srN R σ x y b k < b ∧ kpP R σ x y (srN R σ x y b k) = 1) ∧ (∀ i j, i < j → j < kcN R σ x y b → srN R σ x y b i < srN R σ x y b j) := by
  intro b
  induction b with
  | zero => exact ⟨fun k hk => absurd hk (Nat.not_lt_zero _), fun i j _ hj => absurd hj (Nat.not_lt_zero _)⟩
  | succ b ih =>
    have hs : kcN R σ x y (b + 1) = kcN R σ x y b + kpP R σ x y b := rfl
    have hle := kp_le R σ x y b
    have un : ∀ k, srN R σ x y (b + 1) k = if kpP R σ x y b = 1 ∧ k = kcN R σ x y b then b else srN R σ x y b k := fun k => rfl
    constructor
    · intro k hk
      rw [un]
      by_cases e : kpP R σ x y b = 1 ∧ k = kcN R σ x y b
      · rw [if_pos e]; exact ⟨by omega, e.1⟩
      · rw [if_neg e]
        have := ih.1 k (by omega)
        exact ⟨by omega, this.2⟩
    · intro i j hi hj
      rw [un, un]
      rw [if_neg (show ¬ (kpP R σ x y b = 1 ∧ i = kcN R σ x y b) by omega)]
      by_cases e : kpP R σ x y b = 1 ∧ j = kcN R σ x y b
      · rw [if_pos e]; exact (ih.1 i (by omega)).1
      · rw [if_neg e]; exact ih.2 i j hi (by omega)
/-- the class's rows when b blocks are gone through -/
def cuI (R : Nat → Nat) (σ : SS) (x y : Nat) (M M' : MM) (b : Nat) : Prop :=
  (∀ a, a ≠ 3 → a ≠ 4 → a ≠ 5 → a ≠ 6 → M' a = M a) ∧
  (∀ k, k < kcN R σ x y b → M' 3 k = nI (nbN σ x y (srN R σ x y b k)) ∧ M' 4 k = nI (sZ σ (srN R σ x y b k)) ∧ (∀ i, i ≤ sZ σ (srN R σ x y b k) → M' 5 (13 * k + i) = nI (sC σ (srN R σ x y b k * 13 + i))) ∧ (∀ i, i < sZ σ (srN R σ x y b k) → M' 6 (12 * k + i) = nI (sO σ (srN R σ x y b k * 12 + i)))) ∧
  (∀ j, b ≤ j → j < sN σ → M' 3 j = nI (sB σ j) ∧ M' 4 j = nI (sZ σ j) ∧ (∀ i, i ≤ sZ σ j → M' 5 (13 * j + i) = nI (sC σ (j * 13 + i))) ∧ (∀ i, i < sZ σ j → M' 6 (12 * j + i) = nI (sO σ (j * 12 + i))))
def cmI (R : Nat → Nat) (σ : SS) (x y : Nat) (M M' : MM) (b : Nat) : Prop :=
  (∀ a, a ≠ 53 → M' a = M a) ∧ (∀ j, (j = 0 ∨ 325 ≤ j) → M' 53 j = M 53 j) ∧
  (∀ k, k < kcN R σ x y b → M' 53 (1 + k) = nI (nbN σ x y (srN R σ x y b k)) ∧ M' 53 (13 + k) = nI (sZ σ (srN R σ x y b k)) ∧ (∀ i, i ≤ sZ σ (srN R σ x y b k) → M' 53 (25 + 13 * k + i) = nI (sC σ (srN R σ x y b k * 13 + i))) ∧ (∀ i, i < sZ σ (srN R σ x y b k) → M' 53 (181 + 12 * k + i) = nI (sO σ (srN R σ x y b k * 12 + i)))) ∧
  (∀ j, b ≤ j → j < sN σ → M' 53 (1 + j) = nI (sB σ j) ∧ M' 53 (13 + j) = nI (sZ σ j) ∧ (∀ i, i ≤ sZ σ j → M' 53 (25 + 13 * j + i) = nI (sC σ (j * 13 + i))) ∧ (∀ i, i < sZ σ j → M' 53 (181 + 12 * j + i) = nI (sO σ (j * 12 + i))))
theorem sr_old {R : Nat → Nat} {σ : SS} {x y b k : Nat} (h : ¬ (kpP R σ x y b = 1 ∧ k = kcN R σ x y b)) : srN R σ x y (b + 1) k = srN R σ x y b k := if_neg h
theorem sr_new {R : Nat → Nat} {σ : SS} {x y b k : Nat} (h : kpP R σ x y b = 1 ∧ k = kcN R σ x y b) : srN R σ x y (b + 1) k = b := if_pos h
theorem kc_s (R : Nat → Nat) (σ : SS) (x y b : Nat) : kcN R σ x y (b + 1) = kcN R σ x y b + kpP R σ x y b := rfl
theorem cuI.skip {R : Nat → Nat} {σ : SS} {x y : Nat} {M M' : MM} {b : Nat} (h : cuI R σ x y M M' b) (hk : kpP R σ x y b = 0) : cuI R σ x y M M' (b + 1) := by
  obtain ⟨h1, h2, h3⟩ := h
  refine ⟨h1, fun k q => ?_, fun j j1 j2 => h3 j (by omega) j2⟩
  rw [kc_s, hk] at q
  rw [sr_old (by omega)]
  exact h2 k q
theorem cmI.skip {R : Nat → Nat} {σ : SS} {x y : Nat} {M M' : MM} {b : Nat} (h : cmI R σ x y M M' b) (hk : kpP R σ x y b = 0) : cmI R σ x y M M' (b + 1) := by
  obtain ⟨h1, h0, h2, h3⟩ := h
  refine ⟨h1, h0, fun k q => ?_, fun j j1 j2 => h3 j (by omega) j2⟩
  rw [kc_s, hk] at q
  rw [sr_old (by omega)]
  exact h2 k q
theorem cuI.take {R : Nat → Nat} {σ : SS} {x y : Nat} {M M' M2 : MM} {b : Nat} {v : Int32} (hS : okS R σ) (h : cuI R σ x y M M' b) (hb : b < sN σ) (hk : kpP R σ x y b = 1) (hv : nI (sB σ b) - v = nI (nbN σ x y b)) (hm : mvP M' M2 b (kcN R σ x y b) v) : cuI R σ x y M M2 (b + 1) := by
  obtain ⟨h1, h2, h3⟩ := h
  obtain ⟨m1, m2, m3, m4, m5, m6, m7, m8, m9⟩ := hm
  have hle := kc_le R σ x y b
  refine ⟨fun a a1 a2 a3 a4 => by rw [m1 a a1 a2 a3 a4]; exact h1 a a1 a2 a3 a4, fun k q => ?_, fun j j1 j2 => ?_⟩
  · rw [kc_s, hk] at q
    by_cases e : k = kcN R σ x y b
    · rw [sr_new ⟨hk, e⟩]
      subst e
      obtain ⟨g1, g2, g3, g4⟩ := h3 b (Nat.le_refl _) hb
      have hz := hS.z12 b hb
      refine ⟨by rw [m3, g1, hv], by rw [m5]; exact g2, fun i hi => ?_, fun i hi => ?_⟩
      · rw [m7 i (by omega)]; exact g3 i hi
      · rw [m9 i (by omega)]; exact g4 i hi
    · rw [sr_old (fun q => e q.2)]
      obtain ⟨g1, g2, g3, g4⟩ := h2 k (by omega)
      have hsr := (sr_ok R σ x y b).1 k (by omega)
      have hz := hS.z12 _ (show srN R σ x y b k < sN σ by omega)
      refine ⟨by rw [m2 k e]; exact g1, by rw [m4 k e]; exact g2, fun i hi => ?_, fun i hi => ?_⟩
      · rw [m6 _ (by omega)]; exact g3 i hi
      · rw [m8 _ (by omega)]; exact g4 i hi
  · obtain ⟨g1, g2, g3, g4⟩ := h3 j (by omega) j2
    refine ⟨by rw [m2 j (by omega)]; exact g1, by rw [m4 j (by omega)]; exact g2, fun i hi => ?_, fun i hi => ?_⟩
    · rw [m6 _ (by omega)]; exact g3 i hi
    · rw [m8 _ (by omega)]; exact g4 i hi
theorem cmI.take {R : Nat → Nat} {σ : SS} {x y : Nat} {M M' M2 : MM} {b : Nat} {v : Int32} (hS : okS R σ) (h : cmI R σ x y M M' b) (hb : b < sN σ) (hk : kpP R σ x y b = 1) (hv : nI (sB σ b) - v = nI (nbN σ x y b)) (hm : mmP M' M2 b (kcN R σ x y b) v) : cmI R σ x y M M2 (b + 1) := by
  obtain ⟨h1, h0, h2, h3⟩ := h
  obtain ⟨m1, m2, m3, m4, m5, m6⟩ := hm
  have hle := kc_le R σ x y b
  have h12 := hS.2.1
  refine ⟨fun a a1 => by rw [m1 a a1]; exact h1 a a1, fun j hj => by rw [m6 j (by omega) (by omega) (by omega) (by omega)]; exact h0 j hj, fun k q => ?_, fun j j1 j2 => ?_⟩
  · rw [kc_s, hk] at q
    by_cases e : k = kcN R σ x y b
    · rw [sr_new ⟨hk, e⟩]
      subst e
      obtain ⟨g1, g2, g3, g4⟩ := h3 b (Nat.le_refl _) hb
      have hz := hS.z12 b hb
      refine ⟨by rw [m2, g1, hv], by rw [m3]; exact g2, fun i hi => ?_, fun i hi => ?_⟩
      · rw [m4 i (by omega)]; exact g3 i hi
      · rw [m5 i (by omega)]; exact g4 i hi
    · rw [sr_old (fun q => e q.2)]
      obtain ⟨g1, g2, g3, g4⟩ := h2 k (by omega)
      have hsr := (sr_ok R σ x y b).1 k (by omega)
      have hz := hS.z12 _ (show srN R σ x y b k < sN σ by omega)
      refine ⟨by rw [m6 _ (by omega) (by omega) (by omega) (by omega)]; exact g1, by rw [m6 _ (by omega) (by omega) (by omega) (by omega)]; exact g2, fun i hi => ?_, fun i hi => ?_⟩
      · rw [m6 _ (by omega) (by omega) (by omega) (by omega)]; exact g3 i hi
      · rw [m6 _ (by omega) (by omega) (by omega) (by omega)]; exact g4 i hi
  · obtain ⟨g1, g2, g3, g4⟩ := h3 j (by omega) j2
    have hz := hS.z12 j j2
    refine ⟨by rw [m6 _ (by omega) (by omega) (by omega) (by omega)]; exact g1, by rw [m6 _ (by omega) (by omega) (by omega) (by omega)]; exact g2, fun i hi => ?_, fun i hi => ?_⟩
    · rw [m6 _ (by omega) (by omega) (by omega) (by omega)]; exact g3 i hi
    · rw [m6 _ (by omega) (by omega) (by omega) (by omega)]; exact g4 i hi
theorem nb_val {σ : SS} {x y b : Nat} (h : x < y) (hb : y ≤ sB σ b) : nI (sB σ b) - (nI y - nI x) = nI (nbN σ x y b) := by
  rw [pk_sub (by omega), pk_sub (by omega)]
  unfold nbN
  rw [if_pos hb]
theorem nb_val0 {σ : SS} {x y b : Nat} (hb : ¬ y ≤ sB σ b) : nI (sB σ b) - (0 : Int32) = nI (nbN σ x y b) := by
  unfold nbN
  rw [if_neg hb, Int32.sub_zero]
theorem s_cutLoop {Q : Int32 → MM → Prop} {M : MM} {R : Nat → Nat} {σ : SS} {x y : Nat} (hR : okR R) (hS : okS R σ) (hc : clT M 1 R σ) (hxy : x < y) (hy : y ≤ sL σ) (hq : ∀ M', cuI R σ x y M M' (sN σ) → wX2_cutOut_11 Q 1 (nI x) (nI y) 1 M' (nI (kcN R σ x y (sN σ))) (nI (sN σ)) (nI (sN σ))) : ∀ r b M', b + r = sN σ → cuI R σ x y M M' b → wX2_cutOut_11 Q 1 (nI x) (nI y) (r + 1) M' (nI (kcN R σ x y b)) (nI (sN σ)) (nI b) := by
  have hb1 : tpB 1 := Or.inl rfl
  have h12 := hS.2.1
  have hL := hS.1.2
  intro r
  induction r with
  | zero =>
    intro b M' hb hi
    have : b = sN σ := by omega
    subst this
    exact hq M' hi
  | succ r ih =>
    intro b M' hb hi
    have hbN : b < sN σ := by omega
    obtain ⟨i1, i2, i3⟩ := id hi
    obtain ⟨g1, g2, g3, g4⟩ := i3 b (Nat.le_refl _) hbN
    have hz := hS.2.2.2.1 b hbN
    have hle := kc_le R σ x y b
    have hd := hR.2.2.2.2.2.1
    have e7 : M' 2 7 = nI (R 7) := by rw [i1 2 (by decide) (by decide) (by decide) (by decide)]; exact hc.1.2 7 (by omega) (by omega)
    have e8 : M' 1 8 = nI (sN σ) := by rw [i1 1 (by decide) (by decide) (by decide) (by decide)]; exact hc.2.1
    have kpe : kpP R σ x y b = if y ≤ sB σ b ∨ sB σ b + lgN R (sZ σ b) ≤ x then 1 else 0 := rfl
    refine br_f (fun q => ?_) (s_beginRaw hb1 (by omega) ?_)
    · have := (nI_leI (by omega) (by omega)).mp q; omega
    rw [show M' (1 + 2) b = nI (sB σ b) from g1, nI_ltI (by omega) (by omega)]
    -- a block that stays
    have stay : ∀ v : Int32, kpP R σ x y b = 1 → nI (sB σ b) - v = nI (nbN σ x y b) → wX2_cutOut_69 Q (fun M v3 v4 v5 => wX2_cutOut_11 Q 1 (nI x) (nI y) (r + 1) M v3 v4 v5) 1 (nI x) (nI y) M' (nI (kcN R σ x y b)) (nI (sN σ)) (nI b) v (nI (kcN R σ x y b)) (nI b) := by
      intro v hk hv
      unfold wX2_cutOut_69 wX2_cutOut_75
      refine s_moveBlock hle (by omega) (fun M2 hm => ?_)
      have g := ih (b + 1) _ (by omega) (hi.take hS hbN hk hv hm)
      rw [kc_s, hk] at g
      rw [nI_1, nI_1]; exact g
    have go : ∀ (B : Int32), ((B = 0 ∧ ¬ y ≤ sB σ b) ∨ (B = 1 ∧ y ≤ sB σ b)) → kpP R σ x y b = 1 → wX2_cutOut_53 Q (fun M v3 v4 v5 => wX2_cutOut_11 Q 1 (nI x) (nI y) (r + 1) M v3 v4 v5) 1 (nI x) (nI y) M' (nI (kcN R σ x y b)) (nI (sN σ)) (nI b) B := by
      intro B hB hk
      unfold wX2_cutOut_53
      rcases hB with ⟨rfl, q⟩ | ⟨rfl, q⟩
      · exact br_t rfl (stay 0 hk (nb_val0 q))
      · exact br_f (by decide) (stay _ hk (nb_val hxy q))
    unfold wX2_cutOut_33
    by_cases c1 : sB σ b < y
    · refine br_t c1 (o_n0 ?_)
      refine s_endRaw hb1 hd e7 h12 hbN e8 g1 g2 (by omega) ?_
      rw [nI_leI (by omega) (by omega)]
      by_cases c2 : sB σ b + lgN R (sZ σ b) ≤ x
      · exact br_t c2 (go 0 (Or.inl ⟨rfl, by omega⟩) (by rw [kpe, if_pos (Or.inr c2)]))
      · refine br_f c2 ?_
        have k0 : kpP R σ x y b = 0 := by rw [kpe, if_neg (by omega)]
        have g := ih (b + 1) M' (by omega) (hi.skip k0)
        rw [kc_s, k0] at g
        unfold wX2_cutOut_75
        rw [nI_1]; exact g
    · exact br_f c1 (o_n1 (go 1 (Or.inr ⟨rfl, by omega⟩) (by rw [kpe, if_pos (Or.inl (by omega))])))
