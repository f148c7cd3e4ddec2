-- ===== images =====
theorem clT.mv {M M1 : MM} {b b' : Nat} {R : Nat → Nat} {σ : SS} (h : clT M b R σ) (hS : okS R σ) (e : ∀ r, 1 ≤ r → r < 9 → ∀ j, j < (if r = 1 then 9 else if r = 4 then 156 else if r = 5 then 144 else 12) → M1 (b' + r) j = M (b + r) j) (f : ∀ j, 8 ≤ j → j < 14 → M1 b' j = M b j) : clT M1 b' R σ := by
  obtain ⟨h1, h2, h3, h4, h5, h6, h7, h8, h9, h10, h11, h12, h13⟩ := h
  have hn := hS.n3
  have e1 := e 1 (by omega) (by omega)
  have e2 := e 2 (by omega) (by omega)
  have e3 := e 3 (by omega) (by omega)
  have e4 := e 4 (by omega) (by omega)
  have e5 := e 5 (by omega) (by omega)
  have e6 := e 6 (by omega) (by omega)
  have e7 := e 7 (by omega) (by omega)
  have e8 := e 8 (by omega) (by omega)
  simp only [Nat.reduceEqDiff, if_true, if_false] at e1 e2 e3 e4 e5 e6 e7 e8
  refine ⟨⟨by rw [e1 0 (by omega)]; exact h1.1, fun r r1 r2 => by rw [e1 r (by omega)]; exact h1.2 r r1 r2⟩, by rw [f 8 (by omega) (by omega)]; exact h2, by rw [f 9 (by omega) (by omega)]; exact h3, fun j hj => by rw [e2 j (by omega)]; exact h4 j hj, fun j hj => by rw [e3 j (by omega)]; exact h5 j hj, fun j hj i hi => ?_, fun j hj i hi => ?_, by rw [f 11 (by omega) (by omega)]; exact h8, fun i hi => by rw [e6 i (by omega)]; exact h9 i hi, by rw [f 13 (by omega) (by omega)]; exact h10, fun i hi => by rw [e7 i (by omega), e8 i (by omega)]; exact h11 i hi, by rw [f 10 (by omega) (by omega)]; exact h12, by rw [f 12 (by omega) (by omega)]; exact h13⟩
  · have := hS.z12 j hj
    rw [e4 _ (by omega)]; exact h6 j hj i hi
  · have := hS.z12 j hj
    rw [e5 _ (by omega)]; exact h7 j hj i hi
theorem mdT.mv {M M1 : MM} {o o' : Nat} {R : Nat → Nat} {σ : SS} (h : mdT M o σ) (hS : okS R σ) (e : ∀ i, i < 400 → M1 53 (o' + i) = M 53 (o + i)) : mdT M1 o' σ := by
  obtain ⟨h1, h2, h3, h4, h5, h6, h7, h8, h9, h10, h11, h12, h13⟩ := h
  have hn := hS.n3
  refine ⟨by rw [e 366 (by omega)]; exact h1, ?_, by rw [e 325 (by omega)]; exact h3, fun j hj => by rw [e (1 + j) (by omega)]; exact h4 j hj, fun j hj => by rw [e (13 + j) (by omega)]; exact h5 j hj, fun j hj i hi => ?_, fun j hj i hi => ?_, by rw [e 327 (by omega)]; exact h8, fun i hi => by rw [e (328 + i) (by omega)]; exact h9 i hi, by rw [e 341 (by omega)]; exact h10, fun i hi => by rw [e (342 + 2 * i) (by omega), e (343 + 2 * i) (by omega)]; exact h11 i hi, by rw [e 326 (by omega)]; exact h12, by rw [e 340 (by omega)]; exact h13⟩
  · have := e 0 (by omega)
    rw [Nat.add_zero, Nat.add_zero] at this
    rw [this]; exact h2
  · have := hS.z12 j hj
    rw [e (25 + (j * 13 + i)) (by omega)]; exact h6 j hj i hi
  · have := hS.z12 j hj
    rw [e (181 + (j * 12 + i)) (by omega)]; exact h7 j hj i hi
theorem s_copyRow {Q : MM → Prop} {M : MM} {k0 k1 n : Nat} (h0 : alen k0 = n) (h1 : alen k1 = n) (hn : n < 2 ^ 31) (hq : ∀ M', (∀ a, a ≠ k1 → M' a = M a) → (∀ j, j < n → M' k1 j = M k0 j) → Q M') : wX4_copyRow Q M k0 k1 := by
  unfold wX4_copyRow
  rw [h0, h1, min_nI hn hn, Nat.min_self, clamp_nI hn]
  refine ⟨by decide, by decide, nI_pos hn, by show 0 + n ≤ n; omega, by show 0 + n ≤ n; omega, ?_⟩
  rintro _ rfl
  refine hq _ (fun a h => mrow_n h) (fun j hj => ?_)
  rw [mrow_s]
  show va_cpy (M k0) (M k1) 0 0 n j = M k0 j
  rw [pk_cpy_in (Nat.zero_le _) (by omega)]; congr 1; omega
/-- t rows are copied -/
def cpI (M M' : MM) (b o t : Nat) : Prop := (∀ a, (a < b + 1 ∨ b + 1 + t ≤ a) → M' a = M a) ∧ ∀ r, 1 ≤ r → r ≤ t → ∀ j, j < alen (o + r) → M' (b + r) j = M (o + r) j
theorem cpI.step {Q : MM → Prop} {M M' : MM} {b o t : Nat} (h : cpI M M' b o t) (ht : t < 8) (hbo : b + 9 ≤ o ∨ o + 9 ≤ b) (hl : alen (o + (t + 1)) = alen (b + (t + 1))) (hn : alen (b + (t + 1)) < 2 ^ 31) (hq : ∀ M2, cpI M M2 b o (t + 1) → Q M2) : wX4_copyRow Q M' (o + (t + 1)) (b + (t + 1)) := by
  refine s_copyRow hl rfl hn (fun M2 e1 e2 => hq M2 ⟨fun a ha => ?_, fun r r1 r2 j hj => ?_⟩)
  · rw [e1 a (by omega)]; exact h.1 a (by omega)
  · by_cases e : r = t + 1
    · subst e
      rw [e2 j (by rw [← hl]; exact hj), h.1 _ (by omega)]
    · rw [e1 _ (by omega)]; exact h.2 r r1 (by omega) j hj
theorem s_becomes {Q : MM → Prop} {M : MM} {b o : Nat} (hb : tpB b) (ho : tpB o) (hbo : b + 9 ≤ o ∨ o + 9 ≤ b) (hq : ∀ M', (∀ a, (a < b ∨ b + 9 ≤ a) → M' a = M a) → (∀ r, 1 ≤ r → r < 9 → ∀ j, j < (if r = 1 then 9 else if r = 4 then 156 else if r = 5 then 144 else 12) → M' (b + r) j = M (o + r) j) → (∀ j, 8 ≤ j → j < 14 → M' b j = M o j) → Q M') : wX2_becomes Q M b o := by
  obtain ⟨l1, l2, l3, l4, l5, l6, l7, l8⟩ := alen_tp hb
  obtain ⟨m1, m2, m3, m4, m5, m6, m7, m8⟩ := alen_tp ho
  unfold wX2_becomes
  have c0 : cpI M M b o 0 := ⟨fun _ _ => rfl, fun r r1 r2 => by omega⟩
  refine c0.step (by omega) hbo (by rw [m1, l1]) (by rw [l1]; decide) (fun M1 c1 => ?_)
  refine c1.step (by omega) hbo (by rw [m2, l2]) (by rw [l2]; decide) (fun M2 c2 => ?_)
  refine c2.step (by omega) hbo (by rw [m3, l3]) (by rw [l3]; decide) (fun M3 c3 => ?_)
  refine c3.step (by omega) hbo (by rw [m4, l4]) (by rw [l4]; decide) (fun M4 c4 => ?_)
  refine c4.step (by omega) hbo (by rw [m5, l5]) (by rw [l5]; decide) (fun M5 c5 => ?_)
  refine c5.step (by omega) hbo (by rw [m6, l6]) (by rw [l6]; decide) (fun M6 c6 => ?_)
  refine c6.step (by omega) hbo (by rw [m7, l7]) (by rw [l7]; decide) (fun M7 c7 => ?_)
  refine c7.step (by omega) hbo (by rw [m8, l8]) (by rw [l8]; decide) (fun M8 c8 => ?_)
  rintro _ rfl _ rfl _ rfl _ rfl _ rfl _ rfl
  have hne : o ≠ b := by omega
  have eo : M8 o = M o := c8.1 o (by omega)
  refine hq _ (fun a ha => ?_) (fun r r1 r2 j hj => ?_) (fun j j1 j2 => ?_)
  · have : a ≠ b := by omega
    rw [mset_n this, mset_n this, mset_n this, mset_n this, mset_n this, mset_n this]
    exact c8.1 a (by omega)
  · have : b + r ≠ b := by omega
    rw [mset_n this, mset_n this, mset_n this, mset_n this, mset_n this, mset_n this]
    refine c8.2 r r1 (by omega) j ?_
    have : r = 1 ∨ r = 2 ∨ r = 3 ∨ r = 4 ∨ r = 5 ∨ r = 6 ∨ r = 7 ∨ r = 8 := by omega
    rcases this with rfl | rfl | rfl | rfl | rfl | rfl | rfl | rfl
    · rw [m1]; exact hj
    · rw [m2]; exact hj
    · rw [m3]; exact hj
    · rw [m4]; exact hj
    · rw [m5]; exact hj
    · rw [m6]; exact hj
    · rw [m7]; exact hj
    · rw [m8]; exact hj
  · have : j = 8 ∨ j = 9 ∨ j = 10 ∨ j = 11 ∨ j = 12 ∨ j = 13 := by omega
    rcases this with rfl | rfl | rfl | rfl | rfl | rfl <;> simp [mset, mrow, upd, hne, eo]
theorem m_copies {Q : MM → Prop} {M : MM} {o o' : Nat} {v1 v2 : Int32} (e1 : v1 = nI o') (e2 : v2 = nI o) (ho : o ≤ 800) (ho' : o' ≤ 800) (hoo : o + 400 ≤ o' ∨ o' + 400 ≤ o) (hq : ∀ M', (∀ a, a ≠ 53 → M' a = M a) → (∀ j, (j < o' ∨ o' + 400 ≤ j) → M' 53 j = M 53 j) → (∀ i, i < 400 → M' 53 (o' + i) = M 53 (o + i)) → Q M') : wX5_copies Q M v1 v2 := by
  subst e1; subst e2
  have loop : ∀ r i (M' : MM), i + r = 400 → (∀ a, a ≠ 53 → M' a = M a) → (∀ j, (j < o' ∨ o' + i ≤ j) → M' 53 j = M 53 j) → (∀ i', i' < i → M' 53 (o' + i') = M 53 (o + i')) → wX5_copies_2 Q (nI o') (nI o) (r + 1) M' (nI i) := by
    intro r
    induction r with
    | zero =>
      intro i M' hi k1 k2 k3
      have : i = 400 := by omega
      subst this
      exact br_t (by decide +kernel) (hq M' k1 k2 k3)
    | succ r ih =>
      intro i M' hi k1 k2 k3
      unfold wX5_copies_2
      rw [nI_add, nI_add, clamp_nI (by omega), clamp_nI (by omega), nI_1]
      refine br_f (fun q => ?_) ⟨v53 (by omega), v53 (by omega), ?_⟩
      · have := (nI_leI (a := 400) (by omega) (by omega)).mp q; omega
      rintro _ rfl
      refine ih (i + 1) _ (by omega) (fun a h => by rw [mset_n h]; exact k1 a h) (fun j hj => by rw [mset_sn (by omega)]; exact k2 j (by omega)) (fun i' hi' => ?_)
      by_cases e : i' = i
      · subst e; rw [mset_ss, k2 _ (by omega)]
      · rw [mset_sn (by omega)]; exact k3 i' (by omega)
  exact ⟨_, loop 400 0 M (by omega) (fun _ _ => rfl) (fun _ _ => rfl) (fun _ h => by omega)⟩
theorem a54 : alen 54 = 2 := by decide +kernel
theorem m_flag {Q : Int32 → MM → Prop} {M : MM} {k : Nat} (hk : k ≤ 1) (hq : Q (nI k) M) : wX5_flag Q M (nI k) := by
  have : k = 0 ∨ k = 1 := by omega
  rcases this with rfl | rfl
  · exact br_t rfl hq
  · exact br_f (by decide +kernel) hq
theorem rlT.k {M M1 : MM} {R : Nat → Nat} (h : rlT M R) (e : M1 55 = M 55) : rlT M1 R := h.keep e
theorem L_keep {M : MM} (h : Rel M) (x : Int32) : wX4_keep (fun r M1 => wX5_keep (PQ r) M1 x) M x := by
  obtain ⟨R, σ, hR, hS, hc, hm, hr, him, hsh, htx⟩ := id h
  have t1 : tpB 1 := Or.inl rfl
  have t10 : tpB 10 := Or.inr (Or.inl rfl)
  have t19 : tpB 19 := Or.inr (Or.inr (Or.inl rfl))
  obtain ⟨k0, k1, c0, c1, i1, i2, i3, im0, im1⟩ := id him
  unfold wX4_keep
  refine s_isBetween.mpr ?_
  by_cases hp : (0 : Int32) ≤ x ∧ x ≤ 1
  · have hx : x = 0 ∨ x = 1 := by
      obtain ⟨k, hk, rfl⟩ := pl_of (L := 1) (by omega) hp
      have : k = 0 ∨ k = 1 := by omega
      rcases this with rfl | rfl
      · exact Or.inl rfl
      · exact Or.inr rfl
    rcases hx with rfl | rfl
    · refine zt1 (by decide) ?_
      rintro _ rfl
      rw [i1, show ((0 : Int32) &&& 31) = (nI 0 &&& 31) by decide +kernel, bit_at (by omega) (by omega)]
      have eb : (k0 + 2 * k1) / 2 ^ 0 % 2 = k0 := by rw [Nat.pow_zero]; omega
      rw [eb]
      have ev : (nI (k0 + 2 * k1) ||| ((1 : Int32) <<< (nI 0 &&& 31))) = nI (1 + 2 * k1) := by
        have d0 : k0 = 0 ∨ k0 = 1 := by omega
        have d1 : k1 = 0 ∨ k1 = 1 := by omega
        rcases d0 with rfl | rfl <;> rcases d1 with rfl | rfl <;> decide +kernel
      unfold wX4_imageNumbered
      refine br_nt rfl ⟨t10, s_becomes t10 t1 (by omega) (fun M1 a1 a2 a3 => ?_)⟩
      rintro _ rfl
      rw [a1 0 (by omega), i1, ev]
      unfold wX5_keep
      have e54 : mset M1 0 11 (nI (1 + 2 * k1)) 54 = M 54 := by rw [mset_n (by decide)]; exact a1 54 (by omega)
      have e53 : mset M1 0 11 (nI (1 + 2 * k1)) 53 = M 53 := by rw [mset_n (by decide)]; exact a1 53 (by omega)
      refine m_in32 0 1 rfl rfl (zt1 (by decide) ⟨vp_of (n := 0) rfl (by rw [a54]; decide) (by rw [a54]; decide), ?_⟩)
      rw [show (0 : Int32).toNatClampNeg = 0 from rfl, e54, i2]
      refine m_flag c0 ⟨vp_of (n := 0) rfl (by rw [a54]; decide) (by rw [a54]; decide), ?_⟩
      rintro _ rfl
      refine m_copies (o' := 400) (o := 0) (by decide +kernel) rfl (by omega) (by omega) (by omega) (fun M2 b1 b2 b3 => ⟨rfl, ?_⟩)
      have kk : ∀ a, a ≠ 0 → (a < 10 ∨ 19 ≤ a) → a ≠ 53 → a ≠ 54 → M2 a = M a := fun a q1 q2 q3 q4 => by rw [b1 a q3, mset_n q4, mset_n q1, a1 a (by omega)]
      have kt : ∀ r, r < 9 → M2 (10 + r) = M1 (10 + r) := fun r q => by rw [b1 _ (by omega), mset_n (by omega), mset_n (by omega)]
      have k53 : ∀ j, (j < 400 ∨ 800 ≤ j) → M2 53 j = M 53 j := fun j q => by rw [b2 j (by omega), mset_n (by decide), e53]
      have e1' : ∀ j, j ≠ 11 → M2 0 j = M 0 j := fun j q => by rw [b1 0 (by decide), mset_n (by decide), mset_sn q, a1 0 (by omega)]
      refine ⟨R, σ, hR, hS, hc.keep (fun j hj => kk _ (by omega) (by omega) (by omega) (by omega)), hm.mv hS (fun j hj => k53 _ (by omega)), hr.keep (kk 55 (by omega) (by omega) (by omega) (by omega)), ?_, hsh.keep (fun a q1 q2 => kk a (by omega) (by omega) (by omega) (by omega)) (fun a q1 q2 => kk a (by omega) (by omega) (by omega) (by omega)), ?_⟩
      · refine ⟨1, k1, by omega, by omega, ?_, ?_, ?_, fun q => ?_, fun q => ?_⟩
        · rw [b1 0 (by decide), mset_n (by decide), mset_ss]
        · rw [b1 54 (by decide), mset_ss]; rfl
        · rw [b1 54 (by decide), mset_sn (by decide), e54]; exact i3
        · refine ⟨σ, hS, hc.mv hS (fun r r1 r2 j hj => by rw [kt r r2]; exact a2 r r1 r2 j hj) (fun j j1 j2 => ?_), hm.mv hS (fun j hj => by rw [b3 j hj, mset_n (by decide), e53])⟩
          have := kt 0 (by omega)
          rw [this]; exact a3 j j1 j2
        · obtain ⟨σ', s1, s2, s3⟩ := im1 q
          exact ⟨σ', s1, s2.keep (fun j hj => kk _ (by omega) (by omega) (by omega) (by omega)), s3.mv s1 (fun j hj => k53 _ (by omega))⟩
      · exact htx.keep (kk 37 (by omega) (by omega) (by omega) (by omega)) (kk 38 (by omega) (by omega) (by omega) (by omega)) (kk 59 (by omega) (by omega) (by omega) (by omega)) (by rw [kk 52 (by omega) (by omega) (by omega) (by omega)]) (by rw [kk 52 (by omega) (by omega) (by omega) (by omega)]) (by rw [kk 52 (by omega) (by omega) (by omega) (by omega)]) (e1' 9 (by decide)) (e1' 10 (by decide))
    · refine zt1 (by decide) ?_
      rintro _ rfl
      rw [i1, show ((1 : Int32) &&& 31) = (nI 1 &&& 31) by decide +kernel, bit_at (by omega) (by omega)]
      have eb : (k0 + 2 * k1) / 2 ^ 1 % 2 = k1 := by rw [Nat.pow_one]; omega
      rw [eb]
      have ev : (nI (k0 + 2 * k1) ||| ((1 : Int32) <<< (nI 1 &&& 31))) = nI (k0 + 2 * 1) := by
        have d0 : k0 = 0 ∨ k0 = 1 := by omega
        have d1 : k1 = 0 ∨ k1 = 1 := by omega
        rcases d0 with rfl | rfl <;> rcases d1 with rfl | rfl <;> decide +kernel
      unfold wX4_imageNumbered
      refine br_nf (by decide) ⟨t19, s_becomes t19 t1 (by omega) (fun M1 a1 a2 a3 => ?_)⟩
      rintro _ rfl
      rw [a1 0 (by omega), i1, ev]
      unfold wX5_keep
      have e54 : mset M1 0 11 (nI (k0 + 2 * 1)) 54 = M 54 := by rw [mset_n (by decide)]; exact a1 54 (by omega)
      have e53 : mset M1 0 11 (nI (k0 + 2 * 1)) 53 = M 53 := by rw [mset_n (by decide)]; exact a1 53 (by omega)
      refine m_in32 0 1 rfl rfl (zt1 (by decide) ⟨vp_of (n := 1) rfl (by rw [a54]; decide) (by rw [a54]; decide), ?_⟩)
      rw [show (1 : Int32).toNatClampNeg = 1 from rfl, e54, i3]
      refine m_flag c1 ⟨vp_of (n := 1) rfl (by rw [a54]; decide) (by rw [a54]; decide), ?_⟩
      rintro _ rfl
      refine m_copies (o' := 800) (o := 0) (by decide +kernel) rfl (by omega) (by omega) (by omega) (fun M2 b1 b2 b3 => ⟨rfl, ?_⟩)
      have kk : ∀ a, a ≠ 0 → (a < 19 ∨ 28 ≤ a) → a ≠ 53 → a ≠ 54 → M2 a = M a := fun a q1 q2 q3 q4 => by rw [b1 a q3, mset_n q4, mset_n q1, a1 a (by omega)]
      have kt : ∀ r, r < 9 → M2 (19 + r) = M1 (19 + r) := fun r q => by rw [b1 _ (by omega), mset_n (by omega), mset_n (by omega)]
      have k53 : ∀ j, (j < 800 ∨ 1200 ≤ j) → M2 53 j = M 53 j := fun j q => by rw [b2 j (by omega), mset_n (by decide), e53]
      have e1' : ∀ j, j ≠ 11 → M2 0 j = M 0 j := fun j q => by rw [b1 0 (by decide), mset_n (by decide), mset_sn q, a1 0 (by omega)]
      refine ⟨R, σ, hR, hS, hc.keep (fun j hj => kk _ (by omega) (by omega) (by omega) (by omega)), hm.mv hS (fun j hj => k53 _ (by omega)), hr.keep (kk 55 (by omega) (by omega) (by omega) (by omega)), ?_, hsh.keep (fun a q1 q2 => kk a (by omega) (by omega) (by omega) (by omega)) (fun a q1 q2 => kk a (by omega) (by omega) (by omega) (by omega)), ?_⟩
      · refine ⟨k0, 1, by omega, by omega, ?_, ?_, ?_, fun q => ?_, fun q => ?_⟩
        · rw [b1 0 (by decide), mset_n (by decide), mset_ss]
        · rw [b1 54 (by decide), mset_sn (by decide), e54]; exact i2
        · rw [b1 54 (by decide), mset_ss]; rfl
        · obtain ⟨σ', s1, s2, s3⟩ := im0 q
          exact ⟨σ', s1, s2.keep (fun j hj => kk _ (by omega) (by omega) (by omega) (by omega)), s3.mv s1 (fun j hj => k53 _ (by omega))⟩
        · refine ⟨σ, hS, hc.mv hS (fun r r1 r2 j hj => by rw [kt r r2]; exact a2 r r1 r2 j hj) (fun j j1 j2 => ?_), hm.mv hS (fun j hj => by rw [b3 j hj, mset_n (by decide), e53])⟩
          have := kt 0 (by omega)
          rw [this]; exact a3 j j1 j2
      · exact htx.keep (kk 37 (by omega) (by omega) (by omega) (by omega)) (kk 38 (by omega) (by omega) (by omega) (by omega)) (kk 59 (by omega) (by omega) (by omega) (by omega)) (by rw [kk 52 (by omega) (by omega) (by omega) (by omega)]) (by rw [kk 52 (by omega) (by omega) (by omega) (by omega)]) (by rw [kk 52 (by omega) (by omega) (by omega) (by omega)]) (e1' 9 (by decide)) (e1' 10 (by decide))
  · refine zf1 hp ?_
    unfold wX5_keep
    exact m_in32 0 1 rfl rfl (zf1 hp ⟨rfl, h⟩)
theorem L_back {M : MM} (h : Rel M) (x : Int32) : wX4_back (fun r M1 => wX5_back (PQ r) M1 x) M x := by
  obtain ⟨R, σ, hR, hS, hc, hm, hr, him, hsh, htx⟩ := id h
  have t1 : tpB 1 := Or.inl rfl
  have t10 : tpB 10 := Or.inr (Or.inl rfl)
  have t19 : tpB 19 := Or.inr (Or.inr (Or.inl rfl))
  obtain ⟨k0, k1, c0, c1, i1, i2, i3, im0, im1⟩ := id him
  unfold wX4_back
  refine s_isBetween.mpr ?_
  by_cases hp : (0 : Int32) ≤ x ∧ x ≤ 1
  · have hx : x = 0 ∨ x = 1 := by
      obtain ⟨k, hk, rfl⟩ := pl_of (L := 1) (by omega) hp
      have : k = 0 ∨ k = 1 := by omega
      rcases this with rfl | rfl
      · exact Or.inl rfl
      · exact Or.inr rfl
    rcases hx with rfl | rfl
    · refine zt1 (by decide) ?_
      dsimp only
      rw [i1, show ((0 : Int32) &&& 31) = (nI 0 &&& 31) by decide +kernel, bit_at (by omega) (by omega)]
      have eb : (k0 + 2 * k1) / 2 ^ 0 % 2 = k0 := by rw [Nat.pow_zero]; omega
      rw [eb]
      have d0 : k0 = 0 ∨ k0 = 1 := by omega
      rcases d0 with hk | hk
      · rw [hk] at i2 ⊢
        refine br_nt rfl ?_
        unfold wX5_back
        refine m_in32 0 1 rfl rfl (zt1 (by decide) ⟨vp_of (n := 0) rfl (by rw [a54]; decide) (by rw [a54]; decide), ?_⟩)
        rw [show (0 : Int32).toNatClampNeg = 0 from rfl, i2]
        exact br_nt rfl ⟨rfl, h⟩
      · obtain ⟨σ', s1, s2, s3⟩ := im0 hk
        rw [hk] at i2 ⊢
        refine br_nf (by decide +kernel) ?_
        unfold wX4_imageNumbered
        refine br_nt rfl ⟨t10, s_becomes t1 t10 (by omega) (fun M1 a1 a2 a3 => ?_)⟩
        have hc1 : clT M1 1 R σ' := s2.mv s1 a2 a3
        unfold wX5_back
        have e54 : M1 54 = M 54 := a1 54 (by omega)
        have e53 : M1 53 = M 53 := a1 53 (by omega)
        refine m_in32 0 1 rfl rfl (zt1 (by decide) ⟨vp_of (n := 0) rfl (by rw [a54]; decide) (by rw [a54]; decide), ?_⟩)
        rw [show (0 : Int32).toNatClampNeg = 0 from rfl, e54, i2]
        refine br_nf (by decide +kernel) (m_copies (o' := 0) (o := 400) rfl (by decide +kernel) (by omega) (by omega) (by omega) (fun M2 b1 b2 b3 => ?_))
        have hm2 : mdT M2 0 σ' := s3.mv s1 (fun j hj => by rw [b3 j hj, e53])
        refine ⟨?_, Rel.step hR s1 (hc1.keep (fun j hj => b1 _ (by omega))) hm2 hr him hsh htx (fun a ha => ?_) (fun j hj => ?_) ?_⟩
        · rw [show M1 1 8 = nI (sN σ') from hc1.2.1, show M2 53 0 = nI (sN σ') from hm2.2.1]
        · unfold keepP at ha
          rw [b1 a (by omega), a1 a (by omega)]
        · rw [b2 j (by omega), e53]
        · rw [b1 52 (by decide), a1 52 (by omega)]; exact ⟨rfl, rfl, rfl⟩
    · refine zt1 (by decide) ?_
      dsimp only
      rw [i1, show ((1 : Int32) &&& 31) = (nI 1 &&& 31) by decide +kernel, bit_at (by omega) (by omega)]
      have eb : (k0 + 2 * k1) / 2 ^ 1 % 2 = k1 := by rw [Nat.pow_one]; omega
      rw [eb]
      have d0 : k1 = 0 ∨ k1 = 1 := by omega
      rcases d0 with hk | hk
      · rw [hk] at i3 ⊢
        refine br_nt rfl ?_
        unfold wX5_back
        refine m_in32 0 1 rfl rfl (zt1 (by decide) ⟨vp_of (n := 1) rfl (by rw [a54]; decide) (by rw [a54]; decide), ?_⟩)
        rw [show (1 : Int32).toNatClampNeg = 1 from rfl, i3]
        exact br_nt rfl ⟨rfl, h⟩
      · obtain ⟨σ', s1, s2, s3⟩ := im1 hk
        rw [hk] at i3 ⊢
        refine br_nf (by decide +kernel) ?_
        unfold wX4_imageNumbered
        refine br_nf (by decide) ⟨t19, s_becomes t1 t19 (by omega) (fun M1 a1 a2 a3 => ?_)⟩
        have hc1 : clT M1 1 R σ' := s2.mv s1 a2 a3
        unfold wX5_back
        have e54 : M1 54 = M 54 := a1 54 (by omega)
        have e53 : M1 53 = M 53 := a1 53 (by omega)
        refine m_in32 0 1 rfl rfl (zt1 (by decide) ⟨vp_of (n := 1) rfl (by rw [a54]; decide) (by rw [a54]; decide), ?_⟩)
        rw [show (1 : Int32).toNatClampNeg = 1 from rfl, e54, i3]
        refine br_nf (by decide +kernel) (m_copies (o' := 0) (o := 800) rfl (by decide +kernel) (by omega) (by omega) (by omega) (fun M2 b1 b2 b3 => ?_))
        have hm2 : mdT M2 0 σ' := s3.mv s1 (fun j hj => by rw [b3 j hj, e53])
        refine ⟨?_, Rel.step hR s1 (hc1.keep (fun j hj => b1 _ (by omega))) hm2 hr him hsh htx (fun a ha => ?_) (fun j hj => ?_) ?_⟩
        · rw [show M1 1 8 = nI (sN σ') from hc1.2.1, show M2 53 0 = nI (sN σ') from hm2.2.1]
        · unfold keepP at ha
          rw [b1 a (by omega), a1 a (by omega)]
        · rw [b2 j (by omega), e53]
        · rw [b1 52 (by decide), a1 52 (by omega)]; exact ⟨rfl, rfl, rfl⟩
  · refine zf1 hp ?_
    unfold wX5_back
    exact m_in32 0 1 rfl rfl (zf1 hp ⟨rfl, h⟩)
