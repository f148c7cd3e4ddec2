-- ===== a state's parts set anew =====
def uH (σ : SS) (h : Nat) (k : Int32) : SS := ((sL σ, sN σ, h), σ.2.1, σ.2.2.1, σ.2.2.2.1, (k, sD σ))
def uD (σ : SS) (d : Int32) : SS := (σ.1, σ.2.1, σ.2.2.1, σ.2.2.2.1, (sK σ, d))
/-- another head, other ticks, another dead track; all else as it was -/
theorem clT.obj {M M1 : MM} {b : Nat} {R : Nat → Nat} {σ σ' : SS} (h : clT M b R σ) (e : ∀ i, 1 ≤ i → i < 9 → M1 (b + i) = M (b + i)) (eL : sL σ' = sL σ) (eN : sN σ' = sN σ) (e2 : σ'.2.1 = σ.2.1) (e3 : σ'.2.2.1 = σ.2.2.1) (e4 : σ'.2.2.2.1 = σ.2.2.2.1) (f8 : M1 b 8 = M b 8) (f11 : M1 b 11 = M b 11) (f13 : M1 b 13 = M b 13) (f9 : M1 b 9 = nI (sH σ')) (f10 : M1 b 10 = sK σ') (f12 : M1 b 12 = sD σ') : clT M1 b R σ' := by
  unfold clT
  have a1 : sB σ' = sB σ := by unfold sB; rw [e2]
  have a2 : sZ σ' = sZ σ := by unfold sZ; rw [e2]
  have a3 : sC σ' = sC σ := by unfold sC; rw [e2]
  have a4 : sO σ' = sO σ := by unfold sO; rw [e2]
  have a5 : sY σ' = sY σ := by unfold sY; rw [e3]
  have a6 : sT σ' = sT σ := by unfold sT; rw [e3]
  have a7 : sW σ' = sW σ := by unfold sW; rw [e4]
  have a8 : sP σ' = sP σ := by unfold sP; rw [e4]
  have a9 : sX σ' = sX σ := by unfold sX; rw [e4]
  rw [e 1 (by omega) (by omega), e 2 (by omega) (by omega), e 3 (by omega) (by omega), e 4 (by omega) (by omega), e 5 (by omega) (by omega), e 6 (by omega) (by omega), e 7 (by omega) (by omega), e 8 (by omega) (by omega), f8, f9, f10, f11, f12, f13, eL, eN, a1, a2, a3, a4, a5, a6, a7, a8, a9]
  obtain ⟨h1, h2, -, h4, h5, h6, h7, h8, h9, h10, h11, -, -⟩ := h
  exact ⟨h1, h2, rfl, h4, h5, h6, h7, h8, h9, h10, h11, rfl, rfl⟩
theorem mdT.obj {M M1 : MM} {σ σ' : SS} (h : mdT M 0 σ) (hS : sN σ ≤ 12 ∧ sY σ ≤ 12 ∧ sW σ ≤ 12) (hZ : ∀ j, j < sN σ → sZ σ j ≤ 12) (e : ∀ j, j ≠ 325 → j ≠ 326 → j ≠ 340 → M1 53 j = M 53 j) (eL : sL σ' = sL σ) (eN : sN σ' = sN σ) (e2 : σ'.2.1 = σ.2.1) (e3 : σ'.2.2.1 = σ.2.2.1) (e4 : σ'.2.2.2.1 = σ.2.2.2.1) (f9 : M1 53 325 = nI (sH σ')) (f10 : M1 53 326 = sK σ') (f12 : M1 53 340 = sD σ') : mdT M1 0 σ' := by
  unfold mdT
  have a1 : sB σ' = sB σ := by unfold sB; rw [e2]
  have a2 : sZ σ' = sZ σ := by unfold sZ; rw [e2]
  have a3 : sC σ' = sC σ := by unfold sC; rw [e2]
  have a4 : sO σ' = sO σ := by unfold sO; rw [e2]
  have a5 : sY σ' = sY σ := by unfold sY; rw [e3]
  have a6 : sT σ' = sT σ := by unfold sT; rw [e3]
  have a7 : sW σ' = sW σ := by unfold sW; rw [e4]
  have a8 : sP σ' = sP σ := by unfold sP; rw [e4]
  have a9 : sX σ' = sX σ := by unfold sX; rw [e4]
  rw [eL, eN, a1, a2, a3, a4, a5, a6, a7, a8, a9, e (0 + 366) (by omega) (by omega) (by omega), e 0 (by omega) (by omega) (by omega), e (0 + 327) (by omega) (by omega) (by omega), e (0 + 341) (by omega) (by omega) (by omega)]
  obtain ⟨h1, h2, -, h4, h5, h6, h7, h8, h9, h10, h11, -, -⟩ := h
  refine ⟨h1, h2, f9, fun j hj => ?_, fun j hj => ?_, fun j hj i hi => ?_, fun j hj i hi => ?_, h8, fun i hi => ?_, h10, fun i hi => ?_, f10, f12⟩
  · rw [e _ (by omega) (by omega) (by omega)]; exact h4 j hj
  · rw [e _ (by omega) (by omega) (by omega)]; exact h5 j hj
  · have := hZ j hj
    rw [e _ (by omega) (by omega) (by omega)]; exact h6 j hj i hi
  · have := hZ j hj
    rw [e _ (by omega) (by omega) (by omega)]; exact h7 j hj i hi
  · rw [e _ (by omega) (by omega) (by omega)]; exact h9 i hi
  · rw [e _ (by omega) (by omega) (by omega), e _ (by omega) (by omega) (by omega)]; exact h11 i hi
def keepP (k : Nat) : Prop := k = 0 ∨ (10 ≤ k ∧ k < 39) ∨ (44 ≤ k ∧ k < 52) ∨ (54 ≤ k ∧ k < 56) ∨ k = 59 ∨ (64 ≤ k ∧ k < 67)
/-- a call that changes the tape alone (and what is laid aside) -/
theorem Rel.step {M M2 : MM} {R : Nat → Nat} {σ' : SS} (hR : okR R) (hS : okS R σ') (hc : clT M2 1 R σ') (hm : mdT M2 0 σ') (hr : rlT M R) (him : imT M R) (hsh : shTs M) (htx : txT M) (hk : ∀ k, keepP k → M2 k = M k) (h53 : ∀ j, 400 ≤ j → M2 53 j = M 53 j) (h52 : M2 52 9 = M 52 9 ∧ M2 52 14 = M 52 14 ∧ M2 52 25 = M 52 25) : Rel M2 := by
  have k : ∀ a, keepP a → M2 a = M a := hk
  refine ⟨R, σ', hR, hS, hc, hm, hr.keep (k 55 (by unfold keepP; omega)), him.keep (by rw [k 0 (by unfold keepP; omega)]) (fun a h1 h2 => k a (by unfold keepP; omega)) h53 (k 54 (by unfold keepP; omega)), hsh.keep (fun a h1 h2 => k a (by unfold keepP; omega)) (fun a h1 h2 => k a (by unfold keepP; omega)), htx.keep (k 37 (by unfold keepP; omega)) (k 38 (by unfold keepP; omega)) (k 59 (by unfold keepP; omega)) h52.1 h52.2.1 h52.2.2 (by rw [k 0 (by unfold keepP; omega)]) (by rw [k 0 (by unfold keepP; omega)])⟩
theorem okS.uH {R : Nat → Nat} {σ : SS} (h : okS R σ) {x : Nat} (hx : x ≤ sL σ) (k : Int32) : okS R (uH σ x k) := by
  obtain ⟨h1, h2, h3, h4⟩ := h
  exact ⟨h1, h2, hx, h4⟩
theorem okS.uD {R : Nat → Nat} {σ : SS} (h : okS R σ) {d : Int32} (hd : d = -4 ∨ ∃ t, t < 9 ∧ d = nI t) : okS R (uD σ d) := by
  obtain ⟨h1, h2, h3, h4, h5, h6, h7, h8, h9, h10, h11, -⟩ := h
  exact ⟨h1, h2, h3, h4, h5, h6, h7, h8, h9, h10, h11, hd⟩
theorem okS.n3 {R : Nat → Nat} {σ : SS} (h : okS R σ) : sN σ ≤ 12 ∧ sY σ ≤ 12 ∧ sW σ ≤ 12 := ⟨h.2.1, h.2.2.2.2.2.2.2.1, h.2.2.2.2.2.2.2.2.2.1⟩
theorem okS.z12 {R : Nat → Nat} {σ : SS} (h : okS R σ) : ∀ j, j < sN σ → sZ σ j ≤ 12 := fun j hj => (h.2.2.2.1 j hj).1
-- ===== go =====
theorem L_go {M : MM} (h : Rel M) (x : Int32) : wX4_go (fun r M1 => wX5_go (PQ r) M1 x) M x := by
  obtain ⟨R, σ, hR, hS, hc, hm, hr, him, hsh, htx⟩ := id h
  have hL := hS.1.2
  have hH := hS.2.2.1
  have hb : tpB 1 := Or.inl rfl
  unfold wX4_go
  refine s_hasPlace hb hc.1.1 ?_
  by_cases hp : (0 : Int32) ≤ x ∧ x ≤ nI (sL σ)
  · obtain ⟨j, hj, rfl⟩ := pl_of (by omega) hp
    refine zt2 hp ?_
    unfold wX2_goTo
    rw [hc.2.2.1]
    refine s_sooner hb hR hc hL hH hj ?_
    rintro M3 rfl M4 rfl
    unfold wX5_go
    refine m_isPlace (L := sL σ) (by simpa [mset, mrow] using hm.1) (zt2 hp ?_)
    unfold wX5_goesTo
    have e325 : mset (mset M 1 9 (nI j)) 1 10 (mset M 1 9 (nI j) 1 10 + nI (soN R (sL σ) (sH σ) j)) 53 325 = nI (sH σ) := by simpa [mset, mrow] using hm.2.2.1
    rw [e325]
    refine m_sooner hR (hr.keep (by simp [mset, mrow])) (by simpa [mset, mrow] using hm.1) hL hH hj ?_
    rintro M5 rfl M6 rfl
    refine ⟨rfl, ?_⟩
    refine Rel.step (σ' := uH σ j (sK σ + nI (soN R (sL σ) (sH σ) j))) hR (hS.uH hj _) ?_ ?_ hr him hsh htx ?_ ?_ ?_
    · refine hc.obj (fun i h1 h2 => ?_) rfl rfl rfl rfl rfl ?_ ?_ ?_ ?_ ?_ ?_
      · have : 1 + i ≠ 53 := by omega
        have : i ≠ 0 := by omega
        simp [mset, mrow, *]
      · simp [mset, mrow, upd]
      · simp [mset, mrow, upd]
      · simp [mset, mrow, upd]
      · simp [mset, mrow, upd, uH, sH]
      · simp [mset, mrow, upd, uH, sK]; exact hc.2.2.2.2.2.2.2.2.2.2.2.1
      · simp [mset, mrow, upd, uH, sD]; exact hc.2.2.2.2.2.2.2.2.2.2.2.2
    · refine hm.obj hS.n3 hS.z12 (fun i h1 h2 h3 => ?_) rfl rfl rfl rfl rfl ?_ ?_ ?_
      · simp [mset, mrow, upd, h1, h2]
      · simp [mset, mrow, upd, uH, sH]
      · simp [mset, mrow, upd, uH, sK]; exact hm.2.2.2.2.2.2.2.2.2.2.2.1
      · simp [mset, mrow, upd, uH, sD]; exact hm.2.2.2.2.2.2.2.2.2.2.2.2
    · intro k hk
      have h1 : k ≠ 1 := by unfold keepP at hk; omega
      have h2 : k ≠ 53 := by unfold keepP at hk; omega
      simp [mset, mrow, h1, h2]
    · intro k hk
      have h1 : k ≠ 325 := by omega
      have h2 : k ≠ 326 := by omega
      simp [mset, mrow, upd, h1, h2]
    · simp [mset, mrow]
  · refine zf2 hp ?_
    unfold wX5_go
    exact m_isPlace hm.1 (zf2 hp ⟨rfl, h⟩)
-- ===== rule, dead, forget =====
theorem L_rule {M : MM} (h : Rel M) (x : Int32) : wX4_rule (fun r M1 => wX5_rule (PQ r) M1 x) M x := by
  obtain ⟨R, σ, hR, hS, hc, hm, hr, -⟩ := id h
  have hb : tpB 1 := Or.inl rfl
  unfold wX4_rule
  refine s_isBetween.mpr ?_
  by_cases hp : (0 : Int32) ≤ x ∧ x ≤ 8
  · obtain ⟨j, hj, rfl⟩ := pl_of (L := 8) (by omega) hp
    refine zt2 hp (s_ruled hb j (by omega) rfl ?_)
    unfold wX5_rule
    by_cases h0 : nI j = 0
    · have : j = 0 := (nI_eq (b := 0) (by omega) (by omega)).mp h0
      subst this
      refine br_nt rfl ⟨?_, h⟩
      rw [hc.1.1]; exact hm.1.symm
    · refine br_nf h0 ?_
      have hj1 : 1 ≤ j := by
        rcases Nat.eq_zero_or_pos j with q | q
        · subst q; exact absurd rfl h0
        · exact q
      refine m_in32 1 8 rfl rfl (zt2 ⟨(show nI 1 ≤ nI j from nI_le hj1 (by omega)), (show nI j ≤ nI 8 from nI_le hj (by omega))⟩ ⟨vp_nI (N := alen 55) (by show j < 9; omega) (by decide +kernel), ?_, h⟩)
      rw [clamp_nI (by omega), hc.1.2 j hj1 (by omega), hr j hj1 (by omega)]
  · refine zf2 hp ?_
    unfold wX5_rule
    by_cases h0 : x = 0
    · subst h0; exact absurd (by decide) hp
    · refine br_nf h0 (m_in32 1 8 rfl rfl (zf2 (fun q => hp ⟨?_, q.2⟩) ⟨rfl, h⟩))
      exact Int32.le_trans (by decide) q.1
