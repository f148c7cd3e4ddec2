-- ===== dead, forget, end =====
theorem L_dead {M : MM} (h : Rel M) (x : Int32) : wX4_dead (fun r M1 => wX5_dead (PQ r) M1 x) M x := by
  obtain ⟨R, σ, hR, hS, hc, hm, hr, him, hsh, htx⟩ := id h
  have fin : (x = -4 ∨ ∃ t, t < 9 ∧ x = nI t) → wX4_dead_18 (fun r M1 => wX5_dead_15 (PQ r) x M1) x M := by
    intro hx
    unfold wX4_dead_18
    rintro M3 rfl
    unfold wX5_dead_15
    rintro M4 rfl
    have e1 : M 1 12 = sD σ := hc.2.2.2.2.2.2.2.2.2.2.2.2
    have e2 : M 53 340 = sD σ := hm.2.2.2.2.2.2.2.2.2.2.2.2
    refine ⟨by rw [e1]; simp [mset, mrow, e2], ?_⟩
    refine Rel.step (σ' := uD σ x) hR (hS.uD hx) ?_ ?_ hr him hsh htx ?_ ?_ ?_
    · refine hc.obj (fun i h1 h2 => ?_) rfl rfl rfl rfl rfl ?_ ?_ ?_ ?_ ?_ ?_
      · have : 1 + i ≠ 53 := by omega
        have : i ≠ 0 := by omega
        simp [mset, mrow, *]
      · simp [mset, mrow, upd]
      · simp [mset, mrow, upd]
      · simp [mset, mrow, upd]
      · simp [mset, mrow, upd, uD, sH]; exact hc.2.2.1
      · simp [mset, mrow, upd, uD, sK]; exact hc.2.2.2.2.2.2.2.2.2.2.2.1
      · simp [mset, mrow, upd, uD, sD]
    · refine hm.obj hS.n3 hS.z12 (fun i h1 h2 h3 => ?_) rfl rfl rfl rfl rfl ?_ ?_ ?_
      · simp [mset, mrow, upd, h3]
      · simp [mset, mrow, upd, uD, sH]; exact hm.2.2.1
      · simp [mset, mrow, upd, uD, sK]; exact hm.2.2.2.2.2.2.2.2.2.2.2.1
      · simp [mset, mrow, upd, uD, sD]
    · intro k hk
      have h1 : k ≠ 1 := by unfold keepP at hk; omega
      have h2 : k ≠ 53 := by unfold keepP at hk; omega
      simp [mset, mrow, h1, h2]
    · intro k hk
      have h1 : k ≠ 340 := by omega
      simp [mset, mrow, upd, h1]
    · simp [mset, mrow]
  unfold wX4_dead wX5_dead
  by_cases h4 : x = -4
  · have g := fin (Or.inl h4)
    unfold wX4_dead_18 at g ⊢
    exact br_t h4 (fun M3 e => br_t h4 (g M3 e))
  · refine br_f h4 (s_isBetween.mpr ?_)
    by_cases hp : (0 : Int32) ≤ x ∧ x ≤ 8
    · obtain ⟨j, hj, e⟩ := pl_of (L := 8) (by omega) hp
      have g := fin (Or.inr ⟨j, by omega, e⟩)
      unfold wX4_dead_18 at g ⊢
      refine zt1 hp (fun M3 e => br_f h4 ?_)
      unfold wX5_isTrack
      exact m_in32 0 8 rfl rfl ⟨nb_bI _, zt1 hp (g M3 e)⟩
    · refine zf1 hp (br_f h4 ?_)
      unfold wX5_isTrack
      exact m_in32 0 8 rfl rfl ⟨nb_bI _, zf1 hp ⟨rfl, h⟩⟩
def uW (σ : SS) (w : Nat) (p x : Nat → Nat) : SS := (σ.1, σ.2.1, σ.2.2.1, (w, p, x), σ.2.2.2.2)
def uY (σ : SS) (y : Nat) (t : Nat → Nat) : SS := (σ.1, σ.2.1, (y, t), σ.2.2.2.1, σ.2.2.2.2)
theorem clT.seen {M M1 : MM} {R : Nat → Nat} {σ : SS} (h : clT M 1 R σ) (w : Nat) (p x : Nat → Nat) (e : ∀ k, 2 ≤ k → k < 8 → M1 k = M k) (f : ∀ j, j ≠ 13 → M1 1 j = M 1 j) (f13 : M1 1 13 = nI w) (g : ∀ i, i < w → M1 8 i = nI (p i) ∧ M1 9 i = nI (x i)) : clT M1 1 R (uW σ w p x) := by
  obtain ⟨h1, h2, h3, h4, h5, h6, h7, h8, h9, h10, h11, h12, h13⟩ := h
  unfold clT
  rw [e (1 + 1) (by omega) (by omega), e (1 + 2) (by omega) (by omega), e (1 + 3) (by omega) (by omega), e (1 + 4) (by omega) (by omega), e (1 + 5) (by omega) (by omega), e (1 + 6) (by omega) (by omega), f 8 (by omega), f 9 (by omega), f 11 (by omega), f 10 (by omega), f 12 (by omega), f13]
  exact ⟨h1, h2, h3, h4, h5, h6, h7, h8, h9, rfl, g, h12, h13⟩
theorem mdT.seen {M M1 : MM} {σ : SS} (h : mdT M 0 σ) (hS : sN σ ≤ 12 ∧ sY σ ≤ 12 ∧ sW σ ≤ 12) (hZ : ∀ j, j < sN σ → sZ σ j ≤ 12) (w : Nat) (p x : Nat → Nat) (e : ∀ j, (j < 341 ∨ 366 ≤ j) → M1 53 j = M 53 j) (f13 : M1 53 341 = nI w) (g : ∀ i, i < w → M1 53 (342 + 2 * i) = nI (p i) ∧ M1 53 (343 + 2 * i) = nI (x i)) : mdT M1 0 (uW σ w p x) := by
  obtain ⟨h1, h2, h3, h4, h5, h6, h7, h8, h9, h10, h11, h12, h13⟩ := h
  refine ⟨?_, ?_, ?_, fun j hj => ?_, fun j hj => ?_, fun j hj i hi => ?_, fun j hj i hi => ?_, ?_, fun i hi => ?_, f13, fun i hi => ?_, ?_, ?_⟩
  · rw [e _ (by omega)]; exact h1
  · rw [e _ (by omega)]; exact h2
  · rw [e _ (by omega)]; exact h3
  · have : j < sN σ := hj
    rw [e _ (by omega)]; exact h4 j hj
  · have : j < sN σ := hj
    rw [e _ (by omega)]; exact h5 j hj
  · have := hZ j hj
    have hj' : j < sN σ := hj
    have hi' : i ≤ sZ σ j := hi
    rw [e _ (by omega)]; exact h6 j hj i hi
  · have := hZ j hj
    have hj' : j < sN σ := hj
    have hi' : i < sZ σ j := hi
    rw [e _ (by omega)]; exact h7 j hj i hi
  · rw [e _ (by omega)]; exact h8
  · have hi' : i < sY σ := hi
    rw [e _ (by omega)]; exact h9 i hi
  · have := g i hi
    rw [Nat.zero_add, Nat.zero_add]; exact this
  · rw [e _ (by omega)]; exact h12
  · rw [e _ (by omega)]; exact h13
theorem okS.uW {R : Nat → Nat} {σ : SS} (h : okS R σ) {w : Nat} {p x : Nat → Nat} (hw : w ≤ 12) (g : ∀ i, i < w → p i ≤ 999 ∧ x i ≤ 9999) : okS R (uW σ w p x) := by
  obtain ⟨h1, h2, h3, h4, h5, h6, h7, h8, h9, -, -, h12⟩ := h
  exact ⟨h1, h2, h3, h4, h5, h6, h7, h8, h9, hw, g, h12⟩
theorem L_forget {M : MM} (h : Rel M) : wX4_forget (fun r M1 => wX5_forget (PQ r) M1) M := by
  obtain ⟨R, σ, hR, hS, hc, hm, hr, him, hsh, htx⟩ := id h
  unfold wX4_forget
  rintro M1 rfl
  unfold wX5_forget
  rintro M2 rfl
  have e1 : M 1 13 = nI (sW σ) := hc.2.2.2.2.2.2.2.2.2.1
  have e2 : M 53 341 = nI (sW σ) := hm.2.2.2.2.2.2.2.2.2.1
  refine ⟨by rw [e1]; simp [mset, mrow, e2], ?_⟩
  refine Rel.step (σ' := uW σ 0 (fun _ => 0) (fun _ => 0)) hR (hS.uW (by omega) (fun i hi => by omega)) ?_ ?_ hr him hsh htx ?_ ?_ ?_
  · refine hc.seen 0 _ _ (fun k h1 h2 => ?_) (fun j hj => ?_) ?_ (fun i hi => by omega)
    · have a1 : k ≠ 53 := by omega
      have a2 : k ≠ 1 := by omega
      simp [mset, mrow, a1, a2]
    · simp [mset, mrow, upd, hj]
    · simp [mset, mrow, upd]; rfl
  · refine hm.seen hS.n3 hS.z12 0 _ _ (fun j hj => ?_) ?_ (fun i hi => by omega)
    · have a1 : j ≠ 341 := by omega
      simp [mset, mrow, upd, a1]
    · simp [mset, mrow, upd]; rfl
  · intro k hk
    have h1 : k ≠ 1 := by unfold keepP at hk; omega
    have h2 : k ≠ 53 := by unfold keepP at hk; omega
    simp [mset, mrow, h1, h2]
  · intro k hk
    have h1 : k ≠ 341 := by omega
    simp [mset, mrow, upd, h1]
  · simp [mset, mrow]
theorem vp_of {i : Int32} {n N : Nat} (e : i = nI n) (h : n < N) (hN : N < 2 ^ 31) : vp_in i N := by rw [e]; exact vp_nI h hN
theorem a53 : alen 53 = 1200 := by decide +kernel
theorem L_saw {M : MM} (h : Rel M) (c x : Int32) : wX4_saw (fun r M1 => wX5_saw (PQ r) M1 c x) M c x := by
  obtain ⟨R, σ, hR, hS, hc, hm, hr, him, hsh, htx⟩ := id h
  have e1 : M 1 13 = nI (sW σ) := hc.2.2.2.2.2.2.2.2.2.1
  have e2 : M 53 341 = nI (sW σ) := hm.2.2.2.2.2.2.2.2.2.1
  have hW : sW σ ≤ 12 := hS.n3.2.2
  unfold wX4_saw
  refine s_isBetween.mpr ?_
  by_cases hp : (0 : Int32) ≤ c ∧ c ≤ 999
  · refine zt2 hp (s_isBetween.mpr ?_)
    by_cases hp2 : (0 : Int32) ≤ x ∧ x ≤ 9999
    · obtain ⟨a, ha, rfl⟩ := pl_of (L := 999) (by omega) hp
      obtain ⟨d, hd, rfl⟩ := pl_of (L := 9999) (by omega) hp2
      refine zt1 hp2 ?_
      rw [e1]
      by_cases hw : sW σ < 12
      · refine br_t ((nI_ltI (b := 12) (by omega) (by omega)).mpr hw) ?_
        unfold wX2_addSeen
        rw [e1]
        refine s_setCell (by show sW σ < 12; exact hw) (by decide +kernel) ?_
        have e3 : mset M (1 + 7) (sW σ) (nI a) 1 13 = nI (sW σ) := by simp [mset, mrow, e1]
        rw [e3]
        refine s_setCell (by show sW σ < 12; exact hw) (by decide +kernel) ?_
        rintro M3 rfl
        unfold wX5_saw
        refine m_in32 0 999 rfl rfl (zt2 hp (m_in32 0 9999 rfl rfl (zt1 hp2 ?_)))
        have f1 : mset (mset (mset M (1 + 7) (sW σ) (nI a)) (1 + 8) (sW σ) (nI d)) 1 13 (mset (mset M (1 + 7) (sW σ) (nI a)) (1 + 8) (sW σ) (nI d) 1 13 + 1) 53 = M 53 := by simp [mset, mrow]
        rw [f1, e2]
        refine br_nf (fun q => ?_) ?_
        · have := (nI_eq (b := 12) (by omega) (by omega)).mp q; omega
        have g1 : (342 : Int32) + (2 : Int32) * nI (sW σ) = nI (342 + 2 * sW σ) := by rw [n2, pk_mul, show (342 : Int32) = nI 342 from rfl, nI_add]
        have g2 : (342 : Int32) + (2 : Int32) * nI (sW σ) + 1 = nI (343 + 2 * sW σ) := by rw [g1, nI_1]; congr 1; omega
        rw [g1, clamp_nI (by omega)]
        refine ⟨vp_nI (by rw [a53]; omega) (by decide +kernel), ?_⟩
        rintro M5 rfl
        have f2 : mset (mset (mset (mset M (1 + 7) (sW σ) (nI a)) (1 + 8) (sW σ) (nI d)) 1 13 (mset (mset M (1 + 7) (sW σ) (nI a)) (1 + 8) (sW σ) (nI d) 1 13 + 1)) 53 (342 + 2 * sW σ) (nI a) 53 341 = nI (sW σ) := by
          have : ¬ 341 = 342 + 2 * sW σ := by omega
          simp [mset, mrow, upd, this, e2]
        rw [f2, g2, clamp_nI (by omega)]
        refine ⟨vp_nI (by rw [a53]; omega) (by decide +kernel), ?_⟩
        rintro M6 rfl
        rintro M7 rfl
        have n341 : ¬ 341 = 342 + 2 * sW σ := by omega
        have n341' : ¬ 341 = 343 + 2 * sW σ := by omega
        refine ⟨by simp [mset, mrow, upd, n341, n341', e1, e2], ?_⟩
        refine Rel.step (σ' := uW σ (sW σ + 1) (fun i => if i = sW σ then a else sP σ i) (fun i => if i = sW σ then d else sX σ i)) hR (hS.uW (by omega) (fun i hi => ?_)) ?_ ?_ hr him hsh htx ?_ ?_ ?_
        · by_cases q : i = sW σ
          · simp only [q, if_true]; omega
          · simp only [q, if_false]; exact hS.2.2.2.2.2.2.2.2.2.2.1 i (by omega)
        · refine hc.seen _ _ _ (fun k h1 h2 => ?_) (fun j hj => ?_) ?_ (fun i hi => ?_)
          · have a1 : k ≠ 53 := by omega
            have a2 : k ≠ 1 := by omega
            have a3 : k ≠ 8 := by omega
            have a4 : k ≠ 9 := by omega
            simp [mset, mrow, a1, a2, a3, a4]
          · simp [mset, mrow, upd, hj]
          · simp [mset, mrow, upd, e1, nI_1]
          · by_cases q : i = sW σ
            · subst q; simp [mset, mrow, upd]
            · have := hc.2.2.2.2.2.2.2.2.2.2.1 i (by omega)
              simp [mset, mrow, upd, q]
              exact this
        · refine hm.seen hS.n3 hS.z12 _ _ _ (fun j hj => ?_) ?_ (fun i hi => ?_)
          · have a1 : j ≠ 341 := by omega
            have a2 : j ≠ 342 + 2 * sW σ := by omega
            have a3 : j ≠ 343 + 2 * sW σ := by omega
            simp [mset, mrow, upd, a1, a2, a3]
          · simp [mset, mrow, upd, n341, n341', e2, nI_1]
          · have b1 : ¬ 342 + 2 * i = 341 := by omega
            have b2 : ¬ 343 + 2 * i = 341 := by omega
            have b3 : ¬ 342 + 2 * i = 343 + 2 * sW σ := by omega
            have b4 : ¬ 343 + 2 * i = 342 + 2 * sW σ := by omega
            by_cases q : i = sW σ
            · subst q; simp [mset, mrow, upd, b1, b2, b3, b4]
            · have b5 : ¬ 342 + 2 * i = 342 + 2 * sW σ := by omega
              have b6 : ¬ 343 + 2 * i = 343 + 2 * sW σ := by omega
              have := hm.2.2.2.2.2.2.2.2.2.2.1 i (by omega)
              rw [Nat.zero_add, Nat.zero_add] at this
              simp only [mset, mrow, upd, q, b1, b2, b3, b4, b5, b6, if_true, if_false]
              exact this
        · intro k hk
          have h1 : k ≠ 1 := by unfold keepP at hk; omega
          have h2 : k ≠ 53 := by unfold keepP at hk; omega
          have h3 : k ≠ 8 := by unfold keepP at hk; omega
          have h4 : k ≠ 9 := by unfold keepP at hk; omega
          simp [mset, mrow, h1, h2, h3, h4]
        · intro k hk
          have h1 : k ≠ 341 := by omega
          have h2 : k ≠ 342 + 2 * sW σ := by omega
          have h3 : k ≠ 343 + 2 * sW σ := by omega
          simp [mset, mrow, upd, h1, h2, h3]
        · simp [mset, mrow]
      · refine br_f (fun q => hw ((nI_ltI (b := 12) (by omega) (by omega)).mp q)) ?_
        unfold wX5_saw
        refine m_in32 0 999 rfl rfl (zt2 hp (m_in32 0 9999 rfl rfl (zt1 hp2 ?_)))
        rw [e2]
        exact br_nt (by rw [show sW σ = 12 by omega]; rfl) ⟨rfl, h⟩
    · refine zf1 hp2 ?_
      unfold wX5_saw
      exact m_in32 0 999 rfl rfl (zt2 hp (m_in32 0 9999 rfl rfl (zf1 hp2 ⟨rfl, h⟩)))
  · refine zf2 hp ?_
    unfold wX5_saw
    exact m_in32 0 999 rfl rfl (zf2 hp ⟨rfl, h⟩)
