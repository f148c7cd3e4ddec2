theorem L_mark {M : MM} (h : Rel M) (x : Int32) : wX4_mark (fun r M1 => wX5_mark (PQ r) M1 x) M x := by
  obtain ⟨R, σ, hR, hS, hc, hm, hr, him, hsh, htx⟩ := id h
  have h12 := hS.2.1
  unfold wX4_mark
  rw [show M 1 8 = nI (sN σ) from hc.2.1]
  refine s_isBetween.mpr ?_
  by_cases hp : (0 : Int32) ≤ x ∧ x ≤ nI (sN σ)
  · refine zt1 hp ?_
    obtain ⟨k, hk, rfl⟩ := pl_of (by omega) hp
    refine s_hasRoomAt (n := 0) hR hS hc hk (by omega) (fun hrm => o_n1 ?_) (fun hrm => o_n0 ?_)
    · refine s_writeAt (n := 0) (T := sT σ) hR hS hc hk (by omega) hrm (fun i hi => by omega) (fun M' hc' hk' => ?_)
      have m53 : M' 53 = M 53 := hk' 53 (by decide) (by decide) (by decide) (by decide) (by decide)
      have hm' : mdT M' 0 σ := hm.keep m53
      unfold wX5_mark
      dsimp only
      rw [hm'.2.1]
      refine m_in32 0 (nI (sN σ)) rfl rfl (zt2 hp ?_)
      refine m_writes (n := 0) (T := sT σ) hR hS (hr.keep (hk' 55 (by decide) (by decide) (by decide) (by decide) (by decide))) hm' hk (by omega) (fun i hi => by omega) (fun _ M2 hm2 k2 k3 => ⟨rfl, ?_⟩) (fun q => absurd hrm q)
      refine Rel.step hR (hS.wr hk (by omega) hrm (fun i hi => by omega)) (hc'.keep (fun i hi => k2 _ (by omega))) hm2 hr him hsh htx (fun a ha => ?_) (fun j hj => ?_) ?_
      · unfold keepP at ha
        rw [k2 a (by omega), hk' a (by omega) (by omega) (by omega) (by omega) (by omega)]
      · rw [k3 j hj, m53]
      · rw [k2 52 (by decide), hk' 52 (by decide) (by decide) (by decide) (by decide) (by decide)]; exact ⟨rfl, rfl, rfl⟩
    · unfold wX5_mark
      dsimp only
      rw [hm.2.1]
      exact m_in32 0 (nI (sN σ)) rfl rfl (zt2 hp (m_writes (n := 0) (T := sT σ) hR hS hr hm hk (by omega) (fun i hi => by omega) (fun q => absurd q hrm) (fun _ => ⟨rfl, h⟩)))
  · refine zf1 hp ?_
    unfold wX5_mark
    dsimp only
    rw [hm.2.1]
    exact m_in32 0 (nI (sN σ)) rfl rfl (zf2 hp ⟨rfl, h⟩)
theorem mset_id {M : MM} {k j : Nat} : mset M k j (M k j) = M := by
  funext a i
  by_cases e : a = k
  · subst e
    by_cases e2 : i = j
    · subst e2; rw [mset_ss]
    · rw [mset_sn e2]
  · rw [mset_n e]
theorem L_write {M : MM} (h : Rel M) (x : Int32) : wX4_write (fun r M1 => wX5_write (PQ r) M1 x) M x := by
  obtain ⟨R, σ, hR, hS, hc, hm, hr, him, hsh, htx⟩ := id h
  have h12 := hS.2.1
  have hY := hS.n3.2.1
  have e11 : M 1 11 = nI (sY σ) := hc.2.2.2.2.2.2.2.1
  have m11 : M 53 327 = nI (sY σ) := hm.2.2.2.2.2.2.2.1
  have hT : ∀ i, i < sY σ → sT σ i < 256 ∧ M 7 i = nI (sT σ i) := fun i hi => ⟨hS.2.2.2.2.2.2.2.2.1 i hi, hc.2.2.2.2.2.2.2.2.1 i hi⟩
  -- what is typed is laid aside
  have spare : ∀ (Q : Int32 → MM → Prop) (M' : MM) (k : Nat), M' 53 = M 53 → (∀ M2, (∀ a, a ≠ 60 → M2 a = M' a) → (∀ i, i < sY σ → M2 60 i = nI (sT σ i)) → wX5_writes (fun r3 M4 => (0 ≤ r3 → wX5_write_105 Q (nI k) M4 r3 0 327) ∧ (¬ 0 ≤ r3 → wX5_write_105 Q (nI k) M4 r3 (M4 53 327) 327)) M2 (nI k) (nI (sY σ))) → ∀ r i (M2 : MM), i + r = sY σ → (∀ a, a ≠ 60 → M2 a = M' a) → (∀ j, j < i → M2 60 j = nI (sT σ j)) → wX5_write_34 Q (nI k) (r + 1) M2 (nI i) := by
    intro Q M' k e53 fin r
    induction r with
    | zero =>
      intro i M2 hi k1 k2
      have : i = sY σ := by omega
      subst this
      unfold wX5_write_34
      rw [show M2 53 327 = nI (sY σ) by rw [k1 53 (by decide), e53]; exact m11]
      exact br_t (nI_le (Nat.le_refl _) (by omega)) (fin M2 k1 k2)
    | succ r ih =>
      intro i M2 hi k1 k2
      unfold wX5_write_34
      have g := hm.2.2.2.2.2.2.2.2.1 i (by omega)
      rw [Nat.zero_add] at g
      rw [show M2 53 327 = nI (sY σ) by rw [k1 53 (by decide), e53]; exact m11, show (328 : Int32) = nI 328 from rfl, nI_add, clamp_nI (n := 328 + i) (by omega), clamp_nI (n := i) (by omega)]
      refine br_f (fun q => ?_) ⟨v53 (by omega), v60 (by omega), ?_⟩
      · have := (nI_leI (by omega) (by omega)).mp q; omega
      rintro _ rfl
      rw [nI_1]
      refine ih (i + 1) _ (by omega) (fun a q => by rw [mset_n q]; exact k1 a q) (fun j hj => ?_)
      by_cases e : j = i
      · subst e; rw [mset_ss, k1 53 (by decide), e53]; exact g
      · rw [mset_sn e]; exact k2 j (by omega)
  have i105 : ∀ (Q : Int32 → MM → Prop) (v : Int32) (M4 : MM) (r p : Int32), Q r (mset M4 53 327 p) → wX5_write_105 Q v M4 r p 327 := by
    intro Q v M4 r p hq
    refine ⟨v53 (n := 327) (by omega), ?_⟩
    rintro _ rfl
    exact hq
  unfold wX4_write
  rw [show M 1 8 = nI (sN σ) from hc.2.1]
  refine s_isBetween.mpr ?_
  by_cases hp : (0 : Int32) ≤ x ∧ x ≤ nI (sN σ)
  · refine zt1 hp ?_
    obtain ⟨k, hk, rfl⟩ := pl_of (by omega) hp
    dsimp only
    rw [e11]
    by_cases hy : sY σ = 0
    · refine br_nt (by rw [hy]; rfl) ?_
      unfold wX5_write
      rw [hm.2.1]
      refine m_in32 0 (nI (sN σ)) rfl rfl (zt1 hp ?_)
      rw [m11]
      exact br_nt (by rw [hy]; rfl) ⟨rfl, h⟩
    · have hy0 : ¬ nI (sY σ) = 0 := fun q => hy ((nI_eq (b := 0) (by omega) (by omega)).mp q)
      refine br_nf hy0 (s_hasRoomAt hR hS hc hk hY (fun hrm => o_n1 ?_) (fun hrm => o_n0 ?_))
      · rw [e11]
        refine s_writeAt (T := sT σ) hR hS hc hk hY hrm hT (fun M' hc' hk' => ?_)
        rintro _ rfl
        have m53 : M' 53 = M 53 := hk' 53 (by decide) (by decide) (by decide) (by decide) (by decide)
        have m53' : mset M' 1 11 0 53 = M 53 := by rw [mset_n (by decide)]; exact m53
        have hm' : mdT (mset M' 1 11 0) 0 σ := hm.keep m53'
        have hcf : clT (mset M' 1 11 0) 1 R (uY (wrS R σ k (sY σ) (sT σ)) 0 (fun _ => 0)) := by
          refine hc'.typed _ _ (fun a h1 h2 h3 => ?_) (fun j hj => ?_) ?_ (fun i hi => by omega)
          · rw [mset_n (by omega)]
          · rw [mset_sn hj]
          · rw [mset_ss]; rfl
        unfold wX5_write
        rw [hm'.2.1]
        refine m_in32 0 (nI (sN σ)) rfl rfl (zt1 hp ?_)
        rw [show mset M' 1 11 0 53 327 = nI (sY σ) by rw [m53']; exact m11]
        refine br_nf hy0 ⟨sY σ + 1, spare _ _ k m53' (fun M2 k1 k2 => ?_) (sY σ) 0 _ (by omega) (fun _ _ => rfl) (fun _ q => by omega)⟩
        have hm2 : mdT M2 0 σ := hm'.keep (k1 53 (by decide))
        have m55 : M2 55 = M 55 := by rw [k1 55 (by decide), mset_n (by decide)]; exact hk' 55 (by decide) (by decide) (by decide) (by decide) (by decide)
        refine m_writes (T := sT σ) hR hS (hr.keep m55) hm2 hk hY (fun i hi => ⟨(hT i hi).1, k2 i hi⟩) (fun _ M3 hm3 k3 k4 => ?_) (fun q => absurd hrm q)
        have htk := tkN_lt hR hS hY hrm
        refine br_t (nI_pos' (by omega)) (i105 _ _ _ _ _ ⟨rfl, ?_⟩)
        have hSw := hS.wr hk hY hrm (fun i hi => (hT i hi).1)
        refine Rel.step hR (hSw.uY (y := 0) (t := fun _ => 0) (by omega) (fun i hi => by omega)) (hcf.keep (fun i hi => ?_)) ?_ hr him hsh htx (fun a ha => ?_) (fun j hj => ?_) ?_
        · rw [mset_n (by omega), k3 _ (by omega), k1 _ (by omega)]
        · refine hm3.typed hSw.n3 hSw.z12 0 _ (fun j hj => ?_) ?_ (fun i hi => by omega)
          · rw [mset_sn (by omega)]
          · rw [mset_ss]; rfl
        · unfold keepP at ha
          rw [mset_n (by omega), k3 a (by omega), k1 a (by omega), mset_n (by omega), hk' a (by omega) (by omega) (by omega) (by omega) (by omega)]
        · rw [mset_sn (by omega), k4 j hj, k1 53 (by decide), m53']
        · rw [mset_n (by decide), k3 52 (by decide), k1 52 (by decide), mset_n (by decide), hk' 52 (by decide) (by decide) (by decide) (by decide) (by decide)]; exact ⟨rfl, rfl, rfl⟩
      · unfold wX5_write
        rw [hm.2.1]
        refine m_in32 0 (nI (sN σ)) rfl rfl (zt1 hp ?_)
        rw [m11]
        refine br_nf hy0 ⟨sY σ + 1, spare _ _ k rfl (fun M2 k1 k2 => ?_) (sY σ) 0 _ (by omega) (fun _ _ => rfl) (fun _ q => by omega)⟩
        refine m_writes (T := sT σ) hR hS (hr.keep (k1 55 (by decide))) (hm.keep (k1 53 (by decide))) hk hY (fun i hi => ⟨(hT i hi).1, k2 i hi⟩) (fun q => absurd q hrm) (fun _ => ?_)
        refine br_f (by decide) (i105 _ _ _ _ _ ⟨rfl, ?_⟩)
        rw [mset_id]
        exact h.scr (fun a ha => k1 a (by omega))
  · refine zf1 hp ?_
    unfold wX5_write
    dsimp only
    rw [hm.2.1]
    exact m_in32 0 (nI (sN σ)) rfl rfl (zf1 hp ⟨rfl, h⟩)
