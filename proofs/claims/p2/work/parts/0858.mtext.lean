-- ===== the reference's draft's end; what is kept of it =====
theorem m_draftEnd {Q : Int32 → MM → Prop} {M : MM} {D : DD} (hd : dfM M D) (ok : okD D) (hq : Q (nI (enD D (dN D))) M) : wX5_draftEnd Q M := by
  have hN := ok.2.1
  have h7 := ok.1 7 (by omega)
  have l7 : loN 7 = 1 := rfl
  have u7 : hiN 7 = 9 := rfl
  have loop : ∀ r j, j + r = dN D → wX5_draftEnd_4 Q (r + 1) M (nI (enD D j)) (nI j) := by
    intro r
    induction r with
    | zero =>
      intro j hj
      have : j = dN D := by omega
      subst this
      refine br_t ?_ hq
      rw [hd.2.1]; exact nI_le (Nat.le_refl _) (by omega)
    | succ r ih =>
      intro j hj
      have hz := ok.2.2.1 j (by omega)
      unfold wX5_draftEnd_4
      rw [hd.2.1, nI_leI (by omega) (by omega), clamp_nI (by omega), hd.2.2.1 j (by omega), hd.1 7 (by omega), hd.1 6 (by omega)]
      refine br_f (by omega) ⟨vp_nI (by rw [a5x.2.1]; omega) (by rw [a5x.2.1]; decide), ?_⟩
      have go : ∀ p0 : Int32, p0 = nI (lgN (dR D) (dZ D j)) → wX5_draftEnd_55 Q (fun M v1 v2 => wX5_draftEnd_4 Q (r + 1) M v1 v2) M (nI j) p0 (nI (dR D 6)) (nI (enD D j)) := by
        rintro _ rfl
        unfold wX5_draftEnd_55
        rintro _ rfl
        rw [nI_add, nI_add, nI_1]
        have g := ih (j + 1) (by omega)
        have e : enD D (j + 1) = enD D j + (dR D 6 + lgN (dR D) (dZ D j)) := by
          show enD D j + dR D 6 + lgN (dR D) (dZ D j) = _
          omega
        rw [e] at g
        exact g
      rw [show (0 : Int32) = nI 0 from rfl, nI_eq (by omega) (by omega), nI_eq (by omega) (by omega)]
      by_cases z : dZ D j = 0
      · refine br_nt z (go 1 ?_)
        unfold lgN; rw [if_pos z]; rfl
      · refine br_nf z ⟨vp_nI (by rw [a5x.2.1]; omega) (by rw [a5x.2.1]; decide), by omega, go _ ?_⟩
        rw [nI_add, pk_div (by omega) (by omega) (by omega)]
        unfold lgN; rw [if_neg z]
  exact ⟨dN D + 1, loop (dN D) 0 (by omega)⟩
theorem m_firstDraft {Q : MM → Prop} {M : MM} (hq : ∀ M', (∀ a, a ≠ 52 → a ≠ 56 → M' a = M a) → (∀ j, j ≠ 4 → j ≠ 7 → M' 52 j = M 52 j) → (∀ r, r < 9 → M' 56 r = nI (rF r)) → M' 52 4 = 0 → M' 52 7 = 0 → Q M') : wX5_firstDraft Q M := by
  unfold wX5_firstDraft
  rintro _ rfl _ rfl _ rfl _ rfl _ rfl _ rfl _ rfl _ rfl _ rfl _ rfl _ rfl
  refine hq _ (fun a a1 a2 => by rw [mset_n a1, mset_n a1, mset_n a2, mset_n a2, mset_n a2, mset_n a2, mset_n a2, mset_n a2, mset_n a2, mset_n a2, mset_n a2]) (fun j j1 j2 => by rw [mset_sn j2, mset_sn j1]; simp [mset, mrow]) (fun r hr => ?_) (by rw [mset_sn (by decide), mset_ss]) mset_ss
  rw [mset_n (by decide), mset_n (by decide)]
  rcases (by omega : r = 0 ∨ r = 1 ∨ r = 2 ∨ r = 3 ∨ r = 4 ∨ r = 5 ∨ r = 6 ∨ r = 7 ∨ r = 8) with rfl | rfl | rfl | rfl | rfl | rfl | rfl | rfl | rfl <;> simp [mset, mrow, upd] <;> rfl
/-- what stands of the draft when b blocks are laid -/
def kdI (M0 M : MM) (D : DD) (b : Nat) : Prop := (∀ a, a ≠ 53 → a ≠ 60 → M a = M0 a) ∧ (∀ j, 400 ≤ j → M 53 j = M0 53 j) ∧ M 53 0 = nI b ∧ (∀ j, j < b → M 53 (1 + j) = nI (bgD D j)) ∧ (∀ j, j < b → M 53 (13 + j) = nI (dZ D j)) ∧ (∀ j, j < b → ∀ i, i < dZ D j → M 53 (25 + 13 * j + i) = nI (odN (dY D (12 * j + i)))) ∧ (∀ j, j < b → M 53 (25 + 13 * j + dZ D j) = nI (rwN (fun i => dY D (12 * j + i)) (dZ D j))) ∧ (∀ j, j < b → ∀ i, i < dZ D j → M 53 (181 + 12 * j + i) = nI (dY D (12 * j + i))) ∧ M 53 325 = 0 ∧ M 53 326 = 0 ∧ M 53 327 = 0 ∧ M 53 340 = -4 ∧ M 53 341 = 0 ∧ M 53 366 = nI (dR D 0)
theorem m_blocks {Q : MM → Prop} {M0 : MM} {D : DD} (hd : dfM M0 D) (hr : rlT M0 (dR D)) (ok : okD D) (hq : ∀ M', kdI M0 M' D (dN D) → Q M') : ∀ r b M, b + r = dN D → kdI M0 M D b → wX5_keepDraft_88 Q (r + 1) M (nI b) := by
  have hN := ok.2.1
  intro r
  induction r with
  | zero =>
    intro b M hb h
    have : b = dN D := by omega
    subst this
    refine br_t ?_ (hq M h)
    rw [h.1 52 (by decide) (by decide), hd.2.1]; exact nI_le (Nat.le_refl _) (by omega)
  | succ r ih =>
    intro b M hb h
    have hz := ok.2.2.1 b (by omega)
    -- its bytes are laid ready
    have t98 : ∀ s i (M1 : MM), i + s = dZ D b → (∀ a, a ≠ 60 → M1 a = M a) → (∀ j, j < i → M1 60 j = nI (dY D (12 * b + j))) → wX5_keepDraft_98 Q (fun M v1 => wX5_keepDraft_88 Q (r + 1) M v1) (s + 1) M1 (nI b) (nI i) := by
      intro s
      induction s with
      | zero =>
        intro i M1 hi k1 k2
        have : i = dZ D b := by omega
        subst this
        have e57 : M1 57 (nI b).toNatClampNeg = nI (dZ D b) := by
          rw [clamp_nI (by omega), k1 57 (by decide), h.1 57 (by decide) (by decide)]; exact hd.2.2.1 b (by omega)
        unfold wX5_keepDraft_98
        rw [e57]
        refine ⟨vp_nI (by rw [a5x.2.1]; omega) (by rw [a5x.2.1]; decide), br_t (nI_le (Nat.le_refl _) (by omega)) ⟨vp_nI (by rw [a5x.2.1]; omega) (by rw [a5x.2.1]; decide), ?_⟩⟩
        have hr1 : rlT M1 (dR D) := hr.keep (by rw [k1 55 (by decide), h.1 55 (by decide) (by decide)])
        obtain ⟨i1, i2, i3, i4, i5, i6, i7, i8, i9, i10, i11, i12, i13, i14⟩ := id h
        have k53 : M1 53 = M 53 := k1 53 (by decide)
        refine m_lays (k := b) (n := dZ D b) (bg := bgD D b) (T := fun i => dY D (12 * b + i)) (by omega) hz (by rw [k53]; exact i3) (fun i hi => ⟨ok.2.2.2.1 b (by omega) i hi, k2 i hi⟩) (fun Q hQ => ?_) (fun M2 hp => ?_)
        · unfold wX5_beginOf
          rw [hr1 6 (by omega) (by omega), show (0 : Int32) = nI 0 from rfl, nI_eq (by omega) (by omega)]
          cases b with
          | zero =>
            refine br_nt rfl ?_
            rw [nI_add]
            have e : dR D 6 + 0 = bgD D 0 := by
              show dR D 6 + 0 = 0 + dR D 6
              omega
            rw [e]; exact hQ
          | succ k =>
            refine br_nf (by omega) ?_
            rw [nI_sub1 (by omega), Nat.add_sub_cancel]
            have hz2 := ok.2.2.1 k (by omega)
            refine m_endRaw (B := bgD D k) (Z := dZ D k) ok.R.1 hr1 (by omega) (by rw [k53]; exact i4 k (by omega)) (by rw [k53]; exact i5 k (by omega)) (by omega) ?_
            rw [nI_add]
            have e : dR D 6 + (bgD D k + lgN (dR D) (dZ D k)) = bgD D (k + 1) := by
              show dR D 6 + (enD D k + dR D 6 + _) = enD D k + dR D 6 + lgN (dR D) (dZ D k) + dR D 6
              omega
            rw [e]; exact hQ
        · obtain ⟨p1, p2, p3, p4, p5, p6, p7, p8⟩ := hp
          have hb12 : b < 12 := by omega
          rw [nI_1]
          refine ih (b + 1) M2 (by omega) ⟨fun a a1 a2 => by rw [p1 a a1, k1 a a2]; exact i1 a a1 a2, fun j hj => by rw [p8 j (by omega) (by omega) (by omega) (by omega) (by omega), k53]; exact i2 j hj, p2, fun j hj => ?_, fun j hj => ?_, fun j hj u hu => ?_, fun j hj => ?_, fun j hj u hu => ?_, ?_, ?_, ?_, ?_, ?_, ?_⟩
          · by_cases e : j = b
            · subst e; exact p3
            · rw [p8 _ (by omega) (by omega) (by omega) (by omega) (by omega), k53]; exact i4 j (by omega)
          · by_cases e : j = b
            · subst e; exact p4
            · rw [p8 _ (by omega) (by omega) (by omega) (by omega) (by omega), k53]; exact i5 j (by omega)
          · by_cases e : j = b
            · subst e; exact p5 u hu
            · have := ok.2.2.1 j (by omega)
              rw [p8 _ (by omega) (by omega) (by omega) (by omega) (by omega), k53]; exact i6 j (by omega) u hu
          · by_cases e : j = b
            · subst e; exact p6
            · have := ok.2.2.1 j (by omega)
              rw [p8 _ (by omega) (by omega) (by omega) (by omega) (by omega), k53]; exact i7 j (by omega)
          · by_cases e : j = b
            · subst e; exact p7 u hu
            · have := ok.2.2.1 j (by omega)
              rw [p8 _ (by omega) (by omega) (by omega) (by omega) (by omega), k53]; exact i8 j (by omega) u hu
          · rw [p8 _ (by omega) (by omega) (by omega) (by omega) (by omega), k53]; exact i9
          · rw [p8 _ (by omega) (by omega) (by omega) (by omega) (by omega), k53]; exact i10
          · rw [p8 _ (by omega) (by omega) (by omega) (by omega) (by omega), k53]; exact i11
          · rw [p8 _ (by omega) (by omega) (by omega) (by omega) (by omega), k53]; exact i12
          · rw [p8 _ (by omega) (by omega) (by omega) (by omega) (by omega), k53]; exact i13
          · rw [p8 _ (by omega) (by omega) (by omega) (by omega) (by omega), k53]; exact i14
      | succ s ih2 =>
        intro i M1 hi k1 k2
        have e57 : M1 57 (nI b).toNatClampNeg = nI (dZ D b) := by
          rw [clamp_nI (by omega), k1 57 (by decide), h.1 57 (by decide) (by decide)]; exact hd.2.2.1 b (by omega)
        unfold wX5_keepDraft_98
        rw [e57, nI_leI (by omega) (by omega)]
        refine ⟨vp_nI (by rw [a5x.2.1]; omega) (by rw [a5x.2.1]; decide), br_f (by omega) ?_⟩
        rw [show (12 : Int32) = nI 12 from rfl, pk_mul, nI_add, clamp_nI (n := 12 * b + i) (by omega), clamp_nI (n := i) (by omega)]
        refine ⟨vp_nI (by rw [a5x.2.2.1]; omega) (by rw [a5x.2.2.1]; decide), v60 (by omega), ?_⟩
        rintro _ rfl
        rw [k1 58 (by decide), h.1 58 (by decide) (by decide), hd.2.2.2 b (by omega) i (by omega), nI_1]
        refine ih2 (i + 1) _ (by omega) (fun a ha => by rw [mset_n ha]; exact k1 a ha) (fun j hj => ?_)
        by_cases e : j = i
        · subst e; rw [mset_ss]
        · rw [mset_sn e]; exact k2 j (by omega)
    unfold wX5_keepDraft_88
    rw [h.1 52 (by decide) (by decide), hd.2.1, nI_leI (by omega) (by omega)]
    exact br_f (by omega) ⟨dZ D b + 1, t98 (dZ D b) 0 M (by omega) (fun _ _ => rfl) (fun j hj => absurd hj (Nat.not_lt_zero _))⟩
theorem mdT_dS {M0 M : MM} {D : DD} (ok : okD D) (h : kdI M0 M D (dN D)) : mdT M 0 (dS D) := by
  obtain ⟨i1, i2, i3, i4, i5, i6, i7, i8, i9, i10, i11, i12, i13, i14⟩ := h
  refine ⟨i14, i3, i9, fun j hj => ?_, fun j hj => ?_, fun j hj i hi => ?_, fun j hj i hi => ?_, i11, fun i hi => absurd hi (Nat.not_lt_zero _), i13, fun i hi => absurd hi (Nat.not_lt_zero _), i10, i12⟩
  · rw [Nat.zero_add]; exact i4 j hj
  · rw [Nat.zero_add]; exact i5 j hj
  · have hz := ok.2.2.1 j hj
    have hi' : i ≤ dZ D j := hi
    rw [Nat.zero_add, show 25 + (j * 13 + i) = 25 + 13 * j + i by omega]
    show M 53 (25 + 13 * j + i) = nI (if (j * 13 + i) % 13 < dZ D ((j * 13 + i) / 13) then odN (dY D (12 * ((j * 13 + i) / 13) + (j * 13 + i) % 13)) else rwN (fun i' => dY D (12 * ((j * 13 + i) / 13) + i')) (dZ D ((j * 13 + i) / 13)))
    rw [show (j * 13 + i) / 13 = j by omega, show (j * 13 + i) % 13 = i by omega]
    by_cases e : i < dZ D j
    · rw [if_pos e]; exact i6 j hj i e
    · rw [if_neg e]
      have : i = dZ D j := by omega
      subst this
      exact i7 j hj
  · rw [Nat.zero_add, show 181 + (j * 12 + i) = 181 + 12 * j + i by omega]
    show M 53 (181 + 12 * j + i) = nI (dY D (j * 12 + i))
    rw [show j * 12 + i = 12 * j + i by omega]
    exact i8 j hj i hi
theorem m_keepDraft {Q : MM → Prop} {M : MM} {D : DD} (hd : dfM M D) (ok : okD D) (hq : ∀ M', mdT M' 0 (dS D) → (∀ r, r < 9 → M' 55 r = nI (dR D r)) → M' 54 0 = 0 → M' 54 1 = 0 → (∀ a, a ≠ 53 → a ≠ 54 → a ≠ 55 → a ≠ 60 → M' a = M a) → (∀ j, 400 ≤ j → M' 53 j = M 53 j) → Q M') : wX5_keepDraft Q M := by
  have hN := ok.2.1
  -- the rest, behind the emptied row
  have t28 : ∀ (M1 : MM), (∀ a, a ≠ 53 → a ≠ 55 → M1 a = M a) → (∀ r, r < 9 → M1 55 r = nI (dR D r)) → (∀ j, j < 400 → M1 53 j = 0) → (∀ j, 400 ≤ j → M1 53 j = M 53 j) → ∀ M2, M2 = mset M1 53 340 (-4) → ∀ M3, M3 = mset M2 53 366 (M2 55 0) → ∀ M4, M4 = mset M3 54 0 0 → ∀ M5, M5 = mset M4 54 1 0 → ∃ m, wX5_keepDraft_88 Q m M5 0 := by
    rintro M1 k1 k2 k3 k4 _ rfl _ rfl _ rfl _ rfl
    rw [show mset M1 53 340 (-4) 55 0 = nI (dR D 0) by rw [mset_n (by decide)]; exact k2 0 (by omega)]
    have ka : ∀ a, a ≠ 53 → a ≠ 54 → mset (mset (mset (mset M1 53 340 (-4)) 53 366 (nI (dR D 0))) 54 0 0) 54 1 0 a = M1 a := fun a a1 a2 => by rw [mset_n a2, mset_n a2, mset_n a1, mset_n a1]
    have kj : ∀ j, j ≠ 340 → j ≠ 366 → mset (mset (mset (mset M1 53 340 (-4)) 53 366 (nI (dR D 0))) 54 0 0) 54 1 0 53 j = M1 53 j := fun j j1 j2 => by rw [mset_n (by decide), mset_n (by decide), mset_sn j2, mset_sn j1]
    have hd5 : dfM (mset (mset (mset (mset M1 53 340 (-4)) 53 366 (nI (dR D 0))) 54 0 0) 54 1 0) D := hd.keep (fun a ha => by rw [ka a (by omega) (by omega), k1 a (by omega) (by omega)]) (by rw [ka 52 (by decide) (by decide), k1 52 (by decide) (by decide)])
    have hr5 : rlT (mset (mset (mset (mset M1 53 340 (-4)) 53 366 (nI (dR D 0))) 54 0 0) 54 1 0) (dR D) := fun r _ hr => by rw [ka 55 (by decide) (by decide)]; exact k2 r hr
    refine ⟨dN D + 1, m_blocks hd5 hr5 ok (fun M' h => ?_) (dN D) 0 _ (by omega) ⟨fun _ _ _ => rfl, fun _ _ => rfl, ?_, fun j hj => absurd hj (Nat.not_lt_zero _), fun j hj => absurd hj (Nat.not_lt_zero _), fun j hj => absurd hj (Nat.not_lt_zero _), fun j hj => absurd hj (Nat.not_lt_zero _), fun j hj => absurd hj (Nat.not_lt_zero _), ?_, ?_, ?_, ?_, ?_, ?_⟩⟩
    · refine hq M' (mdT_dS ok h) (fun r hr => by rw [h.1 55 (by decide) (by decide), ka 55 (by decide) (by decide)]; exact k2 r hr) ?_ ?_ (fun a a1 a2 a3 a4 => by rw [h.1 a a1 a4, ka a a1 a2]; exact k1 a a1 a3) (fun j hj => by rw [h.2.1 j hj, kj j (by omega) (by omega)]; exact k4 j hj)
      · rw [h.1 54 (by decide) (by decide), mset_sn (by decide), mset_ss]
      · rw [h.1 54 (by decide) (by decide), mset_ss]
    · rw [kj 0 (by decide) (by decide)]; exact k3 0 (by omega)
    · rw [kj 325 (by decide) (by decide)]; exact k3 325 (by omega)
    · rw [kj 326 (by decide) (by decide)]; exact k3 326 (by omega)
    · rw [kj 327 (by decide) (by decide)]; exact k3 327 (by omega)
    · rw [mset_n (by decide), mset_n (by decide), mset_sn (by decide), mset_ss]
    · rw [kj 341 (by decide) (by decide)]; exact k3 341 (by omega)
    · rw [mset_n (by decide), mset_n (by decide), mset_ss]
  -- the row is emptied
  have t20 : ∀ (M0 : MM), (∀ a, a ≠ 55 → M0 a = M a) → (∀ r, r < 9 → M0 55 r = nI (dR D r)) → ∀ r i (M1 : MM), i + r = 400 → (∀ a, a ≠ 53 → M1 a = M0 a) → (∀ j, j < i → M1 53 j = 0) → (∀ j, i ≤ j → M1 53 j = M0 53 j) → wX5_keepDraft_28 Q (r + 1) M1 (nI i) := by
    intro M0 q1 q2 r
    induction r with
    | zero =>
      intro i M1 hi k1 k2 k3
      have : i = 400 := by omega
      subst this
      refine br_t (by decide +kernel) (t28 M1 (fun a a1 a2 => by rw [k1 a a1]; exact q1 a a2) (fun r hr => by rw [k1 55 (by decide)]; exact q2 r hr) k2 (fun j hj => by rw [k3 j hj, q1 53 (by decide)]))
    | succ r ih =>
      intro i M1 hi k1 k2 k3
      unfold wX5_keepDraft_28
      rw [show (400 : Int32) = nI 400 from rfl, nI_leI (by omega) (by omega), clamp_nI (by omega)]
      refine br_f (by omega) ⟨v53 (by omega), ?_⟩
      rintro _ rfl
      rw [nI_1]
      refine ih (i + 1) _ (by omega) (fun a ha => by rw [mset_n ha]; exact k1 a ha) (fun j hj => ?_) (fun j hj => by rw [mset_sn (by omega)]; exact k3 j (by omega))
      by_cases e : j = i
      · subst e; rw [mset_ss]
      · rw [mset_sn e]; exact k2 j (by omega)
  -- the rules
  have t2 : ∀ r i (M1 : MM), i + r = 9 → (∀ a, a ≠ 55 → M1 a = M a) → (∀ j, j < i → M1 55 j = nI (dR D j)) → wX5_keepDraft_2 Q (r + 1) M1 (nI i) := by
    intro r
    induction r with
    | zero =>
      intro i M1 hi k1 k2
      have : i = 9 := by omega
      subst this
      exact br_t (by decide +kernel) ⟨401, t20 M1 k1 k2 400 0 M1 (by omega) (fun _ _ => rfl) (fun j hj => absurd hj (Nat.not_lt_zero _)) (fun _ _ => rfl)⟩
    | succ r ih =>
      intro i M1 hi k1 k2
      unfold wX5_keepDraft_2
      rw [show (9 : Int32) = nI 9 from rfl, nI_leI (by omega) (by omega), clamp_nI (by omega)]
      refine br_f (by omega) ⟨vp_nI (by rw [a5x.1]; omega) (by rw [a5x.1]; decide), vp_nI (by rw [a5x.2.2.2]; omega) (by rw [a5x.2.2.2]; decide), ?_⟩
      rintro _ rfl
      rw [nI_1]
      refine ih (i + 1) _ (by omega) (fun a ha => by rw [mset_n ha]; exact k1 a ha) (fun j hj => ?_)
      by_cases e : j = i
      · subst e; rw [mset_ss, k1 56 (by decide)]; exact hd.1 j (by omega)
      · rw [mset_sn e]; exact k2 j (by omega)
  exact ⟨10, t2 9 0 M (by omega) (fun _ _ => rfl) (fun j hj => absurd hj (Nat.not_lt_zero _))⟩
-- ===== the reference's text =====
/-- what a text leaves of all else -/
def mfr (M M' : MM) : Prop := (∀ a, a ≠ 52 → a ≠ 53 → a ≠ 54 → a ≠ 55 → a ≠ 56 → a ≠ 57 → a ≠ 58 → a ≠ 60 → M' a = M a) ∧ (∀ j, 400 ≤ j → M' 53 j = M 53 j) ∧ ∀ j, (j < 4 ∨ 16 ≤ j) → M' 52 j = M 52 j
theorem m_75X {Q : Int32 → MM → Prop} {M0 M : MM} {pl : Nat} {v : Int32} (h : mlX M0 M pl) (hq : ∀ M', (∀ a, a ≠ 52 → M' a = M a) → (∀ j, j ≠ 9 → M' 52 j = M 52 j) → M' 52 9 = 0 → Q (((-10) : Int32) - nI pl) M') : wX5_text_75 Q M v := by
  have hgt := h.gt
  unfold wX5_text_75
  rintro _ rfl
  refine br_f (by rw [mset_sn (by decide)]; exact hgt) ?_
  rw [mset_sn (by decide), h.2.2]
  exact hq _ (fun a ha => mset_n ha) (fun j hj => mset_sn hj) mset_ss
theorem m_lines {Q : Int32 → MM → Prop} {M0 : MM} {c : Nat → Nat} {n : Nat} (hl : ltM M0 c n) : ∀ k p D l M, n < p + k → p ≤ n → mlL c n M0 M p D → okD D → tK c n p ≠ 4 → (∀ pl v M', rnL c n k p D l = .inl pl → mlX M0 M' pl → wX5_text_75 Q M' v) → (∀ l' D' M', rnL c n k p D l = .inr (l', D') → fm M0 M' → M' 52 14 = 0 → dfM M' D' → okD D' → enD D' (dN D') ≤ dR D' 0 → wX5_text_75 Q M' (nI l')) → wX5_text_20 Q (k + 1) M (nI l) := by
  have h400 := hl.1
  intro k
  induction k with
  | zero => intro p D l M h1 h2; omega
  | succ k ih =>
    intro p D l M h1 h2 h ok k4 gX gE
    have h' := h
    obtain ⟨hf, ht, e7, e14, hd⟩ := h
    obtain ⟨e10, e11, e12⟩ := ht.1 k4
    have hkl := tK_le c n p
    have heb := tE_b (c := c) h2
    rw [rnL] at gX gE
    unfold wX5_text_20
    refine br_nt e14 ?_
    rw [e12, show (0 : Int32) = nI 0 from rfl, nI_eq (by omega) (by omega)]
    have x44 : ∀ pl M' (v : Int32), mlX M0 M' pl → wX5_text_75 Q M' v → wX5_text_44 Q M' v := by
      intro pl M' v hx g
      unfold wX5_text_44
      exact br_nf hx.ne g
    by_cases k0 : tK c n p = 0
    · rw [if_pos k0] at gX gE
      refine br_t k0 ?_
      have hR0 := ok.R.2
      have hen := enD_le ok (dN D) (Nat.le_refl _)
      have hN := ok.2.1
      unfold wX5_text_44
      refine br_nt e14 (m_draftEnd hd ok ?_)
      rw [hd.1 0 (by omega), nI_ltI (by omega) (by omega)]
      unfold wX5_text_70
      by_cases z : enD D (dN D) ≤ dR D 0
      · rw [if_pos z] at gE
        exact br_f (by omega) (m_needs1 (gE l D M rfl hf e14 hd ok z))
      · rw [if_neg z] at gX
        have eS : tS c n p = n := (tK_0 (c := c) h2 k0).1
        exact br_t (by omega) (m_fault (k := 6) hf e14 rfl (by omega) (by rw [e11, eS]) (fun M' hx => gX n _ M' rfl hx))
    · rw [if_neg k0] at gX gE
      refine br_f k0 (m_readLine hl h2 k0 k4 h' ok ⟨fun pl M' er hx => ?_, fun q D' M' er hL ok' q1 q2 q4 => ?_⟩)
      · rw [er] at gX
        refine br_nf hx.ne (x44 pl M' _ hx (gX pl _ M' rfl hx))
      · rw [er] at gX gE
        rw [nI_1]
        exact ih q D' (l + 1) M' (by omega) q1 hL ok' q4 gX gE
theorem m_text {Q : Int32 → MM → Prop} {M : MM} {c : Nat → Nat} {n : Nat} (hl : ltM M c n) (gX : ∀ pl M', txF c n = .inl pl → (∀ a, a ≠ 52 → a ≠ 56 → a ≠ 57 → a ≠ 58 → M' a = M a) → (∀ j, (j < 4 ∨ 16 ≤ j) → M' 52 j = M 52 j) → M' 52 9 = 0 → Q (((-10) : Int32) - nI pl) M') (gE : ∀ l D M', txF c n = .inr (l, D) → okD D → mdT M' 0 (dS D) → rlT M' (dR D) → M' 54 0 = 0 → M' 54 1 = 0 → mfr M M' → M' 52 9 = 0 → Q (nI l) M') : wX5_text Q M := by
  have h400 := hl.1
  unfold wX5_text
  rintro _ rfl _ rfl
  refine m_firstDraft (fun M1 a1 a2 a3 a4 a5 => ?_)
  have hf : fm M M1 := ⟨fun a b1 b2 b3 b4 => by rw [a1 a b1 b2, mset_n b1, mset_n b1], fun j hj => by rw [a2 j (by omega) (by omega), mset_sn (by omega), mset_sn (by omega)]⟩
  have hd : dfM M1 D0 := ⟨a3, a4, fun j hj => absurd hj (Nat.not_lt_zero _), fun j hj => absurd hj (Nat.not_lt_zero _)⟩
  have e14 : M1 52 14 = 0 := by rw [a2 14 (by decide) (by decide), mset_sn (by decide), mset_ss]
  have e10 : M1 52 10 = nI 0 := by rw [a2 10 (by decide) (by decide), mset_ss]; rfl
  -- both ends
  have fX : ∀ pl M' (v : Int32), txF c n = .inl pl → mlX M M' pl → wX5_text_75 Q M' v := by
    intro pl M' v er hx
    refine m_75X hx (fun M2 b1 b2 b3 => gX pl M2 er (fun a c1 c2 c3 c4 => by rw [b1 a c1]; exact hx.1.1 a c1 c2 c3 c4) (fun j hj => by rw [b2 j (by omega)]; exact hx.1.2 j (by omega)) b3)
  have fE : ∀ l D M', txF c n = .inr (l, D) → fm M M' → M' 52 14 = 0 → dfM M' D → okD D → wX5_text_75 Q M' (nI l) := by
    intro l D M' er f f14 d ok
    unfold wX5_text_75
    rintro _ rfl
    refine br_t (by rw [mset_sn (by decide), f14]; decide) ?_
    have d2 : dfM (mset M' 52 9 0) D := d.keep (fun a ha => mset_n (by omega)) (mset_sn (by decide))
    refine m_keepDraft d2 ok (fun M2 b1 b2 b3 b4 b5 b6 => gE l D M2 er ok b1 (fun r _ hr => b2 r hr) b3 b4 ⟨fun a c1 c2 c3 c4 c5 c6 c7 c8 => ?_, fun j hj => ?_, fun j hj => ?_⟩ ?_)
    · rw [b5 a c2 c3 c4 c8, mset_n c1]; exact f.1 a c1 c5 c6 c7
    · rw [b6 j hj, mset_n (by decide), f.1 53 (by decide) (by decide) (by decide) (by decide)]
    · rw [b5 52 (by decide) (by decide) (by decide) (by decide), mset_sn (by omega)]; exact f.2 j (by omega)
    · rw [b5 52 (by decide) (by decide) (by decide) (by decide), mset_ss]
  refine m_rd (D := D0) (p := 0) hl (Nat.zero_le _) hf e10 a5 e14 hd (fun k4 M' hx => ?_) (fun k4 M' h _ => ?_)
  · have e : txF c n = .inl (tS c n 0) := if_pos k4
    refine ⟨1, br_nf hx.ne ?_⟩
    unfold wX5_text_44
    exact br_nf hx.ne (fX _ M' _ e hx)
  · have e : txF c n = rnL c n (n + 1) 0 D0 0 := if_neg k4
    rw [e] at fX fE
    exact ⟨n + 1 + 1, m_lines hl (n + 1) 0 D0 0 M' (by omega) (Nat.zero_le _) h ok0 k4 (fun pl v M2 er hx => fX pl M2 v er hx) (fun l D M2 er f f14 d ok _ => fE l D M2 er f f14 d ok)⟩
theorem L_text {M : MM} (h : Rel M) : wX4_text (fun r M1 => wX5_text (PQ r) M1) M := by
  obtain ⟨R, σ, hR, hS, hc, hm, hr, him, hsh, htx⟩ := id h
  obtain ⟨⟨n, hn, e1, e2, g⟩, -, t3⟩ := htx
  have hl : ∃ c : Nat → Nat, ltP M c n ∧ ltM M c n := by
    refine ⟨fun i => (M 59 i).toBitVec.toNat, ⟨hn, e1, fun i hi => ?_, fun i hi => ?_⟩, hn, e2, fun i hi => ?_, fun i hi => ?_⟩
    · obtain ⟨x, x1, x2, x3⟩ := g i hi
      show M 38 i &&& 255 = nI (M 59 i).toBitVec.toNat
      rw [x3, pk_tn (by omega)]; exact x2
    · obtain ⟨x, x1, x2, x3⟩ := g i hi
      show (M 59 i).toBitVec.toNat < 256
      rw [x3, pk_tn (by omega)]; exact x1
    · obtain ⟨x, x1, x2, x3⟩ := g i hi
      show M 59 i = nI (M 59 i).toBitVec.toNat
      rw [x3, pk_tn (by omega)]
    · obtain ⟨x, x1, x2, x3⟩ := g i hi
      show (M 59 i).toBitVec.toNat < 256
      rw [x3, pk_tn (by omega)]; exact x1
  obtain ⟨c, hl1, hl2⟩ := hl
  refine s_text hl1 (fun pl M1 er a1 a2 a3 => ?_) (fun l D M1 er ok he hcd a1 a2 a3 a4 => ?_)
  · -- a fault
    have hl3 : ltM M1 c n := hl2.keep (by rw [a1 52 (by decide) (by omega)]) (a1 59 (by decide) (by omega))
    refine m_text hl3 (fun pl2 M2 er2 b1 b2 b3 => ?_) (fun l D M2 er2 => by rw [er] at er2; exact absurd er2 (by simp))
    rw [er] at er2
    have e : pl = pl2 := Sum.inl.inj er2
    subst e
    have kk : ∀ a, a ≠ 0 → (a < 28 ∨ 38 ≤ a) → a ≠ 52 → a ≠ 56 → a ≠ 57 → a ≠ 58 → M2 a = M a := fun a c0 c1 c2 c3 c4 c5 => by rw [b1 a c2 c3 c4 c5]; exact a1 a c0 c1
    refine ⟨rfl, R, σ, hR, hS, hc.keep (fun i hi => kk _ (by omega) (by omega) (by omega) (by omega) (by omega) (by omega)), hm.keep (kk 53 (by decide) (by omega) (by decide) (by decide) (by decide) (by decide)), hr.keep (kk 55 (by decide) (by omega) (by decide) (by decide) (by decide) (by decide)), him.keep ?_ (fun a c1 c2 => kk a (by omega) (by omega) (by omega) (by omega) (by omega) (by omega)) (fun j _ => by rw [kk 53 (by decide) (by omega) (by decide) (by decide) (by decide) (by decide)]) (kk 54 (by decide) (by omega) (by decide) (by decide) (by decide) (by decide)), hsh.keep (fun a c1 c2 => kk a (by omega) (by omega) (by omega) (by omega) (by omega) (by omega)) (fun a c1 c2 => kk a (by omega) (by omega) (by omega) (by omega) (by omega) (by omega)), ⟨0, Nat.zero_le _, ?_, ?_, fun i hi => absurd hi (Nat.not_lt_zero _)⟩, True.intro, ?_⟩
    · rw [b1 0 (by decide) (by decide) (by decide) (by decide)]; exact a2 11 (by decide)
    · rw [b1 37 (by decide) (by decide) (by decide) (by decide)]; exact a3
    · exact b3
    · rw [b1 0 (by decide) (by decide) (by decide) (by decide), a2 10 (by decide), b2 25 (by omega), a1 52 (by decide) (by omega)]; exact t3
  · -- a new tape
    have hl3 : ltM M1 c n := hl2.keep (by rw [a1 52 (by decide) (by omega)]) (a1 59 (by decide) (by omega))
    refine m_text hl3 (fun pl2 M2 er2 => by rw [er] at er2; exact absurd er2 (by simp)) (fun l2 D2 M2 er2 ok2 b1 b2 b3 b4 b5 b6 => ?_)
    rw [er] at er2
    have e := Sum.inr.inj er2
    have e3 : l = l2 := congrArg Prod.fst e
    have e4 : D = D2 := congrArg Prod.snd e
    subst e3; subst e4
    obtain ⟨f1, f2, f3⟩ := b5
    have kk : ∀ a, 10 ≤ a → (a < 28 ∨ 38 ≤ a) → a ≠ 52 → a ≠ 53 → a ≠ 54 → a ≠ 55 → a ≠ 56 → a ≠ 57 → a ≠ 58 → a ≠ 60 → M2 a = M a := fun a c0 c1 d1 d2 d3 d4 d5 d6 d7 d8 => by rw [f1 a d1 d2 d3 d4 d5 d6 d7 d8]; exact a1 a c0 c1
    refine ⟨rfl, dR D, dS D, ok.R.1, ok_dS ok he, hcd.keep (fun i hi => f1 _ (by omega) (by omega) (by omega) (by omega) (by omega) (by omega) (by omega) (by omega)), b1, b2, ⟨0, 0, by omega, by omega, ?_, b3, b4, fun q => by omega, fun q => by omega⟩, hsh.keep (fun a c1 c2 => kk a (by omega) (by omega) (by omega) (by omega) (by omega) (by omega) (by omega) (by omega) (by omega) (by omega)) (fun a c1 c2 => kk a (by omega) (by omega) (by omega) (by omega) (by omega) (by omega) (by omega) (by omega) (by omega) (by omega)), ⟨0, Nat.zero_le _, ?_, b6, fun i hi => absurd hi (Nat.not_lt_zero _)⟩, True.intro, ?_⟩
    · rw [f1 0 (by decide) (by decide) (by decide) (by decide) (by decide) (by decide) (by decide) (by decide)]; exact a3
    · rw [f1 37 (by decide) (by decide) (by decide) (by decide) (by decide) (by decide) (by decide) (by decide)]; exact a4
    · rw [f1 0 (by decide) (by decide) (by decide) (by decide) (by decide) (by decide) (by decide) (by decide), a2 10 (by decide) (by decide), f3 25 (by omega), a1 52 (by decide) (by omega)]; exact t3
