-- ===== fresh objects =====
theorem s_reset0 {Q : MM → Prop} {M : MM} {b : Nat} (hb : tpB b) (hq : ∀ M', tpP b M' → Q M') : wX2_reset Q M b := s_reset hb (fun M' _ h => hq M' h)
def shP (b : Nat) (M : MM) : Prop := M b 1 = -1 ∧ M b 2 = 0
def r4P (M : MM) : Prop := tpP 1 M ∧ M 37 2 = 0 ∧ shP 44 M ∧ shP 46 M ∧ shP 48 M ∧ shP 50 M ∧ M 0 9 = 0 ∧ M 0 10 = 0 ∧ M 0 11 = 0
def d5P (M : MM) : Prop := (∀ r, r < 9 → M 56 r = nI (rF r)) ∧ M 52 4 = 0 ∧ M 52 9 = 0 ∧ M 52 14 = 0 ∧ M 52 25 = 0 ∧ ∀ s, s < 4 → M 64 s = -4
def r5P (M : MM) : Prop := mdT M 0 (dS D0) ∧ (∀ r, r < 9 → M 55 r = nI (rF r)) ∧ M 54 0 = 0 ∧ M 54 1 = 0 ∧ (∀ s, s < 4 → M 64 s = -4) ∧ M 52 9 = 0 ∧ M 52 14 = 0 ∧ M 52 25 = 0
theorem m_firstDraft0 {Q : MM → Prop} {M : MM} (h : M 52 9 = 0 ∧ M 52 14 = 0 ∧ M 52 25 = 0 ∧ ∀ s, s < 4 → M 64 s = -4) (hq : ∀ M', d5P M' → Q M') : wX5_firstDraft Q M :=
  m_firstDraft (fun M' a1 a2 a3 a4 a5 => hq M' ⟨a3, a4, by rw [a2 9 (by decide) (by decide)]; exact h.1, by rw [a2 14 (by decide) (by decide)]; exact h.2.1, by rw [a2 25 (by decide) (by decide)]; exact h.2.2.1, fun s hs => by rw [a1 64 (by decide) (by decide)]; exact h.2.2.2 s hs⟩)
theorem m_keepDraft0 {Q : MM → Prop} {M : MM} (h : d5P M) (hq : ∀ M', r5P M' → Q M') : wX5_keepDraft Q M :=
  m_keepDraft (D := D0) ⟨h.1, h.2.1, fun j hj => absurd hj (Nat.not_lt_zero _), fun j hj => absurd hj (Nat.not_lt_zero _)⟩ ok0 (fun M' b1 b2 b3 b4 b5 _ => hq M' ⟨b1, b2, b3, b4, fun s hs => by rw [b5 64 (by decide) (by decide) (by decide) (by decide)]; exact h.2.2.2.2.2 s hs, by rw [b5 52 (by decide) (by decide) (by decide) (by decide)]; exact h.2.2.1, by rw [b5 52 (by decide) (by decide) (by decide) (by decide)]; exact h.2.2.2.1, by rw [b5 52 (by decide) (by decide) (by decide) (by decide)]; exact h.2.2.2.2.1⟩)
/-- what holds at the law's loop: both objects fresh -/
theorem Rel0 {M : MM} (h4 : r4P M) (h5 : r5P M) : Rel M ∧ M 0 9 = M 52 14 := by
  obtain ⟨t, a1, a2, a3, a4, a5, a6, a7, a8⟩ := h4
  obtain ⟨b1, b2, b3, b4, b5, b6, b7, b8⟩ := h5
  obtain ⟨t1, t2, t3, t4, t5, t6, t7⟩ := t
  have he : enD D0 (dN D0) ≤ dR D0 0 := Nat.zero_le _
  refine ⟨⟨dR D0, dS D0, ok0.R.1, ok_dS ok0 he, ?_, b1, fun r _ hr => b2 r hr, ⟨0, 0, by omega, by omega, a8, b3, b4, fun q => by omega, fun q => by omega⟩, fun s hs => ?_, ⟨0, Nat.zero_le _, a1, b6, fun i hi => absurd hi (Nat.not_lt_zero _)⟩, True.intro, by rw [a7, b8]⟩, by rw [a6, b7]⟩
  · exact clT_dS ok0 t1 t2 t3 t4 t5 t6 t7 (fun j hj => absurd hj (Nat.not_lt_zero _)) (fun j hj => absurd hj (Nat.not_lt_zero _)) (fun j hj => absurd hj (Nat.not_lt_zero _)) (fun j hj => absurd hj (Nat.not_lt_zero _)) (fun j hj => absurd hj (Nat.not_lt_zero _))
  · refine Or.inl ⟨?_, b5 s hs⟩
    rcases (by omega : s = 0 ∨ s = 1 ∨ s = 2 ∨ s = 3) with rfl | rfl | rfl | rfl
    · exact a2.1
    · exact a3.1
    · exact a4.1
    · exact a5.1
