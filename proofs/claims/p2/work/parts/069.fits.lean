-- ===== fits =====
def cbN (σ : SS) (h t : Nat) : Nat → Nat
  | 0 => 1
  | k + 1 => if cbN σ h t k = 1 ∧ Tn h t (sX σ k) = sP σ k then 1 else 0
theorem cbN_le (σ : SS) (h t : Nat) : ∀ k, cbN σ h t k ≤ 1 := by
  intro k
  cases k with
  | zero => exact Nat.le_refl _
  | succ k => rw [cbN]; exact ite_le (by omega) (by omega)
theorem cbN_0 (σ : SS) (h t : Nat) {i : Nat} (e : cbN σ h t i = 0) : ∀ k, i ≤ k → cbN σ h t k = 0 := by
  intro k hk
  induction hk with
  | refl => exact e
  | step _ ih => rw [cbN, if_neg (fun q => by omega)]
theorem s_canBe {Q : Int32 → MM → Prop} {M : MM} {h t : Nat} {R : Nat → Nat} {σ : SS} (ok : okHT h t) (hS : okS R σ) (hc : clT M 1 R σ) (hq : Q (nI (cbN σ h t (sW σ))) M) : wX2_canBe Q M 1 (nI h) (nI t) := by
  have hW := hS.n3.2.2
  have e13 : M 1 13 = nI (sW σ) := hc.2.2.2.2.2.2.2.2.2.1
  have loop : ∀ k i, i + k = sW σ → cbN σ h t i = 1 → wX2_canBe_2 Q 1 (nI h) (nI t) (k + 1) M (nI i) := by
    intro k
    induction k with
    | zero =>
      intro i hi h1
      have : i = sW σ := by omega
      subst this
      rw [h1] at hq
      exact br_t (by rw [e13]; exact nI_le (Nat.le_refl _) (by omega)) hq
    | succ k ih =>
      intro i hi h1
      have g := hc.2.2.2.2.2.2.2.2.2.2.1 i (by omega)
      have b := hS.2.2.2.2.2.2.2.2.2.2.1 i (by omega)
      refine br_f (fun q => ?_) (s_cell (by show i < 12; omega) (by decide +kernel) (s_cell (by show i < 12; omega) (by decide +kernel) ?_))
      · rw [e13] at q
        have := (nI_leI (by omega) (by omega)).mp q; omega
      rw [g.1, g.2]
      have s1 := Sn_le ok.2.1 ok.2.2.2 (show sP σ i ≤ 10000 by omega)
      have s2 := Sn_le ok.2.1 ok.2.2.2 (show sP σ i + 1 ≤ 10000 by omega)
      refine s_lengthOfTurns (by omega) ?_
      rw [nI_ltI (by omega) (by omega)]
      have iff := Tn_iff (n := sP σ i) ok b.2
      have no : ¬ (Sn h t (sP σ i) ≤ sX σ i ∧ sX σ i < Sn h t (sP σ i + 1)) → cbN σ h t (sW σ) = 0 := by
        intro q
        refine cbN_0 σ h t (i := i + 1) ?_ _ (by omega)
        rw [cbN, if_neg (fun q2 => q (iff.mp q2.2))]
      by_cases c1 : sX σ i < Sn h t (sP σ i)
      · rw [no (by omega)] at hq
        exact br_t c1 hq
      · refine br_f c1 ?_
        rw [nI_1 (sP σ i)]
        refine s_lengthOfTurns (by omega) ?_
        rw [nI_ltI (by omega) (by omega)]
        by_cases c2 : sX σ i < Sn h t (sP σ i + 1)
        · refine br_t c2 ?_
          rw [nI_1]
          exact ih (i + 1) (by omega) (by rw [cbN, if_pos ⟨h1, iff.mpr ⟨by omega, c2⟩⟩])
        · rw [no (by omega)] at hq
          exact br_f c2 hq
  exact ⟨_, loop (sW σ) 0 (by omega) rfl⟩
theorem m_canBe {Q : Int32 → MM → Prop} {M : MM} {h t : Nat} {R : Nat → Nat} {σ : SS} (ok : okHT h t) (hS : okS R σ) (hm : mdT M 0 σ) (hq : Q (nI (cbN σ h t (sW σ))) M) : wX5_canBe Q M (nI h) (nI t) := by
  have hW := hS.n3.2.2
  have e13 : M 53 341 = nI (sW σ) := hm.2.2.2.2.2.2.2.2.2.1
  have loop : ∀ k i, i + k = sW σ → cbN σ h t i = 1 → wX5_canBe_2 Q (nI h) (nI t) (k + 1) M (nI i) := by
    intro k
    induction k with
    | zero =>
      intro i hi h1
      have : i = sW σ := by omega
      subst this
      rw [h1] at hq
      exact br_t (by rw [e13]; exact nI_le (Nat.le_refl _) (by omega)) hq
    | succ k ih =>
      intro i hi h1
      have g := hm.2.2.2.2.2.2.2.2.2.2.1 i (by omega)
      rw [Nat.zero_add, Nat.zero_add] at g
      have b := hS.2.2.2.2.2.2.2.2.2.2.1 i (by omega)
      refine br_f (fun q => ?_) ?_
      · rw [e13] at q
        have := (nI_leI (by omega) (by omega)).mp q; omega
      have g1 : (342 : Int32) + (2 : Int32) * nI i = nI (342 + 2 * i) := by rw [n2, pk_mul, show (342 : Int32) = nI 342 from rfl, nI_add]
      have g2 : nI (342 + 2 * i) + 1 = nI (343 + 2 * i) := by rw [nI_1]; congr 1; omega
      rw [g1, g2, clamp_nI (n := 343 + 2 * i) (by omega), clamp_nI (n := 342 + 2 * i) (by omega), g.2]
      refine ⟨v53 (by omega), m_turnsOf ok b.2 ⟨v53 (by omega), ?_⟩⟩
      have ht := Tn_lt ok b.2
      rw [g.1, nI_eq (by omega) (by omega)]
      by_cases c : Tn h t (sX σ i) = sP σ i
      · refine br_t c ?_
        rw [nI_1]
        exact ih (i + 1) (by omega) (by rw [cbN, if_pos ⟨h1, c⟩])
      · have : cbN σ h t (sW σ) = 0 := cbN_0 σ h t (i := i + 1) (by rw [cbN, if_neg (fun q => c q.2)]) _ (by omega)
        rw [this] at hq
        exact br_f c hq
  exact ⟨_, loop (sW σ) 0 (by omega) rfl⟩
def fpN (σ : SS) (n : Nat) : Nat := cbN σ (5 + n / 9) (1 + n % 9) (sW σ)
def fiO (f : Nat → Nat) : Nat → Option Nat
  | 0 => none
  | k + 1 => match fiO f k with
    | some x => some x
    | none => if f k = 1 then some k else none
theorem fiO_lt (f : Nat → Nat) : ∀ k x, fiO f k = some x → x < k := by
  intro k
  induction k with
  | zero => intro x h; exact absurd (show (none : Option Nat) = some x from h) (by simp)
  | succ k ih =>
    intro x h
    rw [fiO] at h
    cases e : fiO f k with
    | some y =>
      rw [e] at h
      have := ih y e
      have h2 : y = x := Option.some.inj h
      omega
    | none =>
      rw [e] at h
      dsimp only at h
      by_cases q : f k = 1
      · rw [if_pos q] at h
        have h2 : k = x := Option.some.inj h
        omega
      · rw [if_neg q] at h
        exact absurd (show (none : Option Nat) = some x from h) (by simp)
theorem fiO_up {f : Nat → Nat} {i x : Nat} (h : fiO f i = some x) : ∀ k, i ≤ k → fiO f k = some x := by
  intro k hk
  induction hk with
  | refl => exact h
  | step _ ih => rw [fiO, ih]
def foI : Option Nat → Int32
  | none => -4
  | some x => nI (10 * (5 + x / 9) + (1 + x % 9))
def fanI (σ : SS) (w : Int32) : Int32 := if w = 0 then nI (suN (fpN σ) 855) else match fiO (fpN σ) 855 with
  | none => -4
  | some x => if w = 1 then nI (5 + x / 9) else nI (1 + x % 9)
theorem fpN_at (σ : SS) {a c : Nat} (hc : c < 9) : fpN σ (9 * a + c) = cbN σ (5 + a) (1 + c) (sW σ) := by
  unfold fpN
  have e1 : (9 * a + c) / 9 = a := by omega
  have e2 : (9 * a + c) % 9 = c := by omega
  rw [e1, e2]
theorem s_cell_s {Q : Int32 → MM → Prop} {M : MM} {i j : Nat} {x v : Int32} (hx : x = nI j) (hj : j < 9) (hv : stV i j = v) (hq : Q v M) : wX4_cell_s Q M i x := by
  subst hx; subst hv
  unfold wX4_cell_s wX4_cell_s_20
  refine ⟨fun h => absurd h (nI_pos (by omega)), fun _ => ⟨fun h => absurd h (nI_ge (b := 9) (by omega) (by omega)), fun _ => ⟨vp_nI hj (by omega), ?_⟩⟩⟩
  rw [clamp_nI (by omega)]; exact hq
theorem s_fit1 {Q : Int32 → MM → Prop} {K : MM → Int32 → Int32 → Prop} {M : MM} {w : Int32} {a : Nat} {R : Nat → Nat} {σ : SS} (hS : okS R σ) (hc : clT M 1 R σ) (hw : w = 0 ∨ w = 1 ∨ w = 2) (ha : a < 95) (hq : Q (fanI σ w) M) (hK : (w ≠ 0 → fiO (fpN σ) (9 * (a + 1)) = none) → K M (nI (suN (fpN σ) (9 * (a + 1)))) (nI (5 + a) + 1)) : ∀ k c, c + k = 9 → (w ≠ 0 → fiO (fpN σ) (9 * a + c) = none) → wX4_fits_41 Q K w (k + 1) M (nI (suN (fpN σ) (9 * a + c))) (nI (5 + a)) (nI (1 + c)) := by
  intro k
  induction k with
  | zero =>
    intro c hcc hn
    have : c = 9 := by omega
    subst this
    unfold wX4_fits_41
    exact s_cell_s (i := 1) (j := 2) (v := 9) rfl (by omega) rfl (br_t (by decide +kernel) (hK hn))
  | succ k ih =>
    intro c hcc hn
    unfold wX4_fits_41
    refine s_cell_s (i := 1) (j := 2) (v := 9) rfl (by omega) rfl ?_
    refine br_f (fun q => ?_) (s_canBe (h := 5 + a) (t := 1 + c) ⟨by omega, by omega, by omega, by omega⟩ hS hc ?_)
    · have := (nI_ltI (a := 9) (by omega) (by omega)).mp q; omega
    have g := ih (c + 1) (by omega)
    have e0 : 9 * a + (c + 1) = (9 * a + c) + 1 := by omega
    rw [e0, suN, fpN_at σ (show c < 9 by omega)] at g
    have hle := cbN_le σ (5 + a) (1 + c) (sW σ)
    have ef := fpN_at σ (a := a) (show c < 9 by omega)
    unfold wX4_fits_87
    by_cases q : cbN σ (5 + a) (1 + c) (sW σ) = 1
    · rw [q] at g ⊢
      have found : w ≠ 0 → fiO (fpN σ) 855 = some (9 * a + c) := by
        intro hw0
        refine fiO_up (i := 9 * a + c + 1) ?_ 855 (by omega)
        rw [fiO, hn hw0]
        dsimp only
        rw [ef, if_pos q]
      refine br_nf (by decide +kernel) ?_
      unfold fanI at hq
      rcases hw with rfl | rfl | rfl
      · refine br_nf (by decide) (br_nf (by decide) ?_)
        rw [nI_1, nI_1]
        exact g (fun q => absurd rfl q)
      · rw [if_neg (by decide), found (by decide)] at hq
        dsimp only at hq
        rw [if_pos rfl, show (9 * a + c) / 9 = a by omega] at hq
        exact br_nt rfl hq
      · rw [if_neg (by decide), found (by decide)] at hq
        dsimp only at hq
        rw [if_neg (by decide), show (9 * a + c) % 9 = c by omega] at hq
        exact br_nf (by decide) (br_nt rfl hq)
    · have q0 : cbN σ (5 + a) (1 + c) (sW σ) = 0 := by omega
      rw [q0] at g ⊢
      refine br_nt rfl ?_
      rw [nI_1]
      refine g (fun hw0 => ?_)
      rw [fiO, hn hw0]
      dsimp only
      rw [ef, if_neg (by omega)]
theorem s_fit2 {Q : Int32 → MM → Prop} {M : MM} {w : Int32} {R : Nat → Nat} {σ : SS} (hS : okS R σ) (hc : clT M 1 R σ) (hw : w = 0 ∨ w = 1 ∨ w = 2) (hq : Q (fanI σ w) M) : ∀ k a, a + k = 95 → (w ≠ 0 → fiO (fpN σ) (9 * a) = none) → wX4_fits_21 Q w (k + 1) M (nI (suN (fpN σ) (9 * a))) (nI (5 + a)) := by
  intro k
  induction k with
  | zero =>
    intro a ha hn
    have : a = 95 := by omega
    subst this
    unfold wX4_fits_21
    refine s_cell_s (i := 1) (j := 1) (v := 99) rfl (by omega) rfl (br_t (by decide +kernel) ?_)
    unfold fanI at hq
    by_cases h0 : w = 0
    · rw [if_pos h0] at hq
      exact br_nt h0 hq
    · have hn2 : fiO (fpN σ) 855 = none := hn h0
      rw [if_neg h0, hn2] at hq
      exact br_nf h0 hq
  | succ k ih =>
    intro a ha hn
    unfold wX4_fits_21
    refine s_cell_s (i := 1) (j := 1) (v := 99) rfl (by omega) rfl (br_f (fun q => ?_) (s_cell_s (i := 0) (j := 2) (v := 1) rfl (by omega) rfl ⟨10, s_fit1 hS hc hw (by omega) hq (fun hn2 => ?_) 9 0 (by omega) hn⟩))
    · have := (nI_ltI (a := 99) (by omega) (by omega)).mp q; omega
    rw [nI_1]
    exact ih (a + 1) (by omega) hn2
theorem m_fit1 {Q : Int32 → MM → Prop} {K : MM → Int32 → Int32 → Int32 → Prop} {M : MM} {w : Int32} {a : Nat} {R : Nat → Nat} {σ : SS} (hS : okS R σ) (hm : mdT M 0 σ) (ha : a < 95) (hK : K M (nI (suN (fpN σ) (9 * (a + 1)))) (foI (fiO (fpN σ) (9 * (a + 1)))) (nI (5 + a) + 1)) : ∀ k c, c + k = 9 → wX5_fits_32 Q K w (k + 1) M (nI (suN (fpN σ) (9 * a + c))) (foI (fiO (fpN σ) (9 * a + c))) (nI (5 + a)) (nI (1 + c)) := by
  intro k
  induction k with
  | zero =>
    intro c hcc
    have : c = 9 := by omega
    subst this
    exact br_t (by decide +kernel) hK
  | succ k ih =>
    intro c hcc
    refine br_f (fun q => ?_) (m_canBe (h := 5 + a) (t := 1 + c) ⟨by omega, by omega, by omega, by omega⟩ hS hm ?_)
    · have := (nI_leI (a := 10) (by omega) (by omega)).mp q; omega
    have g := ih (c + 1) (by omega)
    have e0 : 9 * a + (c + 1) = (9 * a + c) + 1 := by omega
    rw [e0, suN, fpN_at σ (show c < 9 by omega), fiO] at g
    have hle := cbN_le σ (5 + a) (1 + c) (sW σ)
    have ef := fpN_at σ (a := a) (show c < 9 by omega)
    unfold wX5_fits_68 wX5_fits_72
    by_cases q : cbN σ (5 + a) (1 + c) (sW σ) = 1
    · rw [q] at g ⊢
      refine br_f (by decide +kernel) ?_
      rw [nI_1, nI_1]
      cases e : fiO (fpN σ) (9 * a + c) with
      | none =>
        rw [e] at g
        dsimp only at g
        rw [ef, if_pos q] at g
        refine br_nt rfl ?_
        have e5 : (10 : Int32) * nI (5 + a) + nI (1 + c) = foI (some (9 * a + c)) := by
          show _ = nI (10 * (5 + (9 * a + c) / 9) + (1 + (9 * a + c) % 9))
          rw [show (10 : Int32) = nI 10 from rfl, pk_mul, nI_add]; congr 1; omega
        rw [e5]; exact g
      | some x =>
        rw [e] at g
        have := fiO_lt _ _ _ e
        exact br_nf (nI_n4 (by omega)) g
    · have q0 : cbN σ (5 + a) (1 + c) (sW σ) = 0 := by omega
      rw [q0] at g ⊢
      refine br_t rfl ?_
      rw [nI_1]
      cases e : fiO (fpN σ) (9 * a + c) with
      | none =>
        rw [e] at g
        dsimp only at g
        rw [ef, if_neg q] at g
        exact g
      | some x =>
        rw [e] at g
        exact g
theorem m_fit2 {Q : Int32 → MM → Prop} {M : MM} {w : Int32} {R : Nat → Nat} {σ : SS} (hS : okS R σ) (hm : mdT M 0 σ) (hq : Q (fanI σ w) M) : ∀ k a, a + k = 95 → wX5_fits_22 Q w (k + 1) M (nI (suN (fpN σ) (9 * a))) (foI (fiO (fpN σ) (9 * a))) (nI (5 + a)) := by
  intro k
  induction k with
  | zero =>
    intro a ha
    have : a = 95 := by omega
    subst this
    refine br_t (by decide +kernel) ?_
    unfold fanI at hq
    by_cases h0 : w = 0
    · rw [if_pos h0] at hq
      exact br_nt h0 hq
    · rw [if_neg h0] at hq
      refine br_nf h0 ?_
      show (¬ foI (fiO (fpN σ) 855) = -4 → _) ∧ _
      cases e : fiO (fpN σ) 855 with
      | none =>
        rw [e] at hq
        exact br_nt rfl hq
      | some x =>
        rw [e] at hq
        dsimp only at hq
        have hx := fiO_lt _ _ _ e
        refine br_nf (nI_n4 (by omega)) ?_
        have d1 : foI (some x) / 10 = nI (5 + x / 9) := by
          show nI (10 * (5 + x / 9) + (1 + x % 9)) / nI 10 = _
          rw [pk_div (by omega) (by omega) (by omega)]; exact congrArg nI (by omega)
        have d2 : foI (some x) - foI (some x) / 10 * 10 = nI (1 + x % 9) := by
          show nI (10 * (5 + x / 9) + (1 + x % 9)) - nI (10 * (5 + x / 9) + (1 + x % 9)) / nI 10 * nI 10 = _
          rw [pk_rem (by omega) (by omega) (by omega)]; exact congrArg nI (by omega)
        by_cases h1 : w = 1
        · rw [if_pos h1] at hq
          refine br_nt h1 ?_
          show Q (foI (some x) / 10) M
          rw [d1]; exact hq
        · rw [if_neg h1] at hq
          refine br_nf h1 ?_
          show Q (foI (some x) - foI (some x) / 10 * 10) M
          rw [d2]; exact hq
  | succ k ih =>
    intro a ha
    refine br_f (fun q => ?_) ⟨10, m_fit1 hS hm (by omega) ?_ 9 0 (by omega)⟩
    · have := (nI_leI (a := 100) (by omega) (by omega)).mp q; omega
    rw [nI_1]
    exact ih (a + 1) (by omega)
theorem L_fits {M : MM} (h : Rel M) (x : Int32) : wX4_fits (fun r M1 => wX5_fits (PQ r) M1 x) M x := by
  obtain ⟨R, σ, hR, hS, hc, hm, hr, him, hsh, htx⟩ := id h
  unfold wX4_fits
  refine s_isBetween.mpr ?_
  by_cases hp : (0 : Int32) ≤ x ∧ x ≤ 2
  · have hw : x = 0 ∨ x = 1 ∨ x = 2 := by
      obtain ⟨k, hk, rfl⟩ := pl_of (L := 2) (by omega) hp
      have : k = 0 ∨ k = 1 ∨ k = 2 := by omega
      rcases this with rfl | rfl | rfl
      · exact Or.inl rfl
      · exact Or.inr (Or.inl rfl)
      · exact Or.inr (Or.inr rfl)
    refine zt1 hp (s_cell_s (i := 0) (j := 1) (v := 5) rfl (by omega) rfl ⟨96, s_fit2 hS hc hw ?_ 95 0 (by omega) (fun _ => rfl)⟩)
    unfold wX5_fits
    exact m_in32 0 2 rfl rfl (zt1 hp ⟨96, m_fit2 (Q := PQ _) hS hm ⟨rfl, h⟩ 95 0 (by omega)⟩)
  · refine zf1 hp ?_
    unfold wX5_fits
    exact m_in32 0 2 rfl rfl (zf1 hp ⟨rfl, h⟩)
