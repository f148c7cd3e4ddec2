-- ===== a state of the tape, as numbers =====
abbrev SS : Type := (Nat × Nat × Nat) × ((Nat → Nat) × (Nat → Nat) × (Nat → Nat) × (Nat → Nat)) × (Nat × (Nat → Nat)) × (Nat × (Nat → Nat) × (Nat → Nat)) × (Int32 × Int32)
def sL (σ : SS) : Nat := σ.1.1
def sN (σ : SS) : Nat := σ.1.2.1
def sH (σ : SS) : Nat := σ.1.2.2
def sB (σ : SS) : Nat → Nat := σ.2.1.1
def sZ (σ : SS) : Nat → Nat := σ.2.1.2.1
def sC (σ : SS) : Nat → Nat := σ.2.1.2.2.1
def sO (σ : SS) : Nat → Nat := σ.2.1.2.2.2
def sY (σ : SS) : Nat := σ.2.2.1.1
def sT (σ : SS) : Nat → Nat := σ.2.2.1.2
def sW (σ : SS) : Nat := σ.2.2.2.1.1
def sP (σ : SS) : Nat → Nat := σ.2.2.2.1.2.1
def sX (σ : SS) : Nat → Nat := σ.2.2.2.1.2.2
def sK (σ : SS) : Int32 := σ.2.2.2.2.1
def sD (σ : SS) : Int32 := σ.2.2.2.2.2
/-- how long a block of n bytes is -/
def lgN (R : Nat → Nat) (n : Nat) : Nat := if n = 0 then 1 else (n + R 7) / R 7
def okR (R : Nat → Nat) : Prop := okHT (R 1) (R 2) ∧ (1 ≤ R 3 ∧ R 3 ≤ 99) ∧ (1 ≤ R 4 ∧ R 4 ≤ 99) ∧ R 5 ≤ 99 ∧ R 6 ≤ 99 ∧ (1 ≤ R 7 ∧ R 7 ≤ 9) ∧ R 8 ≤ 999
def okS (R : Nat → Nat) (σ : SS) : Prop :=
  (20 ≤ sL σ ∧ sL σ ≤ 9999) ∧ sN σ ≤ 12 ∧ sH σ ≤ sL σ ∧ (∀ j, j < sN σ → sZ σ j ≤ 12 ∧ sB σ j + lgN R (sZ σ j) ≤ sL σ) ∧
  (∀ i j, i < j → j < sN σ → sB σ i + lgN R (sZ σ i) ≤ sB σ j) ∧
  (∀ j, j < sN σ → ∀ i, i ≤ sZ σ j → sC σ (j * 13 + i) < 512) ∧ (∀ j, j < sN σ → ∀ i, i < sZ σ j → sO σ (j * 12 + i) < 256) ∧
  sY σ ≤ 12 ∧ (∀ i, i < sY σ → sT σ i < 256) ∧ sW σ ≤ 12 ∧ (∀ i, i < sW σ → sP σ i ≤ 999 ∧ sX σ i ≤ 9999) ∧ (sD σ = -4 ∨ ∃ t, t < 9 ∧ sD σ = nI t)
/-- the class's tape at b holds it -/
def clT (M : MM) (b : Nat) (R : Nat → Nat) (σ : SS) : Prop :=
  (M (b + 1) 0 = nI (sL σ) ∧ (∀ r, 1 ≤ r → r < 9 → M (b + 1) r = nI (R r))) ∧ M b 8 = nI (sN σ) ∧ M b 9 = nI (sH σ) ∧
  (∀ j, j < sN σ → M (b + 2) j = nI (sB σ j)) ∧ (∀ j, j < sN σ → M (b + 3) j = nI (sZ σ j)) ∧
  (∀ j, j < sN σ → ∀ i, i ≤ sZ σ j → M (b + 4) (j * 13 + i) = nI (sC σ (j * 13 + i))) ∧ (∀ j, j < sN σ → ∀ i, i < sZ σ j → M (b + 5) (j * 12 + i) = nI (sO σ (j * 12 + i))) ∧
  M b 11 = nI (sY σ) ∧ (∀ i, i < sY σ → M (b + 6) i = nI (sT σ i)) ∧ M b 13 = nI (sW σ) ∧ (∀ i, i < sW σ → M (b + 7) i = nI (sP σ i) ∧ M (b + 8) i = nI (sX σ i)) ∧
  M b 10 = sK σ ∧ M b 12 = sD σ
/-- the reference's row holds it, from o on -/
def mdT (M : MM) (o : Nat) (σ : SS) : Prop :=
  M 53 (o + 366) = nI (sL σ) ∧ M 53 o = nI (sN σ) ∧ M 53 (o + 325) = nI (sH σ) ∧
  (∀ j, j < sN σ → M 53 (o + (1 + j)) = nI (sB σ j)) ∧ (∀ j, j < sN σ → M 53 (o + (13 + j)) = nI (sZ σ j)) ∧
  (∀ j, j < sN σ → ∀ i, i ≤ sZ σ j → M 53 (o + (25 + (j * 13 + i))) = nI (sC σ (j * 13 + i))) ∧ (∀ j, j < sN σ → ∀ i, i < sZ σ j → M 53 (o + (181 + (j * 12 + i))) = nI (sO σ (j * 12 + i))) ∧
  M 53 (o + 327) = nI (sY σ) ∧ (∀ i, i < sY σ → M 53 (o + (328 + i)) = nI (sT σ i)) ∧ M 53 (o + 341) = nI (sW σ) ∧ (∀ i, i < sW σ → M 53 (o + (342 + 2 * i)) = nI (sP σ i) ∧ M 53 (o + (343 + 2 * i)) = nI (sX σ i)) ∧
  M 53 (o + 326) = sK σ ∧ M 53 (o + 340) = sD σ
def rlT (M : MM) (R : Nat → Nat) : Prop := ∀ r, 1 ≤ r → r < 9 → M 55 r = nI (R r)
def imT (M : MM) (R : Nat → Nat) : Prop := ∃ k0 k1 : Nat, k0 ≤ 1 ∧ k1 ≤ 1 ∧ M 0 11 = nI (k0 + 2 * k1) ∧ M 54 0 = nI k0 ∧ M 54 1 = nI k1 ∧ (k0 = 1 → ∃ σ, okS R σ ∧ clT M 10 R σ ∧ mdT M 400 σ) ∧ (k1 = 1 → ∃ σ, okS R σ ∧ clT M 19 R σ ∧ mdT M 800 σ)
def shT1 (M : MM) (s : Nat) : Prop := (M (44 + 2 * s) 1 = -1 ∧ M 64 s = -4) ∨ ∃ ln n : Nat, ln < 3 ∧ n ≤ 40 ∧ M (44 + 2 * s) 1 = nI ln ∧ M 64 s = nI ln ∧ M (44 + 2 * s) 2 = nI n ∧ M 65 s = nI n ∧ ∀ i, i < n → M (45 + 2 * s) i = M 66 (40 * s + i)
def shTs (M : MM) : Prop := ∀ s, s < 4 → shT1 M s
def txT (M : MM) : Prop := (∃ n : Nat, n ≤ 400 ∧ M 37 2 = nI n ∧ M 52 9 = nI n ∧ ∀ i, i < n → ∃ c : Nat, c < 256 ∧ (M 38 i) &&& 255 = nI c ∧ M 59 i = nI c) ∧ True ∧ M 0 10 = M 52 25
def Rel (M : MM) : Prop := ∃ (R : Nat → Nat) (σ : SS), okR R ∧ okS R σ ∧ clT M 1 R σ ∧ mdT M 0 σ ∧ rlT M R ∧ imT M R ∧ shTs M ∧ txT M
-- rows that stay
theorem clT.keep {M M1 : MM} {b : Nat} {R : Nat → Nat} {σ : SS} (h : clT M b R σ) (e : ∀ i, i < 9 → M1 (b + i) = M (b + i)) : clT M1 b R σ := by
  have e0 : M1 b = M b := e 0 (by omega)
  unfold clT
  rw [e0, e 1 (by omega), e 2 (by omega), e 3 (by omega), e 4 (by omega), e 5 (by omega), e 6 (by omega), e 7 (by omega), e 8 (by omega)]
  exact h
theorem mdT.keep {M M1 : MM} {o : Nat} {σ : SS} (h : mdT M o σ) (e : M1 53 = M 53) : mdT M1 o σ := by
  unfold mdT; rw [e]; exact h
theorem rlT.keep {M M1 : MM} {R : Nat → Nat} (h : rlT M R) (e : M1 55 = M 55) : rlT M1 R := by
  unfold rlT; rw [e]; exact h
/-- the images, where only other rows were written -/
theorem imT.keep {M M1 : MM} {R : Nat → Nat} (h : imT M R) (e0 : M1 0 11 = M 0 11) (e1 : ∀ k, 10 ≤ k → k < 28 → M1 k = M k) (e2 : ∀ j, 400 ≤ j → M1 53 j = M 53 j) (e3 : M1 54 = M 54) : imT M1 R := by
  obtain ⟨k0, k1, a0, a1, a2, a3, a4, a5, a6⟩ := h
  have md : ∀ o σ, 400 ≤ o → mdT M o σ → mdT M1 o σ := by
    intro o σ ho h
    unfold mdT
    rw [e2 _ (by omega), e2 _ (by omega), e2 _ (by omega), e2 (o + 327) (by omega), e2 (o + 341) (by omega), e2 (o + 326) (by omega), e2 (o + 340) (by omega)]
    obtain ⟨h1, h2, h3, h4, h5, h6, h7, h8, h9, h10, h11, h12, h13⟩ := h
    exact ⟨h1, h2, h3, fun j hj => by rw [e2 _ (by omega)]; exact h4 j hj, fun j hj => by rw [e2 _ (by omega)]; exact h5 j hj, fun j hj i hi => by rw [e2 _ (by omega)]; exact h6 j hj i hi, fun j hj i hi => by rw [e2 _ (by omega)]; exact h7 j hj i hi, h8, fun i hi => by rw [e2 _ (by omega)]; exact h9 i hi, h10, fun i hi => by rw [e2 _ (by omega), e2 _ (by omega)]; exact h11 i hi, h12, h13⟩
  refine ⟨k0, k1, a0, a1, by rw [e0]; exact a2, by rw [e3]; exact a3, by rw [e3]; exact a4, fun hk => ?_, fun hk => ?_⟩
  · obtain ⟨σ, b1, b2, b3⟩ := a5 hk
    exact ⟨σ, b1, b2.keep (fun i hi => e1 _ (by omega) (by omega)), md _ _ (by omega) b3⟩
  · obtain ⟨σ, b1, b2, b3⟩ := a6 hk
    exact ⟨σ, b1, b2.keep (fun i hi => e1 _ (by omega) (by omega)), md _ _ (by omega) b3⟩
theorem shTs.keep {M M1 : MM} (h : shTs M) (e1 : ∀ k, 44 ≤ k → k < 52 → M1 k = M k) (e2 : ∀ k, 64 ≤ k → k < 67 → M1 k = M k) : shTs M1 := by
  intro s hs
  unfold shT1
  rw [e1 _ (by omega) (by omega), e1 (45 + 2 * s) (by omega) (by omega), e2 64 (by omega) (by omega), e2 65 (by omega) (by omega), e2 66 (by omega) (by omega)]
  exact h s hs
theorem txT.keep {M M1 : MM} (h : txT M) (e1 : M1 37 = M 37) (e2 : M1 38 = M 38) (e3 : M1 59 = M 59) (e4 : M1 52 9 = M 52 9) (e5 : M1 52 14 = M 52 14) (e6 : M1 52 25 = M 52 25) (e7 : M1 0 9 = M 0 9) (e8 : M1 0 10 = M 0 10) : txT M1 := by
  unfold txT; rw [e1, e2, e3, e4, e6, e8]; exact h
-- ===== the memory's laws =====
theorem mrow_s {M : MM} {k : Nat} {f : Nat → Int32} : mrow M k f k = f := if_pos rfl
theorem mrow_n {M : MM} {k a : Nat} {f : Nat → Int32} (h : a ≠ k) : mrow M k f a = M a := if_neg h
theorem mset_n {M : MM} {k j a : Nat} {v : Int32} (h : a ≠ k) : mset M k j v a = M a := mrow_n h
theorem mset_s {M : MM} {k j : Nat} {v : Int32} : mset M k j v k = upd (M k) j v := mrow_s
theorem mset_ss {M : MM} {k j : Nat} {v : Int32} : mset M k j v k j = v := by rw [mset_s]; exact if_pos rfl
theorem mset_sn {M : MM} {k j i : Nat} {v : Int32} (h : i ≠ j) : mset M k j v k i = M k i := by rw [mset_s]; exact if_neg h
