-- ===== a draft, as numbers =====
abbrev DD : Type := Nat × (Nat → Nat) × Nat × (Nat → Nat) × (Nat → Nat)
def dT (D : DD) : Nat := D.1
def dR (D : DD) : Nat → Nat := D.2.1
def dN (D : DD) : Nat := D.2.2.1
def dZ (D : DD) : Nat → Nat := D.2.2.2.1
def dY (D : DD) : Nat → Nat := D.2.2.2.2
def loN (r : Nat) : Nat := [20, 5, 1, 1, 1, 0, 0, 1, 0].getD r 0
def hiN (r : Nat) : Nat := [9999, 99, 9, 99, 99, 99, 99, 9, 999].getD r 0
def rF (r : Nat) : Nat := [1000, 20, 2, 10, 5, 3, 6, 2, 20].getD r 0
theorem rule_ok : ∀ r, r < 9 → stV 0 r = nI (loN r) ∧ stV 1 r = nI (hiN r) ∧ stV 2 r = nI (rF r) ∧ loN r ≤ 10000 ∧ hiN r ≤ 9999 ∧ (loN r ≤ rF r ∧ rF r ≤ hiN r) := by decide +kernel
def okD (D : DD) : Prop := (∀ r, r < 9 → loN r ≤ dR D r ∧ dR D r ≤ hiN r) ∧ dN D ≤ 12 ∧ (∀ j, j < dN D → dZ D j ≤ 12) ∧ (∀ j, j < dN D → ∀ i, i < dZ D j → dY D (12 * j + i) < 256) ∧ dT D < 512
theorem okD.R {D : DD} (h : okD D) : okR (dR D) ∧ 20 ≤ dR D 0 ∧ dR D 0 ≤ 9999 := by
  have g := h.1
  have g0 := g 0 (by omega)
  have g1 := g 1 (by omega)
  have g2 := g 2 (by omega)
  have g3 := g 3 (by omega)
  have g4 := g 4 (by omega)
  have g5 := g 5 (by omega)
  have g6 := g 6 (by omega)
  have g7 := g 7 (by omega)
  have g8 := g 8 (by omega)
  exact ⟨⟨⟨g1.1, g1.2, g2.1, g2.2⟩, g3, g4, g5.2, g6.2, g7, g8.2⟩, g0.1, g0.2⟩
def setR (D : DD) (k v : Nat) : DD := (dT D ||| 2 ^ k, fun r => if r = k then v else dR D r, dN D, dZ D, dY D)
def addB (D : DD) (z : Nat) (T : Nat → Nat) : DD := (dT D, dR D, dN D + 1, fun j => if j = dN D then z else dZ D j, fun x => if x < 12 * dN D then dY D x else T (x - 12 * dN D))
theorem told_lt : ∀ t, t < 512 → ∀ k, k < 9 → t ||| 2 ^ k < 512 := fun t ht k hk => by
  have h : 2 ^ k < 2 ^ 9 := Nat.pow_lt_pow_right (by omega) hk
  exact Nat.or_lt_two_pow (n := 9) ht h
theorem okD.set {D : DD} (h : okD D) {k v : Nat} (hk : k < 9) (hv : loN k ≤ v ∧ v ≤ hiN k) : okD (setR D k v) := by
  obtain ⟨h1, h2, h3, h4, h5⟩ := h
  refine ⟨fun r hr => ?_, h2, h3, h4, told_lt _ h5 k hk⟩
  show loN r ≤ (if r = k then v else dR D r) ∧ (if r = k then v else dR D r) ≤ hiN r
  by_cases e : r = k
  · subst e; rw [if_pos rfl]; exact hv
  · rw [if_neg e]; exact h1 r hr
theorem okD.add {D : DD} (h : okD D) {z : Nat} {T : Nat → Nat} (hN : dN D < 12) (hz : z ≤ 12) (hT : ∀ i, i < z → T i < 256) : okD (addB D z T) := by
  obtain ⟨h1, h2, h3, h4, h5⟩ := h
  refine ⟨h1, by show dN D + 1 ≤ 12; omega, fun j hj => ?_, fun j hj i hi => ?_, h5⟩
  · show (if j = dN D then z else dZ D j) ≤ 12
    have hj' : j < dN D + 1 := hj
    by_cases e : j = dN D
    · rw [if_pos e]; exact hz
    · rw [if_neg e]; exact h3 j (by omega)
  · have hj' : j < dN D + 1 := hj
    have hi' : i < (if j = dN D then z else dZ D j) := hi
    show (if 12 * j + i < 12 * dN D then dY D (12 * j + i) else T (12 * j + i - 12 * dN D)) < 256
    by_cases e : j = dN D
    · subst e
      rw [if_pos rfl] at hi'
      rw [if_neg (by omega), show 12 * dN D + i - 12 * dN D = i by omega]
      exact hT i hi'
    · rw [if_neg e] at hi'
      have := h3 j (by omega)
      rw [if_pos (by omega)]
      exact h4 j (by omega) i hi'
-- ===== what a line tells =====
abbrev LR : Type := Nat ⊕ (Nat × DD)
def sgF (c : Nat → Nat) (n q : Nat) (D : DD) : LR := if tK c n q = 3 then (if tK c n (tE c n q) = 4 then .inl (tS c n (tE c n q)) else .inr (tE c n q, D)) else .inl (tS c n q)
def bkF (c : Nat → Nat) (n : Nat) : Nat → Nat → Nat → (Nat → Nat) → Nat ⊕ (Nat × Nat × (Nat → Nat))
  | 0, _, q, _ => .inl (tS c n q)
  | k + 1, i, q, T => if tK c n q = 2 then (if i = 12 then .inl (tS c n q) else if 255 < tV c n q then .inl (tS c n q) else if tK c n (tE c n q) = 4 then .inl (tS c n (tE c n q)) else if tK c n (tE c n q) = 2 then bkF c n k (i + 1) (tE c n q) (fun j => if j = i then tV c n q else T j) else .inr (tE c n q, i + 1, fun j => if j = i then tV c n q else T j)) else .inl (tS c n q)
def bgF (c : Nat → Nat) (n p : Nat) (D : DD) : LR := match bkF c n 13 0 p (fun _ => 0) with
  | .inl pl => .inl pl
  | .inr x => sgF c n x.1 (addB D x.2.1 x.2.2)
def rlF (c : Nat → Nat) (n q k : Nat) (D : DD) : LR := if tK c n q = 2 ∧ loN k ≤ tV c n q ∧ tV c n q ≤ hiN k then (if tK c n (tE c n q) = 4 then .inl (tS c n (tE c n q)) else sgF c n (tE c n q) (setR D k (tV c n q))) else .inl (tS c n q)
def lnF (c : Nat → Nat) (n p : Nat) (D : DD) : LR :=
  if kN c n p = 12 then .inl (tS c n p)
  else if kN c n p ≤ 8 then (if dT D / 2 ^ kN c n p % 2 = 1 then .inl (tS c n p) else if tK c n (tE c n p) = 4 then .inl (tS c n (tE c n p)) else rlF c n (tE c n p) (kN c n p) D)
  else if 12 ≤ dN D then .inl (tS c n p)
  else if tK c n (tE c n p) = 4 then .inl (tS c n (tE c n p))
  else if kN c n p = 10 then bgF c n (tE c n p) D
  else sgF c n (tE c n p) (addB D 0 (fun _ => 0))
-- ===== the class's draft =====
def dfC (M : MM) (D : DD) : Prop := (∀ r, r < 9 → M 29 r = nI (dR D r)) ∧ M 28 8 = nI (dN D) ∧ M 28 9 = 0 ∧ M 28 10 = 0 ∧ M 28 12 = -4 ∧ M 28 13 = 0 ∧ (∀ j, j < dN D → M 31 j = nI (dZ D j)) ∧ (∀ j, j < dN D → ∀ i, i < dZ D j → M 32 (13 * j + i) = nI (odN (dY D (12 * j + i)))) ∧ (∀ j, j < dN D → M 32 (13 * j + dZ D j) = nI (rwN (fun i => dY D (12 * j + i)) (dZ D j))) ∧ (∀ j, j < dN D → ∀ i, i < dZ D j → M 33 (12 * j + i) = nI (dY D (12 * j + i)))
theorem dfC.keep {M M' : MM} {D : DD} (h : dfC M D) (e : ∀ a, a = 29 ∨ a = 31 ∨ a = 32 ∨ a = 33 → M' a = M a) (e8 : ∀ j, j ≠ 11 → M' 28 j = M 28 j) : dfC M' D := by
  unfold dfC
  rw [e 29 (by omega), e 31 (by omega), e 32 (by omega), e 33 (by omega), e8 8 (by decide), e8 9 (by decide), e8 10 (by decide), e8 12 (by decide), e8 13 (by decide)]
  exact h
theorem rwN_cg {T T' : Nat → Nat} : ∀ n, (∀ i, i < n → T i = T' i) → rwN T n = rwN T' n := by
  intro n
  induction n with
  | zero => intro _; rfl
  | succ n ih => intro h; rw [rwN, rwN, ih (fun i hi => h i (by omega)), h n (by omega)]
theorem dfC.add {M M' : MM} {D : DD} {z : Nat} {T : Nat → Nat} (h : dfC M D) (ok : okD D) (hz : z ≤ 12) (hp : pbP M M' 28 (dN D) z 0 T) : dfC M' (addB D z T) := by
  obtain ⟨h1, h2, h3, h4, h5, h6, h7, h8, h9, h10⟩ := h
  obtain ⟨p1, p2, p3, p4, p5, p6, p7, p8, p9, p10, p11, p12⟩ := hp
  have hZ := ok.2.2.1
  have eZ : ∀ j, dZ (addB D z T) j = if j = dN D then z else dZ D j := fun _ => rfl
  have eY : ∀ x, dY (addB D z T) x = if x < 12 * dN D then dY D x else T (x - 12 * dN D) := fun _ => rfl
  have eN : dN (addB D z T) = dN D + 1 := rfl
  have y0 : ∀ j i, j < dN D → i < dZ D j → dY (addB D z T) (12 * j + i) = dY D (12 * j + i) := fun j i hj hi => by
    have := hZ j hj
    rw [eY, if_pos (by omega)]
  have y1 : ∀ i, dY (addB D z T) (12 * dN D + i) = T i := fun i => by
    rw [eY, if_neg (by omega), show 12 * dN D + i - 12 * dN D = i by omega]
  refine ⟨fun r hr => ?_, p3, by rw [p2 9 (by decide)]; exact h3, by rw [p2 10 (by decide)]; exact h4, by rw [p2 12 (by decide)]; exact h5, by rw [p2 13 (by decide)]; exact h6, fun j hj => ?_, fun j hj i hi => ?_, fun j hj => ?_, fun j hj i hi => ?_⟩
  · rw [p1 29 (by decide) (by decide) (by decide) (by decide) (by decide)]; exact h1 r hr
  · rw [eN] at hj
    rw [eZ]
    by_cases e : j = dN D
    · subst e; rw [if_pos rfl]; exact p7
    · rw [if_neg e]; exact (p6 j e).trans (h7 j (by omega))
  · rw [eN] at hj
    rw [eZ] at hi
    by_cases e : j = dN D
    · subst e
      rw [if_pos rfl] at hi
      rw [y1]; exact p9 i hi
    · rw [if_neg e] at hi
      have := hZ j (by omega)
      rw [y0 j i (by omega) hi]
      exact (p8 (13 * j + i) (by omega)).trans (h8 j (by omega) i hi)
  · rw [eN] at hj
    rw [eZ]
    by_cases e : j = dN D
    · subst e
      rw [if_pos rfl]
      have e1 : M' 32 (13 * dN D + z) = nI (rwN T z) := p10
      rw [e1, rwN_cg z (fun i _ => (y1 i).symm)]
    · rw [if_neg e]
      have := hZ j (by omega)
      have e1 : M' 32 (13 * j + dZ D j) = M 32 (13 * j + dZ D j) := p8 _ (by omega)
      rw [e1, h9 j (by omega), rwN_cg (dZ D j) (fun i hi => (y0 j i (by omega) hi).symm)]
  · rw [eN] at hj
    rw [eZ] at hi
    by_cases e : j = dN D
    · subst e
      rw [if_pos rfl] at hi
      rw [y1]; exact p12 i hi
    · rw [if_neg e] at hi
      have := hZ j (by omega)
      rw [y0 j i (by omega) hi]
      exact (p11 (12 * j + i) (by omega)).trans (h10 j (by omega) i hi)
-- ===== the class at a line's head; behind a fault =====
def fr (M0 M : MM) : Prop := (∀ a, (a < 28 ∨ 38 ≤ a) → M a = M0 a) ∧ M 37 2 = M0 37 2
def clL (c : Nat → Nat) (n : Nat) (M0 M : MM) (p : Nat) (D : DD) : Prop := fr M0 M ∧ tokC c n p M ∧ M 37 7 = nI (dT D) ∧ M 37 8 = 0 ∧ dfC M D
def clX (M0 M : MM) (pl : Nat) : Prop := fr M0 M ∧ (∃ k, 1 ≤ k ∧ k ≤ 6 ∧ M 37 8 = nI k) ∧ M 37 9 = nI pl ∧ ∃ D, okD D ∧ dfC M D
theorem fr.lt {M0 M : MM} {c : Nat → Nat} {n : Nat} (h : fr M0 M) (hl : ltP M0 c n) : ltP M c n := hl.keep h.2 (h.1 38 (by omega))
theorem clX.ne {M0 M : MM} {pl : Nat} (h : clX M0 M pl) : ¬ M 37 8 = 0 := by
  obtain ⟨-, ⟨k, k1, k2, e⟩, -⟩ := h
  rw [e]
  intro z
  have := (nI_eq (b := 0) (by omega) (by omega)).mp z
  omega
/-- a fault more: only the reader's own numbers changed -/
theorem s_refuse {Q : MM → Prop} {M0 M : MM} {D : DD} {k pl : Nat} {v w : Int32} (hf : fr M0 M) (ok : okD D) (hd : dfC M D) (f : M 37 8 = 0) (ev : v = nI k) (ew : w = nI pl) (hk : 1 ≤ k ∧ k ≤ 6) (hq : ∀ M', clX M0 M' pl → (∀ a, a ≠ 37 → M' a = M a) → (∀ j, j ≠ 8 → j ≠ 9 → M' 37 j = M 37 j) → Q M') : wX3_refuse Q M v w := by
  subst ev; subst ew
  unfold wX3_refuse
  refine br_t f ?_
  rintro _ rfl _ rfl
  have ka : ∀ a, a ≠ 37 → mset (mset M 37 8 (nI k)) 37 9 (nI pl) a = M a := fun a ha => by rw [mset_n ha, mset_n ha]
  refine hq _ ⟨⟨fun a ha => by rw [ka a (by omega)]; exact hf.1 a ha, by rw [mset_sn (by decide), mset_sn (by decide)]; exact hf.2⟩, ⟨k, hk.1, hk.2, by rw [mset_sn (by decide), mset_ss]⟩, mset_ss, D, ok, hd.keep (fun a ha => ka a (by omega)) (fun j _ => by rw [ka 28 (by decide)])⟩ ka (fun j j1 j2 => by rw [mset_sn j2, mset_sn j1])
/-- a token is read, a broken one is a fault -/
theorem s_rd {Q : MM → Prop} {M0 M : MM} {c : Nat → Nat} {n p : Nat} {D : DD} (hl : ltP M0 c n) (hp : p ≤ n) (hf : fr M0 M) (e3 : M 37 3 = nI p) (e7 : M 37 7 = nI (dT D)) (e8 : M 37 8 = 0) (hd : dfC M D) (ok : okD D) (hX : tK c n p = 4 → ∀ M', clX M0 M' (tS c n p) → M' 37 4 = nI 4 → (∀ a, a ≠ 37 → M' a = M a) → Q M') (hG : tK c n p ≠ 4 → ∀ M', clL c n M0 M' p D → (∀ a, a ≠ 37 → M' a = M a) → Q M') : wX3_readToken Q M := by
  refine s_readToken (hf.lt hl) hp e3 (fun M' h => ?_)
  obtain ⟨h1, h2, h3, h4, h5, h6⟩ := h
  have hf' : fr M0 M' := ⟨fun a ha => by rw [h1 a (by omega)]; exact hf.1 a ha, by rw [h2]; exact hf.2⟩
  have hd' : dfC M' D := hd.keep (fun a ha => h1 a (by omega)) (fun j _ => by rw [h1 28 (by decide)])
  by_cases k4 : tK c n p = 4
  · exact hX k4 M' ⟨hf', ⟨1, by omega, by omega, (h5 k4 e8).1⟩, (h5 k4 e8).2, D, ok, hd'⟩ (by rw [h4.2.1, k4]) h1
  · have g := h6 (fun z => k4 z.1)
    exact hG k4 M' ⟨hf', h4, by rw [h3]; exact e7, by rw [g.1]; exact e8, hd'⟩ h1
/-- behind a fault a token is read all the same -/
theorem s_rdX {Q : MM → Prop} {M0 M : MM} {c : Nat → Nat} {n p pl : Nat} (hl : ltP M0 c n) (hp : p ≤ n) (h : clX M0 M pl) (e3 : M 37 3 = nI p) (hq : ∀ M', clX M0 M' pl → (∀ a, a ≠ 37 → M' a = M a) → Q M') : wX3_readToken Q M := by
  have hne := h.ne
  obtain ⟨hf, ⟨k, k1, k2, e8⟩, e9, D, ok, hd⟩ := h
  refine s_readToken (hf.lt hl) hp e3 (fun M' h => ?_)
  obtain ⟨h1, h2, h3, h4, h5, h6⟩ := h
  have g := h6 (fun z => hne z.2)
  exact hq M' ⟨⟨fun a ha => by rw [h1 a (by omega)]; exact hf.1 a ha, by rw [h2]; exact hf.2⟩, ⟨k, k1, k2, by rw [g.1]; exact e8⟩, by rw [g.2]; exact e9, D, ok, hd.keep (fun a ha => h1 a (by omega)) (fun j _ => by rw [h1 28 (by decide)])⟩ h1
/-- behind a fault, at a broken token: no number -/
theorem s_withinX {Q : Int32 → MM → Prop} {M0 M : MM} {pl : Nat} {lo hi : Int32} (h : clX M0 M pl) (ek : M 37 4 = nI 4) (hq : Q 0 M) : wX3_isNumberWithin Q M lo hi := by
  unfold wX3_isNumberWithin
  refine br_f (by rw [ek]; decide) ?_
  unfold wX3_refuse wX3_isNumberWithin_41
  exact br_f h.ne (br_nf h.ne hq)
theorem s_within {Q : Int32 → MM → Prop} {M0 M : MM} {c : Nat → Nat} {n q lo hi : Nat} {D : DD} (h : clL c n M0 M q D) (ok : okD D) (hlo : lo ≤ 10000) (hhi : hi ≤ 9999) (h1 : tK c n q = 2 → lo ≤ tV c n q → tV c n q ≤ hi → Q 1 M) (h0 : ¬ (tK c n q = 2 ∧ lo ≤ tV c n q ∧ tV c n q ≤ hi) → ∀ M', clX M0 M' (tS c n q) → Q 0 M') : wX3_isNumberWithin Q M (nI lo) (nI hi) := by
  obtain ⟨hf, ht, e7, e8, hd⟩ := h
  have hk := tK_le c n q
  unfold wX3_isNumberWithin
  rw [ht.2.1, show (2 : Int32) = nI 2 from rfl, nI_eq (by omega) (by omega)]
  have fin : ∀ M', clX M0 M' (tS c n q) → ¬ (tK c n q = 2 ∧ lo ≤ tV c n q ∧ tV c n q ≤ hi) → wX3_isNumberWithin_41 Q (nI lo) (nI hi) M' := by
    intro M' hx z
    unfold wX3_isNumberWithin_41
    exact br_nf hx.ne (h0 z M' hx)
  by_cases k2 : tK c n q = 2
  · have hv := tV_lt c n q k2
    refine br_t k2 (s_isBetween.mpr ?_)
    rw [ht.2.2.2 k2]
    have e : (nI lo ≤ nI (tV c n q) ∧ nI (tV c n q) ≤ nI hi) ↔ (lo ≤ tV c n q ∧ tV c n q ≤ hi) := by
      rw [nI_leI (by omega) (by omega), nI_leI (by omega) (by omega)]
    by_cases b : lo ≤ tV c n q ∧ tV c n q ≤ hi
    · refine zt1 (e.mpr b) ?_
      unfold wX3_isNumberWithin_41
      exact br_nt e8 (h1 k2 b.1 b.2)
    · refine zf1 (fun z => b (e.mp z)) (s_refuse (k := 3) hf ok hd e8 rfl ht.2.2.1 (by omega) (fun M' hx _ _ => fin M' hx (fun z => b z.2)))
  · exact br_f k2 (s_refuse (k := 2) hf ok hd e8 rfl ht.2.2.1 (by omega) (fun M' hx _ _ => fin M' hx (fun z => k2 z.1)))
/-- what a line leaves -/
def lnC (c : Nat → Nat) (n p : Nat) (M0 : MM) (r : LR) (Q : MM → Prop) : Prop := (∀ pl M', r = .inl pl → clX M0 M' pl → Q M') ∧ (∀ q D' M', r = .inr (q, D') → clL c n M0 M' q D' → okD D' → q ≤ n → p < q → tK c n q ≠ 4 → Q M')
theorem s_sign {Q : MM → Prop} {M0 M : MM} {c : Nat → Nat} {n p q : Nat} {D : DD} (hl : ltP M0 c n) (hq : q ≤ n) (hpq : p ≤ q) (h : clL c n M0 M q D) (ok : okD D) (g : lnC c n p M0 (sgF c n q D) Q) : wX3_takeSign Q M := by
  obtain ⟨hf, ht, e7, e8, hd⟩ := h
  have hk := tK_le c n q
  have hsb := tS_b (c := c) hq
  have heb := tE_b (c := c) hq
  unfold wX3_takeSign
  unfold sgF at g
  rw [ht.2.1, show (3 : Int32) = nI 3 from rfl, nI_eq (by omega) (by omega)]
  by_cases k3 : tK c n q = 3
  · rw [if_pos k3] at g
    have hgt := tE_gt (c := c) hq (by omega)
    refine br_nt k3 (s_rd hl heb.2 hf ht.1 e7 e8 hd ok (fun k4 M' hx _ _ => ?_) (fun k4 M' hx _ => ?_))
    · rw [if_pos k4] at g
      exact g.1 _ M' rfl hx
    · rw [if_neg k4] at g
      exact g.2 _ _ M' rfl hx ok heb.2 (by omega) k4
  · rw [if_neg k3] at g
    exact br_nf k3 (s_refuse (k := 2) hf ok hd e8 rfl ht.2.2.1 (by omega) (fun M' hx _ _ => g.1 _ M' rfl hx))
theorem s_60X {Q : MM → Prop} {M0 M : MM} {pl : Nat} (h : clX M0 M pl) (hq : Q M) : wX3_takeLine_60 Q M := by
  unfold wX3_takeLine_60
  exact br_nf h.ne hq
theorem s_60L {Q : MM → Prop} {M0 M : MM} {c : Nat → Nat} {n p q : Nat} {D : DD} (hl : ltP M0 c n) (hq : q ≤ n) (hpq : p ≤ q) (h : clL c n M0 M q D) (ok : okD D) (g : lnC c n p M0 (sgF c n q D) Q) : wX3_takeLine_60 Q M := by
  unfold wX3_takeLine_60
  exact br_nt h.2.2.2.1 (s_sign hl hq hpq h ok g)
theorem s_takeRule {Q : MM → Prop} {M0 M : MM} {c : Nat → Nat} {n p k : Nat} {D : DD} (hl : ltP M0 c n) (hp : p ≤ n) (hk0 : tK c n p ≠ 0) (h : clL c n M0 M p D) (ok : okD D) (hk : k < 9) (g : lnC c n p M0 (if dT D / 2 ^ k % 2 = 1 then .inl (tS c n p) else if tK c n (tE c n p) = 4 then .inl (tS c n (tE c n p)) else rlF c n (tE c n p) k D) Q) : wX3_takeRule (fun M' => wX3_takeLine_60 Q M') M (nI k) := by
  have h' := h
  obtain ⟨hf, ht, e7, e8, hd⟩ := h
  have hT := ok.2.2.2.2
  have hsb := tS_b (c := c) hp
  have heb := tE_b (c := c) hp
  have hgt := tE_gt (c := c) hp hk0
  obtain ⟨r1, r2, r3, r4, r5, r6⟩ := rule_ok k hk
  unfold wX3_takeRule
  rw [e7, bit_iff (by omega) (by omega)]
  by_cases b : dT D / 2 ^ k % 2 = 1
  · rw [if_pos b] at g
    exact br_nt b (s_refuse (k := 4) hf ok hd e8 rfl ht.2.2.1 (by omega) (fun M' hx _ _ => s_60X hx (g.1 _ M' rfl hx)))
  · rw [if_neg b] at g
    refine br_nf b ?_
    rintro _ rfl
    rw [shl_1 k (by omega), nI_or]
    have kM : ∀ v a, a ≠ 37 → mset M 37 7 v a = M a := fun v a ha => mset_n ha
    refine s_rd (D := (dT D ||| 2 ^ k, dR D, dN D, dZ D, dY D)) hl heb.2 ⟨fun a ha => by rw [kM _ a (by omega)]; exact hf.1 a ha, by rw [mset_sn (by decide)]; exact hf.2⟩ (by rw [mset_sn (by decide)]; exact ht.1) mset_ss (by rw [mset_sn (by decide)]; exact e8) (show dfC _ D from hd.keep (fun a ha => kM _ a (by omega)) (fun j _ => by rw [kM _ 28 (by decide)])) ⟨ok.1, ok.2.1, ok.2.2.1, ok.2.2.2.1, told_lt _ hT k hk⟩ (fun k4 M' hx ek _ => ?_) (fun k4 M2 h2 _ => ?_)
    · rw [if_pos k4] at g
      exact s_cell_s (i := 0) (j := k) rfl hk r1 (s_cell_s (i := 1) (j := k) rfl hk r2 (s_withinX hx ek (o_n0 (s_60X hx (g.1 _ M' rfl hx)))))
    · rw [if_neg k4] at g
      refine s_cell_s (i := 0) (j := k) rfl hk r1 (s_cell_s (i := 1) (j := k) rfl hk r2 ?_)
      unfold rlF at g
      have ok2 : okD (dT D ||| 2 ^ k, dR D, dN D, dZ D, dY D) := ⟨ok.1, ok.2.1, ok.2.2.1, ok.2.2.2.1, told_lt _ hT k hk⟩
      refine s_within h2 ok2 r4 r5 (fun k2 v1 v2 => o_n1 ?_) (fun z M' hx => o_n0 ?_)
      · rw [if_pos ⟨k2, v1, v2⟩] at g
        obtain ⟨hf2, ht2, e72, e82, hd2⟩ := h2
        have heb2 := tE_b (c := c) heb.2
        have hsb2 := tS_b (c := c) heb.2
        rw [ht2.2.2.2 k2]
        refine s_setCell (by show k < 9; exact hk) (by decide +kernel) ?_
        have k29 : ∀ v a, a ≠ 29 → mset M2 29 k v a = M2 a := fun v a ha => mset_n ha
        obtain ⟨d1, d2, d3, d4, d5, d6, d7, d8, d9, d10⟩ := hd2
        have hd3 : dfC (mset M2 29 k (nI (tV c n (tE c n p)))) (setR D k (tV c n (tE c n p))) := by
          refine ⟨fun r hr => ?_, by rw [k29 _ 28 (by decide)]; exact d2, by rw [k29 _ 28 (by decide)]; exact d3, by rw [k29 _ 28 (by decide)]; exact d4, by rw [k29 _ 28 (by decide)]; exact d5, by rw [k29 _ 28 (by decide)]; exact d6, by rw [k29 _ 31 (by decide)]; exact d7, by rw [k29 _ 32 (by decide)]; exact d8, by rw [k29 _ 32 (by decide)]; exact d9, by rw [k29 _ 33 (by decide)]; exact d10⟩
          show mset M2 29 k (nI (tV c n (tE c n p))) 29 r = nI (if r = k then tV c n (tE c n p) else dR D r)
          by_cases e : r = k
          · subst e; rw [mset_ss, if_pos rfl]
          · rw [mset_sn e, if_neg e]; exact d1 r hr
        refine s_rd (D := setR D k (tV c n (tE c n p))) hl heb2.2 ⟨fun a ha => by rw [k29 _ a (by omega)]; exact hf2.1 a ha, by rw [k29 _ 37 (by decide)]; exact hf2.2⟩ (by rw [k29 _ 37 (by decide)]; exact ht2.1) (by rw [k29 _ 37 (by decide)]; exact e72) (by rw [k29 _ 37 (by decide)]; exact e82) hd3 (ok.set hk ⟨v1, v2⟩) (fun q4 M' hx _ _ => ?_) (fun q4 M3 h3 _ => ?_)
        · rw [if_pos q4] at g
          exact s_60X hx (g.1 _ M' rfl hx)
        · rw [if_neg q4] at g
          exact s_60L hl heb2.2 (by omega) h3 (ok.set hk ⟨v1, v2⟩) g
      · rw [if_neg z] at g
        exact s_60X hx (g.1 _ M' rfl hx)
theorem s_room {Q : Int32 → MM → Prop} {M0 M : MM} {c : Nat → Nat} {n p : Nat} {D : DD} (h : clL c n M0 M p D) (ok : okD D) (h1 : dN D < 12 → Q 1 M) (h0 : 12 ≤ dN D → ∀ M', clX M0 M' (tS c n p) → Q 0 M') : wX3_hasRoomForBlock Q M := by
  obtain ⟨hf, ht, e7, e8, hd⟩ := h
  have hN := ok.2.1
  unfold wX3_hasRoomForBlock
  rw [hd.2.1, show (12 : Int32) = nI 12 from rfl, nI_leI (by omega) (by omega)]
  by_cases b : 12 ≤ dN D
  · exact br_t b (s_refuse (k := 5) hf ok hd e8 rfl ht.2.2.1 (by omega) (fun M' hx _ _ => h0 b M' hx))
  · exact br_f b (h1 (by omega))
/-- a block's end: its bytes lie typed -/
theorem s_closed {Q : MM → Prop} {M0 M : MM} {D : DD} {i : Nat} {T : Nat → Nat} (hf : fr M0 M) (hd : dfC M D) (ok : okD D) (hN : dN D < 12) (hi : i ≤ 12) (e11 : M 28 11 = nI i) (hT : ∀ j, j < i → T j < 256 ∧ M 34 j = nI (T j)) (hq : ∀ M', fr M0 M' → (∀ j, M' 37 j = M 37 j) → dfC M' (addB D i T) → okD (addB D i T) → Q M') : wX3_takeBlock_92 Q M := by
  unfold wX3_takeBlock_92
  rw [hd.2.1, e11]
  refine s_putBlock (b := 28) (bg := 0) (T := T) (Or.inr (Or.inr (Or.inr rfl))) hN hi hT (fun M' hp => ?_)
  have p1 := hp.1
  refine hq M' ⟨fun a ha => by rw [p1 a (by omega) (by omega) (by omega) (by omega) (by omega)]; exact hf.1 a ha, by rw [p1 37 (by decide) (by decide) (by decide) (by decide) (by decide)]; exact hf.2⟩ (fun j => by rw [p1 37 (by decide) (by decide) (by decide) (by decide) (by decide)]) (hd.add ok hi hp) (ok.add hN hi (fun j hj => (hT j hj).1))
theorem s_takeBlock {Q : MM → Prop} {M0 M : MM} {c : Nat → Nat} {n p : Nat} {D : DD} (hl : ltP M0 c n) (hp : p ≤ n) (hk0 : tK c n p ≠ 0) (h : clL c n M0 M p D) (ok : okD D) (g : lnC c n p M0 (if 12 ≤ dN D then .inl (tS c n p) else if tK c n (tE c n p) = 4 then .inl (tS c n (tE c n p)) else bgF c n (tE c n p) D) Q) : wX3_takeBlock (fun M' => wX3_takeLine_60 Q M') M := by
  have hsb := tS_b (c := c) hp
  have heb := tE_b (c := c) hp
  have hgt := tE_gt (c := c) hp hk0
  unfold wX3_takeBlock
  refine s_room h ok (fun hN => o_n1 ?_) (fun hN M' hx => o_n0 ?_)
  · rw [if_neg (by omega)] at g
    obtain ⟨hf, ht, e7, e8, hd⟩ := h
    rintro _ rfl
    have kj : ∀ j, j ≠ 11 → mset M 28 11 0 28 j = M 28 j := fun j hj => mset_sn hj
    have ka : ∀ a, a ≠ 28 → mset M 28 11 0 a = M a := fun a ha => mset_n ha
    refine s_rd (D := D) hl heb.2 ⟨fun a ha => by rw [ka a (by omega)]; exact hf.1 a ha, by rw [ka 37 (by decide)]; exact hf.2⟩ (by rw [ka 37 (by decide)]; exact ht.1) (by rw [ka 37 (by decide)]; exact e7) (by rw [ka 37 (by decide)]; exact e8) (hd.keep (fun a ha => ka a (by omega)) kj) ok (fun k4 M' hx ek _ => ?_) (fun k4 M2 h2 k2 => ?_)
    · -- the first token behind block is broken: the block's number is asked for, none is there
      rw [if_pos k4] at g
      refine ⟨1, br_f (by decide) (br_t rfl ?_)⟩
      unfold wX3_takeBlock_40
      exact s_withinX hx ek (o_n0 (s_60X hx (g.1 _ M' rfl hx)))
    · rw [if_neg k4] at g
      -- the numbers
      have loop : ∀ r i q T M1, i + r = 12 → p ≤ q → q ≤ n → clL c n M0 M1 q D → M1 28 11 = nI i → (∀ j, j < i → T j < 256 ∧ M1 34 j = nI (T j)) → (0 < i → tK c n q = 2) → lnC c n p M0 (match bkF c n (r + 1) i q T with | .inl pl => .inl pl | .inr x => sgF c n x.1 (addB D x.2.1 x.2.2)) Q → wX3_takeBlock_22 (fun M' => wX3_takeLine_60 Q M') (r + 2) M1 (nI i) := by
        intro r
        induction r with
        | zero =>
          intro i q T M1 hi hpq hq h1 e11 hT hk g
          have : i = 12 := by omega
          subst this
          have hk2 := hk (by omega)
          rw [bkF, if_pos hk2, if_pos rfl] at g
          obtain ⟨hf1, ht1, e71, e81, hd1⟩ := id h1
          have heq := tE_b (c := c) hq
          refine br_f (by decide +kernel) (br_f (by decide +kernel) (br_nt (by rw [ht1.2.1, hk2]; rfl) ?_))
          unfold wX3_takeBlock_40
          refine s_within (lo := 0) (hi := 255) h1 ok (by decide) (by decide) (fun _ v1 v2 => o_n1 ?_) (fun z M' hx => o_n0 (s_60X hx (g.1 _ M' rfl hx)))
          refine br_nt (by decide +kernel) (s_refuse (k := 5) hf1 ok hd1 e81 rfl ht1.2.2.1 (by omega) (fun M3 hx ka kj => ?_))
          unfold wX3_takeBlock_82
          refine s_rdX hl heq.2 hx (by rw [kj 3 (by decide) (by decide)]; exact ht1.1) (fun M4 hx4 ka4 => ?_)
          have kb : ∀ a, a ≠ 37 → M4 a = M1 a := fun a ha => by rw [ka4 a ha, ka a ha]
          refine br_t (by decide +kernel) (s_closed (T := T) hx4.1 (hd1.keep (fun a ha => kb a (by omega)) (fun j _ => by rw [kb 28 (by decide)])) ok hN (Nat.le_refl 12) (by rw [kb 28 (by decide)]; exact e11) (fun j hj => by rw [kb 34 (by decide)]; exact hT j hj) (fun M5 f5 k5 d5 o5 => ?_))
          have hx5 : clX M0 M5 (tS c n q) := by
            obtain ⟨-, ⟨k, a1, a2, a3⟩, a4, -⟩ := hx4
            exact ⟨f5, ⟨k, a1, a2, by rw [k5]; exact a3⟩, by rw [k5]; exact a4, _, o5, d5⟩
          exact s_60X hx5 (g.1 _ M5 rfl hx5)
        | succ r ih =>
          intro i q T M1 hi hpq hq h1 e11 hT hk g
          obtain ⟨hf1, ht1, e71, e81, hd1⟩ := id h1
          have heq := tE_b (c := c) hq
          have hsq := tS_b (c := c) hq
          have hkl := tK_le c n q
          have t40 : wX3_takeBlock_40 (fun M' => wX3_takeLine_60 Q M') (fun M v1 => wX3_takeBlock_22 (fun M' => wX3_takeLine_60 Q M') (r + 2) M v1) M1 (nI i) := by
            unfold wX3_takeBlock_40
            rw [bkF] at g
            refine s_within (lo := 0) (hi := 255) h1 ok (by decide) (by decide) (fun k2 v1 v2 => o_n1 ?_) (fun z M' hx => o_n0 (s_60X hx (g.1 _ M' ?_ hx)))
            · rw [if_pos k2, if_neg (by omega), if_neg (by omega)] at g
              have hgt := tE_gt (c := c) hq (by omega)
              refine br_nf (fun z => by have := (nI_eq (b := 12) (by omega) (by omega)).mp z; omega) ?_
              rw [ht1.2.2.2 k2]
              refine s_typeOne (b := 28) (y := i) (a := tV c n q) (Or.inr (Or.inr (Or.inr rfl))) e11 (by omega) ?_
              unfold wX3_takeBlock_82
              have kc : ∀ a, a ≠ 28 → a ≠ 34 → ctM M1 28 i (tV c n q) a = M1 a := fun a a1 a2 => by
                unfold ctM; rw [mset_n a1, mset_n a2]
              have k28 : ∀ j, j ≠ 11 → ctM M1 28 i (tV c n q) 28 j = M1 28 j := fun j hj => by
                unfold ctM; rw [mset_sn hj, mset_n (by decide)]
              have c11 : ctM M1 28 i (tV c n q) 28 11 = nI (i + 1) := by unfold ctM; rw [mset_ss]
              have cT : ∀ j, j < i + 1 → (if j = i then tV c n q else T j) < 256 ∧ ctM M1 28 i (tV c n q) 34 j = nI (if j = i then tV c n q else T j) := fun j hj => by
                unfold ctM
                rw [mset_n (show (34 : Nat) ≠ 28 by decide)]
                by_cases e : j = i
                · subst e; rw [if_pos rfl]; exact ⟨by omega, mset_ss⟩
                · rw [if_neg e]
                  exact ⟨(hT j (by omega)).1, (mset_sn (k := 28 + 6) e).trans (hT j (by omega)).2⟩
              have hdc : dfC (ctM M1 28 i (tV c n q)) D := hd1.keep (fun a ha => kc a (by omega) (by omega)) k28
              refine s_rd (D := D) hl heq.2 ⟨fun a ha => by rw [kc a (by omega) (by omega)]; exact hf1.1 a ha, by rw [kc 37 (by decide) (by decide)]; exact hf1.2⟩ (by rw [kc 37 (by decide) (by decide)]; exact ht1.1) (by rw [kc 37 (by decide) (by decide)]; exact e71) (by rw [kc 37 (by decide) (by decide)]; exact e81) hdc ok (fun k4 M3 hx ek ka => ?_) (fun k4 M3 h3 ka => ?_)
              · -- the next one is broken
                rw [if_pos k4] at g
                rw [nI_1]
                refine br_f (fun z => by have := (nI_ltI (a := 12) (by omega) (by omega)).mp z; omega) (br_f (fun z => by have := (nI_eq (b := 0) (by omega) (by omega)).mp z; omega) (br_nf (by rw [ek]; decide) ?_))
                refine s_closed (T := fun j => if j = i then tV c n q else T j) hx.1 (hdc.keep (fun a ha => ka a (by omega)) (fun j _ => by rw [ka 28 (by decide)])) ok hN (show i + 1 ≤ 12 by omega) (by rw [ka 28 (by decide)]; exact c11) (fun j hj => by rw [ka 34 (by decide)]; exact cT j hj) (fun M5 f5 k5 d5 o5 => ?_)
                have hx5 : clX M0 M5 (tS c n (tE c n q)) := by
                  obtain ⟨-, ⟨k, a1, a2, a3⟩, a4, -⟩ := hx
                  exact ⟨f5, ⟨k, a1, a2, by rw [k5]; exact a3⟩, by rw [k5]; exact a4, _, o5, d5⟩
                exact s_60X hx5 (g.1 _ M5 rfl hx5)
              · rw [if_neg k4] at g
                rw [nI_1]
                by_cases k2' : tK c n (tE c n q) = 2
                · rw [if_pos k2'] at g
                  exact ih (i + 1) (tE c n q) (fun j => if j = i then tV c n q else T j) M3 (by omega) (by omega) heq.2 h3 (by rw [ka 28 (by decide)]; exact c11) (fun j hj => by rw [ka 34 (by decide)]; exact cT j hj) (fun _ => k2') g
                · rw [if_neg k2'] at g
                  have hkl2 := tK_le c n (tE c n q)
                  refine br_f (fun z => by have := (nI_ltI (a := 12) (by omega) (by omega)).mp z; omega) (br_f (fun z => by have := (nI_eq (b := 0) (by omega) (by omega)).mp z; omega) (br_nf (fun z => ?_) ?_))
                  · rw [h3.2.1.2.1] at z
                    exact k2' ((nI_eq (b := 2) (by omega) (by omega)).mp z)
                  refine s_closed (T := fun j => if j = i then tV c n q else T j) h3.1 h3.2.2.2.2 ok hN (show i + 1 ≤ 12 by omega) (by rw [ka 28 (by decide)]; exact c11) (fun j hj => by rw [ka 34 (by decide)]; exact cT j hj) (fun M5 f5 k5 d5 o5 => ?_)
                  refine s_60L hl heq.2 (by omega) ⟨f5, ?_, by rw [k5]; exact h3.2.2.1, by rw [k5]; exact h3.2.2.2.1, d5⟩ o5 g
                  obtain ⟨y1, y2, y3, y4⟩ := h3.2.1
                  exact ⟨by rw [k5]; exact y1, by rw [k5]; exact y2, by rw [k5]; exact y3, fun z => by rw [k5]; exact y4 z⟩
            · by_cases k2 : tK c n q = 2
              · rw [if_pos k2]
                by_cases i12 : i = 12
                · rw [if_pos i12]
                · rw [if_neg i12, if_pos (by omega)]
              · rw [if_neg k2]
          refine br_f (fun z => by have := (nI_ltI (a := 12) (by omega) (by omega)).mp z; omega) ?_
          by_cases i0 : i = 0
          · exact br_t (by rw [i0]; rfl) t40
          · refine br_f (fun z => i0 ((nI_eq (b := 0) (by omega) (by omega)).mp z)) (br_nt ?_ t40)
            rw [ht1.2.1, hk (by omega)]; rfl
      exact ⟨14, loop 12 0 (tE c n p) (fun _ => 0) M2 (by omega) (by omega) heb.2 h2 (by rw [k2 28 (by decide), mset_ss]; rfl) (fun j hj => absurd hj (Nat.not_lt_zero _)) (fun z => absurd z (Nat.lt_irrefl _)) g⟩
  · rw [if_pos hN] at g
    exact s_60X hx (g.1 _ M' rfl hx)
theorem s_takeMark {Q : MM → Prop} {M0 M : MM} {c : Nat → Nat} {n p : Nat} {D : DD} (hl : ltP M0 c n) (hp : p ≤ n) (hk0 : tK c n p ≠ 0) (h : clL c n M0 M p D) (ok : okD D) (g : lnC c n p M0 (if 12 ≤ dN D then .inl (tS c n p) else if tK c n (tE c n p) = 4 then .inl (tS c n (tE c n p)) else sgF c n (tE c n p) (addB D 0 (fun _ => 0))) Q) : wX3_takeMark (fun M' => wX3_takeLine_60 Q M') M := by
  have hsb := tS_b (c := c) hp
  have heb := tE_b (c := c) hp
  have hgt := tE_gt (c := c) hp hk0
  unfold wX3_takeMark
  refine s_room h ok (fun hN => o_n1 ?_) (fun hN M' hx => o_n0 ?_)
  · rw [if_neg (by omega)] at g
    obtain ⟨hf, ht, e7, e8, hd⟩ := h
    rw [hd.2.1]
    refine s_putBlock (b := 28) (n := 0) (bg := 0) (T := fun _ => 0) (Or.inr (Or.inr (Or.inr rfl))) hN (by omega) (fun i hi => absurd hi (Nat.not_lt_zero _)) (fun M' hp => ?_)
    have p1 := hp.1
    have k37 : M' 37 = M 37 := p1 37 (by decide) (by decide) (by decide) (by decide) (by decide)
    have ok2 := ok.add (z := 0) (T := fun _ => 0) hN (by omega) (fun i hi => absurd hi (Nat.not_lt_zero _))
    refine s_rd (D := addB D 0 (fun _ => 0)) hl heb.2 ⟨fun a ha => by rw [p1 a (by omega) (by omega) (by omega) (by omega) (by omega)]; exact hf.1 a ha, by rw [k37]; exact hf.2⟩ (by rw [k37]; exact ht.1) (by rw [k37]; exact e7) (by rw [k37]; exact e8) (hd.add ok (by omega) hp) ok2 (fun k4 M2 hx _ _ => ?_) (fun k4 M2 h2 _ => ?_)
    · rw [if_pos k4] at g
      exact s_60X hx (g.1 _ M2 rfl hx)
    · rw [if_neg k4] at g
      exact s_60L hl heb.2 (by omega) h2 ok2 g
  · rw [if_pos hN] at g
    exact s_60X hx (g.1 _ M' rfl hx)
theorem kN_c (c : Nat → Nat) (n p : Nat) : kN c n p ≤ 8 ∨ kN c n p = 10 ∨ kN c n p = 11 ∨ kN c n p = 12 := by
  unfold kN
  repeat' split
  all_goals omega
theorem s_takeLine {Q : MM → Prop} {M0 M : MM} {c : Nat → Nat} {n p : Nat} {D : DD} (hl : ltP M0 c n) (hp : p ≤ n) (hk0 : tK c n p ≠ 0) (h : clL c n M0 M p D) (ok : okD D) (g : lnC c n p M0 (lnF c n p D) Q) : wX3_takeLine Q M := by
  have hlM := h.1.lt hl
  unfold wX3_takeLine
  unfold lnF at g
  refine s_ruleNamed hlM hp h.2.1 (fun k8 => ?_) (fun hn => ?_)
  · rw [if_neg (by omega), if_pos k8] at g
    refine br_f (fun z => ?_) (s_takeRule hl hp hk0 h ok (by omega) g)
    have : (0 : Int32) ≤ nI (kN c n p) := nI_le (a := 0) (Nat.zero_le _) (by omega)
    rw [z] at this
    exact absurd this (by decide)
  · refine br_t rfl (s_isNamed hlM hp h.2.1 (by decide) (fun x9 => o_t1 ?_) (fun x9 => o_t0 ?_))
    · have e : kN c n p = 10 := by unfold kN; rw [if_neg (hn 0 (by decide)), if_neg (hn 1 (by decide)), if_neg (hn 2 (by decide)), if_neg (hn 3 (by decide)), if_neg (hn 4 (by decide)), if_neg (hn 5 (by decide)), if_neg (hn 6 (by decide)), if_neg (hn 7 (by decide)), if_neg (hn 8 (by decide)), if_pos x9]
      rw [e, if_neg (by decide), if_neg (by decide), if_pos rfl] at g
      exact s_takeBlock hl hp hk0 h ok g
    · refine s_isNamed hlM hp h.2.1 (by decide) (fun x10 => o_t1 ?_) (fun x10 => o_t0 ?_)
      · have e : kN c n p = 11 := by unfold kN; rw [if_neg (hn 0 (by decide)), if_neg (hn 1 (by decide)), if_neg (hn 2 (by decide)), if_neg (hn 3 (by decide)), if_neg (hn 4 (by decide)), if_neg (hn 5 (by decide)), if_neg (hn 6 (by decide)), if_neg (hn 7 (by decide)), if_neg (hn 8 (by decide)), if_neg x9, if_pos x10]
        rw [e, if_neg (show ¬ (11 : Nat) = 12 by decide), if_neg (show ¬ (11 : Nat) ≤ 8 by decide), if_neg (show ¬ (11 : Nat) = 10 by decide)] at g
        exact s_takeMark hl hp hk0 h ok g
      · have e : kN c n p = 12 := by unfold kN; rw [if_neg (hn 0 (by decide)), if_neg (hn 1 (by decide)), if_neg (hn 2 (by decide)), if_neg (hn 3 (by decide)), if_neg (hn 4 (by decide)), if_neg (hn 5 (by decide)), if_neg (hn 6 (by decide)), if_neg (hn 7 (by decide)), if_neg (hn 8 (by decide)), if_neg x9, if_neg x10]
        rw [if_pos e] at g
        exact s_refuse (k := 2) h.1 ok h.2.2.2.2 h.2.2.2.1 rfl h.2.1.2.2.1 (by omega) (fun M' hx _ _ => s_60X hx (g.1 _ M' rfl hx))
