-- ===== the reference's draft =====
def dfM (M : MM) (D : DD) : Prop := (∀ r, r < 9 → M 56 r = nI (dR D r)) ∧ M 52 4 = nI (dN D) ∧ (∀ j, j < dN D → M 57 j = nI (dZ D j)) ∧ ∀ j, j < dN D → ∀ i, i < dZ D j → M 58 (12 * j + i) = nI (dY D (12 * j + i))
theorem dfM.keep {M M' : MM} {D : DD} (h : dfM M D) (e : ∀ a, a = 56 ∨ a = 57 ∨ a = 58 → M' a = M a) (e4 : M' 52 4 = M 52 4) : dfM M' D := by
  unfold dfM
  rw [e 56 (by omega), e 57 (by omega), e 58 (by omega), e4]
  exact h
def fm (M0 M : MM) : Prop := (∀ a, a ≠ 52 → a ≠ 56 → a ≠ 57 → a ≠ 58 → M a = M0 a) ∧ ∀ j, (j < 4 ∨ j = 9 ∨ 16 ≤ j) → M 52 j = M0 52 j
def mlL (c : Nat → Nat) (n : Nat) (M0 M : MM) (p : Nat) (D : DD) : Prop := fm M0 M ∧ tokM c n p M ∧ M 52 7 = nI (dT D) ∧ M 52 14 = 0 ∧ dfM M D
def mlX (M0 M : MM) (pl : Nat) : Prop := fm M0 M ∧ (∃ k, 1 ≤ k ∧ k ≤ 6 ∧ M 52 14 = nI k) ∧ M 52 15 = nI pl
theorem fm.lt {M0 M : MM} {c : Nat → Nat} {n : Nat} (h : fm M0 M) (hl : ltM M0 c n) : ltM M c n := hl.keep (h.2 9 (by omega)) (h.1 59 (by decide) (by decide) (by decide) (by decide))
theorem mlX.ne {M0 M : MM} {pl : Nat} (h : mlX M0 M pl) : ¬ M 52 14 = 0 := by
  obtain ⟨-, ⟨k, k1, k2, e⟩, -⟩ := h
  rw [e]
  intro z
  have := (nI_eq (b := 0) (by omega) (by omega)).mp z
  omega
theorem mlX.gt {M0 M : MM} {pl : Nat} (h : mlX M0 M pl) : ¬ M 52 14 ≤ 0 := by
  obtain ⟨-, ⟨k, k1, k2, e⟩, -⟩ := h
  rw [e, show (0 : Int32) = nI 0 from rfl, nI_leI (by omega) (by omega)]
  omega
theorem mlX.next {Q : MM → Prop} {M0 M : MM} {pl : Nat} (h : mlX M0 M pl) (hq : Q M) : wX5_next Q M := by
  obtain ⟨-, ⟨k, k1, k2, e⟩, -⟩ := h
  exact m_nextF k1 (by omega) e hq
theorem m_fault {Q : MM → Prop} {M0 M : MM} {k pl : Nat} {v : Int32} (hf : fm M0 M) (f : M 52 14 = 0) (ev : v = nI k) (hk : 1 ≤ k ∧ k ≤ 6) (e11 : M 52 11 = nI pl) (hq : ∀ M', mlX M0 M' pl → Q M') : wX5_needs Q M 0 v := by
  refine m_needs0 f (fun M' h1 h2 h3 h4 => hq M' ⟨⟨fun a a1 a2 a3 a4 => by rw [h1 a a1]; exact hf.1 a a1 a2 a3 a4, fun j hj => by rw [h2 j (by omega) (by omega)]; exact hf.2 j hj⟩, ⟨k, hk.1, hk.2, by rw [h3, ev]⟩, by rw [h4, e11]⟩)
theorem m_rd {Q : MM → Prop} {M0 M : MM} {c : Nat → Nat} {n p : Nat} {D : DD} (hl : ltM M0 c n) (hp : p ≤ n) (hf : fm M0 M) (e10 : M 52 10 = nI p) (e7 : M 52 7 = nI (dT D)) (e14 : M 52 14 = 0) (hd : dfM M D) (hX : tK c n p = 4 → ∀ M', mlX M0 M' (tS c n p) → Q M') (hG : tK c n p ≠ 4 → ∀ M', mlL c n M0 M' p D → (∀ a, a ≠ 52 → M' a = M a) → Q M') : wX5_next Q M := by
  refine m_next (hf.lt hl) hp e14 e10 (fun M' h => ?_)
  obtain ⟨h1, h2, h3, h4, h5⟩ := h
  have hf' : fm M0 M' := ⟨fun a a1 a2 a3 a4 => by rw [h1 a a1]; exact hf.1 a a1 a2 a3 a4, fun j hj => by rw [h2 j (by omega)]; exact hf.2 j hj⟩
  by_cases k4 : tK c n p = 4
  · exact hX k4 M' ⟨hf', ⟨1, by omega, by omega, (h4 k4).1⟩, (h4 k4).2⟩
  · exact hG k4 M' ⟨hf', h3, by rw [h2 7 (by omega)]; exact e7, h5 k4, hd.keep (fun a ha => h1 a (by omega)) (h2 4 (by omega))⟩ h1
/-- a number is asked for -/
theorem m_readNumber {Q : Int32 → MM → Prop} {M0 M : MM} {c : Nat → Nat} {n q lo hi : Nat} {D : DD} (hl : ltM M0 c n) (hq : q ≤ n) (h : mlL c n M0 M q D) (k4 : tK c n q ≠ 4) (hlo : lo ≤ 10000) (hhi : hi ≤ 9999) (hB : ¬ (tK c n q = 2 ∧ lo ≤ tV c n q ∧ tV c n q ≤ hi) → ∀ v M', mlX M0 M' (tS c n q) → Q v M') (hX : tK c n q = 2 → lo ≤ tV c n q → tV c n q ≤ hi → tK c n (tE c n q) = 4 → ∀ v M', mlX M0 M' (tS c n (tE c n q)) → Q v M') (hG : tK c n q = 2 → lo ≤ tV c n q → tV c n q ≤ hi → tK c n (tE c n q) ≠ 4 → ∀ M', mlL c n M0 M' (tE c n q) D → (∀ a, a ≠ 52 → M' a = M a) → Q (nI (tV c n q)) M') : wX5_readNumber Q M (nI lo) (nI hi) := by
  obtain ⟨hf, ht, e7, e14, hd⟩ := h
  obtain ⟨e10, e11, e12⟩ := ht.1 k4
  have hkl := tK_le c n q
  have heq := tE_b (c := c) hq
  have x49 : ∀ M', mlX M0 M' (tS c n q) → ¬ (tK c n q = 2 ∧ lo ≤ tV c n q ∧ tV c n q ≤ hi) → wX5_readNumber_49 Q (nI lo) (nI hi) M' := by
    intro M' hx z
    unfold wX5_readNumber_49
    exact hx.next (hB z _ M' hx)
  unfold wX5_readNumber
  refine br_nt e14 ?_
  rw [e12, show (2 : Int32) = nI 2 from rfl, nI_eq (by omega) (by omega)]
  by_cases k2 : tK c n q = 2
  · have hv := tV_lt c n q k2
    refine br_nt k2 ?_
    unfold wX5_readNumber_21
    refine m_needs1 ?_
    unfold wX5_readNumber_25
    refine br_nt e14 ?_
    rw [ht.2 k2]
    refine m_in32 (nI lo) (nI hi) rfl rfl ?_
    have e : (nI lo ≤ nI (tV c n q) ∧ nI (tV c n q) ≤ nI hi) ↔ (lo ≤ tV c n q ∧ tV c n q ≤ hi) := by
      rw [nI_leI (by omega) (by omega), nI_leI (by omega) (by omega)]
    by_cases b : lo ≤ tV c n q ∧ tV c n q ≤ hi
    · rw [bI_t (e.mpr b)]
      refine m_needs1 ?_
      unfold wX5_readNumber_49
      rw [ht.2 k2]
      exact m_rd hl heq.2 hf e10 e7 e14 hd (fun q4 M' hx => hX k2 b.1 b.2 q4 _ M' hx) (fun q4 M' hx ha => hG k2 b.1 b.2 q4 M' hx ha)
    · rw [bI_f (fun z => b (e.mp z))]
      exact m_fault (k := 3) hf e14 rfl (by omega) e11 (fun M' hx => x49 M' hx (fun z => b z.2))
  · refine br_nf k2 ?_
    unfold wX5_readNumber_21
    refine m_fault (k := 2) hf e14 rfl (by omega) e11 (fun M' hx => ?_)
    unfold wX5_readNumber_25
    exact br_nf hx.ne (x49 M' hx (fun z => k2 z.1))
/-- what a line leaves -/
def lnM (c : Nat → Nat) (n p : Nat) (M0 : MM) (r : LR) (Q : MM → Prop) : Prop := (∀ pl M', r = .inl pl → mlX M0 M' pl → Q M') ∧ (∀ q D' M', r = .inr (q, D') → mlL c n M0 M' q D' → okD D' → q ≤ n → p < q → tK c n q ≠ 4 → Q M')
theorem m_177X {Q : MM → Prop} {M0 M : MM} {pl : Nat} (h : mlX M0 M pl) (hq : Q M) : wX5_readLine_177 Q M := by
  unfold wX5_readLine_177 wX5_readLine_202
  exact br_nf h.ne (h.next hq)
theorem m_177L {Q : MM → Prop} {M0 M : MM} {c : Nat → Nat} {n p q : Nat} {D : DD} (hl : ltM M0 c n) (hq : q ≤ n) (hpq : p ≤ q) (h : mlL c n M0 M q D) (k4 : tK c n q ≠ 4) (ok : okD D) (g : lnM c n p M0 (sgF c n q D) Q) : wX5_readLine_177 Q M := by
  obtain ⟨hf, ht, e7, e14, hd⟩ := h
  obtain ⟨e10, e11, e12⟩ := ht.1 k4
  have hkl := tK_le c n q
  have heq := tE_b (c := c) hq
  have hsq := tS_b (c := c) hq
  unfold wX5_readLine_177 wX5_readLine_198
  unfold sgF at g
  refine br_nt e14 ?_
  rw [e12, show (3 : Int32) = nI 3 from rfl, nI_eq (by omega) (by omega)]
  by_cases k3 : tK c n q = 3
  · rw [if_pos k3] at g
    have hgt := tE_gt (c := c) hq (by omega)
    refine br_nt k3 (m_needs1 ?_)
    unfold wX5_readLine_202
    refine m_rd hl heq.2 hf e10 e7 e14 hd (fun q4 M' hx => ?_) (fun q4 M' hx _ => ?_)
    · rw [if_pos q4] at g; exact g.1 _ M' rfl hx
    · rw [if_neg q4] at g; exact g.2 _ _ M' rfl hx ok heq.2 (by omega) q4
  · rw [if_neg k3] at g
    refine br_nf k3 (m_fault (k := 2) hf e14 rfl (by omega) e11 (fun M' hx => ?_))
    unfold wX5_readLine_202
    exact hx.next (g.1 _ M' rfl hx)
theorem m_105X {Q : MM → Prop} {M0 M : MM} {pl : Nat} {v : Int32} (h : mlX M0 M pl) (hq : Q M) : wX5_readLine_105 Q M v := by
  unfold wX5_readLine_105
  exact h.next (br_f h.gt hq)
theorem m_lowest {Q : Int32 → MM → Prop} {M : MM} {k : Nat} (hk : k < 9) (hq : Q (nI (loN k)) M) : wX5_lowest Q M (nI k) := by
  have h : ∀ k, k < 9 → (nI k = 0 ↔ k = 0) ∧ (nI k = 1 ↔ k = 1) ∧ (nI k = 5 ↔ k = 5) ∧ (nI k = 6 ↔ k = 6) ∧ (nI k = 8 ↔ k = 8) ∧ loN k = (if k = 0 then 20 else if k = 1 then 5 else if k = 5 then 0 else if k = 6 then 0 else if k = 8 then 0 else 1) := by decide +kernel
  obtain ⟨h0, h1, h5, h6, h8, hv⟩ := h k hk
  unfold wX5_lowest
  rw [h0, h1, h5, h6, h8]
  rw [hv] at hq
  by_cases c0 : k = 0
  · rw [if_pos c0] at hq; exact br_nt c0 hq
  · rw [if_neg c0] at hq
    refine br_nf c0 ?_
    by_cases c1 : k = 1
    · rw [if_pos c1] at hq; exact br_nt c1 hq
    · rw [if_neg c1] at hq
      refine br_nf c1 ?_
      by_cases c5 : k = 5
      · rw [if_pos c5] at hq; exact br_t c5 hq
      · rw [if_neg c5] at hq
        refine br_f c5 ?_
        by_cases c6 : k = 6
        · rw [if_pos c6] at hq; exact br_t c6 hq
        · rw [if_neg c6] at hq
          refine br_f c6 ?_
          by_cases c8 : k = 8
          · rw [if_pos c8] at hq; exact br_nt c8 hq
          · rw [if_neg c8] at hq; exact br_nf c8 hq
theorem m_highest {Q : Int32 → MM → Prop} {M : MM} {k : Nat} (hk : k < 9) (hq : Q (nI (hiN k)) M) : wX5_highest Q M (nI k) := by
  have h : ∀ k, k < 9 → (nI k = 0 ↔ k = 0) ∧ (nI k = 2 ↔ k = 2) ∧ (nI k = 7 ↔ k = 7) ∧ (nI k = 8 ↔ k = 8) ∧ hiN k = (if k = 0 then 9999 else if k = 2 then 9 else if k = 7 then 9 else if k = 8 then 999 else 99) := by decide +kernel
  obtain ⟨h0, h2, h7, h8, hv⟩ := h k hk
  unfold wX5_highest
  rw [h0, h2, h7, h8]
  rw [hv] at hq
  by_cases c0 : k = 0
  · rw [if_pos c0] at hq; exact br_nt c0 hq
  · rw [if_neg c0] at hq
    refine br_nf c0 ?_
    by_cases c2 : k = 2
    · rw [if_pos c2] at hq; exact br_t c2 hq
    · rw [if_neg c2] at hq
      refine br_f c2 ?_
      by_cases c7 : k = 7
      · rw [if_pos c7] at hq; exact br_nt c7 hq
      · rw [if_neg c7] at hq
        refine br_nf c7 ?_
        by_cases c8 : k = 8
        · rw [if_pos c8] at hq; exact br_nt c8 hq
        · rw [if_neg c8] at hq; exact br_nf c8 hq
theorem a5x : alen 56 = 9 ∧ alen 57 = 12 ∧ alen 58 = 144 ∧ alen 55 = 9 := by decide +kernel
/-- a block more -/
theorem m_82 {Q : MM → Prop} {M0 M : MM} {c : Nat → Nat} {n p q i : Nat} {D : DD} {T : Nat → Nat} (hl : ltM M0 c n) (hq : q ≤ n) (hpq : p ≤ q) (h : mlL c n M0 M q D) (k4 : tK c n q ≠ 4) (ok : okD D) (hN : dN D < 12) (hi : i ≤ 12) (hT : ∀ j, j < i → T j < 256 ∧ M 58 (12 * dN D + j) = nI (T j)) (g : lnM c n p M0 (sgF c n q (addB D i T)) Q) (M1 M2 : MM) (e1 : M1 = mset M 57 (dN D) (nI i)) (e2 : M2 = mset M1 52 4 (M1 52 4 + 1)) : wX5_readLine_177 Q M2 := by
  subst e1; subst e2
  obtain ⟨hf, ht, e7, e14, d1, d2, d3, d4⟩ := h
  have kj : ∀ j, j ≠ 4 → mset (mset M 57 (dN D) (nI i)) 52 4 (mset M 57 (dN D) (nI i) 52 4 + 1) 52 j = M 52 j := fun j hj => by rw [mset_sn hj, mset_n (by decide)]
  have ka : ∀ a, a ≠ 52 → a ≠ 57 → mset (mset M 57 (dN D) (nI i)) 52 4 (mset M 57 (dN D) (nI i) 52 4 + 1) a = M a := fun a a1 a2 => by rw [mset_n a1, mset_n a2]
  refine m_177L hl hq hpq ⟨⟨fun a a1 a2 a3 a4 => by rw [ka a a1 a3]; exact hf.1 a a1 a2 a3 a4, fun j hj => by rw [kj j (by omega)]; exact hf.2 j hj⟩, ⟨fun z => by rw [kj 10 (by decide), kj 11 (by decide), kj 12 (by decide)]; exact ht.1 z, fun z => by rw [kj 13 (by decide)]; exact ht.2 z⟩, by rw [kj 7 (by decide)]; exact e7, by rw [kj 14 (by decide)]; exact e14, fun r hr => by rw [ka 56 (by decide) (by decide)]; exact d1 r hr, ?_, fun j hj => ?_, fun j hj i' hi' => ?_⟩ k4 (ok.add hN hi (fun j hj => (hT j hj).1)) g
  · rw [mset_ss, mset_n (by decide), d2, nI_1]; rfl
  · have hj' : j < dN D + 1 := hj
    rw [mset_n (by decide)]
    show mset M 57 (dN D) (nI i) 57 j = nI (if j = dN D then i else dZ D j)
    by_cases e : j = dN D
    · subst e; rw [mset_ss, if_pos rfl]
    · rw [mset_sn e, if_neg e]; exact d3 j (by omega)
  · have hj' : j < dN D + 1 := hj
    have hi2 : i' < (if j = dN D then i else dZ D j) := hi'
    rw [ka 58 (by decide) (by decide)]
    show M 58 (12 * j + i') = nI (if 12 * j + i' < 12 * dN D then dY D (12 * j + i') else T (12 * j + i' - 12 * dN D))
    by_cases e : j = dN D
    · subst e
      rw [if_pos rfl] at hi2
      rw [if_neg (by omega), show 12 * dN D + i' - 12 * dN D = i' by omega]
      exact (hT i' hi2).2
    · rw [if_neg e] at hi2
      have := ok.2.2.1 j (by omega)
      rw [if_pos (by omega)]
      exact d4 j (by omega) i' hi2
theorem m_blkX {Q : MM → Prop} {M0 M : MM} {pl r : Nat} {v1 v2 : Int32} (h : mlX M0 M pl) (hq : Q M) : wX5_readBlock_4 Q (r + 1) M v1 v2 := by
  refine br_nf h.ne ?_
  unfold wX5_readBlock_82
  exact br_nf h.ne hq
theorem m_65X {Q : MM → Prop} {M0 M : MM} {pl r : Nat} {v1 : Int32} (h : mlX M0 M pl) (hq : Q M) : wX5_readBlock_65 Q (fun M v1 v2 => wX5_readBlock_4 Q (r + 1) M v1 v2) M v1 := by
  unfold wX5_readBlock_65 wX5_readBlock_78
  exact ⟨fun _ => m_blkX h hq, fun _ => m_blkX h hq⟩
theorem m_readBlock {Q : MM → Prop} {M0 M : MM} {c : Nat → Nat} {n p q : Nat} {D : DD} (hl : ltM M0 c n) (hq : q ≤ n) (hpq : p ≤ q) (h : mlL c n M0 M q D) (k4 : tK c n q ≠ 4) (ok : okD D) (hN : dN D < 12) (g : lnM c n p M0 (bgF c n q D) Q) : wX5_readBlock (fun M' => wX5_readLine_177 Q M') M := by
  have loop : ∀ r i q T M1, i + r = 12 → p ≤ q → q ≤ n → mlL c n M0 M1 q D → tK c n q ≠ 4 → (∀ j, j < i → T j < 256 ∧ M1 58 (12 * dN D + j) = nI (T j)) → (0 < i → tK c n q = 2) → lnM c n p M0 (match bkF c n (r + 1) i q T with | .inl pl => .inl pl | .inr x => sgF c n x.1 (addB D x.2.1 x.2.2)) Q → wX5_readBlock_4 (fun M' => wX5_readLine_177 Q M') (r + 2) M1 (nI i) 1 := by
    intro r
    induction r with
    | zero =>
      intro i q T M1 hi hpq hq h1 k4 hT hk g
      have : i = 12 := by omega
      subst this
      have hk2 := hk (by omega)
      rw [bkF, if_pos hk2, if_pos rfl] at g
      obtain ⟨hf1, ht1, e71, e141, hd1⟩ := id h1
      obtain ⟨e10, e11, e12⟩ := ht1.1 k4
      refine br_nt e141 (br_f (by decide) (br_t (by decide +kernel) ?_))
      unfold wX5_readBlock_27
      refine m_fault (k := 5) hf1 e141 rfl (by omega) e11 (fun M3 hx => ?_)
      unfold wX5_readNumber wX5_readNumber_25 wX5_readNumber_49
      exact br_nf hx.ne (br_nf hx.ne (hx.next (br_nf hx.ne (m_65X hx (m_177X hx (g.1 _ M3 rfl hx))))))
    | succ r ih =>
      intro i q T M1 hi hpq hq h1 k4 hT hk g
      obtain ⟨hf1, ht1, e71, e141, hd1⟩ := id h1
      have heq := tE_b (c := c) hq
      have hsq := tS_b (c := c) hq
      refine br_nt e141 (br_f (by decide) (br_f (fun z => by have := (nI_leI (a := 12) (by omega) (by omega)).mp z; omega) ?_))
      unfold wX5_readBlock_27
      rw [bkF] at g
      refine m_needs1 (m_readNumber (lo := 0) (hi := 255) hl hq h1 k4 (by decide) (by decide) (fun z v M' hx => ?_) (fun k2 v1 v2 q4 v M' hx => ?_) (fun k2 v1 v2 q4 M3 h3 ha => ?_))
      · refine br_nf hx.ne (m_65X hx (m_177X hx (g.1 _ M' ?_ hx)))
        by_cases k2 : tK c n q = 2
        · rw [if_pos k2, if_neg (by omega), if_pos (by omega)]
        · rw [if_neg k2]
      · rw [if_pos k2, if_neg (by omega), if_neg (by omega), if_pos q4] at g
        exact br_nf hx.ne (m_65X hx (m_177X hx (g.1 _ M' rfl hx)))
      · rw [if_pos k2, if_neg (by omega), if_neg (by omega), if_neg q4] at g
        have hgt := tE_gt (c := c) hq (by omega)
        have h3' := h3
        obtain ⟨hf3, ht3, e73, e143, hd3⟩ := h3
        obtain ⟨e10, e11, e12⟩ := ht3.1 q4
        have hkl := tK_le c n (tE c n q)
        refine br_nt e143 ?_
        rw [hd3.2.1, show (12 : Int32) = nI 12 from rfl, pk_mul, nI_add, clamp_nI (by omega)]
        refine ⟨vp_nI (by rw [a5x.2.2.1]; omega) (by rw [a5x.2.2.1]; decide), ?_⟩
        rintro _ rfl
        have k58 : ∀ a, a ≠ 58 → mset M3 58 (12 * dN D + i) (nI (tV c n q)) a = M3 a := fun a ha => mset_n ha
        have h4 : mlL c n M0 (mset M3 58 (12 * dN D + i) (nI (tV c n q))) (tE c n q) D := by
          refine ⟨⟨fun a a1 a2 a3 a4 => by rw [k58 a a4]; exact hf3.1 a a1 a2 a3 a4, fun j hj => by rw [k58 52 (by decide)]; exact hf3.2 j hj⟩, ⟨fun z => by rw [k58 52 (by decide)]; exact ht3.1 z, fun z => by rw [k58 52 (by decide)]; exact ht3.2 z⟩, by rw [k58 52 (by decide)]; exact e73, by rw [k58 52 (by decide)]; exact e143, fun r hr => by rw [k58 56 (by decide)]; exact hd3.1 r hr, by rw [k58 52 (by decide)]; exact hd3.2.1, fun j hj => by rw [k58 57 (by decide)]; exact hd3.2.2.1 j hj, fun j hj i' hi' => ?_⟩
          have := ok.2.2.1 j hj
          rw [mset_sn (by omega)]
          exact hd3.2.2.2 j hj i' hi'
        have hT4 : ∀ j, j < i + 1 → (if j = i then tV c n q else T j) < 256 ∧ mset M3 58 (12 * dN D + i) (nI (tV c n q)) 58 (12 * dN D + j) = nI (if j = i then tV c n q else T j) := fun j hj => by
          by_cases e : j = i
          · subst e; rw [if_pos rfl]; exact ⟨by omega, mset_ss⟩
          · rw [if_neg e, mset_sn (by omega), ha 58 (by decide)]; exact hT j (by omega)
        have e12' : mset M3 58 (12 * dN D + i) (nI (tV c n q)) 52 12 = nI (tK c n (tE c n q)) := by rw [k58 52 (by decide)]; exact e12
        unfold wX5_readBlock_65 wX5_readBlock_78
        rw [e12', show (2 : Int32) = nI 2 from rfl, nI_eq (by omega) (by omega), nI_1]
        by_cases k2' : tK c n (tE c n q) = 2
        · rw [if_pos k2'] at g
          exact br_nt k2' (ih (i + 1) (tE c n q) (fun j => if j = i then tV c n q else T j) _ (by omega) (by omega) heq.2 h4 q4 hT4 (fun _ => k2') g)
        · rw [if_neg k2'] at g
          refine br_nf k2' (br_nt h4.2.2.2.1 (br_t rfl ?_))
          unfold wX5_readBlock_82
          refine br_nt h4.2.2.2.1 ?_
          rw [h4.2.2.2.2.2.1, clamp_nI (by omega)]
          refine ⟨vp_nI (by rw [a5x.2.1]; omega) (by rw [a5x.2.1]; decide), ?_⟩
          intro M5 e5 M6 e6
          exact m_82 (T := fun j => if j = i then tV c n q else T j) hl heq.2 (by omega) h4 q4 ok hN (show i + 1 ≤ 12 by omega) hT4 g M5 M6 e5 e6
  exact ⟨14, loop 12 0 q (fun _ => 0) M (by omega) hpq hq h k4 (fun j hj => absurd hj (Nat.not_lt_zero _)) (fun z => absurd z (Nat.lt_irrefl _)) g⟩
theorem m_readLine {Q : MM → Prop} {M0 M : MM} {c : Nat → Nat} {n p : Nat} {D : DD} (hl : ltM M0 c n) (hp : p ≤ n) (hk0 : tK c n p ≠ 0) (k4 : tK c n p ≠ 4) (h : mlL c n M0 M p D) (ok : okD D) (g : lnM c n p M0 (lnF c n p D) Q) : wX5_readLine Q M := by
  have h' := h
  obtain ⟨hf, ht, e7, e14, hd⟩ := h
  obtain ⟨e10, e11, e12⟩ := ht.1 k4
  have hlM := hf.lt hl
  have hkl := tK_le c n p
  have hsb := tS_b (c := c) hp
  have heb := tE_b (c := c) hp
  have hgt := tE_gt (c := c) hp hk0
  have hN12 := ok.2.1
  have hT := ok.2.2.2.2
  -- behind the name
  have t17 : wX5_readLine_17 Q M (if kN c n p = 12 then -4 else nI (kN c n p)) := by
    unfold lnF at g
    unfold wX5_readLine_17
    by_cases k12 : kN c n p = 12
    · rw [if_pos k12] at g
      rw [if_pos k12]
      refine br_t rfl ?_
      unfold wX5_readLine_30
      refine m_fault (k := 2) hf e14 rfl (by omega) e11 (fun M' hx => ?_)
      refine br_t (by decide) ?_
      unfold wX5_readLine_50 wX5_readLine_55
      exact m_needs1 (br_nf hx.ne (m_105X hx (g.1 _ M' rfl hx)))
    · rw [if_neg k12] at g
      rw [if_neg k12]
      have hkc := kN_c c n p
      refine br_f (fun z => ?_) ?_
      · have : (0 : Int32) ≤ nI (kN c n p) := nI_le (a := 0) (Nat.zero_le _) (by omega)
        rw [z] at this
        exact absurd this (by decide)
      unfold wX5_readLine_30
      refine m_needs1 ?_
      rw [show (10 : Int32) = nI 10 from rfl, nI_ltI (by omega) (by omega)]
      by_cases k8 : kN c n p ≤ 8
      · -- a rule
        rw [if_pos k8] at g
        have hk9 : kN c n p < 9 := by omega
        obtain ⟨r1, r2, r3, r4, r5, r6⟩ := rule_ok _ hk9
        refine br_t (by omega) ?_
        unfold wX5_readLine_50 wX5_readLine_55
        refine m_needs1 (br_nt e14 ?_)
        rw [show (10 : Int32) = nI 10 from rfl, nI_leI (by omega) (by omega)]
        refine br_f (by omega) ?_
        rw [e7, bit_if0 (by omega) (by omega)]
        unfold wX5_readLine_89
        by_cases b : dT D / 2 ^ kN c n p % 2 = 1
        · rw [if_pos b] at g
          refine br_nf (fun z => z b) (m_fault (k := 4) hf e14 rfl (by omega) e11 (fun M' hx => ?_))
          rintro _ rfl
          have hx2 : mlX M0 (mset M' 52 7 (M' 52 7 ||| (1 <<< (nI (kN c n p) &&& 31)))) (tS c n p) := by
            obtain ⟨f1, ⟨k, a1, a2, a3⟩, a4⟩ := hx
            exact ⟨⟨fun a b1 b2 b3 b4 => by rw [mset_n b1]; exact f1.1 a b1 b2 b3 b4, fun j hj => by rw [mset_sn (by omega)]; exact f1.2 j hj⟩, ⟨k, a1, a2, by rw [mset_sn (by decide)]; exact a3⟩, by rw [mset_sn (by decide)]; exact a4⟩
          exact m_105X hx2 (g.1 _ _ rfl hx2)
        · rw [if_neg b] at g
          refine br_nt b (m_needs1 ?_)
          rintro _ rfl
          rw [e7, shl_1 _ (by omega), nI_or]
          have kj : ∀ v j, j ≠ 7 → mset M 52 7 v 52 j = M 52 j := fun v j hj => mset_sn hj
          unfold wX5_readLine_105
          refine m_rd (D := (dT D ||| 2 ^ kN c n p, dR D, dN D, dZ D, dY D)) hl heb.2 ⟨fun a a1 a2 a3 a4 => by rw [mset_n a1]; exact hf.1 a a1 a2 a3 a4, fun j hj => by rw [kj _ j (by omega)]; exact hf.2 j hj⟩ (by rw [kj _ 10 (by decide)]; exact e10) mset_ss (by rw [kj _ 14 (by decide)]; exact e14) (show dfM _ D from hd.keep (fun a ha => mset_n (by omega)) (kj _ 4 (by decide))) (fun q4 M' hx => ?_) (fun q4 M2 h2 _ => ?_)
          · rw [if_pos q4] at g
            exact br_f hx.gt (g.1 _ M' rfl hx)
          · rw [if_neg q4] at g
            unfold rlF at g
            refine br_t (by rw [h2.2.2.2.1]; decide) ?_
            rw [show (11 : Int32) = nI 11 from rfl, show (10 : Int32) = nI 10 from rfl, nI_eq (by omega) (by omega), nI_eq (by omega) (by omega)]
            refine br_nf (by omega) (br_nf (by omega) (m_lowest hk9 (m_highest hk9 (m_readNumber hl heb.2 h2 q4 r4 r5 (fun z v M' hx => ?_) (fun k2 v1 v2 s4 v M' hx => ?_) (fun k2 v1 v2 s4 M3 h3 _ => ?_)))))
            · rw [if_neg z] at g
              refine ⟨vp_nI (by rw [a5x.1]; exact hk9) (by rw [a5x.1]; decide), ?_⟩
              rintro _ rfl
              have hx2 : mlX M0 (mset M' 56 (nI (kN c n p)).toNatClampNeg v) (tS c n (tE c n p)) := by
                obtain ⟨f1, ⟨k, a1, a2, a3⟩, a4⟩ := hx
                exact ⟨⟨fun a b1 b2 b3 b4 => by rw [mset_n b2]; exact f1.1 a b1 b2 b3 b4, fun j hj => by rw [mset_n (by decide)]; exact f1.2 j hj⟩, ⟨k, a1, a2, by rw [mset_n (by decide)]; exact a3⟩, by rw [mset_n (by decide)]; exact a4⟩
              exact m_177X hx2 (g.1 _ _ rfl hx2)
            · rw [if_pos ⟨k2, v1, v2⟩, if_pos s4] at g
              refine ⟨vp_nI (by rw [a5x.1]; exact hk9) (by rw [a5x.1]; decide), ?_⟩
              rintro _ rfl
              have hx2 : mlX M0 (mset M' 56 (nI (kN c n p)).toNatClampNeg v) (tS c n (tE c n (tE c n p))) := by
                obtain ⟨f1, ⟨k, a1, a2, a3⟩, a4⟩ := hx
                exact ⟨⟨fun a b1 b2 b3 b4 => by rw [mset_n b2]; exact f1.1 a b1 b2 b3 b4, fun j hj => by rw [mset_n (by decide)]; exact f1.2 j hj⟩, ⟨k, a1, a2, by rw [mset_n (by decide)]; exact a3⟩, by rw [mset_n (by decide)]; exact a4⟩
              exact m_177X hx2 (g.1 _ _ rfl hx2)
            · rw [if_pos ⟨k2, v1, v2⟩, if_neg s4] at g
              refine ⟨vp_nI (by rw [a5x.1]; exact hk9) (by rw [a5x.1]; decide), ?_⟩
              rintro _ rfl
              rw [clamp_nI (by omega)]
              have heb2 := tE_b (c := c) heb.2
              obtain ⟨hf3, ht3, e73, e143, hd3⟩ := h3
              have k56 : ∀ a, a ≠ 56 → mset M3 56 (kN c n p) (nI (tV c n (tE c n p))) a = M3 a := fun a ha => mset_n ha
              refine m_177L (D := setR D (kN c n p) (tV c n (tE c n p))) hl heb2.2 (by have := (tS_b (c := c) heb.2).1; omega) ⟨⟨fun a a1 a2 a3 a4 => by rw [k56 a a2]; exact hf3.1 a a1 a2 a3 a4, fun j hj => by rw [k56 52 (by decide)]; exact hf3.2 j hj⟩, ⟨fun z => by rw [k56 52 (by decide)]; exact ht3.1 z, fun z => by rw [k56 52 (by decide)]; exact ht3.2 z⟩, by rw [k56 52 (by decide)]; exact e73, by rw [k56 52 (by decide)]; exact e143, fun r hr => ?_, by rw [k56 52 (by decide)]; exact hd3.2.1, fun j hj => by rw [k56 57 (by decide)]; exact hd3.2.2.1 j hj, fun j hj i hi => by rw [k56 58 (by decide)]; exact hd3.2.2.2 j hj i hi⟩ s4 (ok.set hk9 ⟨v1, v2⟩) g
              show mset M3 56 (kN c n p) (nI (tV c n (tE c n p))) 56 r = nI (if r = kN c n p then tV c n (tE c n p) else dR D r)
              by_cases e : r = kN c n p
              · subst e; rw [mset_ss, if_pos rfl]
              · rw [mset_sn e, if_neg e]; exact hd3.1 r hr
      · rw [if_neg k8] at g
        refine br_f (by omega) ?_
        rw [hd.2.1, show (12 : Int32) = nI 12 from rfl, nI_leI (by omega) (by omega)]
        by_cases b : 12 ≤ dN D
        · rw [if_pos b] at g
          refine br_t b ?_
          unfold wX5_readLine_55
          exact m_fault (k := 5) hf e14 rfl (by omega) e11 (fun M' hx => br_nf hx.ne (m_105X hx (g.1 _ M' rfl hx)))
        · rw [if_neg b] at g
          refine br_f b ?_
          unfold wX5_readLine_50 wX5_readLine_55
          refine m_needs1 (br_nt e14 ?_)
          rw [show (10 : Int32) = nI 10 from rfl, nI_leI (by omega) (by omega)]
          refine br_t (by omega) ?_
          unfold wX5_readLine_105
          refine m_rd hl heb.2 hf e10 e7 e14 hd (fun q4 M' hx => ?_) (fun q4 M2 h2 _ => ?_)
          · rw [if_pos q4] at g
            exact br_f hx.gt (g.1 _ M' rfl hx)
          · rw [if_neg q4] at g
            refine br_t (by rw [h2.2.2.2.1]; decide) ?_
            rw [show (11 : Int32) = nI 11 from rfl, show (10 : Int32) = nI 10 from rfl, nI_eq (by omega) (by omega), nI_eq (by omega) (by omega)]
            by_cases k10 : kN c n p = 10
            · rw [if_pos k10] at g
              exact br_nt k10 (m_readBlock hl heb.2 (by omega) h2 q4 ok (by omega) g)
            · rw [if_neg k10] at g
              refine br_nf k10 (br_nt (by omega) ?_)
              rw [h2.2.2.2.2.2.1, clamp_nI (by omega)]
              refine ⟨vp_nI (by rw [a5x.2.1]; omega) (by rw [a5x.2.1]; decide), ?_⟩
              intro M5 e5 M6 e6
              exact m_82 (i := 0) (T := fun _ => 0) hl heb.2 (by omega) h2 q4 ok (by omega) (by omega) (fun j hj => absurd hj (Nat.not_lt_zero _)) g M5 M6 e5 e6
  unfold wX5_readLine
  rw [e12, show (1 : Int32) = nI 1 from rfl, nI_eq (by omega) (by omega)]
  by_cases k1 : tK c n p = 1
  · exact br_nt k1 (m_nameNow hlM hp k1 e10 e11 t17)
  · refine br_nf k1 ?_
    have e : kN c n p = 12 := by
      unfold kN
      rw [if_neg (fun z => k1 z.1), if_neg (fun z => k1 z.1), if_neg (fun z => k1 z.1), if_neg (fun z => k1 z.1), if_neg (fun z => k1 z.1), if_neg (fun z => k1 z.1), if_neg (fun z => k1 z.1), if_neg (fun z => k1 z.1), if_neg (fun z => k1 z.1), if_neg (fun z => k1 z.1), if_neg (fun z => k1 z.1)]
    rw [e, if_pos rfl] at t17
    exact t17
