-- ===== the class's whole text =====
def enD (D : DD) : Nat → Nat
  | 0 => 0
  | j + 1 => enD D j + dR D 6 + lgN (dR D) (dZ D j)
def bgD (D : DD) (j : Nat) : Nat := enD D j + dR D 6
theorem enD_le {D : DD} (ok : okD D) : ∀ j, j ≤ dN D → enD D j ≤ j * 207 := by
  intro j
  induction j with
  | zero => intro _; exact Nat.le_refl _
  | succ j ih =>
    intro h
    have h1 := ih (by omega)
    have h2 := ok.2.2.1 j (by omega)
    have h3 := lgN_le ok.R.1 (n := dZ D j) (by omega)
    have h4 := (ok.1 6 (by omega)).2
    have h5 : hiN 6 = 99 := rfl
    show enD D j + dR D 6 + lgN (dR D) (dZ D j) ≤ _
    omega
theorem s_endD {Q : Int32 → MM → Prop} {M : MM} {D : DD} {j : Nat} (hd : dfC M D) (ok : okD D) (hj : j ≤ dN D) (hB : ∀ i, i < j → M 30 i = nI (bgD D i)) (hq : Q (nI (enD D j)) M) : wX2_endOf Q M 28 (nI j - 1) := by
  have hb : tpB 28 := Or.inr (Or.inr (Or.inr rfl))
  have hN := ok.2.1
  cases j with
  | zero =>
    unfold wX2_endOf
    refine s_hasBlock hd.2.1 (zf2 (fun q => absurd q.1 (by decide)) hq)
  | succ j =>
    rw [nI_sub1 (by omega), Nat.add_sub_cancel]
    have h2 := ok.2.2.1 j (by omega)
    refine s_endRaw (B := bgD D j) (Z := dZ D j) (R := dR D) hb ok.R.1.2.2.2.2.2.1 (hd.1 7 (by omega)) hN (show j < dN D by omega) hd.2.1 (hB j (by omega)) (hd.2.2.2.2.2.2.1 j (by omega)) (by omega) hq
theorem s_layOut {Q : MM → Prop} {M : MM} {D : DD} (hd : dfC M D) (ok : okD D) (hq : ∀ M', (∀ a, a ≠ 30 → M' a = M a) → (∀ j, j < dN D → M' 30 j = nI (bgD D j)) → Q M') : wX2_layOutBlocks Q M 28 := by
  have hb : tpB 28 := Or.inr (Or.inr (Or.inr rfl))
  have hN := ok.2.1
  have loop : ∀ r j M', j + r = dN D → (∀ a, a ≠ 30 → M' a = M a) → (∀ i, i < j → M' 30 i = nI (bgD D i)) → wX2_layOutBlocks_2 Q 28 (r + 1) M' (nI j) := by
    intro r
    induction r with
    | zero =>
      intro j M' hj k1 k2
      have : j = dN D := by omega
      subst this
      refine br_t ?_ (hq M' k1 k2)
      rw [k1 28 (by decide), hd.2.1]; exact nI_le (Nat.le_refl _) (by omega)
    | succ r ih =>
      intro j M' hj k1 k2
      have hd' : dfC M' D := hd.keep (fun a ha => k1 a (by omega)) (fun j _ => by rw [k1 28 (by decide)])
      unfold wX2_layOutBlocks_2
      rw [hd'.2.1, nI_leI (by omega) (by omega)]
      refine br_f (by omega) ?_
      unfold wX2_beginningAt
      refine s_endD hd' ok (by omega) k2 (s_ruled hb 6 (by omega) rfl ?_)
      rw [hd'.1 6 (by omega), nI_add]
      refine s_setCell (by show j < 12; omega) (by decide +kernel) ?_
      rw [nI_1]
      refine ih (j + 1) _ (by omega) (fun a ha => by rw [mset_n ha]; exact k1 a ha) (fun i hi => ?_)
      by_cases e : i = j
      · subst e; exact mset_ss
      · exact (mset_sn (k := 28 + 2) e).trans (k2 i (by omega))
  exact ⟨dN D + 1, loop (dN D) 0 M (by omega) (fun _ _ => rfl) (fun i hi => absurd hi (Nat.not_lt_zero _))⟩
/-- the draft's blocks are laid out, no fault was met -/
def clE (M0 M : MM) (D : DD) : Prop := fr M0 M ∧ M 37 8 = 0 ∧ dfC M D ∧ M 28 11 = 0 ∧ ∀ j, j < dN D → M 30 j = nI (bgD D j)
/-- what both ends do -/
theorem s_64 {Q : Int32 → MM → Prop} {M0 M : MM} {D : DD} {v : Int32} {n : Nat} (hf : fr M0 M) (hd : dfC M D) (ok : okD D) (e2 : M0 37 2 = nI n) (hq : ∀ M', fr M0 M' → (∀ j, M' 37 j = M 37 j) → dfC M' D → M' 28 11 = 0 → (∀ j, j < dN D → M' 30 j = nI (bgD D j)) → (enD D (dN D) ≤ dR D 0 → Q v M') ∧ (¬ enD D (dN D) ≤ dR D 0 → wX3_refuse (fun M14 => Q v M14) M' 6 (nI n))) : wX3_takeAll_64 Q M v := by
  have hb : tpB 28 := Or.inr (Or.inr (Or.inr rfl))
  have hN := ok.2.1
  have hen := enD_le ok (dN D) (Nat.le_refl _)
  have hR0 := ok.R.2
  unfold wX3_takeAll_64
  refine s_layOut hd ok (fun M1 k1 k2 => ?_)
  rintro _ rfl
  have ka : ∀ a, a ≠ 28 → a ≠ 30 → mset M1 28 11 0 a = M a := fun a a1 a2 => by rw [mset_n a1, k1 a a2]
  have kj : ∀ j, j ≠ 11 → mset M1 28 11 0 28 j = M 28 j := fun j hj => by rw [mset_sn hj, k1 28 (by decide)]
  have hd' : dfC (mset M1 28 11 0) D := hd.keep (fun a ha => ka a (by omega) (by omega)) kj
  have hB : ∀ j, j < dN D → mset M1 28 11 0 30 j = nI (bgD D j) := fun j hj => by rw [mset_n (by decide)]; exact k2 j hj
  have hf' : fr M0 (mset M1 28 11 0) := ⟨fun a ha => by rw [ka a (by omega) (by omega)]; exact hf.1 a ha, by rw [ka 37 (by decide) (by decide)]; exact hf.2⟩
  rw [kj 8 (by decide), hd.2.1]
  refine s_endD hd' ok (Nat.le_refl _) hB (s_ruled hb 0 (by omega) rfl ?_)
  rw [hd'.1 0 (by omega), nI_leI (by omega) (by omega), hf'.2, e2]
  exact hq _ hf' (fun j => by rw [ka 37 (by decide) (by decide)]) hd' mset_ss hB
theorem s_64X {Q : Int32 → MM → Prop} {M0 M : MM} {pl n : Nat} {v : Int32} (h : clX M0 M pl) (e2 : M0 37 2 = nI n) (hq : ∀ M', clX M0 M' pl → Q v M') : wX3_takeAll_64 Q M v := by
  obtain ⟨hf, ⟨k, k1, k2, e8⟩, e9, D, ok, hd⟩ := h
  refine s_64 hf hd ok e2 (fun M' f' kj d' _ _ => ?_)
  have hx : clX M0 M' pl := ⟨f', ⟨k, k1, k2, by rw [kj]; exact e8⟩, by rw [kj]; exact e9, D, ok, d'⟩
  refine ⟨fun _ => hq M' hx, fun _ => ?_⟩
  unfold wX3_refuse
  exact br_f hx.ne (hq M' hx)
theorem s_64L {Q : Int32 → MM → Prop} {M0 M : MM} {D : DD} {v : Int32} {n : Nat} (hf : fr M0 M) (e8 : M 37 8 = 0) (hd : dfC M D) (ok : okD D) (e2 : M0 37 2 = nI n) (h1 : enD D (dN D) ≤ dR D 0 → ∀ M', clE M0 M' D → Q v M') (h0 : ¬ enD D (dN D) ≤ dR D 0 → ∀ M', clX M0 M' n → Q v M') : wX3_takeAll_64 Q M v := by
  refine s_64 hf hd ok e2 (fun M' f' kj d' e11 eB => ⟨fun z => h1 z M' ⟨f', by rw [kj]; exact e8, d', e11, eB⟩, fun z => ?_⟩)
  exact s_refuse (k := 6) f' ok d' (by rw [kj]; exact e8) rfl rfl (by omega) (fun M2 hx _ _ => h0 z M2 hx)
-- ===== the lines, one behind another =====
def rnL (c : Nat → Nat) (n : Nat) : Nat → Nat → DD → Nat → LR
  | 0, p, _, _ => .inl p
  | k + 1, p, D, l => if tK c n p = 0 then (if enD D (dN D) ≤ dR D 0 then .inr (l, D) else .inl n) else match lnF c n p D with
    | .inl pl => .inl pl
    | .inr x => rnL c n k x.1 x.2 (l + 1)
def D0 : DD := (0, rF, 0, fun _ => 0, fun _ => 0)
def txF (c : Nat → Nat) (n : Nat) : LR := if tK c n 0 = 4 then .inl (tS c n 0) else rnL c n (n + 1) 0 D0 0
theorem ok0 : okD D0 := ⟨fun r hr => (rule_ok r hr).2.2.2.2.2, Nat.zero_le _, fun j hj => absurd hj (Nat.not_lt_zero _), fun j hj => absurd hj (Nat.not_lt_zero _), by show 0 < 512; omega⟩
theorem s_lines {Q : Int32 → MM → Prop} {M0 : MM} {c : Nat → Nat} {n : Nat} (hl : ltP M0 c n) : ∀ k p D l M, n < p + k → p ≤ n → l ≤ p → clL c n M0 M p D → okD D → tK c n p ≠ 4 → (∀ pl v M', rnL c n k p D l = .inl pl → clX M0 M' pl → Q v M') → (∀ l' D' M', rnL c n k p D l = .inr (l', D') → clE M0 M' D' → okD D' → enD D' (dN D') ≤ dR D' 0 → Q (nI l') M') → wX3_takeAll_33 Q (k + 1) M (nI l) := by
  have h400 := hl.1
  intro k
  induction k with
  | zero => intro p D l M h1 h2; omega
  | succ k ih =>
    intro p D l M h1 h2 h3 h ok k4 gX gE
    have h' := h
    obtain ⟨hf, ht, e7, e8, hd⟩ := h
    have hkl := tK_le c n p
    have hsb := tS_b (c := c) h2
    have heb := tE_b (c := c) h2
    rw [rnL] at gX gE
    unfold wX3_takeAll_33
    rw [ht.2.1, show (0 : Int32) = nI 0 from rfl, nI_eq (by omega) (by omega)]
    by_cases k0 : tK c n p = 0
    · rw [if_pos k0] at gX gE
      refine br_t k0 (s_64L hf e8 hd ok hl.2.1 (fun z M' hE => ?_) (fun z M' hx => ?_))
      · rw [if_pos z] at gE; exact gE l D M' rfl hE ok z
      · rw [if_neg z] at gX; exact gX n _ M' rfl hx
    · rw [if_neg k0] at gX gE
      have hgt := tE_gt (c := c) h2 k0
      refine br_f k0 (br_nt e8 ?_)
      rw [show (400 : Int32) = nI 400 from rfl, nI_leI (by omega) (by omega)]
      refine br_f (by omega) (s_takeLine hl h2 k0 h' ok ⟨fun pl M' er hx => ?_, fun q D' M' er hL ok' q1 q2 q4 => ?_⟩)
      · rw [er] at gX
        refine ⟨fun _ => s_64X hx hl.2.1 (fun M2 h2 => gX pl _ M2 rfl h2), fun _ => br_nf hx.ne (s_64X hx hl.2.1 (fun M2 h2 => gX pl _ M2 rfl h2))⟩
      · rw [er] at gX gE
        rw [nI_1]
        exact ih q D' (l + 1) M' (by omega) q1 (by omega) hL ok' q4 gX gE
/-- what a fresh tape holds -/
def tpP (b : Nat) (M : MM) : Prop := (∀ r, r < 9 → M (b + 1) r = nI (rF r)) ∧ M b 8 = 0 ∧ M b 9 = 0 ∧ M b 10 = 0 ∧ M b 11 = 0 ∧ M b 12 = -4 ∧ M b 13 = 0
theorem s_reset {Q : MM → Prop} {M : MM} {b : Nat} (hb : tpB b) (hq : ∀ M', (∀ a, a ≠ b → a ≠ b + 1 → M' a = M a) → tpP b M' → Q M') : wX2_reset Q M b := by
  obtain ⟨l1, -⟩ := alen_tp hb
  unfold wX2_reset wX4_copyRow_si
  rw [l1]
  have e : (if (nI 9) < (9 : Int32) then (nI 9) else 9) = nI 9 := by decide +kernel
  rw [e]
  refine ⟨by decide, by decide, by decide, by decide +kernel, by decide +kernel, ?_⟩
  rintro _ rfl _ rfl _ rfl _ rfl _ rfl _ rfl _ rfl
  have hne : b + 1 ≠ b := by omega
  refine hq _ (fun a a1 a2 => by rw [mset_n a1, mset_n a1, mset_n a1, mset_n a1, mset_n a1, mset_n a1, mrow_n a2]) ⟨fun r hr => ?_, ?_, ?_, ?_, ?_, ?_, mset_ss⟩
  · rw [mset_n hne, mset_n hne, mset_n hne, mset_n hne, mset_n hne, mset_n hne, mrow_s]
    have e9 : (nI 9).toNatClampNeg = 9 := by decide +kernel
    rw [e9]
    have : va_cpy (stV 2) (M (b + 1)) 0 0 9 r = stV 2 (0 + (r - 0)) := pk_cpy_in (Nat.zero_le _) (by omega)
    refine this.trans ?_
    rw [show 0 + (r - 0) = r by omega]
    exact (rule_ok r hr).2.2.1
  · rw [mset_sn (by decide), mset_sn (by decide), mset_sn (by decide), mset_sn (by decide), mset_sn (by decide), mset_ss]
  · rw [mset_sn (by decide), mset_sn (by decide), mset_sn (by decide), mset_sn (by decide), mset_ss]
  · rw [mset_sn (by decide), mset_sn (by decide), mset_sn (by decide), mset_ss]
  · rw [mset_sn (by decide), mset_sn (by decide), mset_ss]
  · rw [mset_sn (by decide), mset_ss]
theorem s_takeAll {Q : Int32 → MM → Prop} {M : MM} {c : Nat → Nat} {n : Nat} (hl : ltP M c n) (gX : ∀ pl v M', txF c n = .inl pl → clX M M' pl → Q v M') (gE : ∀ l D M', txF c n = .inr (l, D) → clE M M' D → okD D → enD D (dN D) ≤ dR D 0 → Q (nI l) M') : wX3_takeAll Q M := by
  have h400 := hl.1
  unfold wX3_takeAll
  refine s_reset (Or.inr (Or.inr (Or.inr rfl))) (fun M1 k1 k2 => ?_)
  rintro _ rfl _ rfl _ rfl _ rfl
  obtain ⟨t1, t2, t3, t4, t5, t6, t7⟩ := k2
  have ka : ∀ a, a ≠ 37 → mset (mset (mset (mset M1 37 3 0) 37 7 0) 37 8 0) 37 9 0 a = M1 a := fun a ha => by rw [mset_n ha, mset_n ha, mset_n ha, mset_n ha]
  have hd : dfC (mset (mset (mset (mset M1 37 3 0) 37 7 0) 37 8 0) 37 9 0) D0 := by
    refine ⟨fun r hr => by rw [ka 29 (by decide)]; exact t1 r hr, by rw [ka 28 (by decide)]; exact t2, by rw [ka 28 (by decide)]; exact t3, by rw [ka 28 (by decide)]; exact t4, by rw [ka 28 (by decide)]; exact t6, by rw [ka 28 (by decide)]; exact t7, fun j hj => absurd hj (Nat.not_lt_zero _), fun j hj => absurd hj (Nat.not_lt_zero _), fun j hj => absurd hj (Nat.not_lt_zero _), fun j hj => absurd hj (Nat.not_lt_zero _)⟩
  have hf : fr M (mset (mset (mset (mset M1 37 3 0) 37 7 0) 37 8 0) 37 9 0) := ⟨fun a ha => by rw [ka a (by omega)]; exact k1 a (by omega) (by omega), by rw [mset_sn (by decide), mset_sn (by decide), mset_sn (by decide), mset_sn (by decide), k1 37 (by decide) (by decide)]⟩
  refine s_rd (D := D0) (p := 0) hl (Nat.zero_le _) hf ?_ ?_ ?_ hd ok0 (fun k4 M' hx ek _ => ?_) (fun k4 M' h _ => ?_)
  · rw [mset_sn (by decide), mset_sn (by decide), mset_sn (by decide), mset_ss]; rfl
  · rw [mset_sn (by decide), mset_sn (by decide), mset_ss]; rfl
  · rw [mset_sn (by decide), mset_ss]
  · have e : txF c n = .inl (tS c n 0) := if_pos k4
    refine ⟨1, br_f (by rw [ek]; decide) (br_nf hx.ne (s_64X hx hl.2.1 (fun M2 h2 => gX _ _ M2 e h2)))⟩
  · have e : txF c n = rnL c n (n + 1) 0 D0 0 := if_neg k4
    rw [e] at gX gE
    exact ⟨n + 1 + 1, s_lines hl (n + 1) 0 D0 0 M' (by omega) (Nat.zero_le _) (Nat.le_refl _) h ok0 k4 gX gE⟩
-- ===== the tape that a draft becomes =====
def dS (D : DD) : SS := ((dR D 0, dN D, 0), (bgD D, dZ D, fun x => if x % 13 < dZ D (x / 13) then odN (dY D (12 * (x / 13) + x % 13)) else rwN (fun i => dY D (12 * (x / 13) + i)) (dZ D (x / 13)), dY D), (0, fun _ => 0), (0, fun _ => 0, fun _ => 0), (0, -4))
theorem bg_mono {D : DD} {i j : Nat} (h : i < j) : bgD D i + lgN (dR D) (dZ D i) ≤ bgD D j := by
  induction h with
  | refl => show enD D i + dR D 6 + _ ≤ enD D i + dR D 6 + lgN (dR D) (dZ D i) + dR D 6; omega
  | step h ih =>
    rename_i m
    refine Nat.le_trans ih ?_
    show enD D m + dR D 6 ≤ enD D m + dR D 6 + lgN (dR D) (dZ D m) + dR D 6
    omega
theorem bg_end {D : DD} {j : Nat} (h : j < dN D) : bgD D j + lgN (dR D) (dZ D j) ≤ enD D (dN D) := by
  have g : ∀ k, j < k → bgD D j + lgN (dR D) (dZ D j) ≤ enD D k := by
    intro k hk
    cases k with
    | zero => omega
    | succ k =>
      show _ ≤ enD D k + dR D 6 + lgN (dR D) (dZ D k)
      by_cases e : j = k
      · subst e; exact Nat.le_refl _
      · have := bg_mono (D := D) (show j < k by omega)
        unfold bgD at this ⊢
        omega
  exact g _ h
theorem ok_dS {D : DD} (ok : okD D) (he : enD D (dN D) ≤ dR D 0) : okS (dR D) (dS D) := by
  obtain ⟨oR, r0, r1⟩ := ok.R
  obtain ⟨h1, h2, h3, h4, h5⟩ := ok
  refine ⟨⟨r0, r1⟩, h2, Nat.zero_le _, fun j hj => ⟨h3 j hj, Nat.le_trans (bg_end hj) he⟩, fun i j hi _ => bg_mono hi, fun j hj i hi => ?_, fun j hj i hi => ?_, Nat.zero_le _, fun i hi => absurd hi (Nat.not_lt_zero _), Nat.zero_le _, fun i hi => absurd hi (Nat.not_lt_zero _), Or.inl rfl⟩
  · have hz := h3 j hj
    have hi' : i ≤ dZ D j := hi
    show (if (j * 13 + i) % 13 < dZ D ((j * 13 + i) / 13) then odN (dY D (12 * ((j * 13 + i) / 13) + (j * 13 + i) % 13)) else rwN (fun i' => dY D (12 * ((j * 13 + i) / 13) + i')) (dZ D ((j * 13 + i) / 13))) < 512
    rw [show (j * 13 + i) / 13 = j by omega, show (j * 13 + i) % 13 = i by omega]
    by_cases e : i < dZ D j
    · rw [if_pos e]; exact odN_lt (h4 j hj i e)
    · rw [if_neg e]; exact rwN_lt _ (fun i' hi' => h4 j hj i' hi')
  · show dY D (j * 12 + i) < 256
    rw [show j * 12 + i = 12 * j + i by omega]
    exact h4 j hj i hi
theorem clT_dS {M : MM} {b : Nat} {D : DD} (ok : okD D) (e1 : ∀ r, r < 9 → M (b + 1) r = nI (dR D r)) (e8 : M b 8 = nI (dN D)) (e9 : M b 9 = 0) (e10 : M b 10 = 0) (e11 : M b 11 = 0) (e12 : M b 12 = -4) (e13 : M b 13 = 0) (eB : ∀ j, j < dN D → M (b + 2) j = nI (bgD D j)) (eZ : ∀ j, j < dN D → M (b + 3) j = nI (dZ D j)) (eC : ∀ j, j < dN D → ∀ i, i < dZ D j → M (b + 4) (13 * j + i) = nI (odN (dY D (12 * j + i)))) (eR : ∀ j, j < dN D → M (b + 4) (13 * j + dZ D j) = nI (rwN (fun i => dY D (12 * j + i)) (dZ D j))) (eO : ∀ j, j < dN D → ∀ i, i < dZ D j → M (b + 5) (12 * j + i) = nI (dY D (12 * j + i))) : clT M b (dR D) (dS D) := by
  refine ⟨⟨e1 0 (by omega), fun r _ hr => e1 r hr⟩, e8, e9, eB, eZ, fun j hj i hi => ?_, fun j hj i hi => ?_, e11, fun i hi => absurd hi (Nat.not_lt_zero _), e13, fun i hi => absurd hi (Nat.not_lt_zero _), e10, e12⟩
  · have hz := ok.2.2.1 j hj
    have hi' : i ≤ dZ D j := hi
    show M (b + 4) (j * 13 + i) = nI (if (j * 13 + i) % 13 < dZ D ((j * 13 + i) / 13) then odN (dY D (12 * ((j * 13 + i) / 13) + (j * 13 + i) % 13)) else rwN (fun i' => dY D (12 * ((j * 13 + i) / 13) + i')) (dZ D ((j * 13 + i) / 13)))
    rw [show (j * 13 + i) / 13 = j by omega, show (j * 13 + i) % 13 = i by omega, show j * 13 + i = 13 * j + i by omega]
    by_cases e : i < dZ D j
    · rw [if_pos e]; exact eC j hj i e
    · rw [if_neg e]
      have : i = dZ D j := by omega
      subst this
      exact eR j hj
  · show M (b + 5) (j * 12 + i) = nI (dY D (j * 12 + i))
    rw [show j * 12 + i = 12 * j + i by omega]
    exact eO j hj i hi
theorem s_text {Q : Int32 → MM → Prop} {M : MM} {c : Nat → Nat} {n : Nat} (hl : ltP M c n) (gX : ∀ pl M', txF c n = .inl pl → (∀ a, a ≠ 0 → (a < 28 ∨ 38 ≤ a) → M' a = M a) → (∀ j, j ≠ 9 → M' 0 j = M 0 j) → M' 37 2 = 0 → Q (((-10) : Int32) - nI pl) M') (gE : ∀ l D M', txF c n = .inr (l, D) → okD D → enD D (dN D) ≤ dR D 0 → clT M' 1 (dR D) (dS D) → (∀ a, 10 ≤ a → (a < 28 ∨ 38 ≤ a) → M' a = M a) → (∀ j, j ≠ 9 → j ≠ 11 → M' 0 j = M 0 j) → M' 0 11 = 0 → M' 37 2 = 0 → Q (nI l) M') : wX4_text Q M := by
  unfold wX4_text
  refine s_takeAll hl (fun pl v M' er hx => ?_) (fun l D M' er hE ok he => ?_)
  · rintro _ rfl _ rfl
    have hne := hx.ne
    obtain ⟨hf, -, e9, -⟩ := hx
    refine br_f (by rw [mset_ss, mset_sn (by decide)]; exact hne) ?_
    rw [show ∀ w, mset (mset M' 37 2 0) 0 9 w 37 9 = nI pl from fun w => by rw [mset_n (by decide), mset_sn (by decide)]; exact e9]
    refine gX pl _ er (fun a a0 ha => by rw [mset_n a0, mset_n (by omega)]; exact hf.1 a ha) (fun j hj => by rw [mset_sn hj, mset_n (by decide), hf.1 0 (by omega)]) (by rw [mset_n (by decide), mset_ss])
  · obtain ⟨hf, e8, hd, e11, eB⟩ := hE
    rintro _ rfl _ rfl
    refine br_t (by rw [mset_ss, mset_sn (by decide)]; exact e8) ?_
    refine s_becomes (Or.inl rfl) (Or.inr (Or.inr (Or.inr rfl))) (by omega) (fun M5 k1 k2 k3 => ?_)
    rintro _ rfl
    have km : ∀ w a, a ≠ 0 → a ≠ 37 → mset (mset M' 37 2 0) 0 9 w a = M' a := fun w a a0 a1 => by rw [mset_n a0, mset_n a1]
    obtain ⟨d1, d2, d3, d4, d5, d6, d7, d8, d9, d10⟩ := hd
    have r5 : ∀ r, 1 ≤ r → r < 9 → ∀ j, j < (if r = 1 then 9 else if r = 4 then 156 else if r = 5 then 144 else 12) → mset M5 0 11 0 (1 + r) j = M' (28 + r) j := fun r r1 r2 j hj => by
      rw [mset_n (by omega), k2 r r1 r2 j hj, km _ _ (by omega) (by omega)]
    have f5 : ∀ j, 8 ≤ j → j < 14 → mset M5 0 11 0 1 j = M' 28 j := fun j j1 j2 => by
      rw [mset_n (by decide), k3 j j1 j2, km _ _ (by decide) (by decide)]
    have hN := ok.2.1
    refine gE l D _ er ok he (clT_dS ok (fun r hr => ?_) ?_ ?_ ?_ ?_ ?_ ?_ (fun j hj => ?_) (fun j hj => ?_) (fun j hj i hi => ?_) (fun j hj => ?_) (fun j hj i hi => ?_)) (fun a a1 a2 => ?_) (fun j j1 j2 => ?_) mset_ss ?_
    · exact (r5 1 (by omega) (by omega) r hr).trans (d1 r hr)
    · exact (f5 8 (by omega) (by omega)).trans d2
    · exact (f5 9 (by omega) (by omega)).trans d3
    · exact (f5 10 (by omega) (by omega)).trans d4
    · exact (f5 11 (by omega) (by omega)).trans e11
    · exact (f5 12 (by omega) (by omega)).trans d5
    · exact (f5 13 (by omega) (by omega)).trans d6
    · exact (r5 2 (by omega) (by omega) j (by show j < 12; omega)).trans (eB j hj)
    · exact (r5 3 (by omega) (by omega) j (by show j < 12; omega)).trans (d7 j hj)
    · have := ok.2.2.1 j hj
      exact (r5 4 (by omega) (by omega) _ (by show 13 * j + i < 156; omega)).trans (d8 j hj i hi)
    · have := ok.2.2.1 j hj
      exact (r5 4 (by omega) (by omega) _ (by show 13 * j + dZ D j < 156; omega)).trans (d9 j hj)
    · have := ok.2.2.1 j hj
      exact (r5 5 (by omega) (by omega) _ (by show 12 * j + i < 144; omega)).trans (d10 j hj i hi)
    · rw [mset_n (by omega), k1 a (by omega), km _ a (by omega) (by omega)]; exact hf.1 a a2
    · rw [mset_sn j2, k1 0 (by omega), mset_sn j1, mset_n (by decide), hf.1 0 (by omega)]
    · rw [mset_n (by decide), k1 37 (by omega), mset_n (by decide), mset_ss]
