theorem mk_6 : ∀ c, c < 9 → ∀ L, L < 2 ^ c → ∀ b, b < c → (¬ L / 2 ^ b % 2 = 1 ∨ (((2 ^ c - 1) ^^^ L) ||| 2 ^ b) = (2 ^ c - 1) ^^^ (L ^^^ 2 ^ b)) := by decide +kernel
def dnF (f : Nat → Nat) (c : Nat) : Nat → Int32
  | 0 => -4
  | k + 1 => if f (c - 1 - k) = 1 then nI (c - 1 - k) else dnF f c k
theorem dn_end {f : Nat → Nat} {c x : Nat} (hx : x < c) (h1 : f x = 1) (h2 : ∀ y, y < x → f y ≠ 1) : ∀ k, c - x ≤ k → k ≤ c → dnF f c k = nI x := by
  intro k
  induction k with
  | zero => intro h; omega
  | succ k ih =>
    intro a b
    rw [dnF]
    by_cases e : c - 1 - k = x
    · rw [e, if_pos h1]
    · rw [if_neg (h2 _ (by omega))]
      exact ih (by omega) (by omega)
theorem m_follows {Q : Int32 → MM → Prop} {M : MM} {ch : Nat → Nat} {c L f l : Nat} {R : Nat → Nat} {σ : SS} (hR : okR R) (hS : okS R σ) (hr : rlT M R) (hm : mdT M 0 σ) (hc8 : c ≤ 8) (hch : ∀ k, k < c → ch k < sN σ) (h0 : thP M ch c) (hre : reP M (hpN R σ ch c) c 0) (hL : L < 2 ^ c) (hne : L ≠ 0) (hl : (l = 8 ∧ f = c ∧ L = 2 ^ c - 1) ∨ (l < c ∧ f = l ∧ ((2 ^ c - 1) ^^^ L) / 2 ^ l % 2 = 1)) (hq : Q (nI (ftN (hpN R σ ch c) c L f)) M) : wX5_follows Q M (nI ((2 ^ c - 1) ^^^ L)) (nI l) := by
  have hH := hp_ok hR hS hch
  have h8 := (p2c c (by omega)).1
  have hk1 := mk_1 c (by omega) L hL
  have hf : f ≤ c := by omega
  have l8 : l ≤ 8 := by omega
  have hl2 : (l = 8 ∧ f = c) ∨ (l < c ∧ f = l) := by omega
  obtain ⟨g1, g2, g3, g4⟩ := ft_ok (H := hpN R σ ch c) hc8 hH hL hne hf
  obtain ⟨x1, x2, x3⟩ := fiO_some c _ g1
  have hb := fqN_b (f := f) hc8 hH hL hf
  -- what the rest says of where one is
  have cur : M 62 (13 * ((2 ^ c - 1) ^^^ L) + l) = nI (fqN (hpN R σ ch c) c L f) := by
    have g := hre ((2 ^ c - 1) ^^^ L) (Nat.zero_le _) hk1.1
    rcases hl with ⟨a1, a2, a3⟩ | ⟨a1, a2, a3⟩
    · have z : (2 ^ c - 1) ^^^ L = 0 := hk1.2.1.mpr a3
      rw [z, a1, a2, a3]
      exact g.2 z
    · rw [g.1 l a1 a3, hk1.2.2, a2]
  have loop : ∀ r, r ≤ c → wX5_follows_11 Q (nI ((2 ^ c - 1) ^^^ L)) (nI l) (r + 1) M (dnF (gdF (hpN R σ ch c) c L f) c (c - r)) (nI r + (-1)) := by
    intro r
    induction r with
    | zero =>
      intro _
      refine br_t (by decide +kernel) ?_
      rw [Nat.sub_zero, dn_end x1 x2 x3 c (by omega) (Nat.le_refl _)]
      exact hq
    | succ r ih =>
      intro hr2
      have hrc : r < c := by omega
      have g := ih (by omega)
      have e1 : c - r = (c - (r + 1)) + 1 := by omega
      rw [e1, dnF, show c - 1 - (c - (r + 1)) = r by omega] at g
      rw [pk_m1]
      refine br_f (nI_pos (by omega)) ?_
      have k2 := mk_2 c (by omega) L hL r hrc
      have g0 : gdF (hpN R σ ch c) c L f r = if L / 2 ^ r % 2 = 1 ∧ hpN R σ ch c f r + fqN (hpN R σ ch c) c (L ^^^ 2 ^ r) r = fqN (hpN R σ ch c) c L f then 1 else 0 := rfl
      unfold wX5_follows_68 wX5_follows_69 wX5_follows_82
      rw [bit_if0 (by omega) (by omega), k2]
      by_cases q : L / 2 ^ r % 2 = 1
      · refine br_nt (fun e => e q) (m_takes hR hS hr hm hc8 hch h0 hl2 hrc ?_)
        obtain ⟨m1, m2, m3, m4⟩ := mk_3 c (by omega) _ hk1.1 r hrc (fun e => (k2.mp e) q)
        rw [hk1.2.2] at m1
        rw [shl_1 r (by omega), nI_or, show ∀ z, (13 : Int32) * nI z = nI (13 * z) from fun z => pk_mul 13 z, show ∀ z, (13 : Int32) * nI z = nI (13 * z) from fun z => pk_mul 13 z, nI_add, nI_add, clamp_nI (n := 13 * (((2 ^ c - 1) ^^^ L) ||| 2 ^ r) + r) (by omega), clamp_nI (n := 13 * ((2 ^ c - 1) ^^^ L) + l) (by omega), cur, (hre _ (Nat.zero_le _) m2).1 r hrc m4, m1, nI_add]
        refine ⟨v62 (by omega), v62 (by omega), ?_⟩
        have hx := (ms_lt L (by omega) r (by omega) q).1
        have b1 := fqN_b (H := hpN R σ ch c) (L := L ^^^ 2 ^ r) (f := r) hc8 hH (by omega) (by omega)
        have b2 := hH f r hf hrc
        rw [nI_eq (by omega) (by omega)]
        by_cases e : hpN R σ ch c f r + fqN (hpN R σ ch c) c (L ^^^ 2 ^ r) r = fqN (hpN R σ ch c) c L f
        · rw [if_pos ⟨q, e⟩] at g0
          rw [if_pos g0] at g
          exact br_nt e (br_f (by decide) g)
        · rw [if_neg (fun z => e z.2)] at g0
          rw [if_neg (by omega)] at g
          exact br_nf e (br_t rfl g)
      · rw [if_neg (fun z => q z.1)] at g0
        rw [if_neg (by omega)] at g
        exact br_nf (fun e => e q) (br_t rfl g)
  unfold wX5_follows
  rintro _ rfl
  rw [h0.1]
  have g := loop c (Nat.le_refl _)
  rw [Nat.sub_self] at g
  have e : nI c - 1 = nI c + (-1) := Int32.sub_eq_add_neg _ _
  rw [e]
  exact ⟨_, g⟩
theorem m_nthOf {Q : Int32 → MM → Prop} {M : MM} {ch : Nat → Nat} {c i : Nat} {R : Nat → Nat} {σ : SS} (hR : okR R) (hS : okS R σ) (hr : rlT M R) (hm : mdT M 0 σ) (hc8 : c ≤ 8) (hch : ∀ k, k < c → ch k < sN σ) (h0 : thP M ch c) (hre : reP M (hpN R σ ch c) c 0) (hi : i < c) (hq : Q (nI (ch (ptN (hpN R σ ch c) c (i + 1)).2)) M) : wX5_nthOf Q M (nI i) := by
  have hH := hp_ok hR hS hch
  have h8 := p2c c (by omega)
  have loop : ∀ r k, k + r = i + 1 → (∀ l, ((k = 0 ∧ l = 8) ∨ (0 < k ∧ l = (ptN (hpN R σ ch c) c k).2 ∧ l < c ∧ ((2 ^ c - 1) ^^^ (ptN (hpN R σ ch c) c k).1) / 2 ^ l % 2 = 1)) → wX5_nthOf_8 Q (nI i) (r + 1) M (nI ((2 ^ c - 1) ^^^ (ptN (hpN R σ ch c) c k).1)) (nI l) (nI k)) := by
    intro r
    induction r with
    | zero =>
      intro k hk l hl
      have : k = i + 1 := by omega
      subst this
      have hl' : l = (ptN (hpN R σ ch c) c (i + 1)).2 ∧ l < c := by omega
      refine br_t (nI_lt (by omega) (by omega)) ?_
      rw [clamp_nI (by omega), h0.2 l hl'.2, hl'.1]
      refine ⟨v63 (by omega), hq⟩
    | succ r ih =>
      intro k hk l hl
      obtain ⟨p1, p2, p3⟩ := pt_ok (H := hpN R σ ch c) hc8 hH k (by omega)
      have pn := pt_ne (H := hpN R σ ch c) hc8 hH (show k < c by omega)
      obtain ⟨g1, g2, g3, g4⟩ := ft_ok (H := hpN R σ ch c) hc8 hH p1 pn p2
      refine br_f (fun q => ?_) (m_follows (f := (ptN (hpN R σ ch c) c k).2) hR hS hr hm hc8 hch h0 hre p1 pn ?_ ?_)
      · have := (nI_ltI (by omega) (by omega)).mp q; omega
      · rcases hl with ⟨a1, a2⟩ | ⟨a1, a2, a3, a4⟩
        · subst a1; exact Or.inl ⟨a2, rfl, rfl⟩
        · exact Or.inr ⟨a3, a2.symm, a4⟩
      · rintro _ rfl
        rw [shl_1 _ (by omega), nI_or, nI_1]
        have m6 := (mk_6 c (by omega) _ p1 _ g2).resolve_left (fun e => e g3)
        rw [m6]
        refine ih (k + 1) (by omega) _ (Or.inr ⟨by omega, rfl, g2, ?_⟩)
        show ((2 ^ c - 1) ^^^ ((ptN (hpN R σ ch c) c k).1 ^^^ 2 ^ ftN (hpN R σ ch c) c (ptN (hpN R σ ch c) c k).1 (ptN (hpN R σ ch c) c k).2)) / _ % 2 = 1
        rw [← m6]
        have k1 := mk_1 c (by omega) _ p1
        have k2 := mk_2 c (by omega) _ p1 _ g2
        exact (mk_3 c (by omega) _ k1.1 _ g2 (fun e => (k2.mp e) g3)).2.2.2
  have g := loop (i + 1) 0 (by omega) 8 (Or.inl ⟨rfl, rfl⟩)
  have z : (2 ^ c - 1) ^^^ (ptN (hpN R σ ch c) c 0).1 = 0 := Nat.xor_self _
  rw [z] at g
  exact ⟨_, g⟩
-- ===== which blocks are asked for =====
theorem s_hasAllOf {Q : Int32 → MM → Prop} {M : MM} {x : Int32} {N : Nat} (hN : N ≤ 12) (e : M 1 8 = nI N) (h1 : ∀ j, j < 2 ^ N → x = nI j → Q 1 M) (h0 : (¬ ∃ j, j < 2 ^ N ∧ x = nI j) → Q 0 M) : wX2_hasAllOf Q M 1 x := by
  have h4 : 2 ^ N ≤ 2 ^ 12 := Nat.pow_le_pow_right (by omega) hN
  have sh : ∀ n, n < 13 → (((nI n).toUInt32 &&& Int32.toUInt32 31).toBitVec % 32).toNat = n := by decide +kernel
  unfold wX2_hasAllOf
  rw [e]
  have hu := pk_ushr x (nI N) N (sh N (by omega))
  have hz : (x.toUInt32 >>> ((nI N).toUInt32 &&& Int32.toUInt32 31)).toInt32 = 0 ↔ x.toBitVec.toNat < 2 ^ N := by
    constructor
    · intro q
      rw [q] at hu
      have : (0 : Int32).toBitVec.toNat = 0 := rfl
      rw [this] at hu
      have hp : 0 < 2 ^ N := Nat.pow_pos (by omega)
      exact (Nat.div_eq_zero_iff_lt hp).mp hu.symm
    · intro q
      apply Int32.toBitVec_inj.mp
      apply BitVec.eq_of_toNat_eq
      rw [hu, Nat.div_eq_of_lt q]; rfl
  rw [hz]
  by_cases q : x.toBitVec.toNat < 2 ^ N
  · refine br_nt q (h1 _ q ?_)
    apply Int32.toBitVec_inj.mp
    apply BitVec.eq_of_toNat_eq
    rw [pk_tn (by omega)]
  · refine br_nf q (h0 ?_)
    rintro ⟨j, hj, rfl⟩
    exact q (by rw [pk_tn (by omega)]; exact hj)
theorem m_areBlocks {Q : Int32 → MM → Prop} {M : MM} {x : Int32} {N : Nat} (hN : N ≤ 12) (e : M 53 0 = nI N) (h1 : ∀ j, j < 2 ^ N → x = nI j → Q 1 M) (h0 : (¬ ∃ j, j < 2 ^ N ∧ x = nI j) → Q 0 M) : wX5_areBlocks Q M x := by
  have h4 : 2 ^ N ≤ 2 ^ 12 := Nat.pow_le_pow_right (by omega) hN
  have hp : 0 < 2 ^ N := Nat.pow_pos (by omega)
  have sh : ∀ n, n < 13 → (1 : Int32) <<< (nI n &&& 31) = nI (2 ^ n) := by decide +kernel
  unfold wX5_areBlocks
  rw [e, sh N (by omega), nI_sub1 (by omega)]
  refine m_in32 0 _ rfl rfl ⟨nb_bI _, ?_⟩
  by_cases q : (0 : Int32) ≤ x ∧ x ≤ nI (2 ^ N - 1)
  · rw [bI_t q]
    obtain ⟨j, hj, rfl⟩ := pl_of (by omega) q
    exact h1 j (by omega) rfl
  · rw [bI_f q]
    refine h0 ?_
    rintro ⟨j, hj, rfl⟩
    exact q (pl_in (by omega) (by omega))
/-- only what is laid aside was written, and that of the orders -/
theorem Rel.sc2 {M M' : MM} (h : Rel M) (hk : ∀ a, (a < 39 ∨ (44 ≤ a ∧ a < 60) ∨ 64 ≤ a) → a ≠ 52 → M' a = M a) (h52 : ∀ j, j ≠ 20 → M' 52 j = M 52 j) : Rel M' := by
  obtain ⟨R, σ, hR, hS, hc, hm, hr, him, hsh, htx⟩ := h
  exact Rel.step (σ' := σ) hR hS (hc.keep (fun i hi => hk _ (by omega) (by omega))) (hm.keep (hk _ (by omega) (by omega))) hr him hsh htx (fun k h => hk _ (by unfold keepP at h; omega) (by unfold keepP at h; omega)) (fun j _ => by rw [hk 53 (by omega) (by omega)]) ⟨h52 9 (by decide), h52 14 (by decide), h52 25 (by decide)⟩
-- ===== two distances that are alike where it counts =====
theorem fq_cg {H H' : Nat → Nat → Nat} {c : Nat} (hc : c ≤ 8) (hH : ∀ f t, f ≤ c → t < c → H f t = H' f t) : ∀ n L f, L < n → L < 2 ^ c → f ≤ c → fqN H c L f = fqN H' c L f := by
  have h8 := (p2c c (by omega)).1
  intro n
  induction n with
  | zero => intro L f h; omega
  | succ n ih =>
    intro L f h hL hf
    by_cases e : L = 0
    · subst e; rfl
    · rw [fqN_eq hc hL e, fqN_eq hc hL e]
      refine mn_cg c (fun j hj q => ?_)
      have h1 := (ms_lt L (by omega) j (by omega) q).1
      try dsimp only
      rw [hH f j hf hj, ih (L ^^^ 2 ^ j) j (by omega) (by omega) (by omega)]
theorem fi_cg {g g' : Nat → Nat} : ∀ k, (∀ y, y < k → g y = g' y) → fiO g k = fiO g' k := by
  intro k
  induction k with
  | zero => intro _; rfl
  | succ k ih =>
    intro h
    rw [fiO, fiO, ih (fun y hy => h y (by omega)), h k (by omega)]
theorem ft_cg {H H' : Nat → Nat → Nat} {c L f : Nat} (hc : c ≤ 8) (hH : ∀ f t, f ≤ c → t < c → H f t = H' f t) (hL : L < 2 ^ c) (hf : f ≤ c) : ftN H c L f = ftN H' c L f := by
  have h8 := (p2c c (by omega)).1
  unfold ftN
  rw [fi_cg c (fun y hy => ?_)]
  unfold gdF
  by_cases q : L / 2 ^ y % 2 = 1
  · have h1 := (ms_lt L (by omega) y (by omega) q).1
    rw [hH f y hf hy, fq_cg hc hH (L + 1) L f (by omega) hL hf, fq_cg hc hH (L + 1) (L ^^^ 2 ^ y) y (by omega) (by omega) (by omega)]
  · rw [if_neg (fun z => q z.1), if_neg (fun z => q z.1)]
theorem pt_cg {H H' : Nat → Nat → Nat} {c : Nat} (hc : c ≤ 8) (ok : okH H c) (hH : ∀ f t, f ≤ c → t < c → H f t = H' f t) : ∀ i, i ≤ c → ptN H c i = ptN H' c i := by
  intro i
  induction i with
  | zero => intro _; rfl
  | succ i ih =>
    intro hi
    obtain ⟨p1, p2, p3⟩ := pt_ok (H := H) hc ok i (by omega)
    rw [ptN, ptN, ← ih (by omega), ft_cg hc hH p1 p2]
theorem pt_lt {H : Nat → Nat → Nat} {c i : Nat} (hc : c ≤ 8) (ok : okH H c) (hi : i < c) : (ptN H c (i + 1)).2 < c := by
  obtain ⟨p1, p2, p3⟩ := pt_ok (H := H) hc ok i (by omega)
  exact (ft_ok (H := H) hc ok p1 (pt_ne hc ok hi) p2).2.1
/-- what both choose is alike -/
theorem hp_cg {R : Nat → Nat} {σ : SS} {s : Nat} (hs : s < 2 ^ sN σ) (h12 : sN σ ≤ 12) : ∀ c, c = poN s (sN σ) → ∀ f t, f ≤ c → t < c → hpN R σ (chN s 12) c f t = hpN R σ (chN s (sN σ)) c f t := by
  have cs := ch_stop hs 12 h12
  intro c hc0 f t hf ht
  unfold hpN
  rw [cs.2 t (by omega)]
  by_cases e : f = c
  · rw [if_pos e, if_pos e]
  · rw [if_neg e, if_neg e, cs.2 f (by omega)]
theorem ch12_lt {σ : SS} {s : Nat} (hs : s < 2 ^ sN σ) (h12 : sN σ ≤ 12) : ∀ k, k < poN s 12 → chN s 12 k < sN σ := by
  intro k hk
  have g := ch_stop hs 12 h12
  rw [g.1] at hk
  rw [g.2 k hk]
  exact ch_lt s (sN σ) k hk
theorem fq_both {R : Nat → Nat} {σ : SS} {s : Nat} (hs : s < 2 ^ sN σ) (h12 : sN σ ≤ 12) (c8 : poN s 12 ≤ 8) : fqN (hpN R σ (chN s 12) (poN s 12)) (poN s 12) (2 ^ poN s 12 - 1) (poN s 12) = fqN (hpN R σ (chN s (sN σ)) (poN s (sN σ))) (poN s (sN σ)) (2 ^ poN s (sN σ) - 1) (poN s (sN σ)) := by
  have cs := ch_stop hs 12 h12
  rw [cs.1] at c8 ⊢
  have hp := p2c (poN s (sN σ)) (by omega)
  exact fq_cg c8 (hp_cg hs h12 _ rfl) _ _ _ (Nat.lt_succ_self _) (by omega) (Nat.le_refl _)
theorem pt_both {R : Nat → Nat} (hR : okR R) {σ : SS} (hS : okS R σ) {s i : Nat} (hs : s < 2 ^ sN σ) (c8 : poN s 12 ≤ 8) (hi : i < poN s 12) : chN s 12 (ptN (hpN R σ (chN s 12) (poN s 12)) (poN s 12) (i + 1)).2 = chN s (sN σ) (ptN (hpN R σ (chN s (sN σ)) (poN s (sN σ))) (poN s (sN σ)) (i + 1)).2 := by
  have h12 := hS.2.1
  have cs := ch_stop hs 12 h12
  have ok := hp_ok hR hS (ch12_lt hs h12)
  rw [cs.1] at c8 hi ok ⊢
  have hl := pt_lt c8 ok hi
  rw [← pt_cg c8 ok (hp_cg hs h12 _ rfl) (i + 1) hi]
  exact cs.2 _ hl
theorem L_order {M : MM} (h : Rel M) (x w : Int32) : wX4_order (fun r M1 => wX5_order (PQ r) M1 x w) M x w := by
  obtain ⟨R, σ, hR, hS, hc, hm, hr, him, hsh, htx⟩ := id h
  have h12 := hS.2.1
  unfold wX4_order
  refine s_hasAllOf h12 hc.2.1 (fun s hs hx => o_n1 ?_) (fun hx => o_n0 ?_)
  · subst hx
    have hj : ∃ j, j < 2 ^ sN σ ∧ nI s = nI j := ⟨s, hs, rfl⟩
    have h4 : 2 ^ sN σ ≤ 2 ^ 12 := Nat.pow_le_pow_right (by omega) h12
    have cs := ch_stop hs 12 h12
    have hpo := poN_le s 12
    -- the reference, up to its order
    have mst : ∀ (r : Int32) (M1 : MM), M1 53 = M 53 → M1 55 = M 55 → (w ≠ 0 → ¬ ((10 : Int32) ≤ w ∧ w ≤ 17) → PQ r (-1) M1) → (w = 0 ∨ ((10 : Int32) ≤ w ∧ w ≤ 17) → ¬ poN s 12 ≤ 8 → PQ r (-2) M1) → (w = 0 ∨ ((10 : Int32) ≤ w ∧ w ≤ 17) → poN s 12 ≤ 8 → ∀ M', (∀ a, a ≠ 52 → a ≠ 62 → a ≠ 63 → M' a = M1 a) → (∀ j, j ≠ 20 → M' 52 j = M1 52 j) → thP M' (chN s (sN σ)) (poN s (sN σ)) → reP M' (hpN R σ (chN s (sN σ)) (poN s (sN σ))) (poN s (sN σ)) 0 → (¬ w = 0 → ((M' 52 20) ≤ (w - (10 : Int32)) → PQ r (-1) M') ∧ (¬ (M' 52 20) ≤ (w - (10 : Int32)) → wX5_nthOf (fun r8 M9 => PQ r r8 M9) M' (w - (10 : Int32)))) ∧ (w = 0 → PQ r (M' 62 8) M')) → wX5_order (PQ r) M1 (nI s) w := by
      intro r M1 e53 e55 q1 q2 q3
      have hm1 : mdT M1 0 σ := hm.keep e53
      have hr1 : rlT M1 R := hr.keep e55
      have t28 : (w = 0 ∨ ((10 : Int32) ≤ w ∧ w ≤ 17)) → wX5_order_28 (PQ r) (nI s) w M1 := by
        intro hw
        unfold wX5_order_28
        refine m_countOf (by omega) ?_
        rw [show (8 : Int32) = nI 8 from rfl, nI_leI (by omega) (by omega)]
        by_cases c8 : poN s 12 ≤ 8
        · exact br_t c8 (m_layRest hR hS hr1 hm1 hs (by rw [← cs.1]; exact c8) (q3 hw c8))
        · exact br_f c8 (q2 hw c8)
      unfold wX5_order
      refine m_areBlocks h12 hm1.2.1 (fun j j1 j2 => o_t1 ?_) (fun q => absurd hj q)
      by_cases hw0 : w = 0
      · exact br_t hw0 (t28 (Or.inl hw0))
      · refine br_f hw0 (m_in32 10 17 rfl rfl ?_)
        by_cases hw1 : (10 : Int32) ≤ w ∧ w ≤ 17
        · exact zt1 hw1 (t28 (Or.inr hw1))
        · exact zf1 hw1 (q1 hw0 hw1)
    have sc : ∀ (M1 M' : MM), rtP M M1 → (∀ a, a ≠ 52 → a ≠ 62 → a ≠ 63 → M' a = M1 a) → (∀ j, j ≠ 20 → M' 52 j = M1 52 j) → Rel M' := fun M1 M' k1 k2 k3 => h.sc2 (fun a ha h52 => by rw [k2 a h52 (by omega) (by omega), k1 a (by omega)]) (fun j hj => by rw [k3 j hj, k1 52 (by omega)])
    rintro _ rfl
    have ten : ∀ i, i ≤ 7 → (w - (10 : Int32) = nI i ↔ w = nI (i + 10)) := by
      intro i _
      constructor
      · intro q
        have : w = w - 10 + 10 := (Int32.sub_add_cancel _ _).symm
        rw [this, q, show (10 : Int32) = nI 10 from rfl, nI_add]
      · intro q
        rw [q, show (10 : Int32) = nI 10 from rfl, pk_sub (by omega)]; congr 1
    -- the class, from the plan on
    have t54 : ∀ (v4 : Int32), (w = 0 ∧ v4 = 1) ∨ (∃ i, i ≤ 7 ∧ i < poN s 12 ∧ w = nI (i + 10) ∧ v4 = 0) → wX4_order_54 (fun r M1 => wX5_order (PQ r) M1 (nI s) w) (nI s) w M (w - 10) v4 := by
      intro v4 hv
      have hw : w = 0 ∨ ((10 : Int32) ≤ w ∧ w ≤ 17) := by
        rcases hv with ⟨a, -⟩ | ⟨i, i1, i2, i3, -⟩
        · exact Or.inl a
        · refine Or.inr ?_
          rw [i3]
          exact ⟨nI_le (a := 10) (by omega) (by omega), nI_le (b := 17) (by omega) (by omega)⟩
      unfold wX4_order_54
      refine s_bitCount (by omega) ?_
      rw [show (8 : Int32) = nI 8 from rfl, nI_leI (by omega) (by omega)]
      by_cases c8 : poN s 12 ≤ 8
      · refine br_t c8 (s_plan hR hS hc hs c8 (fun M1 hp => ?_))
        obtain ⟨p1, p2, p3, p4⟩ := hp
        rcases hv with ⟨a, rfl⟩ | ⟨i, i1, i2, i3, rfl⟩
        · refine br_f (by decide) ?_
          refine mst _ M1 (p1 53 (by omega)) (p1 55 (by omega)) (fun z => absurd a z) (fun _ z => absurd c8 z) (fun _ _ M' a1 a2 a3 a4 => ⟨fun z => absurd a z, fun _ => ⟨?_, sc M1 M' p1 a1 a2⟩⟩)
          rw [p3, (a4 0 (Nat.zero_le _) (Nat.pow_pos (by omega))).2 rfl, fq_both hs h12 c8]
        · refine br_t rfl ?_
          unfold wX0_stopAt
          rw [(ten i i1).mpr i3]
          refine s_cell (by rw [a40.2.2.2]; omega) (by rw [a40.2.2.2]; decide) ?_
          have hw0 : ¬ w = 0 := by
            intro z
            rw [i3] at z
            have := (nI_eq (b := 0) (by omega) (by omega)).mp z
            omega
          refine mst _ M1 (p1 53 (by omega)) (p1 55 (by omega)) (fun _ z => absurd (hw.resolve_left hw0) z) (fun _ z => absurd c8 z) (fun _ _ M' a1 a2 a3 a4 => ⟨fun _ => ?_, fun z => absurd z hw0⟩)
          have hcq : poN s 12 = poN s (sN σ) := cs.1
          rw [(ten i i1).mpr i3, a3.1, nI_leI (by omega) (by omega)]
          refine br_f (by omega) (m_nthOf hR hS (hr.keep (by rw [a1 55 (by decide) (by decide) (by decide), p1 55 (by omega)])) (hm.keep (by rw [a1 53 (by decide) (by decide) (by decide), p1 53 (by omega)])) (by omega) (ch_lt s (sN σ)) a3 a4 (by omega) ⟨?_, sc M1 M' p1 a1 a2⟩)
          rw [p4 i i2, pt_both hR hS hs c8 i2]
      · refine br_f c8 (mst _ M rfl rfl (fun a b => absurd (hw.resolve_left a) b) (fun _ _ => ⟨rfl, h⟩) (fun _ q => absurd q c8))
    by_cases hw0 : w = 0
    · refine br_nt hw0 ?_
      unfold wX4_order_27
      exact o_n1 (t54 1 (Or.inl ⟨hw0, rfl⟩))
    · refine br_nf hw0 ?_
      unfold wX4_order_27
      refine o_n0 (s_isBetween.mpr ?_)
      by_cases hb : (0 : Int32) ≤ w - 10 ∧ w - 10 ≤ 7
      · refine zt2 hb ?_
        obtain ⟨i, hi, e⟩ := pl_of (L := 7) (by omega) hb
        have hwi : w = nI (i + 10) := (ten i hi).mp e
        have hw1 : (10 : Int32) ≤ w ∧ w ≤ 17 := by
          rw [hwi]
          exact ⟨nI_le (a := 10) (by omega) (by omega), nI_le (b := 17) (by omega) (by omega)⟩
        refine s_bitCount (by omega) ?_
        by_cases q : i < poN s 12
        · have t := t54 0 (Or.inr ⟨i, hi, q, hwi, rfl⟩)
          rw [e] at t ⊢
          rw [nI_ltI (by omega) (by omega)]
          exact br_t q t
        · rw [e, nI_ltI (by omega) (by omega)]
          refine br_f q (mst _ M rfl rfl (fun _ z => absurd hw1 z) (fun _ z => absurd (show poN s 12 ≤ 8 by omega) z) (fun _ c8 M' a1 a2 a3 a4 => ⟨fun _ => ?_, fun z => absurd z hw0⟩))
          have hcq : poN s 12 = poN s (sN σ) := cs.1
          rw [e, a3.1, nI_leI (by omega) (by omega)]
          exact br_t (by omega) ⟨rfl, sc M M' (fun _ _ => rfl) a1 a2⟩
      · refine zf2 hb ?_
        have hw1 : ¬ ((10 : Int32) ≤ w ∧ w ≤ 17) := by
          intro z
          obtain ⟨k, hk, rfl⟩ := pl_of (L := 17) (by omega) ⟨Int32.le_trans (by decide) z.1, z.2⟩
          have h10 : 10 ≤ k := (nI_leI (a := 10) (by omega) (by omega)).mp z.1
          refine hb ?_
          rw [show (10 : Int32) = nI 10 from rfl, pk_sub h10]
          exact ⟨nI_le (a := 0) (by omega) (by omega), nI_le (b := 7) (by omega) (by omega)⟩
        exact mst _ M rfl rfl (fun _ _ => ⟨rfl, h⟩) (fun z => absurd (z.resolve_left hw0) hw1) (fun z => absurd (z.resolve_left hw0) hw1)
  · unfold wX5_order
    exact m_areBlocks h12 hm.2.1 (fun j j1 j2 => absurd ⟨j, j1, j2⟩ hx) (fun _ => o_t0 ⟨rfl, h⟩)
