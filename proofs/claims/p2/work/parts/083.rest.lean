-- ===== the reference's orders =====
theorem a62 : alen 62 = 3328 ∧ alen 63 = 8 := by decide +kernel
theorem v62 {n : Nat} (h : n < 3328) : vp_in (nI n) (alen 62) := vp_nI (by rw [a62.1]; exact h) (by rw [a62.1]; decide)
theorem v63 {n : Nat} (h : n < 8) : vp_in (nI n) (alen 63) := vp_nI (by rw [a62.2]; exact h) (by rw [a62.2]; decide)
theorem mk_1 : ∀ c, c < 9 → ∀ S, S < 2 ^ c → ((2 ^ c - 1) ^^^ S < 2 ^ c ∧ ((2 ^ c - 1) ^^^ S = 0 ↔ S = 2 ^ c - 1) ∧ (2 ^ c - 1) ^^^ ((2 ^ c - 1) ^^^ S) = S) := by decide +kernel
theorem mk_2 : ∀ c, c < 9 → ∀ S, S < 2 ^ c → ∀ b, b < c → (((2 ^ c - 1) ^^^ S) / 2 ^ b % 2 = 1 ↔ ¬ S / 2 ^ b % 2 = 1) := by decide +kernel
theorem mk_4 : ∀ c, c < 9 → ∀ S, S < 2 ^ c → ∀ b, b < c → (S / 2 ^ b % 2 = 1 ∨ ((2 ^ c - 1) ^^^ (S ||| 2 ^ b) = ((2 ^ c - 1) ^^^ S) ^^^ 2 ^ b ∧ (S ||| 2 ^ b < 2 ^ c ∧ (S < S ||| 2 ^ b ∧ (S ||| 2 ^ b) / 2 ^ b % 2 = 1)))) := by decide +kernel
theorem mk_3 (c : Nat) (hc : c < 9) (S : Nat) (hS : S < 2 ^ c) (b : Nat) (hb : b < c) (q : ¬ S / 2 ^ b % 2 = 1) : (2 ^ c - 1) ^^^ (S ||| 2 ^ b) = ((2 ^ c - 1) ^^^ S) ^^^ 2 ^ b ∧ (S ||| 2 ^ b < 2 ^ c ∧ (S < S ||| 2 ^ b ∧ (S ||| 2 ^ b) / 2 ^ b % 2 = 1)) := (mk_4 c hc S hS b hb).resolve_left q
theorem m_lessM {Q : Int32 → MM → Prop} {M : MM} {a b : Nat} (ha : a < 2 ^ 31) (hb : b < 2 ^ 31) (hq : Q (nI (min b a)) M) : wX5_less Q M (nI a) (nI b) := by
  unfold wX5_less
  rw [nI_leI hb ha]
  by_cases h : b ≤ a
  · rw [show min b a = b by omega] at hq; exact br_t h hq
  · rw [show min b a = a by omega] at hq; exact br_f h hq
/-- those that are asked for -/
def thP (M : MM) (ch : Nat → Nat) (c : Nat) : Prop := M 52 20 = nI c ∧ ∀ k, k < c → M 63 k = nI (ch k)
theorem m_takes {Q : Int32 → MM → Prop} {M : MM} {ch : Nat → Nat} {c f l b : Nat} {R : Nat → Nat} {σ : SS} (hR : okR R) (hS : okS R σ) (hr : rlT M R) (hm : mdT M 0 σ) (hc8 : c ≤ 8) (hch : ∀ k, k < c → ch k < sN σ) (h0 : thP M ch c) (hl : (l = 8 ∧ f = c) ∨ (l < c ∧ f = l)) (hb : b < c) (hq : Q (nI (hpN R σ ch c f b)) M) : wX5_takes Q M (nI l) (nI b) := by
  have h12 := hS.2.1
  have hL := hS.1.2
  have hbt := hch b hb
  have hz := hS.2.2.2.1 _ hbt
  have tail : ∀ x, x = (if f = c then sH σ else sB σ (ch f) + lgN R (sZ σ (ch f))) → x ≤ sL σ → wX5_takes_27 Q (nI l) (nI b) M (nI x) := by
    intro x hx hxL
    unfold wX5_takes_27
    rw [clamp_nI (n := b) (by omega), h0.2 b hb, n1, nI_add, clamp_nI (n := 1 + ch b) (by omega), mB hm hbt]
    refine ⟨v63 (by omega), v53 (by omega), m_sooner hR hr hm.1 hL hxL (by omega) ?_⟩
    rw [h0.2 b hb, e13, clamp_nI (n := 13 + ch b) (by omega), mZ hm hbt]
    refine ⟨v63 (by omega), v53 (by omega), m_longOf hR hr (by omega) ?_⟩
    rw [hr 3 (by omega) (by omega), pk_mul, nI_add]
    unfold hpN at hq
    rw [← hx] at hq
    exact hq
  unfold wX5_takes
  rw [show (8 : Int32) = nI 8 from rfl, nI_eq (by omega) (by omega)]
  rcases hl with ⟨h1, h2⟩ | ⟨h1, h2⟩
  · refine br_nt h1 ?_
    rw [show M 53 325 = nI (sH σ) from hm.2.2.1]
    exact tail _ (by rw [if_pos h2]) hS.2.2.1
  · refine br_nf (by omega) ⟨v63 (by omega), ?_⟩
    rw [clamp_nI (by omega), h0.2 l h1]
    refine m_endOf hR hS hr hm (hch l h1) ?_
    exact tail _ (by rw [if_neg (by omega), h2]) (hS.2.2.2.1 _ (hch l h1)).2
theorem m_those {Q : MM → Prop} {M : MM} {s N : Nat} (hs : s < 2 ^ N) (hN : N ≤ 12) (h8 : poN s N ≤ 8) (e0 : M 53 0 = nI N) (hq : ∀ M', (∀ a, a ≠ 52 → a ≠ 63 → M' a = M a) → (∀ j, j ≠ 20 → M' 52 j = M 52 j) → thP M' (chN s N) (poN s N) → ∃ m, wX5_layRest_63 Q (nI s) m M' (nI (2 ^ poN s N - 1)) (nI (2 ^ poN s N - 1))) : wX5_layRest Q M (nI s) := by
  have h4 : 2 ^ N ≤ 2 ^ 12 := Nat.pow_le_pow_right (by omega) hN
  have loop : ∀ r b (M' : MM), b + r = N → (∀ a, a ≠ 52 → a ≠ 63 → M' a = M a) → (∀ j, j ≠ 20 → M' 52 j = M 52 j) → thP M' (chN s b) (poN s b) → wX5_layRest_7 Q (nI s) (r + 1) M' (nI b) := by
    intro r
    induction r with
    | zero =>
      intro b M' hb k1 k2 k3
      have : b = N := by omega
      subst this
      have hp := p2c (poN s b) (by omega)
      refine br_t (by rw [k1 53 (by decide) (by decide), e0]; exact nI_le (Nat.le_refl _) (by omega)) ?_
      rintro _ rfl
      rw [k3.1, shl_1 _ (by omega), nI_sub1 (by omega)]
      exact hq M' k1 k2 k3
    | succ r ih =>
      intro b M' hb k1 k2 k3
      have hmn := po_mono (s := s) (show b + 1 ≤ N by omega)
      refine br_f (fun q => ?_) ?_
      · rw [k1 53 (by decide) (by decide), e0] at q
        have := (nI_leI (by omega) (by omega)).mp q; omega
      rw [bit_iff (by omega) (by omega)]
      unfold wX5_layRest_46
      have e1 : poN s (b + 1) = poN s b + s / 2 ^ b % 2 := rfl
      by_cases q : s / 2 ^ b % 2 = 1
      · refine br_nt q ?_
        rw [k3.1, clamp_nI (by omega)]
        refine ⟨v63 (by omega), ?_⟩
        rintro _ rfl _ rfl
        rw [nI_1]
        refine ih (b + 1) _ (by omega) (fun a a1 a2 => by rw [mset_n a1, mset_n a2]; exact k1 a a1 a2) (fun j hj => by rw [mset_sn hj, mset_n (by decide)]; exact k2 j hj) ⟨?_, fun k hk => ?_⟩
        · rw [mset_ss, mset_n (by decide), k3.1, nI_1, e1, q]
        · rw [mset_n (by decide)]
          have e2 : chN s (b + 1) k = if s / 2 ^ b % 2 = 1 ∧ k = poN s b then b else chN s b k := rfl
          rw [e2]
          by_cases e : k = poN s b
          · subst e; rw [mset_ss, if_pos ⟨q, rfl⟩]
          · rw [mset_sn e, if_neg (fun q => e q.2)]; exact k3.2 k (by omega)
      · refine br_nf q ?_
        rw [nI_1]
        have e3 : poN s (b + 1) = poN s b := by omega
        refine ih (b + 1) M' (by omega) k1 k2 ⟨by rw [k3.1, e3], fun k hk => ?_⟩
        rw [ch_old (by omega)]; exact k3.2 k (by omega)
  unfold wX5_layRest
  rintro _ rfl
  exact ⟨_, loop N 0 _ (by omega) (fun a a1 _ => mset_n a1) (fun j hj => mset_sn hj) ⟨by rw [mset_ss]; rfl, fun k hk => absurd hk (Nat.not_lt_zero _)⟩⟩
/-- the rows of the rest, for the sets from r on -/
def reP (M : MM) (H : Nat → Nat → Nat) (c r : Nat) : Prop := ∀ S, r ≤ S → S < 2 ^ c → (∀ l, l < c → S / 2 ^ l % 2 = 1 → M 62 (13 * S + l) = nI (fqN H c ((2 ^ c - 1) ^^^ S) l)) ∧ (S = 0 → M 62 8 = nI (fqN H c (2 ^ c - 1) c))
theorem m_cell {Q : MM → Prop} {K63 : MM → Int32 → Int32 → Prop} {K70 : MM → Int32 → Int32 → Int32 → Prop} {M : MM} {ch : Nat → Nat} {c S l f : Nat} {v1 A : Int32} {R : Nat → Nat} {σ : SS} (hR : okR R) (hS : okS R σ) (hr : rlT M R) (hm : mdT M 0 σ) (hc8 : c ≤ 8) (hch : ∀ k, k < c → ch k < sN σ) (h0 : thP M ch c) (hSc : S < 2 ^ c) (hl : (l = 8 ∧ f = c) ∨ (l < c ∧ f = l)) (hre : reP M (hpN R σ ch c) c (S + 1)) (hK : K70 (mset M 62 (13 * S + l) (nI (fqN (hpN R σ ch c) c ((2 ^ c - 1) ^^^ S) f))) A (nI S) (nI l + 1)) : wX5_layRest_133 Q K63 K70 v1 M A (nI S) (nI l) (if S = 2 ^ c - 1 then 0 else 2000000000) 1 := by
  have hH := hp_ok hR hS hch
  have h8 := (p2c c (by omega)).1
  have hk1 := mk_1 c (by omega) S hSc
  have hf : f ≤ c := by omega
  have l8 : l ≤ 8 := by omega
  have fin : ∀ v, v = nI (fqN (hpN R σ ch c) c ((2 ^ c - 1) ^^^ S) f) → wX5_layRest_200 Q K63 K70 v1 M A (nI S) (nI l) v := by
    rintro _ rfl
    unfold wX5_layRest_200
    rw [show (13 : Int32) * nI S = nI (13 * S) from pk_mul 13 S, nI_add, clamp_nI (by omega)]
    refine ⟨v62 (by omega), ?_⟩
    rintro _ rfl
    exact hK
  unfold wX5_layRest_133
  have loop : ∀ (v0 : Nat), v0 ≤ 2000000000 → (mnF (fun t => hpN R σ ch c f t + fqN (hpN R σ ch c) c (((2 ^ c - 1) ^^^ S) ^^^ 2 ^ t) t) ((2 ^ c - 1) ^^^ S) v0 c = fqN (hpN R σ ch c) c ((2 ^ c - 1) ^^^ S) f) → ∀ r b, b + r = c → wX5_layRest_138 Q K63 K70 v1 (r + 1) M A (nI S) (nI l) (nI (mnF (fun t => hpN R σ ch c f t + fqN (hpN R σ ch c) c (((2 ^ c - 1) ^^^ S) ^^^ 2 ^ t) t) ((2 ^ c - 1) ^^^ S) v0 b)) 1 (nI b) := by
    intro v0 hv0 hend r
    induction r with
    | zero =>
      intro b hb
      have : b = c := by omega
      subst this
      refine br_t (by rw [h0.1]; exact nI_le (Nat.le_refl _) (by omega)) (fin _ (by rw [hend]))
    | succ r ih =>
      intro b hb
      have hbc : b < c := by omega
      refine br_f (fun q => ?_) (br_f (by decide) ?_)
      · rw [h0.1] at q
        have := (nI_leI (by omega) (by omega)).mp q; omega
      have g := ih (b + 1) (by omega)
      rw [mnF] at g
      have k2 := mk_2 c (by omega) S hSc b hbc
      unfold wX5_layRest_194
      rw [bit_if0 (by omega) (by omega)]
      by_cases q : S / 2 ^ b % 2 = 1
      · rw [if_neg (fun e => (k2.mp e) q)] at g
        refine br_nf (fun e => e q) ?_
        rw [nI_1]; exact g
      · rw [if_pos (k2.mpr q)] at g
        obtain ⟨m1, m2, m3, m4⟩ := mk_3 c (by omega) S hSc b hbc q
        refine br_nt q (m_takes hR hS hr hm hc8 hch h0 hl hbc ?_)
        rw [shl_1 b (by omega), nI_or, show (13 : Int32) * nI (S ||| 2 ^ b) = nI (13 * (S ||| 2 ^ b)) from pk_mul 13 _, nI_add, clamp_nI (by omega), (hre (S ||| 2 ^ b) (by omega) m2).1 b hbc m4, m1, nI_add]
        refine ⟨v62 (by omega), ?_⟩
        have hx := (ms_lt _ (show (2 ^ c - 1) ^^^ S < 256 by omega) b (by omega) (k2.mpr q)).1
        have b1 := fqN_b (H := hpN R σ ch c) (L := ((2 ^ c - 1) ^^^ S) ^^^ 2 ^ b) (f := b) hc8 hH (by omega) (by omega)
        have b2 := hH f b hf hbc
        have b3 := mn_ls (g := fun t => hpN R σ ch c f t + fqN (hpN R σ ch c) c (((2 ^ c - 1) ^^^ S) ^^^ 2 ^ t) t) (L := (2 ^ c - 1) ^^^ S) (s := v0) b
        refine m_lessM (by omega) (by omega) ?_
        rw [nI_1]; exact g
  by_cases e : S = 2 ^ c - 1
  · rw [if_pos e]
    have z : (2 ^ c - 1) ^^^ S = 0 := hk1.2.1.mpr e
    have zz : ∀ i, mnF (fun t => hpN R σ ch c f t + fqN (hpN R σ ch c) c (((2 ^ c - 1) ^^^ S) ^^^ 2 ^ t) t) ((2 ^ c - 1) ^^^ S) 0 i = 0 := fun i => Nat.le_zero.mp (mn_ls i)
    exact ⟨_, loop 0 (by omega) (by rw [zz, z]; rfl) c 0 (by omega)⟩
  · rw [if_neg e]
    have hne : (2 ^ c - 1) ^^^ S ≠ 0 := fun q => e (hk1.2.1.mp q)
    obtain ⟨t, t1, t2⟩ := ms_ex c (by omega) _ (show (2 ^ c - 1) ^^^ S < 256 by omega) hk1.1 hne
    have hx := (ms_lt _ (show (2 ^ c - 1) ^^^ S < 256 by omega) t (by omega) t2).1
    have b1 := fqN_b (H := hpN R σ ch c) (L := ((2 ^ c - 1) ^^^ S) ^^^ 2 ^ t) (f := t) hc8 hH (by omega) (by omega)
    have b2 := hH f t hf t1
    refine ⟨_, loop 2000000000 (Nat.le_refl _) ?_ c 0 (by omega)⟩
    rw [fqN_eq hc8 hk1.1 hne]
    exact (mn_st t1 t2 (by show _ + _ ≤ _; omega) (by omega)).symm
theorem m_cell0 {Q : MM → Prop} {K63 : MM → Int32 → Int32 → Prop} {K70 : MM → Int32 → Int32 → Int32 → Prop} {M : MM} {c S l : Nat} {v1 A v : Int32} (hc8 : c ≤ 8) (h0 : M 52 20 = nI c) (hSc : S < 256) (hl : l ≤ 8) (hK : K70 (mset M 62 (13 * S + l) v) A (nI S) (nI l + 1)) : wX5_layRest_133 Q K63 K70 v1 M A (nI S) (nI l) v 0 := by
  have fin : wX5_layRest_200 Q K63 K70 v1 M A (nI S) (nI l) v := by
    unfold wX5_layRest_200
    rw [show (13 : Int32) * nI S = nI (13 * S) from pk_mul 13 S, nI_add, clamp_nI (by omega)]
    refine ⟨v62 (by omega), ?_⟩
    rintro _ rfl
    exact hK
  exact ⟨1, fun _ => fin, fun _ => br_t rfl fin⟩
theorem m_layRest {Q : MM → Prop} {M : MM} {s : Nat} {R : Nat → Nat} {σ : SS} (hR : okR R) (hS : okS R σ) (hr : rlT M R) (hm : mdT M 0 σ) (hs : s < 2 ^ sN σ) (h8 : poN s (sN σ) ≤ 8) (hq : ∀ M', (∀ a, a ≠ 52 → a ≠ 62 → a ≠ 63 → M' a = M a) → (∀ j, j ≠ 20 → M' 52 j = M 52 j) → thP M' (chN s (sN σ)) (poN s (sN σ)) → reP M' (hpN R σ (chN s (sN σ)) (poN s (sN σ))) (poN s (sN σ)) 0 → Q M') : wX5_layRest Q M (nI s) := by
  have h12 := hS.2.1
  have hch := ch_lt s (sN σ)
  have hp := p2c (poN s (sN σ)) (by omega)
  refine m_those hs h12 h8 hm.2.1 (fun M1 a1 a2 a3 => ?_)
  -- one set, the last ones from l on
  have t70 : ∀ (S : Nat) (K : MM → Int32 → Int32 → Prop), S < 2 ^ poN s (sN σ) → (∀ M', (∀ a, a ≠ 62 → M' a = M1 a) → reP M' (hpN R σ (chN s (sN σ)) (poN s (sN σ))) (poN s (sN σ)) S → K M' (nI (2 ^ poN s (sN σ) - 1)) (nI S + (-1))) → ∀ r l (M' : MM), l + r = 9 → (∀ a, a ≠ 62 → M' a = M1 a) → reP M' (hpN R σ (chN s (sN σ)) (poN s (sN σ))) (poN s (sN σ)) (S + 1) → (∀ l', l' < l → l' < poN s (sN σ) → S / 2 ^ l' % 2 = 1 → M' 62 (13 * S + l') = nI (fqN (hpN R σ (chN s (sN σ)) (poN s (sN σ))) (poN s (sN σ)) ((2 ^ poN s (sN σ) - 1) ^^^ S) l')) → (8 < l → S = 0 → M' 62 8 = nI (fqN (hpN R σ (chN s (sN σ)) (poN s (sN σ))) (poN s (sN σ)) (2 ^ poN s (sN σ) - 1) (poN s (sN σ)))) → wX5_layRest_70 Q K (nI s) (r + 1) M' (nI (2 ^ poN s (sN σ) - 1)) (nI S) (nI l) := by
    intro S K hSc hK r
    induction r with
    | zero =>
      intro l M' hl k1 k2 k3 k4
      have : l = 9 := by omega
      subst this
      refine br_t (by decide +kernel) (hK M' k1 (fun S' h1 h2 => ?_))
      by_cases e : S' = S
      · subst e
        exact ⟨fun l hl q => k3 l (by omega) hl q, fun e0 => k4 (by omega) e0⟩
      · exact k2 S' (by omega) h2
    | succ r ih =>
      intro l M' hl k1 k2 k3 k4
      have h0' : thP M' (chN s (sN σ)) (poN s (sN σ)) := ⟨by rw [k1 52 (by decide)]; exact a3.1, fun k hk => by rw [k1 63 (by decide)]; exact a3.2 k hk⟩
      have hm' : mdT M' 0 σ := hm.keep (by rw [k1 53 (by decide), a1 53 (by decide) (by decide)])
      have hr' : rlT M' R := hr.keep (by rw [k1 55 (by decide), a1 55 (by decide) (by decide)])
      -- the next one, whatever is written here
      have nx : ∀ w : Int32, (l < poN s (sN σ) → S / 2 ^ l % 2 = 1 → w = nI (fqN (hpN R σ (chN s (sN σ)) (poN s (sN σ))) (poN s (sN σ)) ((2 ^ poN s (sN σ) - 1) ^^^ S) l)) → (l = 8 → S = 0 → w = nI (fqN (hpN R σ (chN s (sN σ)) (poN s (sN σ))) (poN s (sN σ)) (2 ^ poN s (sN σ) - 1) (poN s (sN σ)))) → wX5_layRest_70 Q K (nI s) (r + 1) (mset M' 62 (13 * S + l) w) (nI (2 ^ poN s (sN σ) - 1)) (nI S) (nI l + 1) := by
        intro w w1 w2
        rw [nI_1]
        refine ih (l + 1) _ (by omega) (fun a h => by rw [mset_n h]; exact k1 a h) (fun S' h1 h2 => ?_) (fun l' h1 h2 h3 => ?_) (fun h1 h2 => ?_)
        · have g := k2 S' h1 h2
          refine ⟨fun l' hl' q => ?_, fun e0 => by omega⟩
          rw [mset_sn (by omega)]; exact g.1 l' hl' q
        · by_cases e : l' = l
          · subst e; rw [mset_ss]; exact w1 h2 h3
          · rw [mset_sn (by omega)]; exact k3 l' (by omega) h2 h3
        · by_cases e : l = 8
          · subst e; subst h2
            rw [show 13 * 0 + 8 = 8 from rfl, mset_ss]; exact w2 rfl rfl
          · omega
      unfold wX5_layRest_70
      refine br_f (fun q => ?_) ?_
      · have := (nI_leI (a := 9) (by omega) (by omega)).mp q; omega
      have t88 : wX5_layRest_88 Q K (fun M v2 v3 v4 => wX5_layRest_70 Q K (nI s) (r + 1) M v2 v3 v4) (nI s) M' (nI (2 ^ poN s (sN σ) - 1)) (nI S) (nI l) (if S = 2 ^ poN s (sN σ) - 1 then 0 else 2000000000) := by
        unfold wX5_layRest_88 wX5_layRest_132
        rw [h0'.1, show (8 : Int32) = nI 8 from rfl, nI_eq (by omega) (by omega), nI_leI (by omega) (by omega), bit_iff (by omega) (by omega), show (0 : Int32) = nI 0 from rfl, nI_eq (a := S) (by omega) (by omega)]
        by_cases e8 : l = 8
        · refine br_nt e8 ?_
          by_cases e0 : S = 0
          · refine br_nt e0 (m_cell (f := poN s (sN σ)) hR hS hr' hm' h8 hch h0' hSc (Or.inl ⟨e8, rfl⟩) k2 (nx _ (fun h _ => by omega) (fun _ _ => ?_)))
            rw [e0, Nat.xor_zero]
          · exact br_nf e0 (m_cell0 h8 h0'.1 (by omega) (by omega) (nx _ (fun h _ => by omega) (fun _ h => absurd h e0)))
        · refine br_nf e8 ?_
          by_cases e1 : poN s (sN σ) ≤ l
          · exact br_t e1 (m_cell0 h8 h0'.1 (by omega) (by omega) (nx _ (fun h _ => by omega) (fun h _ => absurd h e8)))
          · refine br_f e1 ?_
            by_cases e2 : S / 2 ^ l % 2 = 1
            · exact br_nt e2 (m_cell (f := l) hR hS hr' hm' h8 hch h0' hSc (Or.inr ⟨by omega, rfl⟩) k2 (nx _ (fun _ _ => rfl) (fun h _ => absurd h e8)))
            · exact br_nf e2 (m_cell0 h8 h0'.1 (by omega) (by omega) (nx _ (fun _ h => absurd h e2) (fun h _ => absurd h e8)))
      rw [nI_eq (by omega) (by omega)]
      by_cases e : S = 2 ^ poN s (sN σ) - 1
      · rw [if_pos e] at t88; exact br_nt e t88
      · rw [if_neg e] at t88; exact br_nf e t88
  have t63 : ∀ r (M' : MM), r ≤ 2 ^ poN s (sN σ) → (∀ a, a ≠ 62 → M' a = M1 a) → reP M' (hpN R σ (chN s (sN σ)) (poN s (sN σ))) (poN s (sN σ)) r → wX5_layRest_63 Q (nI s) (r + 1) M' (nI (2 ^ poN s (sN σ) - 1)) (nI r + (-1)) := by
    intro r
    induction r with
    | zero =>
      intro M' _ k1 k2
      refine br_t (by decide +kernel) (hq M' (fun a h1 h2 h3 => by rw [k1 a h2, a1 a h1 h3]) (fun j hj => by rw [k1 52 (by decide)]; exact a2 j hj) ⟨by rw [k1 52 (by decide)]; exact a3.1, fun k hk => by rw [k1 63 (by decide)]; exact a3.2 k hk⟩ k2)
    | succ r ih =>
      intro M' hr2 k1 k2
      rw [pk_m1]
      refine br_f (nI_pos (by omega)) ⟨10, t70 r _ (by omega) (fun M2 d1 d2 => ih M2 (by omega) d1 d2) 9 0 M' (by omega) k1 k2 (fun _ h => by omega) (fun h => by omega)⟩
  have g := t63 (2 ^ poN s (sN σ)) M1 (Nat.le_refl _) (fun _ _ => rfl) (fun S h1 h2 => by omega)
  have e : nI (2 ^ poN s (sN σ)) + (-1) = nI (2 ^ poN s (sN σ) - 1) := by
    have : 2 ^ poN s (sN σ) = (2 ^ poN s (sN σ) - 1) + 1 := by omega
    rw [this, pk_m1]; rfl
  rw [e] at g
  exact ⟨_, g⟩
