-- ===== the class's route =====
theorem a40 : alen 40 = 72 ∧ alen 41 = 2048 ∧ alen 42 = 8 ∧ alen 43 = 8 := by decide +kernel
def hpN (R : Nat → Nat) (σ : SS) (ch : Nat → Nat) (c f t : Nat) : Nat := soN R (sL σ) (if f = c then sH σ else sB σ (ch f) + lgN R (sZ σ (ch f))) (sB σ (ch t)) + R 3 * lgN R (sZ σ (ch t))
theorem hp_ok {R : Nat → Nat} (hR : okR R) {σ : SS} (hS : okS R σ) {ch : Nat → Nat} {c : Nat} (hch : ∀ k, k < c → ch k < sN σ) : okH (hpN R σ ch c) c := by
  intro f t hf ht
  have hL := hS.1.2
  have hH := hS.2.2.1
  have h1 := hS.2.2.2.1 _ (hch t ht)
  have hl := lgN_le hR (n := sZ σ (ch t)) (by omega)
  have h3 : R 3 * lgN R (sZ σ (ch t)) ≤ 99 * 108 := Nat.mul_le_mul hR.2.1.2 hl.2
  have hx : (if f = c then sH σ else sB σ (ch f) + lgN R (sZ σ (ch f))) ≤ sL σ := by
    by_cases e : f = c
    · rw [if_pos e]; exact hH
    · rw [if_neg e]; exact (hS.2.2.2.1 _ (hch f (by omega))).2
  have h4 := plN_lt hR (x := if f = c then sH σ else sB σ (ch f) + lgN R (sZ σ (ch f))) (y := sB σ (ch t)) (by omega) (by omega)
  have h5 := woN_lt hR hL hx (show sB σ (ch t) ≤ sL σ by omega)
  have h6 : soN R (sL σ) (if f = c then sH σ else sB σ (ch f) + lgN R (sZ σ (ch f))) (sB σ (ch t)) ≤ 1000000 := ite_le (by omega) (by omega)
  unfold hpN
  omega
theorem bit_iff {L t : Nat} (hL : L < 2 ^ 31) (ht : t < 12) : ((nI L >>> (nI t &&& 31)) &&& (1 : Int32)) = 1 ↔ L / 2 ^ t % 2 = 1 := by
  rw [bit_at hL ht]
  exact nI_eq (b := 1) (by omega) (by omega)
theorem bit_if0 {L t : Nat} (hL : L < 2 ^ 31) (ht : t < 12) : ((nI L >>> (nI t &&& 31)) &&& (1 : Int32)) = 0 ↔ ¬ L / 2 ^ t % 2 = 1 := by
  rw [bit_at hL ht]
  have := nI_eq (a := L / 2 ^ t % 2) (b := 0) (by omega) (by omega)
  rw [show (0 : Int32) = nI 0 from rfl, this]; omega
def rtP (M M' : MM) : Prop := ∀ a, (a < 39 ∨ 44 ≤ a) → M' a = M a
theorem s_choose {Q : MM → Prop} {M : MM} {s : Nat} (hs : s < 4096) (h8 : poN s 12 ≤ 8) (hq : ∀ M', rtP M M' → (∀ j, j ≠ 4 → M' 39 j = M 39 j) → M' 39 4 = nI (poN s 12) → (∀ k, k < poN s 12 → M' 42 k = nI (chN s 12 k)) → Q M') : wX0_choose Q M (nI s) := by
  have loop : ∀ r b (M' : MM), b + r = 12 → rtP M M' → (∀ j, j ≠ 4 → M' 39 j = M 39 j) → M' 39 4 = nI (poN s b) → (∀ k, k < poN s b → M' 42 k = nI (chN s b k)) → wX0_choose_7 Q (nI s) (r + 1) M' (nI b) := by
    intro r
    induction r with
    | zero =>
      intro b M' hb k1 k2 k3 k4
      have : b = 12 := by omega
      subst this
      exact br_t (by decide +kernel) (hq M' k1 k2 k3 k4)
    | succ r ih =>
      intro b M' hb k1 k2 k3 k4
      have hm := po_mono (s := s) (show b + 1 ≤ 12 by omega)
      have hle := poN_le s b
      refine br_f (fun q => ?_) ?_
      · have := (nI_leI (a := 12) (by omega) (by omega)).mp q; omega
      rw [bit_iff (by omega) (by omega)]
      unfold wX0_choose_53
      have e1 : poN s (b + 1) = poN s b + s / 2 ^ b % 2 := rfl
      by_cases q : s / 2 ^ b % 2 = 1
      · refine br_nt q ?_
        rw [k3]
        refine br_f (fun q2 => ?_) (s_setCell (by rw [a40.2.2.1]; omega) (by rw [a40.2.2.1]; decide) ?_)
        · have := (nI_leI (a := 8) (by omega) (by omega)).mp q2; omega
        rintro _ rfl
        rw [nI_1]
        refine ih (b + 1) _ (by omega) (fun a ha => by rw [mset_n (by omega), mset_n (by omega)]; exact k1 a ha) (fun j hj => by rw [mset_sn hj, mset_n (by decide)]; exact k2 j hj) ?_ (fun k hk => ?_)
        · rw [mset_ss, mset_n (by decide), k3, nI_1, e1, q]
        · rw [mset_n (by decide)]
          have e2 : chN s (b + 1) k = if s / 2 ^ b % 2 = 1 ∧ k = poN s b then b else chN s b k := rfl
          rw [e2]
          by_cases e : k = poN s b
          · subst e; rw [mset_ss, if_pos ⟨q, rfl⟩]
          · rw [mset_sn e, if_neg (fun q => e q.2)]; exact k4 k (by omega)
      · refine br_nf q ?_
        rw [nI_1]
        refine ih (b + 1) M' (by omega) k1 k2 (by rw [k3, e1]; congr 1; omega) (fun k hk => ?_)
        rw [ch_old (by omega)]; exact k4 k (by omega)
  unfold wX0_choose
  rintro _ rfl
  exact ⟨_, loop 12 0 _ (by omega) (fun a ha => mset_n (by omega)) (fun j hj => mset_sn hj) (by rw [mset_ss]; rfl) (fun k hk => absurd hk (Nat.not_lt_zero _))⟩
/-- the chosen ones, and the ticks from one to another -/
def chP (M : MM) (ch : Nat → Nat) (c : Nat) : Prop := M 39 4 = nI c ∧ ∀ k, k < c → M 42 k = nI (ch k)
def hoP (M : MM) (H : Nat → Nat → Nat) (c f : Nat) : Prop := ∀ f', f' < f → ∀ t, t < c → M 40 (f' * 8 + t) = nI (H f' t)
theorem s_hops1 {Q : MM → Prop} {K : MM → Int32 → Prop} {M : MM} {ch : Nat → Nat} {c f x : Nat} {R : Nat → Nat} {σ : SS} (hR : okR R) (hS : okS R σ) (hc : clT M 1 R σ) (hc8 : c ≤ 8) (hch : ∀ k, k < c → ch k < sN σ) (hf : f ≤ c) (hx : x = if f = c then sH σ else sB σ (ch f) + lgN R (sZ σ (ch f))) (hK : ∀ M', (∀ a, a ≠ 40 → M' a = M a) → chP M' ch c → hoP M' (hpN R σ ch c) c (f + 1) → K M' (nI (f + 1))) : ∀ r t (M' : MM), t + r = c → (∀ a, a ≠ 40 → M' a = M a) → chP M' ch c → hoP M' (hpN R σ ch c) c f → (∀ t', t' < t → M' 40 (f * 8 + t') = nI (hpN R σ ch c f t')) → wX0_measureHops_41 Q K 1 (r + 1) M' (nI f) (nI x) (nI t) := by
  have hb : tpB 1 := Or.inl rfl
  have h12 := hS.2.1
  have hL := hS.1.2
  intro r
  induction r with
  | zero =>
    intro t M' ht k1 k2 k3 k4
    have : t = c := by omega
    subst this
    refine br_t (by rw [k2.1]; exact nI_le (Nat.le_refl _) (by omega)) ?_
    rw [nI_1]
    refine hK M' k1 k2 (fun f' hf' t' ht' => ?_)
    by_cases e : f' = f
    · subst e; exact k4 t' ht'
    · exact k3 f' (by omega) t' ht'
  | succ r ih =>
    intro t M' ht k1 k2 k3 k4
    have htc : t < c := by omega
    have hbt := hch t htc
    have hz := hS.2.2.2.1 _ hbt
    have hxL : x ≤ sL σ := by
      rw [hx]
      by_cases e : f = c
      · rw [if_pos e]; exact hS.2.2.1
      · rw [if_neg e]; exact (hS.2.2.2.1 _ (hch f (by omega))).2
    have hc' : clT M' 1 R σ := hc.keep (fun i hi => k1 _ (by omega))
    refine br_f (fun q => ?_) (s_cell (by rw [a40.2.2.1]; omega) (by rw [a40.2.2.1]; decide) ?_)
    · rw [k2.1] at q
      have := (nI_leI (by omega) (by omega)).mp q; omega
    rw [k2.2 t htc]
    refine s_beginOf hb hc' h12 hbt (s_sooner hb hR hc' hL hxL (by omega) ?_)
    unfold wX2_longOf
    refine s_sizeOf hb hc' h12 hbt (s_longWith hb hR hc' (by omega) ?_)
    unfold wX2_playedThrough
    refine s_ruled hb 3 (by omega) rfl ?_
    rw [hc'.1.2 3 (by omega) (by omega), pk_mul]
    rw [show nI f * (8 : Int32) + nI t = nI (f * 8 + t) by rw [show (8 : Int32) = nI 8 from rfl, pk_mul, nI_add]]
    refine s_setCell (by rw [a40.1]; omega) (by rw [a40.1]; decide) ?_
    rw [nI_add, nI_1]
    refine ih (t + 1) _ (by omega) (fun a h => by rw [mset_n h]; exact k1 a h) ⟨by rw [mset_n (by decide)]; exact k2.1, fun k hk => by rw [mset_n (by decide)]; exact k2.2 k hk⟩ (fun f' hf' t' ht' => ?_) (fun t' ht' => ?_)
    · rw [mset_sn (by omega)]; exact k3 f' hf' t' ht'
    · by_cases e : t' = t
      · subst e
        rw [mset_ss]
        unfold hpN
        rw [← hx]
      · rw [mset_sn (by omega)]; exact k4 t' (by omega)
theorem s_hops {Q : MM → Prop} {M : MM} {ch : Nat → Nat} {c : Nat} {R : Nat → Nat} {σ : SS} (hR : okR R) (hS : okS R σ) (hc : clT M 1 R σ) (hc8 : c ≤ 8) (hch : ∀ k, k < c → ch k < sN σ) (h0 : chP M ch c) (hq : ∀ M', (∀ a, a ≠ 40 → M' a = M a) → hoP M' (hpN R σ ch c) c (c + 1) → Q M') : wX0_measureHops Q M 1 := by
  have hb : tpB 1 := Or.inl rfl
  have loop : ∀ r f (M' : MM), f + r = c + 1 → (∀ a, a ≠ 40 → M' a = M a) → hoP M' (hpN R σ ch c) c f → wX0_measureHops_2 Q 1 (r + 1) M' (nI f) := by
    intro r
    induction r with
    | zero =>
      intro f M' hf k1 k3
      have : f = c + 1 := by omega
      subst this
      exact br_t (by rw [k1 39 (by decide), h0.1]; exact nI_lt (by omega) (by omega)) (hq M' k1 k3)
    | succ r ih =>
      intro f M' hf k1 k3
      have hc' : clT M' 1 R σ := hc.keep (fun i hi => k1 _ (by omega))
      have h0' : chP M' ch c := ⟨by rw [k1 39 (by decide)]; exact h0.1, fun k hk => by rw [k1 42 (by decide)]; exact h0.2 k hk⟩
      have inner : ∀ x, x = (if f = c then sH σ else sB σ (ch f) + lgN R (sZ σ (ch f))) → wX0_measureHops_37 Q (fun M v2 => wX0_measureHops_2 Q 1 (r + 1) M v2) 1 M' (nI f) (nI x) := fun x hx =>
        ⟨c + 1, s_hops1 hR hS hc' hc8 hch (by omega) hx (fun M2 a1 a2 a3 => ih (f + 1) M2 (by omega) (fun a h => by rw [a1 a h]; exact k1 a h) a3) c 0 M' (by omega) (fun _ _ => rfl) h0' k3 (fun _ q => by omega)⟩
      unfold wX0_measureHops_2
      rw [h0'.1, nI_ltI (by omega) (by omega), nI_eq (by omega) (by omega)]
      refine br_f (by omega) ?_
      by_cases e : f = c
      · refine br_nt e ?_
        rw [show M' 1 9 = nI (sH σ) from hc'.2.2.1]
        exact inner _ (by rw [if_pos e])
      · refine br_nf e (s_cell (by rw [a40.2.2.1]; omega) (by rw [a40.2.2.1]; decide) ?_)
        rw [h0'.2 f (by omega)]
        exact s_endOf hb hR hS hc' (hch f (by omega)) (inner _ (by rw [if_neg e]))
  exact ⟨_, loop (c + 1) 0 M (by omega) (fun _ _ => rfl) (fun f' h => by omega)⟩
/-- the rows of the fewest, for what is left below L -/
def feP (M : MM) (H : Nat → Nat → Nat) (c L : Nat) : Prop := ∀ L', L' < L → ∀ f, f < c → M 41 (L' * 8 + f) = nI (fqN H c L' f)
theorem s_ticksBy {Q : Int32 → MM → Prop} {M : MM} {H : Nat → Nat → Nat} {c L f t : Nat} (hc : c ≤ 8) (hL : L < 2 ^ c) (hf : f ≤ c) (ht : t < c) (hbit : L / 2 ^ t % 2 = 1) (h1 : hoP M H c (c + 1)) (h2 : feP M H c L) (hq : Q (nI (H f t + fqN H c (L ^^^ 2 ^ t) t)) M) : wX0_ticksBy Q M (nI f) (nI t) (nI L) := by
  have h8 := (p2c c (by omega)).1
  have hx := (ms_lt L (by omega) t (by omega) hbit).1
  unfold wX0_ticksBy
  rw [shl_1 t (by omega), nI_xor, show (8 : Int32) = nI 8 from rfl, pk_mul, pk_mul, nI_add, nI_add]
  refine s_cell (by rw [a40.1]; omega) (by rw [a40.1]; decide) (s_cell (by rw [a40.2.1]; omega) (by rw [a40.2.1]; decide) ?_)
  rw [h1 f (by omega) t ht, h2 _ hx t ht, nI_add]
  exact hq
theorem s_fewestFrom {Q : Int32 → MM → Prop} {M : MM} {H : Nat → Nat → Nat} {c L f : Nat} (hc : c ≤ 8) (hH : okH H c) (hL : L < 2 ^ c) (h0 : L ≠ 0) (hf : f ≤ c) (e4 : M 39 4 = nI c) (h1 : hoP M H c (c + 1)) (h2 : feP M H c L) (hq : Q (nI (fqN H c L f)) M) : wX0_fewestFrom Q M (nI f) (nI L) := by
  have h8 := (p2c c (by omega)).1
  have loop : ∀ r t, t + r = c → wX0_fewestFrom_6 Q (nI f) (nI L) (r + 1) M (nI (mnF (fun t => H f t + fqN H c (L ^^^ 2 ^ t) t) L 1073741824 t)) (nI t) := by
    intro r
    induction r with
    | zero =>
      intro t ht
      have : t = c := by omega
      subst this
      rw [← fqN_eq hc hL h0]
      exact br_t (by rw [e4]; exact nI_le (Nat.le_refl _) (by omega)) hq
    | succ r ih =>
      intro t ht
      refine br_f (fun q => ?_) ?_
      · rw [e4] at q
        have := (nI_leI (by omega) (by omega)).mp q; omega
      rw [bit_iff (by omega) (by omega)]
      unfold wX0_fewestFrom_38
      have g := ih (t + 1) (by omega)
      rw [mnF] at g
      by_cases q : L / 2 ^ t % 2 = 1
      · rw [if_pos q] at g
        refine br_nt q (s_ticksBy hc hL hf (by omega) q h1 h2 ?_)
        rintro _ rfl
        have hx := (ms_lt L (by omega) t (by omega) q).1
        have b1 := fqN_b (H := H) (L := L ^^^ 2 ^ t) (f := t) hc hH (by omega) (by omega)
        have b2 := hH f t hf (by omega)
        have b3 := mn_ls (g := fun t => H f t + fqN H c (L ^^^ 2 ^ t) t) (L := L) (s := 1073741824) t
        rw [min_nI (by omega) (by omega), nI_1]
        exact g
      · rw [if_neg q] at g
        refine br_nf q ?_
        rw [nI_1]; exact g
  exact ⟨_, loop c 0 (by omega)⟩
theorem s_firstOfFewest {Q : Int32 → MM → Prop} {M : MM} {H : Nat → Nat → Nat} {c L f : Nat} (hc : c ≤ 8) (hH : okH H c) (hL : L < 2 ^ c) (h0 : L ≠ 0) (hf : f ≤ c) (e4 : M 39 4 = nI c) (h1 : hoP M H c (c + 1)) (h2 : feP M H c L) (hq : Q (nI (ftN H c L f)) M) : wX0_firstOfFewest Q M (nI f) (nI L) := by
  have h8 := (p2c c (by omega)).1
  obtain ⟨g1, g2, g3, g4⟩ := ft_ok (H := H) hc hH hL h0 hf
  obtain ⟨x1, x2, x3⟩ := fiO_some c _ g1
  unfold wX0_firstOfFewest
  refine s_fewestFrom hc hH hL h0 hf e4 h1 h2 ?_
  have hb := fqN_b (f := f) hc hH hL hf
  have loop : ∀ r t, t + r = ftN H c L f → wX0_firstOfFewest_10 Q (nI f) (nI L) (r + 1) M (nI (fqN H c L f)) (nI t) := by
    intro r
    induction r with
    | zero =>
      intro t ht
      have : t = ftN H c L f := by omega
      subst this
      refine br_f (fun q => ?_) ?_
      · rw [e4] at q
        have := (nI_leI (by omega) (by omega)).mp q; omega
      rw [bit_iff (by omega) (by omega)]
      refine br_nt g3 (s_ticksBy hc hL hf g2 g3 h1 h2 ?_)
      rw [g4]
      exact br_nt rfl hq
    | succ r ih =>
      intro t ht
      refine br_f (fun q => ?_) ?_
      · rw [e4] at q
        have := (nI_leI (by omega) (by omega)).mp q; omega
      rw [bit_iff (by omega) (by omega)]
      have g := ih (t + 1) (by omega)
      have nx := x3 t (by omega)
      unfold wX0_firstOfFewest_44
      by_cases q : L / 2 ^ t % 2 = 1
      · refine br_nt q (s_ticksBy hc hL hf (by omega) q h1 h2 (br_nf ?_ ?_))
        · intro e
          have hx := (ms_lt L (by omega) t (by omega) q).1
          have b1 := fqN_b (H := H) (L := L ^^^ 2 ^ t) (f := t) hc hH (by omega) (by omega)
          have b2 := hH f t hf (by omega)
          have e2 := (nI_eq (by omega) (by omega)).mp e
          exact nx (if_pos ⟨q, e2⟩)
        · rw [nI_1]; exact g
      · refine br_nf q ?_
        rw [nI_1]; exact g
  exact ⟨_, loop (ftN H c L f) 0 (by omega)⟩
/-- what a plan leaves -/
def plnP (M M' : MM) (H : Nat → Nat → Nat) (ch : Nat → Nat) (c : Nat) : Prop := rtP M M' ∧ M' 39 4 = nI c ∧ M' 39 5 = nI (fqN H c (2 ^ c - 1) c) ∧ ∀ i, i < c → M' 43 i = nI (ch (ptN H c (i + 1)).2)
theorem s_follow {Q : MM → Prop} {M : MM} {H : Nat → Nat → Nat} {ch : Nat → Nat} {c : Nat} (hc : c ≤ 8) (hH : okH H c) (h0 : chP M ch c) (h1 : hoP M H c (c + 1)) (h2 : feP M H c (2 ^ c)) (hq : ∀ M', plnP M M' H ch c → Q M') : wX0_followFirst Q M := by
  have h8 := p2c c (by omega)
  have loop : ∀ r i (M' : MM), i + r = c → (∀ a, a ≠ 39 → a ≠ 43 → M' a = M a) → M' 39 4 = nI c → M' 39 5 = nI (fqN H c (2 ^ c - 1) c) → (∀ j, j < i → M' 43 j = nI (ch (ptN H c (j + 1)).2)) → wX0_followFirst_34 Q (r + 1) M' (nI (ptN H c i).1) (nI (ptN H c i).2) (nI i) := by
    intro r
    induction r with
    | zero =>
      intro i M' hi k1 k2 k3 k4
      have : i = c := by omega
      subst this
      exact br_t (by rw [k2]; exact nI_le (Nat.le_refl _) (by omega)) (hq M' ⟨fun a ha => k1 a (by omega) (by omega), k2, k3, k4⟩)
    | succ r ih =>
      intro i M' hi k1 k2 k3 k4
      obtain ⟨p1, p2, p3⟩ := pt_ok (H := H) hc hH i (by omega)
      have pn := pt_ne (H := H) hc hH (show i < c by omega)
      obtain ⟨g1, g2, g3, g4⟩ := ft_ok (H := H) hc hH p1 pn p2
      refine br_f (fun q => ?_) (s_firstOfFewest hc hH p1 pn p2 k2 (fun f' hf' t ht => by rw [k1 40 (by decide) (by decide)]; exact h1 f' hf' t ht) (fun L' hL' f' hf' => by rw [k1 41 (by decide) (by decide)]; exact h2 L' (by omega) f' hf') ?_)
      · rw [k2] at q
        have := (nI_leI (by omega) (by omega)).mp q; omega
      refine s_cell (by rw [a40.2.2.1]; omega) (by rw [a40.2.2.1]; decide) ?_
      rw [k1 42 (by decide) (by decide), h0.2 _ g2]
      refine s_setCell (by rw [a40.2.2.2]; omega) (by rw [a40.2.2.2]; decide) ?_
      rintro _ rfl
      rw [shl_1 _ (by omega), nI_xor, nI_1]
      refine ih (i + 1) _ (by omega) (fun a a1 a2 => by rw [mset_n a2]; exact k1 a a1 a2) (by rw [mset_n (by decide)]; exact k2) (by rw [mset_n (by decide)]; exact k3) (fun j hj => ?_)
      by_cases e : j = i
      · subst e; rw [mset_ss]; rfl
      · rw [mset_sn e]; exact k4 j (by omega)
  have fin : wX0_followFirst_29 Q M (nI (2 ^ c - 1)) (nI c) (nI (fqN H c (2 ^ c - 1) c)) := by
    unfold wX0_followFirst_29
    rintro _ rfl
    exact ⟨_, loop c 0 _ (by omega) (fun a a1 _ => mset_n a1) (by rw [mset_sn (by decide)]; exact h0.1) (by rw [mset_ss]) (fun _ q => by omega)⟩
  unfold wX0_followFirst
  rintro _ rfl
  rw [h0.1, shl_1 c (by omega), nI_sub1 (by omega)]
  by_cases e : c = 0
  · refine br_nt (by rw [e]; rfl) ?_
    have : fqN H c (2 ^ c - 1) c = 0 := by rw [e]; rfl
    rw [this] at fin
    exact fin
  · have hne : 2 ^ c - 1 ≠ 0 := by
      intro q
      have := h8.2.2
      rw [q] at this
      have : poN 0 8 = 0 := by decide
      omega
    refine br_nf (fun q => hne ((nI_eq (b := 0) (by omega) (by omega)).mp q)) ?_
    exact s_fewestFrom hc hH (by omega) hne (Nat.le_refl _) h0.1 h1 (fun L' hL' => h2 L' (by omega)) fin
theorem s_plan {Q : MM → Prop} {M : MM} {s : Nat} {R : Nat → Nat} {σ : SS} (hR : okR R) (hS : okS R σ) (hc : clT M 1 R σ) (hs : s < 2 ^ sN σ) (h8 : poN s 12 ≤ 8) (hq : ∀ M', plnP M M' (hpN R σ (chN s 12) (poN s 12)) (chN s 12) (poN s 12) → Q M') : wX0_plan Q M 1 (nI s) := by
  have h12 := hS.2.1
  have h4 : 2 ^ sN σ ≤ 2 ^ 12 := Nat.pow_le_pow_right (by omega) h12
  have hch : ∀ k, k < poN s 12 → chN s 12 k < sN σ := by
    intro k hk
    have g := ch_stop hs 12 h12
    rw [g.1] at hk
    rw [g.2 k hk]
    exact ch_lt s (sN σ) k hk
  have hH := hp_ok hR hS hch
  have hp := p2c (poN s 12) (by omega)
  unfold wX0_plan
  refine s_choose (by omega) h8 (fun M1 a1 a2 a3 a4 => ?_)
  have c1 : chP M1 (chN s 12) (poN s 12) := ⟨a3, a4⟩
  refine s_hops hR hS (hc.keep (fun i hi => a1 _ (by omega))) h8 hch c1 (fun M2 b1 b2 => ?_)
  have c2 : chP M2 (chN s 12) (poN s 12) := ⟨by rw [b1 39 (by decide)]; exact a3, fun k hk => by rw [b1 42 (by decide)]; exact a4 k hk⟩
  -- the table
  have t30 : ∀ (L : Nat) (K : MM → Int32 → Prop), L < 2 ^ poN s 12 → (∀ M', (∀ a, a ≠ 41 → M' a = M2 a) → feP M' (hpN R σ (chN s 12) (poN s 12)) (poN s 12) (L + 1) → K M' (nI (L + 1))) → ∀ r f (M' : MM), f + r = poN s 12 → (∀ a, a ≠ 41 → M' a = M2 a) → feP M' (hpN R σ (chN s 12) (poN s 12)) (poN s 12) L → (∀ f', f' < f → M' 41 (L * 8 + f') = nI (fqN (hpN R σ (chN s 12) (poN s 12)) (poN s 12) L f')) → wX0_plan_30 Q K 1 (nI s) (r + 1) M' (nI L) (nI f) := by
    intro L K hL hK r
    induction r with
    | zero =>
      intro f M' hf k1 k2 k3
      have : f = poN s 12 := by omega
      subst this
      refine br_t (by rw [k1 39 (by decide), c2.1]; exact nI_le (Nat.le_refl _) (by omega)) ?_
      rw [nI_1]
      refine hK M' k1 (fun L' hL' f' hf' => ?_)
      by_cases e : L' = L
      · subst e; exact k3 f' hf'
      · exact k2 L' (by omega) f' hf'
    | succ r ih =>
      intro f M' hf k1 k2 k3
      refine br_f (fun q => ?_) ?_
      · rw [k1 39 (by decide), c2.1] at q
        have := (nI_leI (by omega) (by omega)).mp q; omega
      have nx : wX0_plan_65 Q K (fun M v3 v4 => wX0_plan_30 Q K 1 (nI s) (r + 1) M v3 v4) 1 (nI s) M' (nI L) (nI f) (nI (fqN (hpN R σ (chN s 12) (poN s 12)) (poN s 12) L f)) ((nI L * (8 : Int32)) + nI f) := by
        unfold wX0_plan_65
        rw [show nI L * (8 : Int32) + nI f = nI (L * 8 + f) by rw [show (8 : Int32) = nI 8 from rfl, pk_mul, nI_add]]
        refine s_setCell (by rw [a40.2.1]; omega) (by rw [a40.2.1]; decide) ?_
        rw [nI_1]
        refine ih (f + 1) _ (by omega) (fun a h => by rw [mset_n h]; exact k1 a h) (fun L' hL' f' hf' => ?_) (fun f' hf' => ?_)
        · rw [mset_sn (by omega)]; exact k2 L' hL' f' hf'
        · by_cases e : f' = f
          · subst e; rw [mset_ss]
          · rw [mset_sn (by omega)]; exact k3 f' (by omega)
      by_cases e : L = 0
      · refine br_nt (by rw [e]; rfl) ?_
        have z : fqN (hpN R σ (chN s 12) (poN s 12)) (poN s 12) L f = 0 := by rw [e]; rfl
        rw [z] at nx
        exact nx
      · refine br_nf (fun q => e ((nI_eq (b := 0) (by omega) (by omega)).mp q)) ?_
        exact s_fewestFrom h8 hH hL e (by omega) (by rw [k1 39 (by decide)]; exact c2.1) (fun f' hf' t ht => by rw [k1 40 (by decide)]; exact b2 f' hf' t ht) k2 nx
  have t17 : ∀ r L (M' : MM), L + r = 2 ^ poN s 12 → (∀ a, a ≠ 41 → M' a = M2 a) → feP M' (hpN R σ (chN s 12) (poN s 12)) (poN s 12) L → wX0_plan_17 Q 1 (nI s) (r + 1) M' (nI L) := by
    intro r
    induction r with
    | zero =>
      intro L M' hL k1 k2
      have : L = 2 ^ poN s 12 := by omega
      subst this
      unfold wX0_plan_17
      rw [show M' 39 4 = nI (poN s 12) by rw [k1 39 (by decide)]; exact c2.1, shl_1 _ (by omega)]
      refine br_t (nI_le (Nat.le_refl _) (by omega)) (s_follow h8 hH ⟨by rw [k1 39 (by decide)]; exact c2.1, fun k hk => by rw [k1 42 (by decide)]; exact c2.2 k hk⟩ (fun f' hf' t ht => by rw [k1 40 (by decide)]; exact b2 f' hf' t ht) k2 (fun M3 hp3 => hq M3 ?_))
      obtain ⟨q1, q2, q3, q4⟩ := hp3
      exact ⟨fun a ha => by rw [q1 a ha, k1 a (by omega), b1 a (by omega), a1 a ha], q2, q3, q4⟩
    | succ r ih =>
      intro L M' hL k1 k2
      unfold wX0_plan_17
      rw [show M' 39 4 = nI (poN s 12) by rw [k1 39 (by decide)]; exact c2.1, shl_1 _ (by omega)]
      refine br_f (fun q => ?_) ⟨poN s 12 + 1, t30 L _ (by omega) (fun M3 d1 d2 => ih (L + 1) M3 (by omega) d1 d2) (poN s 12) 0 M' (by omega) k1 k2 (fun _ q => by omega)⟩
      have := (nI_leI (by omega) (by omega)).mp q; omega
  exact ⟨_, t17 (2 ^ poN s 12) 0 M2 (by omega) (fun _ _ => rfl) (fun L' h => by omega)⟩
