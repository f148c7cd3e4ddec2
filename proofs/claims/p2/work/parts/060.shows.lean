-- ===== shows =====
theorem nI_n4 {n : Nat} (h : n < 2 ^ 31) : ¬ nI n = -4 := fun q => absurd (q ▸ nI_pos' h : (0 : Int32) ≤ -4) (by decide)
theorem min_nI {a b : Nat} (ha : a < 2 ^ 31) (hb : b < 2 ^ 31) : (if nI a < nI b then nI a else nI b) = nI (min a b) := by
  by_cases h : a < b
  · rw [if_pos ((nI_ltI ha hb).mpr h)]; congr 1; omega
  · rw [if_neg (fun q => h ((nI_ltI ha hb).mp q))]; congr 1; omega
def fwN (h t c x : Nat) : Int32 := if x ≤ Sn h t c then -4 else nI (Sn h t c)
def lwN (h t c x : Nat) : Int32 := if x ≤ Sn h t c then -4 else nI (min (x - 1) (Sn h t (c + 1) - 1))
theorem s_firstShowing {Q : Int32 → MM → Prop} {M : MM} {R : Nat → Nat} {σ : SS} {c : Nat} (hR : okR R) (hS : okS R σ) (hc : clT M 1 R σ) (hcc : c < 2 ^ 31) (hq : Q (fwN (R 1) (R 2) c (sL σ + 1)) M) : wX2_firstShowing Q M 1 (nI c) := by
  have hb : tpB 1 := Or.inl rfl
  have hL := hS.1.2
  unfold wX2_firstShowing
  refine s_ruled hb 0 (by omega) rfl ?_
  rw [hc.1.1, nI_leI (by omega) (by omega)]
  have ge := Sn_ge (h := R 1) (t := R 2) c
  have h5 := hR.1.1
  have ge2 : c * 5 ≤ c * R 1 := Nat.mul_le_mul_left _ h5
  unfold fwN at hq
  by_cases g : c ≤ sL σ
  · refine br_t g (s_ruled hb 1 (by omega) rfl (s_ruled hb 2 (by omega) rfl ?_))
    rw [hc.1.2 1 (by omega) (by omega), hc.1.2 2 (by omega) (by omega)]
    have hs := Sn_le hR.1.2.1 hR.1.2.2.2 (show c ≤ 10000 by omega)
    refine s_lengthOfTurns (by omega) (s_hasPlace hb hc.1.1 ?_)
    by_cases p : Sn (R 1) (R 2) c ≤ sL σ
    · rw [if_neg (by omega)] at hq
      exact zt2 (pl_in p (by omega)) hq
    · rw [if_pos (by omega)] at hq
      exact zf2 (fun q => p ((nI_leI (by omega) (by omega)).mp q.2)) hq
  · rw [if_pos (by omega)] at hq
    exact br_f g hq
theorem s_lastShowing {Q : Int32 → MM → Prop} {M : MM} {R : Nat → Nat} {σ : SS} {c : Nat} (hR : okR R) (hS : okS R σ) (hc : clT M 1 R σ) (hcc : c < 2 ^ 31) (hq : Q (lwN (R 1) (R 2) c (sL σ + 1)) M) : wX2_lastShowing Q M 1 (nI c) := by
  have hb : tpB 1 := Or.inl rfl
  have hL := hS.1.2
  unfold wX2_lastShowing
  refine s_firstShowing hR hS hc hcc ?_
  have ge := Sn_ge (h := R 1) (t := R 2) c
  have h5 := hR.1.1
  have ge2 : c * 5 ≤ c * R 1 := Nat.mul_le_mul_left _ h5
  unfold lwN at hq
  unfold fwN
  by_cases p : sL σ + 1 ≤ Sn (R 1) (R 2) c
  · rw [if_pos p] at hq ⊢
    exact br_nt rfl hq
  · rw [if_neg p] at hq ⊢
    refine br_nf (nI_n4 (by omega)) (s_ruled hb 0 (by omega) rfl (s_ruled hb 1 (by omega) rfl (s_ruled hb 2 (by omega) rfl ?_)))
    rw [hc.1.1, hc.1.2 1 (by omega) (by omega), hc.1.2 2 (by omega) (by omega), nI_1]
    have hs := Sn_le hR.1.2.1 hR.1.2.2.2 (show c + 1 ≤ 10000 by omega)
    have hlt := Sn_lt (h := R 1) (t := R 2) (a := c) (b := c + 1) (by omega) (by omega)
    refine s_lengthOfTurns (by omega) ?_
    rw [nI_sub1 (by omega), min_nI (by omega) (by omega)]
    have e : min (Sn (R 1) (R 2) (c + 1) - 1) (sL σ) = min (sL σ + 1 - 1) (Sn (R 1) (R 2) (c + 1) - 1) := by omega
    rw [e]; exact hq
theorem m_shows {Q : Int32 → MM → Prop} {M : MM} {w : Int32} {R : Nat → Nat} {σ : SS} {c : Nat} (hR : okR R) (hS : okS R σ) (hr : rlT M R) (hm : mdT M 0 σ) (hcc : c < 2 ^ 31) (hq : Q (if w = 0 then fwN (R 1) (R 2) c (sL σ + 1) else lwN (R 1) (R 2) c (sL σ + 1)) M) : ∀ k x, x + k = sL σ + 1 → wX5_shows_26 Q (nI c) w (k + 1) M (fwN (R 1) (R 2) c x) (lwN (R 1) (R 2) c x) (nI x) := by
  have hL := hS.1.2
  have hlt := Sn_lt (h := R 1) (t := R 2) (a := c) (b := c + 1) (by have := hR.1.1; omega) (by omega)
  intro k
  induction k with
  | zero =>
    intro x hx
    have : x = sL σ + 1 := by omega
    subst this
    refine br_t ?_ ?_
    · rw [show M 53 366 = nI (sL σ) from hm.1]; exact nI_lt (by omega) (by omega)
    by_cases hw : w = 0
    · rw [if_pos hw] at hq; exact br_nt hw hq
    · rw [if_neg hw] at hq; exact br_nf hw hq
  | succ k ih =>
    intro x hx
    refine br_f (fun q => ?_) (m_turnsAt hR hr (by omega) ?_)
    · rw [show M 53 366 = nI (sL σ) from hm.1] at q
      have := (nI_ltI (by omega) (by omega)).mp q; omega
    have ht := Tn_lt (a := x) hR.1 (by omega)
    have hi := Tn_iff (a := x) (n := c) hR.1 (by omega)
    rw [nI_eq (by omega) hcc]
    have g := ih (x + 1) (by omega)
    unfold fwN lwN at g ⊢
    by_cases d : Tn (R 1) (R 2) x = c
    · have d2 := hi.mp d
      rw [if_neg (show ¬ x + 1 ≤ Sn (R 1) (R 2) c by omega), if_neg (show ¬ x + 1 ≤ Sn (R 1) (R 2) c by omega)] at g
      have e2 : min (x + 1 - 1) (Sn (R 1) (R 2) (c + 1) - 1) = x := by omega
      rw [e2] at g
      refine br_nt d ?_
      by_cases f : x ≤ Sn (R 1) (R 2) c
      · rw [if_pos f]
        have : x = Sn (R 1) (R 2) c := by omega
        rw [← this] at g
        refine br_nt rfl ?_
        unfold wX5_shows_61 wX5_shows_66
        rw [nI_1]; exact g
      · rw [if_neg f]
        refine br_nf (nI_n4 (by omega)) ?_
        unfold wX5_shows_61 wX5_shows_66
        rw [nI_1]; exact g
    · refine br_nf d ?_
      unfold wX5_shows_66
      rw [nI_1]
      have d2 : ¬ (Sn (R 1) (R 2) c ≤ x ∧ x < Sn (R 1) (R 2) (c + 1)) := fun q => d (hi.mpr q)
      by_cases f : x + 1 ≤ Sn (R 1) (R 2) c
      · rw [if_pos f, if_pos f] at g
        rw [if_pos (by omega), if_pos (by omega)]; exact g
      · rw [if_neg f, if_neg f] at g
        rw [if_neg (by omega), if_neg (by omega)]
        have e2 : min (x + 1 - 1) (Sn (R 1) (R 2) (c + 1) - 1) = min (x - 1) (Sn (R 1) (R 2) (c + 1) - 1) := by omega
        rw [e2] at g; exact g
theorem L_shows {M : MM} (h : Rel M) (c w : Int32) : wX4_shows (fun r M1 => wX5_shows (PQ r) M1 c w) M c w := by
  obtain ⟨R, σ, hR, hS, hc, hm, hr, him, hsh, htx⟩ := id h
  unfold wX4_shows
  by_cases h0 : c < 0
  · refine br_t h0 ?_
    unfold wX5_shows
    exact br_t h0 ⟨rfl, h⟩
  · refine br_f h0 (s_isBetween.mpr ?_)
    obtain ⟨c', hcc, rfl⟩ := nI_of h0
    by_cases hw : (0 : Int32) ≤ w ∧ w ≤ 1
    · refine zt1 hw ?_
      have md : ∀ r, r = (if w = 0 then fwN (R 1) (R 2) c' (sL σ + 1) else lwN (R 1) (R 2) c' (sL σ + 1)) → wX5_shows (PQ r) M (nI c') w := by
        intro r hr2
        unfold wX5_shows
        refine br_f h0 (m_in32 0 1 rfl rfl (zt1 hw ⟨sL σ + 1 + 1, ?_⟩))
        have g := m_shows (Q := PQ r) (w := w) hR hS hr hm hcc ⟨hr2, h⟩ (sL σ + 1) 0 (by omega)
        unfold fwN lwN at g
        rw [if_pos (Nat.zero_le _), if_pos (Nat.zero_le _)] at g
        exact g
      by_cases hw0 : w = 0
      · exact br_nt hw0 (s_firstShowing hR hS hc hcc (md _ (by rw [if_pos hw0])))
      · exact br_nf hw0 (s_lastShowing hR hS hc hcc (md _ (by rw [if_neg hw0])))
    · refine zf1 hw ?_
      unfold wX5_shows
      exact br_f h0 (m_in32 0 1 rfl rfl (zf1 hw ⟨rfl, h⟩))
-- ===== blockAt =====
abbrev wiN (R : Nat → Nat) (σ : SS) (x j : Nat) : Prop := sB σ j ≤ x ∧ x < sB σ j + lgN R (sZ σ j)
def fbN (R : Nat → Nat) (σ : SS) (x : Nat) : Nat → Int32
  | 0 => -4
  | k + 1 => if wiN R σ x k then nI k else fbN R σ x k
theorem fbN_of {R : Nat → Nat} {σ : SS} (hS : okS R σ) {x j : Nat} (hw : wiN R σ x j) : ∀ k, j < k → k ≤ sN σ → fbN R σ x k = nI j := by
  intro k
  induction k with
  | zero => intro h; omega
  | succ k ih =>
    intro h1 h2
    rw [fbN]
    by_cases e : j = k
    · subst e; rw [if_pos hw]
    · have hd := hS.2.2.2.2.1 j k (by omega) (by omega)
      rw [if_neg (fun q => by have := q.1; have := hw.2; omega)]
      exact ih (by omega) (by omega)
theorem wi_iff {R : Nat → Nat} {σ : SS} (hR : okR R) (hS : okS R σ) {x j : Nat} (hx : x ≤ 9999) (hj : j < sN σ) : (nI (sB σ j) ≤ nI x ∧ nI x ≤ nI (sB σ j + lgN R (sZ σ j)) - 1) ↔ wiN R σ x j := by
  have h1 := hS.2.2.2.1 j hj
  have h2 := lgN_le hR (n := sZ σ j) (by omega)
  have hL := hS.1.2
  rw [nI_sub1 (by omega), nI_leI (by omega) (by omega), nI_leI (by omega) (by omega)]
  unfold wiN; omega
theorem s_blockWith {Q : Int32 → MM → Prop} {M : MM} {R : Nat → Nat} {σ : SS} {x : Nat} (hR : okR R) (hS : okS R σ) (hc : clT M 1 R σ) (hx : x ≤ 9999) (hq : Q (fbN R σ x (sN σ)) M) : ∀ k i, i + k = sN σ → fbN R σ x i = -4 → wX2_blockWith_2 Q 1 (nI x) (k + 1) M (nI i) := by
  have hb : tpB 1 := Or.inl rfl
  have h12 := hS.2.1
  intro k
  induction k with
  | zero =>
    intro i hi h4
    have : i = sN σ := by omega
    subst this
    rw [h4] at hq
    exact br_t (by rw [hc.2.1]; exact nI_le (Nat.le_refl _) (by omega)) hq
  | succ k ih =>
    intro i hi h4
    refine br_f (fun q => ?_) (s_beginOf hb hc h12 (by omega) (s_endOf hb hR hS hc (by omega) (s_isBetween.mpr ?_)))
    · rw [hc.2.1] at q
      have := (nI_leI (by omega) (by omega)).mp q; omega
    rw [bI_cg (wi_iff hR hS hx (show i < sN σ by omega))]
    by_cases d : wiN R σ x i
    · refine zt2 d ?_
      rw [fbN_of hS d (sN σ) (by omega) (Nat.le_refl _)] at hq
      exact hq
    · refine zf2 d ?_
      rw [nI_1]
      exact ih (i + 1) (by omega) (by rw [fbN, if_neg d]; exact h4)
theorem m_blockAt {Q : Int32 → MM → Prop} {M : MM} {R : Nat → Nat} {σ : SS} {x : Nat} (hR : okR R) (hS : okS R σ) (hr : rlT M R) (hm : mdT M 0 σ) (hx : x ≤ 9999) (hq : Q (fbN R σ x (sN σ)) M) : ∀ k i, i + k = sN σ → wX5_blockAt_15 Q (nI x) (k + 1) M (fbN R σ x i) (nI i) := by
  have h12 := hS.2.1
  intro k
  induction k with
  | zero =>
    intro i hi
    have : i = sN σ := by omega
    subst this
    exact br_t (by rw [hm.2.1]; exact nI_le (Nat.le_refl _) (by omega)) hq
  | succ k ih =>
    intro i hi
    have hi2 : i < sN σ := by omega
    refine br_f (fun q => ?_) ?_
    · rw [hm.2.1] at q
      have := (nI_leI (by omega) (by omega)).mp q; omega
    rw [n1, nI_add, clamp_nI (by omega), mB hm hi2]
    refine ⟨v53 (by omega), m_endOf hR hS hr hm hi2 (m_in32 (nI (sB σ i)) (nI (sB σ i + lgN R (sZ σ i)) - 1) rfl rfl ?_)⟩
    rw [bI_cg (wi_iff hR hS hx hi2)]
    have g := ih (i + 1) (by omega)
    rw [fbN] at g
    unfold wX5_blockAt_55
    by_cases d : wiN R σ x i
    · rw [if_pos d] at g
      refine zt2 d ?_
      show wX5_blockAt_15 Q (nI x) (k + 1) M (nI i) (nI i + 1)
      rw [nI_1]; exact g
    · rw [if_neg d] at g
      refine zf2 d ?_
      show wX5_blockAt_15 Q (nI x) (k + 1) M (fbN R σ x i) (nI i + 1)
      rw [nI_1]; exact g
theorem L_blockAt {M : MM} (h : Rel M) (x : Int32) : wX4_blockAt (fun r M1 => wX5_blockAt (PQ r) M1 x) M x := by
  obtain ⟨R, σ, hR, hS, hc, hm, hr, him, hsh, htx⟩ := id h
  have hL := hS.1.2
  unfold wX4_blockAt
  refine s_hasPlace (Or.inl rfl) hc.1.1 ?_
  by_cases hp : (0 : Int32) ≤ x ∧ x ≤ nI (sL σ)
  · obtain ⟨j, hj, rfl⟩ := pl_of (by omega) hp
    refine zt2 hp ?_
    unfold wX2_blockWith
    refine ⟨sN σ + 1, s_blockWith hR hS hc (by omega) ?_ (sN σ) 0 (by omega) rfl⟩
    unfold wX5_blockAt
    exact m_isPlace hm.1 (zt1 hp ⟨sN σ + 1, m_blockAt (Q := PQ _) hR hS hr hm (by omega) ⟨rfl, h⟩ (sN σ) 0 (by omega)⟩)
  · refine zf2 hp ?_
    unfold wX5_blockAt
    exact m_isPlace hm.1 (zf1 hp ⟨rfl, h⟩)
