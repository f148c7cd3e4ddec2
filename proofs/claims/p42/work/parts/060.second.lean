-- ===== shows =====
theorem nI_n4 {n : Nat} (h : n < 2 ^ 31) : ¬ nI n = -4 := fun q => absurd (q ▸ nI_pos' h : (0 : Int32) ≤ -4) (by decide)
theorem min_nI {a b : Nat} (ha : a < 2 ^ 31) (hb : b < 2 ^ 31) : (if nI a < nI b then nI a else nI b) = nI (min a b) := by
  by_cases h : a < b
  · rw [if_pos ((nI_ltI ha hb).mpr h)]; congr 1; omega
  · rw [if_neg (fun q => h ((nI_ltI ha hb).mp q))]; congr 1; omega
def fwN (h t c x : Nat) : Int32 := if x ≤ Sn h t c then -4 else nI (Sn h t c)
def lwN (h t c x : Nat) : Int32 := if x ≤ Sn h t c then -4 else nI (min (x - 1) (Sn h t (c + 1) - 1))
theorem s_firstShowing {Q : Int32 → MM → Prop} {M : MM} {R : Nat → Nat} {σ : SS} {c : Nat} (hR : okR R) (hS : okS R σ) (hc : clT M 1 R σ) (hcc : c < 2 ^ 31) (hq : Q (fwN (R 1) (R 2) c (sL σ + 1)) M) : wX2_firstShowing Q M 1 (nI c) := by
  have hb : tpB 1 := Or.inl rfl
  have hL := hS.1.2
  unfold wX2_firstShowing
  refine s_ruled hb 0 (by omega) rfl ?_
  rw [hc.1.1, nI_leI (by omega) (by omega)]
  have ge := Sn_ge (h := R 1) (t := R 2) c
  have h5 := hR.1.1
  have ge2 : c * 5 ≤ c * R 1 := Nat.mul_le_mul_left _ h5
  unfold fwN at hq
  by_cases g : c ≤ sL σ
  · refine br_t g (s_ruled hb 1 (by omega) rfl (s_ruled hb 2 (by omega) rfl ?_))
    rw [hc.1.2 1 (by omega) (by omega), hc.1.2 2 (by omega) (by omega)]
    have hs := Sn_le hR.1.2.1 hR.1.2.2.2 (show c ≤ 10000 by omega)
    refine s_lengthOfTurns (by omega) (s_hasPlace hb hc.1.1 ?_)
    by_cases p : Sn (R 1) (R 2) c ≤ sL σ
    · rw [if_neg (by omega)] at hq
      exact zt2 (pl_in p (by omega)) hq
    · rw [if_pos (by omega)] at hq
      exact zf2 (fun q => p ((nI_leI (by omega) (by omega)).mp q.2)) hq
  · rw [if_pos (by omega)] at hq
    exact br_f g hq
theorem s_lastShowing {Q : Int32 → MM → Prop} {M : MM} {R : Nat → Nat} {σ : SS} {c : Nat} (hR : okR R) (hS : okS R σ) (hc : clT M 1 R σ) (hcc : c < 2 ^ 31) (hq : Q (lwN (R 1) (R 2) c (sL σ + 1)) M) : wX2_lastShowing Q M 1 (nI c) := by
  have hb : tpB 1 := Or.inl rfl
  have hL := hS.1.2
  unfold wX2_lastShowing
  refine s_firstShowing hR hS hc hcc ?_
  have ge := Sn_ge (h := R 1) (t := R 2) c
  have h5 := hR.1.1
  have ge2 : c * 5 ≤ c * R 1 := Nat.mul_le_mul_left _ h5
  unfold lwN at hq
  unfold fwN
  by_cases p : sL σ + 1 ≤ Sn (R 1) (R 2) c
  · rw [if_pos p] at hq ⊢
    exact br_nt rfl hq
  · rw [if_neg p] at hq ⊢
    refine br_nf (nI_n4 (by omega)) (s_ruled hb 0 (by omega) rfl (s_ruled hb 1 (by omega) rfl (s_ruled hb 2 (by omega) rfl ?_)))
    rw [hc.1.1, hc.1.2 1 (by omega) (by omega), hc.1.2 2 (by omega) (by omega), nI_1]
    have hs := Sn_le hR.1.2.1 hR.1.2.2.2 (show c + 1 ≤ 10000 by omega)
    have hlt := Sn_lt (h := R 1) (t := R 2) (a := c) (b := c + 1) (by omega) (by omega)
    refine s_lengthOfTurns (by omega) ?_
    rw [nI_sub1 (by omega), min_nI (by omega) (by omega)]
    have e : min (Sn (R 1) (R 2) (c + 1) - 1) (sL σ) = min (sL σ + 1 - 1) (Sn (R 1) (R 2) (c + 1) - 1) := by omega
    rw [e]; exact hq
theorem m_shows {Q : Int32 → MM → Prop} {M : MM} {w : Int32} {R : Nat → Nat} {σ : SS} {c : Nat} (hR : okR R) (hS : okS R σ) (hr : rlT M R) (hm : mdT M 0 σ) (hcc : c < 2 ^ 31) (hq : Q (if w = 0 then fwN (R 1) (R 2) c (sL σ + 1) else lwN (R 1) (R 2) c (sL σ + 1)) M) : ∀ k x, x + k = sL σ + 1 → wX5_shows_26 Q (nI c) w (k + 1) M (fwN (R 1) (R 2) c x) (lwN (R 1) (R 2) c x) (nI x) := by
  have hL := hS.1.2
  have hlt := Sn_lt (h := R 1) (t := R 2) (a := c) (b := c + 1) (by have := hR.1.1; omega) (by omega)
  intro k
  induction k with
  | zero =>
    intro x hx
    have : x = sL σ + 1 := by omega
    subst this
    refine br_t ?_ ?_
    · rw [show M 53 366 = nI (sL σ) from hm.1]; exact nI_lt (by omega) (by omega)
    by_cases hw : w = 0
    · rw [if_pos hw] at hq; exact br_nt hw hq
    · rw [if_neg hw] at hq; exact br_nf hw hq
  | succ k ih =>
    intro x hx
    refine br_f (fun q => ?_) (m_turnsAt hR hr (by omega) ?_)
    · rw [show M 53 366 = nI (sL σ) from hm.1] at q
      have := (nI_ltI (by omega) (by omega)).mp q; omega
    have ht := Tn_lt (a := x) hR.1 (by omega)
    have hi := Tn_iff (a := x) (n := c) hR.1 (by omega)
    rw [nI_eq (by omega) hcc]
    have g := ih (x + 1) (by omega)
    unfold fwN lwN at g ⊢
    by_cases d : Tn (R 1) (R 2) x = c
    · have d2 := hi.mp d
      rw [if_neg (show ¬ x + 1 ≤ Sn (R 1) (R 2) c by omega), if_neg (show ¬ x + 1 ≤ Sn (R 1) (R 2) c by omega)] at g
      have e2 : min (x + 1 - 1) (Sn (R 1) (R 2) (c + 1) - 1) = x := by omega
      rw [e2] at g
      refine br_nt d ?_
      by_cases f : x ≤ Sn (R 1) (R 2) c
      · rw [if_pos f]
        have : x = Sn (R 1) (R 2) c := by omega
        rw [← this] at g
        refine br_nt rfl ?_
        unfold wX5_shows_61 wX5_shows_66
        rw [nI_1]; exact g
      · rw [if_neg f]
        refine br_nf (nI_n4 (by omega)) ?_
        unfold wX5_shows_61 wX5_shows_66
        rw [nI_1]; exact g
    · refine br_nf d ?_
      unfold wX5_shows_66
      rw [nI_1]
      have d2 : ¬ (Sn (R 1) (R 2) c ≤ x ∧ x < Sn (R 1) (R 2) (c + 1)) := fun q => d (hi.mpr q)
      by_cases f : x + 1 ≤ Sn (R 1) (R 2) c
      · rw [if_pos f, if_pos f] at g
        rw [if_pos (by omega), if_pos (by omega)]; exact g
      · rw [if_neg f, if_neg f] at g
        rw [if_neg (by omega), if_neg (by omega)]
        have e2 : min (x + 1 - 1) (Sn (R 1) (R 2) (c + 1) - 1) = min (x - 1) (Sn (R 1) (R 2) (c + 1) - 1) := by omega
        rw [e2] at g; exact g
theorem L_shows {M : MM} (h : Rel M) (c w : Int32) : wX4_shows (fun r M1 => wX5_shows (PQ r) M1 c w) M c w := by
  obtain ⟨R, σ, hR, hS, hc, hm, hr, him, hsh, htx⟩ := id h
  unfold wX4_shows
  by_cases h0 : c < 0
  · refine br_t h0 ?_
    unfold wX5_shows
    exact br_t h0 ⟨rfl, h⟩
  · refine br_f h0 (s_isBetween.mpr ?_)
    obtain ⟨c', hcc, rfl⟩ := nI_of h0
    by_cases hw : (0 : Int32) ≤ w ∧ w ≤ 1
    · refine zt1 hw ?_
      have md : ∀ r, r = (if w = 0 then fwN (R 1) (R 2) c' (sL σ + 1) else lwN (R 1) (R 2) c' (sL σ + 1)) → wX5_shows (PQ r) M (nI c') w := by
        intro r hr2
        unfold wX5_shows
        refine br_f h0 (m_in32 0 1 rfl rfl (zt1 hw ⟨sL σ + 1 + 1, ?_⟩))
        have g := m_shows (Q := PQ r) (w := w) hR hS hr hm hcc ⟨hr2, h⟩ (sL σ + 1) 0 (by omega)
        unfold fwN lwN at g
        rw [if_pos (Nat.zero_le _), if_pos (Nat.zero_le _)] at g
        exact g
      by_cases hw0 : w = 0
      · exact br_nt hw0 (s_firstShowing hR hS hc hcc (md _ (by rw [if_pos hw0])))
      · exact br_nf hw0 (s_lastShowing hR hS hc hcc (md _ (by rw [if_neg hw0])))
    · refine zf1 hw ?_
      unfold wX5_shows
      exact br_f h0 (m_in32 0 1 rfl rfl (zf1 hw ⟨rfl, h⟩))
-- ===== blockAt =====
abbrev wiN (R : Nat → Nat) (σ : SS) (x j : Nat) : Prop := sB σ j ≤ x ∧ x < sB σ j + lgN R (sZ σ j)
def fbN (R : Nat → Nat) (σ : SS) (x : Nat) : Nat → Int32
  | 0 => -4
  | k + 1 => if wiN R σ x k then nI k else fbN R σ x k
theorem fbN_of {R : Nat → Nat} {σ : SS} (hS : okS R σ) {x j : Nat} (hw : wiN R σ x j) : ∀ k, j < k → k ≤ sN σ → fbN R σ x k = nI j := by
  intro k
  induction k with
  | zero => intro h; omega
  | succ k ih =>
    intro h1 h2
    rw [fbN]
    by_cases e : j = k
    · subst e; rw [if_pos hw]
    · have hd := hS.2.2.2.2.1 j k (by omega) (by omega)
      rw [if_neg (fun q => by have := q.1; have := hw.2; omega)]
      exact ih (by omega) (by omega)
theorem wi_iff {R : Nat → Nat} {σ : SS} (hR : okR R) (hS : okS R σ) {x j : Nat} (hx : x ≤ 9999) (hj : j < sN σ) : (nI (sB σ j) ≤ nI x ∧ nI x ≤ nI (sB σ j + lgN R (sZ σ j)) - 1) ↔ wiN R σ x j := by
  have h1 := hS.2.2.2.1 j hj
  have h2 := lgN_le hR (n := sZ σ j) (by omega)
  have hL := hS.1.2
  rw [nI_sub1 (by omega), nI_leI (by omega) (by omega), nI_leI (by omega) (by omega)]
  unfold wiN; omega
theorem s_blockWith {Q : Int32 → MM → Prop} {M : MM} {R : Nat → Nat} {σ : SS} {x : Nat} (hR : okR R) (hS : okS R σ) (hc : clT M 1 R σ) (hx : x ≤ 9999) (hq : Q (fbN R σ x (sN σ)) M) : ∀ k i, i + k = sN σ → fbN R σ x i = -4 → wX2_blockWith_2 Q 1 (nI x) (k + 1) M (nI i) := by
  have hb : tpB 1 := Or.inl rfl
  have h12 := hS.2.1
  intro k
  induction k with
  | zero =>
    intro i hi h4
    have : i = sN σ := by omega
    subst this
    rw [h4] at hq
    exact br_t (by rw [hc.2.1]; exact nI_le (Nat.le_refl _) (by omega)) hq
  | succ k ih =>
    intro i hi h4
    refine br_f (fun q => ?_) (s_beginOf hb hc h12 (by omega) (s_endOf hb hR hS hc (by omega) (s_isBetween.mpr ?_)))
    · rw [hc.2.1] at q
      have := (nI_leI (by omega) (by omega)).mp q; omega
    rw [bI_cg (wi_iff hR hS hx (show i < sN σ by omega))]
    by_cases d : wiN R σ x i
    · refine zt2 d ?_
      rw [fbN_of hS d (sN σ) (by omega) (Nat.le_refl _)] at hq
      exact hq
    · refine zf2 d ?_
      rw [nI_1]
      exact ih (i + 1) (by omega) (by rw [fbN, if_neg d]; exact h4)
theorem m_blockAt {Q : Int32 → MM → Prop} {M : MM} {R : Nat → Nat} {σ : SS} {x : Nat} (hR : okR R) (hS : okS R σ) (hr : rlT M R) (hm : mdT M 0 σ) (hx : x ≤ 9999) (hq : Q (fbN R σ x (sN σ)) M) : ∀ k i, i + k = sN σ → wX5_blockAt_15 Q (nI x) (k + 1) M (fbN R σ x i) (nI i) := by
  have h12 := hS.2.1
  intro k
  induction k with
  | zero =>
    intro i hi
    have : i = sN σ := by omega
    subst this
    exact br_t (by rw [hm.2.1]; exact nI_le (Nat.le_refl _) (by omega)) hq
  | succ k ih =>
    intro i hi
    have hi2 : i < sN σ := by omega
    refine br_f (fun q => ?_) ?_
    · rw [hm.2.1] at q
      have := (nI_leI (by omega) (by omega)).mp q; omega
    rw [n1, nI_add, clamp_nI (by omega), mB hm hi2]
    refine ⟨v53 (by omega), m_endOf hR hS hr hm hi2 (m_in32 (nI (sB σ i)) (nI (sB σ i + lgN R (sZ σ i)) - 1) rfl rfl ?_)⟩
    rw [bI_cg (wi_iff hR hS hx hi2)]
    have g := ih (i + 1) (by omega)
    rw [fbN] at g
    unfold wX5_blockAt_55
    by_cases d : wiN R σ x i
    · rw [if_pos d] at g
      refine zt2 d ?_
      show wX5_blockAt_15 Q (nI x) (k + 1) M (nI i) (nI i + 1)
      rw [nI_1]; exact g
    · rw [if_neg d] at g
      refine zf2 d ?_
      show wX5_blockAt_15 Q (nI x) (k + 1) M (fbN R σ x i) (nI i + 1)
      rw [nI_1]; exact g
theorem L_blockAt {M : MM} (h : Rel M) (x : Int32) : wX4_blockAt (fun r M1 => wX5_blockAt (PQ r) M1 x) M x := by
  obtain ⟨R, σ, hR, hS, hc, hm, hr, him, hsh, htx⟩ := id h
  have hL := hS.1.2
  unfold wX4_blockAt
  refine s_hasPlace (Or.inl rfl) hc.1.1 ?_
  by_cases hp : (0 : Int32) ≤ x ∧ x ≤ nI (sL σ)
  · obtain ⟨j, hj, rfl⟩ := pl_of (by omega) hp
    refine zt2 hp ?_
    unfold wX2_blockWith
    refine ⟨sN σ + 1, s_blockWith hR hS hc (by omega) ?_ (sN σ) 0 (by omega) rfl⟩
    unfold wX5_blockAt
    exact m_isPlace hm.1 (zt1 hp ⟨sN σ + 1, m_blockAt (Q := PQ _) hR hS hr hm (by omega) ⟨rfl, h⟩ (sN σ) 0 (by omega)⟩)
  · refine zf2 hp ?_
    unfold wX5_blockAt
    exact m_isPlace hm.1 (zf1 hp ⟨rfl, h⟩)
-- ===== what is typed =====
theorem clT.typed {M M1 : MM} {b : Nat} {R : Nat → Nat} {σ : SS} (h : clT M b R σ) (y : Nat) (t : Nat → Nat) (e : ∀ k, 1 ≤ k → k < 9 → k ≠ 6 → M1 (b + k) = M (b + k)) (f : ∀ j, j ≠ 11 → M1 b j = M b j) (f11 : M1 b 11 = nI y) (g : ∀ i, i < y → M1 (b + 6) i = nI (t i)) : clT M1 b R (uY σ y t) := by
  obtain ⟨h1, h2, h3, h4, h5, h6, h7, h8, h9, h10, h11, h12, h13⟩ := h
  unfold clT
  rw [e 1 (by omega) (by omega) (by omega), e 2 (by omega) (by omega) (by omega), e 3 (by omega) (by omega) (by omega), e 4 (by omega) (by omega) (by omega), e 5 (by omega) (by omega) (by omega), e 7 (by omega) (by omega) (by omega), e 8 (by omega) (by omega) (by omega), f 8 (by omega), f 9 (by omega), f 13 (by omega), f 10 (by omega), f 12 (by omega), f11]
  exact ⟨h1, h2, h3, h4, h5, h6, h7, rfl, g, h10, h11, h12, h13⟩
theorem mdT.typed {M M1 : MM} {σ : SS} (h : mdT M 0 σ) (hS : sN σ ≤ 12 ∧ sY σ ≤ 12 ∧ sW σ ≤ 12) (hZ : ∀ j, j < sN σ → sZ σ j ≤ 12) (y : Nat) (t : Nat → Nat) (e : ∀ j, (j < 327 ∨ 340 ≤ j) → M1 53 j = M 53 j) (f : M1 53 327 = nI y) (g : ∀ i, i < y → M1 53 (328 + i) = nI (t i)) : mdT M1 0 (uY σ y t) := by
  obtain ⟨h1, h2, h3, h4, h5, h6, h7, h8, h9, h10, h11, h12, h13⟩ := h
  refine ⟨?_, ?_, ?_, fun j hj => ?_, fun j hj => ?_, fun j hj i hi => ?_, fun j hj i hi => ?_, f, fun i hi => ?_, ?_, fun i hi => ?_, ?_, ?_⟩
  · rw [e _ (by omega)]; exact h1
  · rw [e _ (by omega)]; exact h2
  · rw [e _ (by omega)]; exact h3
  · have : j < sN σ := hj
    rw [e _ (by omega)]; exact h4 j hj
  · have : j < sN σ := hj
    rw [e _ (by omega)]; exact h5 j hj
  · have := hZ j hj
    have hj' : j < sN σ := hj
    have hi' : i ≤ sZ σ j := hi
    rw [e _ (by omega)]; exact h6 j hj i hi
  · have := hZ j hj
    have hj' : j < sN σ := hj
    have hi' : i < sZ σ j := hi
    rw [e _ (by omega)]; exact h7 j hj i hi
  · rw [Nat.zero_add]; exact g i hi
  · rw [e _ (by omega)]; exact h10
  · have hi' : i < sW σ := hi
    rw [e _ (by omega), e _ (by omega)]; exact h11 i hi
  · rw [e _ (by omega)]; exact h12
  · rw [e _ (by omega)]; exact h13
theorem okS.uY {R : Nat → Nat} {σ : SS} (h : okS R σ) {y : Nat} {t : Nat → Nat} (hy : y ≤ 12) (g : ∀ i, i < y → t i < 256) : okS R (uY σ y t) := by
  obtain ⟨h1, h2, h3, h4, h5, h6, h7, -, -, h10, h11, h12⟩ := h
  exact ⟨h1, h2, h3, h4, h5, h6, h7, hy, g, h10, h11, h12⟩
def tyN (σ : SS) (a : Nat) : SS := uY σ (sY σ + 1) (fun i => if i = sY σ then a else sT σ i)
def ctM (M : MM) (b y a : Nat) : MM := mset (mset M (b + 6) y (nI a)) b 11 (nI (y + 1))
def mtM (M : MM) (y a : Nat) : MM := mset (mset M 53 (328 + y) (nI a)) 53 327 (nI (y + 1))
theorem okS.ty {R : Nat → Nat} {σ : SS} (h : okS R σ) {a : Nat} (ha : a < 256) (hy : sY σ < 12) : okS R (tyN σ a) := by
  refine h.uY (by omega) (fun i hi => ?_)
  by_cases q : i = sY σ
  · rw [if_pos q]; exact ha
  · rw [if_neg q]; exact h.2.2.2.2.2.2.2.2.1 i (by omega)
theorem clT.ty {M : MM} {b : Nat} {R : Nat → Nat} {σ : SS} (h : clT M b R σ) {a : Nat} : clT (ctM M b (sY σ) a) b R (tyN σ a) := by
  unfold ctM
  refine h.typed _ _ (fun k h1 h2 h3 => ?_) (fun j hj => ?_) ?_ (fun i hi => ?_)
  · rw [mset_n (by omega), mset_n (by omega)]
  · rw [mset_sn hj, mset_n (by omega)]
  · rw [mset_ss]
  · rw [mset_n (by omega)]
    by_cases q : i = sY σ
    · subst q; rw [mset_ss, if_pos rfl]
    · rw [mset_sn q, if_neg q]
      exact h.2.2.2.2.2.2.2.2.1 i (by omega)
theorem mdT.ty {M : MM} {R : Nat → Nat} {σ : SS} (h : mdT M 0 σ) (hS : okS R σ) (hy : sY σ < 12) {a : Nat} : mdT (mtM M (sY σ) a) 0 (tyN σ a) := by
  unfold mtM
  refine h.typed hS.n3 hS.z12 _ _ (fun j hj => ?_) ?_ (fun i hi => ?_)
  · rw [mset_sn (by omega), mset_sn (by omega)]
  · rw [mset_ss]
  · rw [mset_sn (by omega)]
    by_cases q : i = sY σ
    · subst q; rw [mset_ss, if_pos rfl]
    · rw [mset_sn (by omega), if_neg q]
      have := h.2.2.2.2.2.2.2.2.1 i (by omega)
      rw [Nat.zero_add] at this; exact this
theorem s_typeOne {Q : Int32 → MM → Prop} {M : MM} {b y a : Nat} (hb : tpB b) (e : M b 11 = nI y) (hy : y < 12) (hq : Q (nI (y + 1)) (ctM M b y a)) : wX2_typeOne Q M b (nI a) := by
  unfold wX2_typeOne
  rw [e]
  refine s_setCell (by rw [(alen_tp hb).2.2.2.2.2.1]; exact hy) (by rw [(alen_tp hb).2.2.2.2.2.1]; decide) ?_
  rintro _ rfl
  rw [mset_ss, mset_n (by omega), e, nI_1]
  exact hq
theorem m_type {Q : Int32 → MM → Prop} {M : MM} {y a : Nat} (e : M 53 327 = nI y) (hy : y < 12) (ha : a < 256) (hq : Q (nI (y + 1)) (mtM M y a)) : wX5_type Q M (nI a) := by
  unfold wX5_type
  refine m_in32 0 255 rfl rfl (zt1 (pl_in (L := 255) (by omega) (by omega)) ?_)
  rw [e]
  refine br_nf (fun q => ?_) ?_
  · have := (nI_eq (b := 12) (by omega) (by omega)).mp q; omega
  rw [show (328 : Int32) = nI 328 from rfl, nI_add, clamp_nI (by omega)]
  refine ⟨v53 (by omega), ?_⟩
  rintro _ rfl _ rfl
  rw [mset_ss, mset_sn (by omega), e, nI_1]
  exact hq
theorem ctM_n {M : MM} {b y a k : Nat} (h1 : k ≠ b) (h2 : k ≠ b + 6) : ctM M b y a k = M k := by
  unfold ctM; rw [mset_n h1, mset_n h2]
theorem mtM_n {M : MM} {y a k : Nat} (h : k ≠ 53) : mtM M y a k = M k := by
  unfold mtM; rw [mset_n h, mset_n h]
theorem mtM_s {M : MM} {y a j : Nat} (h1 : j ≠ 327) (h2 : j ≠ 328 + y) : mtM M y a 53 j = M 53 j := by
  unfold mtM; rw [mset_sn h1, mset_sn h2]
theorem mdT.keepC {M M1 : MM} {o : Nat} {σ : SS} (h : mdT M o σ) (e : M1 53 = M 53) : mdT M1 o σ := h.keep e
theorem L_type {M : MM} (h : Rel M) (x : Int32) : wX4_type (fun r M1 => wX5_type (PQ r) M1 x) M x := by
  obtain ⟨R, σ, hR, hS, hc, hm, hr, him, hsh, htx⟩ := id h
  have e1 : M 1 11 = nI (sY σ) := hc.2.2.2.2.2.2.2.1
  have e2 : M 53 327 = nI (sY σ) := hm.2.2.2.2.2.2.2.1
  have hY := hS.n3.2.1
  unfold wX4_type
  refine s_isBetween.mpr ?_
  by_cases hp : (0 : Int32) ≤ x ∧ x ≤ 255
  · refine zt1 hp ?_
    obtain ⟨a, ha, rfl⟩ := pl_of (L := 255) (by omega) hp
    dsimp only
    rw [e1]
    by_cases hy : sY σ < 12
    · refine br_t ((nI_ltI (b := 12) (by omega) (by omega)).mpr hy) (s_typeOne (Or.inl rfl) e1 hy (m_type (y := sY σ) ?_ hy (by omega) ⟨rfl, ?_⟩))
      · rw [ctM_n (by omega) (by omega)]; exact e2
      · refine Rel.step (σ' := tyN σ a) hR (hS.ty (by omega) hy) ?_ ?_ hr him hsh htx ?_ ?_ ?_
        · exact hc.ty.keep (fun i hi => mtM_n (by omega))
        · exact (mdT.keep hm (ctM_n (by omega) (by omega))).ty hS hy
        · intro k hk
          unfold keepP at hk
          rw [mtM_n (by omega), ctM_n (by omega) (by omega)]
        · intro j hj
          rw [mtM_s (by omega) (by omega), ctM_n (by omega) (by omega)]
        · rw [mtM_n (by omega), ctM_n (by omega) (by omega)]; exact ⟨rfl, rfl, rfl⟩
    · refine br_f (fun q => hy ((nI_ltI (b := 12) (by omega) (by omega)).mp q)) ?_
      unfold wX5_type
      refine m_in32 0 255 rfl rfl (zt1 hp ?_)
      rw [e2]
      exact br_nt (by rw [show sY σ = 12 by omega]; rfl) ⟨rfl, h⟩
  · refine zf1 hp ?_
    unfold wX5_type
    exact m_in32 0 255 rfl rfl (zf1 hp ⟨rfl, h⟩)
-- ===== end =====
theorem L_end {M : MM} (h : Rel M) (x : Int32) : wX4_end (fun r M1 => wX5_end (PQ r) M1 x) M x := by
  obtain ⟨R, σ, hR, hS, hc, hm, hr, him, hsh, htx⟩ := id h
  obtain ⟨⟨n, hn, e1, e2, g⟩, t2, t3⟩ := htx
  unfold wX4_end
  rw [e1]
  refine s_isBetween.mpr ?_
  by_cases hp : (0 : Int32) ≤ x ∧ x ≤ nI n
  · refine zt1 hp ?_
    obtain ⟨a, ha, rfl⟩ := pl_of (by omega) hp
    rintro _ rfl
    unfold wX5_end
    have f2 : mset M 37 2 (nI a) 52 9 = nI n := by rw [mset_n (by decide)]; exact e2
    rw [f2]
    refine m_in32 0 (nI n) rfl rfl (zt1 hp ?_)
    rintro _ rfl
    refine ⟨f2.symm, R, σ, hR, hS, ?_, ?_, ?_, ?_, ?_, ?_⟩
    · exact hc.keep (fun i hi => by rw [mset_n (by omega), mset_n (by omega)])
    · exact hm.keep (by rw [mset_n (by omega), mset_n (by omega)])
    · exact hr.keep (by rw [mset_n (by omega), mset_n (by omega)])
    · exact him.keep (by rw [mset_n (by omega), mset_n (by omega)]) (fun k _ _ => by rw [mset_n (by omega), mset_n (by omega)]) (fun j _ => by rw [mset_n (by omega), mset_n (by omega)]) (by rw [mset_n (by omega), mset_n (by omega)])
    · exact hsh.keep (fun k _ _ => by rw [mset_n (by omega), mset_n (by omega)]) (fun k _ _ => by rw [mset_n (by omega), mset_n (by omega)])
    · refine ⟨⟨a, by omega, ?_, ?_, fun i hi => ?_⟩, ?_, ?_⟩
      · rw [mset_n (by omega), mset_ss]
      · rw [mset_ss]
      · rw [mset_n (by omega), mset_n (by omega), mset_n (by omega), mset_n (by omega)]; exact g i (by omega)
      · exact True.intro
      · rw [mset_n (by omega), mset_n (by omega), mset_sn (by omega), mset_n (by omega)]; exact t3
  · refine zf1 hp ?_
    unfold wX5_end
    dsimp only
    rw [e2]
    exact m_in32 0 (nI n) rfl rfl (zf1 hp ⟨rfl, h⟩)
-- ===== feed =====
def bcF (v : Int64) (j : Nat) : Int32 := ((((v.toUInt64 >>> ((nI (8 * j)).toInt64.toUInt64 &&& Int64.toUInt64 63)).toInt64).toInt32).toInt8.toInt32)
def bmF (v : Int64) (j : Nat) : Int32 := (((v >>> ((nI (8 * j)).toInt64 &&& 63)) &&& (255 : Int64)).toInt32)
theorem sh_1 : ∀ j, j < 8 → ((nI (8 * j)).toInt64.toUInt64 &&& Int64.toUInt64 63).toBitVec % (64 : BitVec 64) = BitVec.ofNat 64 (8 * j) := by decide +kernel
theorem sh_2 : ∀ j, j < 8 → ((nI (8 * j)).toInt64 &&& 63).toBitVec.smod (64 : BitVec 64) = BitVec.ofNat 64 (8 * j) := by decide +kernel
theorem b255 : ∀ i, i < 32 → (255#32).getLsbD i = decide (i < 8) := by decide +kernel
theorem b255L : ∀ i, i < 64 → (255#64).getLsbD i = decide (i < 8) := by decide +kernel
theorem bcm {v : Int64} {j : Nat} (hj : j < 8) : bcF v j &&& 255 = bmF v j := by
  unfold bcF bmF
  apply Int32.toBitVec_inj.mp
  apply BitVec.eq_of_getLsbD_eq
  intro i hi
  rw [Int32.toBitVec_and, Int8.toBitVec_toInt32, Int32.toBitVec_toInt8, Int64.toBitVec_toInt32, Int64.toBitVec_toInt32, Int64.toBitVec_and, Int64.toBitVec_shiftRight, sh_2 j hj]
  have e1 : (v.toUInt64 >>> ((nI (8 * j)).toInt64.toUInt64 &&& Int64.toUInt64 63)).toInt64.toBitVec = v.toBitVec >>> (BitVec.ofNat 64 (8 * j)) := by
    rw [UInt64.toBitVec_toInt64, UInt64.toBitVec_shiftRight, sh_1 j hj, Int64.toBitVec_toUInt64]
  rw [e1]
  have e2 : (BitVec.ofNat 64 (8 * j)).toNat = 8 * j := by rw [BitVec.toNat_ofNat]; omega
  have e3 : (255 : Int32).toBitVec = 255#32 := rfl
  have e4 : (255 : Int64).toBitVec = 255#64 := rfl
  rw [e3, e4, BitVec.getLsbD_and, b255 i hi]
  have h64 : i < 64 := by omega
  have h5 : ¬ 64 ≤ i := by omega
  simp only [BitVec.getLsbD_signExtend, BitVec.getLsbD_and, b255L i h64, BitVec.sshiftRight', e2, BitVec.ushiftRight_eq', BitVec.getLsbD_ushiftRight, BitVec.getLsbD_sshiftRight, hi, h64, if_true, decide_true, Bool.true_and]
  by_cases h8 : i < 8
  · have h6 : 8 * j + i < 64 := by omega
    simp only [h8, h5, h6, if_true, decide_true, decide_false, Bool.true_and, Bool.and_true, Bool.not_false]
  · simp only [h8, decide_false, Bool.and_false]
theorem s_feed {Q : Int32 → MM → Prop} {M0 : MM} {v : Int64} {n : Nat} (hn : n + 8 ≤ 400) (hq : ∀ M, (∀ a, a ≠ 37 → a ≠ 38 → M a = M0 a) → (∀ i, i < n → M 38 i = M0 38 i) → (∀ d, d < 8 → M 38 (n + d) = bcF v (7 - d)) → M 37 2 = nI (n + 8) → Q (nI (n + 8)) M) : ∀ k M, k ≤ 8 → (∀ a, a ≠ 37 → a ≠ 38 → M a = M0 a) → (∀ i, i < n → M 38 i = M0 38 i) → (∀ d, d < 8 - k → M 38 (n + d) = bcF v (7 - d)) → M 37 2 = nI (n + (8 - k)) → wX4_feed_22 Q v (k + 1) M (nI (8 * k) + (-8)) := by
  intro k
  induction k with
  | zero =>
    intro M _ h1 h2 h3 h4
    refine br_t (by decide +kernel) ?_
    rw [h4]
    exact hq M h1 h2 h3 h4
  | succ k ih =>
    intro M hk h1 h2 h3 h4
    have e : nI (8 * (k + 1)) + (-8) = nI (8 * k) := by
      have a1 : nI (8 * (k + 1)) = nI (8 * k) + 8 := by rw [show (8 : Int32) = nI 8 from rfl, nI_add]; congr 1
      rw [a1, Int32.add_assoc, show (8 : Int32) + (-8) = 0 from rfl, Int32.add_zero]
    rw [e]
    refine br_f (nI_pos (by omega)) ?_
    unfold wX3_addLetter
    rw [h4]
    refine br_f (nI_pos (by omega)) (br_f ?_ ⟨vp_nI (by show n + (8 - (k + 1)) < 400; omega) (by decide +kernel), ?_⟩)
    · show ¬ nI 400 ≤ _
      exact fun q => by have := (nI_leI (by omega) (by omega)).mp q; omega
    rw [clamp_nI (by omega)]
    rintro _ rfl
    unfold wX3_addLetter_29
    rintro _ rfl
    refine ih _ (by omega) (fun a a1 a2 => ?_) (fun i hi => ?_) (fun d hd => ?_) ?_
    · rw [mset_n a1, mset_n a2]; exact h1 a a1 a2
    · rw [mset_n (by decide), mset_sn (by omega)]; exact h2 i hi
    · rw [mset_n (by decide)]
      by_cases q : d = 8 - (k + 1)
      · subst q
        rw [mset_ss]
        have e5 : 7 - (8 - (k + 1)) = k := by omega
        rw [e5]
        exact pk_vb _
      · rw [mset_sn (by omega)]; exact h3 d (by omega)
    · rw [mset_ss, mset_n (by decide), h4, nI_1]; congr 1; omega
theorem m_feed {Q : Int32 → MM → Prop} {M0 : MM} {v : Int64} {n : Nat} (hn : n + 8 ≤ 400) (hq : ∀ M, (∀ a, a ≠ 52 → a ≠ 59 → M a = M0 a) → (∀ j, j ≠ 9 → M 52 j = M0 52 j) → (∀ i, i < n → M 59 i = M0 59 i) → (∀ d, d < 8 → M 59 (n + d) = bmF v (7 - d)) → M 52 9 = nI (n + 8) → Q (nI (n + 8)) M) : ∀ k M, k ≤ 8 → (∀ a, a ≠ 52 → a ≠ 59 → M a = M0 a) → (∀ j, j ≠ 9 → M 52 j = M0 52 j) → (∀ i, i < n → M 59 i = M0 59 i) → (∀ d, d < 8 - k → M 59 (n + d) = bmF v (7 - d)) → M 52 9 = nI (n + (8 - k)) → wX5_feed_19 Q v (k + 1) M (nI (8 * k) + (-8)) := by
  intro k
  induction k with
  | zero =>
    intro M _ h1 h0 h2 h3 h4
    refine br_t (by decide +kernel) ?_
    rw [h4]
    exact hq M h1 h0 h2 h3 h4
  | succ k ih =>
    intro M hk h1 h0 h2 h3 h4
    have e : nI (8 * (k + 1)) + (-8) = nI (8 * k) := by
      have a1 : nI (8 * (k + 1)) = nI (8 * k) + 8 := by rw [show (8 : Int32) = nI 8 from rfl, nI_add]; congr 1
      rw [a1, Int32.add_assoc, show (8 : Int32) + (-8) = 0 from rfl, Int32.add_zero]
    rw [e]
    refine br_f (nI_pos (by omega)) ?_
    rw [h4]
    refine ⟨vp_nI (by show n + (8 - (k + 1)) < 400; omega) (by decide +kernel), ?_⟩
    rw [clamp_nI (by omega)]
    rintro _ rfl _ rfl
    refine ih _ (by omega) (fun a a1 a2 => ?_) (fun j hj => ?_) (fun i hi => ?_) (fun d hd => ?_) ?_
    · rw [mset_n a1, mset_n a2]; exact h1 a a1 a2
    · rw [mset_sn hj, mset_n (by decide)]; exact h0 j hj
    · rw [mset_n (by decide), mset_sn (by omega)]; exact h2 i hi
    · rw [mset_n (by decide)]
      by_cases q : d = 8 - (k + 1)
      · subst q
        rw [mset_ss]
        have e5 : 7 - (8 - (k + 1)) = k := by omega
        rw [e5]
        rfl
      · rw [mset_sn (by omega)]; exact h3 d (by omega)
    · rw [mset_ss, mset_n (by decide), h4, nI_1]; congr 1; omega
theorem L_feed {M : MM} (h : Rel M) (v : Int64) : wX4_feed (fun r M1 => wX5_feed (PQ r) M1 v) M v := by
  obtain ⟨R, σ, hR, hS, hc, hm, hr, him, hsh, htx⟩ := id h
  obtain ⟨⟨n, hn, e1, e2, g⟩, t2, t3⟩ := htx
  unfold wX4_feed
  rw [e1, show (8 : Int32) = nI 8 from rfl, nI_add, show (400 : Int32) = nI 400 from rfl, nI_leI (by omega) (by omega)]
  by_cases hp : n + 8 ≤ 400
  · refine br_t hp ⟨9, s_feed hp ?_ 8 M (by omega) (fun _ _ _ => rfl) (fun _ _ => rfl) (fun d hd => by omega) e1⟩
    intro M1 a1 a2 a3 a4
    unfold wX5_feed
    have e9 : M1 52 9 = nI n := by rw [a1 52 (by decide) (by decide)]; exact e2
    rw [e9, show (8 : Int32) = nI 8 from rfl, nI_add, show (400 : Int32) = nI 400 from rfl, nI_leI (by omega) (by omega)]
    refine br_t hp ⟨9, m_feed (Q := PQ _) hp ?_ 8 M1 (by omega) (fun _ _ _ => rfl) (fun _ _ => rfl) (fun _ _ => rfl) (fun d hd => by omega) e9⟩
    intro M2 b1 b0 b2 b3 b4
    have kk : ∀ k, k ≠ 37 → k ≠ 38 → k ≠ 52 → k ≠ 59 → M2 k = M k := fun k q1 q2 q3 q4 => by rw [b1 k q3 q4, a1 k q1 q2]
    refine ⟨rfl, R, σ, hR, hS, ?_, ?_, ?_, ?_, ?_, ?_⟩
    · exact hc.keep (fun i hi => kk _ (by omega) (by omega) (by omega) (by omega))
    · exact hm.keep (kk _ (by omega) (by omega) (by omega) (by omega))
    · exact hr.keep (kk _ (by omega) (by omega) (by omega) (by omega))
    · exact him.keep (by rw [kk 0 (by omega) (by omega) (by omega) (by omega)]) (fun k _ _ => kk _ (by omega) (by omega) (by omega) (by omega)) (fun j _ => by rw [kk 53 (by omega) (by omega) (by omega) (by omega)]) (kk _ (by omega) (by omega) (by omega) (by omega))
    · exact hsh.keep (fun k _ _ => kk _ (by omega) (by omega) (by omega) (by omega)) (fun k _ _ => kk _ (by omega) (by omega) (by omega) (by omega))
    · refine ⟨⟨n + 8, hp, ?_, b4, fun i hi => ?_⟩, ?_, ?_⟩
      · rw [b1 37 (by decide) (by decide)]; exact a4
      · rw [b1 38 (by decide) (by decide)]
        by_cases q : i < n
        · rw [a2 i q, b2 i q, a1 59 (by decide) (by decide)]; exact g i q
        · have e : i = n + (i - n) := by omega
          have a := a3 (i - n) (by omega)
          have b := b3 (i - n) (by omega)
          rw [← e] at a b
          rw [a, b, ← bcm (show 7 - (i - n) < 8 by omega)]
          exact ⟨_, Nat.mod_lt _ (by decide), pk_and (m := 255) _ 8 rfl, pk_and (m := 255) _ 8 rfl⟩
      · exact True.intro
      · rw [kk 0 (by omega) (by omega) (by omega) (by omega), b0 25 (by decide), a1 52 (by decide) (by decide)]; exact t3
  · refine br_f hp ?_
    unfold wX5_feed
    dsimp only
    rw [e2, show (8 : Int32) = nI 8 from rfl, nI_add, show (400 : Int32) = nI 400 from rfl, nI_leI (by omega) (by omega)]
    exact br_f hp ⟨rfl, h⟩
-- ===== bits =====
def poN (n : Nat) : Nat → Nat
  | 0 => 0
  | k + 1 => poN n k + n / 2 ^ k % 2
theorem poN_le (n : Nat) : ∀ k, poN n k ≤ k := by
  intro k
  induction k with
  | zero => exact Nat.le_refl _
  | succ k ih => rw [poN]; omega
theorem po12 {n : Nat} (h : n < 512) : poN n 12 = poN n 9 := by
  have a : ∀ k, 9 ≤ k → n / 2 ^ k = 0 := fun k hk => Nat.div_eq_of_lt (Nat.lt_of_lt_of_le h (show 2 ^ 9 ≤ 2 ^ k from Nat.pow_le_pow_right (by omega) hk))
  show poN n 9 + n / 2 ^ 9 % 2 + n / 2 ^ 10 % 2 + n / 2 ^ 11 % 2 = poN n 9
  rw [a 9 (by omega), a 10 (by omega), a 11 (by omega)]; rfl
theorem sh_s : ∀ k, k < 12 → ((nI k &&& 31).toBitVec.smod 32).toNat = k := by decide +kernel
theorem bit_at {n k : Nat} (h : n < 2 ^ 31) (hk : k < 12) : (nI n >>> (nI k &&& 31)) &&& (1 : Int32) = nI (n / 2 ^ k % 2) := by
  have h2 : n / 2 ^ k ≤ n := Nat.div_le_self _ _
  rw [pk_shrN h _ k (sh_s k hk), pk_andN (m := 1) (by omega) 1 rfl]
theorem shl_1 : ∀ t, t < 12 → (1 : Int32) <<< (nI t &&& 31) = nI (2 ^ t) := by decide +kernel
theorem nI_xor (a b : Nat) : nI a ^^^ nI b = nI (a ^^^ b) := by
  apply Int32.toBitVec_inj.mp
  apply BitVec.eq_of_getLsbD_eq
  intro i hi
  rw [Int32.toBitVec_xor, BitVec.getLsbD_xor]
  show ((BitVec.ofNat 32 a).getLsbD i ^^ (BitVec.ofNat 32 b).getLsbD i) = (BitVec.ofNat 32 (a ^^^ b)).getLsbD i
  rw [BitVec.getLsbD_ofNat, BitVec.getLsbD_ofNat, BitVec.getLsbD_ofNat, Nat.testBit_xor]
  simp [hi]
theorem nI_or (a b : Nat) : nI a ||| nI b = nI (a ||| b) := by
  apply Int32.toBitVec_inj.mp
  apply BitVec.eq_of_getLsbD_eq
  intro i hi
  rw [Int32.toBitVec_or, BitVec.getLsbD_or]
  show ((BitVec.ofNat 32 a).getLsbD i || (BitVec.ofNat 32 b).getLsbD i) = (BitVec.ofNat 32 (a ||| b)).getLsbD i
  rw [BitVec.getLsbD_ofNat, BitVec.getLsbD_ofNat, BitVec.getLsbD_ofNat, Nat.testBit_or]
  simp [hi]
theorem m_odd {Q : Int32 → MM → Prop} {M : MM} {n : Nat} (h : n < 2 ^ 31) (hq : Q (nI (poN n 9 % 2)) M) : wX5_odd Q M (nI n) := by
  have loop : ∀ k i, i + k = 9 → wX5_odd_4 Q (nI n) (k + 1) M (nI (poN n i)) (nI i) := by
    intro k
    induction k with
    | zero =>
      intro i hi
      have : i = 9 := by omega
      subst this
      have := poN_le n 9
      refine br_t (by decide +kernel) ?_
      rw [n2, pk_rem (by omega) (by omega) (by omega)]
      exact hq
    | succ k ih =>
      intro i hi
      refine br_f (fun q => ?_) ?_
      · have := (nI_leI (a := 9) (by omega) (by omega)).mp q; omega
      rintro _ rfl
      rw [bit_at h (by omega), nI_add, nI_1]
      exact ih (i + 1) (by omega)
  exact ⟨10, loop 9 0 (by omega)⟩
theorem m_onesOf {Q : Int32 → MM → Prop} {M : MM} {n : Nat} (h : n < 2 ^ 31) (hq : Q (nI (poN n 9)) M) : wX5_onesOf Q M (nI n) := by
  have loop : ∀ k i, i + k = 9 → wX5_onesOf_4 Q (nI n) (k + 1) M (nI (poN n i)) (nI i) := by
    intro k
    induction k with
    | zero =>
      intro i hi
      have : i = 9 := by omega
      subst this
      exact br_t (by decide +kernel) hq
    | succ k ih =>
      intro i hi
      refine br_f (fun q => ?_) ?_
      · have := (nI_leI (a := 9) (by omega) (by omega)).mp q; omega
      rintro _ rfl
      rw [bit_at h (by omega), nI_add, nI_1]
      exact ih (i + 1) (by omega)
  exact ⟨10, loop 9 0 (by omega)⟩
theorem m_countOf {Q : Int32 → MM → Prop} {M : MM} {n : Nat} (h : n < 2 ^ 31) (hq : Q (nI (poN n 12)) M) : wX5_countOf Q M (nI n) := by
  have loop : ∀ k i, i + k = 12 → wX5_countOf_4 Q (nI n) (k + 1) M (nI (poN n i)) (nI i) := by
    intro k
    induction k with
    | zero =>
      intro i hi
      have : i = 12 := by omega
      subst this
      exact br_t (by decide +kernel) hq
    | succ k ih =>
      intro i hi
      refine br_f (fun q => ?_) ?_
      · have := (nI_leI (a := 12) (by omega) (by omega)).mp q; omega
      rintro _ rfl
      rw [bit_at h (by omega), nI_add, nI_1]
      exact ih (i + 1) (by omega)
  exact ⟨13, loop 12 0 (by omega)⟩
def bc1 (v : Int32) : Int32 := v - (((v.toUInt32 >>> ((1 : Int32).toUInt32 &&& Int32.toUInt32 31)).toInt32) &&& (1431655765 : Int32))
def bc2 (v : Int32) : Int32 := (v &&& (858993459 : Int32)) + (((v.toUInt32 >>> ((2 : Int32).toUInt32 &&& Int32.toUInt32 31)).toInt32) &&& (858993459 : Int32))
def bc3 (v : Int32) : Int32 := (v + ((v.toUInt32 >>> ((4 : Int32).toUInt32 &&& Int32.toUInt32 31)).toInt32)) &&& (252645135 : Int32)
def bc4 (v : Int32) : Int32 := v + ((v.toUInt32 >>> ((8 : Int32).toUInt32 &&& Int32.toUInt32 31)).toInt32)
def bc5 (v : Int32) : Int32 := v + ((v.toUInt32 >>> ((16 : Int32).toUInt32 &&& Int32.toUInt32 31)).toInt32)
theorem bc_al2 : ∀ a, a < 64 → ∀ b, b < 64 → bc5 (bc4 (bc3 (bc2 (bc1 (nI (64 * a + b)))))) &&& (63 : Int32) = nI (poN (64 * a + b) 12) := by decide +kernel
theorem bc_all {n : Nat} (h : n < 4096) : bc5 (bc4 (bc3 (bc2 (bc1 (nI n))))) &&& (63 : Int32) = nI (poN n 12) := by
  have e : n = 64 * (n / 64) + n % 64 := by omega
  have := bc_al2 (n / 64) (by omega) (n % 64) (by omega)
  rw [← e] at this; exact this
theorem s_bitCount {Q : Int32 → MM → Prop} {M : MM} {n : Nat} (h : n < 4096) (hq : Q (nI (poN n 12)) M) : wJ6_bitCount_0f7a4 Q M (nI n) := by
  unfold wJ6_bitCount_0f7a4
  rintro _ rfl _ rfl _ rfl _ rfl _ rfl
  show Q (bc5 (bc4 (bc3 (bc2 (bc1 (nI n))))) &&& (63 : Int32)) M
  rw [bc_all h]; exact hq
-- ===== a block read =====
def tI : Option Nat → Int32
  | none => -4
  | some t => nI t
def okT : Option Nat → Prop
  | none => True
  | some t => t < 9
theorem okS.dead {R : Nat → Nat} {σ : SS} (h : okS R σ) : ∃ o, okT o ∧ sD σ = tI o := by
  rcases h.2.2.2.2.2.2.2.2.2.2.2 with q | ⟨t, ht, q⟩
  · exact ⟨none, True.intro, q⟩
  · exact ⟨some t, ht, q⟩
def wrN (σ : SS) (j i : Nat) : Nat := if poN (sC σ (j * 13 + i)) 9 % 2 = 0 then 1 else 0
def alN (σ : SS) (j : Nat) : Nat → Nat
  | 0 => 0
  | k + 1 => alN σ j k + wrN σ j k
def acN (σ : SS) (j : Nat) : Nat → Nat
  | 0 => 0
  | k + 1 => acN σ j k ^^^ sC σ (j * 13 + k)
def crN (σ : SS) (j : Nat) : Nat := if sZ σ j = 0 then 0 else acN σ j (sZ σ j + 1)
def rdF (al ac : Nat) : Option Nat → Nat
  | none => if al = 0 ∧ ac = 0 then 0 else if al ≤ 1 ∧ poN ac 9 = 1 then 1 else 3
  | some t => if al = 0 ∧ ac = 0 then 0 else if ac = (if al % 2 = 1 then 2 ^ t else 0) then 2 else 3
def rdN (σ : SS) (j : Nat) (o : Option Nat) : Nat := rdF (alN σ j (sZ σ j)) (crN σ j) o
def fxN (ac : Nat) : Option Nat → Nat
  | none => ac
  | some t => 2 ^ t
def byN (σ : SS) (j : Nat) (o : Option Nat) (i : Nat) : Nat := (if wrN σ j i = 1 then sC σ (j * 13 + i) ^^^ fxN (crN σ j) o else sC σ (j * 13 + i)) % 256
theorem ite_le {c : Prop} [Decidable c] {a b n : Nat} (ha : a ≤ n) (hb : b ≤ n) : (if c then a else b) ≤ n := by
  by_cases h : c
  · rw [if_pos h]; exact ha
  · rw [if_neg h]; exact hb
theorem rdF_le (al ac : Nat) (o : Option Nat) : rdF al ac o ≤ 3 := by
  cases o with
  | none => exact ite_le (by omega) (ite_le (by omega) (by omega))
  | some t => exact ite_le (by omega) (ite_le (by omega) (by omega))
theorem wrN_le (σ : SS) (j i : Nat) : wrN σ j i ≤ 1 := by unfold wrN; split <;> omega
theorem alN_le (σ : SS) (j : Nat) : ∀ k, alN σ j k ≤ k := by
  intro k
  induction k with
  | zero => exact Nat.le_refl _
  | succ k ih =>
    have := wrN_le σ j k
    rw [alN]; omega
theorem acN_lt {R : Nat → Nat} {σ : SS} (hS : okS R σ) {j : Nat} (hj : j < sN σ) : ∀ k, k ≤ sZ σ j + 1 → acN σ j k < 512 := by
  intro k
  induction k with
  | zero => intro _; exact (by decide : 0 < 512)
  | succ k ih =>
    intro hk
    rw [acN]
    exact Nat.xor_lt_two_pow (n := 9) (ih (by omega)) (hS.2.2.2.2.2.1 j hj k (by omega))
theorem crN_lt {R : Nat → Nat} {σ : SS} (hS : okS R σ) {j : Nat} (hj : j < sN σ) : crN σ j < 512 := by
  unfold crN
  split
  · omega
  · exact acN_lt hS hj _ (Nat.le_refl _)
theorem po9_lt {R : Nat → Nat} {σ : SS} (hS : okS R σ) {j i : Nat} (hj : j < sN σ) (hi : i ≤ sZ σ j) : sC σ (j * 13 + i) < 512 := hS.2.2.2.2.2.1 j hj i hi
-- the class
theorem s_isWrongAlong {Q : Int32 → MM → Prop} {M : MM} {b j i : Nat} {R : Nat → Nat} {σ : SS} (hb : tpB b) (hS : okS R σ) (hc : clT M b R σ) (hj : j < sN σ) (hi : i ≤ sZ σ j) (hq : Q (nI (wrN σ j i)) M) : wX2_isWrongAlong Q M b (nI j) (nI i) := by
  unfold wX2_isWrongAlong
  refine s_columnOf hb hS hc hj hi ?_
  have h5 := po9_lt hS hj hi
  refine s_bitCount (by omega) ?_
  have h9 := poN_le (sC σ (j * 13 + i)) 9
  rw [po12 h5, n2, pk_rem (by omega) (by omega) (by omega)]
  unfold wrN at hq
  by_cases q : poN (sC σ (j * 13 + i)) 9 % 2 = 0
  · rw [if_pos q] at hq
    exact br_nt (by rw [q]; rfl) hq
  · rw [if_neg q] at hq
    exact br_nf (fun e => q ((nI_eq (b := 0) (by omega) (by omega)).mp e)) hq
theorem s_wrongAlongCount {Q : Int32 → MM → Prop} {M : MM} {b j : Nat} {R : Nat → Nat} {σ : SS} (hb : tpB b) (hS : okS R σ) (hc : clT M b R σ) (hj : j < sN σ) (hq : Q (nI (alN σ j (sZ σ j))) M) : wX2_wrongAlongCount Q M b (nI j) := by
  have hz := hS.z12 j hj
  have loop : ∀ k i, i + k = sZ σ j → wX2_wrongAlongCount_4 Q b (nI j) (k + 1) M (nI (alN σ j i)) (nI i) := by
    intro k
    induction k with
    | zero =>
      intro i hi
      have : i = sZ σ j := by omega
      subst this
      exact s_sizeOf hb hc hS.2.1 hj (br_t (nI_le (Nat.le_refl _) (by omega)) hq)
    | succ k ih =>
      intro i hi
      refine s_sizeOf hb hc hS.2.1 hj (br_f (fun q => ?_) (s_isWrongAlong hb hS hc hj (by omega) ?_))
      · have := (nI_leI (by omega) (by omega)).mp q; omega
      have g := ih (i + 1) (by omega)
      rw [alN] at g
      have h1 := wrN_le σ j i
      unfold wX2_wrongAlongCount_25
      by_cases q : wrN σ j i = 0
      · rw [q] at g ⊢
        exact br_t rfl (by rw [nI_1]; exact g)
      · have q1 : wrN σ j i = 1 := by omega
        rw [q1] at g ⊢
        exact br_f (by decide +kernel) (by rw [nI_1, nI_1]; exact g)
  exact ⟨_, loop (sZ σ j) 0 (by omega)⟩
theorem s_wrongAcross {Q : Int32 → MM → Prop} {M : MM} {b j : Nat} {R : Nat → Nat} {σ : SS} (hb : tpB b) (hS : okS R σ) (hc : clT M b R σ) (hj : j < sN σ) (hq : Q (nI (crN σ j)) M) : wX2_wrongAcross Q M b (nI j) := by
  have hz := hS.z12 j hj
  unfold wX2_wrongAcross
  refine s_sizeOf hb hc hS.2.1 hj ?_
  unfold crN at hq
  by_cases h0 : sZ σ j = 0
  · rw [if_pos h0] at hq
    rw [h0]
    exact ⟨1, br_t (by decide +kernel) hq⟩
  rw [if_neg h0] at hq
  have loop : ∀ k i, i + k = sZ σ j + 1 → wX2_wrongAcross_11 Q b (nI j) (k + 1) M (nI (sZ σ j)) (nI (acN σ j i)) (nI i) := by
    intro k
    induction k with
    | zero =>
      intro i hi
      have : i = sZ σ j + 1 := by omega
      subst this
      exact br_f (nI_nle (by omega) (by omega)) (br_t (nI_lt (by omega) (by omega)) hq)
    | succ k ih =>
      intro i hi
      refine br_f (nI_nle (by omega) (by omega)) (br_f (fun q => ?_) (s_columnOf hb hS hc hj (by omega) ?_))
      · have := (nI_ltI (by omega) (by omega)).mp q; omega
      rw [nI_xor, nI_1]
      exact ih (i + 1) (by omega)
  exact ⟨_, loop (sZ σ j + 1) 0 (by omega)⟩
theorem s_readingOf {Q : Int32 → MM → Prop} {M : MM} {b j : Nat} {o : Option Nat} {R : Nat → Nat} {σ : SS} (hb : tpB b) (hS : okS R σ) (hc : clT M b R σ) (hj : j < sN σ) (ho : okT o) (hq : Q (nI (rdN σ j o)) M) : wX2_readingOf Q M b (nI j) (tI o) := by
  have hz := hS.z12 j hj
  have ha := alN_le σ j (sZ σ j)
  have hac := crN_lt hS hj
  unfold wX2_readingOf
  refine s_wrongAlongCount hb hS hc hj (s_wrongAcross hb hS hc hj ?_)
  unfold rdN at hq
  rw [show (0 : Int32) = nI 0 from rfl, nI_eq (by omega) (by omega), nI_eq (by omega) (by omega)]
  have rest : ¬ (alN σ j (sZ σ j) = 0 ∧ crN σ j = 0) → wX2_readingOf_24 Q b (nI j) (tI o) M (nI (alN σ j (sZ σ j))) (nI (crN σ j)) := by
    intro hne
    unfold wX2_readingOf_24
    cases o with
    | none =>
      refine br_t rfl ?_
      unfold rdF at hq
      dsimp only at hq
      rw [if_neg hne] at hq
      rw [n1, nI_ltI (by omega) (by omega)]
      by_cases q : 1 < alN σ j (sZ σ j)
      · rw [if_neg (by omega)] at hq
        exact br_t q hq
      · refine br_f q (s_bitCount (by omega) ?_)
        have := poN_le (crN σ j) 9
        rw [po12 hac, nI_eq (by omega) (by omega)]
        by_cases q2 : poN (crN σ j) 9 = 1
        · rw [if_pos ⟨by omega, q2⟩] at hq
          exact br_nt q2 hq
        · rw [if_neg (fun e => q2 e.2)] at hq
          exact br_nf q2 hq
    | some t =>
      have ht : t < 9 := ho
      refine br_f (nI_n4 (by omega)) ?_
      unfold rdF at hq
      dsimp only at hq
      rw [if_neg hne] at hq
      show (¬ (nI (alN σ j (sZ σ j)) - nI (alN σ j (sZ σ j)) / 2 * 2) = 0 → _) ∧ _
      rw [n2, pk_rem (by omega) (by omega) (by omega)]
      have hp : 2 ^ t ≤ 2 ^ 8 := Nat.pow_le_pow_right (by omega) (by omega)
      unfold wX2_readingOf_47
      show (¬ _ → (¬ (nI (crN σ j) ^^^ ((1 : Int32) <<< (nI t &&& 31))) = 0 → _) ∧ ((nI (crN σ j) ^^^ ((1 : Int32) <<< (nI t &&& 31))) = 0 → _)) ∧ _
      rw [shl_1 t (by omega), nI_xor, show (0 : Int32) = nI 0 from rfl]
      have hx : crN σ j ^^^ 2 ^ t < 2 ^ 9 := Nat.xor_lt_two_pow hac (by omega)
      rw [nI_eq (by omega) (by omega), nI_eq (by omega) (by omega), nI_eq (by omega) (by omega)]
      by_cases q : alN σ j (sZ σ j) % 2 = 0
      · refine br_nt q ?_
        rw [if_neg (show ¬ alN σ j (sZ σ j) % 2 = 1 by omega)] at hq
        by_cases q2 : crN σ j = 0
        · rw [if_pos q2] at hq
          exact br_nt q2 hq
        · rw [if_neg q2] at hq
          exact br_nf q2 hq
      · refine br_nf q ?_
        rw [if_pos (show alN σ j (sZ σ j) % 2 = 1 by omega)] at hq
        have hx0 : crN σ j ^^^ 2 ^ t = 0 ↔ crN σ j = 2 ^ t := by
          constructor
          · intro e
            have : (crN σ j ^^^ 2 ^ t) ^^^ 2 ^ t = crN σ j := by rw [Nat.xor_assoc, Nat.xor_self, Nat.xor_zero]
            rw [e, Nat.zero_xor] at this
            exact this.symm
          · intro e
            rw [e, Nat.xor_self]
        rw [hx0]
        by_cases q2 : crN σ j = 2 ^ t
        · rw [if_pos q2] at hq
          exact br_nt q2 hq
        · rw [if_neg q2] at hq
          exact br_nf q2 hq
  by_cases h0 : alN σ j (sZ σ j) = 0
  · refine br_nt h0 ?_
    by_cases h1 : crN σ j = 0
    · have e : rdF (alN σ j (sZ σ j)) (crN σ j) o = 0 := by
        cases o with
        | none => exact if_pos ⟨h0, h1⟩
        | some t => exact if_pos ⟨h0, h1⟩
      rw [e] at hq
      exact br_nt h1 hq
    · exact br_nf h1 (rest (fun q => h1 q.2))
  · exact br_nf h0 (rest (fun q => h0 q.1))
theorem s_byteAsRead {Q : Int32 → MM → Prop} {M : MM} {b j i : Nat} {o : Option Nat} {R : Nat → Nat} {σ : SS} (hb : tpB b) (hS : okS R σ) (hc : clT M b R σ) (hj : j < sN σ) (hi : i < sZ σ j) (ho : okT o) (hd : sD σ = tI o) (hq : Q (nI (byN σ j o i)) M) : wX2_byteAsRead Q M b (nI j) (nI i) := by
  unfold wX2_byteAsRead
  have hac := crN_lt hS hj
  have h5 := po9_lt hS hj (show i ≤ sZ σ j by omega)
  refine s_columnOf hb hS hc hj (by omega) (s_isWrongAlong hb hS hc hj (by omega) ?_)
  have h1 := wrN_le σ j i
  unfold byN at hq
  have e12 : M b 12 = tI o := by rw [← hd]; exact hc.2.2.2.2.2.2.2.2.2.2.2.2
  rw [e12]
  unfold wX2_byteAsRead_40 wX2_byteAsRead_42
  by_cases q : wrN σ j i = 0
  · rw [if_neg (by omega)] at hq
    rw [q]
    refine br_t rfl ?_
    rw [pk_andN (m := 255) (by omega) 8 rfl]
    exact hq
  · rw [if_pos (by omega)] at hq
    have q1 : wrN σ j i = 1 := by omega
    rw [q1]
    refine br_f (by decide +kernel) ?_
    cases o with
    | none =>
      refine br_nt rfl (s_wrongAcross hb hS hc hj ?_)
      have hx : sC σ (j * 13 + i) ^^^ crN σ j < 2 ^ 9 := Nat.xor_lt_two_pow h5 hac
      rw [nI_xor, pk_andN (m := 255) (by omega) 8 rfl]
      exact hq
    | some t =>
      have ht : t < 9 := ho
      have hp : 2 ^ t ≤ 2 ^ 8 := Nat.pow_le_pow_right (by omega) (by omega)
      have hx : sC σ (j * 13 + i) ^^^ 2 ^ t < 2 ^ 9 := Nat.xor_lt_two_pow h5 (by omega)
      refine br_nf (nI_n4 (by omega)) ?_
      show Q ((nI (sC σ (j * 13 + i)) ^^^ ((1 : Int32) <<< (nI t &&& 31))) &&& (255 : Int32)) M
      rw [shl_1 t (by omega), nI_xor, pk_andN (m := 255) (by omega) 8 rfl]
      exact hq
-- ===== a block read by the reference =====
theorem a61 : alen 61 = 12 := by decide +kernel
theorem v61 {n : Nat} (h : n < 12) : vp_in (nI n) (alen 61) := vp_nI (by rw [a61]; exact h) (by rw [a61]; decide)
theorem e13 (j : Nat) : (13 : Int32) + nI j = nI (13 + j) := nI_add 13 j
theorem m_across {Q : Int32 → MM → Prop} {M : MM} {j : Nat} {R : Nat → Nat} {σ : SS} (hS : okS R σ) (hm : mdT M 0 σ) (hj : j < sN σ) (hq : Q (nI (acN σ j (sZ σ j + 1))) M) : wX5_across Q M (nI j) := by
  have hz := hS.z12 j hj
  have h12 := hS.2.1
  have loop : ∀ k i, i + k = sZ σ j + 1 → wX5_across_4 Q (nI j) (k + 1) M (nI (acN σ j i)) (nI i) := by
    intro k
    induction k with
    | zero =>
      intro i hi
      have : i = sZ σ j + 1 := by omega
      subst this
      unfold wX5_across_4
      rw [e13, clamp_nI (by omega), mZ hm hj]
      exact ⟨v53 (by omega), br_t (nI_lt (by omega) (by omega)) hq⟩
    | succ k ih =>
      intro i hi
      unfold wX5_across_4
      rw [e13, clamp_nI (by omega), mZ hm hj]
      refine ⟨v53 (by omega), br_f (fun q => ?_) (m_columnOf hS hm hj (by omega) ?_)⟩
      · have := (nI_ltI (by omega) (by omega)).mp q; omega
      · rw [nI_xor, nI_1]
        exact ih (i + 1) (by omega)
  exact ⟨_, loop (sZ σ j + 1) 0 (by omega)⟩
def laN (σ : SS) (j : Nat) : Nat → Int32
  | 0 => -4
  | k + 1 => if wrN σ j k = 1 then nI k else laN σ j k
theorem al_zero {σ : SS} {j : Nat} : ∀ k, alN σ j k = 0 → ∀ i, i < k → wrN σ j i = 0 := by
  intro k
  induction k with
  | zero => intro _ i hi; omega
  | succ k ih =>
    intro h i hi
    rw [alN] at h
    by_cases e : i = k
    · subst e; omega
    · exact ih (by omega) i (by omega)
theorem al_one {σ : SS} {j : Nat} : ∀ k, alN σ j k = 1 → ∃ l, l < k ∧ laN σ j k = nI l ∧ wrN σ j l = 1 ∧ ∀ i, i < k → i ≠ l → wrN σ j i = 0 := by
  intro k
  induction k with
  | zero => intro h; exact absurd (show (0 : Nat) = 1 from h) (by decide)
  | succ k ih =>
    intro h
    rw [alN] at h
    by_cases e : wrN σ j k = 1
    · refine ⟨k, by omega, by rw [laN, if_pos e], e, fun i hi hne => ?_⟩
      exact al_zero k (by omega) i (by omega)
    · have := wrN_le σ j k
      obtain ⟨l, a1, a2, a3, a4⟩ := ih (by omega)
      refine ⟨l, by omega, by rw [laN, if_neg e]; exact a2, a3, fun i hi hne => ?_⟩
      by_cases e2 : i = k
      · subst e2; omega
      · exact a4 i (by omega) hne
def fcN (σ : SS) (j : Nat) (o : Option Nat) (i : Nat) : Nat := if wrN σ j i = 1 then sC σ (j * 13 + i) ^^^ fxN (crN σ j) o else sC σ (j * 13 + i)
theorem fcN_lt {R : Nat → Nat} {σ : SS} {o : Option Nat} (hS : okS R σ) (ho : okT o) {j i : Nat} (hj : j < sN σ) (hi : i ≤ sZ σ j) : fcN σ j o i < 512 := by
  have h5 := po9_lt hS hj hi
  have h6 := crN_lt hS hj
  have h7 : fxN (crN σ j) o < 2 ^ 9 := by
    cases o with
    | none => exact h6
    | some t =>
      have ht : t < 9 := ho
      exact Nat.pow_lt_pow_right (by omega) ht
  unfold fcN
  split
  · exact Nat.xor_lt_two_pow (n := 9) h5 h7
  · exact h5
theorem m_odd_wr {Q : Int32 → MM → Prop} {M : MM} {σ : SS} {j i : Nat} (h : sC σ (j * 13 + i) < 512) (h1 : wrN σ j i = 1 → Q 0 M) (h0 : wrN σ j i = 0 → Q 1 M) : wX5_odd Q M (nI (sC σ (j * 13 + i))) := by
  refine m_odd (by omega) ?_
  unfold wrN at h1 h0
  by_cases q : poN (sC σ (j * 13 + i)) 9 % 2 = 0
  · rw [q]; exact h1 (if_pos q)
  · have : poN (sC σ (j * 13 + i)) 9 % 2 = 1 := by omega
    rw [this]; exact h0 (if_neg q)
theorem m_reading {Q : Int32 → MM → Prop} {M : MM} {j : Nat} {o : Option Nat} {R : Nat → Nat} {σ : SS} (hS : okS R σ) (hm : mdT M 0 σ) (hj : j < sN σ) (ho : okT o) (hq : ∀ M', (∀ a, a ≠ 61 → M' a = M a) → (rdN σ j o ≠ 3 → ∀ i, i < sZ σ j → M' 61 i &&& 255 = nI (byN σ j o i)) → Q (nI (rdN σ j o)) M') : wX5_reading Q M (nI j) (tI o) := by
  have hz := hS.z12 j hj
  have h12 := hS.2.1
  have ha := alN_le σ j (sZ σ j)
  have hac := crN_lt hS hj
  -- the bytes as they lie
  have bys : ∀ M' : MM, (∀ i, i < sZ σ j → M' 61 i = nI (fcN σ j o i)) → ∀ i, i < sZ σ j → M' 61 i &&& 255 = nI (byN σ j o i) := by
    intro M' h i hi
    have := fcN_lt hS ho hj (show i ≤ sZ σ j by omega)
    rw [h i hi, pk_andN (m := 255) (by omega) 8 rfl]
    rfl
  have fin : ¬ (alN σ j (sZ σ j) = 0 ∧ crN σ j = 0) → ∀ M', (∀ a, a ≠ 61 → M' a = M a) → (∀ i, i < sZ σ j → M' 61 i = nI (sC σ (j * 13 + i))) → wX5_reading_93 Q (nI j) (tI o) M' (nI (sZ σ j)) (nI (crN σ j)) (nI (alN σ j (sZ σ j))) (laN σ j (sZ σ j)) := by
    intro hne M' hk hi
    unfold wX5_reading_93
    cases o with
    | none =>
      refine br_t rfl (m_onesOf (by omega) ?_)
      have p9 := poN_le (crN σ j) 9
      rw [n1, nI_eq (by omega) (by omega), nI_leI (by omega) (by omega), nI_eq (by omega) (by omega)]
      have er : rdN σ j none = if alN σ j (sZ σ j) ≤ 1 ∧ poN (crN σ j) 9 = 1 then 1 else 3 := by
        unfold rdN rdF
        dsimp only
        rw [if_neg hne]
      rw [er] at hq
      by_cases q : poN (crN σ j) 9 = 1
      · refine br_nt q ?_
        by_cases q1 : alN σ j (sZ σ j) ≤ 1
        · rw [if_pos ⟨q1, q⟩] at hq
          refine br_t q1 ?_
          by_cases q2 : alN σ j (sZ σ j) = 1
          · refine br_nt q2 ?_
            obtain ⟨l, a1, a2, a3, a4⟩ := al_one _ q2
            rw [a2, clamp_nI (by omega)]
            refine ⟨v61 (by omega), v61 (by omega), ?_⟩
            rintro _ rfl
            refine hq _ (fun a h => by rw [mset_n h]; exact hk a h) (fun _ => bys _ (fun i h => ?_))
            unfold fcN
            by_cases e : i = l
            · subst e
              rw [mset_ss, if_pos a3, hi i h, nI_xor]; rfl
            · rw [mset_sn e, if_neg (by rw [a4 i h e]; decide)]; exact hi i h
          · refine br_nf q2 (hq _ hk (fun _ => bys _ (fun i h => ?_)))
            unfold fcN
            rw [if_neg (by rw [al_zero _ (show alN σ j (sZ σ j) = 0 by omega) i h]; decide)]
            exact hi i h
        · rw [if_neg (fun e => q1 e.1)] at hq
          exact br_f q1 (hq _ hk (fun e => absurd rfl e))
      · rw [if_neg (fun e => q e.2)] at hq
        exact br_nf q (hq _ hk (fun e => absurd rfl e))
    | some t =>
      have ht : t < 9 := ho
      have hp : 2 ^ t ≤ 2 ^ 8 := Nat.pow_le_pow_right (by omega) (by omega)
      refine br_f (nI_n4 (by omega)) ?_
      have er : rdN σ j (some t) = if crN σ j = (if alN σ j (sZ σ j) % 2 = 1 then 2 ^ t else 0) then 2 else 3 := by
        unfold rdN rdF
        dsimp only
        rw [if_neg hne]
      rw [er] at hq
      have loop : ∀ k i (M' : MM), i + k = sZ σ j → (∀ a, a ≠ 61 → M' a = M a) → (∀ i', i' < i → M' 61 i' = nI (fcN σ j (some t) i')) → (∀ i', i ≤ i' → i' < sZ σ j → M' 61 i' = nI (sC σ (j * 13 + i'))) → wX5_reading_102 Q (nI j) (tI (some t)) (k + 1) M' (nI (sZ σ j)) (nI (crN σ j)) (nI (alN σ j (sZ σ j))) (nI i) := by
        intro k
        induction k with
        | zero =>
          intro i M' hi2 hk2 g1 g2
          have : i = sZ σ j := by omega
          subst this
          refine br_t (nI_le (Nat.le_refl _) (by omega)) ?_
          rw [n2, pk_rem (by omega) (by omega) (by omega), n1, nI_eq (by omega) (by omega)]
          unfold wX5_reading_161
          show (¬ _ → (¬ nI (crN σ j) = 0 → _) ∧ (nI (crN σ j) = 0 → _)) ∧ (_ → (¬ nI (crN σ j) = ((1 : Int32) <<< (nI t &&& 31)) → _) ∧ (nI (crN σ j) = ((1 : Int32) <<< (nI t &&& 31)) → _))
          rw [shl_1 t (by omega), show (0 : Int32) = nI 0 from rfl, nI_eq (by omega) (by omega), nI_eq (by omega) (by omega)]
          by_cases q : alN σ j (sZ σ j) % 2 = 1
          · rw [if_pos q] at hq
            refine br_nt q ?_
            by_cases q2 : crN σ j = 2 ^ t
            · rw [if_pos q2] at hq
              exact br_nt q2 (hq _ hk2 (fun _ => bys _ g1))
            · rw [if_neg q2] at hq
              exact br_nf q2 (hq _ hk2 (fun e => absurd rfl e))
          · rw [if_neg q] at hq
            refine br_nf q ?_
            by_cases q2 : crN σ j = 0
            · rw [if_pos q2] at hq
              exact br_nt q2 (hq _ hk2 (fun _ => bys _ g1))
            · rw [if_neg q2] at hq
              exact br_nf q2 (hq _ hk2 (fun e => absurd rfl e))
        | succ k ih =>
          intro i M' hi2 hk2 g1 g2
          refine br_f (fun q => ?_) ⟨v61 (by omega), v61 (by omega), ?_⟩
          · have := (nI_leI (by omega) (by omega)).mp q; omega
          rw [clamp_nI (by omega), g2 i (Nat.le_refl _) (by omega)]
          have nx : ∀ v : Nat, v = fcN σ j (some t) i → wX5_reading_102 Q (nI j) (tI (some t)) (k + 1) (mset M' 61 i (nI v)) (nI (sZ σ j)) (nI (crN σ j)) (nI (alN σ j (sZ σ j))) (nI i + 1) := by
            intro v hv
            rw [nI_1]
            refine ih (i + 1) _ (by omega) (fun a h => by rw [mset_n h]; exact hk2 a h) (fun i' h => ?_) (fun i' h1 h2 => ?_)
            · by_cases e : i' = i
              · subst e; rw [mset_ss, hv]
              · rw [mset_sn e]; exact g1 i' (by omega)
            · rw [mset_sn (by omega)]; exact g2 i' (by omega) h2
          refine m_odd_wr (po9_lt hS hj (by omega)) (fun w => br_nt rfl ?_) (fun w => br_nf (by decide) ?_)
          · unfold wX5_reading_136
            refine ⟨v61 (by omega), ?_⟩
            rintro _ rfl
            show wX5_reading_102 Q (nI j) (tI (some t)) (k + 1) (mset M' 61 (nI i).toNatClampNeg (nI (sC σ (j * 13 + i)) ^^^ ((1 : Int32) <<< (nI t &&& 31)))) _ _ _ (nI i + 1)
            rw [clamp_nI (by omega), shl_1 t (by omega), nI_xor]
            exact nx _ (by unfold fcN; rw [if_pos w]; rfl)
          · unfold wX5_reading_136
            refine ⟨v61 (by omega), ?_⟩
            rintro _ rfl
            show wX5_reading_102 Q (nI j) (tI (some t)) (k + 1) (mset M' 61 (nI i).toNatClampNeg (nI (sC σ (j * 13 + i)) ^^^ nI 0)) _ _ _ (nI i + 1)
            rw [clamp_nI (by omega), nI_xor, Nat.xor_zero]
            exact nx _ (by unfold fcN; rw [if_neg (by rw [w]; decide)])
      exact ⟨_, loop (sZ σ j) 0 M' (by omega) hk (fun _ h => by omega) (fun i' _ h => hi i' h)⟩
  have first : ∀ k i (M' : MM), i + k = sZ σ j → (∀ a, a ≠ 61 → M' a = M a) → (∀ i', i' < i → M' 61 i' = nI (sC σ (j * 13 + i'))) → wX5_reading_35 Q (nI j) (tI o) (k + 1) M' (nI (sZ σ j)) (nI (crN σ j)) (nI (alN σ j i)) (laN σ j i) (nI i) := by
    intro k
    induction k with
    | zero =>
      intro i M' hi2 hk2 g
      have : i = sZ σ j := by omega
      subst this
      refine br_t (nI_le (Nat.le_refl _) (by omega)) ?_
      rw [show (0 : Int32) = nI 0 from rfl, nI_eq (by omega) (by omega), nI_eq (by omega) (by omega)]
      by_cases h0 : alN σ j (sZ σ j) = 0
      · refine br_nt h0 ?_
        by_cases h1 : crN σ j = 0
        · have e : rdN σ j o = 0 := by
            cases o with
            | none => exact if_pos ⟨h0, h1⟩
            | some t => exact if_pos ⟨h0, h1⟩
          rw [e] at hq
          refine br_nt h1 (hq _ hk2 (fun _ => bys _ (fun i h => ?_)))
          unfold fcN
          rw [if_neg (by rw [al_zero _ h0 i h]; decide)]
          exact g i h
        · exact br_nf h1 (fin (fun q => h1 q.2) M' hk2 g)
      · exact br_nf h0 (fin (fun q => h0 q.1) M' hk2 g)
    | succ k ih =>
      intro i M' hi2 hk2 g
      refine br_f (fun q => ?_) (m_columnOf hS (hm.keep (hk2 53 (by decide))) hj (by omega) ⟨v61 (by omega), ?_⟩)
      · have := (nI_leI (by omega) (by omega)).mp q; omega
      rw [clamp_nI (by omega)]
      rintro _ rfl
      refine ⟨v61 (by omega), ?_⟩
      rw [mset_ss]
      have g2 := ih (i + 1) (mset M' 61 i (nI (sC σ (j * 13 + i)))) (by omega) (fun a h => by rw [mset_n h]; exact hk2 a h) (fun i' h => by
        by_cases e : i' = i
        · subst e; rw [mset_ss]
        · rw [mset_sn e]; exact g i' (by omega))
      rw [alN, laN] at g2
      unfold wX5_reading_75
      refine m_odd_wr (po9_lt hS hj (by omega)) (fun w => br_nt rfl ?_) (fun w => br_nf (by decide) ?_)
      · rw [w, if_pos rfl] at g2
        rw [nI_1, nI_1]; exact g2
      · rw [w, if_neg (by decide)] at g2
        rw [nI_1]; exact g2
  unfold wX5_reading
  rw [e13, clamp_nI (by omega), mZ hm hj]
  refine ⟨v53 (by omega), ?_⟩
  rintro _ rfl
  rw [show (0 : Int32) = nI 0 from rfl, nI_eq (by omega) (by omega)]
  have st := first (sZ σ j) 0 M (by omega) (fun _ _ => rfl) (fun _ h => by omega)
  unfold wX5_reading_23
  by_cases h0 : sZ σ j = 0
  · have e : crN σ j = 0 := if_pos h0
    rw [e] at st
    exact br_nt h0 ⟨_, st⟩
  · have e : crN σ j = acN σ j (sZ σ j + 1) := if_neg h0
    refine br_nf h0 (m_across hS hm hj ?_)
    rw [← e]
    exact ⟨_, st⟩
-- ===== check, got =====
/-- only what is laid aside was written -/
theorem Rel.scr {M M' : MM} (h : Rel M) (hk : ∀ a, (a < 39 ∨ (44 ≤ a ∧ a < 60) ∨ 64 ≤ a) → M' a = M a) : Rel M' := by
  obtain ⟨R, σ, hR, hS, hc, hm, hr, him, hsh, htx⟩ := h
  refine Rel.step (σ' := σ) hR hS (hc.keep (fun i hi => hk _ (by omega))) (hm.keep (hk _ (by omega))) hr him hsh htx (fun k h => hk _ (by unfold keepP at h; omega)) (fun j _ => by rw [hk 53 (by omega)]) ?_
  rw [hk 52 (by omega)]; exact ⟨rfl, rfl, rfl⟩
theorem Rel.k61 {M M' : MM} (h : Rel M) (hk : ∀ a, a ≠ 61 → M' a = M a) : Rel M' := h.scr (fun a q => hk a (by omega))
theorem L_check {M : MM} (h : Rel M) (x : Int32) : wX4_check (fun r M1 => wX5_check (PQ r) M1 x) M x := by
  obtain ⟨R, σ, hR, hS, hc, hm, hr, him, hsh, htx⟩ := id h
  have hb : tpB 1 := Or.inl rfl
  obtain ⟨o, ho, hd⟩ := hS.dead
  have e12 : M 1 12 = tI o := by rw [← hd]; exact hc.2.2.2.2.2.2.2.2.2.2.2.2
  have m12 : M 53 340 = tI o := by rw [← hd]; exact hm.2.2.2.2.2.2.2.2.2.2.2.2
  unfold wX4_check
  refine s_hasBlock hc.2.1 ?_
  by_cases hp : (0 : Int32) ≤ x ∧ x ≤ nI (sN σ) - 1
  · refine zt2 hp ?_
    obtain ⟨j, hj, rfl⟩ := (blk_of hS.2.1).mp hp
    dsimp only
    rw [e12]
    refine s_readingOf hb hS hc hj ho ?_
    unfold wX5_check
    refine m_isBlock hm.2.1 (zt2 hp ?_)
    rw [m12]
    exact m_reading hS hm hj ho (fun M' hk _ => ⟨rfl, h.k61 hk⟩)
  · refine zf2 hp ?_
    unfold wX5_check
    exact m_isBlock hm.2.1 (zf2 hp ⟨rfl, h⟩)
theorem rd3 {σ : SS} {j : Nat} {o : Option Nat} : nI (rdN σ j o) = 3 ↔ rdN σ j o = 3 := by
  have : rdN σ j o ≤ 3 := rdF_le _ _ _
  exact nI_eq (b := 3) (by omega) (by omega)
theorem L_got {M : MM} (h : Rel M) (x i : Int32) : wX4_got (fun r M1 => wX5_got (PQ r) M1 x i) M x i := by
  obtain ⟨R, σ, hR, hS, hc, hm, hr, him, hsh, htx⟩ := id h
  have hb : tpB 1 := Or.inl rfl
  have h12 := hS.2.1
  obtain ⟨o, ho, hd⟩ := hS.dead
  have e12 : M 1 12 = tI o := by rw [← hd]; exact hc.2.2.2.2.2.2.2.2.2.2.2.2
  have m12 : M 53 340 = tI o := by rw [← hd]; exact hm.2.2.2.2.2.2.2.2.2.2.2.2
  unfold wX4_got
  refine s_hasBlock hc.2.1 ?_
  by_cases hp : (0 : Int32) ≤ x ∧ x ≤ nI (sN σ) - 1
  · refine zt2 hp ?_
    obtain ⟨j, hj, rfl⟩ := (blk_of hS.2.1).mp hp
    have hz := hS.z12 j hj
    refine s_sizeOf hb hc h12 hj (s_isBetween.mpr ?_)
    by_cases hi : (0 : Int32) ≤ i ∧ i ≤ nI (sZ σ j) - 1
    · obtain ⟨k, hk, rfl⟩ := (blk_of (by omega)).mp hi
      refine zt1 hi ?_
      dsimp only
      rw [e12]
      refine s_readingOf hb hS hc hj ho ?_
      have md : ∀ r : Int32, r = (if rdN σ j o = 3 then -4 else nI (byN σ j o k)) → wX5_got (PQ r) M (nI j) (nI k) := by
        intro r hr2
        unfold wX5_got
        refine m_isBlock hm.2.1 (zt2 hp ?_)
        rw [e13, clamp_nI (n := 13 + j) (by omega), mZ hm hj]
        refine ⟨v53 (by omega), m_in32 0 (nI (sZ σ j) - 1) rfl rfl (zt1 hi ?_)⟩
        rw [m12]
        refine m_reading hS hm hj ho (fun M' hk2 hg => ?_)
        rw [rd3, clamp_nI (n := k) (by omega)]
        by_cases q : rdN σ j o = 3
        · rw [if_pos q] at hr2
          exact br_nt q ⟨hr2, h.k61 hk2⟩
        · rw [if_neg q] at hr2
          refine br_nf q ⟨v61 (by omega), ?_, h.k61 hk2⟩
          rw [hg q k hk]; exact hr2
      rw [rd3]
      by_cases q : rdN σ j o = 3
      · exact br_nt q (md _ (by rw [if_pos q]))
      · exact br_nf q (s_byteAsRead hb hS hc hj hk ho hd (md _ (by rw [if_neg q])))
    · refine zf1 hi ?_
      unfold wX5_got
      refine m_isBlock hm.2.1 (zt2 hp ?_)
      rw [e13, clamp_nI (n := 13 + j) (by omega), mZ hm hj]
      exact ⟨v53 (by omega), m_in32 0 (nI (sZ σ j) - 1) rfl rfl (zf1 hi ⟨rfl, h⟩)⟩
  · refine zf2 hp ?_
    unfold wX5_got
    exact m_isBlock hm.2.1 (zf2 hp ⟨rfl, h⟩)
-- ===== sums of bits =====
def orN (p : Nat → Nat) : Nat → Nat
  | 0 => 0
  | k + 1 => orN p k ||| (if p k = 1 then 2 ^ k else 0)
def suN (p : Nat → Nat) : Nat → Nat
  | 0 => 0
  | k + 1 => suN p k + p k
theorem or_lt (p : Nat → Nat) : ∀ k, orN p k < 2 ^ k := by
  intro k
  induction k with
  | zero => exact (by decide : 0 < 1)
  | succ k ih =>
    rw [orN]
    have hp : 2 ^ (k + 1) = 2 * 2 ^ k := by rw [Nat.pow_succ]; omega
    have h0 : 0 < 2 ^ k := Nat.pow_pos (by omega)
    refine Nat.or_lt_two_pow (by omega) ?_
    split <;> omega
theorem or_bit (p : Nat → Nat) : ∀ k i, (orN p k).testBit i = decide (i < k ∧ p i = 1) := by
  intro k
  induction k with
  | zero => intro i; simp [orN]
  | succ k ih =>
    intro i
    rw [orN, Nat.testBit_or, ih]
    by_cases q : p k = 1
    · rw [if_pos q, Nat.testBit_two_pow]
      by_cases e : k = i
      · subst e; simp [q]
      · have : (i < k + 1) ↔ (i < k) := by omega
        simp [e, this]
    · rw [if_neg q, Nat.zero_testBit]
      by_cases e : k = i
      · subst e; simp [q]
      · have : (i < k + 1) ↔ (i < k) := by omega
        simp [this]
theorem or_dm {p : Nat → Nat} (hp : ∀ i, p i ≤ 1) (N i : Nat) : orN p N / 2 ^ i % 2 = if i < N then p i else 0 := by
  have h := or_bit p N i
  rw [Nat.testBit_eq_decide_div_mod_eq] at h
  have h2 : (orN p N / 2 ^ i % 2 = 1) ↔ (i < N ∧ p i = 1) := decide_eq_decide.mp h
  have h3 := hp i
  have h4 : orN p N / 2 ^ i % 2 < 2 := Nat.mod_lt _ (by omega)
  by_cases q : i < N
  · rw [if_pos q]
    by_cases q2 : p i = 1
    · rw [h2.mpr ⟨q, q2⟩, q2]
    · have : ¬ orN p N / 2 ^ i % 2 = 1 := fun e => q2 (h2.mp e).2
      omega
  · rw [if_neg q]
    have : ¬ orN p N / 2 ^ i % 2 = 1 := fun e => q (h2.mp e).1
    omega
theorem po_or {p : Nat → Nat} (hp : ∀ i, p i ≤ 1) {N : Nat} (hN : N ≤ 12) : poN (orN p N) 12 = suN p N := by
  have gen : ∀ k, poN (orN p N) k = suN p (min k N) := by
    intro k
    induction k with
    | zero => rw [Nat.zero_min]; rfl
    | succ k ih =>
      rw [poN, ih, or_dm hp]
      by_cases q : k < N
      · have e1 : min (k + 1) N = k + 1 := by omega
        have e2 : min k N = k := by omega
        rw [if_pos q, e1, e2, suN]
      · have e1 : min (k + 1) N = min k N := by omega
        rw [if_neg q, e1]; rfl
  rw [gen 12]
  congr 1; omega
theorem su_le {p : Nat → Nat} (hp : ∀ i, p i ≤ 1) : ∀ k, suN p k ≤ k := by
  intro k
  induction k with
  | zero => exact Nat.le_refl _
  | succ k ih => have := hp k; rw [suN]; omega
-- ===== state =====
def loP (σ : SS) (o : Option Nat) (j : Nat) : Nat := if rdN σ j o = 3 then 1 else 0
def meP (σ : SS) (o : Option Nat) (j : Nat) : Nat := if rdN σ j o = 1 ∨ rdN σ j o = 2 then 1 else 0
def ofN (σ : SS) (j : Nat) (o : Option Nat) : Nat → Nat
  | 0 => 0
  | k + 1 => if ofN σ j o k = 1 then 1 else if byN σ j o k = sO σ (j * 12 + k) then 0 else 1
def foP (σ : SS) (o : Option Nat) (j : Nat) : Nat := if rdN σ j o = 3 then 0 else ofN σ j o (sZ σ j)
theorem ofN_le (σ : SS) (j : Nat) (o : Option Nat) : ∀ k, ofN σ j o k ≤ 1 := by
  intro k
  cases k with
  | zero => exact (by decide : 0 ≤ 1)
  | succ k => rw [ofN]; exact ite_le (by omega) (ite_le (by omega) (by omega))
theorem ofN_1 (σ : SS) (j : Nat) (o : Option Nat) {i : Nat} (h : ofN σ j o i = 1) : ∀ k, i ≤ k → ofN σ j o k = 1 := by
  intro k hk
  induction hk with
  | refl => exact h
  | step _ ih => rw [ofN, if_pos ih]
theorem loP_le (σ : SS) (o : Option Nat) (j : Nat) : loP σ o j ≤ 1 := ite_le (by omega) (by omega)
theorem meP_le (σ : SS) (o : Option Nat) (j : Nat) : meP σ o j ≤ 1 := ite_le (by omega) (by omega)
theorem foP_le (σ : SS) (o : Option Nat) (j : Nat) : foP σ o j ≤ 1 := ite_le (by omega) (ofN_le _ _ _ _)
theorem byN_lt (σ : SS) (j : Nat) (o : Option Nat) (i : Nat) : byN σ j o i < 256 := Nat.mod_lt _ (by decide)
theorem s_originalOf {Q : Int32 → MM → Prop} {M : MM} {b j i : Nat} {R : Nat → Nat} {σ : SS} (hb : tpB b) (hS : okS R σ) (hc : clT M b R σ) (hj : j < sN σ) (hi : i < sZ σ j) (hq : Q (nI (sO σ (j * 12 + i))) M) : wX2_originalOf Q M b (nI j) (nI i) := by
  unfold wX2_originalOf
  have h12 := hS.2.1
  have hz := hS.z12 j hj
  rw [show (12 : Int32) = nI 12 from rfl, pk_mul, nI_add]
  refine s_cell (by rw [(alen_tp hb).2.2.2.2.1]; omega) (by rw [(alen_tp hb).2.2.2.2.1]; decide) ?_
  rw [hc.2.2.2.2.2.2.1 j hj i hi]; exact hq
theorem s_isReadAsWritten {Q : Int32 → MM → Prop} {M : MM} {b j : Nat} {o : Option Nat} {R : Nat → Nat} {σ : SS} (hb : tpB b) (hS : okS R σ) (hc : clT M b R σ) (hj : j < sN σ) (ho : okT o) (hd : sD σ = tI o) (hq : Q (nI (1 - ofN σ j o (sZ σ j))) M) : wX2_isReadAsWritten Q M b (nI j) := by
  have hz := hS.z12 j hj
  have loop : ∀ k i, i + k = sZ σ j → ofN σ j o i = 0 → wX2_isReadAsWritten_2 Q b (nI j) (k + 1) M (nI i) := by
    intro k
    induction k with
    | zero =>
      intro i hi h0
      have : i = sZ σ j := by omega
      subst this
      rw [h0] at hq
      exact s_sizeOf hb hc hS.2.1 hj (br_t (nI_le (Nat.le_refl _) (by omega)) hq)
    | succ k ih =>
      intro i hi h0
      refine s_sizeOf hb hc hS.2.1 hj (br_f (fun q => ?_) (s_byteAsRead hb hS hc hj (by omega) ho hd (s_originalOf hb hS hc hj (by omega) ?_)))
      · have := (nI_leI (by omega) (by omega)).mp q; omega
      have h1 := byN_lt σ j o i
      have h2 := hS.2.2.2.2.2.2.1 j hj i (by omega)
      rw [nI_eq (by omega) (by omega)]
      by_cases q : byN σ j o i = sO σ (j * 12 + i)
      · refine br_t q ?_
        rw [nI_1]
        exact ih (i + 1) (by omega) (by rw [ofN, if_neg (by omega), if_pos q])
      · refine br_f q ?_
        have : ofN σ j o (i + 1) = 1 := by rw [ofN, if_neg (by omega), if_neg q]
        rw [ofN_1 σ j o this _ (by omega)] at hq
        exact hq
  exact ⟨_, loop (sZ σ j) 0 (by omega) rfl⟩
theorem or_stp {v k x : Nat} (h : x ≤ 1) : (if x = 1 then v ||| 2 ^ k else v) = v ||| (if x = 1 then 2 ^ k else 0) := by
  by_cases q : x = 1
  · rw [if_pos q, if_pos q]
  · rw [if_neg q, if_neg q, Nat.or_zero]
theorem s_lost {Q : Int32 → MM → Prop} {M : MM} {o : Option Nat} {R : Nat → Nat} {σ : SS} (hS : okS R σ) (hc : clT M 1 R σ) (ho : okT o) (hq : Q (nI (orN (loP σ o) (sN σ))) M) : wX2_lostBlocksBy Q M 1 (tI o) := by
  have hb : tpB 1 := Or.inl rfl
  have h12 := hS.2.1
  have loop : ∀ k i, i + k = sN σ → wX2_lostBlocksBy_4 Q 1 (tI o) (k + 1) M (nI (orN (loP σ o) i)) (nI i) := by
    intro k
    induction k with
    | zero =>
      intro i hi
      have : i = sN σ := by omega
      subst this
      exact br_t (by rw [hc.2.1]; exact nI_le (Nat.le_refl _) (by omega)) hq
    | succ k ih =>
      intro i hi
      refine br_f (fun q => ?_) (s_readingOf hb hS hc (by omega) ho ?_)
      · rw [hc.2.1] at q
        have := (nI_leI (by omega) (by omega)).mp q; omega
      have g := ih (i + 1) (by omega)
      rw [orN] at g
      rw [rd3]
      unfold wX2_lostBlocksBy_28
      have e : loP σ o i = if rdN σ i o = 3 then 1 else 0 := rfl
      by_cases q : rdN σ i o = 3
      · rw [if_pos q] at e
        rw [e, if_pos rfl] at g
        refine br_nt q ?_
        rintro _ rfl
        rw [shl_1 i (by omega), nI_or, nI_1]; exact g
      · rw [if_neg q] at e
        rw [e, if_neg (by decide), Nat.or_zero] at g
        refine br_nf q ?_
        rw [nI_1]; exact g
  exact ⟨_, loop (sN σ) 0 (by omega)⟩
theorem s_fooled {Q : Int32 → MM → Prop} {M : MM} {o : Option Nat} {R : Nat → Nat} {σ : SS} (hS : okS R σ) (hc : clT M 1 R σ) (ho : okT o) (hd : sD σ = tI o) (hq : Q (nI (orN (foP σ o) (sN σ))) M) : wX2_fooledBlocks Q M 1 := by
  have hb : tpB 1 := Or.inl rfl
  have h12 := hS.2.1
  have e12 : M 1 12 = tI o := by rw [← hd]; exact hc.2.2.2.2.2.2.2.2.2.2.2.2
  have loop : ∀ k i, i + k = sN σ → wX2_fooledBlocks_4 Q 1 (k + 1) M (nI (orN (foP σ o) i)) (nI i) := by
    intro k
    induction k with
    | zero =>
      intro i hi
      have : i = sN σ := by omega
      subst this
      exact br_t (by rw [hc.2.1]; exact nI_le (Nat.le_refl _) (by omega)) hq
    | succ k ih =>
      intro i hi
      unfold wX2_fooledBlocks_4
      rw [e12]
      refine br_f (fun q => ?_) (s_readingOf hb hS hc (by omega) ho ?_)
      · rw [hc.2.1] at q
        have := (nI_leI (by omega) (by omega)).mp q; omega
      have g := ih (i + 1) (by omega)
      rw [orN] at g
      rw [rd3]
      unfold wX2_fooledBlocks_39
      have e : foP σ o i = if rdN σ i o = 3 then 0 else ofN σ i o (sZ σ i) := rfl
      by_cases q : rdN σ i o = 3
      · rw [if_pos q] at e
        rw [e, if_neg (by decide), Nat.or_zero] at g
        refine br_t q ?_
        rw [nI_1]; exact g
      · rw [if_neg q] at e
        refine br_f q (s_isReadAsWritten hb hS hc (by omega) ho hd ?_)
        have hf := ofN_le σ i o (sZ σ i)
        by_cases q2 : ofN σ i o (sZ σ i) = 1
        · rw [e, q2, if_pos rfl] at g
          rw [q2]
          refine br_nt rfl ?_
          rintro _ rfl
          rw [shl_1 i (by omega), nI_or, nI_1]; exact g
        · have q3 : ofN σ i o (sZ σ i) = 0 := by omega
          rw [e, q3, if_neg (by decide), Nat.or_zero] at g
          rw [q3]
          refine br_nf (by decide +kernel) ?_
          rw [nI_1]; exact g
  exact ⟨_, loop (sN σ) 0 (by omega)⟩
theorem s_mended {Q : Int32 → MM → Prop} {M : MM} {o : Option Nat} {R : Nat → Nat} {σ : SS} (hS : okS R σ) (hc : clT M 1 R σ) (ho : okT o) (hd : sD σ = tI o) (hq : Q (nI (orN (meP σ o) (sN σ))) M) : wX2_mendedBlocks Q M 1 := by
  have hb : tpB 1 := Or.inl rfl
  have h12 := hS.2.1
  have e12 : M 1 12 = tI o := by rw [← hd]; exact hc.2.2.2.2.2.2.2.2.2.2.2.2
  have loop : ∀ k i, i + k = sN σ → wX2_mendedBlocks_4 Q 1 (k + 1) M (nI (orN (meP σ o) i)) (nI i) := by
    intro k
    induction k with
    | zero =>
      intro i hi
      have : i = sN σ := by omega
      subst this
      exact br_t (by rw [hc.2.1]; exact nI_le (Nat.le_refl _) (by omega)) hq
    | succ k ih =>
      intro i hi
      unfold wX2_mendedBlocks_4
      rw [e12]
      refine br_f (fun q => ?_) (s_readingOf hb hS hc (by omega) ho ?_)
      · rw [hc.2.1] at q
        have := (nI_leI (by omega) (by omega)).mp q; omega
      have g := ih (i + 1) (by omega)
      rw [orN] at g
      have h3 : rdN σ i o ≤ 3 := rdF_le _ _ _
      rw [n1, n2, nI_eq (by omega) (by omega), nI_eq (by omega) (by omega)]
      unfold wX2_mendedBlocks_32 wX2_mendedBlocks_38
      have e : meP σ o i = if rdN σ i o = 1 ∨ rdN σ i o = 2 then 1 else 0 := rfl
      by_cases q : rdN σ i o = 1 ∨ rdN σ i o = 2
      · rw [if_pos q] at e
        rw [e, if_pos rfl] at g
        rcases q with q | q
        · refine br_t q ?_
          rintro _ rfl
          rw [shl_1 i (by omega), nI_or, nI_1]; exact g
        · refine br_f (by omega) (br_nt q ?_)
          rintro _ rfl
          rw [shl_1 i (by omega), nI_or, nI_1]; exact g
      · rw [if_neg q] at e
        rw [e, if_neg (by decide), Nat.or_zero] at g
        refine br_f (by omega) (br_nf (by omega) ?_)
        rw [nI_1]; exact g
  exact ⟨_, loop (sN σ) 0 (by omega)⟩
-- the reference
theorem m_isFooled {Q : Int32 → MM → Prop} {M : MM} {j : Nat} {o : Option Nat} {R : Nat → Nat} {σ : SS} (hS : okS R σ) (hm : mdT M 0 σ) (hj : j < sN σ) (ho : okT o) (hd : sD σ = tI o) (hq : ∀ M', (∀ a, a ≠ 61 → M' a = M a) → Q (nI (foP σ o j)) M') : wX5_isFooled Q M (nI j) := by
  have hz := hS.z12 j hj
  have h12 := hS.2.1
  have m12 : M 53 340 = tI o := by rw [← hd]; exact hm.2.2.2.2.2.2.2.2.2.2.2.2
  unfold wX5_isFooled
  rw [m12]
  refine m_reading hS hm hj ho (fun M' hk hg => ?_)
  have hm' : mdT M' 0 σ := hm.keep (hk 53 (by decide))
  have hq' := hq M' hk
  have i181 : ∀ i, ((181 : Int32) + ((12 : Int32) * nI j)) + nI i = nI (181 + (j * 12 + i)) := by
    intro i
    rw [show (12 : Int32) = nI 12 from rfl, show (181 : Int32) = nI 181 from rfl, pk_mul, nI_add, nI_add]; congr 1; omega
  rw [rd3]
  unfold foP at hq'
  by_cases q3 : rdN σ j o = 3
  · rw [if_pos q3] at hq'
    have loop : ∀ k i v, i + k = sZ σ j → wX5_isFooled_28 Q (nI j) (k + 1) M' v 1 (nI i) := by
      intro k
      induction k with
      | zero =>
        intro i v hi
        have : i = sZ σ j := by omega
        subst this
        unfold wX5_isFooled_28
        rw [e13, clamp_nI (n := 13 + j) (by omega), mZ hm' hj]
        refine ⟨v53 (by omega), br_t (nI_le (Nat.le_refl _) (by omega)) ?_⟩
        unfold wX5_isFooled_100
        exact ⟨fun _ => hq', fun _ => br_nf (by decide) hq'⟩
      | succ k ih =>
        intro i v hi
        unfold wX5_isFooled_28
        rw [e13, clamp_nI (n := 13 + j) (by omega), mZ hm' hj]
        refine ⟨v53 (by omega), br_f (fun q => ?_) ?_⟩
        · have := (nI_leI (by omega) (by omega)).mp q; omega
        rw [i181]
        unfold wX5_isFooled_76 wX5_isFooled_81
        rw [nI_1]
        exact ⟨fun _ => ih (i + 1) _ (by omega), fun _ => ⟨v61 (by omega), v53 (by omega), fun _ => ih (i + 1) _ (by omega), fun _ => ih (i + 1) _ (by omega)⟩⟩
    refine br_nt q3 ?_
    exact ⟨_, loop (sZ σ j) 0 _ (by omega)⟩
  · rw [if_neg q3] at hq'
    have loop : ∀ k i, i + k = sZ σ j → wX5_isFooled_28 Q (nI j) (k + 1) M' (nI (ofN σ j o i)) 0 (nI i) := by
      intro k
      induction k with
      | zero =>
        intro i hi
        have : i = sZ σ j := by omega
        subst this
        unfold wX5_isFooled_28
        rw [e13, clamp_nI (n := 13 + j) (by omega), mZ hm' hj]
        refine ⟨v53 (by omega), br_t (nI_le (Nat.le_refl _) (by omega)) ?_⟩
        unfold wX5_isFooled_100
        have hf := ofN_le σ j o (sZ σ j)
        by_cases q2 : ofN σ j o (sZ σ j) = 1
        · rw [q2] at hq' ⊢
          exact br_f (by decide +kernel) (br_nt rfl hq')
        · have q4 : ofN σ j o (sZ σ j) = 0 := by omega
          rw [q4] at hq' ⊢
          exact br_t rfl hq'
      | succ k ih =>
        intro i hi
        unfold wX5_isFooled_28
        rw [e13, clamp_nI (n := 13 + j) (by omega), mZ hm' hj]
        refine ⟨v53 (by omega), br_f (fun q => ?_) ?_⟩
        · have := (nI_leI (by omega) (by omega)).mp q; omega
        have g := ih (i + 1) (by omega)
        rw [ofN] at g
        have hf := ofN_le σ j o i
        unfold wX5_isFooled_76 wX5_isFooled_81
        rw [nI_1]
        by_cases q2 : ofN σ j o i = 1
        · rw [if_pos q2] at g
          rw [q2]
          exact br_nf (by decide +kernel) g
        · have q4 : ofN σ j o i = 0 := by omega
          rw [if_neg q2] at g
          rw [q4]
          refine br_nt rfl ?_
          have h1 := byN_lt σ j o i
          have h2 := hS.2.2.2.2.2.2.1 j hj i (by omega)
          rw [i181, clamp_nI (n := i) (by omega), clamp_nI (n := 181 + (j * 12 + i)) (by omega), mO hm' hj (by omega), hg q3 i (by omega), nI_eq (by omega) (by omega)]
          refine ⟨v61 (by omega), v53 (by omega), ?_⟩
          by_cases q5 : byN σ j o i = sO σ (j * 12 + i)
          · rw [if_pos q5] at g
            exact br_t q5 g
          · rw [if_neg q5] at g
            exact br_f q5 g
    refine br_nf q3 ?_
    exact ⟨_, loop (sZ σ j) 0 (by omega)⟩
theorem L_state {M : MM} (h : Rel M) (x : Int32) : wX4_state (fun r M1 => wX5_state (PQ r) M1 x) M x := by
  obtain ⟨R, σ, hR, hS, hc, hm, hr, him, hsh, htx⟩ := id h
  have hb : tpB 1 := Or.inl rfl
  have h12 := hS.2.1
  obtain ⟨o, ho, hd⟩ := hS.dead
  have e12 : M 1 12 = tI o := by rw [← hd]; exact hc.2.2.2.2.2.2.2.2.2.2.2.2
  have m12 : M 53 340 = tI o := by rw [← hd]; exact hm.2.2.2.2.2.2.2.2.2.2.2.2
  have stepO : ∀ (p : Nat → Nat) (k i : Nat) (M' : MM) (v : Int32), i ≤ 12 → (v = 0 ∨ v = 1) → (v = 1 ↔ p i = 1) → wX5_state_18 (PQ (nI (orN p (sN σ)))) x (k + 1) M' (nI (orN p (i + 1))) (nI (i + 1)) → wX5_state_91 (PQ (nI (orN p (sN σ)))) (fun M v2 v3 => wX5_state_18 (PQ (nI (orN p (sN σ)))) x (k + 1) M v2 v3) x M' (nI (orN p i)) (nI i) v := by
    intro p k i M' v hi hv hp g
    rw [orN] at g
    unfold wX5_state_91 wX5_state_106
    by_cases q : p i = 1
    · rw [if_pos q] at g
      rw [hp.mpr q]
      refine br_f (by decide) ?_
      by_cases hi2 : i < 12
      · dsimp only
        rw [shl_1 i hi2, nI_or, nI_1]; exact g
      · have : i = 12 := by omega
        subst this
        show wX5_state_18 _ x (k + 1) M' (nI (orN p 12) ||| ((1 : Int32) <<< (nI 12 &&& 31))) (nI 12 + 1)
        rw [show ((1 : Int32) <<< (nI 12 &&& 31)) = nI (2 ^ 12) by decide +kernel, nI_or, nI_1]; exact g
    · rw [if_neg q, Nat.or_zero] at g
      have : v = 0 := by
        rcases hv with e | e
        · exact e
        · exact absurd (hp.mp e) q
      rw [this]
      refine br_t rfl ?_
      show wX5_state_18 _ x (k + 1) M' (nI (orN p i) ||| nI 0) (nI i + 1)
      rw [nI_or, Nat.or_zero, nI_1]; exact g
  have loop : ∀ (p : Nat → Nat), ((x = 0 ∧ p = loP σ o) ∨ (x = 1 ∧ p = foP σ o) ∨ (x = 2 ∧ p = meP σ o)) → ∀ k i (M' : MM), i + k = sN σ → (∀ a, a ≠ 61 → M' a = M a) → wX5_state_18 (PQ (nI (orN p (sN σ)))) x (k + 1) M' (nI (orN p i)) (nI i) := by
    intro p hx k
    induction k with
    | zero =>
      intro i M' hi hk
      have : i = sN σ := by omega
      subst this
      refine br_t ?_ ⟨rfl, h.k61 hk⟩
      rw [hk 53 (by decide), hm.2.1]; exact nI_le (Nat.le_refl _) (by omega)
    | succ k ih =>
      intro i M' hi hk
      have hm' : mdT M' 0 σ := hm.keep (hk 53 (by decide))
      unfold wX5_state_18
      rw [hm'.2.1, show M' 53 340 = tI o by rw [hk 53 (by decide)]; exact m12]
      refine br_f (fun q => ?_) (m_reading hS hm' (by omega) ho (fun M2 hk2 hg => ?_))
      · have := (nI_leI (by omega) (by omega)).mp q; omega
      have hk3 : ∀ a, a ≠ 61 → M2 a = M a := fun a q => by rw [hk2 a q, hk a q]
      have g := ih (i + 1) M2 (by omega) hk3
      have h3 : rdN σ i o ≤ 3 := rdF_le _ _ _
      have f1 : nI (rdN σ i o) = 1 ↔ rdN σ i o = 1 := nI_eq (b := 1) (by omega) (by omega)
      have f2 : nI (rdN σ i o) = 2 ↔ rdN σ i o = 2 := nI_eq (b := 2) (by omega) (by omega)
      rw [rd3, f1, f2]
      unfold wX5_state_86
      rcases hx with ⟨rfl, rfl⟩ | ⟨rfl, rfl⟩ | ⟨rfl, rfl⟩
      · refine br_nt rfl ?_
        have e : loP σ o i = if rdN σ i o = 3 then 1 else 0 := rfl
        by_cases q : rdN σ i o = 3
        · rw [if_pos q] at e
          exact br_nt q (stepO _ k i M2 1 (by omega) (Or.inr rfl) ⟨fun _ => e, fun _ => rfl⟩ g)
        · rw [if_neg q] at e
          exact br_nf q (stepO _ k i M2 0 (by omega) (Or.inl rfl) ⟨fun q => absurd q (by decide), fun q => absurd (e.symm.trans q) (by decide)⟩ g)
      · refine br_nf (by decide) (br_nt rfl (m_isFooled hS (hm.keep (hk3 53 (by decide))) (by omega) ho hd (fun M4 hk4 => ?_)))
        have g4 := ih (i + 1) M4 (by omega) (fun a q => by rw [hk4 a q, hk3 a q])
        have hf := foP_le σ o i
        have : foP σ o i = 0 ∨ foP σ o i = 1 := by omega
        rcases this with e | e
        · rw [e]
          exact stepO _ k i M4 0 (by omega) (Or.inl rfl) ⟨fun q => absurd q (by decide), fun q => absurd (e.symm.trans q) (by decide)⟩ g4
        · rw [e]
          exact stepO _ k i M4 1 (by omega) (Or.inr rfl) ⟨fun _ => e, fun _ => rfl⟩ g4
      · refine br_nf (by decide) (br_nf (by decide) ?_)
        have e : meP σ o i = if rdN σ i o = 1 ∨ rdN σ i o = 2 then 1 else 0 := rfl
        by_cases q : rdN σ i o = 1 ∨ rdN σ i o = 2
        · rw [if_pos q] at e
          have g1 := stepO _ k i M2 1 (by omega) (Or.inr rfl) ⟨fun _ => e, fun _ => rfl⟩ g
          rcases q with q | q
          · exact br_t q g1
          · exact br_f (by omega) (br_nt q g1)
        · rw [if_neg q] at e
          exact br_f (by omega) (br_nf (by omega) (stepO _ k i M2 0 (by omega) (Or.inl rfl) ⟨fun q => absurd q (by decide), fun q => absurd (e.symm.trans q) (by decide)⟩ g))
  have md : ∀ (p : Nat → Nat), ((x = 0 ∧ p = loP σ o) ∨ (x = 1 ∧ p = foP σ o) ∨ (x = 2 ∧ p = meP σ o)) → wX5_state (PQ (nI (orN p (sN σ)))) M x := by
    intro p hx
    unfold wX5_state
    have hp : (0 : Int32) ≤ x ∧ x ≤ 2 := by
      rcases hx with ⟨rfl, -⟩ | ⟨rfl, -⟩ | ⟨rfl, -⟩ <;> decide
    exact m_in32 0 2 rfl rfl (zt1 hp ⟨_, loop p hx (sN σ) 0 M (by omega) (fun _ _ => rfl)⟩)
  unfold wX4_state
  by_cases h0 : x = 0
  · refine br_t h0 ?_
    rw [e12]
    exact s_lost hS hc ho (md _ (Or.inl ⟨h0, rfl⟩))
  refine br_f h0 ?_
  by_cases h1 : x = 1
  · exact br_t h1 (s_fooled hS hc ho hd (md _ (Or.inr (Or.inl ⟨h1, rfl⟩))))
  refine br_f h1 ?_
  by_cases h2 : x = 2
  · exact br_t h2 (s_mended hS hc ho hd (md _ (Or.inr (Or.inr ⟨h2, rfl⟩))))
  refine br_f h2 ?_
  unfold wX5_state
  refine m_in32 0 2 rfl rfl (zf1 (fun q => ?_) ⟨rfl, h⟩)
  obtain ⟨k, hk, rfl⟩ := pl_of (L := 2) (by omega) q
  have : k = 0 ∨ k = 1 ∨ k = 2 := by omega
  rcases this with rfl | rfl | rfl
  · exact h0 rfl
  · exact h1 rfl
  · exact h2 rfl
-- ===== best =====
def btF (f : Nat → Nat) : Nat → Nat × Nat
  | 0 => (0, f 0)
  | k + 1 => if f (k + 1) < (btF f k).2 then (k + 1, f (k + 1)) else btF f k
theorem btF_le {f : Nat → Nat} (hf : ∀ t, f t ≤ 12) : ∀ k, (btF f k).1 ≤ k ∧ (btF f k).2 ≤ 12 := by
  intro k
  induction k with
  | zero => exact ⟨Nat.le_refl _, hf 0⟩
  | succ k ih =>
    rw [btF]
    split
    · exact ⟨Nat.le_refl _, hf _⟩
    · exact ⟨by omega, ih.2⟩
def lsF (σ : SS) (t : Nat) : Nat := suN (loP σ (some t)) (sN σ)
theorem lsF_le {R : Nat → Nat} {σ : SS} (hS : okS R σ) (t : Nat) : lsF σ t ≤ 12 := Nat.le_trans (su_le (loP_le σ (some t)) _) hS.2.1
theorem s_losts {Q : Int32 → MM → Prop} {M : MM} {t : Nat} {R : Nat → Nat} {σ : SS} (hS : okS R σ) (hc : clT M 1 R σ) (ht : t < 9) (hq : Q (nI (lsF σ t)) M) : wX2_lostBlocksBy (fun r7 M8 => wJ6_bitCount_0f7a4 Q M8 r7) M 1 (nI t) := by
  refine s_lost (o := some t) hS hc ht ?_
  have h1 := or_lt (loP σ (some t)) (sN σ)
  have h2 : 2 ^ sN σ ≤ 2 ^ 12 := Nat.pow_le_pow_right (by omega) hS.2.1
  refine s_bitCount (by omega) ?_
  rw [po_or (loP_le σ (some t)) hS.2.1]; exact hq
theorem s_best {Q : Int32 → MM → Prop} {M : MM} {w : Int32} {R : Nat → Nat} {σ : SS} (hS : okS R σ) (hc : clT M 1 R σ) (hq : Q (if w = 0 then nI (btF (lsF σ) 8).1 else nI (btF (lsF σ) 8).2) M) : ∀ k t, t + k = 8 → wX4_best_28 Q w (k + 1) M (nI (btF (lsF σ) t).1) (nI (btF (lsF σ) t).2) (nI (t + 1)) := by
  intro k
  induction k with
  | zero =>
    intro t ht
    have : t = 8 := by omega
    subst this
    refine br_t (by decide +kernel) ?_
    by_cases hw : w = 0
    · rw [if_pos hw] at hq; exact br_nt hw hq
    · rw [if_neg hw] at hq; exact br_nf hw hq
  | succ k ih =>
    intro t ht
    refine br_f (fun q => ?_) (s_losts hS hc (by omega) ?_)
    · have := (nI_leI (a := 9) (by omega) (by omega)).mp q; omega
    have g := ih (t + 1) (by omega)
    rw [btF] at g
    have b1 := btF_le (lsF_le hS) t
    have b2 := lsF_le hS (t + 1)
    rw [nI_leI (by omega) (by omega)]
    unfold wX4_best_61
    by_cases c : lsF σ (t + 1) < (btF (lsF σ) t).2
    · rw [if_pos c] at g
      refine br_f (by omega) ?_
      rw [nI_1]; exact g
    · rw [if_neg c] at g
      refine br_t (by omega) ?_
      rw [nI_1]; exact g
theorem m_best1 {Q : Int32 → MM → Prop} {K : MM → Int32 → Int32 → Int32 → Prop} {M : MM} {w v2 v3 : Int32} {t : Nat} {R : Nat → Nat} {σ : SS} (hS : okS R σ) (hm : mdT M 0 σ) (ht : t < 9) (hq : ∀ M', (∀ a, a ≠ 61 → M' a = M a) → (v2 = -4 → K M' (nI t) (nI (lsF σ t)) (nI t + 1)) ∧ (¬ v2 = -4 → (v3 ≤ nI (lsF σ t) → K M' v2 v3 (nI t + 1)) ∧ (¬ v3 ≤ nI (lsF σ t) → K M' (nI t) (nI (lsF σ t)) (nI t + 1)))) : ∀ k i (M' : MM), i + k = sN σ → (∀ a, a ≠ 61 → M' a = M a) → wX5_best_33 Q K w (k + 1) M' v2 v3 (nI t) (nI (suN (loP σ (some t)) i)) (nI i) := by
  have h12 := hS.2.1
  intro k
  induction k with
  | zero =>
    intro i M' hi hk
    have : i = sN σ := by omega
    subst this
    refine br_t ?_ ?_
    · rw [hk 53 (by decide), hm.2.1]; exact nI_le (Nat.le_refl _) (by omega)
    have hq := hq M' hk
    unfold wX5_best_87 wX5_best_92 wX5_best_105 wX5_best_117
    refine ⟨fun q => br_f (by decide) (br_f (by decide) (hq.1 q)), fun q => ⟨fun q2 => br_t rfl (br_t rfl ((hq.2 q).1 q2)), fun q2 => br_f (by decide) (br_f (by decide) ((hq.2 q).2 q2))⟩⟩
  | succ k ih =>
    intro i M' hi hk
    have hm' : mdT M' 0 σ := hm.keep (hk 53 (by decide))
    refine br_f (fun q => ?_) (m_reading (o := some t) hS hm' (by omega) ht (fun M2 hk2 hg => ?_))
    · rw [hm'.2.1] at q
      have := (nI_leI (by omega) (by omega)).mp q; omega
    have g := ih (i + 1) M2 (by omega) (fun a q => by rw [hk2 a q, hk a q])
    rw [suN] at g
    rw [rd3]
    unfold wX5_best_63 wX5_flag
    have e : loP σ (some t) i = if rdN σ i (some t) = 3 then 1 else 0 := rfl
    by_cases q : rdN σ i (some t) = 3
    · rw [if_pos q] at e
      rw [e] at g
      refine br_nt q (br_f (by decide) ?_)
      dsimp only
      rw [nI_1, nI_1]; exact g
    · rw [if_neg q] at e
      rw [e] at g
      refine br_nf q (br_t rfl ?_)
      dsimp only
      rw [Int32.add_zero, nI_1]; exact g
theorem m_best {Q : Int32 → MM → Prop} {M : MM} {w : Int32} {R : Nat → Nat} {σ : SS} (hS : okS R σ) (hm : mdT M 0 σ) (hq : ∀ M', (∀ a, a ≠ 61 → M' a = M a) → Q (if w = 0 then nI (btF (lsF σ) 8).1 else nI (btF (lsF σ) 8).2) M') : ∀ k t (M' : MM), t + k = 8 → (∀ a, a ≠ 61 → M' a = M a) → wX5_best_20 Q w (k + 1) M' (nI (btF (lsF σ) t).1) (nI (btF (lsF σ) t).2) (nI (t + 1)) := by
  intro k
  induction k with
  | zero =>
    intro t M' ht hk
    have : t = 8 := by omega
    subst this
    have hq := hq M' hk
    refine br_t (by decide +kernel) ?_
    by_cases hw : w = 0
    · rw [if_pos hw] at hq; exact br_nt hw hq
    · rw [if_neg hw] at hq; exact br_nf hw hq
  | succ k ih =>
    intro t M' ht hk
    refine br_f (fun q => ?_) ⟨sN σ + 1, m_best1 hS (hm.keep (hk 53 (by decide))) (by omega) (fun M2 hk2 => ?_) (sN σ) 0 M' (by omega) (fun _ _ => rfl)⟩
    · have := (nI_leI (a := 9) (by omega) (by omega)).mp q; omega
    have g := ih (t + 1) M2 (by omega) (fun a q => by rw [hk2 a q, hk a q])
    rw [btF] at g
    have b1 := btF_le (lsF_le hS) t
    have b2 := lsF_le hS (t + 1)
    rw [nI_leI (by omega) (by omega)]
    refine br_f (nI_n4 (by omega)) ?_
    rw [nI_1]
    by_cases c : lsF σ (t + 1) < (btF (lsF σ) t).2
    · rw [if_pos c] at g
      exact br_f (by omega) g
    · rw [if_neg c] at g
      exact br_t (by omega) g
theorem L_best {M : MM} (h : Rel M) (x : Int32) : wX4_best (fun r M1 => wX5_best (PQ r) M1 x) M x := by
  obtain ⟨R, σ, hR, hS, hc, hm, hr, him, hsh, htx⟩ := id h
  unfold wX4_best
  refine s_isBetween.mpr ?_
  by_cases hp : (0 : Int32) ≤ x ∧ x ≤ 1
  · refine zt1 hp (s_losts (t := 0) hS hc (by omega) ⟨9, s_best hS hc ?_ 8 0 (by omega)⟩)
    unfold wX5_best
    refine m_in32 0 1 rfl rfl (zt1 hp ⟨10, ?_⟩)
    refine br_f (by decide) ⟨sN σ + 1, m_best1 (t := 0) hS hm (by omega) (fun M2 hk2 => br_t rfl ?_) (sN σ) 0 M (by omega) (fun _ _ => rfl)⟩
    exact m_best (Q := PQ _) hS hm (fun M' hk => ⟨rfl, h.k61 hk⟩) 8 0 M2 (by omega) hk2
  · refine zf1 hp ?_
    unfold wX5_best
    exact m_in32 0 1 rfl rfl (zf1 hp ⟨rfl, h⟩)
-- ===== fits =====
def cbN (σ : SS) (h t : Nat) : Nat → Nat
  | 0 => 1
  | k + 1 => if cbN σ h t k = 1 ∧ Tn h t (sX σ k) = sP σ k then 1 else 0
theorem cbN_le (σ : SS) (h t : Nat) : ∀ k, cbN σ h t k ≤ 1 := by
  intro k
  cases k with
  | zero => exact Nat.le_refl _
  | succ k => rw [cbN]; exact ite_le (by omega) (by omega)
theorem cbN_0 (σ : SS) (h t : Nat) {i : Nat} (e : cbN σ h t i = 0) : ∀ k, i ≤ k → cbN σ h t k = 0 := by
  intro k hk
  induction hk with
  | refl => exact e
  | step _ ih => rw [cbN, if_neg (fun q => by omega)]
theorem s_canBe {Q : Int32 → MM → Prop} {M : MM} {h t : Nat} {R : Nat → Nat} {σ : SS} (ok : okHT h t) (hS : okS R σ) (hc : clT M 1 R σ) (hq : Q (nI (cbN σ h t (sW σ))) M) : wX2_canBe Q M 1 (nI h) (nI t) := by
  have hW := hS.n3.2.2
  have e13 : M 1 13 = nI (sW σ) := hc.2.2.2.2.2.2.2.2.2.1
  have loop : ∀ k i, i + k = sW σ → cbN σ h t i = 1 → wX2_canBe_2 Q 1 (nI h) (nI t) (k + 1) M (nI i) := by
    intro k
    induction k with
    | zero =>
      intro i hi h1
      have : i = sW σ := by omega
      subst this
      rw [h1] at hq
      exact br_t (by rw [e13]; exact nI_le (Nat.le_refl _) (by omega)) hq
    | succ k ih =>
      intro i hi h1
      have g := hc.2.2.2.2.2.2.2.2.2.2.1 i (by omega)
      have b := hS.2.2.2.2.2.2.2.2.2.2.1 i (by omega)
      refine br_f (fun q => ?_) (s_cell (by show i < 12; omega) (by decide +kernel) (s_cell (by show i < 12; omega) (by decide +kernel) ?_))
      · rw [e13] at q
        have := (nI_leI (by omega) (by omega)).mp q; omega
      rw [g.1, g.2]
      have s1 := Sn_le ok.2.1 ok.2.2.2 (show sP σ i ≤ 10000 by omega)
      have s2 := Sn_le ok.2.1 ok.2.2.2 (show sP σ i + 1 ≤ 10000 by omega)
      refine s_lengthOfTurns (by omega) ?_
      rw [nI_ltI (by omega) (by omega)]
      have iff := Tn_iff (n := sP σ i) ok b.2
      have no : ¬ (Sn h t (sP σ i) ≤ sX σ i ∧ sX σ i < Sn h t (sP σ i + 1)) → cbN σ h t (sW σ) = 0 := by
        intro q
        refine cbN_0 σ h t (i := i + 1) ?_ _ (by omega)
        rw [cbN, if_neg (fun q2 => q (iff.mp q2.2))]
      by_cases c1 : sX σ i < Sn h t (sP σ i)
      · rw [no (by omega)] at hq
        exact br_t c1 hq
      · refine br_f c1 ?_
        rw [nI_1 (sP σ i)]
        refine s_lengthOfTurns (by omega) ?_
        rw [nI_ltI (by omega) (by omega)]
        by_cases c2 : sX σ i < Sn h t (sP σ i + 1)
        · refine br_t c2 ?_
          rw [nI_1]
          exact ih (i + 1) (by omega) (by rw [cbN, if_pos ⟨h1, iff.mpr ⟨by omega, c2⟩⟩])
        · rw [no (by omega)] at hq
          exact br_f c2 hq
  exact ⟨_, loop (sW σ) 0 (by omega) rfl⟩
theorem m_canBe {Q : Int32 → MM → Prop} {M : MM} {h t : Nat} {R : Nat → Nat} {σ : SS} (ok : okHT h t) (hS : okS R σ) (hm : mdT M 0 σ) (hq : Q (nI (cbN σ h t (sW σ))) M) : wX5_canBe Q M (nI h) (nI t) := by
  have hW := hS.n3.2.2
  have e13 : M 53 341 = nI (sW σ) := hm.2.2.2.2.2.2.2.2.2.1
  have loop : ∀ k i, i + k = sW σ → cbN σ h t i = 1 → wX5_canBe_2 Q (nI h) (nI t) (k + 1) M (nI i) := by
    intro k
    induction k with
    | zero =>
      intro i hi h1
      have : i = sW σ := by omega
      subst this
      rw [h1] at hq
      exact br_t (by rw [e13]; exact nI_le (Nat.le_refl _) (by omega)) hq
    | succ k ih =>
      intro i hi h1
      have g := hm.2.2.2.2.2.2.2.2.2.2.1 i (by omega)
      rw [Nat.zero_add, Nat.zero_add] at g
      have b := hS.2.2.2.2.2.2.2.2.2.2.1 i (by omega)
      refine br_f (fun q => ?_) ?_
      · rw [e13] at q
        have := (nI_leI (by omega) (by omega)).mp q; omega
      have g1 : (342 : Int32) + (2 : Int32) * nI i = nI (342 + 2 * i) := by rw [n2, pk_mul, show (342 : Int32) = nI 342 from rfl, nI_add]
      have g2 : nI (342 + 2 * i) + 1 = nI (343 + 2 * i) := by rw [nI_1]; congr 1; omega
      rw [g1, g2, clamp_nI (n := 343 + 2 * i) (by omega), clamp_nI (n := 342 + 2 * i) (by omega), g.2]
      refine ⟨v53 (by omega), m_turnsOf ok b.2 ⟨v53 (by omega), ?_⟩⟩
      have ht := Tn_lt ok b.2
      rw [g.1, nI_eq (by omega) (by omega)]
      by_cases c : Tn h t (sX σ i) = sP σ i
      · refine br_t c ?_
        rw [nI_1]
        exact ih (i + 1) (by omega) (by rw [cbN, if_pos ⟨h1, c⟩])
      · have : cbN σ h t (sW σ) = 0 := cbN_0 σ h t (i := i + 1) (by rw [cbN, if_neg (fun q => c q.2)]) _ (by omega)
        rw [this] at hq
        exact br_f c hq
  exact ⟨_, loop (sW σ) 0 (by omega) rfl⟩
def fpN (σ : SS) (n : Nat) : Nat := cbN σ (5 + n / 9) (1 + n % 9) (sW σ)
def fiO (f : Nat → Nat) : Nat → Option Nat
  | 0 => none
  | k + 1 => match fiO f k with
    | some x => some x
    | none => if f k = 1 then some k else none
theorem fiO_lt (f : Nat → Nat) : ∀ k x, fiO f k = some x → x < k := by
  intro k
  induction k with
  | zero => intro x h; exact absurd (show (none : Option Nat) = some x from h) (by simp)
  | succ k ih =>
    intro x h
    rw [fiO] at h
    cases e : fiO f k with
    | some y =>
      rw [e] at h
      have := ih y e
      have h2 : y = x := Option.some.inj h
      omega
    | none =>
      rw [e] at h
      dsimp only at h
      by_cases q : f k = 1
      · rw [if_pos q] at h
        have h2 : k = x := Option.some.inj h
        omega
      · rw [if_neg q] at h
        exact absurd (show (none : Option Nat) = some x from h) (by simp)
theorem fiO_up {f : Nat → Nat} {i x : Nat} (h : fiO f i = some x) : ∀ k, i ≤ k → fiO f k = some x := by
  intro k hk
  induction hk with
  | refl => exact h
  | step _ ih => rw [fiO, ih]
def foI : Option Nat → Int32
  | none => -4
  | some x => nI (10 * (5 + x / 9) + (1 + x % 9))
def fanI (σ : SS) (w : Int32) : Int32 := if w = 0 then nI (suN (fpN σ) 855) else match fiO (fpN σ) 855 with
  | none => -4
  | some x => if w = 1 then nI (5 + x / 9) else nI (1 + x % 9)
theorem fpN_at (σ : SS) {a c : Nat} (hc : c < 9) : fpN σ (9 * a + c) = cbN σ (5 + a) (1 + c) (sW σ) := by
  unfold fpN
  have e1 : (9 * a + c) / 9 = a := by omega
  have e2 : (9 * a + c) % 9 = c := by omega
  rw [e1, e2]
theorem s_cell_s {Q : Int32 → MM → Prop} {M : MM} {i j : Nat} {x v : Int32} (hx : x = nI j) (hj : j < 9) (hv : stV i j = v) (hq : Q v M) : wX4_cell_s Q M i x := by
  subst hx; subst hv
  unfold wX4_cell_s wX4_cell_s_20
  refine ⟨fun h => absurd h (nI_pos (by omega)), fun _ => ⟨fun h => absurd h (nI_ge (b := 9) (by omega) (by omega)), fun _ => ⟨vp_nI hj (by omega), ?_⟩⟩⟩
  rw [clamp_nI (by omega)]; exact hq
theorem s_fit1 {Q : Int32 → MM → Prop} {K : MM → Int32 → Int32 → Prop} {M : MM} {w : Int32} {a : Nat} {R : Nat → Nat} {σ : SS} (hS : okS R σ) (hc : clT M 1 R σ) (hw : w = 0 ∨ w = 1 ∨ w = 2) (ha : a < 95) (hq : Q (fanI σ w) M) (hK : (w ≠ 0 → fiO (fpN σ) (9 * (a + 1)) = none) → K M (nI (suN (fpN σ) (9 * (a + 1)))) (nI (5 + a) + 1)) : ∀ k c, c + k = 9 → (w ≠ 0 → fiO (fpN σ) (9 * a + c) = none) → wX4_fits_41 Q K w (k + 1) M (nI (suN (fpN σ) (9 * a + c))) (nI (5 + a)) (nI (1 + c)) := by
  intro k
  induction k with
  | zero =>
    intro c hcc hn
    have : c = 9 := by omega
    subst this
    unfold wX4_fits_41
    exact s_cell_s (i := 1) (j := 2) (v := 9) rfl (by omega) rfl (br_t (by decide +kernel) (hK hn))
  | succ k ih =>
    intro c hcc hn
    unfold wX4_fits_41
    refine s_cell_s (i := 1) (j := 2) (v := 9) rfl (by omega) rfl ?_
    refine br_f (fun q => ?_) (s_canBe (h := 5 + a) (t := 1 + c) ⟨by omega, by omega, by omega, by omega⟩ hS hc ?_)
    · have := (nI_ltI (a := 9) (by omega) (by omega)).mp q; omega
    have g := ih (c + 1) (by omega)
    have e0 : 9 * a + (c + 1) = (9 * a + c) + 1 := by omega
    rw [e0, suN, fpN_at σ (show c < 9 by omega)] at g
    have hle := cbN_le σ (5 + a) (1 + c) (sW σ)
    have ef := fpN_at σ (a := a) (show c < 9 by omega)
    unfold wX4_fits_87
    by_cases q : cbN σ (5 + a) (1 + c) (sW σ) = 1
    · rw [q] at g ⊢
      have found : w ≠ 0 → fiO (fpN σ) 855 = some (9 * a + c) := by
        intro hw0
        refine fiO_up (i := 9 * a + c + 1) ?_ 855 (by omega)
        rw [fiO, hn hw0]
        dsimp only
        rw [ef, if_pos q]
      refine br_nf (by decide +kernel) ?_
      unfold fanI at hq
      rcases hw with rfl | rfl | rfl
      · refine br_nf (by decide) (br_nf (by decide) ?_)
        rw [nI_1, nI_1]
        exact g (fun q => absurd rfl q)
      · rw [if_neg (by decide), found (by decide)] at hq
        dsimp only at hq
        rw [if_pos rfl, show (9 * a + c) / 9 = a by omega] at hq
        exact br_nt rfl hq
      · rw [if_neg (by decide), found (by decide)] at hq
        dsimp only at hq
        rw [if_neg (by decide), show (9 * a + c) % 9 = c by omega] at hq
        exact br_nf (by decide) (br_nt rfl hq)
    · have q0 : cbN σ (5 + a) (1 + c) (sW σ) = 0 := by omega
      rw [q0] at g ⊢
      refine br_nt rfl ?_
      rw [nI_1]
      refine g (fun hw0 => ?_)
      rw [fiO, hn hw0]
      dsimp only
      rw [ef, if_neg (by omega)]
theorem s_fit2 {Q : Int32 → MM → Prop} {M : MM} {w : Int32} {R : Nat → Nat} {σ : SS} (hS : okS R σ) (hc : clT M 1 R σ) (hw : w = 0 ∨ w = 1 ∨ w = 2) (hq : Q (fanI σ w) M) : ∀ k a, a + k = 95 → (w ≠ 0 → fiO (fpN σ) (9 * a) = none) → wX4_fits_21 Q w (k + 1) M (nI (suN (fpN σ) (9 * a))) (nI (5 + a)) := by
  intro k
  induction k with
  | zero =>
    intro a ha hn
    have : a = 95 := by omega
    subst this
    unfold wX4_fits_21
    refine s_cell_s (i := 1) (j := 1) (v := 99) rfl (by omega) rfl (br_t (by decide +kernel) ?_)
    unfold fanI at hq
    by_cases h0 : w = 0
    · rw [if_pos h0] at hq
      exact br_nt h0 hq
    · have hn2 : fiO (fpN σ) 855 = none := hn h0
      rw [if_neg h0, hn2] at hq
      exact br_nf h0 hq
  | succ k ih =>
    intro a ha hn
    unfold wX4_fits_21
    refine s_cell_s (i := 1) (j := 1) (v := 99) rfl (by omega) rfl (br_f (fun q => ?_) (s_cell_s (i := 0) (j := 2) (v := 1) rfl (by omega) rfl ⟨10, s_fit1 hS hc hw (by omega) hq (fun hn2 => ?_) 9 0 (by omega) hn⟩))
    · have := (nI_ltI (a := 99) (by omega) (by omega)).mp q; omega
    rw [nI_1]
    exact ih (a + 1) (by omega) hn2
theorem m_fit1 {Q : Int32 → MM → Prop} {K : MM → Int32 → Int32 → Int32 → Prop} {M : MM} {w : Int32} {a : Nat} {R : Nat → Nat} {σ : SS} (hS : okS R σ) (hm : mdT M 0 σ) (ha : a < 95) (hK : K M (nI (suN (fpN σ) (9 * (a + 1)))) (foI (fiO (fpN σ) (9 * (a + 1)))) (nI (5 + a) + 1)) : ∀ k c, c + k = 9 → wX5_fits_32 Q K w (k + 1) M (nI (suN (fpN σ) (9 * a + c))) (foI (fiO (fpN σ) (9 * a + c))) (nI (5 + a)) (nI (1 + c)) := by
  intro k
  induction k with
  | zero =>
    intro c hcc
    have : c = 9 := by omega
    subst this
    exact br_t (by decide +kernel) hK
  | succ k ih =>
    intro c hcc
    refine br_f (fun q => ?_) (m_canBe (h := 5 + a) (t := 1 + c) ⟨by omega, by omega, by omega, by omega⟩ hS hm ?_)
    · have := (nI_leI (a := 10) (by omega) (by omega)).mp q; omega
    have g := ih (c + 1) (by omega)
    have e0 : 9 * a + (c + 1) = (9 * a + c) + 1 := by omega
    rw [e0, suN, fpN_at σ (show c < 9 by omega), fiO] at g
    have hle := cbN_le σ (5 + a) (1 + c) (sW σ)
    have ef := fpN_at σ (a := a) (show c < 9 by omega)
    unfold wX5_fits_68 wX5_fits_72
    by_cases q : cbN σ (5 + a) (1 + c) (sW σ) = 1
    · rw [q] at g ⊢
      refine br_f (by decide +kernel) ?_
      rw [nI_1, nI_1]
      cases e : fiO (fpN σ) (9 * a + c) with
      | none =>
        rw [e] at g
        dsimp only at g
        rw [ef, if_pos q] at g
        refine br_nt rfl ?_
        have e5 : (10 : Int32) * nI (5 + a) + nI (1 + c) = foI (some (9 * a + c)) := by
          show _ = nI (10 * (5 + (9 * a + c) / 9) + (1 + (9 * a + c) % 9))
          rw [show (10 : Int32) = nI 10 from rfl, pk_mul, nI_add]; congr 1; omega
        rw [e5]; exact g
      | some x =>
        rw [e] at g
        have := fiO_lt _ _ _ e
        exact br_nf (nI_n4 (by omega)) g
    · have q0 : cbN σ (5 + a) (1 + c) (sW σ) = 0 := by omega
      rw [q0] at g ⊢
      refine br_t rfl ?_
      rw [nI_1]
      cases e : fiO (fpN σ) (9 * a + c) with
      | none =>
        rw [e] at g
        dsimp only at g
        rw [ef, if_neg q] at g
        exact g
      | some x =>
        rw [e] at g
        exact g
theorem m_fit2 {Q : Int32 → MM → Prop} {M : MM} {w : Int32} {R : Nat → Nat} {σ : SS} (hS : okS R σ) (hm : mdT M 0 σ) (hq : Q (fanI σ w) M) : ∀ k a, a + k = 95 → wX5_fits_22 Q w (k + 1) M (nI (suN (fpN σ) (9 * a))) (foI (fiO (fpN σ) (9 * a))) (nI (5 + a)) := by
  intro k
  induction k with
  | zero =>
    intro a ha
    have : a = 95 := by omega
    subst this
    refine br_t (by decide +kernel) ?_
    unfold fanI at hq
    by_cases h0 : w = 0
    · rw [if_pos h0] at hq
      exact br_nt h0 hq
    · rw [if_neg h0] at hq
      refine br_nf h0 ?_
      show (¬ foI (fiO (fpN σ) 855) = -4 → _) ∧ _
      cases e : fiO (fpN σ) 855 with
      | none =>
        rw [e] at hq
        exact br_nt rfl hq
      | some x =>
        rw [e] at hq
        dsimp only at hq
        have hx := fiO_lt _ _ _ e
        refine br_nf (nI_n4 (by omega)) ?_
        have d1 : foI (some x) / 10 = nI (5 + x / 9) := by
          show nI (10 * (5 + x / 9) + (1 + x % 9)) / nI 10 = _
          rw [pk_div (by omega) (by omega) (by omega)]; exact congrArg nI (by omega)
        have d2 : foI (some x) - foI (some x) / 10 * 10 = nI (1 + x % 9) := by
          show nI (10 * (5 + x / 9) + (1 + x % 9)) - nI (10 * (5 + x / 9) + (1 + x % 9)) / nI 10 * nI 10 = _
          rw [pk_rem (by omega) (by omega) (by omega)]; exact congrArg nI (by omega)
        by_cases h1 : w = 1
        · rw [if_pos h1] at hq
          refine br_nt h1 ?_
          show Q (foI (some x) / 10) M
          rw [d1]; exact hq
        · rw [if_neg h1] at hq
          refine br_nf h1 ?_
          show Q (foI (some x) - foI (some x) / 10 * 10) M
          rw [d2]; exact hq
  | succ k ih =>
    intro a ha
    refine br_f (fun q => ?_) ⟨10, m_fit1 hS hm (by omega) ?_ 9 0 (by omega)⟩
    · have := (nI_leI (a := 100) (by omega) (by omega)).mp q; omega
    rw [nI_1]
    exact ih (a + 1) (by omega)
theorem L_fits {M : MM} (h : Rel M) (x : Int32) : wX4_fits (fun r M1 => wX5_fits (PQ r) M1 x) M x := by
  obtain ⟨R, σ, hR, hS, hc, hm, hr, him, hsh, htx⟩ := id h
  unfold wX4_fits
  refine s_isBetween.mpr ?_
  by_cases hp : (0 : Int32) ≤ x ∧ x ≤ 2
  · have hw : x = 0 ∨ x = 1 ∨ x = 2 := by
      obtain ⟨k, hk, rfl⟩ := pl_of (L := 2) (by omega) hp
      have : k = 0 ∨ k = 1 ∨ k = 2 := by omega
      rcases this with rfl | rfl | rfl
      · exact Or.inl rfl
      · exact Or.inr (Or.inl rfl)
      · exact Or.inr (Or.inr rfl)
    refine zt1 hp (s_cell_s (i := 0) (j := 1) (v := 5) rfl (by omega) rfl ⟨96, s_fit2 hS hc hw ?_ 95 0 (by omega) (fun _ => rfl)⟩)
    unfold wX5_fits
    exact m_in32 0 2 rfl rfl (zt1 hp ⟨96, m_fit2 (Q := PQ _) hS hm ⟨rfl, h⟩ 95 0 (by omega)⟩)
  · refine zf1 hp ?_
    unfold wX5_fits
    exact m_in32 0 2 rfl rfl (zf1 hp ⟨rfl, h⟩)
