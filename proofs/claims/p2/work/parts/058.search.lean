-- ===== buffer =====
theorem stF_le {n ev each hit bf : Nat} (hn : n ≤ 99) (he : ev ≤ 9999) (hea : each ≤ 20000) (hh : hit ≤ 999) : ∀ k i U st, U ≤ 1000000 + i * 21000 → (stF n ev each hit bf k i U st).1 ≤ 1000000 + (i + k + 1) * 21000 := by
  intro k
  induction k with
  | zero => intro i U st hU; show U + each ≤ _; omega
  | succ k ih =>
    intro i U st hU
    rw [stF]
    split
    · have := ih (i + 1) (flN n ev bf (U + each + hit) (i + 1)) (st + 1) (by rcases flN_le (n := n) (bf := bf) (t := U + each + hit) (nx := i + 1) hn he with g | g <;> omega)
      exact Nat.le_trans this (by omega)
    · have := ih (i + 1) (U + each) st (by omega)
      exact Nat.le_trans this (by omega)
theorem stA_lt {R : Nat → Nat} {n l ev bf : Nat} (hR : okR R) (hn : 1 ≤ n ∧ n ≤ 99) (hl : l ≤ 99) (he : ev ≤ 9999) : (stA R n l ev bf).1 < 10000000 := by
  have h8 := hR.2.2.2.2.2.2
  have h3 := hR.2.1
  have h6 := hR.2.2.2.2.1
  have hea : R 3 * (l + R 6) ≤ 20000 := Nat.le_trans (Nat.mul_le_mul h3.2 (show l + R 6 ≤ 198 by omega)) (by decide)
  have := stF_le (bf := bf) (hit := R 8) hn.2 he hea h8 (n - 1) 0 (flN n ev bf 0 0) 0 (by rcases flN_le (n := n) (bf := bf) (t := 0) (nx := 0) hn.2 he with g | g <;> omega)
  unfold stA
  omega
/-- the best buffer up to k -/
def bfN (R : Nat → Nat) (n l ev : Nat) : Nat → Nat
  | 0 => 1
  | k + 1 => if k = 0 then 1 else if (stA R n l ev (k + 1)).1 < (stA R n l ev (bfN R n l ev k)).1 then k + 1 else bfN R n l ev k
theorem bfN_in (R : Nat → Nat) (n l ev : Nat) : ∀ k, 1 ≤ bfN R n l ev k ∧ (1 ≤ k → bfN R n l ev k ≤ k) := by
  intro k
  induction k with
  | zero => exact ⟨Nat.le_refl _, fun q => by omega⟩
  | succ k ih =>
    rw [bfN]
    split
    · omega
    · split <;> omega
theorem s_buf {Q : Int32 → MM → Prop} {M : MM} {n l ev : Nat} {w : Int32} {R : Nat → Nat} {σ : SS} (hR : okR R) (hc : clT M 1 R σ) (hn : 1 ≤ n ∧ n ≤ 99) (hl : l ≤ 99) (he : ev ≤ 9999) (hq : Q (if w = 0 then nI (bfN R n l ev n) else nI (stA R n l ev (bfN R n l ev n)).1) M) : ∀ k i, i + k = n → 1 ≤ i → wX4_buffer_41 Q (nI n) (nI l) (nI ev) w (k + 1) M (nI (bfN R n l ev i)) (nI (stA R n l ev (bfN R n l ev i)).1) (nI (i + 1)) := by
  intro k
  induction k with
  | zero =>
    intro i hi h1
    have : i = n := by omega
    subst this
    refine br_t (nI_lt (by omega) (by omega)) ?_
    by_cases hw : w = 0
    · rw [if_pos hw] at hq; exact br_nt hw hq
    · rw [if_neg hw] at hq; exact br_nf hw hq
  | succ k ih =>
    intro i hi h1
    refine br_f (fun q => ?_) (s_streamed hR hc hn hl ⟨by omega, by omega⟩ he ?_)
    · have := (nI_ltI (by omega) (by omega)).mp q; omega
    · rw [if_pos rfl]
      have t1 := stA_lt (bf := i + 1) hR hn hl he
      have t2 := stA_lt (bf := bfN R n l ev i) hR hn hl he
      rw [nI_leI (by omega) (by omega)]
      unfold wX4_buffer_77
      have e : bfN R n l ev (i + 1) = if (stA R n l ev (i + 1)).1 < (stA R n l ev (bfN R n l ev i)).1 then i + 1 else bfN R n l ev i := by rw [bfN, if_neg (by omega)]
      have g := ih (i + 1) (by omega) (by omega)
      rw [e] at g
      rw [nI_1]
      by_cases c : (stA R n l ev (i + 1)).1 < (stA R n l ev (bfN R n l ev i)).1
      · rw [if_pos c] at g
        exact br_f (by omega) g
      · rw [if_neg c] at g
        exact br_t (by omega) g
theorem m_buf {Q : Int32 → MM → Prop} {M : MM} {n l ev : Nat} {w : Int32} {R : Nat → Nat} (hR : okR R) (hr : rlT M R) (hn : 1 ≤ n ∧ n ≤ 99) (hl : l ≤ 99) (he : ev ≤ 9999) (hq : ∀ v, Q (if w = 0 then nI (bfN R n l ev n) else nI (stA R n l ev (bfN R n l ev n)).1) (mset M 52 21 v)) : ∀ k i v, i + k = n → 1 ≤ i → wX5_buffer_38 Q (nI n) (nI l) (nI ev) w (k + 1) (mset M 52 21 v) (nI (bfN R n l ev i)) (nI (stA R n l ev (bfN R n l ev i)).1) (nI (i + 1)) := by
  intro k
  induction k with
  | zero =>
    intro i v hi h1
    have : i = n := by omega
    subst this
    refine br_t (nI_lt (by omega) (by omega)) ?_
    have hq := hq v
    by_cases hw : w = 0
    · rw [if_pos hw] at hq; exact br_nt hw hq
    · rw [if_neg hw] at hq; exact br_nf hw hq
  | succ k ih =>
    intro i v hi h1
    refine br_f (fun q => ?_) (m_streams hR (hr.keep (mset_n (by decide))) hn hl ⟨by omega, by omega⟩ he ?_)
    · have := (nI_ltI (by omega) (by omega)).mp q; omega
    · rw [mset_mset]
      have t1 := stA_lt (bf := i + 1) hR hn hl he
      have t2 := stA_lt (bf := bfN R n l ev i) hR hn hl he
      rw [nI_leI (by omega) (by omega)]
      unfold wX5_buffer_69
      have e : bfN R n l ev (i + 1) = if (stA R n l ev (i + 1)).1 < (stA R n l ev (bfN R n l ev i)).1 then i + 1 else bfN R n l ev i := by rw [bfN, if_neg (by omega)]
      have g := ih (i + 1) (nI (stA R n l ev (i + 1)).2) (by omega) (by omega)
      rw [e] at g
      by_cases c : (stA R n l ev (i + 1)).1 < (stA R n l ev (bfN R n l ev i)).1
      · rw [if_pos c] at g
        refine br_f (by omega) (m_less (by omega) (by omega) ?_)
        have e2 : (if (stA R n l ev (bfN R n l ev i)).1 < (stA R n l ev (i + 1)).1 then (stA R n l ev (bfN R n l ev i)).1 else (stA R n l ev (i + 1)).1) = (stA R n l ev (i + 1)).1 := by split <;> omega
        rw [e2, nI_1]; exact g
      · rw [if_neg c] at g
        refine br_t (by omega) (m_less (by omega) (by omega) ?_)
        have e2 : (if (stA R n l ev (bfN R n l ev i)).1 < (stA R n l ev (i + 1)).1 then (stA R n l ev (bfN R n l ev i)).1 else (stA R n l ev (i + 1)).1) = (stA R n l ev (bfN R n l ev i)).1 := by split <;> omega
        rw [e2, nI_1]; exact g
theorem L_buffer {M : MM} (h : Rel M) (n l e w : Int32) : wX4_buffer (fun r M1 => wX5_buffer (PQ r) M1 n l e w) M n l e w := by
  obtain ⟨R, σ, hR, hS, hc, hm, hr, him, hsh, htx⟩ := id h
  unfold wX4_buffer
  refine s_isStream (fun hp => o_t1 (s_isBetween.mpr ?_)) (fun hp => o_t0 ?_)
  · by_cases hw : (0 : Int32) ≤ w ∧ w ≤ 1
    · refine zt1 hw ?_
      obtain ⟨n', hn1, hn2, rfl⟩ := in1_of (L := 99) (by omega) hp.1
      obtain ⟨l', hl1, hl2, rfl⟩ := in1_of (L := 99) (by omega) hp.2.1
      obtain ⟨e', he, rfl⟩ := pl_of (L := 9999) (by omega) hp.2.2
      refine s_streamed (bf := 1) hR hc ⟨hn1, hn2⟩ hl2 ⟨by omega, by omega⟩ he ?_
      rw [if_pos rfl]
      refine ⟨n' - 1 + 1, s_buf hR hc ⟨hn1, hn2⟩ hl2 he ?_ (n' - 1) 1 (by omega) (by omega)⟩
      unfold wX5_buffer
      refine m_isStream (fun _ => o_t1 (m_in32 0 1 rfl rfl (zt1 hw (m_streams (bf := 1) hR hr ⟨hn1, hn2⟩ hl2 ⟨by omega, by omega⟩ he ⟨n' - 1 + 1, ?_⟩)))) (fun q => absurd hp q)
      exact m_buf (Q := PQ _) hR hr ⟨hn1, hn2⟩ hl2 he (fun v => ⟨rfl, h.stops v⟩) (n' - 1) 1 _ (by omega) (by omega)
    · refine zf1 hw ?_
      unfold wX5_buffer
      exact m_isStream (fun _ => o_t1 (m_in32 0 1 rfl rfl (zf1 hw ⟨rfl, h⟩))) (fun q => absurd hp q)
  · unfold wX5_buffer
    exact m_isStream (fun q => absurd q hp) (fun _ => o_t0 ⟨rfl, h⟩)
-- ===== meet =====
theorem s_meet {Q : Int32 → MM → Prop} {M : MM} {R : Nat → Nat} {σ : SS} {x0 : Nat} (hR : okR R) (hS : okS R σ) (hc : clT M 1 R σ) (hq : Q (nI x0) M) (hx : x0 ≤ sL σ) (h1 : ∀ x, x0 ≤ x → x ≤ sL σ → Tn (R 1) (R 2) (sL σ - x) ≤ Tn (R 1) (R 2) x) (h0 : ∀ x, x < x0 → Tn (R 1) (R 2) x < Tn (R 1) (R 2) (sL σ - x)) : ∀ k s lo hi, s + k = 14 → hi - lo < 2 ^ k → lo ≤ x0 → x0 ≤ hi → hi ≤ sL σ → wX2_meetingPlace_10 Q 1 (k + 1) M (nI lo) (nI hi) (nI s) := by
  have hL := hS.1.2
  have hb : tpB 1 := Or.inl rfl
  intro k
  induction k with
  | zero =>
    intro s lo hi hs hd a1 a2 a3
    have e : lo = hi := by omega
    have e2 : lo = x0 := by omega
    refine br_f (fun q => ?_) (br_t (nI_le (by omega) (by omega)) (by rw [e2]; exact hq))
    have := (nI_leI (a := 32) (by omega) (by omega)).mp q; omega
  | succ k ih =>
    intro s lo hi hs hd a1 a2 a3
    refine br_f (fun q => ?_) ?_
    · have := (nI_leI (a := 32) (by omega) (by omega)).mp q; omega
    rw [nI_leI (by omega) (by omega)]
    by_cases c : hi ≤ lo
    · have e2 : lo = x0 := by omega
      exact br_t c (by rw [e2]; exact hq)
    · refine br_f c ?_
      rintro x3 e3
      rw [nI_add, n2, pk_div (by omega) (by omega) (by omega)] at e3
      subst e3
      have hp : 2 ^ (k + 1) = 2 * 2 ^ k := by rw [Nat.pow_succ]; omega
      have hmid : (lo + hi) / 2 < hi ∧ lo ≤ (lo + hi) / 2 := by omega
      unfold wX2_rightTurns
      refine s_turnsR hb hR hc (by omega) ?_
      unfold wX2_leftTurns
      refine s_ruled hb 0 (by omega) rfl ?_
      rw [hc.1.1, pk_sub (by omega)]
      refine s_turnsR hb hR hc (by omega) ?_
      have t1 := Tn_lt (a := (lo + hi) / 2) hR.1 (by omega)
      have t2 := Tn_lt (a := sL σ - (lo + hi) / 2) hR.1 (by omega)
      dsimp only
      rw [nI_ltI (by omega) (by omega)]
      unfold wX2_meetingPlace_54
      by_cases d : Tn (R 1) (R 2) ((lo + hi) / 2) < Tn (R 1) (R 2) (sL σ - (lo + hi) / 2)
      · refine br_t d ?_
        rintro _ rfl
        rw [nI_1, nI_1]
        have : (lo + hi) / 2 < x0 := by
          apply Nat.lt_of_not_le
          intro q
          have := h1 _ q (by omega); omega
        exact ih (s + 1) _ _ (by omega) (by omega) (by omega) a2 a3
      · refine br_f d ?_
        rw [nI_1]
        have : x0 ≤ (lo + hi) / 2 := by
          apply Nat.le_of_not_lt
          intro q
          exact d (h0 _ q)
        exact ih (s + 1) _ _ (by omega) (by omega) a1 this (by omega)
theorem m_meet {Q : Int32 → MM → Prop} {M : MM} {R : Nat → Nat} {σ : SS} {x0 : Nat} (hR : okR R) (hS : okS R σ) (hr : rlT M R) (hm : mdT M 0 σ) (hq : Q (nI x0) M) (hx : x0 ≤ sL σ) (h1 : Tn (R 1) (R 2) (sL σ - x0) ≤ Tn (R 1) (R 2) x0) (h0 : ∀ x, x < x0 → Tn (R 1) (R 2) x < Tn (R 1) (R 2) (sL σ - x)) : ∀ k x, x + k = x0 → wX5_meet_2 Q (k + 1) M (nI x) := by
  have hL := hS.1.2
  intro k
  induction k with
  | zero =>
    intro x hx0
    have : x = x0 := by omega
    subst this
    refine m_turnsAt hR hr (by omega) ?_
    rw [show M 53 366 = nI (sL σ) from hm.1, pk_sub (by omega)]
    refine m_turnsAt hR hr (by omega) ?_
    have t1 := Tn_lt (a := x) hR.1 (by omega)
    exact br_t (nI_le h1 (by omega)) hq
  | succ k ih =>
    intro x hx0
    refine m_turnsAt hR hr (by omega) ?_
    rw [show M 53 366 = nI (sL σ) from hm.1, pk_sub (by omega)]
    refine m_turnsAt hR hr (by omega) ?_
    have t1 := Tn_lt (a := x) hR.1 (by omega)
    have t2 := Tn_lt (a := sL σ - x) hR.1 (by omega)
    have := h0 x (by omega)
    refine br_f (fun q => ?_) ?_
    · have := (nI_leI (by omega) (by omega)).mp q; omega
    · rw [nI_1]; exact ih (x + 1) (by omega)
theorem L_meet {M : MM} (h : Rel M) : wX4_meet (fun r M1 => wX5_meet (PQ r) M1) M := by
  obtain ⟨R, σ, hR, hS, hc, hm, hr, him, hsh, htx⟩ := id h
  have hL := hS.1.2
  obtain ⟨x0, p0, p1⟩ := pk_least (fun x => sL σ ≤ x ∨ Tn (R 1) (R 2) (sL σ - x) ≤ Tn (R 1) (R 2) x) ⟨sL σ, Or.inl (Nat.le_refl _)⟩
  have hx : x0 ≤ sL σ := by
    apply Nat.le_of_not_lt
    intro q
    exact p1 _ q (Or.inl (Nat.le_refl _))
  have e1 : Tn (R 1) (R 2) (sL σ - x0) ≤ Tn (R 1) (R 2) x0 := by
    rcases p0 with q | q
    · exact Tn_mono hR.1 (by omega) (by omega)
    · exact q
  have e2 : ∀ x, x0 ≤ x → x ≤ sL σ → Tn (R 1) (R 2) (sL σ - x) ≤ Tn (R 1) (R 2) x := by
    intro x a1 a2
    have b1 := Tn_mono (a := sL σ - x) (b := sL σ - x0) hR.1 (by omega) (by omega)
    have b2 := Tn_mono (a := x0) (b := x) hR.1 (by omega) a1
    omega
  have e3 : ∀ x, x < x0 → Tn (R 1) (R 2) x < Tn (R 1) (R 2) (sL σ - x) := by
    intro x hx2
    have := p1 x hx2
    omega
  unfold wX4_meet wX2_meetingPlace
  refine s_ruled (Or.inl rfl) 0 (by omega) rfl ⟨15, ?_⟩
  rw [hc.1.1]
  refine s_meet hR hS hc ?_ hx e2 e3 14 0 0 (sL σ) rfl (by have : (2:Nat) ^ 14 = 16384 := rfl; omega) (Nat.zero_le _) hx (Nat.le_refl _)
  unfold wX5_meet
  exact ⟨x0 + 1, m_meet (Q := PQ _) hR hS hr hm ⟨rfl, h⟩ hx e1 e3 x0 0 (by omega)⟩
