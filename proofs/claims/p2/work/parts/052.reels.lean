-- ===== branches on what is known =====
theorem br_nt {c A B : Prop} (h : c) (b : B) : (¬ c → A) ∧ (c → B) := ⟨fun q => absurd h q, fun _ => b⟩
theorem br_nf {c A B : Prop} (h : ¬ c) (a : A) : (¬ c → A) ∧ (c → B) := ⟨fun _ => a, fun q => absurd q h⟩
theorem zt1 {p : Prop} [Decidable p] {A B : Prop} (h : p) (a : A) : (¬ bI p = 0 → A) ∧ (bI p = 0 → B) := ⟨fun _ => a, fun q => absurd h (bI_0.mp q)⟩
theorem zt2 {p : Prop} [Decidable p] {A B : Prop} (h : p) (a : A) : (bI p = 0 → B) ∧ (¬ bI p = 0 → A) := ⟨fun q => absurd h (bI_0.mp q), fun _ => a⟩
theorem zf1 {p : Prop} [Decidable p] {A B : Prop} (h : ¬ p) (b : B) : (¬ bI p = 0 → A) ∧ (bI p = 0 → B) := ⟨fun q => absurd (bI_0.mpr h) q, fun _ => b⟩
theorem zf2 {p : Prop} [Decidable p] {A B : Prop} (h : ¬ p) (b : B) : (bI p = 0 → B) ∧ (¬ bI p = 0 → A) := ⟨fun _ => b, fun q => absurd (bI_0.mpr h) q⟩
-- ===== the reference's 'in' =====
theorem m_in {Q : Int32 → MM → Prop} {M : MM} {x lo hi : Int64} : wX5_in Q M x lo hi ↔ Q (bI (lo ≤ x ∧ x ≤ hi)) M := by
  unfold wX5_in wX5_in_17
  rw [lg_cmp_lt, lg_cmp_gt]
  by_cases h1 : x < lo
  · have h3 : ¬ (lo ≤ x ∧ x ≤ hi) := fun q => absurd q.1 (Int64.not_le.mpr h1)
    simp [h1, bI_f h3]
  · by_cases h2 : hi < x
    · have h3 : ¬ (lo ≤ x ∧ x ≤ hi) := fun q => absurd q.2 (Int64.not_le.mpr h2)
      simp [h1, h2, bI_f h3]
    · have h3 : lo ≤ x ∧ x ≤ hi := ⟨Int64.not_lt.mp h1, Int64.not_lt.mp h2⟩
      simp [h1, h2, bI_t h3]
theorem wide_le (a b : Int32) : a.toInt64 ≤ b.toInt64 ↔ a ≤ b := by
  rw [Int64.le_iff_toInt_le, Int32.le_iff_toInt_le, Int32.toInt_toInt64, Int32.toInt_toInt64]
theorem bI_cg {p q : Prop} [Decidable p] [Decidable q] (h : p ↔ q) : bI p = bI q := by
  by_cases hp : p
  · rw [bI_t hp, bI_t (h.mp hp)]
  · rw [bI_f hp, bI_f (fun x => hp (h.mpr x))]
theorem m_in32 {Q : Int32 → MM → Prop} {M : MM} {x : Int32} {lo' hi' : Int64} (lo hi : Int32) (e1 : lo' = lo.toInt64) (e2 : hi' = hi.toInt64) (hq : Q (bI (lo ≤ x ∧ x ≤ hi)) M) : wX5_in Q M x.toInt64 lo' hi' := by
  subst e1; subst e2
  rw [m_in, bI_cg (q := lo ≤ x ∧ x ≤ hi) (by rw [wide_le, wide_le])]
  exact hq
theorem m_isPlace {Q : Int32 → MM → Prop} {M : MM} {x : Int32} {L : Nat} (e : M 53 366 = nI L) (hq : Q (bI (0 ≤ x ∧ x ≤ nI L)) M) : wX5_isPlace Q M x := by
  unfold wX5_isPlace
  rw [e]
  exact m_in32 0 (nI L) rfl rfl ⟨nb_bI _, hq⟩
theorem s_hasPlace {Q : Int32 → MM → Prop} {M : MM} {b L : Nat} {x : Int32} (hb : tpB b) (e : M (b + 1) 0 = nI L) (hq : Q (bI (0 ≤ x ∧ x ≤ nI L)) M) : wX2_hasPlace Q M b x := by
  unfold wX2_hasPlace
  refine s_ruled hb 0 (by omega) rfl ?_
  rw [e]
  exact s_isBetween.mpr ⟨nb_bI _, hq⟩
/-- a number that lies from 0 to L -/
theorem pl_of {x : Int32} {L : Nat} (hL : L < 2 ^ 31) (h : 0 ≤ x ∧ x ≤ nI L) : ∃ j, j ≤ L ∧ x = nI j := nI_of2 (nI_toInt hL) (Int32.not_lt.mpr h.1) h.2
theorem pl_in {j L : Nat} (hj : j ≤ L) (hL : L < 2 ^ 31) : (0 : Int32) ≤ nI j ∧ nI j ≤ nI L := ⟨nI_pos' (by omega), nI_le hj hL⟩
theorem m_turnsAt {Q : Int32 → MM → Prop} {M : MM} {R : Nat → Nat} {a : Nat} (hR : okR R) (hr : rlT M R) (ha : a ≤ 9999) (hq : Q (nI (Tn (R 1) (R 2) a)) M) : wX5_turnsAt Q M (nI a) := by
  unfold wX5_turnsAt
  rw [hr 1 (by omega) (by omega), hr 2 (by omega) (by omega)]
  exact m_turnsOf hR.1 ha hq
theorem s_turnsR {Q : Int32 → MM → Prop} {M : MM} {b a : Nat} {R : Nat → Nat} {σ : SS} (hb : tpB b) (hR : okR R) (hc : clT M b R σ) (ha : a ≤ 9999) (hq : Q (nI (Tn (R 1) (R 2) a)) M) : wX2_turnsOf Q M b (nI a) :=
  s_turnsOf hb hR.1 (hc.1.2 1 (by omega) (by omega)) (hc.1.2 2 (by omega) (by omega)) ha hq
-- ===== TICKS =====
def dstN (x y : Nat) : Nat := (y - x) + (x - y)
def plN (R : Nat → Nat) (x y : Nat) : Nat := if x = y then 0 else R 5 + R 3 * dstN x y
def woN (R : Nat → Nat) (L x y : Nat) : Nat := if x = y then 0 else 2 * R 5 + R 4 * (if y ≤ x then Tn (R 1) (R 2) (L - y) - Tn (R 1) (R 2) (L - x) else Tn (R 1) (R 2) y - Tn (R 1) (R 2) x)
def soN (R : Nat → Nat) (L x y : Nat) : Nat := if woN R L x y < plN R x y then woN R L x y else plN R x y
theorem plN_lt {R : Nat → Nat} (hR : okR R) {x y : Nat} (hx : x ≤ 9999) (hy : y ≤ 9999) : plN R x y < 1000000 := by
  unfold plN dstN
  split
  · omega
  · have h1 : R 3 * ((y - x) + (x - y)) ≤ 99 * 9999 := Nat.mul_le_mul hR.2.1.2 (by omega)
    have h2 := hR.2.2.2.1
    omega
theorem woN_lt {R : Nat → Nat} (hR : okR R) {L x y : Nat} (hL : L ≤ 9999) (hx : x ≤ L) (hy : y ≤ L) : woN R L x y < 1000000 := by
  unfold woN
  split
  · omega
  · have h3 : (if y ≤ x then Tn (R 1) (R 2) (L - y) - Tn (R 1) (R 2) (L - x) else Tn (R 1) (R 2) y - Tn (R 1) (R 2) x) ≤ 2001 := by
      have a1 := Tn_lt (a := L - y) hR.1 (by omega)
      have a2 := Tn_lt (a := y) hR.1 (by omega)
      split <;> omega
    have h1 := Nat.mul_le_mul hR.2.2.1.2 h3
    have h2 := hR.2.2.2.1
    omega
theorem abs_dst {x y : Nat} (hx : x ≤ 9999) (hy : y ≤ 9999) : (if (0 : Int32) ≤ (nI y - nI x) then (nI y - nI x) else 0 - (nI y - nI x)) = nI (dstN x y) := by
  unfold dstN
  by_cases h : x ≤ y
  · rw [pk_sub h, if_pos (nI_pos' (by omega))]; congr 1; omega
  · rw [if_neg (Int32.not_le.mpr (pk_sneg (by omega) (by omega)))]
    have e : (0 : Int32) - (nI y - nI x) = nI x - nI y := by rw [Int32.zero_sub, Int32.neg_sub]
    rw [e, pk_sub (by omega)]; congr 1; omega
theorem s_played {Q : Int32 → MM → Prop} {M : MM} {b x y : Nat} {R : Nat → Nat} {σ : SS} (hb : tpB b) (hc : clT M b R σ) (hx : x ≤ 9999) (hy : y ≤ 9999) (hq : Q (nI (plN R x y)) M) : wX2_played Q M b (nI x) (nI y) := by
  unfold wX2_played
  rw [nI_eq (by omega) (by omega)]
  by_cases h : x = y
  · refine br_nt h ?_
    have e : plN R x y = 0 := if_pos h
    rw [e] at hq; exact hq
  · refine br_nf h (s_ruled hb 5 (by omega) rfl ?_)
    unfold wX2_playedThrough
    refine s_ruled hb 3 (by omega) rfl ?_
    rw [abs_dst hx hy, hc.1.2 5 (by omega) (by omega), hc.1.2 3 (by omega) (by omega), pk_mul]
    dsimp only
    rw [nI_add]
    have e : plN R x y = R 5 + R 3 * dstN x y := if_neg h
    rw [e] at hq; exact hq
theorem s_wound {Q : Int32 → MM → Prop} {M : MM} {b x y : Nat} {R : Nat → Nat} {σ : SS} (hb : tpB b) (hR : okR R) (hc : clT M b R σ) (hL : sL σ ≤ 9999) (hx : x ≤ sL σ) (hy : y ≤ sL σ) (hq : Q (nI (woN R (sL σ) x y)) M) : wX2_wound Q M b (nI x) (nI y) := by
  unfold wX2_wound
  rw [nI_eq (by omega) (by omega)]
  by_cases h : x = y
  · refine br_nt h ?_
    have e : woN R (sL σ) x y = 0 := if_pos h
    rw [e] at hq; exact hq
  · refine br_nf h (s_ruled hb 0 (by omega) rfl ?_)
    have e : woN R (sL σ) x y = 2 * R 5 + R 4 * (if y ≤ x then Tn (R 1) (R 2) (sL σ - y) - Tn (R 1) (R 2) (sL σ - x) else Tn (R 1) (R 2) y - Tn (R 1) (R 2) x) := if_neg h
    rw [hc.1.1, nI_leI (by omega) (by omega)]
    have fin : ∀ d, d = (if y ≤ x then Tn (R 1) (R 2) (sL σ - y) - Tn (R 1) (R 2) (sL σ - x) else Tn (R 1) (R 2) y - Tn (R 1) (R 2) x) → wX2_wound_47 Q b (nI x) (nI y) M (nI d) := by
      intro d hd
      unfold wX2_wound_47
      refine s_ruled hb 5 (by omega) rfl (s_ruled hb 4 (by omega) rfl ?_)
      rw [hc.1.2 5 (by omega) (by omega), hc.1.2 4 (by omega) (by omega), n2, pk_mul, pk_mul, nI_add, hd, ← e]
      exact hq
    by_cases g : y ≤ x
    · refine br_t g ?_
      rw [pk_sub hy]
      refine s_turnsR hb hR hc (by omega) ?_
      rw [pk_sub hx]
      refine s_turnsR hb hR hc (by omega) ?_
      rw [pk_sub (Tn_mono hR.1 (by omega) (by omega))]
      exact fin _ (by rw [if_pos g])
    · refine br_f g (s_turnsR hb hR hc (by omega) (s_turnsR hb hR hc (by omega) ?_))
      rw [pk_sub (Tn_mono hR.1 (by omega) (by omega))]
      exact fin _ (by rw [if_neg g])
theorem s_sooner {Q : Int32 → MM → Prop} {M : MM} {b x y : Nat} {R : Nat → Nat} {σ : SS} (hb : tpB b) (hR : okR R) (hc : clT M b R σ) (hL : sL σ ≤ 9999) (hx : x ≤ sL σ) (hy : y ≤ sL σ) (hq : Q (nI (soN R (sL σ) x y)) M) : wX2_sooner Q M b (nI x) (nI y) := by
  unfold wX2_sooner
  refine s_played hb hc (by omega) (by omega) (s_wound hb hR hc hL hx hy ?_)
  have h1 := plN_lt hR (x := x) (y := y) (by omega) (by omega)
  have h2 := woN_lt hR hL hx hy
  have e : (if nI (woN R (sL σ) x y) < nI (plN R x y) then nI (woN R (sL σ) x y) else nI (plN R x y)) = nI (soN R (sL σ) x y) := by
    unfold soN
    by_cases g : woN R (sL σ) x y < plN R x y
    · rw [if_pos g, if_pos ((nI_ltI (by omega) (by omega)).mpr g)]
    · rw [if_neg g, if_neg (fun q => g ((nI_ltI (by omega) (by omega)).mp q))]
  rw [e]; exact hq
theorem m_played {Q : Int32 → MM → Prop} {M : MM} {x y : Nat} {R : Nat → Nat} (hr : rlT M R) (hx : x ≤ 9999) (hy : y ≤ 9999) (hq : Q (nI (plN R x y)) M) : wX5_playedTo Q M (nI x) (nI y) := by
  unfold wX5_playedTo
  rw [nI_eq (by omega) (by omega)]
  by_cases h : x = y
  · refine br_nt h ?_
    have e : plN R x y = 0 := if_pos h
    rw [e] at hq; exact hq
  · refine br_nf h ?_
    have e : plN R x y = R 5 + R 3 * dstN x y := if_neg h
    rw [e] at hq
    unfold wX5_apart
    rw [nI_leI (by omega) (by omega), hr 5 (by omega) (by omega), hr 3 (by omega) (by omega)]
    by_cases g : y ≤ x
    · refine br_t g ?_
      rw [pk_sub g]
      dsimp only
      rw [pk_mul, nI_add]
      have e2 : dstN x y = x - y := by unfold dstN; omega
      rw [← e2]; exact hq
    · refine br_f g ?_
      rw [pk_sub (by omega)]
      dsimp only
      rw [pk_mul, nI_add]
      have e2 : dstN x y = y - x := by unfold dstN; omega
      rw [← e2]; exact hq
theorem m_wound {Q : Int32 → MM → Prop} {M : MM} {x y L : Nat} {R : Nat → Nat} (hR : okR R) (hr : rlT M R) (eL : M 53 366 = nI L) (hL : L ≤ 9999) (hx : x ≤ L) (hy : y ≤ L) (hq : Q (nI (woN R L x y)) M) : wX5_woundTo Q M (nI x) (nI y) := by
  unfold wX5_woundTo
  rw [nI_eq (by omega) (by omega)]
  by_cases h : x = y
  · refine br_nt h ?_
    have e : woN R L x y = 0 := if_pos h
    rw [e] at hq; exact hq
  · refine br_nf h ?_
    have e : woN R L x y = 2 * R 5 + R 4 * (if y ≤ x then Tn (R 1) (R 2) (L - y) - Tn (R 1) (R 2) (L - x) else Tn (R 1) (R 2) y - Tn (R 1) (R 2) x) := if_neg h
    rw [eL, nI_leI (by omega) (by omega)]
    have fin : ∀ d, d = (if y ≤ x then Tn (R 1) (R 2) (L - y) - Tn (R 1) (R 2) (L - x) else Tn (R 1) (R 2) y - Tn (R 1) (R 2) x) → wX5_woundTo_55 Q (nI x) (nI y) M (nI d) := by
      intro d hd
      unfold wX5_woundTo_55
      rw [hr 5 (by omega) (by omega), hr 4 (by omega) (by omega), n2, pk_mul, pk_mul, nI_add, hd, ← e]
      exact hq
    by_cases g : y ≤ x
    · refine br_t g ?_
      rw [pk_sub hy]
      refine m_turnsAt hR hr (by omega) ?_
      rw [eL, pk_sub hx]
      refine m_turnsAt hR hr (by omega) ?_
      rw [pk_sub (Tn_mono hR.1 (by omega) (by omega))]
      exact fin _ (by rw [if_pos g])
    · refine br_f g (m_turnsAt hR hr (by omega) (m_turnsAt hR hr (by omega) ?_))
      rw [pk_sub (Tn_mono hR.1 (by omega) (by omega))]
      exact fin _ (by rw [if_neg g])
theorem m_sooner {Q : Int32 → MM → Prop} {M : MM} {x y L : Nat} {R : Nat → Nat} (hR : okR R) (hr : rlT M R) (eL : M 53 366 = nI L) (hL : L ≤ 9999) (hx : x ≤ L) (hy : y ≤ L) (hq : Q (nI (soN R L x y)) M) : wX5_sooner Q M (nI x) (nI y) := by
  unfold wX5_sooner
  refine m_played hr (by omega) (by omega) (m_wound hR hr eL hL hx hy ?_)
  have h1 := plN_lt hR (x := x) (y := y) (by omega) (by omega)
  have h2 := woN_lt hR hL hx hy
  unfold wX5_less
  rw [nI_leI (by omega) (by omega)]
  by_cases g : woN R L x y ≤ plN R x y
  · refine br_t g ?_
    have e : soN R L x y = woN R L x y := by unfold soN; split <;> omega
    rw [e] at hq; exact hq
  · refine br_f g ?_
    have e : soN R L x y = plN R x y := by unfold soN; split <;> omega
    rw [e] at hq; exact hq
-- ===== pairs: rule, turns, ticks, fault, torn =====
/-- what the law asks of a pair of answers -/
def PQ (r : Int32) : Int32 → MM → Prop := fun r2 M2 => r = r2 ∧ Rel M2
/-- which fault is told: where both hold the same -/
theorem L_fault1 {M : MM} (h : Rel M) (e : M 0 9 = M 52 14) : wX4_fault (fun r M1 => wX5_fault (PQ r) M1) M := by
  unfold wX4_fault wX5_fault
  exact ⟨e, h⟩
theorem L_fault {M : MM} (h : Rel M) : wX4_fault (fun _ M1 => wX5_fault (fun _ M2 => Rel M2) M1) M := by
  unfold wX4_fault wX5_fault
  exact h
theorem L_torn {M : MM} (h : Rel M) : wX4_torn (fun r M1 => wX5_torn (PQ r) M1) M := by
  unfold wX4_torn wX5_torn
  have h1 : txT M := by obtain ⟨_, _, _, _, _, _, _, _, _, h8⟩ := h; exact h8
  exact ⟨h1.2.2, h⟩
theorem L_turns {M : MM} (h : Rel M) (x l : Int32) : wX4_turns (fun r M1 => wX5_turns (PQ r) M1 x l) M x l := by
  obtain ⟨R, σ, hR, hS, hc, hm, hr, -⟩ := id h
  have hL := hS.1.2
  have hb : tpB 1 := Or.inl rfl
  unfold wX4_turns
  refine s_hasPlace hb hc.1.1 ?_
  by_cases hp : (0 : Int32) ≤ x ∧ x ≤ nI (sL σ)
  · obtain ⟨j, hj, rfl⟩ := pl_of (by omega) hp
    have md : ∀ r a, (a = if l = 0 then j else sL σ - j) → r = nI (Tn (R 1) (R 2) a) → wX5_turns (PQ r) M (nI j) l := by
      intro r a ha hr2
      unfold wX5_turns
      refine m_isPlace hm.1 (zt1 hp ?_)
      unfold wX5_turns_31
      by_cases hl : l = 0
      · rw [if_pos hl] at ha
        exact br_t hl (m_turnsAt hR hr (by omega) ⟨by rw [hr2, ha], h⟩)
      · rw [if_neg hl] at ha
        refine br_f hl ?_
        rw [hm.1, pk_sub hj]
        exact m_turnsAt hR hr (by omega) ⟨by rw [hr2, ha], h⟩
    refine zt1 hp ?_
    by_cases hl : l = 0
    · exact br_t hl (s_turnsR hb hR hc (by omega) (md _ j (by rw [if_pos hl]) rfl))
    · refine br_f hl ?_
      unfold wX2_leftTurns
      refine s_ruled hb 0 (by omega) rfl ?_
      rw [hc.1.1, pk_sub hj]
      exact s_turnsR hb hR hc (by omega) (md _ _ (by rw [if_neg hl]) rfl)
  · refine zf1 hp ?_
    unfold wX5_turns
    exact m_isPlace hm.1 (zf1 hp ⟨rfl, h⟩)
theorem L_ticks {M : MM} (h : Rel M) (x y w : Int32) : wX4_ticks (fun r M1 => wX5_ticks (PQ r) M1 x y w) M x y w := by
  obtain ⟨R, σ, hR, hS, hc, hm, hr, -⟩ := id h
  have hL := hS.1.2
  have hb : tpB 1 := Or.inl rfl
  unfold wX4_ticks
  refine s_hasPlace hb hc.1.1 ?_
  by_cases hp : (0 : Int32) ≤ x ∧ x ≤ nI (sL σ)
  · refine zt2 hp (s_hasPlace hb hc.1.1 ?_)
    by_cases hp2 : (0 : Int32) ≤ y ∧ y ≤ nI (sL σ)
    · refine zt1 hp2 ?_
      obtain ⟨i, hi, rfl⟩ := pl_of (by omega) hp
      obtain ⟨j, hj, rfl⟩ := pl_of (by omega) hp2
      have md : ∀ r, ((w = 0 ∧ r = nI (plN R i j)) ∨ (w = 1 ∧ r = nI (woN R (sL σ) i j)) ∨ (w = 2 ∧ r = nI (soN R (sL σ) i j)) ∨ (¬ (0 ≤ w ∧ w ≤ 2) ∧ r = -1)) → wX5_ticks (PQ r) M (nI i) (nI j) w := by
        intro r hw
        unfold wX5_ticks
        refine m_isPlace hm.1 (zt2 hp (m_isPlace hm.1 (zt2 hp2 (m_in32 0 2 rfl rfl ?_))))
        rcases hw with ⟨rfl, rfl⟩ | ⟨rfl, rfl⟩ | ⟨rfl, rfl⟩ | ⟨hw, rfl⟩
        · exact zt1 (by decide) (br_nt rfl (m_played hr (by omega) (by omega) ⟨rfl, h⟩))
        · exact zt1 (by decide) (br_nf (by decide) (br_nt rfl (m_wound hR hr hm.1 hL hi hj ⟨rfl, h⟩)))
        · exact zt1 (by decide) (br_nf (by decide) (br_nf (by decide) (m_sooner hR hr hm.1 hL hi hj ⟨rfl, h⟩)))
        · exact zf1 hw ⟨rfl, h⟩
      by_cases h0 : w = 0
      · exact br_t h0 (s_played hb hc (by omega) (by omega) (md _ (Or.inl ⟨h0, rfl⟩)))
      refine br_f h0 ?_
      by_cases h1 : w = 1
      · exact br_t h1 (s_wound hb hR hc hL hi hj (md _ (Or.inr (Or.inl ⟨h1, rfl⟩))))
      refine br_f h1 ?_
      by_cases h2 : w = 2
      · exact br_t h2 (s_sooner hb hR hc hL hi hj (md _ (Or.inr (Or.inr (Or.inl ⟨h2, rfl⟩)))))
      refine br_f h2 (md _ (Or.inr (Or.inr (Or.inr ⟨fun q => ?_, rfl⟩))))
      obtain ⟨k, hk, rfl⟩ := pl_of (L := 2) (by omega) q
      have : k = 0 ∨ k = 1 ∨ k = 2 := by omega
      rcases this with rfl | rfl | rfl
      · exact h0 rfl
      · exact h1 rfl
      · exact h2 rfl
    · refine zf1 hp2 ?_
      unfold wX5_ticks
      exact m_isPlace hm.1 (zt2 hp (m_isPlace hm.1 (zf2 hp2 ⟨rfl, h⟩)))
  · refine zf2 hp ?_
    unfold wX5_ticks
    exact m_isPlace hm.1 (zf2 hp ⟨rfl, h⟩)
