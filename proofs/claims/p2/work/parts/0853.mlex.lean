-- ===== the reference's letters and tokens =====
def ltM (M : MM) (c : Nat → Nat) (n : Nat) : Prop := n ≤ 400 ∧ M 52 9 = nI n ∧ (∀ i, i < n → M 59 i = nI (c i)) ∧ ∀ i, i < n → c i < 256
theorem ltM.keep {M M1 : MM} {c : Nat → Nat} {n : Nat} (h : ltM M c n) (e1 : M1 52 9 = M 52 9) (e2 : M1 59 = M 59) : ltM M1 c n := by
  unfold ltM; rw [e1, e2]; exact h
theorem a59 : alen 59 = 400 := by decide +kernel
theorem m_look {Q : Int32 → MM → Prop} {M : MM} {c : Nat → Nat} {n i : Nat} (hl : ltM M c n) (hi : i ≤ 410) (h1 : i < n → Q (nI (c i)) M) (h0 : ¬ i < n → Q (-1) M) : wX5_look Q M (nI i) := by
  obtain ⟨l1, l2, l3, l4⟩ := hl
  unfold wX5_look
  rw [l2, a59, nI_leI (by omega) (by omega)]
  by_cases h : i < n
  · refine br_f (by omega) ⟨vp_nI (by omega) (by omega), ?_⟩
    rw [clamp_nI (by omega), l3 i h]
    exact h1 h
  · exact br_t (by omega) (h0 h)
theorem m_A {Q : Int32 → MM → Prop} {M : MM} {x : Nat} (hx : x < 256) (h1 : isA x = true → Q 1 M) (h0 : ¬ isA x = true → Q 0 M) : wX5_in Q M (nI x).toInt64 97 122 := by
  rw [isA_t] at h1 h0
  refine m_in32 97 122 rfl rfl ?_
  have e : ((97 : Int32) ≤ nI x ∧ nI x ≤ 122) ↔ (97 ≤ x ∧ x ≤ 122) := by
    rw [show (97 : Int32) = nI 97 from rfl, show (122 : Int32) = nI 122 from rfl, nI_leI (by omega) (by omega), nI_leI (by omega) (by omega)]
  by_cases q : 97 ≤ x ∧ x ≤ 122
  · rw [bI_t (e.mpr q)]; exact h1 q
  · rw [bI_f (fun z => q (e.mp z))]; exact h0 q
theorem m_F {Q : Int32 → MM → Prop} {M : MM} {x : Nat} (hx : x < 256) (h1 : isF x = true → Q 1 M) (h0 : ¬ isF x = true → Q 0 M) : wX5_in Q M (nI x).toInt64 48 57 := by
  rw [isF_t] at h1 h0
  refine m_in32 48 57 rfl rfl ?_
  have e : ((48 : Int32) ≤ nI x ∧ nI x ≤ 57) ↔ (48 ≤ x ∧ x ≤ 57) := by
    rw [show (48 : Int32) = nI 48 from rfl, show (57 : Int32) = nI 57 from rfl, nI_leI (by omega) (by omega), nI_leI (by omega) (by omega)]
  by_cases q : 48 ≤ x ∧ x ≤ 57
  · rw [bI_t (e.mpr q)]; exact h1 q
  · rw [bI_f (fun z => q (e.mp z))]; exact h0 q
theorem m_A1 {Q : Int32 → MM → Prop} {M : MM} (h0 : Q 0 M) : wX5_in Q M ((-1 : Int32)).toInt64 97 122 := by
  refine m_in32 97 122 rfl rfl ?_
  rw [bI_f (by decide)]; exact h0
theorem m_F1 {Q : Int32 → MM → Prop} {M : MM} (h0 : Q 0 M) : wX5_in Q M ((-1 : Int32)).toInt64 48 57 := by
  refine m_in32 48 57 rfl rfl ?_
  rw [bI_f (by decide)]; exact h0
theorem m_needs1 {Q : MM → Prop} {M : MM} {v : Int32} (hq : Q M) : wX5_needs Q M 1 v := ⟨fun _ => hq, fun q => absurd q (by decide)⟩
theorem m_needs0 {Q : MM → Prop} {M : MM} {v : Int32} (f : M 52 14 = 0) (hq : ∀ M', (∀ a, a ≠ 52 → M' a = M a) → (∀ j, j ≠ 14 → j ≠ 15 → M' 52 j = M 52 j) → M' 52 14 = v → M' 52 15 = M 52 11 → Q M') : wX5_needs Q M 0 v := by
  refine ⟨fun q => absurd rfl q, fun _ => br_nt f ?_⟩
  rintro _ rfl _ rfl
  refine hq _ (fun a ha => by rw [mset_n ha, mset_n ha]) (fun j j1 j2 => by rw [mset_sn j2, mset_sn j1]) (by rw [mset_sn (by decide), mset_ss]) ?_
  rw [mset_ss, mset_sn (by decide)]
/-- what holds behind a token -/
def tokM (c : Nat → Nat) (n p : Nat) (M : MM) : Prop := (tK c n p ≠ 4 → M 52 10 = nI (tE c n p) ∧ M 52 11 = nI (tS c n p) ∧ M 52 12 = nI (tK c n p)) ∧ (tK c n p = 2 → M 52 13 = nI (tV c n p))
def nxP (c : Nat → Nat) (n p : Nat) (M M' : MM) : Prop := (∀ a, a ≠ 52 → M' a = M a) ∧ (∀ j, (j < 10 ∨ 16 ≤ j) → M' 52 j = M 52 j) ∧ tokM c n p M' ∧ (tK c n p = 4 → M' 52 14 = nI 1 ∧ M' 52 15 = nI (tS c n p)) ∧ (tK c n p ≠ 4 → M' 52 14 = 0)
def k10 (M M' : MM) (i : Nat) : Prop := (∀ a, a ≠ 52 → M' a = M a) ∧ (∀ j, j ≠ 10 → M' 52 j = M 52 j) ∧ M' 52 10 = nI i
theorem k10.up {M M' : MM} {i : Nat} (h : k10 M M' i) : k10 M (mset M' 52 10 (M' 52 10 + 1)) (i + 1) :=
  ⟨fun a ha => by rw [mset_n ha]; exact h.1 a ha, fun j hj => by rw [mset_sn hj]; exact h.2.1 j hj, by rw [mset_ss, h.2.2, nI_1]⟩
theorem k10.lt {M M' : MM} {i n : Nat} {c : Nat → Nat} (h : k10 M M' i) (hl : ltM M c n) : ltM M' c n := hl.keep (h.2.1 9 (by decide)) (h.1 59 (by decide))
theorem m_run82 {Q : MM → Prop} {M : MM} {c : Nat → Nat} {n e : Nat} (hl : ltM M c n) (hq : ∀ M', k10 M M' e → Q M') : ∀ r i M', i + r = n → rnN isA c n i = e → k10 M M' i → wX5_next_82 Q (r + 1) M' := by
  have h400 := hl.1
  intro r
  induction r with
  | zero =>
    intro i M' hi he hk
    have hl' := hk.lt hl
    have : ¬ i < n := by omega
    rw [rn_st (fun q => this q.1)] at he
    subst he
    unfold wX5_next_82
    rw [hk.2.2]
    exact m_look hl' (by omega) (fun z => absurd z this) (fun _ => m_A1 (o_t0 (hq M' hk)))
  | succ r ih =>
    intro i M' hi he hk
    have hl' := hk.lt hl
    unfold wX5_next_82
    rw [hk.2.2]
    refine m_look hl' (by omega) (fun h => m_A (hl.2.2.2 i h) (fun q => o_t1 ?_) (fun q => o_t0 ?_)) (fun h => absurd (by omega) h)
    · rintro _ rfl
      have g := hk.up
      exact ih (i + 1) _ (by omega) (by rw [← rn_go h q]; exact he) g
    · rw [rn_st (fun z => q z.2)] at he
      subst he
      exact hq M' hk
/-- the value of the first four figures -/
def k13 (M M' : MM) (c : Nat → Nat) (s i : Nat) : Prop := (∀ a, a ≠ 52 → M' a = M a) ∧ (∀ j, j ≠ 10 → j ≠ 13 → M' 52 j = M 52 j) ∧ M' 52 10 = nI i ∧ M' 52 13 = nI (vF c s (min (i - s) 4))
theorem m_run140 {Q : MM → Prop} {M : MM} {c : Nat → Nat} {n s e : Nat} (hl : ltM M c n) (hs : s ≤ n) (e11 : M 52 11 = nI s) (hf : ∀ j, s ≤ j → j < e → isF (c j) = true) (hq : ∀ M', k13 M M' c s e → (4 < e - s → wX5_next_236 Q M' 0) ∧ (¬ 4 < e - s → wX5_next_236 Q M' 1)) : ∀ r i M', i + r = n → s ≤ i → rnN isF c n i = e → k13 M M' c s i → wX5_next_140 Q (r + 1) M' := by
  have h400 := hl.1
  have fin : ∀ M', k13 M M' c s e → s ≤ e → e ≤ n → (4 < M' 52 10 - M' 52 11 → wX5_next_236 Q M' 0) ∧ (¬ 4 < M' 52 10 - M' 52 11 → wX5_next_236 Q M' 1) := by
    intro M' hk h1 h2
    rw [hk.2.2.1, hk.2.1 11 (by decide) (by decide), e11, pk_sub h1, show (4 : Int32) = nI 4 from rfl, nI_ltI (by omega) (by omega)]
    exact hq M' hk
  intro r
  induction r with
  | zero =>
    intro i M' hi hsi he hk
    have hl' : ltM M' c n := hl.keep (hk.2.1 9 (by decide) (by decide)) (hk.1 59 (by decide))
    have : ¬ i < n := by omega
    rw [rn_st (fun q => this q.1)] at he
    subst he
    unfold wX5_next_140
    have e10 := hk.2.2.1
    rw [e10]
    refine m_look hl' (by omega) (fun z => absurd z this) (fun _ => m_F1 (o_t0 ?_))
    exact fin M' hk hsi (by omega)
  | succ r ih =>
    intro i M' hi hsi he hk
    have hl' : ltM M' c n := hl.keep (hk.2.1 9 (by decide) (by decide)) (hk.1 59 (by decide))
    have e11' : M' 52 11 = nI s := by rw [hk.2.1 11 (by decide) (by decide)]; exact e11
    have e10 := hk.2.2.1
    unfold wX5_next_140
    rw [e10]
    refine m_look hl' (by omega) (fun h => m_F (hl.2.2.2 i h) (fun q => o_t1 ?_) (fun q => o_t0 ?_)) (fun h => absurd (by omega) h)
    · rw [e10, e11', pk_sub hsi, show (4 : Int32) = nI 4 from rfl, nI_leI (by omega) (by omega)]
      have go : ∀ w, w = nI (vF c s (min (i + 1 - s) 4)) → wX5_next_201 Q (fun M => wX5_next_140 Q (r + 1) M) M' w := by
        rintro _ rfl
        unfold wX5_next_201
        rintro _ rfl _ rfl
        refine ih (i + 1) _ (by omega) (by omega) (by rw [← rn_go h q]; exact he) ⟨fun a ha => by rw [mset_n ha, mset_n ha]; exact hk.1 a ha, fun j j1 j2 => by rw [mset_sn j1, mset_sn j2]; exact hk.2.1 j j1 j2, ?_, ?_⟩
        · rw [mset_ss, mset_sn (by decide), e10, nI_1]
        · rw [mset_sn (by decide), mset_ss]
      by_cases k4 : 4 ≤ i - s
      · refine br_t k4 (go _ ?_)
        rw [hk.2.2.2, show min (i - s) 4 = 4 by omega, show min (i + 1 - s) 4 = 4 by omega]
      · refine br_f k4 (m_look hl' (by omega) (fun _ => go _ ?_) (fun z => absurd h z))
        have hc := isF_t.mp q
        have he2 : i < e := by
          rw [← he, rn_go h q]
          have := (rn_b (P := isF) (c := c) (show i + 1 ≤ n by omega)).1
          omega
        rw [hk.2.2.2, show (10 : Int32) = nI 10 from rfl, show (48 : Int32) = nI 48 from rfl, pk_mul, nI_add, pk_sub (by omega)]
        rw [show min (i - s) 4 = i - s by omega, show min (i + 1 - s) 4 = (i - s) + 1 by omega, vF, show s + (i - s) = i by omega]
        congr 1; omega
    · rw [rn_st (fun z => q z.2)] at he
      subst he
      exact fin M' hk hsi (by omega)
/-- a token is read -/
theorem m_next {Q : MM → Prop} {M : MM} {c : Nat → Nat} {n p : Nat} (hl : ltM M c n) (hp : p ≤ n) (f : M 52 14 = 0) (e10 : M 52 10 = nI p) (hq : ∀ M', nxP c n p M M' → Q M') : wX5_next Q M := by
  have h400 := hl.1
  have hsb := tS_b (c := c) hp
  have heb := tE_b (c := c) hp
  -- behind the blanks
  have t8 : ∀ M1, k10 M M1 (tS c n p) → ∀ M3, M3 = mset M1 52 11 (M1 52 10) → wX5_look (fun r4 M5 => (0 ≤ r4 → wX5_in (fun r6 M7 => (r6 = 0 → wX5_in (fun r8 M9 => (r8 = 0 → ∀ M10 : MM, M10 = mset M9 52 12 3 → (¬ r4 = 59 → wX5_next_260 Q M10 0) ∧ (r4 = 59 → wX5_next_260 Q M10 1)) ∧ (¬ r8 = 0 → ∀ M11 : MM, M11 = mset M9 52 12 2 → ∀ M12 : MM, M12 = mset M11 52 13 0 → ∃ m, wX5_next_140 Q m M12)) M7 (r4.toInt64) 48 57) ∧ (¬ r6 = 0 → ∀ M13 : MM, M13 = mset M7 52 12 1 → ∃ m, wX5_next_82 Q m M13)) M5 (r4.toInt64) 97 122) ∧ (¬ 0 ≤ r4 → ∀ M14 : MM, M14 = mset M5 52 12 0 → Q M14)) M3 (M3 52 10) := by
    rintro M1 hk _ rfl
    have hl1 := hk.lt hl
    have l2 : ltM (mset M1 52 11 (M1 52 10)) c n := hl1.keep (mset_sn (by decide)) (mset_n (by decide))
    have f1 : M1 52 14 = 0 := by rw [hk.2.1 14 (by decide)]; exact f
    rw [mset_sn (show 10 ≠ 11 by decide), hk.2.2]
    rw [hk.2.2] at l2
    -- no fault
    have good : ∀ (M2 : MM) (k e : Nat), k ≠ 4 → (∀ a, a ≠ 52 → M2 a = M1 a) → (∀ j, (j < 10 ∨ 14 ≤ j) → M2 52 j = M1 52 j) → M2 52 10 = nI e → M2 52 11 = nI (tS c n p) → M2 52 12 = nI k → tE c n p = e → tK c n p = k → (k = 2 → M2 52 13 = nI (tV c n p)) → Q M2 := by
      intro M2 k e k4 g1 g2 g3 g4 g5 g6 g7 g8
      refine hq M2 ⟨fun a ha => by rw [g1 a ha]; exact hk.1 a ha, fun j hj => by rw [g2 j (by omega)]; exact hk.2.1 j (by omega), ⟨fun _ => ⟨by rw [g6]; exact g3, g4, by rw [g7]; exact g5⟩, fun z => g8 (by rw [← g7]; exact z)⟩, fun z => absurd (g7.symm.trans z) k4, fun _ => by rw [g2 14 (by omega)]; exact f1⟩
    have bad : ∀ (M2 : MM), (∀ a, a ≠ 52 → M2 a = M1 a) → (∀ j, (j < 10 ∨ 16 ≤ j) → M2 52 j = M1 52 j) → M2 52 14 = 1 → M2 52 15 = nI (tS c n p) → tK c n p = 4 → Q M2 := by
      intro M2 g1 g2 g3 g4 g5
      exact hq M2 ⟨fun a ha => by rw [g1 a ha]; exact hk.1 a ha, fun j hj => by rw [g2 j hj]; exact hk.2.1 j (by omega), ⟨fun z => absurd g5 z, fun z => by omega⟩, fun _ => ⟨g3, g4⟩, fun z => absurd g5 z⟩
    refine m_look l2 (by omega) (fun h1 => ?_) (fun h1 => ?_)
    · have hc := hl.2.2.2 _ h1
      refine br_t (show (0 : Int32) ≤ _ from nI_le (a := 0) (Nat.zero_le _) (by omega)) (m_A hc (fun q => o_t1 ?_) (fun q => o_t0 ?_))
      · -- a name
        rintro _ rfl
        have g : k10 (mset (mset M1 52 11 (nI (tS c n p))) 52 12 1) (mset (mset M1 52 11 (nI (tS c n p))) 52 12 1) (tS c n p) := ⟨fun _ _ => rfl, fun _ _ => rfl, by rw [mset_sn (by decide), mset_sn (by decide)]; exact hk.2.2⟩
        refine ⟨n - tS c n p + 1, m_run82 (c := c) (n := n) (e := tE c n p) (l2.keep (mset_sn (by decide)) (mset_n (by decide))) (fun M3 g3 => ?_) (n - tS c n p) (tS c n p) _ (by omega) ?_ g⟩
        · refine good M3 1 (tE c n p) (by decide) (fun a ha => by rw [g3.1 a ha, mset_n ha, mset_n ha]) (fun j hj => by rw [g3.2.1 j (by omega), mset_sn (by omega), mset_sn (by omega)]) g3.2.2 ?_ ?_ rfl ?_ (fun z => absurd z (by decide))
          · rw [g3.2.1 11 (by decide), mset_sn (by decide), mset_ss]
          · rw [g3.2.1 12 (by decide), mset_ss]; rfl
          · unfold tK; rw [if_pos h1, if_pos q]
        · unfold tE; rw [if_pos h1, if_pos q]
      · refine m_F hc (fun q2 => o_t1 ?_) (fun q2 => o_t0 ?_)
        · -- a number
          have eE : tE c n p = rnN isF c n (tS c n p) := by unfold tE; rw [if_pos h1, if_neg q, if_pos q2]
          have eK : tK c n p = if tE c n p - tS c n p ≤ 4 then 2 else 4 := by rw [eE]; unfold tK; rw [if_pos h1, if_neg q, if_pos q2]
          rintro _ rfl _ rfl
          have g : k13 (mset (mset (mset M1 52 11 (nI (tS c n p))) 52 12 2) 52 13 0) (mset (mset (mset M1 52 11 (nI (tS c n p))) 52 12 2) 52 13 0) c (tS c n p) (tS c n p) := ⟨fun _ _ => rfl, fun _ _ _ => rfl, by rw [mset_sn (by decide), mset_sn (by decide), mset_sn (by decide)]; exact hk.2.2, by rw [mset_ss, Nat.sub_self]; rfl⟩
          have l3 : ltM (mset (mset (mset M1 52 11 (nI (tS c n p))) 52 12 2) 52 13 0) c n := l2.keep (by rw [mset_sn (by decide), mset_sn (by decide)]) (by rw [mset_n (by decide), mset_n (by decide)])
          refine ⟨n - tS c n p + 1, m_run140 (c := c) (n := n) (s := tS c n p) (e := tE c n p) l3 hsb.2 ?_ (fun j j1 j2 => rn_in (P := isF) (c := c) (n := n) (n - tS c n p) (tS c n p) j j1 (by show j < rnN isF c n (tS c n p); omega)) (fun M3 g3 => ?_) (n - tS c n p) (tS c n p) _ (by omega) (Nat.le_refl _) eE.symm g⟩
          · rw [mset_sn (by decide), mset_sn (by decide), mset_ss]
          · have f3 : M3 52 14 = 0 := by rw [g3.2.1 14 (by decide) (by decide), mset_sn (by decide), mset_sn (by decide), mset_sn (by decide)]; exact f1
            have e11 : M3 52 11 = nI (tS c n p) := by rw [g3.2.1 11 (by decide) (by decide), mset_sn (by decide), mset_sn (by decide), mset_ss]
            have ka : ∀ a, a ≠ 52 → M3 a = M1 a := fun a ha => by rw [g3.1 a ha, mset_n ha, mset_n ha, mset_n ha]
            have kj : ∀ j, (j < 10 ∨ 14 ≤ j) → M3 52 j = M1 52 j := fun j hj => by rw [g3.2.1 j (by omega) (by omega), mset_sn (by omega), mset_sn (by omega), mset_sn (by omega)]
            constructor
            · intro k4
              rw [if_neg (by omega)] at eK
              unfold wX5_next_236
              refine m_needs0 f3 (fun M4 b1 b2 b3 b4 => bad M4 (fun a ha => by rw [b1 a ha, ka a ha]) (fun j hj => by rw [b2 j (by omega) (by omega), kj j (by omega)]) b3 (by rw [b4, e11]) eK)
            · intro k4
              rw [if_pos (by omega)] at eK
              unfold wX5_next_236
              refine m_needs1 (good M3 2 (tE c n p) (by decide) ka kj g3.2.2.1 e11 ?_ rfl eK (fun _ => g3.2.2.2))
              rw [g3.2.1 12 (by decide) (by decide), mset_sn (by decide), mset_ss]; rfl
        · -- a sign
          have eE : tE c n p = tS c n p + 1 := by unfold tE; rw [if_pos h1, if_neg q, if_neg q2]
          have eK : tK c n p = if c (tS c n p) = 59 then 3 else 4 := by unfold tK; rw [if_pos h1, if_neg q, if_neg q2]
          rintro _ rfl
          unfold wX5_next_260
          rw [show (59 : Int32) = nI 59 from rfl, nI_eq (by omega) (by omega)]
          by_cases c59 : c (tS c n p) = 59
          · rw [if_pos c59] at eK
            refine br_nt c59 (m_needs1 ?_)
            rintro _ rfl
            refine good _ 3 (tS c n p + 1) (by decide) (fun a ha => by rw [mset_n ha, mset_n ha, mset_n ha]) (fun j hj => by rw [mset_sn (by omega), mset_sn (by omega), mset_sn (by omega)]) ?_ ?_ ?_ eE eK (fun z => absurd z (by decide))
            · rw [mset_ss, mset_sn (by decide), mset_sn (by decide), hk.2.2, nI_1]
            · rw [mset_sn (by decide), mset_sn (by decide), mset_ss]
            · rw [mset_sn (by decide), mset_ss]; rfl
          · rw [if_neg c59] at eK
            refine br_nf c59 (m_needs0 ?_ (fun M4 b1 b2 b3 b4 => ?_))
            · rw [mset_sn (by decide), mset_sn (by decide)]; exact f1
            · rintro _ rfl
              refine bad _ (fun a ha => by rw [mset_n ha, b1 a ha, mset_n ha, mset_n ha]) (fun j hj => by rw [mset_sn (by omega), b2 j (by omega) (by omega), mset_sn (by omega), mset_sn (by omega)]) ?_ ?_ eK
              · rw [mset_sn (by decide)]; exact b3
              · rw [mset_sn (by decide), b4, mset_sn (by decide), mset_ss]
    · -- the end
      refine br_f (by decide) ?_
      rintro _ rfl
      refine good _ 0 (tS c n p) (by decide) (fun a ha => by rw [mset_n ha, mset_n ha]) (fun j hj => by rw [mset_sn (by omega), mset_sn (by omega)]) ?_ ?_ ?_ ?_ ?_ (fun z => absurd z (by decide))
      · rw [mset_sn (by decide), mset_sn (by decide)]; exact hk.2.2
      · rw [mset_sn (by decide), mset_ss]
      · rw [mset_ss]; rfl
      · unfold tE; rw [if_neg h1]
      · unfold tK; rw [if_neg h1]
  -- the blanks
  have t0 : ∀ r i M', i + r = n → rnN isB c n i = tS c n p → k10 M M' i → wX5_next_8 Q (r + 1) M' := by
    intro r
    induction r with
    | zero =>
      intro i M' hi he hk
      have hl' := hk.lt hl
      have hni : ¬ i < n := by omega
      rw [rn_st (fun q => hni q.1)] at he
      unfold wX5_next_8
      rw [hk.2.2]
      refine m_look hl' (by omega) (fun z => absurd z hni) (fun _ => br_nf (by decide) ?_)
      have hk2 := hk
      rw [he] at hk2
      exact t8 M' hk2
    | succ r ih =>
      intro i M' hi he hk
      have hl' := hk.lt hl
      unfold wX5_next_8
      rw [hk.2.2]
      refine m_look hl' (by omega) (fun h => ?_) (fun h => absurd (by omega) h)
      have hc := hl.2.2.2 i h
      rw [show (32 : Int32) = nI 32 from rfl, nI_eq (by omega) (by omega)]
      by_cases q : c i = 32
      · refine br_nt q ?_
        rintro _ rfl
        have g := hk.up
        exact ih (i + 1) _ (by omega) (by rw [← rn_go h (isB_t.mpr q)]; exact he) g
      · refine br_nf q ?_
        rw [rn_st (fun z => q (isB_t.mp z.2))] at he
        have hk2 := hk
        rw [he] at hk2
        exact t8 M' hk2
  unfold wX5_next
  refine br_t (by rw [f]; decide) ⟨n - p + 1, t0 (n - p) p M (by omega) rfl ⟨fun _ _ => rfl, fun _ _ => rfl, e10⟩⟩
theorem m_nextF {Q : MM → Prop} {M : MM} {k : Nat} (h1 : 1 ≤ k) (hk : k < 100) (f : M 52 14 = nI k) (hq : Q M) : wX5_next Q M := by
  unfold wX5_next
  refine br_f ?_ hq
  rw [f, show (0 : Int32) = nI 0 from rfl, nI_leI (by omega) (by omega)]
  omega
