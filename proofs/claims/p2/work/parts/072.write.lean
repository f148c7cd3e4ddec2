-- ===== write, mark =====
def puS (σ : SS) (k n bg : Nat) (T : Nat → Nat) : SS :=
  uB σ (sL σ) (k + 1) (sH σ) (fun j => if j = k then bg else sB σ j) (fun j => if j = k then n else sZ σ j) (fun c => if c < 13 * k then sC σ c else if c < 13 * k + n then odN (T (c - 13 * k)) else rwN T n) (fun c => if c < 12 * k then sO σ c else T (c - 12 * k)) (sK σ)
theorem clT.put {M M' : MM} {b k n bg : Nat} {T : Nat → Nat} {R : Nat → Nat} {σ : SS} (h : clT M b R σ) (hZ : ∀ j, j < sN σ → sZ σ j ≤ 12) (hk : k ≤ sN σ) (hp : pbP M M' b k n bg T) : clT M' b R (puS σ k n bg T) := by
  obtain ⟨p1, p2, p3, p4, p5, p6, p7, p8, p9, p10, p11, p12⟩ := hp
  refine h.blk _ _ _ _ _ _ _ _ ?_ (fun r hr => ?_) p3 ?_ (fun j hj => ?_) (fun j hj => ?_) (fun j hj i hi => ?_) (fun j hj i hi => ?_) ?_ ?_ ?_ ?_ ?_ ?_ ?_
  · rw [p1 _ (by omega) (by omega) (by omega) (by omega) (by omega)]; exact h.1.1
  · rw [p1 _ (by omega) (by omega) (by omega) (by omega) (by omega)]
  · rw [p2 _ (by omega)]; exact h.2.2.1
  · by_cases e : j = k
    · rw [if_pos e, e]; exact p5
    · rw [if_neg e, p4 j e]; exact h.2.2.2.1 j (by omega)
  · by_cases e : j = k
    · rw [if_pos e, e]; exact p7
    · rw [if_neg e, p6 j e]; exact h.2.2.2.2.1 j (by omega)
  · by_cases e : j = k
    · subst e
      rw [if_pos rfl] at hi
      rw [if_neg (by omega)]
      by_cases e2 : i = n
      · subst e2
        rw [if_neg (by omega), show j * 13 + i = 13 * j + i by omega]; exact p10
      · rw [if_pos (by omega), show j * 13 + i - 13 * j = i by omega, show j * 13 + i = 13 * j + i by omega]; exact p9 i (by omega)
    · rw [if_neg e] at hi
      have := hZ j (by omega)
      rw [if_pos (by omega), p8 _ (by omega)]
      exact h.2.2.2.2.2.1 j (by omega) i hi
  · by_cases e : j = k
    · subst e
      rw [if_pos rfl] at hi
      rw [if_neg (by omega), show j * 12 + i - 12 * j = i by omega, show j * 12 + i = 12 * j + i by omega]; exact p12 i hi
    · rw [if_neg e] at hi
      have := hZ j (by omega)
      rw [if_pos (by omega), p11 _ (by omega)]
      exact h.2.2.2.2.2.2.1 j (by omega) i hi
  · rw [p2 _ (by omega)]
  · rw [p1 _ (by omega) (by omega) (by omega) (by omega) (by omega)]
  · rw [p2 _ (by omega)]
  · rw [p1 _ (by omega) (by omega) (by omega) (by omega) (by omega)]
  · rw [p1 _ (by omega) (by omega) (by omega) (by omega) (by omega)]
  · rw [p2 _ (by omega)]; exact h.2.2.2.2.2.2.2.2.2.2.2.1
  · rw [p2 _ (by omega)]
theorem mdT.put {M M' : MM} {k n bg : Nat} {T : Nat → Nat} {R : Nat → Nat} {σ : SS} (h : mdT M 0 σ) (hS : okS R σ) (hk : k ≤ sN σ) (hk12 : k < 12) (hn : n ≤ 12) (hp : plP M M' k n bg T) : mdT M' 0 (puS σ k n bg T) := by
  obtain ⟨p1, p2, p3, p4, p5, p6, p7, p8⟩ := hp
  have h12 := hS.2.1
  refine h.blk hS _ _ _ _ _ _ _ _ ?_ p2 ?_ (fun j hj => ?_) (fun j hj => ?_) (fun j hj i hi => ?_) (fun j hj i hi => ?_) (fun j h1 h2 => ?_) ?_
  · rw [p8 _ (by omega) (by omega) (by omega) (by omega) (by omega)]; exact h.1
  · rw [p8 _ (by omega) (by omega) (by omega) (by omega) (by omega)]; exact h.2.2.1
  · by_cases e : j = k
    · rw [if_pos e, e]; exact p3
    · rw [if_neg e, p8 _ (by omega) (by omega) (by omega) (by omega) (by omega)]; exact mB h (by omega)
  · by_cases e : j = k
    · rw [if_pos e, e]; exact p4
    · rw [if_neg e, p8 _ (by omega) (by omega) (by omega) (by omega) (by omega)]; exact mZ h (by omega)
  · by_cases e : j = k
    · subst e
      rw [if_pos rfl] at hi
      rw [if_neg (by omega)]
      by_cases e2 : i = n
      · subst e2
        rw [if_neg (by omega), show 25 + (j * 13 + i) = 25 + 13 * j + i by omega]; exact p6
      · rw [if_pos (by omega), show j * 13 + i - 13 * j = i by omega, show 25 + (j * 13 + i) = 25 + 13 * j + i by omega]; exact p5 i (by omega)
    · rw [if_neg e] at hi
      have := hS.z12 j (by omega)
      rw [if_pos (by omega), p8 _ (by omega) (by omega) (by omega) (by omega) (by omega)]
      exact mC h (by omega) hi
  · by_cases e : j = k
    · subst e
      rw [if_pos rfl] at hi
      rw [if_neg (by omega), show j * 12 + i - 12 * j = i by omega, show 181 + (j * 12 + i) = 181 + 12 * j + i by omega]; exact p7 i hi
    · rw [if_neg e] at hi
      have := hS.z12 j (by omega)
      rw [if_pos (by omega), p8 _ (by omega) (by omega) (by omega) (by omega) (by omega)]
      exact mO h (by omega) hi
  · rw [p8 _ (by omega) (by omega) (by omega) (by omega) (by omega)]
  · rw [p8 _ (by omega) (by omega) (by omega) (by omega) (by omega)]; exact h.2.2.2.2.2.2.2.2.2.2.2.1
theorem ea_ge {R : Nat → Nat} {σ : SS} (hS : okS R σ) {j k : Nat} (hj : j < k) (hk : k ≤ sN σ) : sB σ j + lgN R (sZ σ j) ≤ eaN R σ k := by
  unfold eaN
  rw [if_neg (by omega)]
  by_cases e : j = k - 1
  · rw [e]; exact Nat.le_refl _
  · have := hS.2.2.2.2.1 j (k - 1) (by omega) (by omega)
    omega
theorem ea_le {R : Nat → Nat} {σ : SS} (hS : okS R σ) {k : Nat} (hk : k ≤ sN σ) : eaN R σ k ≤ sL σ := by
  unfold eaN
  by_cases e : k = 0
  · rw [if_pos e]; omega
  · rw [if_neg e]; exact (hS.2.2.2.1 (k - 1) (by omega)).2
theorem okS.put {R : Nat → Nat} {σ : SS} (hS : okS R σ) {k n bg : Nat} {T : Nat → Nat} (hk : k ≤ sN σ) (hk12 : k < 12) (hn : n ≤ 12) (hbg : eaN R σ k ≤ bg) (hL : bg + lgN R n ≤ sL σ) (hT : ∀ i, i < n → T i < 256) : okS R (puS σ k n bg T) := by
  refine hS.blk hS.1 (by omega) hS.2.2.1 (fun j hj => ?_) (fun i j hi hj => ?_) (fun j hj i hi => ?_) (fun j hj i hi => ?_)
  · by_cases e : j = k
    · rw [if_pos e, if_pos e]; exact ⟨hn, hL⟩
    · rw [if_neg e, if_neg e]; exact hS.2.2.2.1 j (by omega)
  · rw [if_neg (show i ≠ k by omega), if_neg (show i ≠ k by omega)]
    by_cases e : j = k
    · rw [if_pos e]
      exact Nat.le_trans (ea_ge hS (by omega) hk) hbg
    · rw [if_neg e]; exact hS.2.2.2.2.1 i j hi (by omega)
  · by_cases e : j = k
    · subst e
      rw [if_pos rfl] at hi
      rw [if_neg (by omega)]
      by_cases e2 : i < n
      · rw [if_pos (by omega)]; exact odN_lt (hT _ (by omega))
      · rw [if_neg (by omega)]; exact rwN_lt n hT
    · rw [if_neg e] at hi
      have := hS.z12 j (by omega)
      rw [if_pos (by omega)]; exact hS.2.2.2.2.2.1 j (by omega) i hi
  · by_cases e : j = k
    · subst e
      rw [if_pos rfl] at hi
      rw [if_neg (by omega)]; exact hT _ (by omega)
    · rw [if_neg e] at hi
      have := hS.z12 j (by omega)
      rw [if_pos (by omega)]; exact hS.2.2.2.2.2.2.1 j (by omega) i hi
-- the class
theorem s_beginningAt {Q : Int32 → MM → Prop} {M : MM} {b k : Nat} {R : Nat → Nat} {σ : SS} (hb : tpB b) (hR : okR R) (hS : okS R σ) (hc : clT M b R σ) (hk : k ≤ sN σ) (hq : Q (nI (eaN R σ k + R 6)) M) : wX2_beginningAt Q M b (nI k) := by
  unfold wX2_beginningAt
  refine s_endAt hb hR hS hc hk (s_ruled hb 6 (by omega) rfl ?_)
  rw [hc.1.2 6 (by omega) (by omega), nI_add]; exact hq
def rmP (R : Nat → Nat) (σ : SS) (k n : Nat) : Prop := k < 12 ∧ eaN R σ k + R 6 + lgN R n ≤ sL σ
theorem s_hasRoomAt {Q : Int32 → MM → Prop} {M : MM} {k n : Nat} {R : Nat → Nat} {σ : SS} (hR : okR R) (hS : okS R σ) (hc : clT M 1 R σ) (hk : k ≤ sN σ) (hn : n ≤ 12) (h1 : rmP R σ k n → Q 1 M) (h0 : ¬ rmP R σ k n → Q 0 M) : wX2_hasRoomAt Q M 1 (nI k) (nI n) := by
  have hb : tpB 1 := Or.inl rfl
  have h12 := hS.2.1
  have hL := hS.1.2
  have hl := lgN_le hR (n := n) (by omega)
  have he := ea_le hS hk
  have h6 := hR.2.2.2.2.1
  unfold wX2_hasRoomAt wX2_hasRoomAt_29
  by_cases q : 12 ≤ k
  · exact br_t (nI_le q (by omega)) (h0 (fun e => by have := e.1; omega))
  · refine br_f (fun e => q ((nI_leI (a := 12) (by omega) (by omega)).mp e)) (s_beginningAt hb hR hS hc hk (s_longWith hb hR hc (by omega) (s_ruled hb 0 (by omega) rfl ?_)))
    rw [hc.1.1, nI_add, nI_ltI (by omega) (by omega)]
    by_cases q2 : eaN R σ k + R 6 + lgN R n ≤ sL σ
    · exact br_f (by omega) (h1 ⟨by omega, q2⟩)
    · exact br_t (by omega) (h0 (fun e => q2 e.2))
def tkN (R : Nat → Nat) (σ : SS) (k n : Nat) : Nat := soN R (sL σ) (sH σ) (eaN R σ k + R 6) + R 3 * lgN R n
def wrS (R : Nat → Nat) (σ : SS) (k n : Nat) (T : Nat → Nat) : SS := uH (puS σ k n (eaN R σ k + R 6) T) (eaN R σ k + R 6 + lgN R n) (sK σ + nI (tkN R σ k n))
theorem okS.wr {R : Nat → Nat} {σ : SS} (hS : okS R σ) {k n : Nat} {T : Nat → Nat} (hk : k ≤ sN σ) (hn : n ≤ 12) (hr : rmP R σ k n) (hT : ∀ i, i < n → T i < 256) : okS R (wrS R σ k n T) :=
  (hS.put hk hr.1 hn (by omega) hr.2 hT).uH hr.2 _
theorem tkN_lt {R : Nat → Nat} (hR : okR R) {σ : SS} (hS : okS R σ) {k n : Nat} (hn : n ≤ 12) (hr : rmP R σ k n) : tkN R σ k n < 2000000 := by
  have hL := hS.1.2
  have hH := hS.2.2.1
  have hl := lgN_le hR (n := n) (by omega)
  have hx := hr.2
  have h1 := plN_lt hR (x := sH σ) (y := eaN R σ k + R 6) (by omega) (by omega)
  have h2 := woN_lt hR hL hH (show eaN R σ k + R 6 ≤ sL σ by omega)
  have h3 : R 3 * lgN R n ≤ 99 * 108 := Nat.mul_le_mul hR.2.1.2 hl.2
  unfold tkN soN
  split <;> omega
theorem s_writeAt {Q : Int32 → MM → Prop} {M : MM} {k n : Nat} {T : Nat → Nat} {R : Nat → Nat} {σ : SS} (hR : okR R) (hS : okS R σ) (hc : clT M 1 R σ) (hk : k ≤ sN σ) (hn : n ≤ 12) (hr : rmP R σ k n) (hT : ∀ i, i < n → T i < 256 ∧ M 7 i = nI (T i)) (hq : ∀ M', clT M' 1 R (wrS R σ k n T) → (∀ a, a ≠ 1 → a ≠ 3 → a ≠ 4 → a ≠ 5 → a ≠ 6 → M' a = M a) → Q (nI (tkN R σ k n)) M') : wX2_writeAt Q M 1 (nI k) (nI n) := by
  have hb : tpB 1 := Or.inl rfl
  have hL := hS.1.2
  have hH := hS.2.2.1
  have h12 := hS.2.1
  have hl := lgN_le hR (n := n) (by omega)
  have hx := hr.2
  have hT0 : ∀ i, i < n → T i < 256 := fun i hi => (hT i hi).1
  unfold wX2_writeAt
  refine s_beginningAt hb hR hS hc hk ?_
  rw [show M 1 9 = nI (sH σ) from hc.2.2.1]
  refine s_sooner hb hR hc hL hH (by omega) (s_longWith hb hR hc (by omega) ?_)
  unfold wX2_playedThrough
  refine s_ruled hb 3 (by omega) rfl ?_
  rw [hc.1.2 3 (by omega) (by omega), pk_mul]
  refine s_putBlock hb hr.1 hn hT (fun M9 hp => ?_)
  have hS9 := hS.put hk hr.1 hn (by omega) hr.2 hT0
  have hc9 := hc.put hS.z12 hk hp
  refine s_endOf hb hR hS9 hc9 (show k < k + 1 by omega) ?_
  have e1 : sB (puS σ k n (eaN R σ k + R 6) T) k = eaN R σ k + R 6 := if_pos rfl
  have e2 : sZ (puS σ k n (eaN R σ k + R 6) T) k = n := if_pos rfl
  rw [e1, e2]
  rintro _ rfl _ rfl
  rw [nI_add]
  refine hq _ ?_ (fun a q1 q2 q3 q4 q5 => ?_)
  · refine hc9.obj (fun i h1 h2 => ?_) rfl rfl rfl rfl rfl ?_ ?_ ?_ ?_ ?_ ?_
    · rw [mset_n (by omega), mset_n (by omega)]
    · rw [mset_sn (by omega), mset_sn (by omega)]
    · rw [mset_sn (by omega), mset_sn (by omega)]
    · rw [mset_sn (by omega), mset_sn (by omega)]
    · rw [mset_sn (by omega), mset_ss]; rfl
    · rw [mset_ss, mset_sn (by omega), hp.2.1 10 (by decide)]
      show M 1 10 + _ = sK σ + _
      rw [show M 1 10 = sK σ from hc.2.2.2.2.2.2.2.2.2.2.2.1]; rfl
    · rw [mset_sn (by omega), mset_sn (by omega), hp.2.1 12 (by decide)]
      exact hc.2.2.2.2.2.2.2.2.2.2.2.2
  · rw [mset_n q1, mset_n q1, hp.1 a q1 (by omega) (by omega) (by omega) (by omega)]
-- the reference
theorem m_beginOf {Q : Int32 → MM → Prop} {M : MM} {k : Nat} {R : Nat → Nat} {σ : SS} (hR : okR R) (hS : okS R σ) (hr : rlT M R) (hm : mdT M 0 σ) (hk : k ≤ sN σ) (hq : Q (nI (eaN R σ k + R 6)) M) : wX5_beginOf Q M (nI k) := by
  have h12 := hS.2.1
  unfold wX5_beginOf
  unfold eaN at hq
  rw [hr 6 (by omega) (by omega), show (0 : Int32) = nI 0 from rfl, nI_eq (by omega) (by omega)]
  by_cases q : k = 0
  · rw [if_pos q] at hq
    refine br_nt q ?_
    rw [nI_add, Nat.add_comm]; exact hq
  · rw [if_neg q] at hq
    refine br_nf q ?_
    rw [nI_sub1 (by omega)]
    refine m_endOf hR hS hr hm (by omega) ?_
    rw [nI_add, Nat.add_comm]; exact hq
theorem m_goesTo {Q : Int32 → MM → Prop} {M : MM} {x h L : Nat} {R : Nat → Nat} (hR : okR R) (hr : rlT M R) (eL : M 53 366 = nI L) (eH : M 53 325 = nI h) (hL : L ≤ 9999) (hh : h ≤ L) (hx : x ≤ L) (hq : Q (nI (soN R L h x)) (mset (mset M 53 325 (nI x)) 53 326 (M 53 326 + nI (soN R L h x)))) : wX5_goesTo Q M (nI x) := by
  unfold wX5_goesTo
  rw [eH]
  refine m_sooner hR hr eL hL hh hx ?_
  rintro _ rfl _ rfl
  rw [mset_sn (show (326:Nat) ≠ 325 by decide)]
  exact hq
theorem m_writes {Q : Int32 → MM → Prop} {M : MM} {k n : Nat} {T : Nat → Nat} {R : Nat → Nat} {σ : SS} (hR : okR R) (hS : okS R σ) (hr : rlT M R) (hm : mdT M 0 σ) (hk : k ≤ sN σ) (hn : n ≤ 12) (hT : ∀ i, i < n → T i < 256 ∧ M 60 i = nI (T i)) (h1 : rmP R σ k n → ∀ M', mdT M' 0 (wrS R σ k n T) → (∀ a, a ≠ 53 → M' a = M a) → (∀ j, 400 ≤ j → M' 53 j = M 53 j) → Q (nI (tkN R σ k n)) M') (h0 : ¬ rmP R σ k n → Q (-3) M) : wX5_writes Q M (nI k) (nI n) := by
  have hL := hS.1.2
  have hH := hS.2.2.1
  have h12 := hS.2.1
  have hl := lgN_le hR (n := n) (by omega)
  have he := ea_le hS hk
  have h6 := hR.2.2.2.2.1
  unfold wX5_writes
  by_cases q : k = 12
  · refine br_t (by rw [q]; rfl) (h0 (fun e => by have := e.1; omega))
  refine br_f (fun e => q ((nI_eq (b := 12) (by omega) (by omega)).mp e)) (m_beginOf hR hS hr hm hk (m_longOf hR hr (by omega) ?_))
  rw [nI_add, show M 53 366 = nI (sL σ) from hm.1, nI_leI (by omega) (by omega)]
  by_cases q3 : sL σ < eaN R σ k + R 6 + lgN R n
  · exact br_f (by omega) (h0 (fun e => by have := e.2; omega))
  have q2 : eaN R σ k + R 6 + lgN R n ≤ sL σ := by omega
  refine br_t q2 ?_
  have hrm : rmP R σ k n := ⟨by omega, q2⟩
  have h1 := h1 hrm
  rintro _ rfl
  -- the state with the blocks from k on gone
  have hS1 : okS R (uB σ (sL σ) k (eaN R σ k + R 6) (sB σ) (sZ σ) (sC σ) (sO σ) (sK σ + nI (soN R (sL σ) (sH σ) (eaN R σ k + R 6)))) := by
    refine hS.blk hS.1 (by omega) (by omega) (fun j hj => hS.2.2.2.1 j (by omega)) (fun i j hi hj => hS.2.2.2.2.1 i j hi (by omega)) (fun j hj i hi => hS.2.2.2.2.2.1 j (by omega) i hi) (fun j hj i hi => hS.2.2.2.2.2.2.1 j (by omega) i hi)
  have hS0 : okS R (uB σ (sL σ) k (sH σ) (sB σ) (sZ σ) (sC σ) (sO σ) (sK σ)) := by
    refine hS.blk hS.1 (by omega) hH (fun j hj => hS.2.2.2.1 j (by omega)) (fun i j hi hj => hS.2.2.2.2.1 i j hi (by omega)) (fun j hj i hi => hS.2.2.2.2.2.1 j (by omega) i hi) (fun j hj i hi => hS.2.2.2.2.2.2.1 j (by omega) i hi)
  have hm0 : mdT (mset M 53 0 (nI k)) 0 (uB σ (sL σ) k (sH σ) (sB σ) (sZ σ) (sC σ) (sO σ) (sK σ)) := by
    refine hm.blk hS _ _ _ _ _ _ _ _ ?_ ?_ ?_ (fun j hj => ?_) (fun j hj => ?_) (fun j hj i hi => ?_) (fun j hj i hi => ?_) (fun j q1 q2 => ?_) ?_
    · rw [mset_sn (by omega)]; exact hm.1
    · rw [mset_ss]
    · rw [mset_sn (by omega)]; exact hm.2.2.1
    · rw [mset_sn (by omega)]; exact mB hm (by omega)
    · rw [mset_sn (by omega)]; exact mZ hm (by omega)
    · rw [mset_sn (by omega)]; exact mC hm (by omega) hi
    · rw [mset_sn (by omega)]; exact mO hm (by omega) hi
    · rw [mset_sn (by omega)]
    · rw [mset_sn (by omega)]; exact hm.2.2.2.2.2.2.2.2.2.2.2.1
  have hr0 : rlT (mset M 53 0 (nI k)) R := hr.keep (mset_n (by decide))
  have ee : ∀ K h, eaN R (uB σ (sL σ) k h (sB σ) (sZ σ) (sC σ) (sO σ) K) k = eaN R σ k := fun K h => rfl
  refine m_beginOf hR hS0 hr0 hm0 (Nat.le_refl _) ?_
  rw [ee]
  refine m_goesTo (L := sL σ) (h := sH σ) hR hr0 hm0.1 hm0.2.2.1 hL hH (by omega) ?_
  show wX5_longOf _ _ _
  have e326 : mset M 53 0 (nI k) 53 326 = sK σ := by rw [mset_sn (by decide)]; exact hm.2.2.2.2.2.2.2.2.2.2.2.1
  have eso : soN R (sL (uB σ (sL σ) k (sH σ) (sB σ) (sZ σ) (sC σ) (sO σ) (sK σ))) (sH (uB σ (sL σ) k (sH σ) (sB σ) (sZ σ) (sC σ) (sO σ) (sK σ))) (eaN R σ k + R 6) = soN R (sL σ) (sH σ) (eaN R σ k + R 6) := rfl
  rw [e326]
  have hm1 : mdT (mset (mset (mset M 53 0 (nI k)) 53 325 (nI (eaN R σ k + R 6))) 53 326 (sK σ + nI (soN R (sL σ) (sH σ) (eaN R σ k + R 6)))) 0 (uB σ (sL σ) k (eaN R σ k + R 6) (sB σ) (sZ σ) (sC σ) (sO σ) (sK σ + nI (soN R (sL σ) (sH σ) (eaN R σ k + R 6)))) := by
    refine hm0.obj hS0.n3 hS0.z12 (fun j q1 q2 q3 => ?_) rfl rfl rfl rfl rfl ?_ ?_ ?_
    · rw [mset_sn q2, mset_sn q1]
    · rw [mset_sn (by decide), mset_ss]; rfl
    · rw [mset_ss]; rfl
    · rw [mset_sn (by decide), mset_sn (by decide)]; exact hm0.2.2.2.2.2.2.2.2.2.2.2.2
  have hr1 : rlT (mset (mset (mset M 53 0 (nI k)) 53 325 (nI (eaN R σ k + R 6))) 53 326 (sK σ + nI (soN R (sL σ) (sH σ) (eaN R σ k + R 6)))) R := hr.keep (by rw [mset_n (by decide), mset_n (by decide), mset_n (by decide)])
  refine m_longOf hR hr1 (by omega) ?_
  rintro _ rfl
  refine m_lays (k := k) (bg := eaN R σ k + R 6) (T := T) (by omega) hn hm1.2.1 (fun i hi => ?_) (fun Q' hq' => ?_) (fun M9 hp => ?_)
  · rw [mset_n (by decide), mset_n (by decide), mset_n (by decide)]; exact hT i hi
  · refine m_beginOf (k := k) hR hS1 hr1 hm1 (Nat.le_refl _) ?_
    rw [ee]; exact hq'
  have hm9 := hm1.put hS1 (Nat.le_refl k) (show k < 12 by omega) hn hp
  have hr9 : rlT M9 R := hr1.keep (hp.1 55 (by decide))
  have hT0 : ∀ i, i < n → T i < 256 := fun i hi => (hT i hi).1
  have hS9 := hS1.put (Nat.le_refl k) (show k < 12 by omega) hn (show eaN R _ k ≤ eaN R σ k + R 6 by rw [ee]; omega) q2 hT0
  refine m_longOf hR hr9 (by omega) ?_
  rintro _ rfl
  have e3 : ∀ M' : MM, rlT M' R → M' 55 3 = nI (R 3) := fun M' q => q 3 (by omega) (by omega)
  rw [e3 _ hr9, e3 _ hr1, pk_mul, nI_add]
  have e9 : M9 53 326 = sK σ + nI (soN R (sL σ) (sH σ) (eaN R σ k + R 6)) := hm9.2.2.2.2.2.2.2.2.2.2.2.1
  rw [e9]
  have hm10 : mdT (mset M9 53 326 (sK σ + nI (soN R (sL σ) (sH σ) (eaN R σ k + R 6)) + nI (R 3 * lgN R n))) 0 (uH (puS (uB σ (sL σ) k (eaN R σ k + R 6) (sB σ) (sZ σ) (sC σ) (sO σ) (sK σ + nI (soN R (sL σ) (sH σ) (eaN R σ k + R 6)))) k n (eaN R σ k + R 6) T) (eaN R σ k + R 6) (sK σ + nI (soN R (sL σ) (sH σ) (eaN R σ k + R 6)) + nI (R 3 * lgN R n))) := by
    refine hm9.obj hS9.n3 hS9.z12 (fun j q1 q2 q3 => ?_) rfl rfl rfl rfl rfl ?_ ?_ ?_
    · rw [mset_sn q2]
    · rw [mset_sn (by decide)]; exact hm9.2.2.1
    · rw [mset_ss]; rfl
    · rw [mset_sn (by decide)]; exact hm9.2.2.2.2.2.2.2.2.2.2.2.2
  have hS10 := hS9.uH (show eaN R σ k + R 6 ≤ sL σ by omega) (sK σ + nI (soN R (sL σ) (sH σ) (eaN R σ k + R 6)) + nI (R 3 * lgN R n))
  refine m_endOf hR hS10 (hr9.keep (mset_n (by decide))) hm10 (show k < k + 1 by omega) ?_
  rintro _ rfl
  refine h1 _ ?_ (fun a q1 => ?_) (fun j q1 => ?_)
  · refine hm10.obj hS10.n3 hS10.z12 (fun j q1 q2 q3 => ?_) rfl rfl rfl rfl rfl ?_ ?_ ?_
    · rw [mset_sn q1]
    · rw [mset_ss]
      show nI ((if k = k then eaN R σ k + R 6 else _) + lgN R (if k = k then n else _)) = nI (eaN R σ k + R 6 + lgN R n)
      rw [if_pos rfl, if_pos rfl]
    · rw [mset_sn (by decide), mset_ss]
      show _ = sK σ + nI (tkN R σ k n)
      unfold tkN
      rw [← nI_add, Int32.add_assoc]
    · rw [mset_sn (by decide)]; exact hm10.2.2.2.2.2.2.2.2.2.2.2.2
  · rw [mset_n q1, mset_n q1, hp.1 a q1, mset_n q1, mset_n q1, mset_n q1]
  · rw [mset_sn (by omega), mset_sn (by omega), hp.2.2.2.2.2.2.2 j (by omega) (by omega) (by omega) (by omega) (by omega), mset_sn (by omega), mset_sn (by omega), mset_sn (by omega)]
