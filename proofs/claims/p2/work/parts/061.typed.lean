-- ===== what is typed =====
theorem clT.typed {M M1 : MM} {b : Nat} {R : Nat → Nat} {σ : SS} (h : clT M b R σ) (y : Nat) (t : Nat → Nat) (e : ∀ k, 1 ≤ k → k < 9 → k ≠ 6 → M1 (b + k) = M (b + k)) (f : ∀ j, j ≠ 11 → M1 b j = M b j) (f11 : M1 b 11 = nI y) (g : ∀ i, i < y → M1 (b + 6) i = nI (t i)) : clT M1 b R (uY σ y t) := by
  obtain ⟨h1, h2, h3, h4, h5, h6, h7, h8, h9, h10, h11, h12, h13⟩ := h
  unfold clT
  rw [e 1 (by omega) (by omega) (by omega), e 2 (by omega) (by omega) (by omega), e 3 (by omega) (by omega) (by omega), e 4 (by omega) (by omega) (by omega), e 5 (by omega) (by omega) (by omega), e 7 (by omega) (by omega) (by omega), e 8 (by omega) (by omega) (by omega), f 8 (by omega), f 9 (by omega), f 13 (by omega), f 10 (by omega), f 12 (by omega), f11]
  exact ⟨h1, h2, h3, h4, h5, h6, h7, rfl, g, h10, h11, h12, h13⟩
theorem mdT.typed {M M1 : MM} {σ : SS} (h : mdT M 0 σ) (hS : sN σ ≤ 12 ∧ sY σ ≤ 12 ∧ sW σ ≤ 12) (hZ : ∀ j, j < sN σ → sZ σ j ≤ 12) (y : Nat) (t : Nat → Nat) (e : ∀ j, (j < 327 ∨ 340 ≤ j) → M1 53 j = M 53 j) (f : M1 53 327 = nI y) (g : ∀ i, i < y → M1 53 (328 + i) = nI (t i)) : mdT M1 0 (uY σ y t) := by
  obtain ⟨h1, h2, h3, h4, h5, h6, h7, h8, h9, h10, h11, h12, h13⟩ := h
  refine ⟨?_, ?_, ?_, fun j hj => ?_, fun j hj => ?_, fun j hj i hi => ?_, fun j hj i hi => ?_, f, fun i hi => ?_, ?_, fun i hi => ?_, ?_, ?_⟩
  · rw [e _ (by omega)]; exact h1
  · rw [e _ (by omega)]; exact h2
  · rw [e _ (by omega)]; exact h3
  · have : j < sN σ := hj
    rw [e _ (by omega)]; exact h4 j hj
  · have : j < sN σ := hj
    rw [e _ (by omega)]; exact h5 j hj
  · have := hZ j hj
    have hj' : j < sN σ := hj
    have hi' : i ≤ sZ σ j := hi
    rw [e _ (by omega)]; exact h6 j hj i hi
  · have := hZ j hj
    have hj' : j < sN σ := hj
    have hi' : i < sZ σ j := hi
    rw [e _ (by omega)]; exact h7 j hj i hi
  · rw [Nat.zero_add]; exact g i hi
  · rw [e _ (by omega)]; exact h10
  · have hi' : i < sW σ := hi
    rw [e _ (by omega), e _ (by omega)]; exact h11 i hi
  · rw [e _ (by omega)]; exact h12
  · rw [e _ (by omega)]; exact h13
theorem okS.uY {R : Nat → Nat} {σ : SS} (h : okS R σ) {y : Nat} {t : Nat → Nat} (hy : y ≤ 12) (g : ∀ i, i < y → t i < 256) : okS R (uY σ y t) := by
  obtain ⟨h1, h2, h3, h4, h5, h6, h7, -, -, h10, h11, h12⟩ := h
  exact ⟨h1, h2, h3, h4, h5, h6, h7, hy, g, h10, h11, h12⟩
def tyN (σ : SS) (a : Nat) : SS := uY σ (sY σ + 1) (fun i => if i = sY σ then a else sT σ i)
def ctM (M : MM) (b y a : Nat) : MM := mset (mset M (b + 6) y (nI a)) b 11 (nI (y + 1))
def mtM (M : MM) (y a : Nat) : MM := mset (mset M 53 (328 + y) (nI a)) 53 327 (nI (y + 1))
theorem okS.ty {R : Nat → Nat} {σ : SS} (h : okS R σ) {a : Nat} (ha : a < 256) (hy : sY σ < 12) : okS R (tyN σ a) := by
  refine h.uY (by omega) (fun i hi => ?_)
  by_cases q : i = sY σ
  · rw [if_pos q]; exact ha
  · rw [if_neg q]; exact h.2.2.2.2.2.2.2.2.1 i (by omega)
theorem clT.ty {M : MM} {b : Nat} {R : Nat → Nat} {σ : SS} (h : clT M b R σ) {a : Nat} : clT (ctM M b (sY σ) a) b R (tyN σ a) := by
  unfold ctM
  refine h.typed _ _ (fun k h1 h2 h3 => ?_) (fun j hj => ?_) ?_ (fun i hi => ?_)
  · rw [mset_n (by omega), mset_n (by omega)]
  · rw [mset_sn hj, mset_n (by omega)]
  · rw [mset_ss]
  · rw [mset_n (by omega)]
    by_cases q : i = sY σ
    · subst q; rw [mset_ss, if_pos rfl]
    · rw [mset_sn q, if_neg q]
      exact h.2.2.2.2.2.2.2.2.1 i (by omega)
theorem mdT.ty {M : MM} {R : Nat → Nat} {σ : SS} (h : mdT M 0 σ) (hS : okS R σ) (hy : sY σ < 12) {a : Nat} : mdT (mtM M (sY σ) a) 0 (tyN σ a) := by
  unfold mtM
  refine h.typed hS.n3 hS.z12 _ _ (fun j hj => ?_) ?_ (fun i hi => ?_)
  · rw [mset_sn (by omega), mset_sn (by omega)]
  · rw [mset_ss]
  · rw [mset_sn (by omega)]
    by_cases q : i = sY σ
    · subst q; rw [mset_ss, if_pos rfl]
    · rw [mset_sn (by omega), if_neg q]
      have := h.2.2.2.2.2.2.2.2.1 i (by omega)
      rw [Nat.zero_add] at this; exact this
theorem s_typeOne {Q : Int32 → MM → Prop} {M : MM} {b y a : Nat} (hb : tpB b) (e : M b 11 = nI y) (hy : y < 12) (hq : Q (nI (y + 1)) (ctM M b y a)) : wX2_typeOne Q M b (nI a) := by
  unfold wX2_typeOne
  rw [e]
  refine s_setCell (by rw [(alen_tp hb).2.2.2.2.2.1]; exact hy) (by rw [(alen_tp hb).2.2.2.2.2.1]; decide) ?_
  rintro _ rfl
  rw [mset_ss, mset_n (by omega), e, nI_1]
  exact hq
theorem m_type {Q : Int32 → MM → Prop} {M : MM} {y a : Nat} (e : M 53 327 = nI y) (hy : y < 12) (ha : a < 256) (hq : Q (nI (y + 1)) (mtM M y a)) : wX5_type Q M (nI a) := by
  unfold wX5_type
  refine m_in32 0 255 rfl rfl (zt1 (pl_in (L := 255) (by omega) (by omega)) ?_)
  rw [e]
  refine br_nf (fun q => ?_) ?_
  · have := (nI_eq (b := 12) (by omega) (by omega)).mp q; omega
  rw [show (328 : Int32) = nI 328 from rfl, nI_add, clamp_nI (by omega)]
  refine ⟨v53 (by omega), ?_⟩
  rintro _ rfl _ rfl
  rw [mset_ss, mset_sn (by omega), e, nI_1]
  exact hq
theorem ctM_n {M : MM} {b y a k : Nat} (h1 : k ≠ b) (h2 : k ≠ b + 6) : ctM M b y a k = M k := by
  unfold ctM; rw [mset_n h1, mset_n h2]
theorem mtM_n {M : MM} {y a k : Nat} (h : k ≠ 53) : mtM M y a k = M k := by
  unfold mtM; rw [mset_n h, mset_n h]
theorem mtM_s {M : MM} {y a j : Nat} (h1 : j ≠ 327) (h2 : j ≠ 328 + y) : mtM M y a 53 j = M 53 j := by
  unfold mtM; rw [mset_sn h1, mset_sn h2]
theorem mdT.keepC {M M1 : MM} {o : Nat} {σ : SS} (h : mdT M o σ) (e : M1 53 = M 53) : mdT M1 o σ := h.keep e
theorem L_type {M : MM} (h : Rel M) (x : Int32) : wX4_type (fun r M1 => wX5_type (PQ r) M1 x) M x := by
  obtain ⟨R, σ, hR, hS, hc, hm, hr, him, hsh, htx⟩ := id h
  have e1 : M 1 11 = nI (sY σ) := hc.2.2.2.2.2.2.2.1
  have e2 : M 53 327 = nI (sY σ) := hm.2.2.2.2.2.2.2.1
  have hY := hS.n3.2.1
  unfold wX4_type
  refine s_isBetween.mpr ?_
  by_cases hp : (0 : Int32) ≤ x ∧ x ≤ 255
  · refine zt1 hp ?_
    obtain ⟨a, ha, rfl⟩ := pl_of (L := 255) (by omega) hp
    dsimp only
    rw [e1]
    by_cases hy : sY σ < 12
    · refine br_t ((nI_ltI (b := 12) (by omega) (by omega)).mpr hy) (s_typeOne (Or.inl rfl) e1 hy (m_type (y := sY σ) ?_ hy (by omega) ⟨rfl, ?_⟩))
      · rw [ctM_n (by omega) (by omega)]; exact e2
      · refine Rel.step (σ' := tyN σ a) hR (hS.ty (by omega) hy) ?_ ?_ hr him hsh htx ?_ ?_ ?_
        · exact hc.ty.keep (fun i hi => mtM_n (by omega))
        · exact (mdT.keep hm (ctM_n (by omega) (by omega))).ty hS hy
        · intro k hk
          unfold keepP at hk
          rw [mtM_n (by omega), ctM_n (by omega) (by omega)]
        · intro j hj
          rw [mtM_s (by omega) (by omega), ctM_n (by omega) (by omega)]
        · rw [mtM_n (by omega), ctM_n (by omega) (by omega)]; exact ⟨rfl, rfl, rfl⟩
    · refine br_f (fun q => hy ((nI_ltI (b := 12) (by omega) (by omega)).mp q)) ?_
      unfold wX5_type
      refine m_in32 0 255 rfl rfl (zt1 hp ?_)
      rw [e2]
      exact br_nt (by rw [show sY σ = 12 by omega]; rfl) ⟨rfl, h⟩
  · refine zf1 hp ?_
    unfold wX5_type
    exact m_in32 0 255 rfl rfl (zf1 hp ⟨rfl, h⟩)
-- ===== end =====
theorem L_end {M : MM} (h : Rel M) (x : Int32) : wX4_end (fun r M1 => wX5_end (PQ r) M1 x) M x := by
  obtain ⟨R, σ, hR, hS, hc, hm, hr, him, hsh, htx⟩ := id h
  obtain ⟨⟨n, hn, e1, e2, g⟩, t2, t3⟩ := htx
  unfold wX4_end
  rw [e1]
  refine s_isBetween.mpr ?_
  by_cases hp : (0 : Int32) ≤ x ∧ x ≤ nI n
  · refine zt1 hp ?_
    obtain ⟨a, ha, rfl⟩ := pl_of (by omega) hp
    rintro _ rfl
    unfold wX5_end
    have f2 : mset M 37 2 (nI a) 52 9 = nI n := by rw [mset_n (by decide)]; exact e2
    rw [f2]
    refine m_in32 0 (nI n) rfl rfl (zt1 hp ?_)
    rintro _ rfl
    refine ⟨f2.symm, R, σ, hR, hS, ?_, ?_, ?_, ?_, ?_, ?_⟩
    · exact hc.keep (fun i hi => by rw [mset_n (by omega), mset_n (by omega)])
    · exact hm.keep (by rw [mset_n (by omega), mset_n (by omega)])
    · exact hr.keep (by rw [mset_n (by omega), mset_n (by omega)])
    · exact him.keep (by rw [mset_n (by omega), mset_n (by omega)]) (fun k _ _ => by rw [mset_n (by omega), mset_n (by omega)]) (fun j _ => by rw [mset_n (by omega), mset_n (by omega)]) (by rw [mset_n (by omega), mset_n (by omega)])
    · exact hsh.keep (fun k _ _ => by rw [mset_n (by omega), mset_n (by omega)]) (fun k _ _ => by rw [mset_n (by omega), mset_n (by omega)])
    · refine ⟨⟨a, by omega, ?_, ?_, fun i hi => ?_⟩, ?_, ?_⟩
      · rw [mset_n (by omega), mset_ss]
      · rw [mset_ss]
      · rw [mset_n (by omega), mset_n (by omega), mset_n (by omega), mset_n (by omega)]; exact g i (by omega)
      · exact True.intro
      · rw [mset_n (by omega), mset_n (by omega), mset_sn (by omega), mset_n (by omega)]; exact t3
  · refine zf1 hp ?_
    unfold wX5_end
    dsimp only
    rw [e2]
    exact m_in32 0 (nI n) rfl rfl (zf1 hp ⟨rfl, h⟩)
