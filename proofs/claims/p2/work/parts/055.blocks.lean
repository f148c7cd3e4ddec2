-- ===== blocks: readers of the class =====
theorem blk_of {v : Int32} {n : Nat} (hn : n ≤ 12) : (0 ≤ v ∧ v ≤ nI n - 1) ↔ ∃ j, j < n ∧ v = nI j := by
  constructor
  · rintro ⟨h1, h2⟩
    cases n with
    | zero => exact absurd (Int32.le_trans h1 h2) (by decide +kernel)
    | succ k =>
      rw [nI_sub1 (by omega)] at h2
      obtain ⟨j, hj, e⟩ := pl_of (L := k + 1 - 1) (by omega) ⟨h1, h2⟩
      exact ⟨j, by omega, e⟩
  · rintro ⟨j, hj, rfl⟩
    rw [nI_sub1 (by omega)]
    exact pl_in (by omega) (by omega)
theorem blk_in {j n : Nat} (hn : n ≤ 12) (hj : j < n) : (0 : Int32) ≤ nI j ∧ nI j ≤ nI n - 1 := (blk_of hn).mpr ⟨j, hj, rfl⟩
theorem s_hasBlock {Q : Int32 → MM → Prop} {M : MM} {b : Nat} {v : Int32} {n : Nat} (e : M b 8 = nI n) (hq : Q (bI (0 ≤ v ∧ v ≤ nI n - 1)) M) : wX2_hasBlock Q M b v := by
  unfold wX2_hasBlock
  rw [e]
  exact s_isBetween.mpr ⟨nb_bI _, hq⟩
theorem s_beginOf {Q : Int32 → MM → Prop} {M : MM} {b j : Nat} {R : Nat → Nat} {σ : SS} (hb : tpB b) (hc : clT M b R σ) (hn : sN σ ≤ 12) (hj : j < sN σ) (hq : Q (nI (sB σ j)) M) : wX2_beginOf Q M b (nI j) := by
  unfold wX2_beginOf
  refine s_cell (by rw [(alen_tp hb).2.1]; omega) (by rw [(alen_tp hb).2.1]; decide) ?_
  rw [hc.2.2.2.1 j hj]; exact hq
theorem s_sizeOf {Q : Int32 → MM → Prop} {M : MM} {b j : Nat} {R : Nat → Nat} {σ : SS} (hb : tpB b) (hc : clT M b R σ) (hn : sN σ ≤ 12) (hj : j < sN σ) (hq : Q (nI (sZ σ j)) M) : wX2_sizeOf Q M b (nI j) := by
  unfold wX2_sizeOf
  refine s_cell (by rw [(alen_tp hb).2.2.1]; omega) (by rw [(alen_tp hb).2.2.1]; decide) ?_
  rw [hc.2.2.2.2.1 j hj]; exact hq
theorem lgN_le {R : Nat → Nat} (hR : okR R) {n : Nat} (hn : n ≤ 99) : 1 ≤ lgN R n ∧ lgN R n ≤ 108 := by
  unfold lgN
  have h7 := hR.2.2.2.2.2.1
  split
  · omega
  · constructor
    · exact (Nat.le_div_iff_mul_le (by omega)).mpr (by omega)
    · exact Nat.le_trans (Nat.div_le_self _ _) (by omega)
theorem s_longWith {Q : Int32 → MM → Prop} {M : MM} {b n : Nat} {R : Nat → Nat} {σ : SS} (hb : tpB b) (hR : okR R) (hc : clT M b R σ) (hn : n ≤ 99) (hq : Q (nI (lgN R n)) M) : wX2_longWith Q M b (nI n) := by
  unfold wX2_longWith
  have h7 := hR.2.2.2.2.2.1
  by_cases h : n = 0
  · subst h
    exact br_nt rfl hq
  · refine br_nf (fun q => h ((nI_eq (b := 0) (by omega) (by omega)).mp q)) (s_ruled hb 7 (by omega) rfl ?_)
    rw [hc.1.2 7 (by omega) (by omega), nI_1]
    unfold wX4_dividedUp
    refine br_t (show nI 1 ≤ nI (R 7) from nI_le h7.1 (by omega)) ⟨fun q => ?_, ?_⟩
    · have := (nI_eq (b := 0) (by omega) (by omega)).mp q; omega
    · rw [nI_add, nI_sub1 (by omega), pk_div (by omega) (by omega) (by omega)]
      have e : lgN R n = (n + 1 + R 7 - 1) / R 7 := by unfold lgN; rw [if_neg h]; congr 1; omega
      rw [← e]; exact hq
theorem s_endOf {Q : Int32 → MM → Prop} {M : MM} {b j : Nat} {R : Nat → Nat} {σ : SS} (hb : tpB b) (hR : okR R) (hS : okS R σ) (hc : clT M b R σ) (hj : j < sN σ) (hq : Q (nI (sB σ j + lgN R (sZ σ j))) M) : wX2_endOf Q M b (nI j) := by
  unfold wX2_endOf
  refine s_hasBlock hc.2.1 (zt2 (blk_in hS.2.1 hj) (s_beginOf hb hc hS.2.1 hj (s_sizeOf hb hc hS.2.1 hj (s_longWith hb hR hc (by have := hS.z12 j hj; omega) ?_))))
  rw [nI_add]; exact hq
theorem s_endOf0 {Q : Int32 → MM → Prop} {M : MM} {b : Nat} {R : Nat → Nat} {σ : SS} {v : Int32} (hS : okS R σ) (hc : clT M b R σ) (hv : ¬ ∃ j, j < sN σ ∧ v = nI j) (hq : Q 0 M) : wX2_endOf Q M b v := by
  unfold wX2_endOf
  exact s_hasBlock hc.2.1 (zf2 (fun q => hv ((blk_of hS.2.1).mp q)) hq)
/-- the end of all blocks -/
def eaN (R : Nat → Nat) (σ : SS) (n : Nat) : Nat := if n = 0 then 0 else sB σ (n - 1) + lgN R (sZ σ (n - 1))
theorem s_endAt {Q : Int32 → MM → Prop} {M : MM} {b n : Nat} {R : Nat → Nat} {σ : SS} (hb : tpB b) (hR : okR R) (hS : okS R σ) (hc : clT M b R σ) (hn : n ≤ sN σ) (hq : Q (nI (eaN R σ n)) M) : wX2_endOf Q M b (nI n - 1) := by
  have h12 := hS.2.1
  unfold eaN at hq
  by_cases h : n = 0
  · subst h
    refine s_endOf0 hS hc ?_ (by rw [if_pos rfl] at hq; exact hq)
    rintro ⟨j, hj, e⟩
    have e1 : nI 0 - 1 = (-1 : Int32) := by decide +kernel
    rw [e1] at e
    exact absurd (e ▸ nI_pos' (n := j) (by omega)) (by decide +kernel)
  · rw [nI_sub1 (by omega)]
    rw [if_neg h] at hq
    exact s_endOf hb hR hS hc (by omega) hq
-- ===== blocks: readers of the reference =====
theorem mB {M : MM} {σ : SS} (hm : mdT M 0 σ) {j : Nat} (hj : j < sN σ) : M 53 (1 + j) = nI (sB σ j) := by
  have := hm.2.2.2.1 j hj; rwa [Nat.zero_add] at this
theorem mZ {M : MM} {σ : SS} (hm : mdT M 0 σ) {j : Nat} (hj : j < sN σ) : M 53 (13 + j) = nI (sZ σ j) := by
  have := hm.2.2.2.2.1 j hj; rwa [Nat.zero_add] at this
theorem mC {M : MM} {σ : SS} (hm : mdT M 0 σ) {j i : Nat} (hj : j < sN σ) (hi : i ≤ sZ σ j) : M 53 (25 + (j * 13 + i)) = nI (sC σ (j * 13 + i)) := by
  have := hm.2.2.2.2.2.1 j hj i hi; rwa [Nat.zero_add] at this
theorem mO {M : MM} {σ : SS} (hm : mdT M 0 σ) {j i : Nat} (hj : j < sN σ) (hi : i < sZ σ j) : M 53 (181 + (j * 12 + i)) = nI (sO σ (j * 12 + i)) := by
  have := hm.2.2.2.2.2.2.1 j hj i hi; rwa [Nat.zero_add] at this
theorem v53 {n : Nat} (h : n < 1200) : vp_in (nI n) (alen 53) := vp_nI (by rw [a53]; exact h) (by rw [a53]; decide)
theorem m_longOf {Q : Int32 → MM → Prop} {M : MM} {n : Nat} {R : Nat → Nat} (hR : okR R) (hr : rlT M R) (hn : n ≤ 99) (hq : Q (nI (lgN R n)) M) : wX5_longOf Q M (nI n) := by
  unfold wX5_longOf
  have h7 := hR.2.2.2.2.2.1
  by_cases h : n = 0
  · subst h
    exact br_nt rfl hq
  · refine br_nf (fun q => h ((nI_eq (b := 0) (by omega) (by omega)).mp q)) ?_
    rw [hr 7 (by omega) (by omega)]
    refine ⟨fun q => ?_, ?_⟩
    · have := (nI_eq (b := 0) (by omega) (by omega)).mp q; omega
    · rw [nI_add, pk_div (by omega) (by omega) (by omega)]
      have e : lgN R n = (n + R 7) / R 7 := by unfold lgN; rw [if_neg h]
      rw [← e]; exact hq
theorem m_endOf {Q : Int32 → MM → Prop} {M : MM} {j : Nat} {R : Nat → Nat} {σ : SS} (hR : okR R) (hS : okS R σ) (hr : rlT M R) (hm : mdT M 0 σ) (hj : j < sN σ) (hq : Q (nI (sB σ j + lgN R (sZ σ j))) M) : wX5_endOf Q M (nI j) := by
  unfold wX5_endOf
  have h12 := hS.2.1
  rw [n1, nI_add, show (13 : Int32) = nI 13 from rfl, nI_add, clamp_nI (by omega), clamp_nI (by omega)]
  refine ⟨v53 (by omega), v53 (by omega), ?_⟩
  rw [mZ hm hj]
  refine m_longOf hR hr (by have := hS.z12 j hj; omega) ?_
  rw [mB hm hj, nI_add]; exact hq
theorem m_endOfAll {Q : Int32 → MM → Prop} {M : MM} {R : Nat → Nat} {σ : SS} (hR : okR R) (hS : okS R σ) (hr : rlT M R) (hm : mdT M 0 σ) (hq : Q (nI (eaN R σ (sN σ))) M) : wX5_endOfAll Q M := by
  unfold wX5_endOfAll
  have h12 := hS.2.1
  unfold eaN at hq
  rw [hm.2.1]
  by_cases h : sN σ = 0
  · rw [h]
    exact br_nt rfl (by rw [if_pos h] at hq; exact hq)
  · refine br_nf (fun q => h ((nI_eq (b := 0) (by omega) (by omega)).mp q)) ?_
    rw [nI_sub1 (by omega)]
    rw [if_neg h] at hq
    exact m_endOf hR hS hr hm (by omega) hq
theorem m_isBlock {Q : Int32 → MM → Prop} {M : MM} {v : Int32} {n : Nat} (e : M 53 0 = nI n) (hq : Q (bI (0 ≤ v ∧ v ≤ nI n - 1)) M) : wX5_isBlock Q M v := by
  unfold wX5_isBlock
  rw [e]
  exact m_in32 0 _ rfl rfl ⟨nb_bI _, hq⟩
-- ===== now =====
theorem L_now {M : MM} (h : Rel M) (x : Int32) : wX4_now (fun r M1 => wX5_now (PQ r) M1 x) M x := by
  obtain ⟨R, σ, hR, hS, hc, hm, hr, him, hsh, htx⟩ := id h
  have hb : tpB 1 := Or.inl rfl
  have hH := hS.2.2.1
  have hL := hS.1.2
  have e9 : M 1 9 = nI (sH σ) := hc.2.2.1
  have m9 : M 53 325 = nI (sH σ) := hm.2.2.1
  unfold wX4_now wX5_now
  by_cases h0 : x = 0
  · refine br_t h0 (br_t h0 ⟨by rw [e9, m9], h⟩)
  refine br_f h0 ?_
  by_cases h1 : x = 1
  · refine br_t h1 (br_f h0 (br_t h1 ⟨?_, h⟩))
    rw [show M 1 10 = sK σ from hc.2.2.2.2.2.2.2.2.2.2.2.1, show M 53 326 = sK σ from hm.2.2.2.2.2.2.2.2.2.2.2.1]
  refine br_f h1 ?_
  by_cases h2 : x = 2
  · refine br_t h2 ?_
    rw [e9]
    refine s_turnsR hb hR hc (by omega) (br_f h0 (br_f h1 (br_t h2 ?_)))
    rw [m9]
    exact m_turnsAt hR hr (by omega) ⟨rfl, h⟩
  refine br_f h2 ?_
  by_cases h3 : x = 3
  · refine br_t h3 (br_f h0 (br_f h1 (br_f h2 (br_t h3 ⟨?_, h⟩))))
    rw [show M 1 12 = sD σ from hc.2.2.2.2.2.2.2.2.2.2.2.2, show M 53 340 = sD σ from hm.2.2.2.2.2.2.2.2.2.2.2.2]
  refine br_f h3 ?_
  by_cases h4 : x = 4
  · refine br_t h4 (br_f h0 (br_f h1 (br_f h2 (br_f h3 (br_t h4 ⟨?_, h⟩)))))
    rw [show M 1 11 = nI (sY σ) from hc.2.2.2.2.2.2.2.1, show M 53 327 = nI (sY σ) from hm.2.2.2.2.2.2.2.1]
  refine br_f h4 ?_
  by_cases h5 : x = 5
  · refine br_t h5 (s_ruled hb 0 (by omega) rfl ?_)
    rw [hc.2.1]
    refine s_endAt hb hR hS hc (Nat.le_refl _) (br_f h0 (br_f h1 (br_f h2 (br_f h3 (br_f h4 (br_t h5 (m_endOfAll hR hS hr hm ⟨?_, h⟩)))))))
    rw [hc.1.1]
    exact congrArg (· - nI (eaN R σ (sN σ))) hm.1.symm
  · exact br_f h5 (br_f h0 (br_f h1 (br_f h2 (br_f h3 (br_f h4 (br_f h5 ⟨rfl, h⟩))))))
