-- ===== feed =====
def bcF (v : Int64) (j : Nat) : Int32 := ((((v.toUInt64 >>> ((nI (8 * j)).toInt64.toUInt64 &&& Int64.toUInt64 63)).toInt64).toInt32).toInt8.toInt32)
def bmF (v : Int64) (j : Nat) : Int32 := (((v >>> ((nI (8 * j)).toInt64 &&& 63)) &&& (255 : Int64)).toInt32)
theorem sh_1 : ∀ j, j < 8 → ((nI (8 * j)).toInt64.toUInt64 &&& Int64.toUInt64 63).toBitVec % (64 : BitVec 64) = BitVec.ofNat 64 (8 * j) := by decide +kernel
theorem sh_2 : ∀ j, j < 8 → ((nI (8 * j)).toInt64 &&& 63).toBitVec.smod (64 : BitVec 64) = BitVec.ofNat 64 (8 * j) := by decide +kernel
theorem b255 : ∀ i, i < 32 → (255#32).getLsbD i = decide (i < 8) := by decide +kernel
theorem b255L : ∀ i, i < 64 → (255#64).getLsbD i = decide (i < 8) := by decide +kernel
theorem bcm {v : Int64} {j : Nat} (hj : j < 8) : bcF v j &&& 255 = bmF v j := by
  unfold bcF bmF
  apply Int32.toBitVec_inj.mp
  apply BitVec.eq_of_getLsbD_eq
  intro i hi
  rw [Int32.toBitVec_and, Int8.toBitVec_toInt32, Int32.toBitVec_toInt8, Int64.toBitVec_toInt32, Int64.toBitVec_toInt32, Int64.toBitVec_and, Int64.toBitVec_shiftRight, sh_2 j hj]
  have e1 : (v.toUInt64 >>> ((nI (8 * j)).toInt64.toUInt64 &&& Int64.toUInt64 63)).toInt64.toBitVec = v.toBitVec >>> (BitVec.ofNat 64 (8 * j)) := by
    rw [UInt64.toBitVec_toInt64, UInt64.toBitVec_shiftRight, sh_1 j hj, Int64.toBitVec_toUInt64]
  rw [e1]
  have e2 : (BitVec.ofNat 64 (8 * j)).toNat = 8 * j := by rw [BitVec.toNat_ofNat]; omega
  have e3 : (255 : Int32).toBitVec = 255#32 := rfl
  have e4 : (255 : Int64).toBitVec = 255#64 := rfl
  rw [e3, e4, BitVec.getLsbD_and, b255 i hi]
  have h64 : i < 64 := by omega
  have h5 : ¬ 64 ≤ i := by omega
  simp only [BitVec.getLsbD_signExtend, BitVec.getLsbD_and, b255L i h64, BitVec.sshiftRight', e2, BitVec.ushiftRight_eq', BitVec.getLsbD_ushiftRight, BitVec.getLsbD_sshiftRight, hi, h64, if_true, decide_true, Bool.true_and]
  by_cases h8 : i < 8
  · have h6 : 8 * j + i < 64 := by omega
    simp only [h8, h5, h6, if_true, decide_true, decide_false, Bool.true_and, Bool.and_true, Bool.not_false]
  · simp only [h8, decide_false, Bool.and_false]
theorem s_feed {Q : Int32 → MM → Prop} {M0 : MM} {v : Int64} {n : Nat} (hn : n + 8 ≤ 400) (hq : ∀ M, (∀ a, a ≠ 37 → a ≠ 38 → M a = M0 a) → (∀ i, i < n → M 38 i = M0 38 i) → (∀ d, d < 8 → M 38 (n + d) = bcF v (7 - d)) → M 37 2 = nI (n + 8) → Q (nI (n + 8)) M) : ∀ k M, k ≤ 8 → (∀ a, a ≠ 37 → a ≠ 38 → M a = M0 a) → (∀ i, i < n → M 38 i = M0 38 i) → (∀ d, d < 8 - k → M 38 (n + d) = bcF v (7 - d)) → M 37 2 = nI (n + (8 - k)) → wX4_feed_22 Q v (k + 1) M (nI (8 * k) + (-8)) := by
  intro k
  induction k with
  | zero =>
    intro M _ h1 h2 h3 h4
    refine br_t (by decide +kernel) ?_
    rw [h4]
    exact hq M h1 h2 h3 h4
  | succ k ih =>
    intro M hk h1 h2 h3 h4
    have e : nI (8 * (k + 1)) + (-8) = nI (8 * k) := by
      have a1 : nI (8 * (k + 1)) = nI (8 * k) + 8 := by rw [show (8 : Int32) = nI 8 from rfl, nI_add]; congr 1
      rw [a1, Int32.add_assoc, show (8 : Int32) + (-8) = 0 from rfl, Int32.add_zero]
    rw [e]
    refine br_f (nI_pos (by omega)) ?_
    unfold wX3_addLetter
    rw [h4]
    refine br_f (nI_pos (by omega)) (br_f ?_ ⟨vp_nI (by show n + (8 - (k + 1)) < 400; omega) (by decide +kernel), ?_⟩)
    · show ¬ nI 400 ≤ _
      exact fun q => by have := (nI_leI (by omega) (by omega)).mp q; omega
    rw [clamp_nI (by omega)]
    rintro _ rfl
    unfold wX3_addLetter_29
    rintro _ rfl
    refine ih _ (by omega) (fun a a1 a2 => ?_) (fun i hi => ?_) (fun d hd => ?_) ?_
    · rw [mset_n a1, mset_n a2]; exact h1 a a1 a2
    · rw [mset_n (by decide), mset_sn (by omega)]; exact h2 i hi
    · rw [mset_n (by decide)]
      by_cases q : d = 8 - (k + 1)
      · subst q
        rw [mset_ss]
        have e5 : 7 - (8 - (k + 1)) = k := by omega
        rw [e5]
        exact pk_vb _
      · rw [mset_sn (by omega)]; exact h3 d (by omega)
    · rw [mset_ss, mset_n (by decide), h4, nI_1]; congr 1; omega
theorem m_feed {Q : Int32 → MM → Prop} {M0 : MM} {v : Int64} {n : Nat} (hn : n + 8 ≤ 400) (hq : ∀ M, (∀ a, a ≠ 52 → a ≠ 59 → M a = M0 a) → (∀ j, j ≠ 9 → M 52 j = M0 52 j) → (∀ i, i < n → M 59 i = M0 59 i) → (∀ d, d < 8 → M 59 (n + d) = bmF v (7 - d)) → M 52 9 = nI (n + 8) → Q (nI (n + 8)) M) : ∀ k M, k ≤ 8 → (∀ a, a ≠ 52 → a ≠ 59 → M a = M0 a) → (∀ j, j ≠ 9 → M 52 j = M0 52 j) → (∀ i, i < n → M 59 i = M0 59 i) → (∀ d, d < 8 - k → M 59 (n + d) = bmF v (7 - d)) → M 52 9 = nI (n + (8 - k)) → wX5_feed_19 Q v (k + 1) M (nI (8 * k) + (-8)) := by
  intro k
  induction k with
  | zero =>
    intro M _ h1 h0 h2 h3 h4
    refine br_t (by decide +kernel) ?_
    rw [h4]
    exact hq M h1 h0 h2 h3 h4
  | succ k ih =>
    intro M hk h1 h0 h2 h3 h4
    have e : nI (8 * (k + 1)) + (-8) = nI (8 * k) := by
      have a1 : nI (8 * (k + 1)) = nI (8 * k) + 8 := by rw [show (8 : Int32) = nI 8 from rfl, nI_add]; congr 1
      rw [a1, Int32.add_assoc, show (8 : Int32) + (-8) = 0 from rfl, Int32.add_zero]
    rw [e]
    refine br_f (nI_pos (by omega)) ?_
    rw [h4]
    refine ⟨vp_nI (by show n + (8 - (k + 1)) < 400; omega) (by decide +kernel), ?_⟩
    rw [clamp_nI (by omega)]
    rintro _ rfl _ rfl
    refine ih _ (by omega) (fun a a1 a2 => ?_) (fun j hj => ?_) (fun i hi => ?_) (fun d hd => ?_) ?_
    · rw [mset_n a1, mset_n a2]; exact h1 a a1 a2
    · rw [mset_sn hj, mset_n (by decide)]; exact h0 j hj
    · rw [mset_n (by decide), mset_sn (by omega)]; exact h2 i hi
    · rw [mset_n (by decide)]
      by_cases q : d = 8 - (k + 1)
      · subst q
        rw [mset_ss]
        have e5 : 7 - (8 - (k + 1)) = k := by omega
        rw [e5]
        rfl
      · rw [mset_sn (by omega)]; exact h3 d (by omega)
    · rw [mset_ss, mset_n (by decide), h4, nI_1]; congr 1; omega
theorem L_feed {M : MM} (h : Rel M) (v : Int64) : wX4_feed (fun r M1 => wX5_feed (PQ r) M1 v) M v := by
  obtain ⟨R, σ, hR, hS, hc, hm, hr, him, hsh, htx⟩ := id h
  obtain ⟨⟨n, hn, e1, e2, g⟩, t2, t3⟩ := htx
  unfold wX4_feed
  rw [e1, show (8 : Int32) = nI 8 from rfl, nI_add, show (400 : Int32) = nI 400 from rfl, nI_leI (by omega) (by omega)]
  by_cases hp : n + 8 ≤ 400
  · refine br_t hp ⟨9, s_feed hp ?_ 8 M (by omega) (fun _ _ _ => rfl) (fun _ _ => rfl) (fun d hd => by omega) e1⟩
    intro M1 a1 a2 a3 a4
    unfold wX5_feed
    have e9 : M1 52 9 = nI n := by rw [a1 52 (by decide) (by decide)]; exact e2
    rw [e9, show (8 : Int32) = nI 8 from rfl, nI_add, show (400 : Int32) = nI 400 from rfl, nI_leI (by omega) (by omega)]
    refine br_t hp ⟨9, m_feed (Q := PQ _) hp ?_ 8 M1 (by omega) (fun _ _ _ => rfl) (fun _ _ => rfl) (fun _ _ => rfl) (fun d hd => by omega) e9⟩
    intro M2 b1 b0 b2 b3 b4
    have kk : ∀ k, k ≠ 37 → k ≠ 38 → k ≠ 52 → k ≠ 59 → M2 k = M k := fun k q1 q2 q3 q4 => by rw [b1 k q3 q4, a1 k q1 q2]
    refine ⟨rfl, R, σ, hR, hS, ?_, ?_, ?_, ?_, ?_, ?_⟩
    · exact hc.keep (fun i hi => kk _ (by omega) (by omega) (by omega) (by omega))
    · exact hm.keep (kk _ (by omega) (by omega) (by omega) (by omega))
    · exact hr.keep (kk _ (by omega) (by omega) (by omega) (by omega))
    · exact him.keep (by rw [kk 0 (by omega) (by omega) (by omega) (by omega)]) (fun k _ _ => kk _ (by omega) (by omega) (by omega) (by omega)) (fun j _ => by rw [kk 53 (by omega) (by omega) (by omega) (by omega)]) (kk _ (by omega) (by omega) (by omega) (by omega))
    · exact hsh.keep (fun k _ _ => kk _ (by omega) (by omega) (by omega) (by omega)) (fun k _ _ => kk _ (by omega) (by omega) (by omega) (by omega))
    · refine ⟨⟨n + 8, hp, ?_, b4, fun i hi => ?_⟩, ?_, ?_⟩
      · rw [b1 37 (by decide) (by decide)]; exact a4
      · rw [b1 38 (by decide) (by decide)]
        by_cases q : i < n
        · rw [a2 i q, b2 i q, a1 59 (by decide) (by decide)]; exact g i q
        · have e : i = n + (i - n) := by omega
          have a := a3 (i - n) (by omega)
          have b := b3 (i - n) (by omega)
          rw [← e] at a b
          rw [a, b, ← bcm (show 7 - (i - n) < 8 by omega)]
          exact ⟨_, Nat.mod_lt _ (by decide), pk_and (m := 255) _ 8 rfl, pk_and (m := 255) _ 8 rfl⟩
      · exact True.intro
      · rw [kk 0 (by omega) (by omega) (by omega) (by omega), b0 25 (by decide), a1 52 (by decide) (by decide)]; exact t3
  · refine br_f hp ?_
    unfold wX5_feed
    dsimp only
    rw [e2, show (8 : Int32) = nI 8 from rfl, nI_add, show (400 : Int32) = nI 400 from rfl, nI_leI (by omega) (by omega)]
    exact br_f hp ⟨rfl, h⟩
