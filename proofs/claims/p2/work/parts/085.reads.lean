-- ===== the blocks that are read =====
theorem poN_pos {s : Nat} : ∀ b, s % 2 ^ b ≠ 0 → 0 < poN s b := by
  intro b
  induction b with
  | zero => intro h; exact absurd (by rw [Nat.pow_zero, Nat.mod_one]) h
  | succ b ih =>
    intro h
    rw [poN]
    by_cases q : s % 2 ^ b = 0
    · rw [Nat.mod_pow_succ, q] at h
      have h1 : s / 2 ^ b % 2 ≠ 0 := fun z => h (by rw [z, Nat.mul_zero])
      omega
    · have := ih q
      omega
theorem L_reads {M : MM} (h : Rel M) (x : Int32) : wX4_reads (fun r M1 => wX5_reads (PQ r) M1 x) M x := by
  obtain ⟨R, σ, hR, hS, hc, hm, hr, him, hsh, htx⟩ := id h
  have hb : tpB 1 := Or.inl rfl
  have h12 := hS.2.1
  unfold wX4_reads
  refine s_hasAllOf h12 hc.2.1 (fun s hs hx => o_n1 ?_) (fun hx => o_n0 ?_)
  · subst hx
    have hj : ∃ j, j < 2 ^ sN σ ∧ nI s = nI j := ⟨s, hs, rfl⟩
    have h4 : 2 ^ sN σ ≤ 2 ^ 12 := Nat.pow_le_pow_right (by omega) h12
    have cs := ch_stop hs 12 h12
    have hpo := poN_le s 12
    have hcq : poN s 12 = poN s (sN σ) := cs.1
    -- the reference, up to its order
    have mst : ∀ (r : Int32) (M1 : MM), M1 53 = M 53 → M1 55 = M 55 → (¬ poN s 12 ≤ 8 → PQ r (-2) M1) → (poN s 12 ≤ 8 → ∀ M', (∀ a, a ≠ 52 → a ≠ 62 → a ≠ 63 → M' a = M1 a) → (∀ j, j ≠ 20 → M' 52 j = M1 52 j) → thP M' (chN s (sN σ)) (poN s (sN σ)) → reP M' (hpN R σ (chN s (sN σ)) (poN s (sN σ))) (poN s (sN σ)) 0 → (¬ (M' 52 20) = 0 → wX5_nthOf (fun r6 M7 => wX5_endOf (fun r8 M9 => wX5_reads_67 (PQ r) (nI s) M9 (M' 62 8) r8) M7 r6) M' ((M' 52 20) - (1 : Int32))) ∧ ((M' 52 20) = 0 → wX5_reads_67 (PQ r) (nI s) M' (M' 62 8) (M' 53 325))) → wX5_reads (PQ r) M1 (nI s) := by
      intro r M1 e53 e55 q2 q3
      have hm1 : mdT M1 0 σ := hm.keep e53
      have hr1 : rlT M1 R := hr.keep e55
      unfold wX5_reads
      refine m_areBlocks h12 hm1.2.1 (fun j j1 j2 => o_n1 ?_) (fun q => absurd hj q)
      refine m_countOf (by omega) ?_
      rw [show (8 : Int32) = nI 8 from rfl, nI_leI (by omega) (by omega)]
      by_cases c8 : poN s 12 ≤ 8
      · exact br_t c8 (m_layRest hR hS hr1 hm1 hs (by rw [← cs.1]; exact c8) (q3 c8))
      · exact br_f c8 (q2 c8)
    refine s_bitCount (by omega) ?_
    rw [show (8 : Int32) = nI 8 from rfl, nI_leI (by omega) (by omega)]
    by_cases c8 : poN s 12 ≤ 8
    · refine br_t c8 ?_
      by_cases s0 : s = 0
      · have p0 : poN s (sN σ) = 0 := by
          rw [← hcq, s0]; decide
        refine br_nt (by rw [s0]; rfl) (mst _ M rfl rfl (fun z => absurd c8 z) (fun _ M' a1 a2 a3 a4 => br_nt ?_ ?_))
        · rw [a3.1, p0]; rfl
        · have e62 : M' 62 8 = 0 := by
            rw [(a4 0 (Nat.zero_le _) (Nat.pow_pos (by omega))).2 rfl, p0]; rfl
          unfold wX5_reads_67
          rw [e62]
          rintro _ rfl _ rfl
          refine ⟨rfl, ?_⟩
          have hz : ∀ z : Int32, z + 0 = z := fun z => Int32.add_zero z
          rw [hz, mset_id, mset_id]
          exact h.sc2 (fun a ha h52 => a1 a h52 (by omega) (by omega)) a2
      · refine br_nf (fun z => s0 ((nI_eq (b := 0) (by omega) (by omega)).mp z)) (s_plan hR hS hc hs c8 (fun M1 hp => ?_))
        obtain ⟨p1, p2, p3, p4⟩ := hp
        have hcp : 0 < poN s 12 := poN_pos 12 (by rw [Nat.mod_eq_of_lt (by omega)]; exact s0)
        obtain ⟨k, hk⟩ : ∃ k, poN s 12 = k + 1 := ⟨poN s 12 - 1, by omega⟩
        have hkc : k < poN s 12 := by omega
        have c1 : clT M1 1 R σ := hc.keep (fun i hi => p1 _ (by omega))
        have ok := hp_ok hR hS (ch12_lt hs h12)
        have hbl := ch12_lt hs h12 _ (pt_lt c8 ok hkc)
        rintro _ rfl
        unfold wX0_stopAt
        rw [mset_n (show 39 ≠ 1 by decide), p2, nI_sub1 (by omega)]
        refine s_cell (by rw [a40.2.2.2]; omega) (by rw [a40.2.2.2]; decide) ?_
        rw [mset_n (show 43 ≠ 1 by decide), show poN s 12 - 1 = k by omega, p4 k hkc]
        have hxs := (hS.2.2.2.1 _ hbl).2
        have c6 : clT (mset M1 1 10 (M1 1 10 + M1 39 5)) 1 R (uH σ (sH σ) (M1 1 10 + M1 39 5)) := by
          refine c1.obj (fun i h1 h2 => mset_n (by omega)) rfl rfl rfl rfl rfl (mset_sn (by decide)) (mset_sn (by decide)) (mset_sn (by decide)) ?_ mset_ss ?_
          · rw [mset_sn (by decide)]; exact c1.2.2.1
          · rw [mset_sn (by decide)]; exact c1.2.2.2.2.2.2.2.2.2.2.2.2
        have e10 : M1 1 10 = sK σ := c1.2.2.2.2.2.2.2.2.2.2.2.1
        refine s_endOf hb hR (hS.uH hS.2.2.1 _) c6 hbl ?_
        rintro _ rfl
        have e39 : mset (mset M1 1 10 (M1 1 10 + M1 39 5)) 1 9 (nI (sB (uH σ (sH σ) (M1 1 10 + M1 39 5)) (chN s 12 (ptN (hpN R σ (chN s 12) (poN s 12)) (poN s 12) (k + 1)).2) + lgN R (sZ (uH σ (sH σ) (M1 1 10 + M1 39 5)) (chN s 12 (ptN (hpN R σ (chN s 12) (poN s 12)) (poN s 12) (k + 1)).2)))) 39 5 = nI (fqN (hpN R σ (chN s 12) (poN s 12)) (poN s 12) (2 ^ poN s 12 - 1) (poN s 12)) := by
          rw [mset_n (by decide), mset_n (by decide)]; exact p3
        rw [e39]
        have f53 : ∀ v w : Int32, mset (mset M1 1 10 v) 1 9 w 53 = M 53 := fun v w => by rw [mset_n (by decide), mset_n (by decide), p1 53 (by omega)]
        have f55 : ∀ v w : Int32, mset (mset M1 1 10 v) 1 9 w 55 = M 55 := fun v w => by rw [mset_n (by decide), mset_n (by decide), p1 55 (by omega)]
        refine mst _ _ (f53 _ _) (f55 _ _) (fun z => absurd c8 z) (fun _ M' a1 a2 a3 a4 => br_nf ?_ ?_)
        · rw [a3.1]
          intro z
          have := (nI_eq (b := 0) (by omega) (by omega)).mp z
          omega
        · rw [a3.1, nI_sub1 (by omega), show poN s (sN σ) - 1 = k by omega]
          have hm' : mdT M' 0 σ := hm.keep (by rw [a1 53 (by decide) (by decide) (by decide), f53])
          have hr' : rlT M' R := hr.keep (by rw [a1 55 (by decide) (by decide) (by decide), f55])
          have pb := pt_both hR hS hs c8 hkc
          refine m_nthOf hR hS hr' hm' (by omega) (ch_lt s (sN σ)) a3 a4 (by omega) ?_
          rw [← pb]
          refine m_endOf hR hS hr' hm' hbl ?_
          have e62 : M' 62 8 = nI (fqN (hpN R σ (chN s 12) (poN s 12)) (poN s 12) (2 ^ poN s 12 - 1) (poN s 12)) := by
            rw [(a4 0 (Nat.zero_le _) (Nat.pow_pos (by omega))).2 rfl, fq_both hs h12 c8]
          unfold wX5_reads_67
          rw [e62]
          rintro _ rfl _ rfl
          refine ⟨rfl, ?_⟩
          refine Rel.step (M := M) (σ' := uH σ (sB σ (chN s 12 (ptN (hpN R σ (chN s 12) (poN s 12)) (poN s 12) (k + 1)).2) + lgN R (sZ σ (chN s 12 (ptN (hpN R σ (chN s 12) (poN s 12)) (poN s 12) (k + 1)).2))) (sK σ + nI (fqN (hpN R σ (chN s 12) (poN s 12)) (poN s 12) (2 ^ poN s 12 - 1) (poN s 12)))) hR (hS.uH hxs _) ?_ ?_ hr him hsh htx ?_ ?_ ?_
          · have g1 : ∀ i, i < 9 → mset (mset M' 53 326 (M' 53 326 + nI (fqN (hpN R σ (chN s 12) (poN s 12)) (poN s 12) (2 ^ poN s 12 - 1) (poN s 12)))) 53 325 (nI (sB σ (chN s 12 (ptN (hpN R σ (chN s 12) (poN s 12)) (poN s 12) (k + 1)).2) + lgN R (sZ σ (chN s 12 (ptN (hpN R σ (chN s 12) (poN s 12)) (poN s 12) (k + 1)).2)))) (1 + i) = M' (1 + i) := fun i hi => by rw [mset_n (by omega), mset_n (by omega)]
            refine clT.keep (M := M') ?_ g1
            refine c1.obj (fun i h1 h2 => by rw [a1 _ (by omega) (by omega) (by omega), mset_n (by omega), mset_n (by omega)]) rfl rfl rfl rfl rfl ?_ ?_ ?_ ?_ ?_ ?_
            · rw [a1 1 (by decide) (by decide) (by decide), mset_sn (by decide), mset_sn (by decide)]
            · rw [a1 1 (by decide) (by decide) (by decide), mset_sn (by decide), mset_sn (by decide)]
            · rw [a1 1 (by decide) (by decide) (by decide), mset_sn (by decide), mset_sn (by decide)]
            · rw [a1 1 (by decide) (by decide) (by decide), mset_ss]; rfl
            · rw [a1 1 (by decide) (by decide) (by decide), mset_sn (by decide), mset_ss, e10, p3]; rfl
            · rw [a1 1 (by decide) (by decide) (by decide), mset_sn (by decide), mset_sn (by decide)]; exact c1.2.2.2.2.2.2.2.2.2.2.2.2
          · refine hm'.obj hS.n3 hS.z12 (fun i h1 h2 h3 => by rw [mset_sn h1, mset_sn h2]) rfl rfl rfl rfl rfl ?_ ?_ ?_
            · rw [mset_ss]; rfl
            · rw [mset_sn (by decide), mset_ss, show M' 53 326 = sK σ from hm'.2.2.2.2.2.2.2.2.2.2.2.1]; rfl
            · rw [mset_sn (by decide), mset_sn (by decide)]; exact hm'.2.2.2.2.2.2.2.2.2.2.2.2
          · intro a ha
            unfold keepP at ha
            rw [mset_n (by omega), mset_n (by omega), a1 a (by omega) (by omega) (by omega), mset_n (by omega), mset_n (by omega), p1 a (by omega)]
          · intro q hq
            rw [mset_sn (by omega), mset_sn (by omega), a1 53 (by decide) (by decide) (by decide), f53]
          · rw [mset_n (by decide), mset_n (by decide)]
            have g52 : ∀ j, j ≠ 20 → M' 52 j = M 52 j := fun j hj => by rw [a2 j hj, mset_n (by decide), mset_n (by decide), p1 52 (by omega)]
            exact ⟨g52 9 (by decide), g52 14 (by decide), g52 25 (by decide)⟩
    · exact br_f c8 (mst _ M rfl rfl (fun _ => ⟨rfl, h⟩) (fun q => absurd q c8))
  · unfold wX5_reads
    exact m_areBlocks h12 hm.2.1 (fun j j1 j2 => absurd ⟨j, j1, j2⟩ hx) (fun _ => o_n0 ⟨rfl, h⟩)
