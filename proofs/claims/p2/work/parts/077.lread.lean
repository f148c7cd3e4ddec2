theorem L_read {M : MM} (h : Rel M) (k l f n : Int32) : wX4_read (fun r M1 => wX5_read (PQ r) M1 k l f n) M k l f n := by
  obtain ⟨R, σ, hR, hS, hc, hm, hr, him, hsh, htx⟩ := id h
  have hY := hS.n3.2.1
  have e11 : M 1 11 = nI (sY σ) := hc.2.2.2.2.2.2.2.1
  have m11 : M 53 327 = nI (sY σ) := hm.2.2.2.2.2.2.2.1
  unfold wX4_read
  refine s_isBetween.mpr ?_
  by_cases hk : (0 : Int32) ≤ k ∧ k ≤ 3
  · refine zt2 hk (s_isBetween.mpr ?_)
    by_cases hl : (0 : Int32) ≤ l ∧ l ≤ 2
    · refine zt2 hl (s_isBetween.mpr ?_)
      by_cases hn : (0 : Int32) ≤ n ∧ n ≤ 12
      · refine zt1 hn ?_
        obtain ⟨s, hs, rfl⟩ := pl_of (L := 3) (by omega) hk
        obtain ⟨N, hN, rfl⟩ := pl_of (L := 12) (by omega) hn
        refine s_sheetNumbered (by omega) ⟨shB_at (by omega), ?_⟩
        rw [e11]
        have sh := hsh s (by omega)
        -- the reference's way to its loop
        have mst : ∀ (r : Int32) (M1 : MM), (∃ m, wX5_read_32 (PQ r) (nI s) l f (nI N) m M1 0 0 0) → wX5_read (PQ r) M1 (nI s) l f (nI N) := by
          intro r M1 g
          unfold wX5_read
          exact m_isSheet (fun _ _ => o_t1 (m_in32 0 12 rfl rfl (zt1 hn g))) (fun q => absurd ⟨hk, hl⟩ q)
        -- what both have typed
        have fin : ∀ (M' : MM) (t : Nat) (r : Int32), t ≤ N → (∀ t', t' < t → gdP M s (sY σ) l f t') → rcI M M' s (sY σ) f t → ∀ M3, rmI M (mset (mset M' 0 10 r) 52 25 r) M3 s (sY σ) f t → Rel M3 := by
          intro M' t r ht hg hi M3 hj
          obtain ⟨i1, i2, i3, i4, i5⟩ := hi
          obtain ⟨j1, j2, j3, j4, j5⟩ := hj
          have yt : sY σ + t ≤ 12 := by
            rcases Nat.eq_zero_or_pos t with q | q
            · omega
            · have := (hg (t - 1) (by omega)).2.2.2; omega
          have kk : ∀ a, a ≠ 0 → a ≠ 1 → a ≠ 7 → a ≠ 52 → a ≠ 53 → M3 a = M a := fun a q0 q1 q2 q3 q4 => by rw [j1 a q4, mset_n q3, mset_n q0, i1 a q1 q2]
          have k53 : ∀ j, (j < 327 ∨ 340 ≤ j) → M3 53 j = M 53 j := fun j q => by rw [j2 j q, mset_n (by decide), mset_n (by decide), i1 53 (by decide) (by decide)]
          have k1 : M3 1 = M' 1 := by rw [j1 1 (by decide), mset_n (by decide), mset_n (by decide)]
          have k7 : M3 7 = M' 7 := by rw [j1 7 (by decide), mset_n (by decide), mset_n (by decide)]
          have k0 : ∀ j, j ≠ 10 → M3 0 j = M 0 j := fun j q => by rw [j1 0 (by decide), mset_n (by decide), mset_sn q, i1 0 (by decide) (by decide)]
          have k52 : ∀ j, j ≠ 25 → M3 52 j = M 52 j := fun j q => by rw [j1 52 (by decide), mset_sn q, mset_n (by decide), i1 52 (by decide) (by decide)]
          refine ⟨R, uY σ (sY σ + t) (fun i => if i < sY σ then sT σ i else avN M s f (i - sY σ)), hR, hS.uY yt (fun i hi => ?_), ?_, ?_, hr.keep (kk 55 (by decide) (by decide) (by decide) (by decide) (by decide)), him.keep (k0 11 (by decide)) (fun a q1 q2 => kk a (by omega) (by omega) (by omega) (by omega) (by omega)) (fun j q => k53 j (by omega)) (kk 54 (by decide) (by decide) (by decide) (by decide) (by decide)), hsh.keep (fun a q1 q2 => kk a (by omega) (by omega) (by omega) (by omega) (by omega)) (fun a q1 q2 => kk a (by omega) (by omega) (by omega) (by omega) (by omega)), ?_⟩
          · by_cases q : i < sY σ
            · rw [if_pos q]; exact hS.2.2.2.2.2.2.2.2.1 i q
            · rw [if_neg q]; exact (hg _ (by omega)).2.2.1
          · refine hc.typed _ _ (fun r q1 q2 q3 => kk _ (by omega) (by omega) (by omega) (by omega) (by omega)) (fun j q => by rw [k1]; exact i2 j q) (by rw [k1]; exact i3) (fun i hi => ?_)
            rw [k7]
            by_cases q : i < sY σ
            · rw [if_pos q, i4 i q]; exact hc.2.2.2.2.2.2.2.2.1 i q
            · rw [if_neg q]
              have := i5 (i - sY σ) (by omega)
              rwa [show sY σ + (i - sY σ) = i by omega] at this
          · refine hm.typed hS.n3 hS.z12 _ _ k53 j3 (fun i hi => ?_)
            by_cases q : i < sY σ
            · rw [if_pos q, j4 i q, mset_n (by decide), mset_n (by decide), i1 53 (by decide) (by decide)]
              have := hm.2.2.2.2.2.2.2.2.1 i q
              rwa [Nat.zero_add] at this
            · rw [if_neg q]
              have := j5 (i - sY σ) (by omega)
              rwa [show sY σ + (i - sY σ) = i by omega] at this
          · obtain ⟨t1, t2, t3⟩ := htx
            refine ⟨?_, ?_, ?_⟩
            · rw [kk 37 (by decide) (by decide) (by decide) (by decide) (by decide), kk 38 (by decide) (by decide) (by decide) (by decide) (by decide), kk 59 (by decide) (by decide) (by decide) (by decide) (by decide), k52 9 (by decide)]; exact t1
            · exact True.intro
            · rw [j1 0 (by decide), mset_n (by decide), mset_ss, j1 52 (by decide), mset_ss]
        -- the reference's end: so many are typed
        have end1 : ∀ (M' : MM) (t : Nat) (r : Int32), t ≤ N → (∀ t', t' < t → gdP M s (sY σ) l f t') → rcI M M' s (sY σ) f t → wX5_read_172 (PQ (nI t)) (nI s) l f (nI N) (mset M' 0 10 r) r (nI t) := by
          intro M' t r ht hg hi
          unfold wX5_read_172
          rintro _ rfl
          have e53 : mset (mset M' 0 10 r) 52 25 r 53 = M 53 := by rw [mset_n (by decide), mset_n (by decide)]; exact hi.1 53 (by decide) (by decide)
          have e66 : mset (mset M' 0 10 r) 52 25 r 66 = M 66 := by rw [mset_n (by decide), mset_n (by decide)]; exact hi.1 66 (by decide) (by decide)
          refine ⟨t + 1, m_types (M := M) (M1 := mset (mset M' 0 10 r) 52 25 r) (y := sY σ) (by omega) hN ht hg e66 (fun M3 hj => ⟨rfl, fin M' t r ht hg hi M3 hj⟩) t 0 _ (by omega) ⟨fun _ _ => rfl, fun _ _ => rfl, ?_, fun _ _ => rfl, fun _ q => by omega⟩⟩
          rw [e53]; exact m11
        have rst : ∀ (M' : MM) (t : Nat), rcI M M' s (sY σ) f t → Rel (mset M' 1 11 (nI (sY σ))) := by
          intro M' t hi
          obtain ⟨i1, i2, i3, i4, i5⟩ := hi
          have hcf : clT (mset M' 1 11 (nI (sY σ))) 1 R (uY σ (sY σ) (sT σ)) := by
            refine hc.typed _ _ (fun r q1 q2 q3 => by rw [mset_n (by omega), i1 _ (by omega) (by omega)]) (fun j q => by rw [mset_sn q]; exact i2 j q) (by rw [mset_ss]) (fun i hi => ?_)
            rw [mset_n (by decide)]
            exact (i4 i hi).trans (hc.2.2.2.2.2.2.2.2.1 i hi)
          refine Rel.step (σ' := σ) hR hS hcf (hm.keep (by rw [mset_n (by decide)]; exact i1 53 (by decide) (by decide))) hr him hsh htx (fun a ha => ?_) (fun j _ => by rw [mset_n (by decide), i1 53 (by decide) (by decide)]) ?_
          · unfold keepP at ha
            rw [mset_n (by omega), i1 a (by omega) (by omega)]
          · rw [mset_n (by decide), i1 52 (by decide) (by decide)]; exact ⟨rfl, rfl, rfl⟩
        -- ways through the reference's loop
        have pre : ∀ (r0 : Int32) (M1 : MM) (t k : Nat), t ≤ N → (∀ t', t' < t → gdP M s (sY σ) l f t') → M1 64 = M 64 → M1 65 = M 65 → M1 66 = M 66 → M1 53 = M 53 → wX5_read_32 (PQ r0) (nI s) l f (nI N) k M1 0 (nI t) (nI t) → wX5_read (PQ r0) M1 (nI s) l f (nI N) := by
          intro r0 M1 t k ht hg k64 k65 k66 k53 g
          exact mst r0 M1 ⟨_, m_pre (M := M) (y := sY σ) (by omega) hN ht hg k64 k65 k66 (by rw [k53]; exact m11) g t 0 (by omega)⟩
        refine ⟨N + 1, s_reads (M := M) (y := sY σ) (by omega) hN hY sh (fun M' hg hi => ?_) (fun M' t r ht hg hi hr0 hf => ?_) (fun M' t ht hg hi hf hb => ?_) (fun M' t ht hg hi hf hb h12 => ?_) N 0 M (by omega) (fun _ q => by omega) ⟨fun _ _ _ => rfl, fun _ _ => rfl, e11, fun _ _ => rfl, fun _ q => by omega⟩⟩
        · have kk : ∀ a, a ≠ 0 → a ≠ 1 → a ≠ 7 → mset M' 0 10 0 a = M a := fun a q0 q1 q2 => by rw [mset_n q0]; exact hi.1 a q1 q2
          refine pre _ _ N 1 (Nat.le_refl _) hg (kk _ (by decide) (by decide) (by decide)) (kk _ (by decide) (by decide) (by decide)) (kk _ (by decide) (by decide) (by decide)) (kk _ (by decide) (by decide) (by decide)) ?_
          exact br_t (nI_le (Nat.le_refl _) (by omega)) (end1 M' N 0 (Nat.le_refl _) hg hi)
        · have kk : ∀ a, a ≠ 0 → a ≠ 1 → a ≠ 7 → mset M' 0 10 r a = M a := fun a q0 q1 q2 => by rw [mset_n q0]; exact hi.1 a q1 q2
          have k64 := kk 64 (by decide) (by decide) (by decide)
          have k65 := kk 65 (by decide) (by decide) (by decide)
          refine pre _ _ t 2 (by omega) hg k64 k65 (kk _ (by decide) (by decide) (by decide)) (kk _ (by decide) (by decide) (by decide)) ?_
          refine m_f32 (r := r) (by omega) ht hN (by rw [k64, k65]; exact hf) ?_
          unfold wX5_read_106 wX5_read_166
          refine br_nf hr0 ?_
          have g := end1 M' t r (by omega) hg hi
          rw [nI_1]
          exact ⟨fun _ => g, fun _ => br_nf hr0 g⟩
        · have kk : ∀ a, a ≠ 1 → a ≠ 7 → mset M' 1 11 (nI (sY σ)) a = M a := fun a q1 q2 => by rw [mset_n q1]; exact hi.1 a q1 q2
          have k64 := kk 64 (by decide) (by decide)
          have k65 := kk 65 (by decide) (by decide)
          have k66 := kk 66 (by decide) (by decide)
          refine pre _ _ t 1 (by omega) hg k64 k65 k66 (kk _ (by decide) (by decide)) ?_
          refine m_f32 (r := 0) (by omega) ht hN (by rw [k64, k65]; exact hf) ?_
          unfold wX5_read_106
          have ix := wx_ix (s := s) (M := mset M' 1 11 (nI (sY σ))) (by omega) hf
          have ew : wcI (mset M' 1 11 (nI (sY σ))) s f t = wcI M s f t := by unfold wcI; rw [k66]
          rw [ix.2, ew]
          exact br_nt rfl ⟨ix.1, m_in32 0 255 rfl rfl (zf1 hb ⟨rfl, rst M' t hi⟩)⟩
        · have kk : ∀ a, a ≠ 1 → a ≠ 7 → mset M' 1 11 (nI (sY σ)) a = M a := fun a q1 q2 => by rw [mset_n q1]; exact hi.1 a q1 q2
          have k64 := kk 64 (by decide) (by decide)
          have k65 := kk 65 (by decide) (by decide)
          have k66 := kk 66 (by decide) (by decide)
          have k53 := kk 53 (by decide) (by decide)
          refine pre _ _ t 1 (by omega) hg k64 k65 k66 k53 ?_
          refine m_f32 (r := 0) (by omega) ht hN (by rw [k64, k65]; exact hf) ?_
          unfold wX5_read_106
          have ix := wx_ix (s := s) (M := mset M' 1 11 (nI (sY σ))) (by omega) hf
          have ew : wcI (mset M' 1 11 (nI (sY σ))) s f t = wcI M s f t := by unfold wcI; rw [k66]
          rw [ix.2, ew]
          refine br_nt rfl ⟨ix.1, m_in32 0 255 rfl rfl (zt1 hb ?_)⟩
          rw [k53, m11, nI_add]
          exact br_nt (by rw [h12]; rfl) ⟨rfl, rst M' t hi⟩
      · refine zf1 hn ?_
        unfold wX5_read
        exact m_isSheet (fun _ _ => o_t1 (m_in32 0 12 rfl rfl (zf1 hn ⟨rfl, h⟩))) (fun q => absurd ⟨hk, hl⟩ q)
    · refine zf2 hl ?_
      unfold wX5_read
      exact m_isSheet (fun _ q => absurd q hl) (fun _ => o_t0 ⟨rfl, h⟩)
  · refine zf2 hk ?_
    unfold wX5_read
    exact m_isSheet (fun q => absurd q hk) (fun _ => o_t0 ⟨rfl, h⟩)
