theorem m_endRaw {Q : Int32 → MM → Prop} {M : MM} {j B Z : Nat} {R : Nat → Nat} (hR : okR R) (hr : rlT M R) (hj : j < 12) (eB : M 53 (1 + j) = nI B) (eZ : M 53 (13 + j) = nI Z) (hZ : Z ≤ 99) (hq : Q (nI (B + lgN R Z)) M) : wX5_endOf Q M (nI j) := by
  unfold wX5_endOf
  rw [n1, nI_add, show (13 : Int32) = nI 13 from rfl, nI_add, clamp_nI (by omega), clamp_nI (by omega)]
  refine ⟨v53 (by omega), v53 (by omega), ?_⟩
  rw [eZ]
  refine m_longOf hR hr hZ ?_
  rw [eB, nI_add]; exact hq
theorem m_cutLoop {Q : Int32 → MM → Prop} {M : MM} {R : Nat → Nat} {σ : SS} {x y : Nat} (hR : okR R) (hS : okS R σ) (hr : rlT M R) (hxy : x < y) (hy : y ≤ sL σ) (hq : ∀ M', cmI R σ x y M M' (sN σ) → wX5_cut_56 Q (nI x) (nI y) 1 M' (nI (kcN R σ x y (sN σ))) (nI (sN σ)) (nI (sN σ))) : ∀ r b M', b + r = sN σ → cmI R σ x y M M' b → wX5_cut_56 Q (nI x) (nI y) (r + 1) M' (nI (kcN R σ x y b)) (nI (sN σ)) (nI b) := by
  have h12 := hS.2.1
  have hL := hS.1.2
  intro r
  induction r with
  | zero =>
    intro b M' hb hi
    have : b = sN σ := by omega
    subst this
    exact hq M' hi
  | succ r ih =>
    intro b M' hb hi
    have hbN : b < sN σ := by omega
    obtain ⟨i1, i0, i2, i3⟩ := id hi
    obtain ⟨g1, g2, g3, g4⟩ := i3 b (Nat.le_refl _) hbN
    have hz := hS.2.2.2.1 b hbN
    have hle := kc_le R σ x y b
    have kpe : kpP R σ x y b = if y ≤ sB σ b ∨ sB σ b + lgN R (sZ σ b) ≤ x then 1 else 0 := rfl
    have hr' : rlT M' R := hr.keep (i1 55 (by decide))
    refine br_f (fun q => ?_) ?_
    · have := (nI_leI (by omega) (by omega)).mp q; omega
    rw [n1, nI_add, clamp_nI (n := 1 + b) (by omega), g1, nI_ltI (by omega) (by omega)]
    refine ⟨v53 (by omega), ?_⟩
    have stay : ∀ v : Int32, kpP R σ x y b = 1 → nI (sB σ b) - v = nI (nbN σ x y b) → wX5_cut_114 Q (fun M v3 v4 v5 => wX5_cut_56 Q (nI x) (nI y) (r + 1) M v3 v4 v5) (nI x) (nI y) M' (nI (kcN R σ x y b)) (nI (sN σ)) (nI b) v (nI b) (nI (kcN R σ x y b)) := by
      intro v hk hv
      unfold wX5_cut_114 wX5_cut_120
      refine m_moves hle (by omega) (fun M2 hm => ?_)
      have g := ih (b + 1) _ (by omega) (hi.take hS hbN hk hv hm)
      rw [kc_s, hk] at g
      rw [nI_1, nI_1]; exact g
    have go : ∀ (B : Int32), ((B = 0 ∧ ¬ y ≤ sB σ b) ∨ (B = 1 ∧ y ≤ sB σ b)) → kpP R σ x y b = 1 → wX5_cut_98 Q (fun M v3 v4 v5 => wX5_cut_56 Q (nI x) (nI y) (r + 1) M v3 v4 v5) (nI x) (nI y) M' (nI (kcN R σ x y b)) (nI (sN σ)) (nI b) B := by
      intro B hB hk
      unfold wX5_cut_98
      rcases hB with ⟨rfl, q⟩ | ⟨rfl, q⟩
      · exact br_t rfl (stay 0 hk (nb_val0 q))
      · exact br_f (by decide) (stay _ hk (nb_val hxy q))
    unfold wX5_cut_81
    by_cases c1 : sB σ b < y
    · refine br_t c1 (o_n0 (m_endRaw hR hr' (by omega) g1 g2 (by omega) ?_))
      rw [nI_ltI (by omega) (by omega)]
      by_cases c2 : sB σ b + lgN R (sZ σ b) ≤ x
      · exact br_f (by omega) (go 0 (Or.inl ⟨rfl, by omega⟩) (by rw [kpe, if_pos (Or.inr c2)]))
      · refine br_t (by omega) ?_
        have k0 : kpP R σ x y b = 0 := by rw [kpe, if_neg (by omega)]
        have g := ih (b + 1) M' (by omega) (hi.skip k0)
        rw [kc_s, k0] at g
        unfold wX5_cut_120
        rw [nI_1]; exact g
    · exact br_f c1 (o_n1 (go 1 (Or.inr ⟨rfl, by omega⟩) (by rw [kpe, if_pos (Or.inl (by omega))])))
def hdN (σ : SS) (x y : Nat) : Nat := if y ≤ sH σ then sH σ - (y - x) else if x < sH σ then x else sH σ
def ctS (R : Nat → Nat) (σ : SS) (x y : Nat) : SS := uB σ (sL σ - (y - x)) (kcN R σ x y (sN σ)) (hdN σ x y) (fun k => nbN σ x y (srN R σ x y (sN σ) k)) (fun k => sZ σ (srN R σ x y (sN σ) k)) (fun c => sC σ (srN R σ x y (sN σ) (c / 13) * 13 + c % 13)) (fun c => sO σ (srN R σ x y (sN σ) (c / 12) * 12 + c % 12)) (sK σ)
theorem okS.ct {R : Nat → Nat} (hR : okR R) {σ : SS} (hS : okS R σ) {x y : Nat} (hxy : x < y) (hy : y ≤ sL σ) (hd : 20 ≤ sL σ - (y - x)) : okS R (ctS R σ x y) := by
  have hL := hS.1.2
  have hH := hS.2.2.1
  obtain ⟨o1, o2⟩ := sr_ok R σ x y (sN σ)
  have hle := kc_le R σ x y (sN σ)
  have kpe : ∀ b, kpP R σ x y b = 1 → y ≤ sB σ b ∨ sB σ b + lgN R (sZ σ b) ≤ x := by
    intro b h
    by_cases q : y ≤ sB σ b ∨ sB σ b + lgN R (sZ σ b) ≤ x
    · exact q
    · have : kpP R σ x y b = 0 := if_neg q
      omega
  refine hS.blk ⟨hd, by omega⟩ (by have := hS.2.1; omega) ?_ (fun k hk => ?_) (fun i j hi hj => ?_) (fun k hk i hi => ?_) (fun k hk i hi => ?_)
  · unfold hdN
    by_cases q : y ≤ sH σ
    · rw [if_pos q]; omega
    · rw [if_neg q]
      by_cases q2 : x < sH σ
      · rw [if_pos q2]; omega
      · rw [if_neg q2]; omega
  · have h1 := o1 k hk
    have h2 := hS.2.2.2.1 _ h1.1
    have h3 := kpe _ h1.2
    refine ⟨h2.1, ?_⟩
    unfold nbN
    by_cases q : y ≤ sB σ (srN R σ x y (sN σ) k)
    · rw [if_pos q]; omega
    · rw [if_neg q]; omega
  · have h1 := o1 i (by omega)
    have h2 := o1 j hj
    have h3 := o2 i j hi hj
    have h4 := hS.2.2.2.2.1 _ _ h3 h2.1
    have g1 := kpe _ h1.2
    have g2 := kpe _ h2.2
    have l1 := lgN_le hR (n := sZ σ (srN R σ x y (sN σ) i)) (by have := hS.z12 _ h1.1; omega)
    have l2 := lgN_le hR (n := sZ σ (srN R σ x y (sN σ) j)) (by have := hS.z12 _ h2.1; omega)
    unfold nbN
    by_cases q : y ≤ sB σ (srN R σ x y (sN σ) i)
    · rw [if_pos q]
      by_cases q2 : y ≤ sB σ (srN R σ x y (sN σ) j)
      · rw [if_pos q2]; omega
      · omega
    · rw [if_neg q]
      by_cases q2 : y ≤ sB σ (srN R σ x y (sN σ) j)
      · rw [if_pos q2]; omega
      · rw [if_neg q2]; omega
  · have h1 := o1 k hk
    have := hS.z12 _ h1.1
    have hi' : i ≤ sZ σ (srN R σ x y (sN σ) k) := hi
    show sC σ (srN R σ x y (sN σ) ((k * 13 + i) / 13) * 13 + (k * 13 + i) % 13) < 512
    rw [show (k * 13 + i) / 13 = k by omega, show (k * 13 + i) % 13 = i by omega]
    exact hS.2.2.2.2.2.1 _ h1.1 i hi'
  · have h1 := o1 k hk
    have := hS.z12 _ h1.1
    have hi' : i < sZ σ (srN R σ x y (sN σ) k) := hi
    show sO σ (srN R σ x y (sN σ) ((k * 12 + i) / 12) * 12 + (k * 12 + i) % 12) < 256
    rw [show (k * 12 + i) / 12 = k by omega, show (k * 12 + i) % 12 = i by omega]
    exact hS.2.2.2.2.2.2.1 _ h1.1 i hi'
theorem clT.ct {R : Nat → Nat} {σ : SS} {x y : Nat} {M M' M2 : MM} (hS : okS R σ) (hc : clT M 1 R σ) (h : cuI R σ x y M M' (sN σ)) (k1 : ∀ a, a ≠ 1 → a ≠ 2 → M2 a = M' a) (k2 : ∀ j, j ≠ 8 → j ≠ 9 → M2 1 j = M' 1 j) (k3 : ∀ j, j ≠ 0 → M2 2 j = M' 2 j) (e8 : M2 1 8 = nI (kcN R σ x y (sN σ))) (e9 : M2 1 9 = nI (hdN σ x y)) (e0 : M2 2 0 = nI (sL σ - (y - x))) : clT M2 1 R (ctS R σ x y) := by
  obtain ⟨i1, i2, i3⟩ := h
  obtain ⟨o1, o2⟩ := sr_ok R σ x y (sN σ)
  have m1 : ∀ j, j ≠ 8 → j ≠ 9 → M2 1 j = M 1 j := fun j q1 q2 => by rw [k2 j q1 q2, i1 1 (by decide) (by decide) (by decide) (by decide)]
  refine hc.blk _ _ _ _ _ _ _ _ e0 (fun r hr => ?_) e8 e9 (fun k hk => ?_) (fun k hk => ?_) (fun k hk i hi => ?_) (fun k hk i hi => ?_) (m1 11 (by decide) (by decide)) ?_ (m1 13 (by decide) (by decide)) ?_ ?_ ?_ (m1 12 (by decide) (by decide))
  · exact (k3 r hr).trans (by rw [i1 2 (by decide) (by decide) (by decide) (by decide)])
  · rw [k1 _ (by omega) (by omega)]; exact (i2 k hk).1
  · rw [k1 _ (by omega) (by omega)]; exact (i2 k hk).2.1
  · have := hS.z12 _ (o1 k hk).1
    have hi' : i ≤ sZ σ (srN R σ x y (sN σ) k) := hi
    rw [k1 _ (by omega) (by omega), show (k * 13 + i) / 13 = k by omega, show (k * 13 + i) % 13 = i by omega, show k * 13 + i = 13 * k + i by omega]
    exact (i2 k hk).2.2.1 i hi'
  · have := hS.z12 _ (o1 k hk).1
    have hi' : i < sZ σ (srN R σ x y (sN σ) k) := hi
    rw [k1 _ (by omega) (by omega), show (k * 12 + i) / 12 = k by omega, show (k * 12 + i) % 12 = i by omega, show k * 12 + i = 12 * k + i by omega]
    exact (i2 k hk).2.2.2 i hi'
  · rw [k1 _ (by omega) (by omega), i1 _ (by omega) (by omega) (by omega) (by omega)]
  · rw [k1 _ (by omega) (by omega), i1 _ (by omega) (by omega) (by omega) (by omega)]
  · rw [k1 _ (by omega) (by omega), i1 _ (by omega) (by omega) (by omega) (by omega)]
  · rw [m1 10 (by decide) (by decide)]; exact hc.2.2.2.2.2.2.2.2.2.2.2.1
theorem mdT.ct {R : Nat → Nat} {σ : SS} {x y : Nat} {M M' M2 : MM} (hS : okS R σ) (hm : mdT M 0 σ) (h : cmI R σ x y M M' (sN σ)) (k2 : ∀ j, j ≠ 0 → j ≠ 325 → j ≠ 366 → M2 53 j = M' 53 j) (e8 : M2 53 0 = nI (kcN R σ x y (sN σ))) (e9 : M2 53 325 = nI (hdN σ x y)) (e0 : M2 53 366 = nI (sL σ - (y - x))) : mdT M2 0 (ctS R σ x y) := by
  obtain ⟨i1, i0, i2, i3⟩ := h
  obtain ⟨o1, o2⟩ := sr_ok R σ x y (sN σ)
  have hle := kc_le R σ x y (sN σ)
  have h12 := hS.2.1
  refine hm.blk hS _ _ _ _ _ _ _ _ e0 e8 e9 (fun k hk => ?_) (fun k hk => ?_) (fun k hk i hi => ?_) (fun k hk i hi => ?_) (fun j j1 j2 => ?_) ?_
  · rw [k2 _ (by omega) (by omega) (by omega)]; exact (i2 k hk).1
  · rw [k2 _ (by omega) (by omega) (by omega)]; exact (i2 k hk).2.1
  · have := hS.z12 _ (o1 k hk).1
    have hi' : i ≤ sZ σ (srN R σ x y (sN σ) k) := hi
    rw [k2 _ (by omega) (by omega) (by omega), show (k * 13 + i) / 13 = k by omega, show (k * 13 + i) % 13 = i by omega, show 25 + (k * 13 + i) = 25 + 13 * k + i by omega]
    exact (i2 k hk).2.2.1 i hi'
  · have := hS.z12 _ (o1 k hk).1
    have hi' : i < sZ σ (srN R σ x y (sN σ) k) := hi
    rw [k2 _ (by omega) (by omega) (by omega), show (k * 12 + i) / 12 = k by omega, show (k * 12 + i) % 12 = i by omega, show 181 + (k * 12 + i) = 181 + 12 * k + i by omega]
    exact (i2 k hk).2.2.2 i hi'
  · rw [k2 _ (by omega) (by omega) (by omega), i0 j (by omega)]
  · rw [k2 _ (by omega) (by omega) (by omega), i0 _ (by omega)]; exact hm.2.2.2.2.2.2.2.2.2.2.2.1
theorem L_cut {M : MM} (h : Rel M) (x y : Int32) : wX4_cut (fun r M1 => wX5_cut (PQ r) M1 x y) M x y := by
  obtain ⟨R, σ, hR, hS, hc, hm, hr, him, hsh, htx⟩ := id h
  have hb : tpB 1 := Or.inl rfl
  have h12 := hS.2.1
  have hL := hS.1.2
  have hH := hS.2.2.1
  unfold wX4_cut
  refine s_hasPlace hb hc.1.1 ?_
  by_cases hx : (0 : Int32) ≤ x ∧ x ≤ nI (sL σ)
  · refine zt2 hx (s_hasPlace hb hc.1.1 ?_)
    by_cases hy : (0 : Int32) ≤ y ∧ y ≤ nI (sL σ)
    · refine zt2 hy ?_
      obtain ⟨i, hi, rfl⟩ := pl_of (by omega) hx
      obtain ⟨j, hj, rfl⟩ := pl_of (by omega) hy
      have mst : ∀ (Q : Int32 → MM → Prop) (M1 : MM), M1 53 = M 53 → (i < j → ¬ 20 ≤ sL σ - (j - i) → Q (-2) M1) → (i < j → 20 ≤ sL σ - (j - i) → ∃ m, wX5_cut_56 Q (nI i) (nI j) m M1 0 (M1 53 0) 0) → (¬ i < j → Q (-1) M1) → wX5_cut Q M1 (nI i) (nI j) := by
        intro Q M1 e53 q1 q2 q3
        unfold wX5_cut
        have eL : M1 53 366 = nI (sL σ) := by rw [e53]; exact hm.1
        refine m_isPlace eL (zt2 hx (m_isPlace eL (zt2 hy ?_)))
        rw [nI_ltI (by omega) (by omega)]
        by_cases c : i < j
        · refine br_t c ?_
          rw [eL, pk_sub (by omega), pk_sub (by omega)]
          by_cases d : 20 ≤ sL σ - (j - i)
          · exact br_t (nI_le (a := 20) d (by omega)) (q2 c d)
          · exact br_f (fun q => d ((nI_leI (a := 20) (by omega) (by omega)).mp q)) (q1 c d)
        · exact br_f c (q3 c)
      rw [nI_ltI (by omega) (by omega)]
      by_cases c : i < j
      · refine br_t c (s_ruled hb 0 (by omega) rfl ?_)
        rw [hc.1.1, pk_sub (show i ≤ j by omega), pk_sub (by omega)]
        by_cases d : 20 ≤ sL σ - (j - i)
        · refine br_t (nI_le (a := 20) d (by omega)) ?_
          unfold wX2_cutOut
          rw [hc.2.1]
          have hle := kc_le R σ i j (sN σ)
          have c0 : cuI R σ i j M M 0 := ⟨fun _ _ _ _ _ => rfl, fun k hk => absurd hk (Nat.not_lt_zero _), fun k _ hk => ⟨hc.2.2.2.1 k hk, hc.2.2.2.2.1 k hk, fun q hq => by rw [Nat.mul_comm 13 k]; exact hc.2.2.2.2.2.1 k hk q hq, fun q hq => by rw [Nat.mul_comm 12 k]; exact hc.2.2.2.2.2.2.1 k hk q hq⟩⟩
          refine ⟨sN σ + 1, s_cutLoop hR hS hc c hj (fun M1 hcu => ?_) (sN σ) 0 M (by omega) c0⟩
          obtain ⟨i1, i2, i3⟩ := id hcu
          have k1 := i1 1 (by decide) (by decide) (by decide) (by decide)
          have k2 := i1 2 (by decide) (by decide) (by decide) (by decide)
          refine br_t (nI_le (Nat.le_refl _) (by omega)) ?_
          rintro _ rfl
          refine s_ruled hb 0 (by omega) rfl ?_
          refine s_setCell (j := 0) (by decide +kernel) (by decide +kernel) ?_
          have r0 : mset M1 1 8 (nI (kcN R σ i j (sN σ))) (1 + 1) 0 = nI (sL σ) := by rw [mset_n (by decide), k2]; exact hc.1.1
          rw [r0, pk_sub (show i ≤ j by omega), pk_sub (show j - i ≤ sL σ by omega)]
          -- the memory with the number of blocks and the length set
          have mh : ∀ v : Int32, mset (mset M1 1 8 (nI (kcN R σ i j (sN σ)))) (1 + 1) 0 v 1 9 = nI (sH σ) := fun v => by rw [mset_n (by decide), mset_sn (by decide), k1]; exact hc.2.2.1
          rw [mh, nI_ltI (by omega) (by omega), nI_leI (by omega) (by omega)]
          -- the reference, behind it
          have fin : ∀ M2 : MM, (∀ a, a ≠ 1 → a ≠ 2 → M2 a = M1 a) → clT M2 1 R (ctS R σ i j) → wX5_cut (PQ (nI (sN σ) - nI (kcN R σ i j (sN σ)))) M2 (nI i) (nI j) := by
            intro M2 kk hc2
            have e53 : M2 53 = M 53 := by rw [kk 53 (by decide) (by decide), i1 53 (by decide) (by decide) (by decide) (by decide)]
            have hm2 : mdT M2 0 σ := hm.keep e53
            have hr2 : rlT M2 R := hr.keep (by rw [kk 55 (by decide) (by decide), i1 55 (by decide) (by decide) (by decide) (by decide)])
            refine mst _ M2 e53 (fun _ q => absurd d q) (fun _ _ => ?_) (fun q => absurd c q)
            rw [hm2.2.1]
            have c1 : cmI R σ i j M2 M2 0 := ⟨fun _ _ => rfl, fun _ _ => rfl, fun k hk => absurd hk (Nat.not_lt_zero _), fun k _ hk => ⟨mB hm2 hk, mZ hm2 hk, fun q hq => by rw [show 25 + 13 * k + q = 25 + (k * 13 + q) by omega]; exact mC hm2 hk hq, fun q hq => by rw [show 181 + 12 * k + q = 181 + (k * 12 + q) by omega]; exact mO hm2 hk hq⟩⟩
            refine ⟨sN σ + 1, m_cutLoop hR hS hr2 c hj (fun M3 hcm => ?_) (sN σ) 0 M2 (by omega) c1⟩
            obtain ⟨j1, j0, j2, j3⟩ := id hcm
            refine br_t (nI_le (Nat.le_refl _) (by omega)) ?_
            rintro _ rfl
            have h325 : mset M3 53 0 (nI (kcN R σ i j (sN σ))) 53 325 = nI (sH σ) := by rw [mset_sn (by decide), j0 325 (by omega)]; exact hm2.2.2.1
            rw [h325, nI_ltI (by omega) (by omega), nI_leI (by omega) (by omega)]
            have last : ∀ p0 : Int32, p0 = nI (hdN σ i j) → wX5_cut_191 (PQ (nI (sN σ) - nI (kcN R σ i j (sN σ)))) (nI i) (nI j) (mset M3 53 0 (nI (kcN R σ i j (sN σ)))) (nI (kcN R σ i j (sN σ))) (nI (sN σ)) p0 325 := by
              rintro _ rfl
              unfold wX5_cut_191
              refine ⟨v53 (n := 325) (by omega), ?_⟩
              rintro _ rfl _ rfl
              refine ⟨rfl, ?_⟩
              have e325 : (325 : Int32).toNatClampNeg = 325 := rfl
              rw [e325]
              have h366 : mset (mset M3 53 0 (nI (kcN R σ i j (sN σ)))) 53 325 (nI (hdN σ i j)) 53 366 = nI (sL σ) := by rw [mset_sn (by decide), mset_sn (by decide), j0 366 (by omega)]; exact hm2.1
              rw [h366, pk_sub (show i ≤ j by omega), pk_sub (show j - i ≤ sL σ by omega)]
              refine Rel.step (M := M) hR (hS.ct hR c hj d) (hc2.keep (fun q hq => by rw [mset_n (by omega), mset_n (by omega), mset_n (by omega), j1 _ (by omega)])) ?_ hr him hsh htx (fun a ha => ?_) (fun q hq => ?_) ?_
              · refine mdT.ct hS hm2 hcm (fun q q1 q2 q3 => by rw [mset_sn q3, mset_sn q2, mset_sn q1]) ?_ ?_ ?_
                · rw [mset_sn (by decide), mset_sn (by decide), mset_ss]
                · rw [mset_sn (by decide), mset_ss]
                · rw [mset_ss]
              · unfold keepP at ha
                rw [mset_n (by omega), mset_n (by omega), mset_n (by omega), j1 a (by omega), kk a (by omega) (by omega), i1 a (by omega) (by omega) (by omega) (by omega)]
              · rw [mset_sn (by omega), mset_sn (by omega), mset_sn (by omega), j0 q (by omega), e53]
              · rw [mset_n (by decide), mset_n (by decide), mset_n (by decide), j1 52 (by decide), kk 52 (by decide) (by decide), i1 52 (by decide) (by decide) (by decide) (by decide)]; exact ⟨rfl, rfl, rfl⟩
            by_cases q1 : sH σ < j
            · refine br_t q1 ?_
              by_cases q2 : sH σ ≤ i
              · exact br_t q2 (last _ (by unfold hdN; rw [if_neg (by omega), if_neg (by omega)]))
              · exact br_f q2 (last _ (by unfold hdN; rw [if_neg (by omega), if_pos (by omega)]))
            · refine br_f q1 (last _ ?_)
              unfold hdN
              rw [if_pos (by omega), pk_sub (by omega), pk_sub (by omega)]
          unfold wX2_cutOut_139
          have mk : ∀ v w : Int32, v = nI (sL σ - (j - i)) → w = nI (hdN σ i j) → clT (mset (mset (mset M1 1 8 (nI (kcN R σ i j (sN σ)))) (1 + 1) 0 v) 1 9 w) 1 R (ctS R σ i j) := by
            rintro _ _ rfl rfl
            refine clT.ct hS hc hcu (fun a a1 a2 => by rw [mset_n a1, mset_n a2, mset_n a1]) (fun q q1 q2 => by rw [mset_sn q2, mset_n (by decide), mset_sn q1]) (fun q q1 => by rw [mset_n (by decide), mset_sn q1, mset_n (by decide)]) ?_ ?_ ?_
            · rw [mset_sn (by decide), mset_n (by decide), mset_ss]
            · rw [mset_ss]
            · rw [mset_n (by decide), mset_ss]
          by_cases q1 : sH σ < j
          · refine br_t q1 ?_
            by_cases q2 : sH σ ≤ i
            · refine br_t q2 (fin _ (fun a a1 a2 => by rw [mset_n a2, mset_n a1]) ?_)
              have g := mk _ _ rfl rfl
              have e : nI (hdN σ i j) = mset (mset M1 1 8 (nI (kcN R σ i j (sN σ)))) (1 + 1) 0 (nI (sL σ - (j - i))) 1 9 := by
                rw [mh]; unfold hdN; rw [if_neg (by omega), if_neg (by omega)]
              rw [e, mset_id] at g
              exact g
            · refine br_f q2 ?_
              rintro _ rfl
              exact fin _ (fun a a1 a2 => by rw [mset_n a1, mset_n a2, mset_n a1]) (mk _ _ rfl (by unfold hdN; rw [if_neg (by omega), if_pos (by omega)]))
          · refine br_f q1 ?_
            rintro _ rfl
            refine fin _ (fun a a1 a2 => by rw [mset_n a1, mset_n a2, mset_n a1]) (mk _ _ rfl ?_)
            unfold hdN
            rw [if_pos (by omega), pk_sub (by omega)]
        · refine br_f (fun q => d ((nI_leI (a := 20) (by omega) (by omega)).mp q)) ?_
          exact mst _ M rfl (fun _ _ => ⟨rfl, h⟩) (fun _ q => absurd q d) (fun q => absurd c q)
      · refine br_f c ?_
        exact mst _ M rfl (fun q => absurd q c) (fun q => absurd q c) (fun _ => ⟨rfl, h⟩)
    · refine zf2 hy ?_
      unfold wX5_cut
      exact m_isPlace hm.1 (zt2 hx (m_isPlace hm.1 (zf2 hy ⟨rfl, h⟩)))
  · refine zf2 hx ?_
    unfold wX5_cut
    exact m_isPlace hm.1 (zf2 hx ⟨rfl, h⟩)
