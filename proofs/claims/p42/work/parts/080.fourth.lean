theorem m_endRaw {Q : Int32 → MM → Prop} {M : MM} {j B Z : Nat} {R : Nat → Nat} (hR : okR R) (hr : rlT M R) (hj : j < 12) (eB : M 53 (1 + j) = nI B) (eZ : M 53 (13 + j) = nI Z) (hZ : Z ≤ 99) (hq : Q (nI (B + lgN R Z)) M) : wX5_endOf Q M (nI j) := by
  unfold wX5_endOf
  rw [n1, nI_add, show (13 : Int32) = nI 13 from rfl, nI_add, clamp_nI (by omega), clamp_nI (by omega)]
  refine ⟨v53 (by omega), v53 (by omega), ?_⟩
  rw [eZ]
  refine m_longOf hR hr hZ ?_
  rw [eB, nI_add]; exact hq
theorem m_cutLoop {Q : Int32 → MM → Prop} {M : MM} {R : Nat → Nat} {σ : SS} {x y : Nat} (hR : okR R) (hS : okS R σ) (hr : rlT M R) (hxy : x < y) (hy : y ≤ sL σ) (hq : ∀ M', cmI R σ x y M M' (sN σ) → wX5_cut_56 Q (nI x) (nI y) 1 M' (nI (kcN R σ x y (sN σ))) (nI (sN σ)) (nI (sN σ))) : ∀ r b M', b + r = sN σ → cmI R σ x y M M' b → wX5_cut_56 Q (nI x) (nI y) (r + 1) M' (nI (kcN R σ x y b)) (nI (sN σ)) (nI b) := by
  have h12 := hS.2.1
  have hL := hS.1.2
  intro r
  induction r with
  | zero =>
    intro b M' hb hi
    have : b = sN σ := by omega
    subst this
    exact hq M' hi
  | succ r ih =>
    intro b M' hb hi
    have hbN : b < sN σ := by omega
    obtain ⟨i1, i0, i2, i3⟩ := id hi
    obtain ⟨g1, g2, g3, g4⟩ := i3 b (Nat.le_refl _) hbN
    have hz := hS.2.2.2.1 b hbN
    have hle := kc_le R σ x y b
    have kpe : kpP R σ x y b = if y ≤ sB σ b ∨ sB σ b + lgN R (sZ σ b) ≤ x then 1 else 0 := rfl
    have hr' : rlT M' R := hr.keep (i1 55 (by decide))
    refine br_f (fun q => ?_) ?_
    · have := (nI_leI (by omega) (by omega)).mp q; omega
    rw [n1, nI_add, clamp_nI (n := 1 + b) (by omega), g1, nI_ltI (by omega) (by omega)]
    refine ⟨v53 (by omega), ?_⟩
    have stay : ∀ v : Int32, kpP R σ x y b = 1 → nI (sB σ b) - v = nI (nbN σ x y b) → wX5_cut_114 Q (fun M v3 v4 v5 => wX5_cut_56 Q (nI x) (nI y) (r + 1) M v3 v4 v5) (nI x) (nI y) M' (nI (kcN R σ x y b)) (nI (sN σ)) (nI b) v (nI b) (nI (kcN R σ x y b)) := by
      intro v hk hv
      unfold wX5_cut_114 wX5_cut_120
      refine m_moves hle (by omega) (fun M2 hm => ?_)
      have g := ih (b + 1) _ (by omega) (hi.take hS hbN hk hv hm)
      rw [kc_s, hk] at g
      rw [nI_1, nI_1]; exact g
    have go : ∀ (B : Int32), ((B = 0 ∧ ¬ y ≤ sB σ b) ∨ (B = 1 ∧ y ≤ sB σ b)) → kpP R σ x y b = 1 → wX5_cut_98 Q (fun M v3 v4 v5 => wX5_cut_56 Q (nI x) (nI y) (r + 1) M v3 v4 v5) (nI x) (nI y) M' (nI (kcN R σ x y b)) (nI (sN σ)) (nI b) B := by
      intro B hB hk
      unfold wX5_cut_98
      rcases hB with ⟨rfl, q⟩ | ⟨rfl, q⟩
      · exact br_t rfl (stay 0 hk (nb_val0 q))
      · exact br_f (by decide) (stay _ hk (nb_val hxy q))
    unfold wX5_cut_81
    by_cases c1 : sB σ b < y
    · refine br_t c1 (o_n0 (m_endRaw hR hr' (by omega) g1 g2 (by omega) ?_))
      rw [nI_ltI (by omega) (by omega)]
      by_cases c2 : sB σ b + lgN R (sZ σ b) ≤ x
      · exact br_f (by omega) (go 0 (Or.inl ⟨rfl, by omega⟩) (by rw [kpe, if_pos (Or.inr c2)]))
      · refine br_t (by omega) ?_
        have k0 : kpP R σ x y b = 0 := by rw [kpe, if_neg (by omega)]
        have g := ih (b + 1) M' (by omega) (hi.skip k0)
        rw [kc_s, k0] at g
        unfold wX5_cut_120
        rw [nI_1]; exact g
    · exact br_f c1 (o_n1 (go 1 (Or.inr ⟨rfl, by omega⟩) (by rw [kpe, if_pos (Or.inl (by omega))])))
def hdN (σ : SS) (x y : Nat) : Nat := if y ≤ sH σ then sH σ - (y - x) else if x < sH σ then x else sH σ
def ctS (R : Nat → Nat) (σ : SS) (x y : Nat) : SS := uB σ (sL σ - (y - x)) (kcN R σ x y (sN σ)) (hdN σ x y) (fun k => nbN σ x y (srN R σ x y (sN σ) k)) (fun k => sZ σ (srN R σ x y (sN σ) k)) (fun c => sC σ (srN R σ x y (sN σ) (c / 13) * 13 + c % 13)) (fun c => sO σ (srN R σ x y (sN σ) (c / 12) * 12 + c % 12)) (sK σ)
theorem okS.ct {R : Nat → Nat} (hR : okR R) {σ : SS} (hS : okS R σ) {x y : Nat} (hxy : x < y) (hy : y ≤ sL σ) (hd : 20 ≤ sL σ - (y - x)) : okS R (ctS R σ x y) := by
  have hL := hS.1.2
  have hH := hS.2.2.1
  obtain ⟨o1, o2⟩ := sr_ok R σ x y (sN σ)
  have hle := kc_le R σ x y (sN σ)
  have kpe : ∀ b, kpP R σ x y b = 1 → y ≤ sB σ b ∨ sB σ b + lgN R (sZ σ b) ≤ x := by
    intro b h
    by_cases q : y ≤ sB σ b ∨ sB σ b + lgN R (sZ σ b) ≤ x
    · exact q
    · have : kpP R σ x y b = 0 := if_neg q
      omega
  refine hS.blk ⟨hd, by omega⟩ (by have := hS.2.1; omega) ?_ (fun k hk => ?_) (fun i j hi hj => ?_) (fun k hk i hi => ?_) (fun k hk i hi => ?_)
  · unfold hdN
    by_cases q : y ≤ sH σ
    · rw [if_pos q]; omega
    · rw [if_neg q]
      by_cases q2 : x < sH σ
      · rw [if_pos q2]; omega
      · rw [if_neg q2]; omega
  · have h1 := o1 k hk
    have h2 := hS.2.2.2.1 _ h1.1
    have h3 := kpe _ h1.2
    refine ⟨h2.1, ?_⟩
    unfold nbN
    by_cases q : y ≤ sB σ (srN R σ x y (sN σ) k)
    · rw [if_pos q]; omega
    · rw [if_neg q]; omega
  · have h1 := o1 i (by omega)
    have h2 := o1 j hj
    have h3 := o2 i j hi hj
    have h4 := hS.2.2.2.2.1 _ _ h3 h2.1
    have g1 := kpe _ h1.2
    have g2 := kpe _ h2.2
    have l1 := lgN_le hR (n := sZ σ (srN R σ x y (sN σ) i)) (by have := hS.z12 _ h1.1; omega)
    have l2 := lgN_le hR (n := sZ σ (srN R σ x y (sN σ) j)) (by have := hS.z12 _ h2.1; omega)
    unfold nbN
    by_cases q : y ≤ sB σ (srN R σ x y (sN σ) i)
    · rw [if_pos q]
      by_cases q2 : y ≤ sB σ (srN R σ x y (sN σ) j)
      · rw [if_pos q2]; omega
      · omega
    · rw [if_neg q]
      by_cases q2 : y ≤ sB σ (srN R σ x y (sN σ) j)
      · rw [if_pos q2]; omega
      · rw [if_neg q2]; omega
  · have h1 := o1 k hk
    have := hS.z12 _ h1.1
    have hi' : i ≤ sZ σ (srN R σ x y (sN σ) k) := hi
    show sC σ (srN R σ x y (sN σ) ((k * 13 + i) / 13) * 13 + (k * 13 + i) % 13) < 512
    rw [show (k * 13 + i) / 13 = k by omega, show (k * 13 + i) % 13 = i by omega]
    exact hS.2.2.2.2.2.1 _ h1.1 i hi'
  · have h1 := o1 k hk
    have := hS.z12 _ h1.1
    have hi' : i < sZ σ (srN R σ x y (sN σ) k) := hi
    show sO σ (srN R σ x y (sN σ) ((k * 12 + i) / 12) * 12 + (k * 12 + i) % 12) < 256
    rw [show (k * 12 + i) / 12 = k by omega, show (k * 12 + i) % 12 = i by omega]
    exact hS.2.2.2.2.2.2.1 _ h1.1 i hi'
theorem clT.ct {R : Nat → Nat} {σ : SS} {x y : Nat} {M M' M2 : MM} (hS : okS R σ) (hc : clT M 1 R σ) (h : cuI R σ x y M M' (sN σ)) (k1 : ∀ a, a ≠ 1 → a ≠ 2 → M2 a = M' a) (k2 : ∀ j, j ≠ 8 → j ≠ 9 → M2 1 j = M' 1 j) (k3 : ∀ j, j ≠ 0 → M2 2 j = M' 2 j) (e8 : M2 1 8 = nI (kcN R σ x y (sN σ))) (e9 : M2 1 9 = nI (hdN σ x y)) (e0 : M2 2 0 = nI (sL σ - (y - x))) : clT M2 1 R (ctS R σ x y) := by
  obtain ⟨i1, i2, i3⟩ := h
  obtain ⟨o1, o2⟩ := sr_ok R σ x y (sN σ)
  have m1 : ∀ j, j ≠ 8 → j ≠ 9 → M2 1 j = M 1 j := fun j q1 q2 => by rw [k2 j q1 q2, i1 1 (by decide) (by decide) (by decide) (by decide)]
  refine hc.blk _ _ _ _ _ _ _ _ e0 (fun r hr => ?_) e8 e9 (fun k hk => ?_) (fun k hk => ?_) (fun k hk i hi => ?_) (fun k hk i hi => ?_) (m1 11 (by decide) (by decide)) ?_ (m1 13 (by decide) (by decide)) ?_ ?_ ?_ (m1 12 (by decide) (by decide))
  · exact (k3 r hr).trans (by rw [i1 2 (by decide) (by decide) (by decide) (by decide)])
  · rw [k1 _ (by omega) (by omega)]; exact (i2 k hk).1
  · rw [k1 _ (by omega) (by omega)]; exact (i2 k hk).2.1
  · have := hS.z12 _ (o1 k hk).1
    have hi' : i ≤ sZ σ (srN R σ x y (sN σ) k) := hi
    rw [k1 _ (by omega) (by omega), show (k * 13 + i) / 13 = k by omega, show (k * 13 + i) % 13 = i by omega, show k * 13 + i = 13 * k + i by omega]
    exact (i2 k hk).2.2.1 i hi'
  · have := hS.z12 _ (o1 k hk).1
    have hi' : i < sZ σ (srN R σ x y (sN σ) k) := hi
    rw [k1 _ (by omega) (by omega), show (k * 12 + i) / 12 = k by omega, show (k * 12 + i) % 12 = i by omega, show k * 12 + i = 12 * k + i by omega]
    exact (i2 k hk).2.2.2 i hi'
  · rw [k1 _ (by omega) (by omega), i1 _ (by omega) (by omega) (by omega) (by omega)]
  · rw [k1 _ (by omega) (by omega), i1 _ (by omega) (by omega) (by omega) (by omega)]
  · rw [k1 _ (by omega) (by omega), i1 _ (by omega) (by omega) (by omega) (by omega)]
  · rw [m1 10 (by decide) (by decide)]; exact hc.2.2.2.2.2.2.2.2.2.2.2.1
theorem mdT.ct {R : Nat → Nat} {σ : SS} {x y : Nat} {M M' M2 : MM} (hS : okS R σ) (hm : mdT M 0 σ) (h : cmI R σ x y M M' (sN σ)) (k2 : ∀ j, j ≠ 0 → j ≠ 325 → j ≠ 366 → M2 53 j = M' 53 j) (e8 : M2 53 0 = nI (kcN R σ x y (sN σ))) (e9 : M2 53 325 = nI (hdN σ x y)) (e0 : M2 53 366 = nI (sL σ - (y - x))) : mdT M2 0 (ctS R σ x y) := by
  obtain ⟨i1, i0, i2, i3⟩ := h
  obtain ⟨o1, o2⟩ := sr_ok R σ x y (sN σ)
  have hle := kc_le R σ x y (sN σ)
  have h12 := hS.2.1
  refine hm.blk hS _ _ _ _ _ _ _ _ e0 e8 e9 (fun k hk => ?_) (fun k hk => ?_) (fun k hk i hi => ?_) (fun k hk i hi => ?_) (fun j j1 j2 => ?_) ?_
  · rw [k2 _ (by omega) (by omega) (by omega)]; exact (i2 k hk).1
  · rw [k2 _ (by omega) (by omega) (by omega)]; exact (i2 k hk).2.1
  · have := hS.z12 _ (o1 k hk).1
    have hi' : i ≤ sZ σ (srN R σ x y (sN σ) k) := hi
    rw [k2 _ (by omega) (by omega) (by omega), show (k * 13 + i) / 13 = k by omega, show (k * 13 + i) % 13 = i by omega, show 25 + (k * 13 + i) = 25 + 13 * k + i by omega]
    exact (i2 k hk).2.2.1 i hi'
  · have := hS.z12 _ (o1 k hk).1
    have hi' : i < sZ σ (srN R σ x y (sN σ) k) := hi
    rw [k2 _ (by omega) (by omega) (by omega), show (k * 12 + i) / 12 = k by omega, show (k * 12 + i) % 12 = i by omega, show 181 + (k * 12 + i) = 181 + 12 * k + i by omega]
    exact (i2 k hk).2.2.2 i hi'
  · rw [k2 _ (by omega) (by omega) (by omega), i0 j (by omega)]
  · rw [k2 _ (by omega) (by omega) (by omega), i0 _ (by omega)]; exact hm.2.2.2.2.2.2.2.2.2.2.2.1
theorem L_cut {M : MM} (h : Rel M) (x y : Int32) : wX4_cut (fun r M1 => wX5_cut (PQ r) M1 x y) M x y := by
  obtain ⟨R, σ, hR, hS, hc, hm, hr, him, hsh, htx⟩ := id h
  have hb : tpB 1 := Or.inl rfl
  have h12 := hS.2.1
  have hL := hS.1.2
  have hH := hS.2.2.1
  unfold wX4_cut
  refine s_hasPlace hb hc.1.1 ?_
  by_cases hx : (0 : Int32) ≤ x ∧ x ≤ nI (sL σ)
  · refine zt2 hx (s_hasPlace hb hc.1.1 ?_)
    by_cases hy : (0 : Int32) ≤ y ∧ y ≤ nI (sL σ)
    · refine zt2 hy ?_
      obtain ⟨i, hi, rfl⟩ := pl_of (by omega) hx
      obtain ⟨j, hj, rfl⟩ := pl_of (by omega) hy
      have mst : ∀ (Q : Int32 → MM → Prop) (M1 : MM), M1 53 = M 53 → (i < j → ¬ 20 ≤ sL σ - (j - i) → Q (-2) M1) → (i < j → 20 ≤ sL σ - (j - i) → ∃ m, wX5_cut_56 Q (nI i) (nI j) m M1 0 (M1 53 0) 0) → (¬ i < j → Q (-1) M1) → wX5_cut Q M1 (nI i) (nI j) := by
        intro Q M1 e53 q1 q2 q3
        unfold wX5_cut
        have eL : M1 53 366 = nI (sL σ) := by rw [e53]; exact hm.1
        refine m_isPlace eL (zt2 hx (m_isPlace eL (zt2 hy ?_)))
        rw [nI_ltI (by omega) (by omega)]
        by_cases c : i < j
        · refine br_t c ?_
          rw [eL, pk_sub (by omega), pk_sub (by omega)]
          by_cases d : 20 ≤ sL σ - (j - i)
          · exact br_t (nI_le (a := 20) d (by omega)) (q2 c d)
          · exact br_f (fun q => d ((nI_leI (a := 20) (by omega) (by omega)).mp q)) (q1 c d)
        · exact br_f c (q3 c)
      rw [nI_ltI (by omega) (by omega)]
      by_cases c : i < j
      · refine br_t c (s_ruled hb 0 (by omega) rfl ?_)
        rw [hc.1.1, pk_sub (show i ≤ j by omega), pk_sub (by omega)]
        by_cases d : 20 ≤ sL σ - (j - i)
        · refine br_t (nI_le (a := 20) d (by omega)) ?_
          unfold wX2_cutOut
          rw [hc.2.1]
          have hle := kc_le R σ i j (sN σ)
          have c0 : cuI R σ i j M M 0 := ⟨fun _ _ _ _ _ => rfl, fun k hk => absurd hk (Nat.not_lt_zero _), fun k _ hk => ⟨hc.2.2.2.1 k hk, hc.2.2.2.2.1 k hk, fun q hq => by rw [Nat.mul_comm 13 k]; exact hc.2.2.2.2.2.1 k hk q hq, fun q hq => by rw [Nat.mul_comm 12 k]; exact hc.2.2.2.2.2.2.1 k hk q hq⟩⟩
          refine ⟨sN σ + 1, s_cutLoop hR hS hc c hj (fun M1 hcu => ?_) (sN σ) 0 M (by omega) c0⟩
          obtain ⟨i1, i2, i3⟩ := id hcu
          have k1 := i1 1 (by decide) (by decide) (by decide) (by decide)
          have k2 := i1 2 (by decide) (by decide) (by decide) (by decide)
          refine br_t (nI_le (Nat.le_refl _) (by omega)) ?_
          rintro _ rfl
          refine s_ruled hb 0 (by omega) rfl ?_
          refine s_setCell (j := 0) (by decide +kernel) (by decide +kernel) ?_
          have r0 : mset M1 1 8 (nI (kcN R σ i j (sN σ))) (1 + 1) 0 = nI (sL σ) := by rw [mset_n (by decide), k2]; exact hc.1.1
          rw [r0, pk_sub (show i ≤ j by omega), pk_sub (show j - i ≤ sL σ by omega)]
          -- the memory with the number of blocks and the length set
          have mh : ∀ v : Int32, mset (mset M1 1 8 (nI (kcN R σ i j (sN σ)))) (1 + 1) 0 v 1 9 = nI (sH σ) := fun v => by rw [mset_n (by decide), mset_sn (by decide), k1]; exact hc.2.2.1
          rw [mh, nI_ltI (by omega) (by omega), nI_leI (by omega) (by omega)]
          -- the reference, behind it
          have fin : ∀ M2 : MM, (∀ a, a ≠ 1 → a ≠ 2 → M2 a = M1 a) → clT M2 1 R (ctS R σ i j) → wX5_cut (PQ (nI (sN σ) - nI (kcN R σ i j (sN σ)))) M2 (nI i) (nI j) := by
            intro M2 kk hc2
            have e53 : M2 53 = M 53 := by rw [kk 53 (by decide) (by decide), i1 53 (by decide) (by decide) (by decide) (by decide)]
            have hm2 : mdT M2 0 σ := hm.keep e53
            have hr2 : rlT M2 R := hr.keep (by rw [kk 55 (by decide) (by decide), i1 55 (by decide) (by decide) (by decide) (by decide)])
            refine mst _ M2 e53 (fun _ q => absurd d q) (fun _ _ => ?_) (fun q => absurd c q)
            rw [hm2.2.1]
            have c1 : cmI R σ i j M2 M2 0 := ⟨fun _ _ => rfl, fun _ _ => rfl, fun k hk => absurd hk (Nat.not_lt_zero _), fun k _ hk => ⟨mB hm2 hk, mZ hm2 hk, fun q hq => by rw [show 25 + 13 * k + q = 25 + (k * 13 + q) by omega]; exact mC hm2 hk hq, fun q hq => by rw [show 181 + 12 * k + q = 181 + (k * 12 + q) by omega]; exact mO hm2 hk hq⟩⟩
            refine ⟨sN σ + 1, m_cutLoop hR hS hr2 c hj (fun M3 hcm => ?_) (sN σ) 0 M2 (by omega) c1⟩
            obtain ⟨j1, j0, j2, j3⟩ := id hcm
            refine br_t (nI_le (Nat.le_refl _) (by omega)) ?_
            rintro _ rfl
            have h325 : mset M3 53 0 (nI (kcN R σ i j (sN σ))) 53 325 = nI (sH σ) := by rw [mset_sn (by decide), j0 325 (by omega)]; exact hm2.2.2.1
            rw [h325, nI_ltI (by omega) (by omega), nI_leI (by omega) (by omega)]
            have last : ∀ p0 : Int32, p0 = nI (hdN σ i j) → wX5_cut_191 (PQ (nI (sN σ) - nI (kcN R σ i j (sN σ)))) (nI i) (nI j) (mset M3 53 0 (nI (kcN R σ i j (sN σ)))) (nI (kcN R σ i j (sN σ))) (nI (sN σ)) p0 325 := by
              rintro _ rfl
              unfold wX5_cut_191
              refine ⟨v53 (n := 325) (by omega), ?_⟩
              rintro _ rfl _ rfl
              refine ⟨rfl, ?_⟩
              have e325 : (325 : Int32).toNatClampNeg = 325 := rfl
              rw [e325]
              have h366 : mset (mset M3 53 0 (nI (kcN R σ i j (sN σ)))) 53 325 (nI (hdN σ i j)) 53 366 = nI (sL σ) := by rw [mset_sn (by decide), mset_sn (by decide), j0 366 (by omega)]; exact hm2.1
              rw [h366, pk_sub (show i ≤ j by omega), pk_sub (show j - i ≤ sL σ by omega)]
              refine Rel.step (M := M) hR (hS.ct hR c hj d) (hc2.keep (fun q hq => by rw [mset_n (by omega), mset_n (by omega), mset_n (by omega), j1 _ (by omega)])) ?_ hr him hsh htx (fun a ha => ?_) (fun q hq => ?_) ?_
              · refine mdT.ct hS hm2 hcm (fun q q1 q2 q3 => by rw [mset_sn q3, mset_sn q2, mset_sn q1]) ?_ ?_ ?_
                · rw [mset_sn (by decide), mset_sn (by decide), mset_ss]
                · rw [mset_sn (by decide), mset_ss]
                · rw [mset_ss]
              · unfold keepP at ha
                rw [mset_n (by omega), mset_n (by omega), mset_n (by omega), j1 a (by omega), kk a (by omega) (by omega), i1 a (by omega) (by omega) (by omega) (by omega)]
              · rw [mset_sn (by omega), mset_sn (by omega), mset_sn (by omega), j0 q (by omega), e53]
              · rw [mset_n (by decide), mset_n (by decide), mset_n (by decide), j1 52 (by decide), kk 52 (by decide) (by decide), i1 52 (by decide) (by decide) (by decide) (by decide)]; exact ⟨rfl, rfl, rfl⟩
            by_cases q1 : sH σ < j
            · refine br_t q1 ?_
              by_cases q2 : sH σ ≤ i
              · exact br_t q2 (last _ (by unfold hdN; rw [if_neg (by omega), if_neg (by omega)]))
              · exact br_f q2 (last _ (by unfold hdN; rw [if_neg (by omega), if_pos (by omega)]))
            · refine br_f q1 (last _ ?_)
              unfold hdN
              rw [if_pos (by omega), pk_sub (by omega), pk_sub (by omega)]
          unfold wX2_cutOut_139
          have mk : ∀ v w : Int32, v = nI (sL σ - (j - i)) → w = nI (hdN σ i j) → clT (mset (mset (mset M1 1 8 (nI (kcN R σ i j (sN σ)))) (1 + 1) 0 v) 1 9 w) 1 R (ctS R σ i j) := by
            rintro _ _ rfl rfl
            refine clT.ct hS hc hcu (fun a a1 a2 => by rw [mset_n a1, mset_n a2, mset_n a1]) (fun q q1 q2 => by rw [mset_sn q2, mset_n (by decide), mset_sn q1]) (fun q q1 => by rw [mset_n (by decide), mset_sn q1, mset_n (by decide)]) ?_ ?_ ?_
            · rw [mset_sn (by decide), mset_n (by decide), mset_ss]
            · rw [mset_ss]
            · rw [mset_n (by decide), mset_ss]
          by_cases q1 : sH σ < j
          · refine br_t q1 ?_
            by_cases q2 : sH σ ≤ i
            · refine br_t q2 (fin _ (fun a a1 a2 => by rw [mset_n a2, mset_n a1]) ?_)
              have g := mk _ _ rfl rfl
              have e : nI (hdN σ i j) = mset (mset M1 1 8 (nI (kcN R σ i j (sN σ)))) (1 + 1) 0 (nI (sL σ - (j - i))) 1 9 := by
                rw [mh]; unfold hdN; rw [if_neg (by omega), if_neg (by omega)]
              rw [e, mset_id] at g
              exact g
            · refine br_f q2 ?_
              rintro _ rfl
              exact fin _ (fun a a1 a2 => by rw [mset_n a1, mset_n a2, mset_n a1]) (mk _ _ rfl (by unfold hdN; rw [if_neg (by omega), if_pos (by omega)]))
          · refine br_f q1 ?_
            rintro _ rfl
            refine fin _ (fun a a1 a2 => by rw [mset_n a1, mset_n a2, mset_n a1]) (mk _ _ rfl ?_)
            unfold hdN
            rw [if_pos (by omega), pk_sub (by omega)]
        · refine br_f (fun q => d ((nI_leI (a := 20) (by omega) (by omega)).mp q)) ?_
          exact mst _ M rfl (fun _ _ => ⟨rfl, h⟩) (fun _ q => absurd q d) (fun q => absurd c q)
      · refine br_f c ?_
        exact mst _ M rfl (fun q => absurd q c) (fun q => absurd q c) (fun _ => ⟨rfl, h⟩)
    · refine zf2 hy ?_
      unfold wX5_cut
      exact m_isPlace hm.1 (zt2 hx (m_isPlace hm.1 (zf2 hy ⟨rfl, h⟩)))
  · refine zf2 hx ?_
    unfold wX5_cut
    exact m_isPlace hm.1 (zf2 hx ⟨rfl, h⟩)
-- ===== orders: the fewest ticks =====
def mnF (g : Nat → Nat) (L s : Nat) : Nat → Nat
  | 0 => s
  | i + 1 => if L / 2 ^ i % 2 = 1 then min (g i) (mnF g L s i) else mnF g L s i
def fwF (H : Nat → Nat → Nat) (c : Nat) : Nat → Nat → Nat → Nat
  | 0, _, _ => 0
  | k + 1, L, f => if L = 0 then 0 else mnF (fun t => H f t + fwF H c k (L ^^^ 2 ^ t) t) L 1073741824 c
theorem mn_cg {g g' : Nat → Nat} {L s : Nat} : ∀ i, (∀ j, j < i → L / 2 ^ j % 2 = 1 → g j = g' j) → mnF g L s i = mnF g' L s i := by
  intro i
  induction i with
  | zero => intro _; rfl
  | succ i ih =>
    intro h
    rw [mnF, mnF, ih (fun j hj q => h j (by omega) q)]
    by_cases q : L / 2 ^ i % 2 = 1
    · rw [if_pos q, if_pos q, h i (by omega) q]
    · rw [if_neg q, if_neg q]
theorem mn_le {g : Nat → Nat} {L s : Nat} : ∀ i j, j < i → L / 2 ^ j % 2 = 1 → mnF g L s i ≤ g j := by
  intro i
  induction i with
  | zero => intro j h; omega
  | succ i ih =>
    intro j hj q
    rw [mnF]
    by_cases e : j = i
    · subst e; rw [if_pos q]; omega
    · have := ih j (by omega) q
      split <;> omega
theorem mn_ls {g : Nat → Nat} {L s : Nat} : ∀ i, mnF g L s i ≤ s := by
  intro i
  induction i with
  | zero => exact Nat.le_refl _
  | succ i ih => rw [mnF]; split <;> omega
theorem mn_mn {g : Nat → Nat} {L s s' : Nat} : ∀ i, mnF g L (min s s') i = min s (mnF g L s' i) := by
  intro i
  induction i with
  | zero => rfl
  | succ i ih =>
    rw [mnF, mnF, ih]
    split <;> omega
theorem mn_st {g : Nat → Nat} {L s s' i j : Nat} (hj : j < i) (q : L / 2 ^ j % 2 = 1) (h : g j ≤ s) (hs : s ≤ s') : mnF g L s i = mnF g L s' i := by
  have h1 := mn_mn (g := g) (L := L) (s := s) (s' := s') i
  have h2 := mn_le (g := g) (L := L) (s := s') i j hj q
  rw [show min s s' = s by omega] at h1
  omega
theorem mn_ex {g : Nat → Nat} {L s : Nat} : ∀ i, mnF g L s i < s → ∃ j, j < i ∧ L / 2 ^ j % 2 = 1 ∧ g j = mnF g L s i := by
  intro i
  induction i with
  | zero => intro h; exact absurd (show s < s from h) (Nat.lt_irrefl _)
  | succ i ih =>
    intro h
    rw [mnF] at h ⊢
    by_cases q : L / 2 ^ i % 2 = 1
    · rw [if_pos q] at h ⊢
      by_cases e : g i ≤ mnF g L s i
      · exact ⟨i, by omega, q, by omega⟩
      · obtain ⟨j, j1, j2, j3⟩ := ih (by omega)
        exact ⟨j, by omega, j2, by omega⟩
    · rw [if_neg q] at h ⊢
      obtain ⟨j, j1, j2, j3⟩ := ih h
      exact ⟨j, by omega, j2, j3⟩
theorem ms_lt : ∀ L, L < 256 → ∀ t, t < 8 → L / 2 ^ t % 2 = 1 → L ^^^ 2 ^ t < L ∧ poN (L ^^^ 2 ^ t) 8 + 1 = poN L 8 := by decide +kernel
theorem ms_ex : ∀ c, c < 9 → ∀ L, L < 256 → L < 2 ^ c → L ≠ 0 → ∃ t, t < c ∧ L / 2 ^ t % 2 = 1 := by decide +kernel
theorem p2c : ∀ c, c < 9 → 2 ^ c ≤ 256 ∧ 1 ≤ 2 ^ c ∧ poN (2 ^ c - 1) 8 = c := by decide +kernel
theorem fw_fuel {H : Nat → Nat → Nat} {c : Nat} (hc : c ≤ 8) : ∀ k k' L f, L < 2 ^ c → L ≤ k → L ≤ k' → fwF H c k L f = fwF H c k' L f := by
  have h8 := (p2c c (by omega)).1
  have z : ∀ k f, fwF H c k 0 f = 0 := by
    intro k f
    cases k with
    | zero => rfl
    | succ k => exact if_pos rfl
  intro k
  induction k with
  | zero =>
    intro k' L f hL h1 h2
    have : L = 0 := by omega
    subst this
    rw [z, z]
  | succ k ih =>
    intro k' L f hL h1 h2
    by_cases e : L = 0
    · subst e; rw [z, z]
    · cases k' with
      | zero => omega
      | succ k' =>
        rw [fwF, fwF, if_neg e, if_neg e]
        refine mn_cg c (fun j hj q => ?_)
        have := (ms_lt L (by omega) j (by omega) q).1
        try dsimp only
        rw [ih k' _ j (by omega) (by omega) (by omega)]
def fqN (H : Nat → Nat → Nat) (c L f : Nat) : Nat := fwF H c L L f
theorem fqN_0 (H : Nat → Nat → Nat) (c f : Nat) : fqN H c 0 f = 0 := rfl
theorem fqN_eq {H : Nat → Nat → Nat} {c L f : Nat} (hc : c ≤ 8) (hL : L < 2 ^ c) (h0 : L ≠ 0) : fqN H c L f = mnF (fun t => H f t + fqN H c (L ^^^ 2 ^ t) t) L 1073741824 c := by
  have h8 := (p2c c (by omega)).1
  unfold fqN
  cases L with
  | zero => exact absurd rfl h0
  | succ n =>
    rw [fwF, if_neg h0]
    refine mn_cg c (fun j hj q => ?_)
    have := (ms_lt (n + 1) (by omega) j (by omega) q).1
    try dsimp only
    rw [fw_fuel hc n ((n + 1) ^^^ 2 ^ j) ((n + 1) ^^^ 2 ^ j) j (by omega) (by omega) (Nat.le_refl _)]
def okH (H : Nat → Nat → Nat) (c : Nat) : Prop := ∀ a b, a ≤ c → b < c → H a b ≤ 1011000
theorem fqN_le {H : Nat → Nat → Nat} {c : Nat} (hc : c ≤ 8) (hH : okH H c) : ∀ n L f, L < n → L < 2 ^ c → f ≤ c → fqN H c L f ≤ L * 1011000 := by
  have h8 := (p2c c (by omega)).1
  intro n
  induction n with
  | zero => intro L f h; omega
  | succ n ih =>
    intro L f h hL hf
    by_cases e : L = 0
    · subst e; exact Nat.zero_le _
    · obtain ⟨t, t1, t2⟩ := ms_ex c (by omega) L (by omega) hL e
      have h1 := (ms_lt L (by omega) t (by omega) t2).1
      rw [fqN_eq hc hL e]
      have h2 := mn_le (g := fun t => H f t + fqN H c (L ^^^ 2 ^ t) t) (L := L) (s := 1073741824) c t t1 t2
      have h3 := ih (L ^^^ 2 ^ t) t (by omega) (by omega) (by omega)
      have h4 := hH f t hf t1
      have h5 : (L ^^^ 2 ^ t) * 1011000 + 1011000 ≤ L * 1011000 := by
        have : ((L ^^^ 2 ^ t) + 1) * 1011000 ≤ L * 1011000 := Nat.mul_le_mul_right _ h1
        rw [Nat.add_mul, Nat.one_mul] at this; exact this
      try dsimp only at h2
      omega
theorem fqN_b {H : Nat → Nat → Nat} {c L f : Nat} (hc : c ≤ 8) (hH : okH H c) (hL : L < 2 ^ c) (hf : f ≤ c) : fqN H c L f ≤ 258000000 := by
  have h8 := (p2c c (by omega)).1
  have h1 := fqN_le hc hH (L + 1) L f (by omega) hL hf
  have h2 : L * 1011000 ≤ 255 * 1011000 := Nat.mul_le_mul_right _ (by omega)
  omega
/-- the first stop of an order with the fewest ticks -/
def gdF (H : Nat → Nat → Nat) (c L f t : Nat) : Nat := if L / 2 ^ t % 2 = 1 ∧ H f t + fqN H c (L ^^^ 2 ^ t) t = fqN H c L f then 1 else 0
def ftN (H : Nat → Nat → Nat) (c L f : Nat) : Nat := (fiO (gdF H c L f) c).getD 0
theorem fiO_none {f : Nat → Nat} : ∀ k, fiO f k = none → ∀ y, y < k → f y ≠ 1 := by
  intro k
  induction k with
  | zero => intro _ y hy; omega
  | succ k ih =>
    intro h y hy
    rw [fiO] at h
    cases e : fiO f k with
    | some x => rw [e] at h; exact absurd h (by simp)
    | none =>
      rw [e] at h
      try dsimp only at h
      by_cases q : y = k
      · subst q
        intro h1
        rw [if_pos h1] at h
        exact absurd h (by simp)
      · exact ih e y (by omega)
theorem fiO_some {f : Nat → Nat} : ∀ k x, fiO f k = some x → x < k ∧ f x = 1 ∧ ∀ y, y < x → f y ≠ 1 := by
  intro k
  induction k with
  | zero => intro x h; exact absurd (show (none : Option Nat) = some x from h) (by simp)
  | succ k ih =>
    intro x h
    rw [fiO] at h
    cases e : fiO f k with
    | some z =>
      rw [e] at h
      have h2 : z = x := Option.some.inj h
      subst h2
      have := ih z e
      exact ⟨by omega, this.2⟩
    | none =>
      rw [e] at h
      try dsimp only at h
      by_cases q : f k = 1
      · rw [if_pos q] at h
        have h2 : k = x := Option.some.inj h
        subst h2
        exact ⟨by omega, q, fiO_none k e⟩
      · rw [if_neg q] at h
        exact absurd h (by simp)
theorem ft_ok {H : Nat → Nat → Nat} {c L f : Nat} (hc : c ≤ 8) (hH : okH H c) (hL : L < 2 ^ c) (h0 : L ≠ 0) (hf : f ≤ c) : fiO (gdF H c L f) c = some (ftN H c L f) ∧ ftN H c L f < c ∧ L / 2 ^ ftN H c L f % 2 = 1 ∧ H f (ftN H c L f) + fqN H c (L ^^^ 2 ^ ftN H c L f) (ftN H c L f) = fqN H c L f := by
  have hb := fqN_b (f := f) hc hH hL hf
  have he := fqN_eq (H := H) (f := f) hc hL h0
  obtain ⟨t, t1, t2, t3⟩ := mn_ex (g := fun t => H f t + fqN H c (L ^^^ 2 ^ t) t) (L := L) (s := 1073741824) c (by omega)
  rw [← he] at t3
  cases e : fiO (gdF H c L f) c with
  | none =>
    have := fiO_none c e t t1
    exact absurd (if_pos ⟨t2, t3⟩) this
  | some x =>
    have hx : ftN H c L f = x := by unfold ftN; rw [e]; rfl
    obtain ⟨x1, x2, x3⟩ := fiO_some c x e
    rw [hx]
    by_cases q : L / 2 ^ x % 2 = 1 ∧ H f x + fqN H c (L ^^^ 2 ^ x) x = fqN H c L f
    · exact ⟨rfl, x1, q.1, q.2⟩
    · have : gdF H c L f x = 0 := if_neg q
      omega
/-- the way: what is left, and where one is -/
def ptN (H : Nat → Nat → Nat) (c : Nat) : Nat → Nat × Nat
  | 0 => (2 ^ c - 1, c)
  | i + 1 => ((ptN H c i).1 ^^^ 2 ^ ftN H c (ptN H c i).1 (ptN H c i).2, ftN H c (ptN H c i).1 (ptN H c i).2)
theorem pt_ok {H : Nat → Nat → Nat} {c : Nat} (hc : c ≤ 8) (hH : okH H c) : ∀ i, i ≤ c → (ptN H c i).1 < 2 ^ c ∧ (ptN H c i).2 ≤ c ∧ poN (ptN H c i).1 8 = c - i := by
  have h8 := p2c c (by omega)
  intro i
  induction i with
  | zero =>
    intro _
    exact ⟨by show 2 ^ c - 1 < _; omega, Nat.le_refl _, h8.2.2⟩
  | succ i ih =>
    intro hi
    obtain ⟨i1, i2, i3⟩ := ih (by omega)
    have h0 : (ptN H c i).1 ≠ 0 := by
      intro e
      rw [e] at i3
      have : poN 0 8 = 0 := by decide
      omega
    obtain ⟨f1, f2, f3, f4⟩ := ft_ok (H := H) hc hH i1 h0 i2
    have g := ms_lt _ (show (ptN H c i).1 < 256 by omega) _ (show ftN H c (ptN H c i).1 (ptN H c i).2 < 8 by omega) f3
    exact ⟨by show _ ^^^ _ < _; omega, by show ftN H c _ _ ≤ c; omega, by show poN (_ ^^^ _) 8 = _; omega⟩
theorem pt_ne {H : Nat → Nat → Nat} {c i : Nat} (hc : c ≤ 8) (hH : okH H c) (hi : i < c) : (ptN H c i).1 ≠ 0 := by
  intro e
  have := (pt_ok (H := H) hc hH i (by omega)).2.2
  rw [e] at this
  have : poN 0 8 = 0 := by decide
  omega
-- which blocks
def chN (s : Nat) : Nat → Nat → Nat
  | 0 => fun _ => 0
  | b + 1 => fun k => if s / 2 ^ b % 2 = 1 ∧ k = poN s b then b else chN s b k
theorem ch_lt (s : Nat) : ∀ b k, k < poN s b → chN s b k < b := by
  intro b
  induction b with
  | zero => intro k h; exact absurd h (Nat.not_lt_zero _)
  | succ b ih =>
    intro k h
    have e : chN s (b + 1) k = if s / 2 ^ b % 2 = 1 ∧ k = poN s b then b else chN s b k := rfl
    rw [poN] at h
    rw [e]
    by_cases q : s / 2 ^ b % 2 = 1 ∧ k = poN s b
    · rw [if_pos q]; omega
    · rw [if_neg q]
      have := ih k (by omega)
      omega
theorem ch_old {s b k : Nat} (h : k < poN s b) : chN s (b + 1) k = chN s b k := if_neg (fun q => by omega)
theorem po_mono {s : Nat} {a b : Nat} (h : a ≤ b) : poN s a ≤ poN s b := by
  induction h with
  | refl => exact Nat.le_refl _
  | step _ ih => rw [poN]; omega
theorem ch_stop {s n : Nat} (hs : s < 2 ^ n) : ∀ b, n ≤ b → poN s b = poN s n ∧ ∀ k, k < poN s n → chN s b k = chN s n k := by
  intro b hb
  induction hb with
  | refl => exact ⟨rfl, fun _ _ => rfl⟩
  | step hb ih =>
    rename_i m
    have z : s / 2 ^ m = 0 := Nat.div_eq_of_lt (Nat.lt_of_lt_of_le hs (Nat.pow_le_pow_right (by omega) hb))
    refine ⟨?_, fun k hk => ?_⟩
    · rw [poN, z, ih.1]; rfl
    · rw [ch_old (by rw [ih.1]; exact hk)]; exact ih.2 k hk
-- ===== the class's route =====
theorem a40 : alen 40 = 72 ∧ alen 41 = 2048 ∧ alen 42 = 8 ∧ alen 43 = 8 := by decide +kernel
def hpN (R : Nat → Nat) (σ : SS) (ch : Nat → Nat) (c f t : Nat) : Nat := soN R (sL σ) (if f = c then sH σ else sB σ (ch f) + lgN R (sZ σ (ch f))) (sB σ (ch t)) + R 3 * lgN R (sZ σ (ch t))
theorem hp_ok {R : Nat → Nat} (hR : okR R) {σ : SS} (hS : okS R σ) {ch : Nat → Nat} {c : Nat} (hch : ∀ k, k < c → ch k < sN σ) : okH (hpN R σ ch c) c := by
  intro f t hf ht
  have hL := hS.1.2
  have hH := hS.2.2.1
  have h1 := hS.2.2.2.1 _ (hch t ht)
  have hl := lgN_le hR (n := sZ σ (ch t)) (by omega)
  have h3 : R 3 * lgN R (sZ σ (ch t)) ≤ 99 * 108 := Nat.mul_le_mul hR.2.1.2 hl.2
  have hx : (if f = c then sH σ else sB σ (ch f) + lgN R (sZ σ (ch f))) ≤ sL σ := by
    by_cases e : f = c
    · rw [if_pos e]; exact hH
    · rw [if_neg e]; exact (hS.2.2.2.1 _ (hch f (by omega))).2
  have h4 := plN_lt hR (x := if f = c then sH σ else sB σ (ch f) + lgN R (sZ σ (ch f))) (y := sB σ (ch t)) (by omega) (by omega)
  have h5 := woN_lt hR hL hx (show sB σ (ch t) ≤ sL σ by omega)
  have h6 : soN R (sL σ) (if f = c then sH σ else sB σ (ch f) + lgN R (sZ σ (ch f))) (sB σ (ch t)) ≤ 1000000 := ite_le (by omega) (by omega)
  unfold hpN
  omega
theorem bit_iff {L t : Nat} (hL : L < 2 ^ 31) (ht : t < 12) : ((nI L >>> (nI t &&& 31)) &&& (1 : Int32)) = 1 ↔ L / 2 ^ t % 2 = 1 := by
  rw [bit_at hL ht]
  exact nI_eq (b := 1) (by omega) (by omega)
theorem bit_if0 {L t : Nat} (hL : L < 2 ^ 31) (ht : t < 12) : ((nI L >>> (nI t &&& 31)) &&& (1 : Int32)) = 0 ↔ ¬ L / 2 ^ t % 2 = 1 := by
  rw [bit_at hL ht]
  have := nI_eq (a := L / 2 ^ t % 2) (b := 0) (by omega) (by omega)
  rw [show (0 : Int32) = nI 0 from rfl, this]; omega
def rtP (M M' : MM) : Prop := ∀ a, (a < 39 ∨ 44 ≤ a) → M' a = M a
theorem s_choose {Q : MM → Prop} {M : MM} {s : Nat} (hs : s < 4096) (h8 : poN s 12 ≤ 8) (hq : ∀ M', rtP M M' → (∀ j, j ≠ 4 → M' 39 j = M 39 j) → M' 39 4 = nI (poN s 12) → (∀ k, k < poN s 12 → M' 42 k = nI (chN s 12 k)) → Q M') : wX0_choose Q M (nI s) := by
  have loop : ∀ r b (M' : MM), b + r = 12 → rtP M M' → (∀ j, j ≠ 4 → M' 39 j = M 39 j) → M' 39 4 = nI (poN s b) → (∀ k, k < poN s b → M' 42 k = nI (chN s b k)) → wX0_choose_7 Q (nI s) (r + 1) M' (nI b) := by
    intro r
    induction r with
    | zero =>
      intro b M' hb k1 k2 k3 k4
      have : b = 12 := by omega
      subst this
      exact br_t (by decide +kernel) (hq M' k1 k2 k3 k4)
    | succ r ih =>
      intro b M' hb k1 k2 k3 k4
      have hm := po_mono (s := s) (show b + 1 ≤ 12 by omega)
      have hle := poN_le s b
      refine br_f (fun q => ?_) ?_
      · have := (nI_leI (a := 12) (by omega) (by omega)).mp q; omega
      rw [bit_iff (by omega) (by omega)]
      unfold wX0_choose_53
      have e1 : poN s (b + 1) = poN s b + s / 2 ^ b % 2 := rfl
      by_cases q : s / 2 ^ b % 2 = 1
      · refine br_nt q ?_
        rw [k3]
        refine br_f (fun q2 => ?_) (s_setCell (by rw [a40.2.2.1]; omega) (by rw [a40.2.2.1]; decide) ?_)
        · have := (nI_leI (a := 8) (by omega) (by omega)).mp q2; omega
        rintro _ rfl
        rw [nI_1]
        refine ih (b + 1) _ (by omega) (fun a ha => by rw [mset_n (by omega), mset_n (by omega)]; exact k1 a ha) (fun j hj => by rw [mset_sn hj, mset_n (by decide)]; exact k2 j hj) ?_ (fun k hk => ?_)
        · rw [mset_ss, mset_n (by decide), k3, nI_1, e1, q]
        · rw [mset_n (by decide)]
          have e2 : chN s (b + 1) k = if s / 2 ^ b % 2 = 1 ∧ k = poN s b then b else chN s b k := rfl
          rw [e2]
          by_cases e : k = poN s b
          · subst e; rw [mset_ss, if_pos ⟨q, rfl⟩]
          · rw [mset_sn e, if_neg (fun q => e q.2)]; exact k4 k (by omega)
      · refine br_nf q ?_
        rw [nI_1]
        refine ih (b + 1) M' (by omega) k1 k2 (by rw [k3, e1]; congr 1; omega) (fun k hk => ?_)
        rw [ch_old (by omega)]; exact k4 k (by omega)
  unfold wX0_choose
  rintro _ rfl
  exact ⟨_, loop 12 0 _ (by omega) (fun a ha => mset_n (by omega)) (fun j hj => mset_sn hj) (by rw [mset_ss]; rfl) (fun k hk => absurd hk (Nat.not_lt_zero _))⟩
/-- the chosen ones, and the ticks from one to another -/
def chP (M : MM) (ch : Nat → Nat) (c : Nat) : Prop := M 39 4 = nI c ∧ ∀ k, k < c → M 42 k = nI (ch k)
def hoP (M : MM) (H : Nat → Nat → Nat) (c f : Nat) : Prop := ∀ f', f' < f → ∀ t, t < c → M 40 (f' * 8 + t) = nI (H f' t)
theorem s_hops1 {Q : MM → Prop} {K : MM → Int32 → Prop} {M : MM} {ch : Nat → Nat} {c f x : Nat} {R : Nat → Nat} {σ : SS} (hR : okR R) (hS : okS R σ) (hc : clT M 1 R σ) (hc8 : c ≤ 8) (hch : ∀ k, k < c → ch k < sN σ) (hf : f ≤ c) (hx : x = if f = c then sH σ else sB σ (ch f) + lgN R (sZ σ (ch f))) (hK : ∀ M', (∀ a, a ≠ 40 → M' a = M a) → chP M' ch c → hoP M' (hpN R σ ch c) c (f + 1) → K M' (nI (f + 1))) : ∀ r t (M' : MM), t + r = c → (∀ a, a ≠ 40 → M' a = M a) → chP M' ch c → hoP M' (hpN R σ ch c) c f → (∀ t', t' < t → M' 40 (f * 8 + t') = nI (hpN R σ ch c f t')) → wX0_measureHops_41 Q K 1 (r + 1) M' (nI f) (nI x) (nI t) := by
  have hb : tpB 1 := Or.inl rfl
  have h12 := hS.2.1
  have hL := hS.1.2
  intro r
  induction r with
  | zero =>
    intro t M' ht k1 k2 k3 k4
    have : t = c := by omega
    subst this
    refine br_t (by rw [k2.1]; exact nI_le (Nat.le_refl _) (by omega)) ?_
    rw [nI_1]
    refine hK M' k1 k2 (fun f' hf' t' ht' => ?_)
    by_cases e : f' = f
    · subst e; exact k4 t' ht'
    · exact k3 f' (by omega) t' ht'
  | succ r ih =>
    intro t M' ht k1 k2 k3 k4
    have htc : t < c := by omega
    have hbt := hch t htc
    have hz := hS.2.2.2.1 _ hbt
    have hxL : x ≤ sL σ := by
      rw [hx]
      by_cases e : f = c
      · rw [if_pos e]; exact hS.2.2.1
      · rw [if_neg e]; exact (hS.2.2.2.1 _ (hch f (by omega))).2
    have hc' : clT M' 1 R σ := hc.keep (fun i hi => k1 _ (by omega))
    refine br_f (fun q => ?_) (s_cell (by rw [a40.2.2.1]; omega) (by rw [a40.2.2.1]; decide) ?_)
    · rw [k2.1] at q
      have := (nI_leI (by omega) (by omega)).mp q; omega
    rw [k2.2 t htc]
    refine s_beginOf hb hc' h12 hbt (s_sooner hb hR hc' hL hxL (by omega) ?_)
    unfold wX2_longOf
    refine s_sizeOf hb hc' h12 hbt (s_longWith hb hR hc' (by omega) ?_)
    unfold wX2_playedThrough
    refine s_ruled hb 3 (by omega) rfl ?_
    rw [hc'.1.2 3 (by omega) (by omega), pk_mul]
    rw [show nI f * (8 : Int32) + nI t = nI (f * 8 + t) by rw [show (8 : Int32) = nI 8 from rfl, pk_mul, nI_add]]
    refine s_setCell (by rw [a40.1]; omega) (by rw [a40.1]; decide) ?_
    rw [nI_add, nI_1]
    refine ih (t + 1) _ (by omega) (fun a h => by rw [mset_n h]; exact k1 a h) ⟨by rw [mset_n (by decide)]; exact k2.1, fun k hk => by rw [mset_n (by decide)]; exact k2.2 k hk⟩ (fun f' hf' t' ht' => ?_) (fun t' ht' => ?_)
    · rw [mset_sn (by omega)]; exact k3 f' hf' t' ht'
    · by_cases e : t' = t
      · subst e
        rw [mset_ss]
        unfold hpN
        rw [← hx]
      · rw [mset_sn (by omega)]; exact k4 t' (by omega)
theorem s_hops {Q : MM → Prop} {M : MM} {ch : Nat → Nat} {c : Nat} {R : Nat → Nat} {σ : SS} (hR : okR R) (hS : okS R σ) (hc : clT M 1 R σ) (hc8 : c ≤ 8) (hch : ∀ k, k < c → ch k < sN σ) (h0 : chP M ch c) (hq : ∀ M', (∀ a, a ≠ 40 → M' a = M a) → hoP M' (hpN R σ ch c) c (c + 1) → Q M') : wX0_measureHops Q M 1 := by
  have hb : tpB 1 := Or.inl rfl
  have loop : ∀ r f (M' : MM), f + r = c + 1 → (∀ a, a ≠ 40 → M' a = M a) → hoP M' (hpN R σ ch c) c f → wX0_measureHops_2 Q 1 (r + 1) M' (nI f) := by
    intro r
    induction r with
    | zero =>
      intro f M' hf k1 k3
      have : f = c + 1 := by omega
      subst this
      exact br_t (by rw [k1 39 (by decide), h0.1]; exact nI_lt (by omega) (by omega)) (hq M' k1 k3)
    | succ r ih =>
      intro f M' hf k1 k3
      have hc' : clT M' 1 R σ := hc.keep (fun i hi => k1 _ (by omega))
      have h0' : chP M' ch c := ⟨by rw [k1 39 (by decide)]; exact h0.1, fun k hk => by rw [k1 42 (by decide)]; exact h0.2 k hk⟩
      have inner : ∀ x, x = (if f = c then sH σ else sB σ (ch f) + lgN R (sZ σ (ch f))) → wX0_measureHops_37 Q (fun M v2 => wX0_measureHops_2 Q 1 (r + 1) M v2) 1 M' (nI f) (nI x) := fun x hx =>
        ⟨c + 1, s_hops1 hR hS hc' hc8 hch (by omega) hx (fun M2 a1 a2 a3 => ih (f + 1) M2 (by omega) (fun a h => by rw [a1 a h]; exact k1 a h) a3) c 0 M' (by omega) (fun _ _ => rfl) h0' k3 (fun _ q => by omega)⟩
      unfold wX0_measureHops_2
      rw [h0'.1, nI_ltI (by omega) (by omega), nI_eq (by omega) (by omega)]
      refine br_f (by omega) ?_
      by_cases e : f = c
      · refine br_nt e ?_
        rw [show M' 1 9 = nI (sH σ) from hc'.2.2.1]
        exact inner _ (by rw [if_pos e])
      · refine br_nf e (s_cell (by rw [a40.2.2.1]; omega) (by rw [a40.2.2.1]; decide) ?_)
        rw [h0'.2 f (by omega)]
        exact s_endOf hb hR hS hc' (hch f (by omega)) (inner _ (by rw [if_neg e]))
  exact ⟨_, loop (c + 1) 0 M (by omega) (fun _ _ => rfl) (fun f' h => by omega)⟩
/-- the rows of the fewest, for what is left below L -/
def feP (M : MM) (H : Nat → Nat → Nat) (c L : Nat) : Prop := ∀ L', L' < L → ∀ f, f < c → M 41 (L' * 8 + f) = nI (fqN H c L' f)
theorem s_ticksBy {Q : Int32 → MM → Prop} {M : MM} {H : Nat → Nat → Nat} {c L f t : Nat} (hc : c ≤ 8) (hL : L < 2 ^ c) (hf : f ≤ c) (ht : t < c) (hbit : L / 2 ^ t % 2 = 1) (h1 : hoP M H c (c + 1)) (h2 : feP M H c L) (hq : Q (nI (H f t + fqN H c (L ^^^ 2 ^ t) t)) M) : wX0_ticksBy Q M (nI f) (nI t) (nI L) := by
  have h8 := (p2c c (by omega)).1
  have hx := (ms_lt L (by omega) t (by omega) hbit).1
  unfold wX0_ticksBy
  rw [shl_1 t (by omega), nI_xor, show (8 : Int32) = nI 8 from rfl, pk_mul, pk_mul, nI_add, nI_add]
  refine s_cell (by rw [a40.1]; omega) (by rw [a40.1]; decide) (s_cell (by rw [a40.2.1]; omega) (by rw [a40.2.1]; decide) ?_)
  rw [h1 f (by omega) t ht, h2 _ hx t ht, nI_add]
  exact hq
theorem s_fewestFrom {Q : Int32 → MM → Prop} {M : MM} {H : Nat → Nat → Nat} {c L f : Nat} (hc : c ≤ 8) (hH : okH H c) (hL : L < 2 ^ c) (h0 : L ≠ 0) (hf : f ≤ c) (e4 : M 39 4 = nI c) (h1 : hoP M H c (c + 1)) (h2 : feP M H c L) (hq : Q (nI (fqN H c L f)) M) : wX0_fewestFrom Q M (nI f) (nI L) := by
  have h8 := (p2c c (by omega)).1
  have loop : ∀ r t, t + r = c → wX0_fewestFrom_6 Q (nI f) (nI L) (r + 1) M (nI (mnF (fun t => H f t + fqN H c (L ^^^ 2 ^ t) t) L 1073741824 t)) (nI t) := by
    intro r
    induction r with
    | zero =>
      intro t ht
      have : t = c := by omega
      subst this
      rw [← fqN_eq hc hL h0]
      exact br_t (by rw [e4]; exact nI_le (Nat.le_refl _) (by omega)) hq
    | succ r ih =>
      intro t ht
      refine br_f (fun q => ?_) ?_
      · rw [e4] at q
        have := (nI_leI (by omega) (by omega)).mp q; omega
      rw [bit_iff (by omega) (by omega)]
      unfold wX0_fewestFrom_38
      have g := ih (t + 1) (by omega)
      rw [mnF] at g
      by_cases q : L / 2 ^ t % 2 = 1
      · rw [if_pos q] at g
        refine br_nt q (s_ticksBy hc hL hf (by omega) q h1 h2 ?_)
        rintro _ rfl
        have hx := (ms_lt L (by omega) t (by omega) q).1
        have b1 := fqN_b (H := H) (L := L ^^^ 2 ^ t) (f := t) hc hH (by omega) (by omega)
        have b2 := hH f t hf (by omega)
        have b3 := mn_ls (g := fun t => H f t + fqN H c (L ^^^ 2 ^ t) t) (L := L) (s := 1073741824) t
        rw [min_nI (by omega) (by omega), nI_1]
        exact g
      · rw [if_neg q] at g
        refine br_nf q ?_
        rw [nI_1]; exact g
  exact ⟨_, loop c 0 (by omega)⟩
theorem s_firstOfFewest {Q : Int32 → MM → Prop} {M : MM} {H : Nat → Nat → Nat} {c L f : Nat} (hc : c ≤ 8) (hH : okH H c) (hL : L < 2 ^ c) (h0 : L ≠ 0) (hf : f ≤ c) (e4 : M 39 4 = nI c) (h1 : hoP M H c (c + 1)) (h2 : feP M H c L) (hq : Q (nI (ftN H c L f)) M) : wX0_firstOfFewest Q M (nI f) (nI L) := by
  have h8 := (p2c c (by omega)).1
  obtain ⟨g1, g2, g3, g4⟩ := ft_ok (H := H) hc hH hL h0 hf
  obtain ⟨x1, x2, x3⟩ := fiO_some c _ g1
  unfold wX0_firstOfFewest
  refine s_fewestFrom hc hH hL h0 hf e4 h1 h2 ?_
  have hb := fqN_b (f := f) hc hH hL hf
  have loop : ∀ r t, t + r = ftN H c L f → wX0_firstOfFewest_10 Q (nI f) (nI L) (r + 1) M (nI (fqN H c L f)) (nI t) := by
    intro r
    induction r with
    | zero =>
      intro t ht
      have : t = ftN H c L f := by omega
      subst this
      refine br_f (fun q => ?_) ?_
      · rw [e4] at q
        have := (nI_leI (by omega) (by omega)).mp q; omega
      rw [bit_iff (by omega) (by omega)]
      refine br_nt g3 (s_ticksBy hc hL hf g2 g3 h1 h2 ?_)
      rw [g4]
      exact br_nt rfl hq
    | succ r ih =>
      intro t ht
      refine br_f (fun q => ?_) ?_
      · rw [e4] at q
        have := (nI_leI (by omega) (by omega)).mp q; omega
      rw [bit_iff (by omega) (by omega)]
      have g := ih (t + 1) (by omega)
      have nx := x3 t (by omega)
      unfold wX0_firstOfFewest_44
      by_cases q : L / 2 ^ t % 2 = 1
      · refine br_nt q (s_ticksBy hc hL hf (by omega) q h1 h2 (br_nf ?_ ?_))
        · intro e
          have hx := (ms_lt L (by omega) t (by omega) q).1
          have b1 := fqN_b (H := H) (L := L ^^^ 2 ^ t) (f := t) hc hH (by omega) (by omega)
          have b2 := hH f t hf (by omega)
          have e2 := (nI_eq (by omega) (by omega)).mp e
          exact nx (if_pos ⟨q, e2⟩)
        · rw [nI_1]; exact g
      · refine br_nf q ?_
        rw [nI_1]; exact g
  exact ⟨_, loop (ftN H c L f) 0 (by omega)⟩
/-- what a plan leaves -/
def plnP (M M' : MM) (H : Nat → Nat → Nat) (ch : Nat → Nat) (c : Nat) : Prop := rtP M M' ∧ M' 39 4 = nI c ∧ M' 39 5 = nI (fqN H c (2 ^ c - 1) c) ∧ ∀ i, i < c → M' 43 i = nI (ch (ptN H c (i + 1)).2)
theorem s_follow {Q : MM → Prop} {M : MM} {H : Nat → Nat → Nat} {ch : Nat → Nat} {c : Nat} (hc : c ≤ 8) (hH : okH H c) (h0 : chP M ch c) (h1 : hoP M H c (c + 1)) (h2 : feP M H c (2 ^ c)) (hq : ∀ M', plnP M M' H ch c → Q M') : wX0_followFirst Q M := by
  have h8 := p2c c (by omega)
  have loop : ∀ r i (M' : MM), i + r = c → (∀ a, a ≠ 39 → a ≠ 43 → M' a = M a) → M' 39 4 = nI c → M' 39 5 = nI (fqN H c (2 ^ c - 1) c) → (∀ j, j < i → M' 43 j = nI (ch (ptN H c (j + 1)).2)) → wX0_followFirst_34 Q (r + 1) M' (nI (ptN H c i).1) (nI (ptN H c i).2) (nI i) := by
    intro r
    induction r with
    | zero =>
      intro i M' hi k1 k2 k3 k4
      have : i = c := by omega
      subst this
      exact br_t (by rw [k2]; exact nI_le (Nat.le_refl _) (by omega)) (hq M' ⟨fun a ha => k1 a (by omega) (by omega), k2, k3, k4⟩)
    | succ r ih =>
      intro i M' hi k1 k2 k3 k4
      obtain ⟨p1, p2, p3⟩ := pt_ok (H := H) hc hH i (by omega)
      have pn := pt_ne (H := H) hc hH (show i < c by omega)
      obtain ⟨g1, g2, g3, g4⟩ := ft_ok (H := H) hc hH p1 pn p2
      refine br_f (fun q => ?_) (s_firstOfFewest hc hH p1 pn p2 k2 (fun f' hf' t ht => by rw [k1 40 (by decide) (by decide)]; exact h1 f' hf' t ht) (fun L' hL' f' hf' => by rw [k1 41 (by decide) (by decide)]; exact h2 L' (by omega) f' hf') ?_)
      · rw [k2] at q
        have := (nI_leI (by omega) (by omega)).mp q; omega
      refine s_cell (by rw [a40.2.2.1]; omega) (by rw [a40.2.2.1]; decide) ?_
      rw [k1 42 (by decide) (by decide), h0.2 _ g2]
      refine s_setCell (by rw [a40.2.2.2]; omega) (by rw [a40.2.2.2]; decide) ?_
      rintro _ rfl
      rw [shl_1 _ (by omega), nI_xor, nI_1]
      refine ih (i + 1) _ (by omega) (fun a a1 a2 => by rw [mset_n a2]; exact k1 a a1 a2) (by rw [mset_n (by decide)]; exact k2) (by rw [mset_n (by decide)]; exact k3) (fun j hj => ?_)
      by_cases e : j = i
      · subst e; rw [mset_ss]; rfl
      · rw [mset_sn e]; exact k4 j (by omega)
  have fin : wX0_followFirst_29 Q M (nI (2 ^ c - 1)) (nI c) (nI (fqN H c (2 ^ c - 1) c)) := by
    unfold wX0_followFirst_29
    rintro _ rfl
    exact ⟨_, loop c 0 _ (by omega) (fun a a1 _ => mset_n a1) (by rw [mset_sn (by decide)]; exact h0.1) (by rw [mset_ss]) (fun _ q => by omega)⟩
  unfold wX0_followFirst
  rintro _ rfl
  rw [h0.1, shl_1 c (by omega), nI_sub1 (by omega)]
  by_cases e : c = 0
  · refine br_nt (by rw [e]; rfl) ?_
    have : fqN H c (2 ^ c - 1) c = 0 := by rw [e]; rfl
    rw [this] at fin
    exact fin
  · have hne : 2 ^ c - 1 ≠ 0 := by
      intro q
      have := h8.2.2
      rw [q] at this
      have : poN 0 8 = 0 := by decide
      omega
    refine br_nf (fun q => hne ((nI_eq (b := 0) (by omega) (by omega)).mp q)) ?_
    exact s_fewestFrom hc hH (by omega) hne (Nat.le_refl _) h0.1 h1 (fun L' hL' => h2 L' (by omega)) fin
theorem s_plan {Q : MM → Prop} {M : MM} {s : Nat} {R : Nat → Nat} {σ : SS} (hR : okR R) (hS : okS R σ) (hc : clT M 1 R σ) (hs : s < 2 ^ sN σ) (h8 : poN s 12 ≤ 8) (hq : ∀ M', plnP M M' (hpN R σ (chN s 12) (poN s 12)) (chN s 12) (poN s 12) → Q M') : wX0_plan Q M 1 (nI s) := by
  have h12 := hS.2.1
  have h4 : 2 ^ sN σ ≤ 2 ^ 12 := Nat.pow_le_pow_right (by omega) h12
  have hch : ∀ k, k < poN s 12 → chN s 12 k < sN σ := by
    intro k hk
    have g := ch_stop hs 12 h12
    rw [g.1] at hk
    rw [g.2 k hk]
    exact ch_lt s (sN σ) k hk
  have hH := hp_ok hR hS hch
  have hp := p2c (poN s 12) (by omega)
  unfold wX0_plan
  refine s_choose (by omega) h8 (fun M1 a1 a2 a3 a4 => ?_)
  have c1 : chP M1 (chN s 12) (poN s 12) := ⟨a3, a4⟩
  refine s_hops hR hS (hc.keep (fun i hi => a1 _ (by omega))) h8 hch c1 (fun M2 b1 b2 => ?_)
  have c2 : chP M2 (chN s 12) (poN s 12) := ⟨by rw [b1 39 (by decide)]; exact a3, fun k hk => by rw [b1 42 (by decide)]; exact a4 k hk⟩
  -- the table
  have t30 : ∀ (L : Nat) (K : MM → Int32 → Prop), L < 2 ^ poN s 12 → (∀ M', (∀ a, a ≠ 41 → M' a = M2 a) → feP M' (hpN R σ (chN s 12) (poN s 12)) (poN s 12) (L + 1) → K M' (nI (L + 1))) → ∀ r f (M' : MM), f + r = poN s 12 → (∀ a, a ≠ 41 → M' a = M2 a) → feP M' (hpN R σ (chN s 12) (poN s 12)) (poN s 12) L → (∀ f', f' < f → M' 41 (L * 8 + f') = nI (fqN (hpN R σ (chN s 12) (poN s 12)) (poN s 12) L f')) → wX0_plan_30 Q K 1 (nI s) (r + 1) M' (nI L) (nI f) := by
    intro L K hL hK r
    induction r with
    | zero =>
      intro f M' hf k1 k2 k3
      have : f = poN s 12 := by omega
      subst this
      refine br_t (by rw [k1 39 (by decide), c2.1]; exact nI_le (Nat.le_refl _) (by omega)) ?_
      rw [nI_1]
      refine hK M' k1 (fun L' hL' f' hf' => ?_)
      by_cases e : L' = L
      · subst e; exact k3 f' hf'
      · exact k2 L' (by omega) f' hf'
    | succ r ih =>
      intro f M' hf k1 k2 k3
      refine br_f (fun q => ?_) ?_
      · rw [k1 39 (by decide), c2.1] at q
        have := (nI_leI (by omega) (by omega)).mp q; omega
      have nx : wX0_plan_65 Q K (fun M v3 v4 => wX0_plan_30 Q K 1 (nI s) (r + 1) M v3 v4) 1 (nI s) M' (nI L) (nI f) (nI (fqN (hpN R σ (chN s 12) (poN s 12)) (poN s 12) L f)) ((nI L * (8 : Int32)) + nI f) := by
        unfold wX0_plan_65
        rw [show nI L * (8 : Int32) + nI f = nI (L * 8 + f) by rw [show (8 : Int32) = nI 8 from rfl, pk_mul, nI_add]]
        refine s_setCell (by rw [a40.2.1]; omega) (by rw [a40.2.1]; decide) ?_
        rw [nI_1]
        refine ih (f + 1) _ (by omega) (fun a h => by rw [mset_n h]; exact k1 a h) (fun L' hL' f' hf' => ?_) (fun f' hf' => ?_)
        · rw [mset_sn (by omega)]; exact k2 L' hL' f' hf'
        · by_cases e : f' = f
          · subst e; rw [mset_ss]
          · rw [mset_sn (by omega)]; exact k3 f' (by omega)
      by_cases e : L = 0
      · refine br_nt (by rw [e]; rfl) ?_
        have z : fqN (hpN R σ (chN s 12) (poN s 12)) (poN s 12) L f = 0 := by rw [e]; rfl
        rw [z] at nx
        exact nx
      · refine br_nf (fun q => e ((nI_eq (b := 0) (by omega) (by omega)).mp q)) ?_
        exact s_fewestFrom h8 hH hL e (by omega) (by rw [k1 39 (by decide)]; exact c2.1) (fun f' hf' t ht => by rw [k1 40 (by decide)]; exact b2 f' hf' t ht) k2 nx
  have t17 : ∀ r L (M' : MM), L + r = 2 ^ poN s 12 → (∀ a, a ≠ 41 → M' a = M2 a) → feP M' (hpN R σ (chN s 12) (poN s 12)) (poN s 12) L → wX0_plan_17 Q 1 (nI s) (r + 1) M' (nI L) := by
    intro r
    induction r with
    | zero =>
      intro L M' hL k1 k2
      have : L = 2 ^ poN s 12 := by omega
      subst this
      unfold wX0_plan_17
      rw [show M' 39 4 = nI (poN s 12) by rw [k1 39 (by decide)]; exact c2.1, shl_1 _ (by omega)]
      refine br_t (nI_le (Nat.le_refl _) (by omega)) (s_follow h8 hH ⟨by rw [k1 39 (by decide)]; exact c2.1, fun k hk => by rw [k1 42 (by decide)]; exact c2.2 k hk⟩ (fun f' hf' t ht => by rw [k1 40 (by decide)]; exact b2 f' hf' t ht) k2 (fun M3 hp3 => hq M3 ?_))
      obtain ⟨q1, q2, q3, q4⟩ := hp3
      exact ⟨fun a ha => by rw [q1 a ha, k1 a (by omega), b1 a (by omega), a1 a ha], q2, q3, q4⟩
    | succ r ih =>
      intro L M' hL k1 k2
      unfold wX0_plan_17
      rw [show M' 39 4 = nI (poN s 12) by rw [k1 39 (by decide)]; exact c2.1, shl_1 _ (by omega)]
      refine br_f (fun q => ?_) ⟨poN s 12 + 1, t30 L _ (by omega) (fun M3 d1 d2 => ih (L + 1) M3 (by omega) d1 d2) (poN s 12) 0 M' (by omega) k1 k2 (fun _ q => by omega)⟩
      have := (nI_leI (by omega) (by omega)).mp q; omega
  exact ⟨_, t17 (2 ^ poN s 12) 0 M2 (by omega) (fun _ _ => rfl) (fun L' h => by omega)⟩
-- ===== the reference's orders =====
theorem a62 : alen 62 = 3328 ∧ alen 63 = 8 := by decide +kernel
theorem v62 {n : Nat} (h : n < 3328) : vp_in (nI n) (alen 62) := vp_nI (by rw [a62.1]; exact h) (by rw [a62.1]; decide)
theorem v63 {n : Nat} (h : n < 8) : vp_in (nI n) (alen 63) := vp_nI (by rw [a62.2]; exact h) (by rw [a62.2]; decide)
theorem mk_1 : ∀ c, c < 9 → ∀ S, S < 2 ^ c → ((2 ^ c - 1) ^^^ S < 2 ^ c ∧ ((2 ^ c - 1) ^^^ S = 0 ↔ S = 2 ^ c - 1) ∧ (2 ^ c - 1) ^^^ ((2 ^ c - 1) ^^^ S) = S) := by decide +kernel
theorem mk_2 : ∀ c, c < 9 → ∀ S, S < 2 ^ c → ∀ b, b < c → (((2 ^ c - 1) ^^^ S) / 2 ^ b % 2 = 1 ↔ ¬ S / 2 ^ b % 2 = 1) := by decide +kernel
theorem mk_4 : ∀ c, c < 9 → ∀ S, S < 2 ^ c → ∀ b, b < c → (S / 2 ^ b % 2 = 1 ∨ ((2 ^ c - 1) ^^^ (S ||| 2 ^ b) = ((2 ^ c - 1) ^^^ S) ^^^ 2 ^ b ∧ (S ||| 2 ^ b < 2 ^ c ∧ (S < S ||| 2 ^ b ∧ (S ||| 2 ^ b) / 2 ^ b % 2 = 1)))) := by decide +kernel
theorem mk_3 (c : Nat) (hc : c < 9) (S : Nat) (hS : S < 2 ^ c) (b : Nat) (hb : b < c) (q : ¬ S / 2 ^ b % 2 = 1) : (2 ^ c - 1) ^^^ (S ||| 2 ^ b) = ((2 ^ c - 1) ^^^ S) ^^^ 2 ^ b ∧ (S ||| 2 ^ b < 2 ^ c ∧ (S < S ||| 2 ^ b ∧ (S ||| 2 ^ b) / 2 ^ b % 2 = 1)) := (mk_4 c hc S hS b hb).resolve_left q
theorem m_lessM {Q : Int32 → MM → Prop} {M : MM} {a b : Nat} (ha : a < 2 ^ 31) (hb : b < 2 ^ 31) (hq : Q (nI (min b a)) M) : wX5_less Q M (nI a) (nI b) := by
  unfold wX5_less
  rw [nI_leI hb ha]
  by_cases h : b ≤ a
  · rw [show min b a = b by omega] at hq; exact br_t h hq
  · rw [show min b a = a by omega] at hq; exact br_f h hq
/-- those that are asked for -/
def thP (M : MM) (ch : Nat → Nat) (c : Nat) : Prop := M 52 20 = nI c ∧ ∀ k, k < c → M 63 k = nI (ch k)
theorem m_takes {Q : Int32 → MM → Prop} {M : MM} {ch : Nat → Nat} {c f l b : Nat} {R : Nat → Nat} {σ : SS} (hR : okR R) (hS : okS R σ) (hr : rlT M R) (hm : mdT M 0 σ) (hc8 : c ≤ 8) (hch : ∀ k, k < c → ch k < sN σ) (h0 : thP M ch c) (hl : (l = 8 ∧ f = c) ∨ (l < c ∧ f = l)) (hb : b < c) (hq : Q (nI (hpN R σ ch c f b)) M) : wX5_takes Q M (nI l) (nI b) := by
  have h12 := hS.2.1
  have hL := hS.1.2
  have hbt := hch b hb
  have hz := hS.2.2.2.1 _ hbt
  have tail : ∀ x, x = (if f = c then sH σ else sB σ (ch f) + lgN R (sZ σ (ch f))) → x ≤ sL σ → wX5_takes_27 Q (nI l) (nI b) M (nI x) := by
    intro x hx hxL
    unfold wX5_takes_27
    rw [clamp_nI (n := b) (by omega), h0.2 b hb, n1, nI_add, clamp_nI (n := 1 + ch b) (by omega), mB hm hbt]
    refine ⟨v63 (by omega), v53 (by omega), m_sooner hR hr hm.1 hL hxL (by omega) ?_⟩
    rw [h0.2 b hb, e13, clamp_nI (n := 13 + ch b) (by omega), mZ hm hbt]
    refine ⟨v63 (by omega), v53 (by omega), m_longOf hR hr (by omega) ?_⟩
    rw [hr 3 (by omega) (by omega), pk_mul, nI_add]
    unfold hpN at hq
    rw [← hx] at hq
    exact hq
  unfold wX5_takes
  rw [show (8 : Int32) = nI 8 from rfl, nI_eq (by omega) (by omega)]
  rcases hl with ⟨h1, h2⟩ | ⟨h1, h2⟩
  · refine br_nt h1 ?_
    rw [show M 53 325 = nI (sH σ) from hm.2.2.1]
    exact tail _ (by rw [if_pos h2]) hS.2.2.1
  · refine br_nf (by omega) ⟨v63 (by omega), ?_⟩
    rw [clamp_nI (by omega), h0.2 l h1]
    refine m_endOf hR hS hr hm (hch l h1) ?_
    exact tail _ (by rw [if_neg (by omega), h2]) (hS.2.2.2.1 _ (hch l h1)).2
theorem m_those {Q : MM → Prop} {M : MM} {s N : Nat} (hs : s < 2 ^ N) (hN : N ≤ 12) (h8 : poN s N ≤ 8) (e0 : M 53 0 = nI N) (hq : ∀ M', (∀ a, a ≠ 52 → a ≠ 63 → M' a = M a) → (∀ j, j ≠ 20 → M' 52 j = M 52 j) → thP M' (chN s N) (poN s N) → ∃ m, wX5_layRest_63 Q (nI s) m M' (nI (2 ^ poN s N - 1)) (nI (2 ^ poN s N - 1))) : wX5_layRest Q M (nI s) := by
  have h4 : 2 ^ N ≤ 2 ^ 12 := Nat.pow_le_pow_right (by omega) hN
  have loop : ∀ r b (M' : MM), b + r = N → (∀ a, a ≠ 52 → a ≠ 63 → M' a = M a) → (∀ j, j ≠ 20 → M' 52 j = M 52 j) → thP M' (chN s b) (poN s b) → wX5_layRest_7 Q (nI s) (r + 1) M' (nI b) := by
    intro r
    induction r with
    | zero =>
      intro b M' hb k1 k2 k3
      have : b = N := by omega
      subst this
      have hp := p2c (poN s b) (by omega)
      refine br_t (by rw [k1 53 (by decide) (by decide), e0]; exact nI_le (Nat.le_refl _) (by omega)) ?_
      rintro _ rfl
      rw [k3.1, shl_1 _ (by omega), nI_sub1 (by omega)]
      exact hq M' k1 k2 k3
    | succ r ih =>
      intro b M' hb k1 k2 k3
      have hmn := po_mono (s := s) (show b + 1 ≤ N by omega)
      refine br_f (fun q => ?_) ?_
      · rw [k1 53 (by decide) (by decide), e0] at q
        have := (nI_leI (by omega) (by omega)).mp q; omega
      rw [bit_iff (by omega) (by omega)]
      unfold wX5_layRest_46
      have e1 : poN s (b + 1) = poN s b + s / 2 ^ b % 2 := rfl
      by_cases q : s / 2 ^ b % 2 = 1
      · refine br_nt q ?_
        rw [k3.1, clamp_nI (by omega)]
        refine ⟨v63 (by omega), ?_⟩
        rintro _ rfl _ rfl
        rw [nI_1]
        refine ih (b + 1) _ (by omega) (fun a a1 a2 => by rw [mset_n a1, mset_n a2]; exact k1 a a1 a2) (fun j hj => by rw [mset_sn hj, mset_n (by decide)]; exact k2 j hj) ⟨?_, fun k hk => ?_⟩
        · rw [mset_ss, mset_n (by decide), k3.1, nI_1, e1, q]
        · rw [mset_n (by decide)]
          have e2 : chN s (b + 1) k = if s / 2 ^ b % 2 = 1 ∧ k = poN s b then b else chN s b k := rfl
          rw [e2]
          by_cases e : k = poN s b
          · subst e; rw [mset_ss, if_pos ⟨q, rfl⟩]
          · rw [mset_sn e, if_neg (fun q => e q.2)]; exact k3.2 k (by omega)
      · refine br_nf q ?_
        rw [nI_1]
        have e3 : poN s (b + 1) = poN s b := by omega
        refine ih (b + 1) M' (by omega) k1 k2 ⟨by rw [k3.1, e3], fun k hk => ?_⟩
        rw [ch_old (by omega)]; exact k3.2 k (by omega)
  unfold wX5_layRest
  rintro _ rfl
  exact ⟨_, loop N 0 _ (by omega) (fun a a1 _ => mset_n a1) (fun j hj => mset_sn hj) ⟨by rw [mset_ss]; rfl, fun k hk => absurd hk (Nat.not_lt_zero _)⟩⟩
/-- the rows of the rest, for the sets from r on -/
def reP (M : MM) (H : Nat → Nat → Nat) (c r : Nat) : Prop := ∀ S, r ≤ S → S < 2 ^ c → (∀ l, l < c → S / 2 ^ l % 2 = 1 → M 62 (13 * S + l) = nI (fqN H c ((2 ^ c - 1) ^^^ S) l)) ∧ (S = 0 → M 62 8 = nI (fqN H c (2 ^ c - 1) c))
theorem m_cell {Q : MM → Prop} {K63 : MM → Int32 → Int32 → Prop} {K70 : MM → Int32 → Int32 → Int32 → Prop} {M : MM} {ch : Nat → Nat} {c S l f : Nat} {v1 A : Int32} {R : Nat → Nat} {σ : SS} (hR : okR R) (hS : okS R σ) (hr : rlT M R) (hm : mdT M 0 σ) (hc8 : c ≤ 8) (hch : ∀ k, k < c → ch k < sN σ) (h0 : thP M ch c) (hSc : S < 2 ^ c) (hl : (l = 8 ∧ f = c) ∨ (l < c ∧ f = l)) (hre : reP M (hpN R σ ch c) c (S + 1)) (hK : K70 (mset M 62 (13 * S + l) (nI (fqN (hpN R σ ch c) c ((2 ^ c - 1) ^^^ S) f))) A (nI S) (nI l + 1)) : wX5_layRest_133 Q K63 K70 v1 M A (nI S) (nI l) (if S = 2 ^ c - 1 then 0 else 2000000000) 1 := by
  have hH := hp_ok hR hS hch
  have h8 := (p2c c (by omega)).1
  have hk1 := mk_1 c (by omega) S hSc
  have hf : f ≤ c := by omega
  have l8 : l ≤ 8 := by omega
  have fin : ∀ v, v = nI (fqN (hpN R σ ch c) c ((2 ^ c - 1) ^^^ S) f) → wX5_layRest_200 Q K63 K70 v1 M A (nI S) (nI l) v := by
    rintro _ rfl
    unfold wX5_layRest_200
    rw [show (13 : Int32) * nI S = nI (13 * S) from pk_mul 13 S, nI_add, clamp_nI (by omega)]
    refine ⟨v62 (by omega), ?_⟩
    rintro _ rfl
    exact hK
  unfold wX5_layRest_133
  have loop : ∀ (v0 : Nat), v0 ≤ 2000000000 → (mnF (fun t => hpN R σ ch c f t + fqN (hpN R σ ch c) c (((2 ^ c - 1) ^^^ S) ^^^ 2 ^ t) t) ((2 ^ c - 1) ^^^ S) v0 c = fqN (hpN R σ ch c) c ((2 ^ c - 1) ^^^ S) f) → ∀ r b, b + r = c → wX5_layRest_138 Q K63 K70 v1 (r + 1) M A (nI S) (nI l) (nI (mnF (fun t => hpN R σ ch c f t + fqN (hpN R σ ch c) c (((2 ^ c - 1) ^^^ S) ^^^ 2 ^ t) t) ((2 ^ c - 1) ^^^ S) v0 b)) 1 (nI b) := by
    intro v0 hv0 hend r
    induction r with
    | zero =>
      intro b hb
      have : b = c := by omega
      subst this
      refine br_t (by rw [h0.1]; exact nI_le (Nat.le_refl _) (by omega)) (fin _ (by rw [hend]))
    | succ r ih =>
      intro b hb
      have hbc : b < c := by omega
      refine br_f (fun q => ?_) (br_f (by decide) ?_)
      · rw [h0.1] at q
        have := (nI_leI (by omega) (by omega)).mp q; omega
      have g := ih (b + 1) (by omega)
      rw [mnF] at g
      have k2 := mk_2 c (by omega) S hSc b hbc
      unfold wX5_layRest_194
      rw [bit_if0 (by omega) (by omega)]
      by_cases q : S / 2 ^ b % 2 = 1
      · rw [if_neg (fun e => (k2.mp e) q)] at g
        refine br_nf (fun e => e q) ?_
        rw [nI_1]; exact g
      · rw [if_pos (k2.mpr q)] at g
        obtain ⟨m1, m2, m3, m4⟩ := mk_3 c (by omega) S hSc b hbc q
        refine br_nt q (m_takes hR hS hr hm hc8 hch h0 hl hbc ?_)
        rw [shl_1 b (by omega), nI_or, show (13 : Int32) * nI (S ||| 2 ^ b) = nI (13 * (S ||| 2 ^ b)) from pk_mul 13 _, nI_add, clamp_nI (by omega), (hre (S ||| 2 ^ b) (by omega) m2).1 b hbc m4, m1, nI_add]
        refine ⟨v62 (by omega), ?_⟩
        have hx := (ms_lt _ (show (2 ^ c - 1) ^^^ S < 256 by omega) b (by omega) (k2.mpr q)).1
        have b1 := fqN_b (H := hpN R σ ch c) (L := ((2 ^ c - 1) ^^^ S) ^^^ 2 ^ b) (f := b) hc8 hH (by omega) (by omega)
        have b2 := hH f b hf hbc
        have b3 := mn_ls (g := fun t => hpN R σ ch c f t + fqN (hpN R σ ch c) c (((2 ^ c - 1) ^^^ S) ^^^ 2 ^ t) t) (L := (2 ^ c - 1) ^^^ S) (s := v0) b
        refine m_lessM (by omega) (by omega) ?_
        rw [nI_1]; exact g
  by_cases e : S = 2 ^ c - 1
  · rw [if_pos e]
    have z : (2 ^ c - 1) ^^^ S = 0 := hk1.2.1.mpr e
    have zz : ∀ i, mnF (fun t => hpN R σ ch c f t + fqN (hpN R σ ch c) c (((2 ^ c - 1) ^^^ S) ^^^ 2 ^ t) t) ((2 ^ c - 1) ^^^ S) 0 i = 0 := fun i => Nat.le_zero.mp (mn_ls i)
    exact ⟨_, loop 0 (by omega) (by rw [zz, z]; rfl) c 0 (by omega)⟩
  · rw [if_neg e]
    have hne : (2 ^ c - 1) ^^^ S ≠ 0 := fun q => e (hk1.2.1.mp q)
    obtain ⟨t, t1, t2⟩ := ms_ex c (by omega) _ (show (2 ^ c - 1) ^^^ S < 256 by omega) hk1.1 hne
    have hx := (ms_lt _ (show (2 ^ c - 1) ^^^ S < 256 by omega) t (by omega) t2).1
    have b1 := fqN_b (H := hpN R σ ch c) (L := ((2 ^ c - 1) ^^^ S) ^^^ 2 ^ t) (f := t) hc8 hH (by omega) (by omega)
    have b2 := hH f t hf t1
    refine ⟨_, loop 2000000000 (Nat.le_refl _) ?_ c 0 (by omega)⟩
    rw [fqN_eq hc8 hk1.1 hne]
    exact (mn_st t1 t2 (by show _ + _ ≤ _; omega) (by omega)).symm
theorem m_cell0 {Q : MM → Prop} {K63 : MM → Int32 → Int32 → Prop} {K70 : MM → Int32 → Int32 → Int32 → Prop} {M : MM} {c S l : Nat} {v1 A v : Int32} (hc8 : c ≤ 8) (h0 : M 52 20 = nI c) (hSc : S < 256) (hl : l ≤ 8) (hK : K70 (mset M 62 (13 * S + l) v) A (nI S) (nI l + 1)) : wX5_layRest_133 Q K63 K70 v1 M A (nI S) (nI l) v 0 := by
  have fin : wX5_layRest_200 Q K63 K70 v1 M A (nI S) (nI l) v := by
    unfold wX5_layRest_200
    rw [show (13 : Int32) * nI S = nI (13 * S) from pk_mul 13 S, nI_add, clamp_nI (by omega)]
    refine ⟨v62 (by omega), ?_⟩
    rintro _ rfl
    exact hK
  exact ⟨1, fun _ => fin, fun _ => br_t rfl fin⟩
theorem m_layRest {Q : MM → Prop} {M : MM} {s : Nat} {R : Nat → Nat} {σ : SS} (hR : okR R) (hS : okS R σ) (hr : rlT M R) (hm : mdT M 0 σ) (hs : s < 2 ^ sN σ) (h8 : poN s (sN σ) ≤ 8) (hq : ∀ M', (∀ a, a ≠ 52 → a ≠ 62 → a ≠ 63 → M' a = M a) → (∀ j, j ≠ 20 → M' 52 j = M 52 j) → thP M' (chN s (sN σ)) (poN s (sN σ)) → reP M' (hpN R σ (chN s (sN σ)) (poN s (sN σ))) (poN s (sN σ)) 0 → Q M') : wX5_layRest Q M (nI s) := by
  have h12 := hS.2.1
  have hch := ch_lt s (sN σ)
  have hp := p2c (poN s (sN σ)) (by omega)
  refine m_those hs h12 h8 hm.2.1 (fun M1 a1 a2 a3 => ?_)
  -- one set, the last ones from l on
  have t70 : ∀ (S : Nat) (K : MM → Int32 → Int32 → Prop), S < 2 ^ poN s (sN σ) → (∀ M', (∀ a, a ≠ 62 → M' a = M1 a) → reP M' (hpN R σ (chN s (sN σ)) (poN s (sN σ))) (poN s (sN σ)) S → K M' (nI (2 ^ poN s (sN σ) - 1)) (nI S + (-1))) → ∀ r l (M' : MM), l + r = 9 → (∀ a, a ≠ 62 → M' a = M1 a) → reP M' (hpN R σ (chN s (sN σ)) (poN s (sN σ))) (poN s (sN σ)) (S + 1) → (∀ l', l' < l → l' < poN s (sN σ) → S / 2 ^ l' % 2 = 1 → M' 62 (13 * S + l') = nI (fqN (hpN R σ (chN s (sN σ)) (poN s (sN σ))) (poN s (sN σ)) ((2 ^ poN s (sN σ) - 1) ^^^ S) l')) → (8 < l → S = 0 → M' 62 8 = nI (fqN (hpN R σ (chN s (sN σ)) (poN s (sN σ))) (poN s (sN σ)) (2 ^ poN s (sN σ) - 1) (poN s (sN σ)))) → wX5_layRest_70 Q K (nI s) (r + 1) M' (nI (2 ^ poN s (sN σ) - 1)) (nI S) (nI l) := by
    intro S K hSc hK r
    induction r with
    | zero =>
      intro l M' hl k1 k2 k3 k4
      have : l = 9 := by omega
      subst this
      refine br_t (by decide +kernel) (hK M' k1 (fun S' h1 h2 => ?_))
      by_cases e : S' = S
      · subst e
        exact ⟨fun l hl q => k3 l (by omega) hl q, fun e0 => k4 (by omega) e0⟩
      · exact k2 S' (by omega) h2
    | succ r ih =>
      intro l M' hl k1 k2 k3 k4
      have h0' : thP M' (chN s (sN σ)) (poN s (sN σ)) := ⟨by rw [k1 52 (by decide)]; exact a3.1, fun k hk => by rw [k1 63 (by decide)]; exact a3.2 k hk⟩
      have hm' : mdT M' 0 σ := hm.keep (by rw [k1 53 (by decide), a1 53 (by decide) (by decide)])
      have hr' : rlT M' R := hr.keep (by rw [k1 55 (by decide), a1 55 (by decide) (by decide)])
      -- the next one, whatever is written here
      have nx : ∀ w : Int32, (l < poN s (sN σ) → S / 2 ^ l % 2 = 1 → w = nI (fqN (hpN R σ (chN s (sN σ)) (poN s (sN σ))) (poN s (sN σ)) ((2 ^ poN s (sN σ) - 1) ^^^ S) l)) → (l = 8 → S = 0 → w = nI (fqN (hpN R σ (chN s (sN σ)) (poN s (sN σ))) (poN s (sN σ)) (2 ^ poN s (sN σ) - 1) (poN s (sN σ)))) → wX5_layRest_70 Q K (nI s) (r + 1) (mset M' 62 (13 * S + l) w) (nI (2 ^ poN s (sN σ) - 1)) (nI S) (nI l + 1) := by
        intro w w1 w2
        rw [nI_1]
        refine ih (l + 1) _ (by omega) (fun a h => by rw [mset_n h]; exact k1 a h) (fun S' h1 h2 => ?_) (fun l' h1 h2 h3 => ?_) (fun h1 h2 => ?_)
        · have g := k2 S' h1 h2
          refine ⟨fun l' hl' q => ?_, fun e0 => by omega⟩
          rw [mset_sn (by omega)]; exact g.1 l' hl' q
        · by_cases e : l' = l
          · subst e; rw [mset_ss]; exact w1 h2 h3
          · rw [mset_sn (by omega)]; exact k3 l' (by omega) h2 h3
        · by_cases e : l = 8
          · subst e; subst h2
            rw [show 13 * 0 + 8 = 8 from rfl, mset_ss]; exact w2 rfl rfl
          · omega
      unfold wX5_layRest_70
      refine br_f (fun q => ?_) ?_
      · have := (nI_leI (a := 9) (by omega) (by omega)).mp q; omega
      have t88 : wX5_layRest_88 Q K (fun M v2 v3 v4 => wX5_layRest_70 Q K (nI s) (r + 1) M v2 v3 v4) (nI s) M' (nI (2 ^ poN s (sN σ) - 1)) (nI S) (nI l) (if S = 2 ^ poN s (sN σ) - 1 then 0 else 2000000000) := by
        unfold wX5_layRest_88 wX5_layRest_132
        rw [h0'.1, show (8 : Int32) = nI 8 from rfl, nI_eq (by omega) (by omega), nI_leI (by omega) (by omega), bit_iff (by omega) (by omega), show (0 : Int32) = nI 0 from rfl, nI_eq (a := S) (by omega) (by omega)]
        by_cases e8 : l = 8
        · refine br_nt e8 ?_
          by_cases e0 : S = 0
          · refine br_nt e0 (m_cell (f := poN s (sN σ)) hR hS hr' hm' h8 hch h0' hSc (Or.inl ⟨e8, rfl⟩) k2 (nx _ (fun h _ => by omega) (fun _ _ => ?_)))
            rw [e0, Nat.xor_zero]
          · exact br_nf e0 (m_cell0 h8 h0'.1 (by omega) (by omega) (nx _ (fun h _ => by omega) (fun _ h => absurd h e0)))
        · refine br_nf e8 ?_
          by_cases e1 : poN s (sN σ) ≤ l
          · exact br_t e1 (m_cell0 h8 h0'.1 (by omega) (by omega) (nx _ (fun h _ => by omega) (fun h _ => absurd h e8)))
          · refine br_f e1 ?_
            by_cases e2 : S / 2 ^ l % 2 = 1
            · exact br_nt e2 (m_cell (f := l) hR hS hr' hm' h8 hch h0' hSc (Or.inr ⟨by omega, rfl⟩) k2 (nx _ (fun _ _ => rfl) (fun h _ => absurd h e8)))
            · exact br_nf e2 (m_cell0 h8 h0'.1 (by omega) (by omega) (nx _ (fun _ h => absurd h e2) (fun h _ => absurd h e8)))
      rw [nI_eq (by omega) (by omega)]
      by_cases e : S = 2 ^ poN s (sN σ) - 1
      · rw [if_pos e] at t88; exact br_nt e t88
      · rw [if_neg e] at t88; exact br_nf e t88
  have t63 : ∀ r (M' : MM), r ≤ 2 ^ poN s (sN σ) → (∀ a, a ≠ 62 → M' a = M1 a) → reP M' (hpN R σ (chN s (sN σ)) (poN s (sN σ))) (poN s (sN σ)) r → wX5_layRest_63 Q (nI s) (r + 1) M' (nI (2 ^ poN s (sN σ) - 1)) (nI r + (-1)) := by
    intro r
    induction r with
    | zero =>
      intro M' _ k1 k2
      refine br_t (by decide +kernel) (hq M' (fun a h1 h2 h3 => by rw [k1 a h2, a1 a h1 h3]) (fun j hj => by rw [k1 52 (by decide)]; exact a2 j hj) ⟨by rw [k1 52 (by decide)]; exact a3.1, fun k hk => by rw [k1 63 (by decide)]; exact a3.2 k hk⟩ k2)
    | succ r ih =>
      intro M' hr2 k1 k2
      rw [pk_m1]
      refine br_f (nI_pos (by omega)) ⟨10, t70 r _ (by omega) (fun M2 d1 d2 => ih M2 (by omega) d1 d2) 9 0 M' (by omega) k1 k2 (fun _ h => by omega) (fun h => by omega)⟩
  have g := t63 (2 ^ poN s (sN σ)) M1 (Nat.le_refl _) (fun _ _ => rfl) (fun S h1 h2 => by omega)
  have e : nI (2 ^ poN s (sN σ)) + (-1) = nI (2 ^ poN s (sN σ) - 1) := by
    have : 2 ^ poN s (sN σ) = (2 ^ poN s (sN σ) - 1) + 1 := by omega
    rw [this, pk_m1]; rfl
  rw [e] at g
  exact ⟨_, g⟩
theorem mk_6 : ∀ c, c < 9 → ∀ L, L < 2 ^ c → ∀ b, b < c → (¬ L / 2 ^ b % 2 = 1 ∨ (((2 ^ c - 1) ^^^ L) ||| 2 ^ b) = (2 ^ c - 1) ^^^ (L ^^^ 2 ^ b)) := by decide +kernel
def dnF (f : Nat → Nat) (c : Nat) : Nat → Int32
  | 0 => -4
  | k + 1 => if f (c - 1 - k) = 1 then nI (c - 1 - k) else dnF f c k
theorem dn_end {f : Nat → Nat} {c x : Nat} (hx : x < c) (h1 : f x = 1) (h2 : ∀ y, y < x → f y ≠ 1) : ∀ k, c - x ≤ k → k ≤ c → dnF f c k = nI x := by
  intro k
  induction k with
  | zero => intro h; omega
  | succ k ih =>
    intro a b
    rw [dnF]
    by_cases e : c - 1 - k = x
    · rw [e, if_pos h1]
    · rw [if_neg (h2 _ (by omega))]
      exact ih (by omega) (by omega)
theorem m_follows {Q : Int32 → MM → Prop} {M : MM} {ch : Nat → Nat} {c L f l : Nat} {R : Nat → Nat} {σ : SS} (hR : okR R) (hS : okS R σ) (hr : rlT M R) (hm : mdT M 0 σ) (hc8 : c ≤ 8) (hch : ∀ k, k < c → ch k < sN σ) (h0 : thP M ch c) (hre : reP M (hpN R σ ch c) c 0) (hL : L < 2 ^ c) (hne : L ≠ 0) (hl : (l = 8 ∧ f = c ∧ L = 2 ^ c - 1) ∨ (l < c ∧ f = l ∧ ((2 ^ c - 1) ^^^ L) / 2 ^ l % 2 = 1)) (hq : Q (nI (ftN (hpN R σ ch c) c L f)) M) : wX5_follows Q M (nI ((2 ^ c - 1) ^^^ L)) (nI l) := by
  have hH := hp_ok hR hS hch
  have h8 := (p2c c (by omega)).1
  have hk1 := mk_1 c (by omega) L hL
  have hf : f ≤ c := by omega
  have l8 : l ≤ 8 := by omega
  have hl2 : (l = 8 ∧ f = c) ∨ (l < c ∧ f = l) := by omega
  obtain ⟨g1, g2, g3, g4⟩ := ft_ok (H := hpN R σ ch c) hc8 hH hL hne hf
  obtain ⟨x1, x2, x3⟩ := fiO_some c _ g1
  have hb := fqN_b (f := f) hc8 hH hL hf
  -- what the rest says of where one is
  have cur : M 62 (13 * ((2 ^ c - 1) ^^^ L) + l) = nI (fqN (hpN R σ ch c) c L f) := by
    have g := hre ((2 ^ c - 1) ^^^ L) (Nat.zero_le _) hk1.1
    rcases hl with ⟨a1, a2, a3⟩ | ⟨a1, a2, a3⟩
    · have z : (2 ^ c - 1) ^^^ L = 0 := hk1.2.1.mpr a3
      rw [z, a1, a2, a3]
      exact g.2 z
    · rw [g.1 l a1 a3, hk1.2.2, a2]
  have loop : ∀ r, r ≤ c → wX5_follows_11 Q (nI ((2 ^ c - 1) ^^^ L)) (nI l) (r + 1) M (dnF (gdF (hpN R σ ch c) c L f) c (c - r)) (nI r + (-1)) := by
    intro r
    induction r with
    | zero =>
      intro _
      refine br_t (by decide +kernel) ?_
      rw [Nat.sub_zero, dn_end x1 x2 x3 c (by omega) (Nat.le_refl _)]
      exact hq
    | succ r ih =>
      intro hr2
      have hrc : r < c := by omega
      have g := ih (by omega)
      have e1 : c - r = (c - (r + 1)) + 1 := by omega
      rw [e1, dnF, show c - 1 - (c - (r + 1)) = r by omega] at g
      rw [pk_m1]
      refine br_f (nI_pos (by omega)) ?_
      have k2 := mk_2 c (by omega) L hL r hrc
      have g0 : gdF (hpN R σ ch c) c L f r = if L / 2 ^ r % 2 = 1 ∧ hpN R σ ch c f r + fqN (hpN R σ ch c) c (L ^^^ 2 ^ r) r = fqN (hpN R σ ch c) c L f then 1 else 0 := rfl
      unfold wX5_follows_68 wX5_follows_69 wX5_follows_82
      rw [bit_if0 (by omega) (by omega), k2]
      by_cases q : L / 2 ^ r % 2 = 1
      · refine br_nt (fun e => e q) (m_takes hR hS hr hm hc8 hch h0 hl2 hrc ?_)
        obtain ⟨m1, m2, m3, m4⟩ := mk_3 c (by omega) _ hk1.1 r hrc (fun e => (k2.mp e) q)
        rw [hk1.2.2] at m1
        rw [shl_1 r (by omega), nI_or, show ∀ z, (13 : Int32) * nI z = nI (13 * z) from fun z => pk_mul 13 z, show ∀ z, (13 : Int32) * nI z = nI (13 * z) from fun z => pk_mul 13 z, nI_add, nI_add, clamp_nI (n := 13 * (((2 ^ c - 1) ^^^ L) ||| 2 ^ r) + r) (by omega), clamp_nI (n := 13 * ((2 ^ c - 1) ^^^ L) + l) (by omega), cur, (hre _ (Nat.zero_le _) m2).1 r hrc m4, m1, nI_add]
        refine ⟨v62 (by omega), v62 (by omega), ?_⟩
        have hx := (ms_lt L (by omega) r (by omega) q).1
        have b1 := fqN_b (H := hpN R σ ch c) (L := L ^^^ 2 ^ r) (f := r) hc8 hH (by omega) (by omega)
        have b2 := hH f r hf hrc
        rw [nI_eq (by omega) (by omega)]
        by_cases e : hpN R σ ch c f r + fqN (hpN R σ ch c) c (L ^^^ 2 ^ r) r = fqN (hpN R σ ch c) c L f
        · rw [if_pos ⟨q, e⟩] at g0
          rw [if_pos g0] at g
          exact br_nt e (br_f (by decide) g)
        · rw [if_neg (fun z => e z.2)] at g0
          rw [if_neg (by omega)] at g
          exact br_nf e (br_t rfl g)
      · rw [if_neg (fun z => q z.1)] at g0
        rw [if_neg (by omega)] at g
        exact br_nf (fun e => e q) (br_t rfl g)
  unfold wX5_follows
  rintro _ rfl
  rw [h0.1]
  have g := loop c (Nat.le_refl _)
  rw [Nat.sub_self] at g
  have e : nI c - 1 = nI c + (-1) := Int32.sub_eq_add_neg _ _
  rw [e]
  exact ⟨_, g⟩
theorem m_nthOf {Q : Int32 → MM → Prop} {M : MM} {ch : Nat → Nat} {c i : Nat} {R : Nat → Nat} {σ : SS} (hR : okR R) (hS : okS R σ) (hr : rlT M R) (hm : mdT M 0 σ) (hc8 : c ≤ 8) (hch : ∀ k, k < c → ch k < sN σ) (h0 : thP M ch c) (hre : reP M (hpN R σ ch c) c 0) (hi : i < c) (hq : Q (nI (ch (ptN (hpN R σ ch c) c (i + 1)).2)) M) : wX5_nthOf Q M (nI i) := by
  have hH := hp_ok hR hS hch
  have h8 := p2c c (by omega)
  have loop : ∀ r k, k + r = i + 1 → (∀ l, ((k = 0 ∧ l = 8) ∨ (0 < k ∧ l = (ptN (hpN R σ ch c) c k).2 ∧ l < c ∧ ((2 ^ c - 1) ^^^ (ptN (hpN R σ ch c) c k).1) / 2 ^ l % 2 = 1)) → wX5_nthOf_8 Q (nI i) (r + 1) M (nI ((2 ^ c - 1) ^^^ (ptN (hpN R σ ch c) c k).1)) (nI l) (nI k)) := by
    intro r
    induction r with
    | zero =>
      intro k hk l hl
      have : k = i + 1 := by omega
      subst this
      have hl' : l = (ptN (hpN R σ ch c) c (i + 1)).2 ∧ l < c := by omega
      refine br_t (nI_lt (by omega) (by omega)) ?_
      rw [clamp_nI (by omega), h0.2 l hl'.2, hl'.1]
      refine ⟨v63 (by omega), hq⟩
    | succ r ih =>
      intro k hk l hl
      obtain ⟨p1, p2, p3⟩ := pt_ok (H := hpN R σ ch c) hc8 hH k (by omega)
      have pn := pt_ne (H := hpN R σ ch c) hc8 hH (show k < c by omega)
      obtain ⟨g1, g2, g3, g4⟩ := ft_ok (H := hpN R σ ch c) hc8 hH p1 pn p2
      refine br_f (fun q => ?_) (m_follows (f := (ptN (hpN R σ ch c) c k).2) hR hS hr hm hc8 hch h0 hre p1 pn ?_ ?_)
      · have := (nI_ltI (by omega) (by omega)).mp q; omega
      · rcases hl with ⟨a1, a2⟩ | ⟨a1, a2, a3, a4⟩
        · subst a1; exact Or.inl ⟨a2, rfl, rfl⟩
        · exact Or.inr ⟨a3, a2.symm, a4⟩
      · rintro _ rfl
        rw [shl_1 _ (by omega), nI_or, nI_1]
        have m6 := (mk_6 c (by omega) _ p1 _ g2).resolve_left (fun e => e g3)
        rw [m6]
        refine ih (k + 1) (by omega) _ (Or.inr ⟨by omega, rfl, g2, ?_⟩)
        show ((2 ^ c - 1) ^^^ ((ptN (hpN R σ ch c) c k).1 ^^^ 2 ^ ftN (hpN R σ ch c) c (ptN (hpN R σ ch c) c k).1 (ptN (hpN R σ ch c) c k).2)) / _ % 2 = 1
        rw [← m6]
        have k1 := mk_1 c (by omega) _ p1
        have k2 := mk_2 c (by omega) _ p1 _ g2
        exact (mk_3 c (by omega) _ k1.1 _ g2 (fun e => (k2.mp e) g3)).2.2.2
  have g := loop (i + 1) 0 (by omega) 8 (Or.inl ⟨rfl, rfl⟩)
  have z : (2 ^ c - 1) ^^^ (ptN (hpN R σ ch c) c 0).1 = 0 := Nat.xor_self _
  rw [z] at g
  exact ⟨_, g⟩
-- ===== which blocks are asked for =====
theorem s_hasAllOf {Q : Int32 → MM → Prop} {M : MM} {x : Int32} {N : Nat} (hN : N ≤ 12) (e : M 1 8 = nI N) (h1 : ∀ j, j < 2 ^ N → x = nI j → Q 1 M) (h0 : (¬ ∃ j, j < 2 ^ N ∧ x = nI j) → Q 0 M) : wX2_hasAllOf Q M 1 x := by
  have h4 : 2 ^ N ≤ 2 ^ 12 := Nat.pow_le_pow_right (by omega) hN
  have sh : ∀ n, n < 13 → (((nI n).toUInt32 &&& Int32.toUInt32 31).toBitVec % 32).toNat = n := by decide +kernel
  unfold wX2_hasAllOf
  rw [e]
  have hu := pk_ushr x (nI N) N (sh N (by omega))
  have hz : (x.toUInt32 >>> ((nI N).toUInt32 &&& Int32.toUInt32 31)).toInt32 = 0 ↔ x.toBitVec.toNat < 2 ^ N := by
    constructor
    · intro q
      rw [q] at hu
      have : (0 : Int32).toBitVec.toNat = 0 := rfl
      rw [this] at hu
      have hp : 0 < 2 ^ N := Nat.pow_pos (by omega)
      exact (Nat.div_eq_zero_iff_lt hp).mp hu.symm
    · intro q
      apply Int32.toBitVec_inj.mp
      apply BitVec.eq_of_toNat_eq
      rw [hu, Nat.div_eq_of_lt q]; rfl
  rw [hz]
  by_cases q : x.toBitVec.toNat < 2 ^ N
  · refine br_nt q (h1 _ q ?_)
    apply Int32.toBitVec_inj.mp
    apply BitVec.eq_of_toNat_eq
    rw [pk_tn (by omega)]
  · refine br_nf q (h0 ?_)
    rintro ⟨j, hj, rfl⟩
    exact q (by rw [pk_tn (by omega)]; exact hj)
theorem m_areBlocks {Q : Int32 → MM → Prop} {M : MM} {x : Int32} {N : Nat} (hN : N ≤ 12) (e : M 53 0 = nI N) (h1 : ∀ j, j < 2 ^ N → x = nI j → Q 1 M) (h0 : (¬ ∃ j, j < 2 ^ N ∧ x = nI j) → Q 0 M) : wX5_areBlocks Q M x := by
  have h4 : 2 ^ N ≤ 2 ^ 12 := Nat.pow_le_pow_right (by omega) hN
  have hp : 0 < 2 ^ N := Nat.pow_pos (by omega)
  have sh : ∀ n, n < 13 → (1 : Int32) <<< (nI n &&& 31) = nI (2 ^ n) := by decide +kernel
  unfold wX5_areBlocks
  rw [e, sh N (by omega), nI_sub1 (by omega)]
  refine m_in32 0 _ rfl rfl ⟨nb_bI _, ?_⟩
  by_cases q : (0 : Int32) ≤ x ∧ x ≤ nI (2 ^ N - 1)
  · rw [bI_t q]
    obtain ⟨j, hj, rfl⟩ := pl_of (by omega) q
    exact h1 j (by omega) rfl
  · rw [bI_f q]
    refine h0 ?_
    rintro ⟨j, hj, rfl⟩
    exact q (pl_in (by omega) (by omega))
/-- only what is laid aside was written, and that of the orders -/
theorem Rel.sc2 {M M' : MM} (h : Rel M) (hk : ∀ a, (a < 39 ∨ (44 ≤ a ∧ a < 60) ∨ 64 ≤ a) → a ≠ 52 → M' a = M a) (h52 : ∀ j, j ≠ 20 → M' 52 j = M 52 j) : Rel M' := by
  obtain ⟨R, σ, hR, hS, hc, hm, hr, him, hsh, htx⟩ := h
  exact Rel.step (σ' := σ) hR hS (hc.keep (fun i hi => hk _ (by omega) (by omega))) (hm.keep (hk _ (by omega) (by omega))) hr him hsh htx (fun k h => hk _ (by unfold keepP at h; omega) (by unfold keepP at h; omega)) (fun j _ => by rw [hk 53 (by omega) (by omega)]) ⟨h52 9 (by decide), h52 14 (by decide), h52 25 (by decide)⟩
-- ===== two distances that are alike where it counts =====
theorem fq_cg {H H' : Nat → Nat → Nat} {c : Nat} (hc : c ≤ 8) (hH : ∀ f t, f ≤ c → t < c → H f t = H' f t) : ∀ n L f, L < n → L < 2 ^ c → f ≤ c → fqN H c L f = fqN H' c L f := by
  have h8 := (p2c c (by omega)).1
  intro n
  induction n with
  | zero => intro L f h; omega
  | succ n ih =>
    intro L f h hL hf
    by_cases e : L = 0
    · subst e; rfl
    · rw [fqN_eq hc hL e, fqN_eq hc hL e]
      refine mn_cg c (fun j hj q => ?_)
      have h1 := (ms_lt L (by omega) j (by omega) q).1
      try dsimp only
      rw [hH f j hf hj, ih (L ^^^ 2 ^ j) j (by omega) (by omega) (by omega)]
theorem fi_cg {g g' : Nat → Nat} : ∀ k, (∀ y, y < k → g y = g' y) → fiO g k = fiO g' k := by
  intro k
  induction k with
  | zero => intro _; rfl
  | succ k ih =>
    intro h
    rw [fiO, fiO, ih (fun y hy => h y (by omega)), h k (by omega)]
theorem ft_cg {H H' : Nat → Nat → Nat} {c L f : Nat} (hc : c ≤ 8) (hH : ∀ f t, f ≤ c → t < c → H f t = H' f t) (hL : L < 2 ^ c) (hf : f ≤ c) : ftN H c L f = ftN H' c L f := by
  have h8 := (p2c c (by omega)).1
  unfold ftN
  rw [fi_cg c (fun y hy => ?_)]
  unfold gdF
  by_cases q : L / 2 ^ y % 2 = 1
  · have h1 := (ms_lt L (by omega) y (by omega) q).1
    rw [hH f y hf hy, fq_cg hc hH (L + 1) L f (by omega) hL hf, fq_cg hc hH (L + 1) (L ^^^ 2 ^ y) y (by omega) (by omega) (by omega)]
  · rw [if_neg (fun z => q z.1), if_neg (fun z => q z.1)]
theorem pt_cg {H H' : Nat → Nat → Nat} {c : Nat} (hc : c ≤ 8) (ok : okH H c) (hH : ∀ f t, f ≤ c → t < c → H f t = H' f t) : ∀ i, i ≤ c → ptN H c i = ptN H' c i := by
  intro i
  induction i with
  | zero => intro _; rfl
  | succ i ih =>
    intro hi
    obtain ⟨p1, p2, p3⟩ := pt_ok (H := H) hc ok i (by omega)
    rw [ptN, ptN, ← ih (by omega), ft_cg hc hH p1 p2]
theorem pt_lt {H : Nat → Nat → Nat} {c i : Nat} (hc : c ≤ 8) (ok : okH H c) (hi : i < c) : (ptN H c (i + 1)).2 < c := by
  obtain ⟨p1, p2, p3⟩ := pt_ok (H := H) hc ok i (by omega)
  exact (ft_ok (H := H) hc ok p1 (pt_ne hc ok hi) p2).2.1
/-- what both choose is alike -/
theorem hp_cg {R : Nat → Nat} {σ : SS} {s : Nat} (hs : s < 2 ^ sN σ) (h12 : sN σ ≤ 12) : ∀ c, c = poN s (sN σ) → ∀ f t, f ≤ c → t < c → hpN R σ (chN s 12) c f t = hpN R σ (chN s (sN σ)) c f t := by
  have cs := ch_stop hs 12 h12
  intro c hc0 f t hf ht
  unfold hpN
  rw [cs.2 t (by omega)]
  by_cases e : f = c
  · rw [if_pos e, if_pos e]
  · rw [if_neg e, if_neg e, cs.2 f (by omega)]
theorem ch12_lt {σ : SS} {s : Nat} (hs : s < 2 ^ sN σ) (h12 : sN σ ≤ 12) : ∀ k, k < poN s 12 → chN s 12 k < sN σ := by
  intro k hk
  have g := ch_stop hs 12 h12
  rw [g.1] at hk
  rw [g.2 k hk]
  exact ch_lt s (sN σ) k hk
theorem fq_both {R : Nat → Nat} {σ : SS} {s : Nat} (hs : s < 2 ^ sN σ) (h12 : sN σ ≤ 12) (c8 : poN s 12 ≤ 8) : fqN (hpN R σ (chN s 12) (poN s 12)) (poN s 12) (2 ^ poN s 12 - 1) (poN s 12) = fqN (hpN R σ (chN s (sN σ)) (poN s (sN σ))) (poN s (sN σ)) (2 ^ poN s (sN σ) - 1) (poN s (sN σ)) := by
  have cs := ch_stop hs 12 h12
  rw [cs.1] at c8 ⊢
  have hp := p2c (poN s (sN σ)) (by omega)
  exact fq_cg c8 (hp_cg hs h12 _ rfl) _ _ _ (Nat.lt_succ_self _) (by omega) (Nat.le_refl _)
theorem pt_both {R : Nat → Nat} (hR : okR R) {σ : SS} (hS : okS R σ) {s i : Nat} (hs : s < 2 ^ sN σ) (c8 : poN s 12 ≤ 8) (hi : i < poN s 12) : chN s 12 (ptN (hpN R σ (chN s 12) (poN s 12)) (poN s 12) (i + 1)).2 = chN s (sN σ) (ptN (hpN R σ (chN s (sN σ)) (poN s (sN σ))) (poN s (sN σ)) (i + 1)).2 := by
  have h12 := hS.2.1
  have cs := ch_stop hs 12 h12
  have ok := hp_ok hR hS (ch12_lt hs h12)
  rw [cs.1] at c8 hi ok ⊢
  have hl := pt_lt c8 ok hi
  rw [← pt_cg c8 ok (hp_cg hs h12 _ rfl) (i + 1) hi]
  exact cs.2 _ hl
theorem L_order {M : MM} (h : Rel M) (x w : Int32) : wX4_order (fun r M1 => wX5_order (PQ r) M1 x w) M x w := by
  obtain ⟨R, σ, hR, hS, hc, hm, hr, him, hsh, htx⟩ := id h
  have h12 := hS.2.1
  unfold wX4_order
  refine s_hasAllOf h12 hc.2.1 (fun s hs hx => o_n1 ?_) (fun hx => o_n0 ?_)
  · subst hx
    have hj : ∃ j, j < 2 ^ sN σ ∧ nI s = nI j := ⟨s, hs, rfl⟩
    have h4 : 2 ^ sN σ ≤ 2 ^ 12 := Nat.pow_le_pow_right (by omega) h12
    have cs := ch_stop hs 12 h12
    have hpo := poN_le s 12
    -- the reference, up to its order
    have mst : ∀ (r : Int32) (M1 : MM), M1 53 = M 53 → M1 55 = M 55 → (w ≠ 0 → ¬ ((10 : Int32) ≤ w ∧ w ≤ 17) → PQ r (-1) M1) → (w = 0 ∨ ((10 : Int32) ≤ w ∧ w ≤ 17) → ¬ poN s 12 ≤ 8 → PQ r (-2) M1) → (w = 0 ∨ ((10 : Int32) ≤ w ∧ w ≤ 17) → poN s 12 ≤ 8 → ∀ M', (∀ a, a ≠ 52 → a ≠ 62 → a ≠ 63 → M' a = M1 a) → (∀ j, j ≠ 20 → M' 52 j = M1 52 j) → thP M' (chN s (sN σ)) (poN s (sN σ)) → reP M' (hpN R σ (chN s (sN σ)) (poN s (sN σ))) (poN s (sN σ)) 0 → (¬ w = 0 → ((M' 52 20) ≤ (w - (10 : Int32)) → PQ r (-1) M') ∧ (¬ (M' 52 20) ≤ (w - (10 : Int32)) → wX5_nthOf (fun r8 M9 => PQ r r8 M9) M' (w - (10 : Int32)))) ∧ (w = 0 → PQ r (M' 62 8) M')) → wX5_order (PQ r) M1 (nI s) w := by
      intro r M1 e53 e55 q1 q2 q3
      have hm1 : mdT M1 0 σ := hm.keep e53
      have hr1 : rlT M1 R := hr.keep e55
      have t28 : (w = 0 ∨ ((10 : Int32) ≤ w ∧ w ≤ 17)) → wX5_order_28 (PQ r) (nI s) w M1 := by
        intro hw
        unfold wX5_order_28
        refine m_countOf (by omega) ?_
        rw [show (8 : Int32) = nI 8 from rfl, nI_leI (by omega) (by omega)]
        by_cases c8 : poN s 12 ≤ 8
        · exact br_t c8 (m_layRest hR hS hr1 hm1 hs (by rw [← cs.1]; exact c8) (q3 hw c8))
        · exact br_f c8 (q2 hw c8)
      unfold wX5_order
      refine m_areBlocks h12 hm1.2.1 (fun j j1 j2 => o_t1 ?_) (fun q => absurd hj q)
      by_cases hw0 : w = 0
      · exact br_t hw0 (t28 (Or.inl hw0))
      · refine br_f hw0 (m_in32 10 17 rfl rfl ?_)
        by_cases hw1 : (10 : Int32) ≤ w ∧ w ≤ 17
        · exact zt1 hw1 (t28 (Or.inr hw1))
        · exact zf1 hw1 (q1 hw0 hw1)
    have sc : ∀ (M1 M' : MM), rtP M M1 → (∀ a, a ≠ 52 → a ≠ 62 → a ≠ 63 → M' a = M1 a) → (∀ j, j ≠ 20 → M' 52 j = M1 52 j) → Rel M' := fun M1 M' k1 k2 k3 => h.sc2 (fun a ha h52 => by rw [k2 a h52 (by omega) (by omega), k1 a (by omega)]) (fun j hj => by rw [k3 j hj, k1 52 (by omega)])
    rintro _ rfl
    have ten : ∀ i, i ≤ 7 → (w - (10 : Int32) = nI i ↔ w = nI (i + 10)) := by
      intro i _
      constructor
      · intro q
        have : w = w - 10 + 10 := (Int32.sub_add_cancel _ _).symm
        rw [this, q, show (10 : Int32) = nI 10 from rfl, nI_add]
      · intro q
        rw [q, show (10 : Int32) = nI 10 from rfl, pk_sub (by omega)]; congr 1
    -- the class, from the plan on
    have t54 : ∀ (v4 : Int32), (w = 0 ∧ v4 = 1) ∨ (∃ i, i ≤ 7 ∧ i < poN s 12 ∧ w = nI (i + 10) ∧ v4 = 0) → wX4_order_54 (fun r M1 => wX5_order (PQ r) M1 (nI s) w) (nI s) w M (w - 10) v4 := by
      intro v4 hv
      have hw : w = 0 ∨ ((10 : Int32) ≤ w ∧ w ≤ 17) := by
        rcases hv with ⟨a, -⟩ | ⟨i, i1, i2, i3, -⟩
        · exact Or.inl a
        · refine Or.inr ?_
          rw [i3]
          exact ⟨nI_le (a := 10) (by omega) (by omega), nI_le (b := 17) (by omega) (by omega)⟩
      unfold wX4_order_54
      refine s_bitCount (by omega) ?_
      rw [show (8 : Int32) = nI 8 from rfl, nI_leI (by omega) (by omega)]
      by_cases c8 : poN s 12 ≤ 8
      · refine br_t c8 (s_plan hR hS hc hs c8 (fun M1 hp => ?_))
        obtain ⟨p1, p2, p3, p4⟩ := hp
        rcases hv with ⟨a, rfl⟩ | ⟨i, i1, i2, i3, rfl⟩
        · refine br_f (by decide) ?_
          refine mst _ M1 (p1 53 (by omega)) (p1 55 (by omega)) (fun z => absurd a z) (fun _ z => absurd c8 z) (fun _ _ M' a1 a2 a3 a4 => ⟨fun z => absurd a z, fun _ => ⟨?_, sc M1 M' p1 a1 a2⟩⟩)
          rw [p3, (a4 0 (Nat.zero_le _) (Nat.pow_pos (by omega))).2 rfl, fq_both hs h12 c8]
        · refine br_t rfl ?_
          unfold wX0_stopAt
          rw [(ten i i1).mpr i3]
          refine s_cell (by rw [a40.2.2.2]; omega) (by rw [a40.2.2.2]; decide) ?_
          have hw0 : ¬ w = 0 := by
            intro z
            rw [i3] at z
            have := (nI_eq (b := 0) (by omega) (by omega)).mp z
            omega
          refine mst _ M1 (p1 53 (by omega)) (p1 55 (by omega)) (fun _ z => absurd (hw.resolve_left hw0) z) (fun _ z => absurd c8 z) (fun _ _ M' a1 a2 a3 a4 => ⟨fun _ => ?_, fun z => absurd z hw0⟩)
          have hcq : poN s 12 = poN s (sN σ) := cs.1
          rw [(ten i i1).mpr i3, a3.1, nI_leI (by omega) (by omega)]
          refine br_f (by omega) (m_nthOf hR hS (hr.keep (by rw [a1 55 (by decide) (by decide) (by decide), p1 55 (by omega)])) (hm.keep (by rw [a1 53 (by decide) (by decide) (by decide), p1 53 (by omega)])) (by omega) (ch_lt s (sN σ)) a3 a4 (by omega) ⟨?_, sc M1 M' p1 a1 a2⟩)
          rw [p4 i i2, pt_both hR hS hs c8 i2]
      · refine br_f c8 (mst _ M rfl rfl (fun a b => absurd (hw.resolve_left a) b) (fun _ _ => ⟨rfl, h⟩) (fun _ q => absurd q c8))
    by_cases hw0 : w = 0
    · refine br_nt hw0 ?_
      unfold wX4_order_27
      exact o_n1 (t54 1 (Or.inl ⟨hw0, rfl⟩))
    · refine br_nf hw0 ?_
      unfold wX4_order_27
      refine o_n0 (s_isBetween.mpr ?_)
      by_cases hb : (0 : Int32) ≤ w - 10 ∧ w - 10 ≤ 7
      · refine zt2 hb ?_
        obtain ⟨i, hi, e⟩ := pl_of (L := 7) (by omega) hb
        have hwi : w = nI (i + 10) := (ten i hi).mp e
        have hw1 : (10 : Int32) ≤ w ∧ w ≤ 17 := by
          rw [hwi]
          exact ⟨nI_le (a := 10) (by omega) (by omega), nI_le (b := 17) (by omega) (by omega)⟩
        refine s_bitCount (by omega) ?_
        by_cases q : i < poN s 12
        · have t := t54 0 (Or.inr ⟨i, hi, q, hwi, rfl⟩)
          rw [e] at t ⊢
          rw [nI_ltI (by omega) (by omega)]
          exact br_t q t
        · rw [e, nI_ltI (by omega) (by omega)]
          refine br_f q (mst _ M rfl rfl (fun _ z => absurd hw1 z) (fun _ z => absurd (show poN s 12 ≤ 8 by omega) z) (fun _ c8 M' a1 a2 a3 a4 => ⟨fun _ => ?_, fun z => absurd z hw0⟩))
          have hcq : poN s 12 = poN s (sN σ) := cs.1
          rw [e, a3.1, nI_leI (by omega) (by omega)]
          exact br_t (by omega) ⟨rfl, sc M M' (fun _ _ => rfl) a1 a2⟩
      · refine zf2 hb ?_
        have hw1 : ¬ ((10 : Int32) ≤ w ∧ w ≤ 17) := by
          intro z
          obtain ⟨k, hk, rfl⟩ := pl_of (L := 17) (by omega) ⟨Int32.le_trans (by decide) z.1, z.2⟩
          have h10 : 10 ≤ k := (nI_leI (a := 10) (by omega) (by omega)).mp z.1
          refine hb ?_
          rw [show (10 : Int32) = nI 10 from rfl, pk_sub h10]
          exact ⟨nI_le (a := 0) (by omega) (by omega), nI_le (b := 7) (by omega) (by omega)⟩
        exact mst _ M rfl rfl (fun _ _ => ⟨rfl, h⟩) (fun z => absurd (z.resolve_left hw0) hw1) (fun z => absurd (z.resolve_left hw0) hw1)
  · unfold wX5_order
    exact m_areBlocks h12 hm.2.1 (fun j j1 j2 => absurd ⟨j, j1, j2⟩ hx) (fun _ => o_t0 ⟨rfl, h⟩)
-- ===== the blocks that are read =====
theorem poN_pos {s : Nat} : ∀ b, s % 2 ^ b ≠ 0 → 0 < poN s b := by
  intro b
  induction b with
  | zero => intro h; exact absurd (by rw [Nat.pow_zero, Nat.mod_one]) h
  | succ b ih =>
    intro h
    rw [poN]
    by_cases q : s % 2 ^ b = 0
    · rw [Nat.mod_pow_succ, q] at h
      have h1 : s / 2 ^ b % 2 ≠ 0 := fun z => h (by rw [z, Nat.mul_zero])
      omega
    · have := ih q
      omega
theorem L_reads {M : MM} (h : Rel M) (x : Int32) : wX4_reads (fun r M1 => wX5_reads (PQ r) M1 x) M x := by
  obtain ⟨R, σ, hR, hS, hc, hm, hr, him, hsh, htx⟩ := id h
  have hb : tpB 1 := Or.inl rfl
  have h12 := hS.2.1
  unfold wX4_reads
  refine s_hasAllOf h12 hc.2.1 (fun s hs hx => o_n1 ?_) (fun hx => o_n0 ?_)
  · subst hx
    have hj : ∃ j, j < 2 ^ sN σ ∧ nI s = nI j := ⟨s, hs, rfl⟩
    have h4 : 2 ^ sN σ ≤ 2 ^ 12 := Nat.pow_le_pow_right (by omega) h12
    have cs := ch_stop hs 12 h12
    have hpo := poN_le s 12
    have hcq : poN s 12 = poN s (sN σ) := cs.1
    -- the reference, up to its order
    have mst : ∀ (r : Int32) (M1 : MM), M1 53 = M 53 → M1 55 = M 55 → (¬ poN s 12 ≤ 8 → PQ r (-2) M1) → (poN s 12 ≤ 8 → ∀ M', (∀ a, a ≠ 52 → a ≠ 62 → a ≠ 63 → M' a = M1 a) → (∀ j, j ≠ 20 → M' 52 j = M1 52 j) → thP M' (chN s (sN σ)) (poN s (sN σ)) → reP M' (hpN R σ (chN s (sN σ)) (poN s (sN σ))) (poN s (sN σ)) 0 → (¬ (M' 52 20) = 0 → wX5_nthOf (fun r6 M7 => wX5_endOf (fun r8 M9 => wX5_reads_67 (PQ r) (nI s) M9 (M' 62 8) r8) M7 r6) M' ((M' 52 20) - (1 : Int32))) ∧ ((M' 52 20) = 0 → wX5_reads_67 (PQ r) (nI s) M' (M' 62 8) (M' 53 325))) → wX5_reads (PQ r) M1 (nI s) := by
      intro r M1 e53 e55 q2 q3
      have hm1 : mdT M1 0 σ := hm.keep e53
      have hr1 : rlT M1 R := hr.keep e55
      unfold wX5_reads
      refine m_areBlocks h12 hm1.2.1 (fun j j1 j2 => o_n1 ?_) (fun q => absurd hj q)
      refine m_countOf (by omega) ?_
      rw [show (8 : Int32) = nI 8 from rfl, nI_leI (by omega) (by omega)]
      by_cases c8 : poN s 12 ≤ 8
      · exact br_t c8 (m_layRest hR hS hr1 hm1 hs (by rw [← cs.1]; exact c8) (q3 c8))
      · exact br_f c8 (q2 c8)
    refine s_bitCount (by omega) ?_
    rw [show (8 : Int32) = nI 8 from rfl, nI_leI (by omega) (by omega)]
    by_cases c8 : poN s 12 ≤ 8
    · refine br_t c8 ?_
      by_cases s0 : s = 0
      · have p0 : poN s (sN σ) = 0 := by
          rw [← hcq, s0]; decide
        refine br_nt (by rw [s0]; rfl) (mst _ M rfl rfl (fun z => absurd c8 z) (fun _ M' a1 a2 a3 a4 => br_nt ?_ ?_))
        · rw [a3.1, p0]; rfl
        · have e62 : M' 62 8 = 0 := by
            rw [(a4 0 (Nat.zero_le _) (Nat.pow_pos (by omega))).2 rfl, p0]; rfl
          unfold wX5_reads_67
          rw [e62]
          rintro _ rfl _ rfl
          refine ⟨rfl, ?_⟩
          have hz : ∀ z : Int32, z + 0 = z := fun z => Int32.add_zero z
          rw [hz, mset_id, mset_id]
          exact h.sc2 (fun a ha h52 => a1 a h52 (by omega) (by omega)) a2
      · refine br_nf (fun z => s0 ((nI_eq (b := 0) (by omega) (by omega)).mp z)) (s_plan hR hS hc hs c8 (fun M1 hp => ?_))
        obtain ⟨p1, p2, p3, p4⟩ := hp
        have hcp : 0 < poN s 12 := poN_pos 12 (by rw [Nat.mod_eq_of_lt (by omega)]; exact s0)
        obtain ⟨k, hk⟩ : ∃ k, poN s 12 = k + 1 := ⟨poN s 12 - 1, by omega⟩
        have hkc : k < poN s 12 := by omega
        have c1 : clT M1 1 R σ := hc.keep (fun i hi => p1 _ (by omega))
        have ok := hp_ok hR hS (ch12_lt hs h12)
        have hbl := ch12_lt hs h12 _ (pt_lt c8 ok hkc)
        rintro _ rfl
        unfold wX0_stopAt
        rw [mset_n (show 39 ≠ 1 by decide), p2, nI_sub1 (by omega)]
        refine s_cell (by rw [a40.2.2.2]; omega) (by rw [a40.2.2.2]; decide) ?_
        rw [mset_n (show 43 ≠ 1 by decide), show poN s 12 - 1 = k by omega, p4 k hkc]
        have hxs := (hS.2.2.2.1 _ hbl).2
        have c6 : clT (mset M1 1 10 (M1 1 10 + M1 39 5)) 1 R (uH σ (sH σ) (M1 1 10 + M1 39 5)) := by
          refine c1.obj (fun i h1 h2 => mset_n (by omega)) rfl rfl rfl rfl rfl (mset_sn (by decide)) (mset_sn (by decide)) (mset_sn (by decide)) ?_ mset_ss ?_
          · rw [mset_sn (by decide)]; exact c1.2.2.1
          · rw [mset_sn (by decide)]; exact c1.2.2.2.2.2.2.2.2.2.2.2.2
        have e10 : M1 1 10 = sK σ := c1.2.2.2.2.2.2.2.2.2.2.2.1
        refine s_endOf hb hR (hS.uH hS.2.2.1 _) c6 hbl ?_
        rintro _ rfl
        have e39 : mset (mset M1 1 10 (M1 1 10 + M1 39 5)) 1 9 (nI (sB (uH σ (sH σ) (M1 1 10 + M1 39 5)) (chN s 12 (ptN (hpN R σ (chN s 12) (poN s 12)) (poN s 12) (k + 1)).2) + lgN R (sZ (uH σ (sH σ) (M1 1 10 + M1 39 5)) (chN s 12 (ptN (hpN R σ (chN s 12) (poN s 12)) (poN s 12) (k + 1)).2)))) 39 5 = nI (fqN (hpN R σ (chN s 12) (poN s 12)) (poN s 12) (2 ^ poN s 12 - 1) (poN s 12)) := by
          rw [mset_n (by decide), mset_n (by decide)]; exact p3
        rw [e39]
        have f53 : ∀ v w : Int32, mset (mset M1 1 10 v) 1 9 w 53 = M 53 := fun v w => by rw [mset_n (by decide), mset_n (by decide), p1 53 (by omega)]
        have f55 : ∀ v w : Int32, mset (mset M1 1 10 v) 1 9 w 55 = M 55 := fun v w => by rw [mset_n (by decide), mset_n (by decide), p1 55 (by omega)]
        refine mst _ _ (f53 _ _) (f55 _ _) (fun z => absurd c8 z) (fun _ M' a1 a2 a3 a4 => br_nf ?_ ?_)
        · rw [a3.1]
          intro z
          have := (nI_eq (b := 0) (by omega) (by omega)).mp z
          omega
        · rw [a3.1, nI_sub1 (by omega), show poN s (sN σ) - 1 = k by omega]
          have hm' : mdT M' 0 σ := hm.keep (by rw [a1 53 (by decide) (by decide) (by decide), f53])
          have hr' : rlT M' R := hr.keep (by rw [a1 55 (by decide) (by decide) (by decide), f55])
          have pb := pt_both hR hS hs c8 hkc
          refine m_nthOf hR hS hr' hm' (by omega) (ch_lt s (sN σ)) a3 a4 (by omega) ?_
          rw [← pb]
          refine m_endOf hR hS hr' hm' hbl ?_
          have e62 : M' 62 8 = nI (fqN (hpN R σ (chN s 12) (poN s 12)) (poN s 12) (2 ^ poN s 12 - 1) (poN s 12)) := by
            rw [(a4 0 (Nat.zero_le _) (Nat.pow_pos (by omega))).2 rfl, fq_both hs h12 c8]
          unfold wX5_reads_67
          rw [e62]
          rintro _ rfl _ rfl
          refine ⟨rfl, ?_⟩
          refine Rel.step (M := M) (σ' := uH σ (sB σ (chN s 12 (ptN (hpN R σ (chN s 12) (poN s 12)) (poN s 12) (k + 1)).2) + lgN R (sZ σ (chN s 12 (ptN (hpN R σ (chN s 12) (poN s 12)) (poN s 12) (k + 1)).2))) (sK σ + nI (fqN (hpN R σ (chN s 12) (poN s 12)) (poN s 12) (2 ^ poN s 12 - 1) (poN s 12)))) hR (hS.uH hxs _) ?_ ?_ hr him hsh htx ?_ ?_ ?_
          · have g1 : ∀ i, i < 9 → mset (mset M' 53 326 (M' 53 326 + nI (fqN (hpN R σ (chN s 12) (poN s 12)) (poN s 12) (2 ^ poN s 12 - 1) (poN s 12)))) 53 325 (nI (sB σ (chN s 12 (ptN (hpN R σ (chN s 12) (poN s 12)) (poN s 12) (k + 1)).2) + lgN R (sZ σ (chN s 12 (ptN (hpN R σ (chN s 12) (poN s 12)) (poN s 12) (k + 1)).2)))) (1 + i) = M' (1 + i) := fun i hi => by rw [mset_n (by omega), mset_n (by omega)]
            refine clT.keep (M := M') ?_ g1
            refine c1.obj (fun i h1 h2 => by rw [a1 _ (by omega) (by omega) (by omega), mset_n (by omega), mset_n (by omega)]) rfl rfl rfl rfl rfl ?_ ?_ ?_ ?_ ?_ ?_
            · rw [a1 1 (by decide) (by decide) (by decide), mset_sn (by decide), mset_sn (by decide)]
            · rw [a1 1 (by decide) (by decide) (by decide), mset_sn (by decide), mset_sn (by decide)]
            · rw [a1 1 (by decide) (by decide) (by decide), mset_sn (by decide), mset_sn (by decide)]
            · rw [a1 1 (by decide) (by decide) (by decide), mset_ss]; rfl
            · rw [a1 1 (by decide) (by decide) (by decide), mset_sn (by decide), mset_ss, e10, p3]; rfl
            · rw [a1 1 (by decide) (by decide) (by decide), mset_sn (by decide), mset_sn (by decide)]; exact c1.2.2.2.2.2.2.2.2.2.2.2.2
          · refine hm'.obj hS.n3 hS.z12 (fun i h1 h2 h3 => by rw [mset_sn h1, mset_sn h2]) rfl rfl rfl rfl rfl ?_ ?_ ?_
            · rw [mset_ss]; rfl
            · rw [mset_sn (by decide), mset_ss, show M' 53 326 = sK σ from hm'.2.2.2.2.2.2.2.2.2.2.2.1]; rfl
            · rw [mset_sn (by decide), mset_sn (by decide)]; exact hm'.2.2.2.2.2.2.2.2.2.2.2.2
          · intro a ha
            unfold keepP at ha
            rw [mset_n (by omega), mset_n (by omega), a1 a (by omega) (by omega) (by omega), mset_n (by omega), mset_n (by omega), p1 a (by omega)]
          · intro q hq
            rw [mset_sn (by omega), mset_sn (by omega), a1 53 (by decide) (by decide) (by decide), f53]
          · rw [mset_n (by decide), mset_n (by decide)]
            have g52 : ∀ j, j ≠ 20 → M' 52 j = M 52 j := fun j hj => by rw [a2 j hj, mset_n (by decide), mset_n (by decide), p1 52 (by omega)]
            exact ⟨g52 9 (by decide), g52 14 (by decide), g52 25 (by decide)⟩
    · exact br_f c8 (mst _ M rfl rfl (fun _ => ⟨rfl, h⟩) (fun q => absurd q c8))
  · unfold wX5_reads
    exact m_areBlocks h12 hm.2.1 (fun j j1 j2 => absurd ⟨j, j1, j2⟩ hx) (fun _ => o_n0 ⟨rfl, h⟩)
-- ===== letters and tokens, as numbers =====
def isB (x : Nat) : Bool := Nat.beq x 32
def isA (x : Nat) : Bool := Nat.ble 97 x && Nat.ble x 122
def isF (x : Nat) : Bool := Nat.ble 48 x && Nat.ble x 57
theorem isB_t {x : Nat} : isB x = true ↔ x = 32 := by
  unfold isB; rw [Nat.beq_eq]
theorem isA_t {x : Nat} : isA x = true ↔ 97 ≤ x ∧ x ≤ 122 := by
  unfold isA; rw [Bool.and_eq_true, Nat.ble_eq, Nat.ble_eq]
theorem isF_t {x : Nat} : isF x = true ↔ 48 ≤ x ∧ x ≤ 57 := by
  unfold isF; rw [Bool.and_eq_true, Nat.ble_eq, Nat.ble_eq]
def rnF (P : Nat → Bool) (c : Nat → Nat) (n : Nat) : Nat → Nat → Nat
  | 0, p => p
  | k + 1, p => if p < n ∧ P (c p) = true then rnF P c n k (p + 1) else p
/-- behind a run of letters of a kind -/
def rnN (P : Nat → Bool) (c : Nat → Nat) (n p : Nat) : Nat := rnF P c n (n - p) p
theorem rn_go {P : Nat → Bool} {c : Nat → Nat} {n p : Nat} (h : p < n) (q : P (c p) = true) : rnN P c n p = rnN P c n (p + 1) := by
  unfold rnN
  rw [show n - p = (n - (p + 1)) + 1 by omega, rnF, if_pos ⟨h, q⟩]
theorem rn_st {P : Nat → Bool} {c : Nat → Nat} {n p : Nat} (h : ¬ (p < n ∧ P (c p) = true)) : rnN P c n p = p := by
  unfold rnN
  cases n - p with
  | zero => rfl
  | succ k => rw [rnF, if_neg h]
theorem rn_ge {P : Nat → Bool} {c : Nat → Nat} {n : Nat} : ∀ k p, p ≤ rnF P c n k p ∧ (p ≤ n → rnF P c n k p ≤ n) := by
  intro k
  induction k with
  | zero => intro p; exact ⟨Nat.le_refl _, fun h => h⟩
  | succ k ih =>
    intro p
    rw [rnF]
    by_cases h : p < n ∧ P (c p) = true
    · rw [if_pos h]
      have := ih (p + 1)
      exact ⟨by omega, fun _ => this.2 (by omega)⟩
    · rw [if_neg h]; exact ⟨Nat.le_refl _, fun h => h⟩
theorem rn_b {P : Nat → Bool} {c : Nat → Nat} {n p : Nat} (h : p ≤ n) : p ≤ rnN P c n p ∧ rnN P c n p ≤ n := ⟨(rn_ge _ _).1, (rn_ge _ _).2 h⟩
theorem rn_in {P : Nat → Bool} {c : Nat → Nat} {n : Nat} : ∀ k p j, p ≤ j → j < rnF P c n k p → P (c j) = true := by
  intro k
  induction k with
  | zero =>
    intro p j h1 h2
    have : rnF P c n 0 p = p := rfl
    omega
  | succ k ih =>
    intro p j h1 h2
    rw [rnF] at h2
    by_cases h : p < n ∧ P (c p) = true
    · rw [if_pos h] at h2
      by_cases e : j = p
      · subst e; exact h.2
      · exact ih (p + 1) j (by omega) h2
    · rw [if_neg h] at h2; omega
theorem rn_end {P : Nat → Bool} {c : Nat → Nat} {n : Nat} : ∀ k p, n ≤ p + k → ¬ (rnF P c n k p < n ∧ P (c (rnF P c n k p)) = true) := by
  intro k
  induction k with
  | zero =>
    intro p h q
    have : rnF P c n 0 p = p := rfl
    omega
  | succ k ih =>
    intro p h
    rw [rnF]
    by_cases e : p < n ∧ P (c p) = true
    · rw [if_pos e]; exact ih (p + 1) (by omega)
    · rw [if_neg e]; exact e
def tS (c : Nat → Nat) (n p : Nat) : Nat := rnN isB c n p
def tE (c : Nat → Nat) (n p : Nat) : Nat := if tS c n p < n then (if isA (c (tS c n p)) = true then rnN isA c n (tS c n p) else if isF (c (tS c n p)) = true then rnN isF c n (tS c n p) else tS c n p + 1) else tS c n p
def tK (c : Nat → Nat) (n p : Nat) : Nat := if tS c n p < n then (if isA (c (tS c n p)) = true then 1 else if isF (c (tS c n p)) = true then (if rnN isF c n (tS c n p) - tS c n p ≤ 4 then 2 else 4) else if c (tS c n p) = 59 then 3 else 4) else 0
def vF (c : Nat → Nat) (s : Nat) : Nat → Nat
  | 0 => 0
  | k + 1 => 10 * vF c s k + (c (s + k) - 48)
def tV (c : Nat → Nat) (n p : Nat) : Nat := vF c (tS c n p) (min (tE c n p - tS c n p) 4)
theorem tS_b {c : Nat → Nat} {n p : Nat} (h : p ≤ n) : p ≤ tS c n p ∧ tS c n p ≤ n := rn_b h
theorem tE_b {c : Nat → Nat} {n p : Nat} (h : p ≤ n) : tS c n p ≤ tE c n p ∧ tE c n p ≤ n := by
  have hs := tS_b (c := c) h
  unfold tE
  by_cases h1 : tS c n p < n
  · rw [if_pos h1]
    by_cases h2 : isA (c (tS c n p)) = true
    · rw [if_pos h2]; exact rn_b hs.2
    · rw [if_neg h2]
      by_cases h3 : isF (c (tS c n p)) = true
      · rw [if_pos h3]; exact rn_b hs.2
      · rw [if_neg h3]; omega
  · rw [if_neg h1]; omega
theorem tE_gt {c : Nat → Nat} {n p : Nat} (h : p ≤ n) (hk : tK c n p ≠ 0) : tS c n p < tE c n p := by
  have hs := tS_b (c := c) h
  by_cases h1 : tS c n p < n
  · unfold tE
    rw [if_pos h1]
    by_cases h2 : isA (c (tS c n p)) = true
    · rw [if_pos h2, rn_go h1 h2]
      have := (rn_b (P := isA) (c := c) (show tS c n p + 1 ≤ n by omega)).1
      omega
    · rw [if_neg h2]
      by_cases h3 : isF (c (tS c n p)) = true
      · rw [if_pos h3, rn_go h1 h3]
        have := (rn_b (P := isF) (c := c) (show tS c n p + 1 ≤ n by omega)).1
        omega
      · rw [if_neg h3]; omega
  · exact absurd (show tK c n p = 0 by unfold tK; rw [if_neg h1]) hk
theorem tK_0 {c : Nat → Nat} {n p : Nat} (h : p ≤ n) (hk : tK c n p = 0) : tS c n p = n ∧ tE c n p = n := by
  have hs := tS_b (c := c) h
  by_cases h1 : tS c n p < n
  · unfold tK at hk
    rw [if_pos h1] at hk
    repeat' split at hk
    all_goals omega
  · have : tS c n p = n := by omega
    refine ⟨this, ?_⟩
    unfold tE
    rw [if_neg h1]; exact this
theorem tK_le (c : Nat → Nat) (n p : Nat) : tK c n p ≤ 4 := by
  unfold tK
  repeat' split
  all_goals omega
theorem vF_lt {c : Nat → Nat} {s : Nat} : ∀ k, (∀ j, j < k → c (s + j) ≤ 57) → vF c s k < 10 ^ k := by
  intro k
  induction k with
  | zero => intro _; exact Nat.one_pos
  | succ k ih =>
    intro h
    have h1 := ih (fun j hj => h j (by omega))
    have h2 := h k (by omega)
    rw [vF, Nat.pow_succ]
    omega
theorem tV_lt (c : Nat → Nat) (n p : Nat) (hk : tK c n p = 2) : tV c n p < 10000 := by
  unfold tK at hk
  by_cases h1 : tS c n p < n
  · rw [if_pos h1] at hk
    by_cases h2 : isA (c (tS c n p)) = true
    · rw [if_pos h2] at hk; omega
    · rw [if_neg h2] at hk
      by_cases h3 : isF (c (tS c n p)) = true
      · rw [if_pos h3] at hk
        have e : tE c n p = rnN isF c n (tS c n p) := by unfold tE; rw [if_pos h1, if_neg h2, if_pos h3]
        unfold tV
        have hm : min (tE c n p - tS c n p) 4 ≤ 4 := by omega
        have hv := vF_lt (c := c) (s := tS c n p) (min (tE c n p - tS c n p) 4) (fun j hj => (isF_t.mp (rn_in (P := isF) (c := c) (n := n) (n - tS c n p) (tS c n p) (tS c n p + j) (by omega) (show _ < rnN isF c n (tS c n p) by omega))).2)
        have := Nat.pow_le_pow_right (n := 10) (by omega) hm
        omega
      · rw [if_neg h3] at hk
        split at hk <;> omega
  · rw [if_neg h1] at hk; omega
-- ===== the class's letters =====
def ltP (M : MM) (c : Nat → Nat) (n : Nat) : Prop := n ≤ 400 ∧ M 37 2 = nI n ∧ (∀ i, i < n → (M 38 i) &&& 255 = nI (c i)) ∧ ∀ i, i < n → c i < 256
theorem ltP.keep {M M1 : MM} {c : Nat → Nat} {n : Nat} (h : ltP M c n) (e1 : M1 37 2 = M 37 2) (e2 : M1 38 = M 38) : ltP M1 c n := by
  unfold ltP; rw [e1, e2]; exact h
theorem a38 : alen 38 = 400 := by decide +kernel
theorem s_letterAt {Q : Int32 → MM → Prop} {M : MM} {c : Nat → Nat} {n i : Nat} (hl : ltP M c n) (hi : i ≤ 410) (h1 : i < n → Q (nI (c i)) M) (h0 : ¬ i < n → Q (-1) M) : wX3_letterAt Q M (nI i) := by
  obtain ⟨l1, l2, l3, l4⟩ := hl
  unfold wX3_letterAt wX3_letterAt_34
  rw [l2, a38, nI_leI (by omega) (by omega), nI_leI (by omega) (by omega)]
  refine br_f (nI_pos (by omega)) ?_
  by_cases h : i < n
  · refine br_f (by omega) (br_f (by omega) ⟨vp_nI (by omega) (by omega), ?_⟩)
    rw [clamp_nI (by omega), l3 i h]
    exact h1 h
  · exact br_t (by omega) (h0 h)
theorem s_small {Q : Int32 → MM → Prop} {M : MM} {x : Nat} (hx : x < 256) (h1 : isA x = true → Q 1 M) (h0 : ¬ isA x = true → Q 0 M) : wX3_isSmallLetter Q M (nI x) := by
  unfold wX3_isSmallLetter wX3_isSmallLetter_16
  rw [isA_t] at h1 h0
  rw [show (97 : Int32) = nI 97 from rfl, show (122 : Int32) = nI 122 from rfl, nI_ltI (by omega) (by omega), nI_ltI (by omega) (by omega)]
  by_cases a : x < 97
  · exact br_t a (h0 (by omega))
  · refine br_f a ?_
    by_cases b : 122 < x
    · exact br_t b (h0 (by omega))
    · exact br_f b (h1 (by omega))
theorem s_figure {Q : Int32 → MM → Prop} {M : MM} {x : Nat} (hx : x < 256) (h1 : isF x = true → Q 1 M) (h0 : ¬ isF x = true → Q 0 M) : wX3_isFigure Q M (nI x) := by
  unfold wX3_isFigure wX3_isFigure_16
  rw [isF_t] at h1 h0
  rw [show (48 : Int32) = nI 48 from rfl, show (57 : Int32) = nI 57 from rfl, nI_ltI (by omega) (by omega), nI_ltI (by omega) (by omega)]
  by_cases a : x < 48
  · exact br_t a (h0 (by omega))
  · refine br_f a ?_
    by_cases b : 57 < x
    · exact br_t b (h0 (by omega))
    · exact br_f b (h1 (by omega))
/-- the token that begins at p, or behind blanks, is read -/
def tokC (c : Nat → Nat) (n p : Nat) (M : MM) : Prop := M 37 3 = nI (tE c n p) ∧ M 37 4 = nI (tK c n p) ∧ M 37 5 = nI (tS c n p) ∧ (tK c n p = 2 → M 37 6 = nI (tV c n p))
def tk0 (c : Nat → Nat) (n p : Nat) (M M1 : MM) : Prop := (∀ a, a ≠ 37 → M1 a = M a) ∧ M1 37 2 = M 37 2 ∧ M1 37 7 = M 37 7 ∧ M1 37 8 = M 37 8 ∧ M1 37 9 = M 37 9 ∧ tokC c n p M1
def tkP (c : Nat → Nat) (n p : Nat) (M M' : MM) : Prop := (∀ a, a ≠ 37 → M' a = M a) ∧ M' 37 2 = M 37 2 ∧ M' 37 7 = M 37 7 ∧ tokC c n p M' ∧ (tK c n p = 4 → M 37 8 = 0 → M' 37 8 = nI 1 ∧ M' 37 9 = nI (tS c n p)) ∧ (¬ (tK c n p = 4 ∧ M 37 8 = 0) → M' 37 8 = M 37 8 ∧ M' 37 9 = M 37 9)
theorem s_155 {Q : MM → Prop} {M M1 : MM} {c : Nat → Nat} {n p : Nat} (h : tk0 c n p M M1) (hq : ∀ M', tkP c n p M M' → Q M') : wX3_readToken_155 Q M1 := by
  obtain ⟨h1, h2, h3, h4, h5, h6⟩ := h
  have hk := tK_le c n p
  unfold wX3_readToken_155
  rw [h6.2.1, show (4 : Int32) = nI 4 from rfl, nI_eq (by omega) (by omega)]
  by_cases k4 : tK c n p = 4
  · refine br_nt k4 ?_
    unfold wX3_refuse
    rw [h4]
    by_cases f : M 37 8 = 0
    · refine br_t f ?_
      rintro _ rfl _ rfl
      refine hq _ ⟨fun a ha => by rw [mset_n ha, mset_n ha]; exact h1 a ha, by rw [mset_sn (by decide), mset_sn (by decide)]; exact h2, by rw [mset_sn (by decide), mset_sn (by decide)]; exact h3, ?_, fun _ _ => ⟨by rw [mset_sn (by decide), mset_ss]; rfl, by rw [mset_ss]; exact h6.2.2.1⟩, fun q => absurd ⟨k4, f⟩ q⟩
      exact ⟨by rw [mset_sn (by decide), mset_sn (by decide)]; exact h6.1, by rw [mset_sn (by decide), mset_sn (by decide)]; exact h6.2.1, by rw [mset_sn (by decide), mset_sn (by decide)]; exact h6.2.2.1, fun q => by omega⟩
    · exact br_f f (hq _ ⟨h1, h2, h3, h6, fun _ q => absurd q f, fun _ => ⟨h4, h5⟩⟩)
  · exact br_nf k4 (hq _ ⟨h1, h2, h3, h6, fun q => absurd q k4, fun _ => ⟨h4, h5⟩⟩)
/-- only the reader's place was moved -/
def k3 (M M' : MM) (i : Nat) : Prop := (∀ a, a ≠ 37 → M' a = M a) ∧ (∀ j, j ≠ 3 → M' 37 j = M 37 j) ∧ M' 37 3 = nI i
theorem k3.up {M M' : MM} {i : Nat} (h : k3 M M' i) : k3 M (mset M' 37 3 (M' 37 3 + 1)) (i + 1) :=
  ⟨fun a ha => by rw [mset_n ha]; exact h.1 a ha, fun j hj => by rw [mset_sn hj]; exact h.2.1 j hj, by rw [mset_ss, h.2.2, nI_1]⟩
theorem k3.lt {M M' : MM} {i n : Nat} {c : Nat → Nat} (h : k3 M M' i) (hl : ltP M c n) : ltP M' c n := hl.keep (h.2.1 2 (by decide)) (h.1 38 (by decide))
theorem s_run78 {Q : MM → Prop} {M : MM} {c : Nat → Nat} {n e : Nat} (hl : ltP M c n) (hq : ∀ M', k3 M M' e → wX3_readToken_155 Q M') : ∀ r i M', i + r = n → rnN isA c n i = e → k3 M M' i → wX3_readToken_78 Q (r + 1) M' := by
  have h400 := hl.1
  intro r
  induction r with
  | zero =>
    intro i M' hi he hk
    have : ¬ i < n := by omega
    rw [rn_st (fun q => this q.1)] at he
    subst he
    refine br_t ?_ (hq M' hk)
    rw [(hk.lt hl).2.1, hk.2.2]; exact nI_le (by omega) (by omega)
  | succ r ih =>
    intro i M' hi he hk
    have hl' := hk.lt hl
    unfold wX3_readToken_78
    rw [hl'.2.1, hk.2.2, nI_leI (by omega) (by omega)]
    refine br_f (by omega) (s_letterAt hl' (by omega) (fun h => s_small (hl.2.2.2 i h) (fun q => o_t1 ?_) (fun q => o_t0 ?_)) (fun h => absurd (by omega) h))
    · rintro _ rfl
      have g := hk.up
      exact ih (i + 1) _ (by omega) (by rw [← rn_go h q]; exact he) g
    · rw [rn_st (fun z => q z.2)] at he
      subst he
      exact hq M' hk
theorem s_runF {Q : MM → Prop} {M : MM} {c : Nat → Nat} {n e : Nat} (hl : ltP M c n) (hq : ∀ M', k3 M M' e → wX3_readNumber_38 Q M') : ∀ r i M', i + r = n → rnN isF c n i = e → k3 M M' i → wX3_readNumber_0 Q (r + 1) M' := by
  have h400 := hl.1
  intro r
  induction r with
  | zero =>
    intro i M' hi he hk
    have : ¬ i < n := by omega
    rw [rn_st (fun q => this q.1)] at he
    subst he
    refine br_t ?_ (hq M' hk)
    rw [(hk.lt hl).2.1, hk.2.2]; exact nI_le (by omega) (by omega)
  | succ r ih =>
    intro i M' hi he hk
    have hl' := hk.lt hl
    unfold wX3_readNumber_0
    rw [hl'.2.1, hk.2.2, nI_leI (by omega) (by omega)]
    refine br_f (by omega) (s_letterAt hl' (by omega) (fun h => s_figure (hl.2.2.2 i h) (fun q => o_t1 ?_) (fun q => o_t0 ?_)) (fun h => absurd (by omega) h))
    · rintro _ rfl
      have g := hk.up
      exact ih (i + 1) _ (by omega) (by rw [← rn_go h q]; exact he) g
    · rw [rn_st (fun z => q z.2)] at he
      subst he
      exact hq M' hk
/-- the value is counted up -/
def k6 (M M' : MM) (v : Nat) : Prop := (∀ a, a ≠ 37 → M' a = M a) ∧ (∀ j, j ≠ 6 → M' 37 j = M 37 j) ∧ M' 37 6 = nI v
theorem s_value {Q : MM → Prop} {M : MM} {c : Nat → Nat} {n s e : Nat} (hl : ltP M c n) (hse : s ≤ e) (he : e ≤ n) (h4 : e - s ≤ 4) (e3 : M 37 3 = nI e) (hf : ∀ j, s ≤ j → j < e → isF (c j) = true) (hq : ∀ M', k6 M M' (vF c s (e - s)) → Q M') : ∀ r k M', s + k + r = e → k6 M M' (vF c s k) → wX3_readNumber_79 Q (r + 1) M' (nI (s + k)) := by
  have h400 := hl.1
  intro r
  induction r with
  | zero =>
    intro k M' hk h
    have : k = e - s := by omega
    subst this
    refine br_t ?_ (hq M' h)
    rw [h.2.1 3 (by decide), e3]; exact nI_le (by omega) (by omega)
  | succ r ih =>
    intro k M' hk h
    have hl' : ltP M' c n := hl.keep (h.2.1 2 (by decide)) (h.1 38 (by decide))
    unfold wX3_readNumber_79
    rw [h.2.1 3 (by decide), e3, nI_leI (by omega) (by omega)]
    refine br_f (by omega) (s_letterAt hl' (by omega) (fun hlt => ?_) (fun z => absurd (by omega) z))
    rintro _ rfl
    have hc := isF_t.mp (hf (s + k) (by omega) (by omega))
    have hv := vF_lt (c := c) (s := s) k (fun j hj => (isF_t.mp (hf (s + j) (by omega) (by omega))).2)
    have := Nat.pow_le_pow_right (n := 10) (by omega) (show k ≤ 4 by omega)
    rw [h.2.2, show (10 : Int32) = nI 10 from rfl, show (48 : Int32) = nI 48 from rfl, pk_mul, nI_add, pk_sub (by omega), nI_1]
    refine ih (k + 1) _ (by omega) ⟨fun a ha => by rw [mset_n ha]; exact h.1 a ha, fun j hj => by rw [mset_sn hj]; exact h.2.1 j hj, ?_⟩
    rw [mset_ss, vF]; congr 1; omega
/-- a token is read -/
theorem s_readToken {Q : MM → Prop} {M : MM} {c : Nat → Nat} {n p : Nat} (hl : ltP M c n) (hp : p ≤ n) (e3 : M 37 3 = nI p) (hq : ∀ M', tkP c n p M M' → Q M') : wX3_readToken Q M := by
  have h400 := hl.1
  have hsb := tS_b (c := c) hp
  have heb := tE_b (c := c) hp
  -- behind the blanks
  have t37 : ∀ M1, k3 M M1 (tS c n p) → wX3_readToken_37 Q M1 := by
    intro M1 hk
    have hl1 := hk.lt hl
    unfold wX3_readToken_37
    rintro _ rfl
    have l2 : ltP (mset M1 37 5 (M1 37 3)) c n := hl1.keep (mset_sn (by decide)) (mset_n (by decide))
    rw [mset_ss, hk.2.2]
    rw [hk.2.2] at l2
    -- what holds from there on
    have base : ∀ (M2 : MM) (k e : Nat), (∀ a, a ≠ 37 → M2 a = M1 a) → (∀ j, j ≠ 3 → j ≠ 4 → j ≠ 5 → j ≠ 6 → M2 37 j = M1 37 j) → M2 37 3 = nI e → M2 37 4 = nI k → M2 37 5 = nI (tS c n p) → tE c n p = e → tK c n p = k → (k = 2 → M2 37 6 = nI (tV c n p)) → wX3_readToken_155 Q M2 := by
      intro M2 k e g1 g2 g3 g4 g5 g6 g7 g8
      refine s_155 (c := c) (n := n) (p := p) (M := M) ⟨fun a ha => by rw [g1 a ha]; exact hk.1 a ha, by rw [g2 2 (by decide) (by decide) (by decide) (by decide)]; exact hk.2.1 2 (by decide), by rw [g2 7 (by decide) (by decide) (by decide) (by decide)]; exact hk.2.1 7 (by decide), by rw [g2 8 (by decide) (by decide) (by decide) (by decide)]; exact hk.2.1 8 (by decide), by rw [g2 9 (by decide) (by decide) (by decide) (by decide)]; exact hk.2.1 9 (by decide), ?_⟩ hq
      exact ⟨by rw [g6]; exact g3, by rw [g7]; exact g4, g5, fun z => g8 (by rw [← g7]; exact z)⟩
    refine s_letterAt l2 (by omega) (fun h1 => ?_) (fun h1 => ?_)
    · have hc := hl.2.2.2 _ h1
      refine br_t (show (0 : Int32) ≤ _ from nI_le (a := 0) (Nat.zero_le _) (by omega)) (s_small hc (fun q => o_t1 ?_) (fun q => o_t0 ?_))
      · -- a name
        rintro _ rfl
        have g : k3 (mset (mset M1 37 5 (nI (tS c n p))) 37 4 1) (mset (mset M1 37 5 (nI (tS c n p))) 37 4 1) (tS c n p) := ⟨fun _ _ => rfl, fun _ _ => rfl, by rw [mset_sn (by decide), mset_sn (by decide)]; exact hk.2.2⟩
        refine ⟨n - tS c n p + 1, s_run78 (c := c) (n := n) (e := tE c n p) (l2.keep (mset_sn (by decide)) (mset_n (by decide))) (fun M3 g3 => ?_) (n - tS c n p) (tS c n p) _ (by omega) ?_ g⟩
        · refine base M3 1 (tE c n p) (fun a ha => by rw [g3.1 a ha, mset_n ha, mset_n ha]) (fun j j3 j4 j5 j6 => by rw [g3.2.1 j j3, mset_sn j4, mset_sn j5]) g3.2.2 ?_ ?_ rfl ?_ (fun z => absurd z (by decide))
          · rw [g3.2.1 4 (by decide), mset_ss]; rfl
          · rw [g3.2.1 5 (by decide), mset_sn (by decide), mset_ss]
          · unfold tK; rw [if_pos h1, if_pos q]
        · unfold tE; rw [if_pos h1, if_pos q]
      · refine s_figure hc (fun q2 => o_t1 ?_) (fun q2 => o_t0 ?_)
        · -- a number
          unfold wX3_readNumber
          have eE : tE c n p = rnN isF c n (tS c n p) := by unfold tE; rw [if_pos h1, if_neg q, if_pos q2]
          have eK : tK c n p = if tE c n p - tS c n p ≤ 4 then 2 else 4 := by rw [eE]; unfold tK; rw [if_pos h1, if_neg q, if_pos q2]
          have g : k3 (mset M1 37 5 (nI (tS c n p))) (mset M1 37 5 (nI (tS c n p))) (tS c n p) := ⟨fun _ _ => rfl, fun _ _ => rfl, by rw [mset_sn (by decide)]; exact hk.2.2⟩
          refine ⟨n - tS c n p + 1, s_runF (c := c) (n := n) (e := tE c n p) l2 (fun M3 g3 => ?_) (n - tS c n p) (tS c n p) _ (by omega) eE.symm g⟩
          have e5 : M3 37 5 = nI (tS c n p) := by rw [g3.2.1 5 (by decide), mset_ss]
          unfold wX3_readNumber_38
          rw [g3.2.2, e5, pk_sub heb.1, show (4 : Int32) = nI 4 from rfl, nI_leI (by omega) (by omega)]
          by_cases k4 : tE c n p - tS c n p ≤ 4
          · rw [if_pos k4] at eK
            refine br_t k4 ?_
            unfold wX3_readNumber_57
            rintro _ rfl _ rfl
            refine br_nf (by rw [mset_sn (by decide), mset_ss]; decide) ?_
            rw [mset_sn (show 5 ≠ 6 by decide), mset_sn (show 5 ≠ 4 by decide), e5]
            have l3 : ltP (mset (mset M3 37 4 2) 37 6 0) c n := (g3.lt l2).keep (by rw [mset_sn (by decide), mset_sn (by decide)]) (by rw [mset_n (by decide), mset_n (by decide)])
            have b6 : k6 (mset (mset M3 37 4 2) 37 6 0) (mset (mset M3 37 4 2) 37 6 0) (vF c (tS c n p) 0) := ⟨fun _ _ => rfl, fun _ _ => rfl, by rw [mset_ss]; rfl⟩
            refine ⟨tE c n p - tS c n p + 1, s_value (c := c) (n := n) (s := tS c n p) (e := tE c n p) l3 heb.1 heb.2 k4 (by rw [mset_sn (by decide), mset_sn (by decide)]; exact g3.2.2) (fun j j1 j2 => rn_in (P := isF) (c := c) (n := n) (n - tS c n p) (tS c n p) j j1 (by show j < rnN isF c n (tS c n p); omega)) (fun M4 g4 => ?_) (tE c n p - tS c n p) 0 _ (by omega) b6⟩
            refine base M4 2 (tE c n p) (fun a ha => by rw [g4.1 a ha, mset_n ha, mset_n ha, g3.1 a ha, mset_n ha]) (fun j j3 j4 j5 j6 => by rw [g4.2.1 j j6, mset_sn j6, mset_sn j4, g3.2.1 j j3, mset_sn j5]) ?_ ?_ ?_ rfl eK (fun _ => ?_)
            · rw [g4.2.1 3 (by decide), mset_sn (by decide), mset_sn (by decide)]; exact g3.2.2
            · rw [g4.2.1 4 (by decide), mset_sn (by decide), mset_ss]; rfl
            · rw [g4.2.1 5 (by decide), mset_sn (by decide), mset_sn (by decide)]; exact e5
            · rw [g4.2.2]; unfold tV; rw [Nat.min_eq_left k4]
          · rw [if_neg k4] at eK
            refine br_f k4 ?_
            unfold wX3_readNumber_57
            rintro _ rfl _ rfl
            refine br_nt (by rw [mset_sn (by decide), mset_ss]; rfl) ?_
            refine base _ 4 (tE c n p) (fun a ha => by rw [mset_n ha, mset_n ha, g3.1 a ha, mset_n ha]) (fun j j3 j4 j5 j6 => by rw [mset_sn j6, mset_sn j4, g3.2.1 j j3, mset_sn j5]) ?_ ?_ ?_ rfl eK (fun z => absurd z (by decide))
            · rw [mset_sn (by decide), mset_sn (by decide)]; exact g3.2.2
            · rw [mset_sn (by decide), mset_ss]
            · rw [mset_sn (by decide), mset_sn (by decide)]; exact e5
        · -- a sign
          have eE : tE c n p = tS c n p + 1 := by unfold tE; rw [if_pos h1, if_neg q, if_neg q2]
          have eK : tK c n p = if c (tS c n p) = 59 then 3 else 4 := by unfold tK; rw [if_pos h1, if_neg q, if_neg q2]
          have sg : ∀ (p0 : Int32) (k : Nat), p0 = nI k → tK c n p = k → k ≠ 2 → wX3_readToken_142 Q (mset M1 37 5 (nI (tS c n p))) p0 := by
            intro p0 k e0 ek k2
            unfold wX3_readToken_142
            rintro _ rfl _ rfl
            refine base _ k (tS c n p + 1) (fun a ha => by rw [mset_n ha, mset_n ha, mset_n ha]) (fun j j3 j4 j5 j6 => by rw [mset_sn j3, mset_sn j4, mset_sn j5]) ?_ ?_ ?_ eE ek (fun z => absurd z k2)
            · rw [mset_ss, mset_sn (by decide), mset_sn (by decide), hk.2.2, nI_1]
            · rw [mset_sn (by decide), mset_ss, e0]
            · rw [mset_sn (by decide), mset_sn (by decide), mset_ss]
          rw [show (59 : Int32) = nI 59 from rfl, nI_eq (by omega) (by omega)]
          by_cases c59 : c (tS c n p) = 59
          · rw [if_pos c59] at eK
            exact br_nt c59 (sg 3 3 rfl eK (by decide))
          · rw [if_neg c59] at eK
            exact br_nf c59 (sg 4 4 rfl eK (by decide))
    · -- the end
      refine br_f (by decide) ?_
      rintro _ rfl
      refine base _ 0 (tS c n p) (fun a ha => by rw [mset_n ha, mset_n ha]) (fun j j3 j4 j5 j6 => by rw [mset_sn j4, mset_sn j5]) ?_ ?_ ?_ ?_ ?_ (fun z => absurd z (by decide))
      · rw [mset_sn (by decide), mset_sn (by decide)]; exact hk.2.2
      · rw [mset_ss]; rfl
      · rw [mset_sn (by decide), mset_ss]
      · unfold tE; rw [if_neg h1]
      · unfold tK; rw [if_neg h1]
  -- the blanks
  have t0 : ∀ r i M', i + r = n → rnN isB c n i = tS c n p → k3 M M' i → wX3_readToken_0 Q (r + 1) M' := by
    intro r
    induction r with
    | zero =>
      intro i M' hi he hk
      have : ¬ i < n := by omega
      rw [rn_st (fun q => this q.1)] at he
      subst he
      refine br_t ?_ (t37 M' hk)
      rw [(hk.lt hl).2.1, hk.2.2]; exact nI_le (by omega) (by omega)
    | succ r ih =>
      intro i M' hi he hk
      have hl' := hk.lt hl
      unfold wX3_readToken_0
      rw [hl'.2.1, hk.2.2, nI_leI (by omega) (by omega)]
      refine br_f (by omega) (s_letterAt hl' (by omega) (fun h => ?_) (fun h => absurd (by omega) h))
      have hc := hl.2.2.2 i h
      rw [show (32 : Int32) = nI 32 from rfl, nI_eq (by omega) (by omega)]
      by_cases q : c i = 32
      · refine br_nt q ?_
        rintro _ rfl
        have g := hk.up
        exact ih (i + 1) _ (by omega) (by rw [← rn_go h (isB_t.mpr q)]; exact he) g
      · refine br_nf q ?_
        rw [rn_st (fun z => q (isB_t.mp z.2))] at he
        rw [he] at hk
        exact t37 M' hk
  exact ⟨n - p + 1, t0 (n - p) p M (by omega) rfl ⟨fun _ _ => rfl, fun _ _ => rfl, e3⟩⟩
-- ===== the reference's letters and tokens =====
def ltM (M : MM) (c : Nat → Nat) (n : Nat) : Prop := n ≤ 400 ∧ M 52 9 = nI n ∧ (∀ i, i < n → M 59 i = nI (c i)) ∧ ∀ i, i < n → c i < 256
theorem ltM.keep {M M1 : MM} {c : Nat → Nat} {n : Nat} (h : ltM M c n) (e1 : M1 52 9 = M 52 9) (e2 : M1 59 = M 59) : ltM M1 c n := by
  unfold ltM; rw [e1, e2]; exact h
theorem a59 : alen 59 = 400 := by decide +kernel
theorem m_look {Q : Int32 → MM → Prop} {M : MM} {c : Nat → Nat} {n i : Nat} (hl : ltM M c n) (hi : i ≤ 410) (h1 : i < n → Q (nI (c i)) M) (h0 : ¬ i < n → Q (-1) M) : wX5_look Q M (nI i) := by
  obtain ⟨l1, l2, l3, l4⟩ := hl
  unfold wX5_look
  rw [l2, a59, nI_leI (by omega) (by omega)]
  by_cases h : i < n
  · refine br_f (by omega) ⟨vp_nI (by omega) (by omega), ?_⟩
    rw [clamp_nI (by omega), l3 i h]
    exact h1 h
  · exact br_t (by omega) (h0 h)
theorem m_A {Q : Int32 → MM → Prop} {M : MM} {x : Nat} (hx : x < 256) (h1 : isA x = true → Q 1 M) (h0 : ¬ isA x = true → Q 0 M) : wX5_in Q M (nI x).toInt64 97 122 := by
  rw [isA_t] at h1 h0
  refine m_in32 97 122 rfl rfl ?_
  have e : ((97 : Int32) ≤ nI x ∧ nI x ≤ 122) ↔ (97 ≤ x ∧ x ≤ 122) := by
    rw [show (97 : Int32) = nI 97 from rfl, show (122 : Int32) = nI 122 from rfl, nI_leI (by omega) (by omega), nI_leI (by omega) (by omega)]
  by_cases q : 97 ≤ x ∧ x ≤ 122
  · rw [bI_t (e.mpr q)]; exact h1 q
  · rw [bI_f (fun z => q (e.mp z))]; exact h0 q
theorem m_F {Q : Int32 → MM → Prop} {M : MM} {x : Nat} (hx : x < 256) (h1 : isF x = true → Q 1 M) (h0 : ¬ isF x = true → Q 0 M) : wX5_in Q M (nI x).toInt64 48 57 := by
  rw [isF_t] at h1 h0
  refine m_in32 48 57 rfl rfl ?_
  have e : ((48 : Int32) ≤ nI x ∧ nI x ≤ 57) ↔ (48 ≤ x ∧ x ≤ 57) := by
    rw [show (48 : Int32) = nI 48 from rfl, show (57 : Int32) = nI 57 from rfl, nI_leI (by omega) (by omega), nI_leI (by omega) (by omega)]
  by_cases q : 48 ≤ x ∧ x ≤ 57
  · rw [bI_t (e.mpr q)]; exact h1 q
  · rw [bI_f (fun z => q (e.mp z))]; exact h0 q
theorem m_A1 {Q : Int32 → MM → Prop} {M : MM} (h0 : Q 0 M) : wX5_in Q M ((-1 : Int32)).toInt64 97 122 := by
  refine m_in32 97 122 rfl rfl ?_
  rw [bI_f (by decide)]; exact h0
theorem m_F1 {Q : Int32 → MM → Prop} {M : MM} (h0 : Q 0 M) : wX5_in Q M ((-1 : Int32)).toInt64 48 57 := by
  refine m_in32 48 57 rfl rfl ?_
  rw [bI_f (by decide)]; exact h0
theorem m_needs1 {Q : MM → Prop} {M : MM} {v : Int32} (hq : Q M) : wX5_needs Q M 1 v := ⟨fun _ => hq, fun q => absurd q (by decide)⟩
theorem m_needs0 {Q : MM → Prop} {M : MM} {v : Int32} (f : M 52 14 = 0) (hq : ∀ M', (∀ a, a ≠ 52 → M' a = M a) → (∀ j, j ≠ 14 → j ≠ 15 → M' 52 j = M 52 j) → M' 52 14 = v → M' 52 15 = M 52 11 → Q M') : wX5_needs Q M 0 v := by
  refine ⟨fun q => absurd rfl q, fun _ => br_nt f ?_⟩
  rintro _ rfl _ rfl
  refine hq _ (fun a ha => by rw [mset_n ha, mset_n ha]) (fun j j1 j2 => by rw [mset_sn j2, mset_sn j1]) (by rw [mset_sn (by decide), mset_ss]) ?_
  rw [mset_ss, mset_sn (by decide)]
/-- what holds behind a token -/
def tokM (c : Nat → Nat) (n p : Nat) (M : MM) : Prop := (tK c n p ≠ 4 → M 52 10 = nI (tE c n p) ∧ M 52 11 = nI (tS c n p) ∧ M 52 12 = nI (tK c n p)) ∧ (tK c n p = 2 → M 52 13 = nI (tV c n p))
def nxP (c : Nat → Nat) (n p : Nat) (M M' : MM) : Prop := (∀ a, a ≠ 52 → M' a = M a) ∧ (∀ j, (j < 10 ∨ 16 ≤ j) → M' 52 j = M 52 j) ∧ tokM c n p M' ∧ (tK c n p = 4 → M' 52 14 = nI 1 ∧ M' 52 15 = nI (tS c n p)) ∧ (tK c n p ≠ 4 → M' 52 14 = 0)
def k10 (M M' : MM) (i : Nat) : Prop := (∀ a, a ≠ 52 → M' a = M a) ∧ (∀ j, j ≠ 10 → M' 52 j = M 52 j) ∧ M' 52 10 = nI i
theorem k10.up {M M' : MM} {i : Nat} (h : k10 M M' i) : k10 M (mset M' 52 10 (M' 52 10 + 1)) (i + 1) :=
  ⟨fun a ha => by rw [mset_n ha]; exact h.1 a ha, fun j hj => by rw [mset_sn hj]; exact h.2.1 j hj, by rw [mset_ss, h.2.2, nI_1]⟩
theorem k10.lt {M M' : MM} {i n : Nat} {c : Nat → Nat} (h : k10 M M' i) (hl : ltM M c n) : ltM M' c n := hl.keep (h.2.1 9 (by decide)) (h.1 59 (by decide))
theorem m_run82 {Q : MM → Prop} {M : MM} {c : Nat → Nat} {n e : Nat} (hl : ltM M c n) (hq : ∀ M', k10 M M' e → Q M') : ∀ r i M', i + r = n → rnN isA c n i = e → k10 M M' i → wX5_next_82 Q (r + 1) M' := by
  have h400 := hl.1
  intro r
  induction r with
  | zero =>
    intro i M' hi he hk
    have hl' := hk.lt hl
    have : ¬ i < n := by omega
    rw [rn_st (fun q => this q.1)] at he
    subst he
    unfold wX5_next_82
    rw [hk.2.2]
    exact m_look hl' (by omega) (fun z => absurd z this) (fun _ => m_A1 (o_t0 (hq M' hk)))
  | succ r ih =>
    intro i M' hi he hk
    have hl' := hk.lt hl
    unfold wX5_next_82
    rw [hk.2.2]
    refine m_look hl' (by omega) (fun h => m_A (hl.2.2.2 i h) (fun q => o_t1 ?_) (fun q => o_t0 ?_)) (fun h => absurd (by omega) h)
    · rintro _ rfl
      have g := hk.up
      exact ih (i + 1) _ (by omega) (by rw [← rn_go h q]; exact he) g
    · rw [rn_st (fun z => q z.2)] at he
      subst he
      exact hq M' hk
/-- the value of the first four figures -/
def k13 (M M' : MM) (c : Nat → Nat) (s i : Nat) : Prop := (∀ a, a ≠ 52 → M' a = M a) ∧ (∀ j, j ≠ 10 → j ≠ 13 → M' 52 j = M 52 j) ∧ M' 52 10 = nI i ∧ M' 52 13 = nI (vF c s (min (i - s) 4))
theorem m_run140 {Q : MM → Prop} {M : MM} {c : Nat → Nat} {n s e : Nat} (hl : ltM M c n) (hs : s ≤ n) (e11 : M 52 11 = nI s) (hf : ∀ j, s ≤ j → j < e → isF (c j) = true) (hq : ∀ M', k13 M M' c s e → (4 < e - s → wX5_next_236 Q M' 0) ∧ (¬ 4 < e - s → wX5_next_236 Q M' 1)) : ∀ r i M', i + r = n → s ≤ i → rnN isF c n i = e → k13 M M' c s i → wX5_next_140 Q (r + 1) M' := by
  have h400 := hl.1
  have fin : ∀ M', k13 M M' c s e → s ≤ e → e ≤ n → (4 < M' 52 10 - M' 52 11 → wX5_next_236 Q M' 0) ∧ (¬ 4 < M' 52 10 - M' 52 11 → wX5_next_236 Q M' 1) := by
    intro M' hk h1 h2
    rw [hk.2.2.1, hk.2.1 11 (by decide) (by decide), e11, pk_sub h1, show (4 : Int32) = nI 4 from rfl, nI_ltI (by omega) (by omega)]
    exact hq M' hk
  intro r
  induction r with
  | zero =>
    intro i M' hi hsi he hk
    have hl' : ltM M' c n := hl.keep (hk.2.1 9 (by decide) (by decide)) (hk.1 59 (by decide))
    have : ¬ i < n := by omega
    rw [rn_st (fun q => this q.1)] at he
    subst he
    unfold wX5_next_140
    have e10 := hk.2.2.1
    rw [e10]
    refine m_look hl' (by omega) (fun z => absurd z this) (fun _ => m_F1 (o_t0 ?_))
    exact fin M' hk hsi (by omega)
  | succ r ih =>
    intro i M' hi hsi he hk
    have hl' : ltM M' c n := hl.keep (hk.2.1 9 (by decide) (by decide)) (hk.1 59 (by decide))
    have e11' : M' 52 11 = nI s := by rw [hk.2.1 11 (by decide) (by decide)]; exact e11
    have e10 := hk.2.2.1
    unfold wX5_next_140
    rw [e10]
    refine m_look hl' (by omega) (fun h => m_F (hl.2.2.2 i h) (fun q => o_t1 ?_) (fun q => o_t0 ?_)) (fun h => absurd (by omega) h)
    · rw [e10, e11', pk_sub hsi, show (4 : Int32) = nI 4 from rfl, nI_leI (by omega) (by omega)]
      have go : ∀ w, w = nI (vF c s (min (i + 1 - s) 4)) → wX5_next_201 Q (fun M => wX5_next_140 Q (r + 1) M) M' w := by
        rintro _ rfl
        unfold wX5_next_201
        rintro _ rfl _ rfl
        refine ih (i + 1) _ (by omega) (by omega) (by rw [← rn_go h q]; exact he) ⟨fun a ha => by rw [mset_n ha, mset_n ha]; exact hk.1 a ha, fun j j1 j2 => by rw [mset_sn j1, mset_sn j2]; exact hk.2.1 j j1 j2, ?_, ?_⟩
        · rw [mset_ss, mset_sn (by decide), e10, nI_1]
        · rw [mset_sn (by decide), mset_ss]
      by_cases k4 : 4 ≤ i - s
      · refine br_t k4 (go _ ?_)
        rw [hk.2.2.2, show min (i - s) 4 = 4 by omega, show min (i + 1 - s) 4 = 4 by omega]
      · refine br_f k4 (m_look hl' (by omega) (fun _ => go _ ?_) (fun z => absurd h z))
        have hc := isF_t.mp q
        have he2 : i < e := by
          rw [← he, rn_go h q]
          have := (rn_b (P := isF) (c := c) (show i + 1 ≤ n by omega)).1
          omega
        rw [hk.2.2.2, show (10 : Int32) = nI 10 from rfl, show (48 : Int32) = nI 48 from rfl, pk_mul, nI_add, pk_sub (by omega)]
        rw [show min (i - s) 4 = i - s by omega, show min (i + 1 - s) 4 = (i - s) + 1 by omega, vF, show s + (i - s) = i by omega]
        congr 1; omega
    · rw [rn_st (fun z => q z.2)] at he
      subst he
      exact fin M' hk hsi (by omega)
/-- a token is read -/
theorem m_next {Q : MM → Prop} {M : MM} {c : Nat → Nat} {n p : Nat} (hl : ltM M c n) (hp : p ≤ n) (f : M 52 14 = 0) (e10 : M 52 10 = nI p) (hq : ∀ M', nxP c n p M M' → Q M') : wX5_next Q M := by
  have h400 := hl.1
  have hsb := tS_b (c := c) hp
  have heb := tE_b (c := c) hp
  -- behind the blanks
  have t8 : ∀ M1, k10 M M1 (tS c n p) → ∀ M3, M3 = mset M1 52 11 (M1 52 10) → wX5_look (fun r4 M5 => (0 ≤ r4 → wX5_in (fun r6 M7 => (r6 = 0 → wX5_in (fun r8 M9 => (r8 = 0 → ∀ M10 : MM, M10 = mset M9 52 12 3 → (¬ r4 = 59 → wX5_next_260 Q M10 0) ∧ (r4 = 59 → wX5_next_260 Q M10 1)) ∧ (¬ r8 = 0 → ∀ M11 : MM, M11 = mset M9 52 12 2 → ∀ M12 : MM, M12 = mset M11 52 13 0 → ∃ m, wX5_next_140 Q m M12)) M7 (r4.toInt64) 48 57) ∧ (¬ r6 = 0 → ∀ M13 : MM, M13 = mset M7 52 12 1 → ∃ m, wX5_next_82 Q m M13)) M5 (r4.toInt64) 97 122) ∧ (¬ 0 ≤ r4 → ∀ M14 : MM, M14 = mset M5 52 12 0 → Q M14)) M3 (M3 52 10) := by
    rintro M1 hk _ rfl
    have hl1 := hk.lt hl
    have l2 : ltM (mset M1 52 11 (M1 52 10)) c n := hl1.keep (mset_sn (by decide)) (mset_n (by decide))
    have f1 : M1 52 14 = 0 := by rw [hk.2.1 14 (by decide)]; exact f
    rw [mset_sn (show 10 ≠ 11 by decide), hk.2.2]
    rw [hk.2.2] at l2
    -- no fault
    have good : ∀ (M2 : MM) (k e : Nat), k ≠ 4 → (∀ a, a ≠ 52 → M2 a = M1 a) → (∀ j, (j < 10 ∨ 14 ≤ j) → M2 52 j = M1 52 j) → M2 52 10 = nI e → M2 52 11 = nI (tS c n p) → M2 52 12 = nI k → tE c n p = e → tK c n p = k → (k = 2 → M2 52 13 = nI (tV c n p)) → Q M2 := by
      intro M2 k e k4 g1 g2 g3 g4 g5 g6 g7 g8
      refine hq M2 ⟨fun a ha => by rw [g1 a ha]; exact hk.1 a ha, fun j hj => by rw [g2 j (by omega)]; exact hk.2.1 j (by omega), ⟨fun _ => ⟨by rw [g6]; exact g3, g4, by rw [g7]; exact g5⟩, fun z => g8 (by rw [← g7]; exact z)⟩, fun z => absurd (g7.symm.trans z) k4, fun _ => by rw [g2 14 (by omega)]; exact f1⟩
    have bad : ∀ (M2 : MM), (∀ a, a ≠ 52 → M2 a = M1 a) → (∀ j, (j < 10 ∨ 16 ≤ j) → M2 52 j = M1 52 j) → M2 52 14 = 1 → M2 52 15 = nI (tS c n p) → tK c n p = 4 → Q M2 := by
      intro M2 g1 g2 g3 g4 g5
      exact hq M2 ⟨fun a ha => by rw [g1 a ha]; exact hk.1 a ha, fun j hj => by rw [g2 j hj]; exact hk.2.1 j (by omega), ⟨fun z => absurd g5 z, fun z => by omega⟩, fun _ => ⟨g3, g4⟩, fun z => absurd g5 z⟩
    refine m_look l2 (by omega) (fun h1 => ?_) (fun h1 => ?_)
    · have hc := hl.2.2.2 _ h1
      refine br_t (show (0 : Int32) ≤ _ from nI_le (a := 0) (Nat.zero_le _) (by omega)) (m_A hc (fun q => o_t1 ?_) (fun q => o_t0 ?_))
      · -- a name
        rintro _ rfl
        have g : k10 (mset (mset M1 52 11 (nI (tS c n p))) 52 12 1) (mset (mset M1 52 11 (nI (tS c n p))) 52 12 1) (tS c n p) := ⟨fun _ _ => rfl, fun _ _ => rfl, by rw [mset_sn (by decide), mset_sn (by decide)]; exact hk.2.2⟩
        refine ⟨n - tS c n p + 1, m_run82 (c := c) (n := n) (e := tE c n p) (l2.keep (mset_sn (by decide)) (mset_n (by decide))) (fun M3 g3 => ?_) (n - tS c n p) (tS c n p) _ (by omega) ?_ g⟩
        · refine good M3 1 (tE c n p) (by decide) (fun a ha => by rw [g3.1 a ha, mset_n ha, mset_n ha]) (fun j hj => by rw [g3.2.1 j (by omega), mset_sn (by omega), mset_sn (by omega)]) g3.2.2 ?_ ?_ rfl ?_ (fun z => absurd z (by decide))
          · rw [g3.2.1 11 (by decide), mset_sn (by decide), mset_ss]
          · rw [g3.2.1 12 (by decide), mset_ss]; rfl
          · unfold tK; rw [if_pos h1, if_pos q]
        · unfold tE; rw [if_pos h1, if_pos q]
      · refine m_F hc (fun q2 => o_t1 ?_) (fun q2 => o_t0 ?_)
        · -- a number
          have eE : tE c n p = rnN isF c n (tS c n p) := by unfold tE; rw [if_pos h1, if_neg q, if_pos q2]
          have eK : tK c n p = if tE c n p - tS c n p ≤ 4 then 2 else 4 := by rw [eE]; unfold tK; rw [if_pos h1, if_neg q, if_pos q2]
          rintro _ rfl _ rfl
          have g : k13 (mset (mset (mset M1 52 11 (nI (tS c n p))) 52 12 2) 52 13 0) (mset (mset (mset M1 52 11 (nI (tS c n p))) 52 12 2) 52 13 0) c (tS c n p) (tS c n p) := ⟨fun _ _ => rfl, fun _ _ _ => rfl, by rw [mset_sn (by decide), mset_sn (by decide), mset_sn (by decide)]; exact hk.2.2, by rw [mset_ss, Nat.sub_self]; rfl⟩
          have l3 : ltM (mset (mset (mset M1 52 11 (nI (tS c n p))) 52 12 2) 52 13 0) c n := l2.keep (by rw [mset_sn (by decide), mset_sn (by decide)]) (by rw [mset_n (by decide), mset_n (by decide)])
          refine ⟨n - tS c n p + 1, m_run140 (c := c) (n := n) (s := tS c n p) (e := tE c n p) l3 hsb.2 ?_ (fun j j1 j2 => rn_in (P := isF) (c := c) (n := n) (n - tS c n p) (tS c n p) j j1 (by show j < rnN isF c n (tS c n p); omega)) (fun M3 g3 => ?_) (n - tS c n p) (tS c n p) _ (by omega) (Nat.le_refl _) eE.symm g⟩
          · rw [mset_sn (by decide), mset_sn (by decide), mset_ss]
          · have f3 : M3 52 14 = 0 := by rw [g3.2.1 14 (by decide) (by decide), mset_sn (by decide), mset_sn (by decide), mset_sn (by decide)]; exact f1
            have e11 : M3 52 11 = nI (tS c n p) := by rw [g3.2.1 11 (by decide) (by decide), mset_sn (by decide), mset_sn (by decide), mset_ss]
            have ka : ∀ a, a ≠ 52 → M3 a = M1 a := fun a ha => by rw [g3.1 a ha, mset_n ha, mset_n ha, mset_n ha]
            have kj : ∀ j, (j < 10 ∨ 14 ≤ j) → M3 52 j = M1 52 j := fun j hj => by rw [g3.2.1 j (by omega) (by omega), mset_sn (by omega), mset_sn (by omega), mset_sn (by omega)]
            constructor
            · intro k4
              rw [if_neg (by omega)] at eK
              unfold wX5_next_236
              refine m_needs0 f3 (fun M4 b1 b2 b3 b4 => bad M4 (fun a ha => by rw [b1 a ha, ka a ha]) (fun j hj => by rw [b2 j (by omega) (by omega), kj j (by omega)]) b3 (by rw [b4, e11]) eK)
            · intro k4
              rw [if_pos (by omega)] at eK
              unfold wX5_next_236
              refine m_needs1 (good M3 2 (tE c n p) (by decide) ka kj g3.2.2.1 e11 ?_ rfl eK (fun _ => g3.2.2.2))
              rw [g3.2.1 12 (by decide) (by decide), mset_sn (by decide), mset_ss]; rfl
        · -- a sign
          have eE : tE c n p = tS c n p + 1 := by unfold tE; rw [if_pos h1, if_neg q, if_neg q2]
          have eK : tK c n p = if c (tS c n p) = 59 then 3 else 4 := by unfold tK; rw [if_pos h1, if_neg q, if_neg q2]
          rintro _ rfl
          unfold wX5_next_260
          rw [show (59 : Int32) = nI 59 from rfl, nI_eq (by omega) (by omega)]
          by_cases c59 : c (tS c n p) = 59
          · rw [if_pos c59] at eK
            refine br_nt c59 (m_needs1 ?_)
            rintro _ rfl
            refine good _ 3 (tS c n p + 1) (by decide) (fun a ha => by rw [mset_n ha, mset_n ha, mset_n ha]) (fun j hj => by rw [mset_sn (by omega), mset_sn (by omega), mset_sn (by omega)]) ?_ ?_ ?_ eE eK (fun z => absurd z (by decide))
            · rw [mset_ss, mset_sn (by decide), mset_sn (by decide), hk.2.2, nI_1]
            · rw [mset_sn (by decide), mset_sn (by decide), mset_ss]
            · rw [mset_sn (by decide), mset_ss]; rfl
          · rw [if_neg c59] at eK
            refine br_nf c59 (m_needs0 ?_ (fun M4 b1 b2 b3 b4 => ?_))
            · rw [mset_sn (by decide), mset_sn (by decide)]; exact f1
            · rintro _ rfl
              refine bad _ (fun a ha => by rw [mset_n ha, b1 a ha, mset_n ha, mset_n ha]) (fun j hj => by rw [mset_sn (by omega), b2 j (by omega) (by omega), mset_sn (by omega), mset_sn (by omega)]) ?_ ?_ eK
              · rw [mset_sn (by decide)]; exact b3
              · rw [mset_sn (by decide), b4, mset_sn (by decide), mset_ss]
    · -- the end
      refine br_f (by decide) ?_
      rintro _ rfl
      refine good _ 0 (tS c n p) (by decide) (fun a ha => by rw [mset_n ha, mset_n ha]) (fun j hj => by rw [mset_sn (by omega), mset_sn (by omega)]) ?_ ?_ ?_ ?_ ?_ (fun z => absurd z (by decide))
      · rw [mset_sn (by decide), mset_sn (by decide)]; exact hk.2.2
      · rw [mset_sn (by decide), mset_ss]
      · rw [mset_ss]; rfl
      · unfold tE; rw [if_neg h1]
      · unfold tK; rw [if_neg h1]
  -- the blanks
  have t0 : ∀ r i M', i + r = n → rnN isB c n i = tS c n p → k10 M M' i → wX5_next_8 Q (r + 1) M' := by
    intro r
    induction r with
    | zero =>
      intro i M' hi he hk
      have hl' := hk.lt hl
      have hni : ¬ i < n := by omega
      rw [rn_st (fun q => hni q.1)] at he
      unfold wX5_next_8
      rw [hk.2.2]
      refine m_look hl' (by omega) (fun z => absurd z hni) (fun _ => br_nf (by decide) ?_)
      have hk2 := hk
      rw [he] at hk2
      exact t8 M' hk2
    | succ r ih =>
      intro i M' hi he hk
      have hl' := hk.lt hl
      unfold wX5_next_8
      rw [hk.2.2]
      refine m_look hl' (by omega) (fun h => ?_) (fun h => absurd (by omega) h)
      have hc := hl.2.2.2 i h
      rw [show (32 : Int32) = nI 32 from rfl, nI_eq (by omega) (by omega)]
      by_cases q : c i = 32
      · refine br_nt q ?_
        rintro _ rfl
        have g := hk.up
        exact ih (i + 1) _ (by omega) (by rw [← rn_go h (isB_t.mpr q)]; exact he) g
      · refine br_nf q ?_
        rw [rn_st (fun z => q (isB_t.mp z.2))] at he
        have hk2 := hk
        rw [he] at hk2
        exact t8 M' hk2
  unfold wX5_next
  refine br_t (by rw [f]; decide) ⟨n - p + 1, t0 (n - p) p M (by omega) rfl ⟨fun _ _ => rfl, fun _ _ => rfl, e10⟩⟩
theorem m_nextF {Q : MM → Prop} {M : MM} {k : Nat} (h1 : 1 ≤ k) (hk : k < 100) (f : M 52 14 = nI k) (hq : Q M) : wX5_next Q M := by
  unfold wX5_next
  refine br_f ?_ hq
  rw [f, show (0 : Int32) = nI 0 from rfl, nI_leI (by omega) (by omega)]
  omega
-- ===== the names of a text =====
def nmL : List (List Nat) := [[108, 101, 110, 103, 116, 104], [104, 117, 98], [116, 104, 105, 99, 107], [112, 108, 97, 121], [119, 105, 110, 100], [114, 97, 109, 112], [103, 97, 112], [100, 101, 110, 115, 101], [104, 105, 116, 99, 104], [98, 108, 111, 99, 107], [109, 97, 114, 107]]
theorem name_ok : ∀ k, k < 11 → lenK.getD k 0 = (nmL.getD k []).length ∧ (3 ≤ (nmL.getD k []).length ∧ (nmL.getD k []).length ≤ 6) ∧ ∀ j, j < (nmL.getD k []).length → chK k j = nI ((nmL.getD k []).getD j 0) ∧ (nmL.getD k []).getD j 0 < 256 := by decide +kernel
abbrev nmQ (c : Nat → Nat) (s e k : Nat) : Prop := e - s = (nmL.getD k []).length ∧ ∀ i, i < (nmL.getD k []).length → c (s + i) = (nmL.getD k []).getD i 0
abbrev nqP (c : Nat → Nat) (n p k : Nat) : Prop := tK c n p = 1 ∧ nmQ c (tS c n p) (tE c n p) k
/-- which name stands there: a rule 0 to 8, 10 block, 11 mark, 12 none -/
def kN (c : Nat → Nat) (n p : Nat) : Nat := if nqP c n p 0 then 0 else if nqP c n p 1 then 1 else if nqP c n p 2 then 2 else if nqP c n p 3 then 3 else if nqP c n p 4 then 4 else if nqP c n p 5 then 5 else if nqP c n p 6 then 6 else if nqP c n p 7 then 7 else if nqP c n p 8 then 8 else if nqP c n p 9 then 10 else if nqP c n p 10 then 11 else 12
theorem nq_0 {c : Nat → Nat} {s e : Nat} : nmQ c s e 0 ↔ (e - s = 6 ∧ c s = 108 ∧ c (s + 1) = 101 ∧ c (s + 2) = 110 ∧ c (s + 3) = 103 ∧ c (s + 4) = 116 ∧ c (s + 5) = 104) := by
  constructor
  · rintro ⟨h1, h2⟩
    exact ⟨h1, h2 0 (by decide), h2 1 (by decide), h2 2 (by decide), h2 3 (by decide), h2 4 (by decide), h2 5 (by decide)⟩
  · rintro ⟨h1, g0, g1, g2, g3, g4, g5⟩
    refine ⟨h1, fun i hi => ?_⟩
    have hi2 : i < 6 := hi
    rcases (by omega : i = 0 ∨ i = 1 ∨ i = 2 ∨ i = 3 ∨ i = 4 ∨ i = 5) with rfl | rfl | rfl | rfl | rfl | rfl
    · exact g0
    · exact g1
    · exact g2
    · exact g3
    · exact g4
    · exact g5
theorem nq_1 {c : Nat → Nat} {s e : Nat} : nmQ c s e 1 ↔ (e - s = 3 ∧ c s = 104 ∧ c (s + 1) = 117 ∧ c (s + 2) = 98) := by
  constructor
  · rintro ⟨h1, h2⟩
    exact ⟨h1, h2 0 (by decide), h2 1 (by decide), h2 2 (by decide)⟩
  · rintro ⟨h1, g0, g1, g2⟩
    refine ⟨h1, fun i hi => ?_⟩
    have hi2 : i < 3 := hi
    rcases (by omega : i = 0 ∨ i = 1 ∨ i = 2) with rfl | rfl | rfl
    · exact g0
    · exact g1
    · exact g2
theorem nq_2 {c : Nat → Nat} {s e : Nat} : nmQ c s e 2 ↔ (e - s = 5 ∧ c s = 116 ∧ c (s + 1) = 104 ∧ c (s + 2) = 105 ∧ c (s + 3) = 99 ∧ c (s + 4) = 107) := by
  constructor
  · rintro ⟨h1, h2⟩
    exact ⟨h1, h2 0 (by decide), h2 1 (by decide), h2 2 (by decide), h2 3 (by decide), h2 4 (by decide)⟩
  · rintro ⟨h1, g0, g1, g2, g3, g4⟩
    refine ⟨h1, fun i hi => ?_⟩
    have hi2 : i < 5 := hi
    rcases (by omega : i = 0 ∨ i = 1 ∨ i = 2 ∨ i = 3 ∨ i = 4) with rfl | rfl | rfl | rfl | rfl
    · exact g0
    · exact g1
    · exact g2
    · exact g3
    · exact g4
theorem nq_3 {c : Nat → Nat} {s e : Nat} : nmQ c s e 3 ↔ (e - s = 4 ∧ c s = 112 ∧ c (s + 1) = 108 ∧ c (s + 2) = 97 ∧ c (s + 3) = 121) := by
  constructor
  · rintro ⟨h1, h2⟩
    exact ⟨h1, h2 0 (by decide), h2 1 (by decide), h2 2 (by decide), h2 3 (by decide)⟩
  · rintro ⟨h1, g0, g1, g2, g3⟩
    refine ⟨h1, fun i hi => ?_⟩
    have hi2 : i < 4 := hi
    rcases (by omega : i = 0 ∨ i = 1 ∨ i = 2 ∨ i = 3) with rfl | rfl | rfl | rfl
    · exact g0
    · exact g1
    · exact g2
    · exact g3
theorem nq_4 {c : Nat → Nat} {s e : Nat} : nmQ c s e 4 ↔ (e - s = 4 ∧ c s = 119 ∧ c (s + 1) = 105 ∧ c (s + 2) = 110 ∧ c (s + 3) = 100) := by
  constructor
  · rintro ⟨h1, h2⟩
    exact ⟨h1, h2 0 (by decide), h2 1 (by decide), h2 2 (by decide), h2 3 (by decide)⟩
  · rintro ⟨h1, g0, g1, g2, g3⟩
    refine ⟨h1, fun i hi => ?_⟩
    have hi2 : i < 4 := hi
    rcases (by omega : i = 0 ∨ i = 1 ∨ i = 2 ∨ i = 3) with rfl | rfl | rfl | rfl
    · exact g0
    · exact g1
    · exact g2
    · exact g3
theorem nq_5 {c : Nat → Nat} {s e : Nat} : nmQ c s e 5 ↔ (e - s = 4 ∧ c s = 114 ∧ c (s + 1) = 97 ∧ c (s + 2) = 109 ∧ c (s + 3) = 112) := by
  constructor
  · rintro ⟨h1, h2⟩
    exact ⟨h1, h2 0 (by decide), h2 1 (by decide), h2 2 (by decide), h2 3 (by decide)⟩
  · rintro ⟨h1, g0, g1, g2, g3⟩
    refine ⟨h1, fun i hi => ?_⟩
    have hi2 : i < 4 := hi
    rcases (by omega : i = 0 ∨ i = 1 ∨ i = 2 ∨ i = 3) with rfl | rfl | rfl | rfl
    · exact g0
    · exact g1
    · exact g2
    · exact g3
theorem nq_6 {c : Nat → Nat} {s e : Nat} : nmQ c s e 6 ↔ (e - s = 3 ∧ c s = 103 ∧ c (s + 1) = 97 ∧ c (s + 2) = 112) := by
  constructor
  · rintro ⟨h1, h2⟩
    exact ⟨h1, h2 0 (by decide), h2 1 (by decide), h2 2 (by decide)⟩
  · rintro ⟨h1, g0, g1, g2⟩
    refine ⟨h1, fun i hi => ?_⟩
    have hi2 : i < 3 := hi
    rcases (by omega : i = 0 ∨ i = 1 ∨ i = 2) with rfl | rfl | rfl
    · exact g0
    · exact g1
    · exact g2
theorem nq_7 {c : Nat → Nat} {s e : Nat} : nmQ c s e 7 ↔ (e - s = 5 ∧ c s = 100 ∧ c (s + 1) = 101 ∧ c (s + 2) = 110 ∧ c (s + 3) = 115 ∧ c (s + 4) = 101) := by
  constructor
  · rintro ⟨h1, h2⟩
    exact ⟨h1, h2 0 (by decide), h2 1 (by decide), h2 2 (by decide), h2 3 (by decide), h2 4 (by decide)⟩
  · rintro ⟨h1, g0, g1, g2, g3, g4⟩
    refine ⟨h1, fun i hi => ?_⟩
    have hi2 : i < 5 := hi
    rcases (by omega : i = 0 ∨ i = 1 ∨ i = 2 ∨ i = 3 ∨ i = 4) with rfl | rfl | rfl | rfl | rfl
    · exact g0
    · exact g1
    · exact g2
    · exact g3
    · exact g4
theorem nq_8 {c : Nat → Nat} {s e : Nat} : nmQ c s e 8 ↔ (e - s = 5 ∧ c s = 104 ∧ c (s + 1) = 105 ∧ c (s + 2) = 116 ∧ c (s + 3) = 99 ∧ c (s + 4) = 104) := by
  constructor
  · rintro ⟨h1, h2⟩
    exact ⟨h1, h2 0 (by decide), h2 1 (by decide), h2 2 (by decide), h2 3 (by decide), h2 4 (by decide)⟩
  · rintro ⟨h1, g0, g1, g2, g3, g4⟩
    refine ⟨h1, fun i hi => ?_⟩
    have hi2 : i < 5 := hi
    rcases (by omega : i = 0 ∨ i = 1 ∨ i = 2 ∨ i = 3 ∨ i = 4) with rfl | rfl | rfl | rfl | rfl
    · exact g0
    · exact g1
    · exact g2
    · exact g3
    · exact g4
theorem nq_9 {c : Nat → Nat} {s e : Nat} : nmQ c s e 9 ↔ (e - s = 5 ∧ c s = 98 ∧ c (s + 1) = 108 ∧ c (s + 2) = 111 ∧ c (s + 3) = 99 ∧ c (s + 4) = 107) := by
  constructor
  · rintro ⟨h1, h2⟩
    exact ⟨h1, h2 0 (by decide), h2 1 (by decide), h2 2 (by decide), h2 3 (by decide), h2 4 (by decide)⟩
  · rintro ⟨h1, g0, g1, g2, g3, g4⟩
    refine ⟨h1, fun i hi => ?_⟩
    have hi2 : i < 5 := hi
    rcases (by omega : i = 0 ∨ i = 1 ∨ i = 2 ∨ i = 3 ∨ i = 4) with rfl | rfl | rfl | rfl | rfl
    · exact g0
    · exact g1
    · exact g2
    · exact g3
    · exact g4
theorem nq_10 {c : Nat → Nat} {s e : Nat} : nmQ c s e 10 ↔ (e - s = 4 ∧ c s = 109 ∧ c (s + 1) = 97 ∧ c (s + 2) = 114 ∧ c (s + 3) = 107) := by
  constructor
  · rintro ⟨h1, h2⟩
    exact ⟨h1, h2 0 (by decide), h2 1 (by decide), h2 2 (by decide), h2 3 (by decide)⟩
  · rintro ⟨h1, g0, g1, g2, g3⟩
    refine ⟨h1, fun i hi => ?_⟩
    have hi2 : i < 4 := hi
    rcases (by omega : i = 0 ∨ i = 1 ∨ i = 2 ∨ i = 3) with rfl | rfl | rfl | rfl
    · exact g0
    · exact g1
    · exact g2
    · exact g3
theorem s_isNamed {Q : Int32 → MM → Prop} {M : MM} {c : Nat → Nat} {n p k : Nat} (hl : ltP M c n) (hp : p ≤ n) (ht : tokC c n p M) (hk : k < 11) (h1 : nqP c n p k → Q 1 M) (h0 : ¬ nqP c n p k → Q 0 M) : wX3_isNamed Q M k := by
  obtain ⟨n1', n2, n3⟩ := name_ok k hk
  have h400 := hl.1
  have hsb := tS_b (c := c) hp
  have heb := tE_b (c := c) hp
  have hkl := tK_le c n p
  unfold wX3_isNamed
  rw [ht.2.1, show (1 : Int32) = nI 1 from rfl, nI_eq (by omega) (by omega)]
  by_cases q : tK c n p = 1
  · refine br_nt q ?_
    unfold wJ0_length_8abf5
    rw [ht.1, ht.2.2.1, pk_sub heb.1, n1']
    try dsimp only
    rw [nI_eq (by omega) (by omega)]
    by_cases q2 : tE c n p - tS c n p = (nmL.getD k []).length
    · refine br_t q2 ?_
      have loop : ∀ r j, j + r = (nmL.getD k []).length → ((∀ i, j ≤ i → i < (nmL.getD k []).length → c (tS c n p + i) = (nmL.getD k []).getD i 0) → Q 1 M) → ((¬ ∀ i, j ≤ i → i < (nmL.getD k []).length → c (tS c n p + i) = (nmL.getD k []).getD i 0) → Q 0 M) → wX3_isNamed_28 Q k (r + 1) M (nI j) := by
        intro r
        induction r with
        | zero =>
          intro j hj g1 g0
          unfold wX3_isNamed_28 wJ0_length_8abf5
          rw [n1']
          exact br_t (nI_le (by omega) (by omega)) (g1 (fun i a b => by omega))
        | succ r ih =>
          intro j hj g1 g0
          unfold wX3_isNamed_28 wJ0_length_8abf5
          rw [n1']
          try dsimp only
          rw [nI_leI (by omega) (by omega), ht.2.2.1, nI_add]
          refine br_f (by omega) (s_letterAt hl (by omega) (fun hlt => ?_) (fun z => absurd (by omega) z))
          obtain ⟨m1, m2⟩ := n3 j (by omega)
          have hc := hl.2.2.2 _ hlt
          unfold wJ0_charAt_5068e
          rw [n1', clamp_nI (by omega), m1]
          try dsimp only
          refine ⟨vp_nI (by omega) (by omega), ?_⟩
          rw [nI_eq (by omega) (by omega), nI_1]
          by_cases e : c (tS c n p + j) = (nmL.getD k []).getD j 0
          · refine br_t e (ih (j + 1) (by omega) (fun z => g1 (fun i a b => ?_)) (fun z => g0 (fun y => z (fun i a b => y i (by omega) b))))
            by_cases ij : i = j
            · subst ij; exact e
            · exact z i (by omega) b
          · exact br_f e (g0 (fun y => e (y j (Nat.le_refl _) (by omega))))
      exact ⟨(nmL.getD k []).length + 1, loop (nmL.getD k []).length 0 (by omega) (fun z => h1 ⟨q, q2, fun i hi => z i (Nat.zero_le _) hi⟩) (fun z => h0 (fun y => z (fun i _ hi => y.2.2 i hi)))⟩
    · exact br_f q2 (h0 (fun y => q2 y.2.1))
  · exact br_nf q (h0 (fun y => q y.1))
theorem s_ruleNamed {Q : Int32 → MM → Prop} {M : MM} {c : Nat → Nat} {n p : Nat} (hl : ltP M c n) (hp : p ≤ n) (ht : tokC c n p M) (h1 : kN c n p ≤ 8 → Q (nI (kN c n p)) M) (h0 : (∀ k, k < 9 → ¬ nqP c n p k) → Q (-4) M) : wX3_ruleNamed Q M := by
  unfold wX3_ruleNamed
  refine s_isNamed hl hp ht (by decide) (fun y => o_t1 ?_) (fun x0 => o_t0 ?_)
  · have e : kN c n p = 0 := by unfold kN; rw [if_pos y]
    rw [e] at h1
    exact h1 (by omega)
  refine s_isNamed hl hp ht (by decide) (fun y => o_t1 ?_) (fun x1 => o_t0 ?_)
  · have e : kN c n p = 1 := by unfold kN; rw [if_neg x0, if_pos y]
    rw [e] at h1
    exact h1 (by omega)
  refine s_isNamed hl hp ht (by decide) (fun y => o_t1 ?_) (fun x2 => o_t0 ?_)
  · have e : kN c n p = 2 := by unfold kN; rw [if_neg x0, if_neg x1, if_pos y]
    rw [e] at h1
    exact h1 (by omega)
  refine s_isNamed hl hp ht (by decide) (fun y => o_t1 ?_) (fun x3 => o_t0 ?_)
  · have e : kN c n p = 3 := by unfold kN; rw [if_neg x0, if_neg x1, if_neg x2, if_pos y]
    rw [e] at h1
    exact h1 (by omega)
  refine s_isNamed hl hp ht (by decide) (fun y => o_t1 ?_) (fun x4 => o_t0 ?_)
  · have e : kN c n p = 4 := by unfold kN; rw [if_neg x0, if_neg x1, if_neg x2, if_neg x3, if_pos y]
    rw [e] at h1
    exact h1 (by omega)
  refine s_isNamed hl hp ht (by decide) (fun y => o_t1 ?_) (fun x5 => o_t0 ?_)
  · have e : kN c n p = 5 := by unfold kN; rw [if_neg x0, if_neg x1, if_neg x2, if_neg x3, if_neg x4, if_pos y]
    rw [e] at h1
    exact h1 (by omega)
  refine s_isNamed hl hp ht (by decide) (fun y => o_t1 ?_) (fun x6 => o_t0 ?_)
  · have e : kN c n p = 6 := by unfold kN; rw [if_neg x0, if_neg x1, if_neg x2, if_neg x3, if_neg x4, if_neg x5, if_pos y]
    rw [e] at h1
    exact h1 (by omega)
  refine s_isNamed hl hp ht (by decide) (fun y => o_t1 ?_) (fun x7 => o_t0 ?_)
  · have e : kN c n p = 7 := by unfold kN; rw [if_neg x0, if_neg x1, if_neg x2, if_neg x3, if_neg x4, if_neg x5, if_neg x6, if_pos y]
    rw [e] at h1
    exact h1 (by omega)
  refine s_isNamed hl hp ht (by decide) (fun y => o_t1 ?_) (fun x8 => o_t0 ?_)
  · have e : kN c n p = 8 := by unfold kN; rw [if_neg x0, if_neg x1, if_neg x2, if_neg x3, if_neg x4, if_neg x5, if_neg x6, if_neg x7, if_pos y]
    rw [e] at h1
    exact h1 (by omega)
  refine h0 (fun k hk => ?_)
  rcases (by omega : k = 0 ∨ k = 1 ∨ k = 2 ∨ k = 3 ∨ k = 4 ∨ k = 5 ∨ k = 6 ∨ k = 7 ∨ k = 8) with rfl | rfl | rfl | rfl | rfl | rfl | rfl | rfl | rfl
  · exact x0
  · exact x1
  · exact x2
  · exact x3
  · exact x4
  · exact x5
  · exact x6
  · exact x7
  · exact x8
theorem m_is {Q : Int32 → MM → Prop} {M : MM} {c : Nat → Nat} {n p L a b d f : Nat} (hl : ltM M c n) (hp : p ≤ n) (e10 : M 52 10 = nI (tE c n p)) (e11 : M 52 11 = nI (tS c n p)) (hL : 3 ≤ L ∧ L ≤ 6) (ha : a < 256) (hb : b < 256) (hd : d < 256) (hf : f < 256) (h1 : tE c n p - tS c n p = L → c (tS c n p) = a → c (tS c n p + 1) = b → c (tS c n p + 2) = d → (L < 4 ∨ c (tS c n p + 3) = f) → Q 1 M) (h0 : ¬ (tE c n p - tS c n p = L ∧ c (tS c n p) = a ∧ c (tS c n p + 1) = b ∧ c (tS c n p + 2) = d ∧ (L < 4 ∨ c (tS c n p + 3) = f)) → Q 0 M) : wX5_is Q M (nI L) (nI a) (nI b) (nI d) (nI f) := by
  have h400 := hl.1
  have hsb := tS_b (c := c) hp
  have heb := tE_b (c := c) hp
  unfold wX5_is wX5_is_78 wX5_is_74
  rw [e10, e11, pk_sub heb.1, nI_eq (by omega) (by omega)]
  by_cases q : tE c n p - tS c n p = L
  · refine br_nt q (m_look hl (by omega) (fun l1 => ?_) (fun z => absurd (by omega) z))
    have c1 := hl.2.2.2 _ l1
    rw [nI_eq (by omega) (by omega)]
    by_cases qa : c (tS c n p) = a
    · refine br_nt qa ?_
      rw [e11, show (1 : Int32) = nI 1 from rfl, nI_add]
      refine m_look hl (by omega) (fun l2 => ?_) (fun z => absurd (by omega) z)
      have c2 := hl.2.2.2 _ l2
      rw [nI_eq (by omega) (by omega)]
      by_cases qb : c (tS c n p + 1) = b
      · refine br_nt qb ?_
        rw [e11, show (2 : Int32) = nI 2 from rfl, nI_add]
        refine m_look hl (by omega) (fun l3 => ?_) (fun z => absurd (by omega) z)
        have c3 := hl.2.2.2 _ l3
        rw [nI_eq (by omega) (by omega), show (4 : Int32) = nI 4 from rfl, nI_ltI (by omega) (by omega)]
        by_cases qd : c (tS c n p + 2) = d
        · refine br_nt qd ?_
          by_cases q4 : L < 4
          · exact br_t q4 (h1 q qa qb qd (Or.inl q4))
          · refine br_f q4 ?_
            rw [e11, show (3 : Int32) = nI 3 from rfl, nI_add]
            refine m_look hl (by omega) (fun l4 => ?_) (fun z => absurd (by omega) z)
            have c4 := hl.2.2.2 _ l4
            rw [nI_eq (by omega) (by omega)]
            by_cases qf : c (tS c n p + 3) = f
            · exact br_nt qf (h1 q qa qb qd (Or.inr qf))
            · exact br_nf qf (h0 (fun y => y.2.2.2.2.elim (fun z => q4 z) (fun z => qf z)))
        · exact br_nf qd (h0 (fun y => qd y.2.2.2.1))
      · exact br_nf qb (h0 (fun y => qb y.2.2.1))
    · exact br_nf qa (h0 (fun y => qa y.2.1))
  · exact br_nf q (h0 (fun y => q y.1))
theorem m_nameNow {Q : Int32 → MM → Prop} {M : MM} {c : Nat → Nat} {n p : Nat} (hl : ltM M c n) (hp : p ≤ n) (hk : tK c n p = 1) (e10 : M 52 10 = nI (tE c n p)) (e11 : M 52 11 = nI (tS c n p)) (hq : Q (if kN c n p = 12 then -4 else nI (kN c n p)) M) : wX5_nameNow Q M := by
  have h400 := hl.1
  have hsb := tS_b (c := c) hp
  have heb := tE_b (c := c) hp
  have lk : ∀ (K : Int32 → MM → Prop) (o : Nat), o ≤ 6 → tS c n p + o < n → K (nI (c (tS c n p + o))) M → wX5_look K M (M 52 11 + nI o) := by
    intro K o ho h z
    rw [e11, nI_add]
    exact m_look hl (by omega) (fun _ => z) (fun y => absurd h y)
  have t10 : ¬ nqP c n p 0 → ¬ nqP c n p 1 → ¬ nqP c n p 2 → ¬ nqP c n p 3 → ¬ nqP c n p 4 → ¬ nqP c n p 5 → ¬ nqP c n p 6 → ¬ nqP c n p 7 → ¬ nqP c n p 8 → ¬ nqP c n p 9 → wX5_nameNow_275 Q M := by
    intro x0 x1 x2 x3 x4 x5 x6 x7 x8 x9
    unfold wX5_nameNow_275
    refine m_is (L := 4) (a := 109) (b := 97) (d := 114) (f := 107) hl hp e10 e11 (by decide) (by decide) (by decide) (by decide) (by decide) (fun i0 i1 i2 i3 i4 => o_t1 ?_) (fun z => o_t0 ?_)
    · have y : nqP c n p 10 := ⟨hk, nq_10.mpr ⟨i0, i1, i2, i3, i4.resolve_left (by decide)⟩⟩
      have e : kN c n p = 11 := by unfold kN; rw [if_neg x0, if_neg x1, if_neg x2, if_neg x3, if_neg x4, if_neg x5, if_neg x6, if_neg x7, if_neg x8, if_neg x9, if_pos y]
      rw [e, if_neg (by decide)] at hq
      exact hq
    · have x10 : ¬ nqP c n p 10 := (fun y => z ⟨(nq_10.mp y.2).1, (nq_10.mp y.2).2.1, (nq_10.mp y.2).2.2.1, (nq_10.mp y.2).2.2.2.1, Or.inr (nq_10.mp y.2).2.2.2.2⟩)
      have e : kN c n p = 12 := by unfold kN; rw [if_neg x0, if_neg x1, if_neg x2, if_neg x3, if_neg x4, if_neg x5, if_neg x6, if_neg x7, if_neg x8, if_neg x9, if_neg x10]
      rw [e, if_pos rfl] at hq
      exact hq
  have t9 : ¬ nqP c n p 0 → ¬ nqP c n p 1 → ¬ nqP c n p 2 → ¬ nqP c n p 3 → ¬ nqP c n p 4 → ¬ nqP c n p 5 → ¬ nqP c n p 6 → ¬ nqP c n p 7 → ¬ nqP c n p 8 → wX5_nameNow_239 Q M := by
    intro x0 x1 x2 x3 x4 x5 x6 x7 x8
    unfold wX5_nameNow_239
    refine m_is (L := 5) (a := 98) (b := 108) (d := 111) (f := 99) hl hp e10 e11 (by decide) (by decide) (by decide) (by decide) (by decide) (fun i0 i1 i2 i3 i4 => o_t1 ?_) (fun z => o_t0 ?_)
    · refine lk _ 4 (by decide) (by omega) ?_
      rw [show (107 : Int32) = nI 107 from rfl, nI_eq (by have := hl.2.2.2 (tS c n p + 4) (by omega); omega) (by omega)]
      by_cases e4 : c (tS c n p + 4) = 107
      · refine br_nt e4 ?_
        have y : nqP c n p 9 := ⟨hk, nq_9.mpr ⟨i0, i1, i2, i3, i4.resolve_left (by decide), e4⟩⟩
        have e : kN c n p = 10 := by unfold kN; rw [if_neg x0, if_neg x1, if_neg x2, if_neg x3, if_neg x4, if_neg x5, if_neg x6, if_neg x7, if_neg x8, if_pos y]
        rw [e, if_neg (by decide)] at hq
        exact hq
      · exact br_nf e4 (t10 x0 x1 x2 x3 x4 x5 x6 x7 x8 (fun y => e4 (nq_9.mp y.2).2.2.2.2.2))
    · exact t10 x0 x1 x2 x3 x4 x5 x6 x7 x8 (fun y => z ⟨(nq_9.mp y.2).1, (nq_9.mp y.2).2.1, (nq_9.mp y.2).2.2.1, (nq_9.mp y.2).2.2.2.1, Or.inr (nq_9.mp y.2).2.2.2.2.1⟩)
  have t8 : ¬ nqP c n p 0 → ¬ nqP c n p 1 → ¬ nqP c n p 2 → ¬ nqP c n p 3 → ¬ nqP c n p 4 → ¬ nqP c n p 5 → ¬ nqP c n p 6 → ¬ nqP c n p 7 → wX5_nameNow_205 Q M := by
    intro x0 x1 x2 x3 x4 x5 x6 x7
    unfold wX5_nameNow_205
    refine m_is (L := 5) (a := 104) (b := 105) (d := 116) (f := 99) hl hp e10 e11 (by decide) (by decide) (by decide) (by decide) (by decide) (fun i0 i1 i2 i3 i4 => o_t1 ?_) (fun z => o_t0 ?_)
    · refine lk _ 4 (by decide) (by omega) ?_
      rw [show (104 : Int32) = nI 104 from rfl, nI_eq (by have := hl.2.2.2 (tS c n p + 4) (by omega); omega) (by omega)]
      by_cases e4 : c (tS c n p + 4) = 104
      · refine br_nt e4 ?_
        have y : nqP c n p 8 := ⟨hk, nq_8.mpr ⟨i0, i1, i2, i3, i4.resolve_left (by decide), e4⟩⟩
        have e : kN c n p = 8 := by unfold kN; rw [if_neg x0, if_neg x1, if_neg x2, if_neg x3, if_neg x4, if_neg x5, if_neg x6, if_neg x7, if_pos y]
        rw [e, if_neg (by decide)] at hq
        exact hq
      · exact br_nf e4 (t9 x0 x1 x2 x3 x4 x5 x6 x7 (fun y => e4 (nq_8.mp y.2).2.2.2.2.2))
    · exact t9 x0 x1 x2 x3 x4 x5 x6 x7 (fun y => z ⟨(nq_8.mp y.2).1, (nq_8.mp y.2).2.1, (nq_8.mp y.2).2.2.1, (nq_8.mp y.2).2.2.2.1, Or.inr (nq_8.mp y.2).2.2.2.2.1⟩)
  have t3 : ¬ nqP c n p 0 → ¬ nqP c n p 1 → ¬ nqP c n p 2 → wX5_nameNow_99 Q M := by
    intro x0 x1 x2
    unfold wX5_nameNow_99
    refine m_is (L := 4) (a := 112) (b := 108) (d := 97) (f := 121) hl hp e10 e11 (by decide) (by decide) (by decide) (by decide) (by decide) (fun i0 i1 i2 i3 i4 => o_t1 ?_) (fun z => o_t0 ?_)
    · have y : nqP c n p 3 := ⟨hk, nq_3.mpr ⟨i0, i1, i2, i3, i4.resolve_left (by decide)⟩⟩
      have e : kN c n p = 3 := by unfold kN; rw [if_neg x0, if_neg x1, if_neg x2, if_pos y]
      rw [e, if_neg (by decide)] at hq
      exact hq
    have x3 : ¬ nqP c n p 3 := (fun y => z ⟨(nq_3.mp y.2).1, (nq_3.mp y.2).2.1, (nq_3.mp y.2).2.2.1, (nq_3.mp y.2).2.2.2.1, Or.inr (nq_3.mp y.2).2.2.2.2⟩)
    refine m_is (L := 4) (a := 119) (b := 105) (d := 110) (f := 100) hl hp e10 e11 (by decide) (by decide) (by decide) (by decide) (by decide) (fun i0 i1 i2 i3 i4 => o_t1 ?_) (fun z => o_t0 ?_)
    · have y : nqP c n p 4 := ⟨hk, nq_4.mpr ⟨i0, i1, i2, i3, i4.resolve_left (by decide)⟩⟩
      have e : kN c n p = 4 := by unfold kN; rw [if_neg x0, if_neg x1, if_neg x2, if_neg x3, if_pos y]
      rw [e, if_neg (by decide)] at hq
      exact hq
    have x4 : ¬ nqP c n p 4 := (fun y => z ⟨(nq_4.mp y.2).1, (nq_4.mp y.2).2.1, (nq_4.mp y.2).2.2.1, (nq_4.mp y.2).2.2.2.1, Or.inr (nq_4.mp y.2).2.2.2.2⟩)
    refine m_is (L := 4) (a := 114) (b := 97) (d := 109) (f := 112) hl hp e10 e11 (by decide) (by decide) (by decide) (by decide) (by decide) (fun i0 i1 i2 i3 i4 => o_t1 ?_) (fun z => o_t0 ?_)
    · have y : nqP c n p 5 := ⟨hk, nq_5.mpr ⟨i0, i1, i2, i3, i4.resolve_left (by decide)⟩⟩
      have e : kN c n p = 5 := by unfold kN; rw [if_neg x0, if_neg x1, if_neg x2, if_neg x3, if_neg x4, if_pos y]
      rw [e, if_neg (by decide)] at hq
      exact hq
    have x5 : ¬ nqP c n p 5 := (fun y => z ⟨(nq_5.mp y.2).1, (nq_5.mp y.2).2.1, (nq_5.mp y.2).2.2.1, (nq_5.mp y.2).2.2.2.1, Or.inr (nq_5.mp y.2).2.2.2.2⟩)
    refine m_is (L := 3) (a := 103) (b := 97) (d := 112) (f := 0) hl hp e10 e11 (by decide) (by decide) (by decide) (by decide) (by decide) (fun i0 i1 i2 i3 i4 => o_t1 ?_) (fun z => o_t0 ?_)
    · have y : nqP c n p 6 := ⟨hk, nq_6.mpr ⟨i0, i1, i2, i3⟩⟩
      have e : kN c n p = 6 := by unfold kN; rw [if_neg x0, if_neg x1, if_neg x2, if_neg x3, if_neg x4, if_neg x5, if_pos y]
      rw [e, if_neg (by decide)] at hq
      exact hq
    have x6 : ¬ nqP c n p 6 := (fun y => z ⟨(nq_6.mp y.2).1, (nq_6.mp y.2).2.1, (nq_6.mp y.2).2.2.1, (nq_6.mp y.2).2.2.2, Or.inl (by decide)⟩)
    refine m_is (L := 5) (a := 100) (b := 101) (d := 110) (f := 115) hl hp e10 e11 (by decide) (by decide) (by decide) (by decide) (by decide) (fun i0 i1 i2 i3 i4 => o_t1 ?_) (fun z => o_t0 ?_)
    · refine lk _ 4 (by decide) (by omega) ?_
      rw [show (101 : Int32) = nI 101 from rfl, nI_eq (by have := hl.2.2.2 (tS c n p + 4) (by omega); omega) (by omega)]
      by_cases e4 : c (tS c n p + 4) = 101
      · refine br_nt e4 ?_
        have y : nqP c n p 7 := ⟨hk, nq_7.mpr ⟨i0, i1, i2, i3, i4.resolve_left (by decide), e4⟩⟩
        have e : kN c n p = 7 := by unfold kN; rw [if_neg x0, if_neg x1, if_neg x2, if_neg x3, if_neg x4, if_neg x5, if_neg x6, if_pos y]
        rw [e, if_neg (by decide)] at hq
        exact hq
      · exact br_nf e4 (t8 x0 x1 x2 x3 x4 x5 x6 (fun y => e4 (nq_7.mp y.2).2.2.2.2.2))
    · exact t8 x0 x1 x2 x3 x4 x5 x6 (fun y => z ⟨(nq_7.mp y.2).1, (nq_7.mp y.2).2.1, (nq_7.mp y.2).2.2.1, (nq_7.mp y.2).2.2.2.1, Or.inr (nq_7.mp y.2).2.2.2.2.1⟩)
  have t1 : ¬ nqP c n p 0 → wX5_nameNow_49 Q M := by
    intro x0
    unfold wX5_nameNow_49
    refine m_is (L := 3) (a := 104) (b := 117) (d := 98) (f := 0) hl hp e10 e11 (by decide) (by decide) (by decide) (by decide) (by decide) (fun i0 i1 i2 i3 i4 => o_t1 ?_) (fun z => o_t0 ?_)
    · have y : nqP c n p 1 := ⟨hk, nq_1.mpr ⟨i0, i1, i2, i3⟩⟩
      have e : kN c n p = 1 := by unfold kN; rw [if_neg x0, if_pos y]
      rw [e, if_neg (by decide)] at hq
      exact hq
    have x1 : ¬ nqP c n p 1 := (fun y => z ⟨(nq_1.mp y.2).1, (nq_1.mp y.2).2.1, (nq_1.mp y.2).2.2.1, (nq_1.mp y.2).2.2.2, Or.inl (by decide)⟩)
    refine m_is (L := 5) (a := 116) (b := 104) (d := 105) (f := 99) hl hp e10 e11 (by decide) (by decide) (by decide) (by decide) (by decide) (fun i0 i1 i2 i3 i4 => o_t1 ?_) (fun z => o_t0 ?_)
    · refine lk _ 4 (by decide) (by omega) ?_
      rw [show (107 : Int32) = nI 107 from rfl, nI_eq (by have := hl.2.2.2 (tS c n p + 4) (by omega); omega) (by omega)]
      by_cases e4 : c (tS c n p + 4) = 107
      · refine br_nt e4 ?_
        have y : nqP c n p 2 := ⟨hk, nq_2.mpr ⟨i0, i1, i2, i3, i4.resolve_left (by decide), e4⟩⟩
        have e : kN c n p = 2 := by unfold kN; rw [if_neg x0, if_neg x1, if_pos y]
        rw [e, if_neg (by decide)] at hq
        exact hq
      · exact br_nf e4 (t3 x0 x1 (fun y => e4 (nq_2.mp y.2).2.2.2.2.2))
    · exact t3 x0 x1 (fun y => z ⟨(nq_2.mp y.2).1, (nq_2.mp y.2).2.1, (nq_2.mp y.2).2.2.1, (nq_2.mp y.2).2.2.2.1, Or.inr (nq_2.mp y.2).2.2.2.2.1⟩)
  unfold wX5_nameNow
  refine m_is (L := 6) (a := 108) (b := 101) (d := 110) (f := 103) hl hp e10 e11 (by decide) (by decide) (by decide) (by decide) (by decide) (fun i0 i1 i2 i3 i4 => o_t1 ?_) (fun z => o_t0 (t1 (fun y => z ⟨(nq_0.mp y.2).1, (nq_0.mp y.2).2.1, (nq_0.mp y.2).2.2.1, (nq_0.mp y.2).2.2.2.1, Or.inr (nq_0.mp y.2).2.2.2.2.1⟩)))
  refine lk _ 4 (by decide) (by omega) ?_
  rw [show (116 : Int32) = nI 116 from rfl, nI_eq (by have := hl.2.2.2 (tS c n p + 4) (by omega); omega) (by omega)]
  by_cases e4 : c (tS c n p + 4) = 116
  · refine br_nt e4 (lk _ 5 (by decide) (by omega) ?_)
    rw [show (104 : Int32) = nI 104 from rfl, nI_eq (by have := hl.2.2.2 (tS c n p + 5) (by omega); omega) (by omega)]
    by_cases e5 : c (tS c n p + 5) = 104
    · refine br_nt e5 ?_
      have y : nqP c n p 0 := ⟨hk, nq_0.mpr ⟨i0, i1, i2, i3, i4.resolve_left (by decide), e4, e5⟩⟩
      have e : kN c n p = 0 := by unfold kN; rw [if_pos y]
      rw [e, if_neg (by decide)] at hq
      exact hq
    · exact br_nf e5 (t1 (fun y => e5 (nq_0.mp y.2).2.2.2.2.2.2))
  · exact br_nf e4 (t1 (fun y => e4 (nq_0.mp y.2).2.2.2.2.2.1))
-- ===== a draft, as numbers =====
abbrev DD : Type := Nat × (Nat → Nat) × Nat × (Nat → Nat) × (Nat → Nat)
def dT (D : DD) : Nat := D.1
def dR (D : DD) : Nat → Nat := D.2.1
def dN (D : DD) : Nat := D.2.2.1
def dZ (D : DD) : Nat → Nat := D.2.2.2.1
def dY (D : DD) : Nat → Nat := D.2.2.2.2
def loN (r : Nat) : Nat := [20, 5, 1, 1, 1, 0, 0, 1, 0].getD r 0
def hiN (r : Nat) : Nat := [9999, 99, 9, 99, 99, 99, 99, 9, 999].getD r 0
def rF (r : Nat) : Nat := [1000, 20, 2, 10, 5, 3, 6, 2, 20].getD r 0
theorem rule_ok : ∀ r, r < 9 → stV 0 r = nI (loN r) ∧ stV 1 r = nI (hiN r) ∧ stV 2 r = nI (rF r) ∧ loN r ≤ 10000 ∧ hiN r ≤ 9999 ∧ (loN r ≤ rF r ∧ rF r ≤ hiN r) := by decide +kernel
def okD (D : DD) : Prop := (∀ r, r < 9 → loN r ≤ dR D r ∧ dR D r ≤ hiN r) ∧ dN D ≤ 12 ∧ (∀ j, j < dN D → dZ D j ≤ 12) ∧ (∀ j, j < dN D → ∀ i, i < dZ D j → dY D (12 * j + i) < 256) ∧ dT D < 512
theorem okD.R {D : DD} (h : okD D) : okR (dR D) ∧ 20 ≤ dR D 0 ∧ dR D 0 ≤ 9999 := by
  have g := h.1
  have g0 := g 0 (by omega)
  have g1 := g 1 (by omega)
  have g2 := g 2 (by omega)
  have g3 := g 3 (by omega)
  have g4 := g 4 (by omega)
  have g5 := g 5 (by omega)
  have g6 := g 6 (by omega)
  have g7 := g 7 (by omega)
  have g8 := g 8 (by omega)
  exact ⟨⟨⟨g1.1, g1.2, g2.1, g2.2⟩, g3, g4, g5.2, g6.2, g7, g8.2⟩, g0.1, g0.2⟩
def setR (D : DD) (k v : Nat) : DD := (dT D ||| 2 ^ k, fun r => if r = k then v else dR D r, dN D, dZ D, dY D)
def addB (D : DD) (z : Nat) (T : Nat → Nat) : DD := (dT D, dR D, dN D + 1, fun j => if j = dN D then z else dZ D j, fun x => if x < 12 * dN D then dY D x else T (x - 12 * dN D))
theorem told_lt : ∀ t, t < 512 → ∀ k, k < 9 → t ||| 2 ^ k < 512 := fun t ht k hk => by
  have h : 2 ^ k < 2 ^ 9 := Nat.pow_lt_pow_right (by omega) hk
  exact Nat.or_lt_two_pow (n := 9) ht h
theorem okD.set {D : DD} (h : okD D) {k v : Nat} (hk : k < 9) (hv : loN k ≤ v ∧ v ≤ hiN k) : okD (setR D k v) := by
  obtain ⟨h1, h2, h3, h4, h5⟩ := h
  refine ⟨fun r hr => ?_, h2, h3, h4, told_lt _ h5 k hk⟩
  show loN r ≤ (if r = k then v else dR D r) ∧ (if r = k then v else dR D r) ≤ hiN r
  by_cases e : r = k
  · subst e; rw [if_pos rfl]; exact hv
  · rw [if_neg e]; exact h1 r hr
theorem okD.add {D : DD} (h : okD D) {z : Nat} {T : Nat → Nat} (hN : dN D < 12) (hz : z ≤ 12) (hT : ∀ i, i < z → T i < 256) : okD (addB D z T) := by
  obtain ⟨h1, h2, h3, h4, h5⟩ := h
  refine ⟨h1, by show dN D + 1 ≤ 12; omega, fun j hj => ?_, fun j hj i hi => ?_, h5⟩
  · show (if j = dN D then z else dZ D j) ≤ 12
    have hj' : j < dN D + 1 := hj
    by_cases e : j = dN D
    · rw [if_pos e]; exact hz
    · rw [if_neg e]; exact h3 j (by omega)
  · have hj' : j < dN D + 1 := hj
    have hi' : i < (if j = dN D then z else dZ D j) := hi
    show (if 12 * j + i < 12 * dN D then dY D (12 * j + i) else T (12 * j + i - 12 * dN D)) < 256
    by_cases e : j = dN D
    · subst e
      rw [if_pos rfl] at hi'
      rw [if_neg (by omega), show 12 * dN D + i - 12 * dN D = i by omega]
      exact hT i hi'
    · rw [if_neg e] at hi'
      have := h3 j (by omega)
      rw [if_pos (by omega)]
      exact h4 j (by omega) i hi'
-- ===== what a line tells =====
abbrev LR : Type := Nat ⊕ (Nat × DD)
def sgF (c : Nat → Nat) (n q : Nat) (D : DD) : LR := if tK c n q = 3 then (if tK c n (tE c n q) = 4 then .inl (tS c n (tE c n q)) else .inr (tE c n q, D)) else .inl (tS c n q)
def bkF (c : Nat → Nat) (n : Nat) : Nat → Nat → Nat → (Nat → Nat) → Nat ⊕ (Nat × Nat × (Nat → Nat))
  | 0, _, q, _ => .inl (tS c n q)
  | k + 1, i, q, T => if tK c n q = 2 then (if i = 12 then .inl (tS c n q) else if 255 < tV c n q then .inl (tS c n q) else if tK c n (tE c n q) = 4 then .inl (tS c n (tE c n q)) else if tK c n (tE c n q) = 2 then bkF c n k (i + 1) (tE c n q) (fun j => if j = i then tV c n q else T j) else .inr (tE c n q, i + 1, fun j => if j = i then tV c n q else T j)) else .inl (tS c n q)
def bgF (c : Nat → Nat) (n p : Nat) (D : DD) : LR := match bkF c n 13 0 p (fun _ => 0) with
  | .inl pl => .inl pl
  | .inr x => sgF c n x.1 (addB D x.2.1 x.2.2)
def rlF (c : Nat → Nat) (n q k : Nat) (D : DD) : LR := if tK c n q = 2 ∧ loN k ≤ tV c n q ∧ tV c n q ≤ hiN k then (if tK c n (tE c n q) = 4 then .inl (tS c n (tE c n q)) else sgF c n (tE c n q) (setR D k (tV c n q))) else .inl (tS c n q)
def lnF (c : Nat → Nat) (n p : Nat) (D : DD) : LR :=
  if kN c n p = 12 then .inl (tS c n p)
  else if kN c n p ≤ 8 then (if dT D / 2 ^ kN c n p % 2 = 1 then .inl (tS c n p) else if tK c n (tE c n p) = 4 then .inl (tS c n (tE c n p)) else rlF c n (tE c n p) (kN c n p) D)
  else if 12 ≤ dN D then .inl (tS c n p)
  else if tK c n (tE c n p) = 4 then .inl (tS c n (tE c n p))
  else if kN c n p = 10 then bgF c n (tE c n p) D
  else sgF c n (tE c n p) (addB D 0 (fun _ => 0))
-- ===== the class's draft =====
def dfC (M : MM) (D : DD) : Prop := (∀ r, r < 9 → M 29 r = nI (dR D r)) ∧ M 28 8 = nI (dN D) ∧ M 28 9 = 0 ∧ M 28 10 = 0 ∧ M 28 12 = -4 ∧ M 28 13 = 0 ∧ (∀ j, j < dN D → M 31 j = nI (dZ D j)) ∧ (∀ j, j < dN D → ∀ i, i < dZ D j → M 32 (13 * j + i) = nI (odN (dY D (12 * j + i)))) ∧ (∀ j, j < dN D → M 32 (13 * j + dZ D j) = nI (rwN (fun i => dY D (12 * j + i)) (dZ D j))) ∧ (∀ j, j < dN D → ∀ i, i < dZ D j → M 33 (12 * j + i) = nI (dY D (12 * j + i)))
theorem dfC.keep {M M' : MM} {D : DD} (h : dfC M D) (e : ∀ a, a = 29 ∨ a = 31 ∨ a = 32 ∨ a = 33 → M' a = M a) (e8 : ∀ j, j ≠ 11 → M' 28 j = M 28 j) : dfC M' D := by
  unfold dfC
  rw [e 29 (by omega), e 31 (by omega), e 32 (by omega), e 33 (by omega), e8 8 (by decide), e8 9 (by decide), e8 10 (by decide), e8 12 (by decide), e8 13 (by decide)]
  exact h
theorem rwN_cg {T T' : Nat → Nat} : ∀ n, (∀ i, i < n → T i = T' i) → rwN T n = rwN T' n := by
  intro n
  induction n with
  | zero => intro _; rfl
  | succ n ih => intro h; rw [rwN, rwN, ih (fun i hi => h i (by omega)), h n (by omega)]
theorem dfC.add {M M' : MM} {D : DD} {z : Nat} {T : Nat → Nat} (h : dfC M D) (ok : okD D) (hz : z ≤ 12) (hp : pbP M M' 28 (dN D) z 0 T) : dfC M' (addB D z T) := by
  obtain ⟨h1, h2, h3, h4, h5, h6, h7, h8, h9, h10⟩ := h
  obtain ⟨p1, p2, p3, p4, p5, p6, p7, p8, p9, p10, p11, p12⟩ := hp
  have hZ := ok.2.2.1
  have eZ : ∀ j, dZ (addB D z T) j = if j = dN D then z else dZ D j := fun _ => rfl
  have eY : ∀ x, dY (addB D z T) x = if x < 12 * dN D then dY D x else T (x - 12 * dN D) := fun _ => rfl
  have eN : dN (addB D z T) = dN D + 1 := rfl
  have y0 : ∀ j i, j < dN D → i < dZ D j → dY (addB D z T) (12 * j + i) = dY D (12 * j + i) := fun j i hj hi => by
    have := hZ j hj
    rw [eY, if_pos (by omega)]
  have y1 : ∀ i, dY (addB D z T) (12 * dN D + i) = T i := fun i => by
    rw [eY, if_neg (by omega), show 12 * dN D + i - 12 * dN D = i by omega]
  refine ⟨fun r hr => ?_, p3, by rw [p2 9 (by decide)]; exact h3, by rw [p2 10 (by decide)]; exact h4, by rw [p2 12 (by decide)]; exact h5, by rw [p2 13 (by decide)]; exact h6, fun j hj => ?_, fun j hj i hi => ?_, fun j hj => ?_, fun j hj i hi => ?_⟩
  · rw [p1 29 (by decide) (by decide) (by decide) (by decide) (by decide)]; exact h1 r hr
  · rw [eN] at hj
    rw [eZ]
    by_cases e : j = dN D
    · subst e; rw [if_pos rfl]; exact p7
    · rw [if_neg e]; exact (p6 j e).trans (h7 j (by omega))
  · rw [eN] at hj
    rw [eZ] at hi
    by_cases e : j = dN D
    · subst e
      rw [if_pos rfl] at hi
      rw [y1]; exact p9 i hi
    · rw [if_neg e] at hi
      have := hZ j (by omega)
      rw [y0 j i (by omega) hi]
      exact (p8 (13 * j + i) (by omega)).trans (h8 j (by omega) i hi)
  · rw [eN] at hj
    rw [eZ]
    by_cases e : j = dN D
    · subst e
      rw [if_pos rfl]
      have e1 : M' 32 (13 * dN D + z) = nI (rwN T z) := p10
      rw [e1, rwN_cg z (fun i _ => (y1 i).symm)]
    · rw [if_neg e]
      have := hZ j (by omega)
      have e1 : M' 32 (13 * j + dZ D j) = M 32 (13 * j + dZ D j) := p8 _ (by omega)
      rw [e1, h9 j (by omega), rwN_cg (dZ D j) (fun i hi => (y0 j i (by omega) hi).symm)]
  · rw [eN] at hj
    rw [eZ] at hi
    by_cases e : j = dN D
    · subst e
      rw [if_pos rfl] at hi
      rw [y1]; exact p12 i hi
    · rw [if_neg e] at hi
      have := hZ j (by omega)
      rw [y0 j i (by omega) hi]
      exact (p11 (12 * j + i) (by omega)).trans (h10 j (by omega) i hi)
-- ===== the class at a line's head; behind a fault =====
def fr (M0 M : MM) : Prop := (∀ a, (a < 28 ∨ 38 ≤ a) → M a = M0 a) ∧ M 37 2 = M0 37 2
def clL (c : Nat → Nat) (n : Nat) (M0 M : MM) (p : Nat) (D : DD) : Prop := fr M0 M ∧ tokC c n p M ∧ M 37 7 = nI (dT D) ∧ M 37 8 = 0 ∧ dfC M D
def clX (M0 M : MM) (pl : Nat) : Prop := fr M0 M ∧ (∃ k, 1 ≤ k ∧ k ≤ 6 ∧ M 37 8 = nI k) ∧ M 37 9 = nI pl ∧ ∃ D, okD D ∧ dfC M D
theorem fr.lt {M0 M : MM} {c : Nat → Nat} {n : Nat} (h : fr M0 M) (hl : ltP M0 c n) : ltP M c n := hl.keep h.2 (h.1 38 (by omega))
theorem clX.ne {M0 M : MM} {pl : Nat} (h : clX M0 M pl) : ¬ M 37 8 = 0 := by
  obtain ⟨-, ⟨k, k1, k2, e⟩, -⟩ := h
  rw [e]
  intro z
  have := (nI_eq (b := 0) (by omega) (by omega)).mp z
  omega
/-- a fault more: only the reader's own numbers changed -/
theorem s_refuse {Q : MM → Prop} {M0 M : MM} {D : DD} {k pl : Nat} {v w : Int32} (hf : fr M0 M) (ok : okD D) (hd : dfC M D) (f : M 37 8 = 0) (ev : v = nI k) (ew : w = nI pl) (hk : 1 ≤ k ∧ k ≤ 6) (hq : ∀ M', clX M0 M' pl → (∀ a, a ≠ 37 → M' a = M a) → (∀ j, j ≠ 8 → j ≠ 9 → M' 37 j = M 37 j) → Q M') : wX3_refuse Q M v w := by
  subst ev; subst ew
  unfold wX3_refuse
  refine br_t f ?_
  rintro _ rfl _ rfl
  have ka : ∀ a, a ≠ 37 → mset (mset M 37 8 (nI k)) 37 9 (nI pl) a = M a := fun a ha => by rw [mset_n ha, mset_n ha]
  refine hq _ ⟨⟨fun a ha => by rw [ka a (by omega)]; exact hf.1 a ha, by rw [mset_sn (by decide), mset_sn (by decide)]; exact hf.2⟩, ⟨k, hk.1, hk.2, by rw [mset_sn (by decide), mset_ss]⟩, mset_ss, D, ok, hd.keep (fun a ha => ka a (by omega)) (fun j _ => by rw [ka 28 (by decide)])⟩ ka (fun j j1 j2 => by rw [mset_sn j2, mset_sn j1])
/-- a token is read, a broken one is a fault -/
theorem s_rd {Q : MM → Prop} {M0 M : MM} {c : Nat → Nat} {n p : Nat} {D : DD} (hl : ltP M0 c n) (hp : p ≤ n) (hf : fr M0 M) (e3 : M 37 3 = nI p) (e7 : M 37 7 = nI (dT D)) (e8 : M 37 8 = 0) (hd : dfC M D) (ok : okD D) (hX : tK c n p = 4 → ∀ M', clX M0 M' (tS c n p) → M' 37 4 = nI 4 → (∀ a, a ≠ 37 → M' a = M a) → Q M') (hG : tK c n p ≠ 4 → ∀ M', clL c n M0 M' p D → (∀ a, a ≠ 37 → M' a = M a) → Q M') : wX3_readToken Q M := by
  refine s_readToken (hf.lt hl) hp e3 (fun M' h => ?_)
  obtain ⟨h1, h2, h3, h4, h5, h6⟩ := h
  have hf' : fr M0 M' := ⟨fun a ha => by rw [h1 a (by omega)]; exact hf.1 a ha, by rw [h2]; exact hf.2⟩
  have hd' : dfC M' D := hd.keep (fun a ha => h1 a (by omega)) (fun j _ => by rw [h1 28 (by decide)])
  by_cases k4 : tK c n p = 4
  · exact hX k4 M' ⟨hf', ⟨1, by omega, by omega, (h5 k4 e8).1⟩, (h5 k4 e8).2, D, ok, hd'⟩ (by rw [h4.2.1, k4]) h1
  · have g := h6 (fun z => k4 z.1)
    exact hG k4 M' ⟨hf', h4, by rw [h3]; exact e7, by rw [g.1]; exact e8, hd'⟩ h1
/-- behind a fault a token is read all the same -/
theorem s_rdX {Q : MM → Prop} {M0 M : MM} {c : Nat → Nat} {n p pl : Nat} (hl : ltP M0 c n) (hp : p ≤ n) (h : clX M0 M pl) (e3 : M 37 3 = nI p) (hq : ∀ M', clX M0 M' pl → (∀ a, a ≠ 37 → M' a = M a) → Q M') : wX3_readToken Q M := by
  have hne := h.ne
  obtain ⟨hf, ⟨k, k1, k2, e8⟩, e9, D, ok, hd⟩ := h
  refine s_readToken (hf.lt hl) hp e3 (fun M' h => ?_)
  obtain ⟨h1, h2, h3, h4, h5, h6⟩ := h
  have g := h6 (fun z => hne z.2)
  exact hq M' ⟨⟨fun a ha => by rw [h1 a (by omega)]; exact hf.1 a ha, by rw [h2]; exact hf.2⟩, ⟨k, k1, k2, by rw [g.1]; exact e8⟩, by rw [g.2]; exact e9, D, ok, hd.keep (fun a ha => h1 a (by omega)) (fun j _ => by rw [h1 28 (by decide)])⟩ h1
/-- behind a fault, at a broken token: no number -/
theorem s_withinX {Q : Int32 → MM → Prop} {M0 M : MM} {pl : Nat} {lo hi : Int32} (h : clX M0 M pl) (ek : M 37 4 = nI 4) (hq : Q 0 M) : wX3_isNumberWithin Q M lo hi := by
  unfold wX3_isNumberWithin
  refine br_f (by rw [ek]; decide) ?_
  unfold wX3_refuse wX3_isNumberWithin_41
  exact br_f h.ne (br_nf h.ne hq)
theorem s_within {Q : Int32 → MM → Prop} {M0 M : MM} {c : Nat → Nat} {n q lo hi : Nat} {D : DD} (h : clL c n M0 M q D) (ok : okD D) (hlo : lo ≤ 10000) (hhi : hi ≤ 9999) (h1 : tK c n q = 2 → lo ≤ tV c n q → tV c n q ≤ hi → Q 1 M) (h0 : ¬ (tK c n q = 2 ∧ lo ≤ tV c n q ∧ tV c n q ≤ hi) → ∀ M', clX M0 M' (tS c n q) → Q 0 M') : wX3_isNumberWithin Q M (nI lo) (nI hi) := by
  obtain ⟨hf, ht, e7, e8, hd⟩ := h
  have hk := tK_le c n q
  unfold wX3_isNumberWithin
  rw [ht.2.1, show (2 : Int32) = nI 2 from rfl, nI_eq (by omega) (by omega)]
  have fin : ∀ M', clX M0 M' (tS c n q) → ¬ (tK c n q = 2 ∧ lo ≤ tV c n q ∧ tV c n q ≤ hi) → wX3_isNumberWithin_41 Q (nI lo) (nI hi) M' := by
    intro M' hx z
    unfold wX3_isNumberWithin_41
    exact br_nf hx.ne (h0 z M' hx)
  by_cases k2 : tK c n q = 2
  · have hv := tV_lt c n q k2
    refine br_t k2 (s_isBetween.mpr ?_)
    rw [ht.2.2.2 k2]
    have e : (nI lo ≤ nI (tV c n q) ∧ nI (tV c n q) ≤ nI hi) ↔ (lo ≤ tV c n q ∧ tV c n q ≤ hi) := by
      rw [nI_leI (by omega) (by omega), nI_leI (by omega) (by omega)]
    by_cases b : lo ≤ tV c n q ∧ tV c n q ≤ hi
    · refine zt1 (e.mpr b) ?_
      unfold wX3_isNumberWithin_41
      exact br_nt e8 (h1 k2 b.1 b.2)
    · refine zf1 (fun z => b (e.mp z)) (s_refuse (k := 3) hf ok hd e8 rfl ht.2.2.1 (by omega) (fun M' hx _ _ => fin M' hx (fun z => b z.2)))
  · exact br_f k2 (s_refuse (k := 2) hf ok hd e8 rfl ht.2.2.1 (by omega) (fun M' hx _ _ => fin M' hx (fun z => k2 z.1)))
/-- what a line leaves -/
def lnC (c : Nat → Nat) (n p : Nat) (M0 : MM) (r : LR) (Q : MM → Prop) : Prop := (∀ pl M', r = .inl pl → clX M0 M' pl → Q M') ∧ (∀ q D' M', r = .inr (q, D') → clL c n M0 M' q D' → okD D' → q ≤ n → p < q → tK c n q ≠ 4 → Q M')
theorem s_sign {Q : MM → Prop} {M0 M : MM} {c : Nat → Nat} {n p q : Nat} {D : DD} (hl : ltP M0 c n) (hq : q ≤ n) (hpq : p ≤ q) (h : clL c n M0 M q D) (ok : okD D) (g : lnC c n p M0 (sgF c n q D) Q) : wX3_takeSign Q M := by
  obtain ⟨hf, ht, e7, e8, hd⟩ := h
  have hk := tK_le c n q
  have hsb := tS_b (c := c) hq
  have heb := tE_b (c := c) hq
  unfold wX3_takeSign
  unfold sgF at g
  rw [ht.2.1, show (3 : Int32) = nI 3 from rfl, nI_eq (by omega) (by omega)]
  by_cases k3 : tK c n q = 3
  · rw [if_pos k3] at g
    have hgt := tE_gt (c := c) hq (by omega)
    refine br_nt k3 (s_rd hl heb.2 hf ht.1 e7 e8 hd ok (fun k4 M' hx _ _ => ?_) (fun k4 M' hx _ => ?_))
    · rw [if_pos k4] at g
      exact g.1 _ M' rfl hx
    · rw [if_neg k4] at g
      exact g.2 _ _ M' rfl hx ok heb.2 (by omega) k4
  · rw [if_neg k3] at g
    exact br_nf k3 (s_refuse (k := 2) hf ok hd e8 rfl ht.2.2.1 (by omega) (fun M' hx _ _ => g.1 _ M' rfl hx))
theorem s_60X {Q : MM → Prop} {M0 M : MM} {pl : Nat} (h : clX M0 M pl) (hq : Q M) : wX3_takeLine_60 Q M := by
  unfold wX3_takeLine_60
  exact br_nf h.ne hq
theorem s_60L {Q : MM → Prop} {M0 M : MM} {c : Nat → Nat} {n p q : Nat} {D : DD} (hl : ltP M0 c n) (hq : q ≤ n) (hpq : p ≤ q) (h : clL c n M0 M q D) (ok : okD D) (g : lnC c n p M0 (sgF c n q D) Q) : wX3_takeLine_60 Q M := by
  unfold wX3_takeLine_60
  exact br_nt h.2.2.2.1 (s_sign hl hq hpq h ok g)
theorem s_takeRule {Q : MM → Prop} {M0 M : MM} {c : Nat → Nat} {n p k : Nat} {D : DD} (hl : ltP M0 c n) (hp : p ≤ n) (hk0 : tK c n p ≠ 0) (h : clL c n M0 M p D) (ok : okD D) (hk : k < 9) (g : lnC c n p M0 (if dT D / 2 ^ k % 2 = 1 then .inl (tS c n p) else if tK c n (tE c n p) = 4 then .inl (tS c n (tE c n p)) else rlF c n (tE c n p) k D) Q) : wX3_takeRule (fun M' => wX3_takeLine_60 Q M') M (nI k) := by
  have h' := h
  obtain ⟨hf, ht, e7, e8, hd⟩ := h
  have hT := ok.2.2.2.2
  have hsb := tS_b (c := c) hp
  have heb := tE_b (c := c) hp
  have hgt := tE_gt (c := c) hp hk0
  obtain ⟨r1, r2, r3, r4, r5, r6⟩ := rule_ok k hk
  unfold wX3_takeRule
  rw [e7, bit_iff (by omega) (by omega)]
  by_cases b : dT D / 2 ^ k % 2 = 1
  · rw [if_pos b] at g
    exact br_nt b (s_refuse (k := 4) hf ok hd e8 rfl ht.2.2.1 (by omega) (fun M' hx _ _ => s_60X hx (g.1 _ M' rfl hx)))
  · rw [if_neg b] at g
    refine br_nf b ?_
    rintro _ rfl
    rw [shl_1 k (by omega), nI_or]
    have kM : ∀ v a, a ≠ 37 → mset M 37 7 v a = M a := fun v a ha => mset_n ha
    refine s_rd (D := (dT D ||| 2 ^ k, dR D, dN D, dZ D, dY D)) hl heb.2 ⟨fun a ha => by rw [kM _ a (by omega)]; exact hf.1 a ha, by rw [mset_sn (by decide)]; exact hf.2⟩ (by rw [mset_sn (by decide)]; exact ht.1) mset_ss (by rw [mset_sn (by decide)]; exact e8) (show dfC _ D from hd.keep (fun a ha => kM _ a (by omega)) (fun j _ => by rw [kM _ 28 (by decide)])) ⟨ok.1, ok.2.1, ok.2.2.1, ok.2.2.2.1, told_lt _ hT k hk⟩ (fun k4 M' hx ek _ => ?_) (fun k4 M2 h2 _ => ?_)
    · rw [if_pos k4] at g
      exact s_cell_s (i := 0) (j := k) rfl hk r1 (s_cell_s (i := 1) (j := k) rfl hk r2 (s_withinX hx ek (o_n0 (s_60X hx (g.1 _ M' rfl hx)))))
    · rw [if_neg k4] at g
      refine s_cell_s (i := 0) (j := k) rfl hk r1 (s_cell_s (i := 1) (j := k) rfl hk r2 ?_)
      unfold rlF at g
      have ok2 : okD (dT D ||| 2 ^ k, dR D, dN D, dZ D, dY D) := ⟨ok.1, ok.2.1, ok.2.2.1, ok.2.2.2.1, told_lt _ hT k hk⟩
      refine s_within h2 ok2 r4 r5 (fun k2 v1 v2 => o_n1 ?_) (fun z M' hx => o_n0 ?_)
      · rw [if_pos ⟨k2, v1, v2⟩] at g
        obtain ⟨hf2, ht2, e72, e82, hd2⟩ := h2
        have heb2 := tE_b (c := c) heb.2
        have hsb2 := tS_b (c := c) heb.2
        rw [ht2.2.2.2 k2]
        refine s_setCell (by show k < 9; exact hk) (by decide +kernel) ?_
        have k29 : ∀ v a, a ≠ 29 → mset M2 29 k v a = M2 a := fun v a ha => mset_n ha
        obtain ⟨d1, d2, d3, d4, d5, d6, d7, d8, d9, d10⟩ := hd2
        have hd3 : dfC (mset M2 29 k (nI (tV c n (tE c n p)))) (setR D k (tV c n (tE c n p))) := by
          refine ⟨fun r hr => ?_, by rw [k29 _ 28 (by decide)]; exact d2, by rw [k29 _ 28 (by decide)]; exact d3, by rw [k29 _ 28 (by decide)]; exact d4, by rw [k29 _ 28 (by decide)]; exact d5, by rw [k29 _ 28 (by decide)]; exact d6, by rw [k29 _ 31 (by decide)]; exact d7, by rw [k29 _ 32 (by decide)]; exact d8, by rw [k29 _ 32 (by decide)]; exact d9, by rw [k29 _ 33 (by decide)]; exact d10⟩
          show mset M2 29 k (nI (tV c n (tE c n p))) 29 r = nI (if r = k then tV c n (tE c n p) else dR D r)
          by_cases e : r = k
          · subst e; rw [mset_ss, if_pos rfl]
          · rw [mset_sn e, if_neg e]; exact d1 r hr
        refine s_rd (D := setR D k (tV c n (tE c n p))) hl heb2.2 ⟨fun a ha => by rw [k29 _ a (by omega)]; exact hf2.1 a ha, by rw [k29 _ 37 (by decide)]; exact hf2.2⟩ (by rw [k29 _ 37 (by decide)]; exact ht2.1) (by rw [k29 _ 37 (by decide)]; exact e72) (by rw [k29 _ 37 (by decide)]; exact e82) hd3 (ok.set hk ⟨v1, v2⟩) (fun q4 M' hx _ _ => ?_) (fun q4 M3 h3 _ => ?_)
        · rw [if_pos q4] at g
          exact s_60X hx (g.1 _ M' rfl hx)
        · rw [if_neg q4] at g
          exact s_60L hl heb2.2 (by omega) h3 (ok.set hk ⟨v1, v2⟩) g
      · rw [if_neg z] at g
        exact s_60X hx (g.1 _ M' rfl hx)
theorem s_room {Q : Int32 → MM → Prop} {M0 M : MM} {c : Nat → Nat} {n p : Nat} {D : DD} (h : clL c n M0 M p D) (ok : okD D) (h1 : dN D < 12 → Q 1 M) (h0 : 12 ≤ dN D → ∀ M', clX M0 M' (tS c n p) → Q 0 M') : wX3_hasRoomForBlock Q M := by
  obtain ⟨hf, ht, e7, e8, hd⟩ := h
  have hN := ok.2.1
  unfold wX3_hasRoomForBlock
  rw [hd.2.1, show (12 : Int32) = nI 12 from rfl, nI_leI (by omega) (by omega)]
  by_cases b : 12 ≤ dN D
  · exact br_t b (s_refuse (k := 5) hf ok hd e8 rfl ht.2.2.1 (by omega) (fun M' hx _ _ => h0 b M' hx))
  · exact br_f b (h1 (by omega))
/-- a block's end: its bytes lie typed -/
theorem s_closed {Q : MM → Prop} {M0 M : MM} {D : DD} {i : Nat} {T : Nat → Nat} (hf : fr M0 M) (hd : dfC M D) (ok : okD D) (hN : dN D < 12) (hi : i ≤ 12) (e11 : M 28 11 = nI i) (hT : ∀ j, j < i → T j < 256 ∧ M 34 j = nI (T j)) (hq : ∀ M', fr M0 M' → (∀ j, M' 37 j = M 37 j) → dfC M' (addB D i T) → okD (addB D i T) → Q M') : wX3_takeBlock_92 Q M := by
  unfold wX3_takeBlock_92
  rw [hd.2.1, e11]
  refine s_putBlock (b := 28) (bg := 0) (T := T) (Or.inr (Or.inr (Or.inr rfl))) hN hi hT (fun M' hp => ?_)
  have p1 := hp.1
  refine hq M' ⟨fun a ha => by rw [p1 a (by omega) (by omega) (by omega) (by omega) (by omega)]; exact hf.1 a ha, by rw [p1 37 (by decide) (by decide) (by decide) (by decide) (by decide)]; exact hf.2⟩ (fun j => by rw [p1 37 (by decide) (by decide) (by decide) (by decide) (by decide)]) (hd.add ok hi hp) (ok.add hN hi (fun j hj => (hT j hj).1))
theorem s_takeBlock {Q : MM → Prop} {M0 M : MM} {c : Nat → Nat} {n p : Nat} {D : DD} (hl : ltP M0 c n) (hp : p ≤ n) (hk0 : tK c n p ≠ 0) (h : clL c n M0 M p D) (ok : okD D) (g : lnC c n p M0 (if 12 ≤ dN D then .inl (tS c n p) else if tK c n (tE c n p) = 4 then .inl (tS c n (tE c n p)) else bgF c n (tE c n p) D) Q) : wX3_takeBlock (fun M' => wX3_takeLine_60 Q M') M := by
  have hsb := tS_b (c := c) hp
  have heb := tE_b (c := c) hp
  have hgt := tE_gt (c := c) hp hk0
  unfold wX3_takeBlock
  refine s_room h ok (fun hN => o_n1 ?_) (fun hN M' hx => o_n0 ?_)
  · rw [if_neg (by omega)] at g
    obtain ⟨hf, ht, e7, e8, hd⟩ := h
    rintro _ rfl
    have kj : ∀ j, j ≠ 11 → mset M 28 11 0 28 j = M 28 j := fun j hj => mset_sn hj
    have ka : ∀ a, a ≠ 28 → mset M 28 11 0 a = M a := fun a ha => mset_n ha
    refine s_rd (D := D) hl heb.2 ⟨fun a ha => by rw [ka a (by omega)]; exact hf.1 a ha, by rw [ka 37 (by decide)]; exact hf.2⟩ (by rw [ka 37 (by decide)]; exact ht.1) (by rw [ka 37 (by decide)]; exact e7) (by rw [ka 37 (by decide)]; exact e8) (hd.keep (fun a ha => ka a (by omega)) kj) ok (fun k4 M' hx ek _ => ?_) (fun k4 M2 h2 k2 => ?_)
    · -- the first token behind block is broken: the block's number is asked for, none is there
      rw [if_pos k4] at g
      refine ⟨1, br_f (by decide) (br_t rfl ?_)⟩
      unfold wX3_takeBlock_40
      exact s_withinX hx ek (o_n0 (s_60X hx (g.1 _ M' rfl hx)))
    · rw [if_neg k4] at g
      -- the numbers
      have loop : ∀ r i q T M1, i + r = 12 → p ≤ q → q ≤ n → clL c n M0 M1 q D → M1 28 11 = nI i → (∀ j, j < i → T j < 256 ∧ M1 34 j = nI (T j)) → (0 < i → tK c n q = 2) → lnC c n p M0 (match bkF c n (r + 1) i q T with | .inl pl => .inl pl | .inr x => sgF c n x.1 (addB D x.2.1 x.2.2)) Q → wX3_takeBlock_22 (fun M' => wX3_takeLine_60 Q M') (r + 2) M1 (nI i) := by
        intro r
        induction r with
        | zero =>
          intro i q T M1 hi hpq hq h1 e11 hT hk g
          have : i = 12 := by omega
          subst this
          have hk2 := hk (by omega)
          rw [bkF, if_pos hk2, if_pos rfl] at g
          obtain ⟨hf1, ht1, e71, e81, hd1⟩ := id h1
          have heq := tE_b (c := c) hq
          refine br_f (by decide +kernel) (br_f (by decide +kernel) (br_nt (by rw [ht1.2.1, hk2]; rfl) ?_))
          unfold wX3_takeBlock_40
          refine s_within (lo := 0) (hi := 255) h1 ok (by decide) (by decide) (fun _ v1 v2 => o_n1 ?_) (fun z M' hx => o_n0 (s_60X hx (g.1 _ M' rfl hx)))
          refine br_nt (by decide +kernel) (s_refuse (k := 5) hf1 ok hd1 e81 rfl ht1.2.2.1 (by omega) (fun M3 hx ka kj => ?_))
          unfold wX3_takeBlock_82
          refine s_rdX hl heq.2 hx (by rw [kj 3 (by decide) (by decide)]; exact ht1.1) (fun M4 hx4 ka4 => ?_)
          have kb : ∀ a, a ≠ 37 → M4 a = M1 a := fun a ha => by rw [ka4 a ha, ka a ha]
          refine br_t (by decide +kernel) (s_closed (T := T) hx4.1 (hd1.keep (fun a ha => kb a (by omega)) (fun j _ => by rw [kb 28 (by decide)])) ok hN (Nat.le_refl 12) (by rw [kb 28 (by decide)]; exact e11) (fun j hj => by rw [kb 34 (by decide)]; exact hT j hj) (fun M5 f5 k5 d5 o5 => ?_))
          have hx5 : clX M0 M5 (tS c n q) := by
            obtain ⟨-, ⟨k, a1, a2, a3⟩, a4, -⟩ := hx4
            exact ⟨f5, ⟨k, a1, a2, by rw [k5]; exact a3⟩, by rw [k5]; exact a4, _, o5, d5⟩
          exact s_60X hx5 (g.1 _ M5 rfl hx5)
        | succ r ih =>
          intro i q T M1 hi hpq hq h1 e11 hT hk g
          obtain ⟨hf1, ht1, e71, e81, hd1⟩ := id h1
          have heq := tE_b (c := c) hq
          have hsq := tS_b (c := c) hq
          have hkl := tK_le c n q
          have t40 : wX3_takeBlock_40 (fun M' => wX3_takeLine_60 Q M') (fun M v1 => wX3_takeBlock_22 (fun M' => wX3_takeLine_60 Q M') (r + 2) M v1) M1 (nI i) := by
            unfold wX3_takeBlock_40
            rw [bkF] at g
            refine s_within (lo := 0) (hi := 255) h1 ok (by decide) (by decide) (fun k2 v1 v2 => o_n1 ?_) (fun z M' hx => o_n0 (s_60X hx (g.1 _ M' ?_ hx)))
            · rw [if_pos k2, if_neg (by omega), if_neg (by omega)] at g
              have hgt := tE_gt (c := c) hq (by omega)
              refine br_nf (fun z => by have := (nI_eq (b := 12) (by omega) (by omega)).mp z; omega) ?_
              rw [ht1.2.2.2 k2]
              refine s_typeOne (b := 28) (y := i) (a := tV c n q) (Or.inr (Or.inr (Or.inr rfl))) e11 (by omega) ?_
              unfold wX3_takeBlock_82
              have kc : ∀ a, a ≠ 28 → a ≠ 34 → ctM M1 28 i (tV c n q) a = M1 a := fun a a1 a2 => by
                unfold ctM; rw [mset_n a1, mset_n a2]
              have k28 : ∀ j, j ≠ 11 → ctM M1 28 i (tV c n q) 28 j = M1 28 j := fun j hj => by
                unfold ctM; rw [mset_sn hj, mset_n (by decide)]
              have c11 : ctM M1 28 i (tV c n q) 28 11 = nI (i + 1) := by unfold ctM; rw [mset_ss]
              have cT : ∀ j, j < i + 1 → (if j = i then tV c n q else T j) < 256 ∧ ctM M1 28 i (tV c n q) 34 j = nI (if j = i then tV c n q else T j) := fun j hj => by
                unfold ctM
                rw [mset_n (show (34 : Nat) ≠ 28 by decide)]
                by_cases e : j = i
                · subst e; rw [if_pos rfl]; exact ⟨by omega, mset_ss⟩
                · rw [if_neg e]
                  exact ⟨(hT j (by omega)).1, (mset_sn (k := 28 + 6) e).trans (hT j (by omega)).2⟩
              have hdc : dfC (ctM M1 28 i (tV c n q)) D := hd1.keep (fun a ha => kc a (by omega) (by omega)) k28
              refine s_rd (D := D) hl heq.2 ⟨fun a ha => by rw [kc a (by omega) (by omega)]; exact hf1.1 a ha, by rw [kc 37 (by decide) (by decide)]; exact hf1.2⟩ (by rw [kc 37 (by decide) (by decide)]; exact ht1.1) (by rw [kc 37 (by decide) (by decide)]; exact e71) (by rw [kc 37 (by decide) (by decide)]; exact e81) hdc ok (fun k4 M3 hx ek ka => ?_) (fun k4 M3 h3 ka => ?_)
              · -- the next one is broken
                rw [if_pos k4] at g
                rw [nI_1]
                refine br_f (fun z => by have := (nI_ltI (a := 12) (by omega) (by omega)).mp z; omega) (br_f (fun z => by have := (nI_eq (b := 0) (by omega) (by omega)).mp z; omega) (br_nf (by rw [ek]; decide) ?_))
                refine s_closed (T := fun j => if j = i then tV c n q else T j) hx.1 (hdc.keep (fun a ha => ka a (by omega)) (fun j _ => by rw [ka 28 (by decide)])) ok hN (show i + 1 ≤ 12 by omega) (by rw [ka 28 (by decide)]; exact c11) (fun j hj => by rw [ka 34 (by decide)]; exact cT j hj) (fun M5 f5 k5 d5 o5 => ?_)
                have hx5 : clX M0 M5 (tS c n (tE c n q)) := by
                  obtain ⟨-, ⟨k, a1, a2, a3⟩, a4, -⟩ := hx
                  exact ⟨f5, ⟨k, a1, a2, by rw [k5]; exact a3⟩, by rw [k5]; exact a4, _, o5, d5⟩
                exact s_60X hx5 (g.1 _ M5 rfl hx5)
              · rw [if_neg k4] at g
                rw [nI_1]
                by_cases k2' : tK c n (tE c n q) = 2
                · rw [if_pos k2'] at g
                  exact ih (i + 1) (tE c n q) (fun j => if j = i then tV c n q else T j) M3 (by omega) (by omega) heq.2 h3 (by rw [ka 28 (by decide)]; exact c11) (fun j hj => by rw [ka 34 (by decide)]; exact cT j hj) (fun _ => k2') g
                · rw [if_neg k2'] at g
                  have hkl2 := tK_le c n (tE c n q)
                  refine br_f (fun z => by have := (nI_ltI (a := 12) (by omega) (by omega)).mp z; omega) (br_f (fun z => by have := (nI_eq (b := 0) (by omega) (by omega)).mp z; omega) (br_nf (fun z => ?_) ?_))
                  · rw [h3.2.1.2.1] at z
                    exact k2' ((nI_eq (b := 2) (by omega) (by omega)).mp z)
                  refine s_closed (T := fun j => if j = i then tV c n q else T j) h3.1 h3.2.2.2.2 ok hN (show i + 1 ≤ 12 by omega) (by rw [ka 28 (by decide)]; exact c11) (fun j hj => by rw [ka 34 (by decide)]; exact cT j hj) (fun M5 f5 k5 d5 o5 => ?_)
                  refine s_60L hl heq.2 (by omega) ⟨f5, ?_, by rw [k5]; exact h3.2.2.1, by rw [k5]; exact h3.2.2.2.1, d5⟩ o5 g
                  obtain ⟨y1, y2, y3, y4⟩ := h3.2.1
                  exact ⟨by rw [k5]; exact y1, by rw [k5]; exact y2, by rw [k5]; exact y3, fun z => by rw [k5]; exact y4 z⟩
            · by_cases k2 : tK c n q = 2
              · rw [if_pos k2]
                by_cases i12 : i = 12
                · rw [if_pos i12]
                · rw [if_neg i12, if_pos (by omega)]
              · rw [if_neg k2]
          refine br_f (fun z => by have := (nI_ltI (a := 12) (by omega) (by omega)).mp z; omega) ?_
          by_cases i0 : i = 0
          · exact br_t (by rw [i0]; rfl) t40
          · refine br_f (fun z => i0 ((nI_eq (b := 0) (by omega) (by omega)).mp z)) (br_nt ?_ t40)
            rw [ht1.2.1, hk (by omega)]; rfl
      exact ⟨14, loop 12 0 (tE c n p) (fun _ => 0) M2 (by omega) (by omega) heb.2 h2 (by rw [k2 28 (by decide), mset_ss]; rfl) (fun j hj => absurd hj (Nat.not_lt_zero _)) (fun z => absurd z (Nat.lt_irrefl _)) g⟩
  · rw [if_pos hN] at g
    exact s_60X hx (g.1 _ M' rfl hx)
theorem s_takeMark {Q : MM → Prop} {M0 M : MM} {c : Nat → Nat} {n p : Nat} {D : DD} (hl : ltP M0 c n) (hp : p ≤ n) (hk0 : tK c n p ≠ 0) (h : clL c n M0 M p D) (ok : okD D) (g : lnC c n p M0 (if 12 ≤ dN D then .inl (tS c n p) else if tK c n (tE c n p) = 4 then .inl (tS c n (tE c n p)) else sgF c n (tE c n p) (addB D 0 (fun _ => 0))) Q) : wX3_takeMark (fun M' => wX3_takeLine_60 Q M') M := by
  have hsb := tS_b (c := c) hp
  have heb := tE_b (c := c) hp
  have hgt := tE_gt (c := c) hp hk0
  unfold wX3_takeMark
  refine s_room h ok (fun hN => o_n1 ?_) (fun hN M' hx => o_n0 ?_)
  · rw [if_neg (by omega)] at g
    obtain ⟨hf, ht, e7, e8, hd⟩ := h
    rw [hd.2.1]
    refine s_putBlock (b := 28) (n := 0) (bg := 0) (T := fun _ => 0) (Or.inr (Or.inr (Or.inr rfl))) hN (by omega) (fun i hi => absurd hi (Nat.not_lt_zero _)) (fun M' hp => ?_)
    have p1 := hp.1
    have k37 : M' 37 = M 37 := p1 37 (by decide) (by decide) (by decide) (by decide) (by decide)
    have ok2 := ok.add (z := 0) (T := fun _ => 0) hN (by omega) (fun i hi => absurd hi (Nat.not_lt_zero _))
    refine s_rd (D := addB D 0 (fun _ => 0)) hl heb.2 ⟨fun a ha => by rw [p1 a (by omega) (by omega) (by omega) (by omega) (by omega)]; exact hf.1 a ha, by rw [k37]; exact hf.2⟩ (by rw [k37]; exact ht.1) (by rw [k37]; exact e7) (by rw [k37]; exact e8) (hd.add ok (by omega) hp) ok2 (fun k4 M2 hx _ _ => ?_) (fun k4 M2 h2 _ => ?_)
    · rw [if_pos k4] at g
      exact s_60X hx (g.1 _ M2 rfl hx)
    · rw [if_neg k4] at g
      exact s_60L hl heb.2 (by omega) h2 ok2 g
  · rw [if_pos hN] at g
    exact s_60X hx (g.1 _ M' rfl hx)
theorem kN_c (c : Nat → Nat) (n p : Nat) : kN c n p ≤ 8 ∨ kN c n p = 10 ∨ kN c n p = 11 ∨ kN c n p = 12 := by
  unfold kN
  repeat' split
  all_goals omega
theorem s_takeLine {Q : MM → Prop} {M0 M : MM} {c : Nat → Nat} {n p : Nat} {D : DD} (hl : ltP M0 c n) (hp : p ≤ n) (hk0 : tK c n p ≠ 0) (h : clL c n M0 M p D) (ok : okD D) (g : lnC c n p M0 (lnF c n p D) Q) : wX3_takeLine Q M := by
  have hlM := h.1.lt hl
  unfold wX3_takeLine
  unfold lnF at g
  refine s_ruleNamed hlM hp h.2.1 (fun k8 => ?_) (fun hn => ?_)
  · rw [if_neg (by omega), if_pos k8] at g
    refine br_f (fun z => ?_) (s_takeRule hl hp hk0 h ok (by omega) g)
    have : (0 : Int32) ≤ nI (kN c n p) := nI_le (a := 0) (Nat.zero_le _) (by omega)
    rw [z] at this
    exact absurd this (by decide)
  · refine br_t rfl (s_isNamed hlM hp h.2.1 (by decide) (fun x9 => o_t1 ?_) (fun x9 => o_t0 ?_))
    · have e : kN c n p = 10 := by unfold kN; rw [if_neg (hn 0 (by decide)), if_neg (hn 1 (by decide)), if_neg (hn 2 (by decide)), if_neg (hn 3 (by decide)), if_neg (hn 4 (by decide)), if_neg (hn 5 (by decide)), if_neg (hn 6 (by decide)), if_neg (hn 7 (by decide)), if_neg (hn 8 (by decide)), if_pos x9]
      rw [e, if_neg (by decide), if_neg (by decide), if_pos rfl] at g
      exact s_takeBlock hl hp hk0 h ok g
    · refine s_isNamed hlM hp h.2.1 (by decide) (fun x10 => o_t1 ?_) (fun x10 => o_t0 ?_)
      · have e : kN c n p = 11 := by unfold kN; rw [if_neg (hn 0 (by decide)), if_neg (hn 1 (by decide)), if_neg (hn 2 (by decide)), if_neg (hn 3 (by decide)), if_neg (hn 4 (by decide)), if_neg (hn 5 (by decide)), if_neg (hn 6 (by decide)), if_neg (hn 7 (by decide)), if_neg (hn 8 (by decide)), if_neg x9, if_pos x10]
        rw [e, if_neg (show ¬ (11 : Nat) = 12 by decide), if_neg (show ¬ (11 : Nat) ≤ 8 by decide), if_neg (show ¬ (11 : Nat) = 10 by decide)] at g
        exact s_takeMark hl hp hk0 h ok g
      · have e : kN c n p = 12 := by unfold kN; rw [if_neg (hn 0 (by decide)), if_neg (hn 1 (by decide)), if_neg (hn 2 (by decide)), if_neg (hn 3 (by decide)), if_neg (hn 4 (by decide)), if_neg (hn 5 (by decide)), if_neg (hn 6 (by decide)), if_neg (hn 7 (by decide)), if_neg (hn 8 (by decide)), if_neg x9, if_neg x10]
        rw [if_pos e] at g
        exact s_refuse (k := 2) h.1 ok h.2.2.2.2 h.2.2.2.1 rfl h.2.1.2.2.1 (by omega) (fun M' hx _ _ => s_60X hx (g.1 _ M' rfl hx))
-- ===== the reference's draft =====
def dfM (M : MM) (D : DD) : Prop := (∀ r, r < 9 → M 56 r = nI (dR D r)) ∧ M 52 4 = nI (dN D) ∧ (∀ j, j < dN D → M 57 j = nI (dZ D j)) ∧ ∀ j, j < dN D → ∀ i, i < dZ D j → M 58 (12 * j + i) = nI (dY D (12 * j + i))
theorem dfM.keep {M M' : MM} {D : DD} (h : dfM M D) (e : ∀ a, a = 56 ∨ a = 57 ∨ a = 58 → M' a = M a) (e4 : M' 52 4 = M 52 4) : dfM M' D := by
  unfold dfM
  rw [e 56 (by omega), e 57 (by omega), e 58 (by omega), e4]
  exact h
def fm (M0 M : MM) : Prop := (∀ a, a ≠ 52 → a ≠ 56 → a ≠ 57 → a ≠ 58 → M a = M0 a) ∧ ∀ j, (j < 4 ∨ j = 9 ∨ 16 ≤ j) → M 52 j = M0 52 j
def mlL (c : Nat → Nat) (n : Nat) (M0 M : MM) (p : Nat) (D : DD) : Prop := fm M0 M ∧ tokM c n p M ∧ M 52 7 = nI (dT D) ∧ M 52 14 = 0 ∧ dfM M D
def mlX (M0 M : MM) (pl : Nat) : Prop := fm M0 M ∧ (∃ k, 1 ≤ k ∧ k ≤ 6 ∧ M 52 14 = nI k) ∧ M 52 15 = nI pl
theorem fm.lt {M0 M : MM} {c : Nat → Nat} {n : Nat} (h : fm M0 M) (hl : ltM M0 c n) : ltM M c n := hl.keep (h.2 9 (by omega)) (h.1 59 (by decide) (by decide) (by decide) (by decide))
theorem mlX.ne {M0 M : MM} {pl : Nat} (h : mlX M0 M pl) : ¬ M 52 14 = 0 := by
  obtain ⟨-, ⟨k, k1, k2, e⟩, -⟩ := h
  rw [e]
  intro z
  have := (nI_eq (b := 0) (by omega) (by omega)).mp z
  omega
theorem mlX.gt {M0 M : MM} {pl : Nat} (h : mlX M0 M pl) : ¬ M 52 14 ≤ 0 := by
  obtain ⟨-, ⟨k, k1, k2, e⟩, -⟩ := h
  rw [e, show (0 : Int32) = nI 0 from rfl, nI_leI (by omega) (by omega)]
  omega
theorem mlX.next {Q : MM → Prop} {M0 M : MM} {pl : Nat} (h : mlX M0 M pl) (hq : Q M) : wX5_next Q M := by
  obtain ⟨-, ⟨k, k1, k2, e⟩, -⟩ := h
  exact m_nextF k1 (by omega) e hq
theorem m_fault {Q : MM → Prop} {M0 M : MM} {k pl : Nat} {v : Int32} (hf : fm M0 M) (f : M 52 14 = 0) (ev : v = nI k) (hk : 1 ≤ k ∧ k ≤ 6) (e11 : M 52 11 = nI pl) (hq : ∀ M', mlX M0 M' pl → Q M') : wX5_needs Q M 0 v := by
  refine m_needs0 f (fun M' h1 h2 h3 h4 => hq M' ⟨⟨fun a a1 a2 a3 a4 => by rw [h1 a a1]; exact hf.1 a a1 a2 a3 a4, fun j hj => by rw [h2 j (by omega) (by omega)]; exact hf.2 j hj⟩, ⟨k, hk.1, hk.2, by rw [h3, ev]⟩, by rw [h4, e11]⟩)
theorem m_rd {Q : MM → Prop} {M0 M : MM} {c : Nat → Nat} {n p : Nat} {D : DD} (hl : ltM M0 c n) (hp : p ≤ n) (hf : fm M0 M) (e10 : M 52 10 = nI p) (e7 : M 52 7 = nI (dT D)) (e14 : M 52 14 = 0) (hd : dfM M D) (hX : tK c n p = 4 → ∀ M', mlX M0 M' (tS c n p) → Q M') (hG : tK c n p ≠ 4 → ∀ M', mlL c n M0 M' p D → (∀ a, a ≠ 52 → M' a = M a) → Q M') : wX5_next Q M := by
  refine m_next (hf.lt hl) hp e14 e10 (fun M' h => ?_)
  obtain ⟨h1, h2, h3, h4, h5⟩ := h
  have hf' : fm M0 M' := ⟨fun a a1 a2 a3 a4 => by rw [h1 a a1]; exact hf.1 a a1 a2 a3 a4, fun j hj => by rw [h2 j (by omega)]; exact hf.2 j hj⟩
  by_cases k4 : tK c n p = 4
  · exact hX k4 M' ⟨hf', ⟨1, by omega, by omega, (h4 k4).1⟩, (h4 k4).2⟩
  · exact hG k4 M' ⟨hf', h3, by rw [h2 7 (by omega)]; exact e7, h5 k4, hd.keep (fun a ha => h1 a (by omega)) (h2 4 (by omega))⟩ h1
/-- a number is asked for -/
theorem m_readNumber {Q : Int32 → MM → Prop} {M0 M : MM} {c : Nat → Nat} {n q lo hi : Nat} {D : DD} (hl : ltM M0 c n) (hq : q ≤ n) (h : mlL c n M0 M q D) (k4 : tK c n q ≠ 4) (hlo : lo ≤ 10000) (hhi : hi ≤ 9999) (hB : ¬ (tK c n q = 2 ∧ lo ≤ tV c n q ∧ tV c n q ≤ hi) → ∀ v M', mlX M0 M' (tS c n q) → Q v M') (hX : tK c n q = 2 → lo ≤ tV c n q → tV c n q ≤ hi → tK c n (tE c n q) = 4 → ∀ v M', mlX M0 M' (tS c n (tE c n q)) → Q v M') (hG : tK c n q = 2 → lo ≤ tV c n q → tV c n q ≤ hi → tK c n (tE c n q) ≠ 4 → ∀ M', mlL c n M0 M' (tE c n q) D → (∀ a, a ≠ 52 → M' a = M a) → Q (nI (tV c n q)) M') : wX5_readNumber Q M (nI lo) (nI hi) := by
  obtain ⟨hf, ht, e7, e14, hd⟩ := h
  obtain ⟨e10, e11, e12⟩ := ht.1 k4
  have hkl := tK_le c n q
  have heq := tE_b (c := c) hq
  have x49 : ∀ M', mlX M0 M' (tS c n q) → ¬ (tK c n q = 2 ∧ lo ≤ tV c n q ∧ tV c n q ≤ hi) → wX5_readNumber_49 Q (nI lo) (nI hi) M' := by
    intro M' hx z
    unfold wX5_readNumber_49
    exact hx.next (hB z _ M' hx)
  unfold wX5_readNumber
  refine br_nt e14 ?_
  rw [e12, show (2 : Int32) = nI 2 from rfl, nI_eq (by omega) (by omega)]
  by_cases k2 : tK c n q = 2
  · have hv := tV_lt c n q k2
    refine br_nt k2 ?_
    unfold wX5_readNumber_21
    refine m_needs1 ?_
    unfold wX5_readNumber_25
    refine br_nt e14 ?_
    rw [ht.2 k2]
    refine m_in32 (nI lo) (nI hi) rfl rfl ?_
    have e : (nI lo ≤ nI (tV c n q) ∧ nI (tV c n q) ≤ nI hi) ↔ (lo ≤ tV c n q ∧ tV c n q ≤ hi) := by
      rw [nI_leI (by omega) (by omega), nI_leI (by omega) (by omega)]
    by_cases b : lo ≤ tV c n q ∧ tV c n q ≤ hi
    · rw [bI_t (e.mpr b)]
      refine m_needs1 ?_
      unfold wX5_readNumber_49
      rw [ht.2 k2]
      exact m_rd hl heq.2 hf e10 e7 e14 hd (fun q4 M' hx => hX k2 b.1 b.2 q4 _ M' hx) (fun q4 M' hx ha => hG k2 b.1 b.2 q4 M' hx ha)
    · rw [bI_f (fun z => b (e.mp z))]
      exact m_fault (k := 3) hf e14 rfl (by omega) e11 (fun M' hx => x49 M' hx (fun z => b z.2))
  · refine br_nf k2 ?_
    unfold wX5_readNumber_21
    refine m_fault (k := 2) hf e14 rfl (by omega) e11 (fun M' hx => ?_)
    unfold wX5_readNumber_25
    exact br_nf hx.ne (x49 M' hx (fun z => k2 z.1))
/-- what a line leaves -/
def lnM (c : Nat → Nat) (n p : Nat) (M0 : MM) (r : LR) (Q : MM → Prop) : Prop := (∀ pl M', r = .inl pl → mlX M0 M' pl → Q M') ∧ (∀ q D' M', r = .inr (q, D') → mlL c n M0 M' q D' → okD D' → q ≤ n → p < q → tK c n q ≠ 4 → Q M')
theorem m_177X {Q : MM → Prop} {M0 M : MM} {pl : Nat} (h : mlX M0 M pl) (hq : Q M) : wX5_readLine_177 Q M := by
  unfold wX5_readLine_177 wX5_readLine_202
  exact br_nf h.ne (h.next hq)
theorem m_177L {Q : MM → Prop} {M0 M : MM} {c : Nat → Nat} {n p q : Nat} {D : DD} (hl : ltM M0 c n) (hq : q ≤ n) (hpq : p ≤ q) (h : mlL c n M0 M q D) (k4 : tK c n q ≠ 4) (ok : okD D) (g : lnM c n p M0 (sgF c n q D) Q) : wX5_readLine_177 Q M := by
  obtain ⟨hf, ht, e7, e14, hd⟩ := h
  obtain ⟨e10, e11, e12⟩ := ht.1 k4
  have hkl := tK_le c n q
  have heq := tE_b (c := c) hq
  have hsq := tS_b (c := c) hq
  unfold wX5_readLine_177 wX5_readLine_198
  unfold sgF at g
  refine br_nt e14 ?_
  rw [e12, show (3 : Int32) = nI 3 from rfl, nI_eq (by omega) (by omega)]
  by_cases k3 : tK c n q = 3
  · rw [if_pos k3] at g
    have hgt := tE_gt (c := c) hq (by omega)
    refine br_nt k3 (m_needs1 ?_)
    unfold wX5_readLine_202
    refine m_rd hl heq.2 hf e10 e7 e14 hd (fun q4 M' hx => ?_) (fun q4 M' hx _ => ?_)
    · rw [if_pos q4] at g; exact g.1 _ M' rfl hx
    · rw [if_neg q4] at g; exact g.2 _ _ M' rfl hx ok heq.2 (by omega) q4
  · rw [if_neg k3] at g
    refine br_nf k3 (m_fault (k := 2) hf e14 rfl (by omega) e11 (fun M' hx => ?_))
    unfold wX5_readLine_202
    exact hx.next (g.1 _ M' rfl hx)
theorem m_105X {Q : MM → Prop} {M0 M : MM} {pl : Nat} {v : Int32} (h : mlX M0 M pl) (hq : Q M) : wX5_readLine_105 Q M v := by
  unfold wX5_readLine_105
  exact h.next (br_f h.gt hq)
theorem m_lowest {Q : Int32 → MM → Prop} {M : MM} {k : Nat} (hk : k < 9) (hq : Q (nI (loN k)) M) : wX5_lowest Q M (nI k) := by
  have h : ∀ k, k < 9 → (nI k = 0 ↔ k = 0) ∧ (nI k = 1 ↔ k = 1) ∧ (nI k = 5 ↔ k = 5) ∧ (nI k = 6 ↔ k = 6) ∧ (nI k = 8 ↔ k = 8) ∧ loN k = (if k = 0 then 20 else if k = 1 then 5 else if k = 5 then 0 else if k = 6 then 0 else if k = 8 then 0 else 1) := by decide +kernel
  obtain ⟨h0, h1, h5, h6, h8, hv⟩ := h k hk
  unfold wX5_lowest
  rw [h0, h1, h5, h6, h8]
  rw [hv] at hq
  by_cases c0 : k = 0
  · rw [if_pos c0] at hq; exact br_nt c0 hq
  · rw [if_neg c0] at hq
    refine br_nf c0 ?_
    by_cases c1 : k = 1
    · rw [if_pos c1] at hq; exact br_nt c1 hq
    · rw [if_neg c1] at hq
      refine br_nf c1 ?_
      by_cases c5 : k = 5
      · rw [if_pos c5] at hq; exact br_t c5 hq
      · rw [if_neg c5] at hq
        refine br_f c5 ?_
        by_cases c6 : k = 6
        · rw [if_pos c6] at hq; exact br_t c6 hq
        · rw [if_neg c6] at hq
          refine br_f c6 ?_
          by_cases c8 : k = 8
          · rw [if_pos c8] at hq; exact br_nt c8 hq
          · rw [if_neg c8] at hq; exact br_nf c8 hq
theorem m_highest {Q : Int32 → MM → Prop} {M : MM} {k : Nat} (hk : k < 9) (hq : Q (nI (hiN k)) M) : wX5_highest Q M (nI k) := by
  have h : ∀ k, k < 9 → (nI k = 0 ↔ k = 0) ∧ (nI k = 2 ↔ k = 2) ∧ (nI k = 7 ↔ k = 7) ∧ (nI k = 8 ↔ k = 8) ∧ hiN k = (if k = 0 then 9999 else if k = 2 then 9 else if k = 7 then 9 else if k = 8 then 999 else 99) := by decide +kernel
  obtain ⟨h0, h2, h7, h8, hv⟩ := h k hk
  unfold wX5_highest
  rw [h0, h2, h7, h8]
  rw [hv] at hq
  by_cases c0 : k = 0
  · rw [if_pos c0] at hq; exact br_nt c0 hq
  · rw [if_neg c0] at hq
    refine br_nf c0 ?_
    by_cases c2 : k = 2
    · rw [if_pos c2] at hq; exact br_t c2 hq
    · rw [if_neg c2] at hq
      refine br_f c2 ?_
      by_cases c7 : k = 7
      · rw [if_pos c7] at hq; exact br_nt c7 hq
      · rw [if_neg c7] at hq
        refine br_nf c7 ?_
        by_cases c8 : k = 8
        · rw [if_pos c8] at hq; exact br_nt c8 hq
        · rw [if_neg c8] at hq; exact br_nf c8 hq
theorem a5x : alen 56 = 9 ∧ alen 57 = 12 ∧ alen 58 = 144 ∧ alen 55 = 9 := by decide +kernel
/-- a block more -/
theorem m_82 {Q : MM → Prop} {M0 M : MM} {c : Nat → Nat} {n p q i : Nat} {D : DD} {T : Nat → Nat} (hl : ltM M0 c n) (hq : q ≤ n) (hpq : p ≤ q) (h : mlL c n M0 M q D) (k4 : tK c n q ≠ 4) (ok : okD D) (hN : dN D < 12) (hi : i ≤ 12) (hT : ∀ j, j < i → T j < 256 ∧ M 58 (12 * dN D + j) = nI (T j)) (g : lnM c n p M0 (sgF c n q (addB D i T)) Q) (M1 M2 : MM) (e1 : M1 = mset M 57 (dN D) (nI i)) (e2 : M2 = mset M1 52 4 (M1 52 4 + 1)) : wX5_readLine_177 Q M2 := by
  subst e1; subst e2
  obtain ⟨hf, ht, e7, e14, d1, d2, d3, d4⟩ := h
  have kj : ∀ j, j ≠ 4 → mset (mset M 57 (dN D) (nI i)) 52 4 (mset M 57 (dN D) (nI i) 52 4 + 1) 52 j = M 52 j := fun j hj => by rw [mset_sn hj, mset_n (by decide)]
  have ka : ∀ a, a ≠ 52 → a ≠ 57 → mset (mset M 57 (dN D) (nI i)) 52 4 (mset M 57 (dN D) (nI i) 52 4 + 1) a = M a := fun a a1 a2 => by rw [mset_n a1, mset_n a2]
  refine m_177L hl hq hpq ⟨⟨fun a a1 a2 a3 a4 => by rw [ka a a1 a3]; exact hf.1 a a1 a2 a3 a4, fun j hj => by rw [kj j (by omega)]; exact hf.2 j hj⟩, ⟨fun z => by rw [kj 10 (by decide), kj 11 (by decide), kj 12 (by decide)]; exact ht.1 z, fun z => by rw [kj 13 (by decide)]; exact ht.2 z⟩, by rw [kj 7 (by decide)]; exact e7, by rw [kj 14 (by decide)]; exact e14, fun r hr => by rw [ka 56 (by decide) (by decide)]; exact d1 r hr, ?_, fun j hj => ?_, fun j hj i' hi' => ?_⟩ k4 (ok.add hN hi (fun j hj => (hT j hj).1)) g
  · rw [mset_ss, mset_n (by decide), d2, nI_1]; rfl
  · have hj' : j < dN D + 1 := hj
    rw [mset_n (by decide)]
    show mset M 57 (dN D) (nI i) 57 j = nI (if j = dN D then i else dZ D j)
    by_cases e : j = dN D
    · subst e; rw [mset_ss, if_pos rfl]
    · rw [mset_sn e, if_neg e]; exact d3 j (by omega)
  · have hj' : j < dN D + 1 := hj
    have hi2 : i' < (if j = dN D then i else dZ D j) := hi'
    rw [ka 58 (by decide) (by decide)]
    show M 58 (12 * j + i') = nI (if 12 * j + i' < 12 * dN D then dY D (12 * j + i') else T (12 * j + i' - 12 * dN D))
    by_cases e : j = dN D
    · subst e
      rw [if_pos rfl] at hi2
      rw [if_neg (by omega), show 12 * dN D + i' - 12 * dN D = i' by omega]
      exact (hT i' hi2).2
    · rw [if_neg e] at hi2
      have := ok.2.2.1 j (by omega)
      rw [if_pos (by omega)]
      exact d4 j (by omega) i' hi2
theorem m_blkX {Q : MM → Prop} {M0 M : MM} {pl r : Nat} {v1 v2 : Int32} (h : mlX M0 M pl) (hq : Q M) : wX5_readBlock_4 Q (r + 1) M v1 v2 := by
  refine br_nf h.ne ?_
  unfold wX5_readBlock_82
  exact br_nf h.ne hq
theorem m_65X {Q : MM → Prop} {M0 M : MM} {pl r : Nat} {v1 : Int32} (h : mlX M0 M pl) (hq : Q M) : wX5_readBlock_65 Q (fun M v1 v2 => wX5_readBlock_4 Q (r + 1) M v1 v2) M v1 := by
  unfold wX5_readBlock_65 wX5_readBlock_78
  exact ⟨fun _ => m_blkX h hq, fun _ => m_blkX h hq⟩
theorem m_readBlock {Q : MM → Prop} {M0 M : MM} {c : Nat → Nat} {n p q : Nat} {D : DD} (hl : ltM M0 c n) (hq : q ≤ n) (hpq : p ≤ q) (h : mlL c n M0 M q D) (k4 : tK c n q ≠ 4) (ok : okD D) (hN : dN D < 12) (g : lnM c n p M0 (bgF c n q D) Q) : wX5_readBlock (fun M' => wX5_readLine_177 Q M') M := by
  have loop : ∀ r i q T M1, i + r = 12 → p ≤ q → q ≤ n → mlL c n M0 M1 q D → tK c n q ≠ 4 → (∀ j, j < i → T j < 256 ∧ M1 58 (12 * dN D + j) = nI (T j)) → (0 < i → tK c n q = 2) → lnM c n p M0 (match bkF c n (r + 1) i q T with | .inl pl => .inl pl | .inr x => sgF c n x.1 (addB D x.2.1 x.2.2)) Q → wX5_readBlock_4 (fun M' => wX5_readLine_177 Q M') (r + 2) M1 (nI i) 1 := by
    intro r
    induction r with
    | zero =>
      intro i q T M1 hi hpq hq h1 k4 hT hk g
      have : i = 12 := by omega
      subst this
      have hk2 := hk (by omega)
      rw [bkF, if_pos hk2, if_pos rfl] at g
      obtain ⟨hf1, ht1, e71, e141, hd1⟩ := id h1
      obtain ⟨e10, e11, e12⟩ := ht1.1 k4
      refine br_nt e141 (br_f (by decide) (br_t (by decide +kernel) ?_))
      unfold wX5_readBlock_27
      refine m_fault (k := 5) hf1 e141 rfl (by omega) e11 (fun M3 hx => ?_)
      unfold wX5_readNumber wX5_readNumber_25 wX5_readNumber_49
      exact br_nf hx.ne (br_nf hx.ne (hx.next (br_nf hx.ne (m_65X hx (m_177X hx (g.1 _ M3 rfl hx))))))
    | succ r ih =>
      intro i q T M1 hi hpq hq h1 k4 hT hk g
      obtain ⟨hf1, ht1, e71, e141, hd1⟩ := id h1
      have heq := tE_b (c := c) hq
      have hsq := tS_b (c := c) hq
      refine br_nt e141 (br_f (by decide) (br_f (fun z => by have := (nI_leI (a := 12) (by omega) (by omega)).mp z; omega) ?_))
      unfold wX5_readBlock_27
      rw [bkF] at g
      refine m_needs1 (m_readNumber (lo := 0) (hi := 255) hl hq h1 k4 (by decide) (by decide) (fun z v M' hx => ?_) (fun k2 v1 v2 q4 v M' hx => ?_) (fun k2 v1 v2 q4 M3 h3 ha => ?_))
      · refine br_nf hx.ne (m_65X hx (m_177X hx (g.1 _ M' ?_ hx)))
        by_cases k2 : tK c n q = 2
        · rw [if_pos k2, if_neg (by omega), if_pos (by omega)]
        · rw [if_neg k2]
      · rw [if_pos k2, if_neg (by omega), if_neg (by omega), if_pos q4] at g
        exact br_nf hx.ne (m_65X hx (m_177X hx (g.1 _ M' rfl hx)))
      · rw [if_pos k2, if_neg (by omega), if_neg (by omega), if_neg q4] at g
        have hgt := tE_gt (c := c) hq (by omega)
        have h3' := h3
        obtain ⟨hf3, ht3, e73, e143, hd3⟩ := h3
        obtain ⟨e10, e11, e12⟩ := ht3.1 q4
        have hkl := tK_le c n (tE c n q)
        refine br_nt e143 ?_
        rw [hd3.2.1, show (12 : Int32) = nI 12 from rfl, pk_mul, nI_add, clamp_nI (by omega)]
        refine ⟨vp_nI (by rw [a5x.2.2.1]; omega) (by rw [a5x.2.2.1]; decide), ?_⟩
        rintro _ rfl
        have k58 : ∀ a, a ≠ 58 → mset M3 58 (12 * dN D + i) (nI (tV c n q)) a = M3 a := fun a ha => mset_n ha
        have h4 : mlL c n M0 (mset M3 58 (12 * dN D + i) (nI (tV c n q))) (tE c n q) D := by
          refine ⟨⟨fun a a1 a2 a3 a4 => by rw [k58 a a4]; exact hf3.1 a a1 a2 a3 a4, fun j hj => by rw [k58 52 (by decide)]; exact hf3.2 j hj⟩, ⟨fun z => by rw [k58 52 (by decide)]; exact ht3.1 z, fun z => by rw [k58 52 (by decide)]; exact ht3.2 z⟩, by rw [k58 52 (by decide)]; exact e73, by rw [k58 52 (by decide)]; exact e143, fun r hr => by rw [k58 56 (by decide)]; exact hd3.1 r hr, by rw [k58 52 (by decide)]; exact hd3.2.1, fun j hj => by rw [k58 57 (by decide)]; exact hd3.2.2.1 j hj, fun j hj i' hi' => ?_⟩
          have := ok.2.2.1 j hj
          rw [mset_sn (by omega)]
          exact hd3.2.2.2 j hj i' hi'
        have hT4 : ∀ j, j < i + 1 → (if j = i then tV c n q else T j) < 256 ∧ mset M3 58 (12 * dN D + i) (nI (tV c n q)) 58 (12 * dN D + j) = nI (if j = i then tV c n q else T j) := fun j hj => by
          by_cases e : j = i
          · subst e; rw [if_pos rfl]; exact ⟨by omega, mset_ss⟩
          · rw [if_neg e, mset_sn (by omega), ha 58 (by decide)]; exact hT j (by omega)
        have e12' : mset M3 58 (12 * dN D + i) (nI (tV c n q)) 52 12 = nI (tK c n (tE c n q)) := by rw [k58 52 (by decide)]; exact e12
        unfold wX5_readBlock_65 wX5_readBlock_78
        rw [e12', show (2 : Int32) = nI 2 from rfl, nI_eq (by omega) (by omega), nI_1]
        by_cases k2' : tK c n (tE c n q) = 2
        · rw [if_pos k2'] at g
          exact br_nt k2' (ih (i + 1) (tE c n q) (fun j => if j = i then tV c n q else T j) _ (by omega) (by omega) heq.2 h4 q4 hT4 (fun _ => k2') g)
        · rw [if_neg k2'] at g
          refine br_nf k2' (br_nt h4.2.2.2.1 (br_t rfl ?_))
          unfold wX5_readBlock_82
          refine br_nt h4.2.2.2.1 ?_
          rw [h4.2.2.2.2.2.1, clamp_nI (by omega)]
          refine ⟨vp_nI (by rw [a5x.2.1]; omega) (by rw [a5x.2.1]; decide), ?_⟩
          intro M5 e5 M6 e6
          exact m_82 (T := fun j => if j = i then tV c n q else T j) hl heq.2 (by omega) h4 q4 ok hN (show i + 1 ≤ 12 by omega) hT4 g M5 M6 e5 e6
  exact ⟨14, loop 12 0 q (fun _ => 0) M (by omega) hpq hq h k4 (fun j hj => absurd hj (Nat.not_lt_zero _)) (fun z => absurd z (Nat.lt_irrefl _)) g⟩
theorem m_readLine {Q : MM → Prop} {M0 M : MM} {c : Nat → Nat} {n p : Nat} {D : DD} (hl : ltM M0 c n) (hp : p ≤ n) (hk0 : tK c n p ≠ 0) (k4 : tK c n p ≠ 4) (h : mlL c n M0 M p D) (ok : okD D) (g : lnM c n p M0 (lnF c n p D) Q) : wX5_readLine Q M := by
  have h' := h
  obtain ⟨hf, ht, e7, e14, hd⟩ := h
  obtain ⟨e10, e11, e12⟩ := ht.1 k4
  have hlM := hf.lt hl
  have hkl := tK_le c n p
  have hsb := tS_b (c := c) hp
  have heb := tE_b (c := c) hp
  have hgt := tE_gt (c := c) hp hk0
  have hN12 := ok.2.1
  have hT := ok.2.2.2.2
  -- behind the name
  have t17 : wX5_readLine_17 Q M (if kN c n p = 12 then -4 else nI (kN c n p)) := by
    unfold lnF at g
    unfold wX5_readLine_17
    by_cases k12 : kN c n p = 12
    · rw [if_pos k12] at g
      rw [if_pos k12]
      refine br_t rfl ?_
      unfold wX5_readLine_30
      refine m_fault (k := 2) hf e14 rfl (by omega) e11 (fun M' hx => ?_)
      refine br_t (by decide) ?_
      unfold wX5_readLine_50 wX5_readLine_55
      exact m_needs1 (br_nf hx.ne (m_105X hx (g.1 _ M' rfl hx)))
    · rw [if_neg k12] at g
      rw [if_neg k12]
      have hkc := kN_c c n p
      refine br_f (fun z => ?_) ?_
      · have : (0 : Int32) ≤ nI (kN c n p) := nI_le (a := 0) (Nat.zero_le _) (by omega)
        rw [z] at this
        exact absurd this (by decide)
      unfold wX5_readLine_30
      refine m_needs1 ?_
      rw [show (10 : Int32) = nI 10 from rfl, nI_ltI (by omega) (by omega)]
      by_cases k8 : kN c n p ≤ 8
      · -- a rule
        rw [if_pos k8] at g
        have hk9 : kN c n p < 9 := by omega
        obtain ⟨r1, r2, r3, r4, r5, r6⟩ := rule_ok _ hk9
        refine br_t (by omega) ?_
        unfold wX5_readLine_50 wX5_readLine_55
        refine m_needs1 (br_nt e14 ?_)
        rw [show (10 : Int32) = nI 10 from rfl, nI_leI (by omega) (by omega)]
        refine br_f (by omega) ?_
        rw [e7, bit_if0 (by omega) (by omega)]
        unfold wX5_readLine_89
        by_cases b : dT D / 2 ^ kN c n p % 2 = 1
        · rw [if_pos b] at g
          refine br_nf (fun z => z b) (m_fault (k := 4) hf e14 rfl (by omega) e11 (fun M' hx => ?_))
          rintro _ rfl
          have hx2 : mlX M0 (mset M' 52 7 (M' 52 7 ||| (1 <<< (nI (kN c n p) &&& 31)))) (tS c n p) := by
            obtain ⟨f1, ⟨k, a1, a2, a3⟩, a4⟩ := hx
            exact ⟨⟨fun a b1 b2 b3 b4 => by rw [mset_n b1]; exact f1.1 a b1 b2 b3 b4, fun j hj => by rw [mset_sn (by omega)]; exact f1.2 j hj⟩, ⟨k, a1, a2, by rw [mset_sn (by decide)]; exact a3⟩, by rw [mset_sn (by decide)]; exact a4⟩
          exact m_105X hx2 (g.1 _ _ rfl hx2)
        · rw [if_neg b] at g
          refine br_nt b (m_needs1 ?_)
          rintro _ rfl
          rw [e7, shl_1 _ (by omega), nI_or]
          have kj : ∀ v j, j ≠ 7 → mset M 52 7 v 52 j = M 52 j := fun v j hj => mset_sn hj
          unfold wX5_readLine_105
          refine m_rd (D := (dT D ||| 2 ^ kN c n p, dR D, dN D, dZ D, dY D)) hl heb.2 ⟨fun a a1 a2 a3 a4 => by rw [mset_n a1]; exact hf.1 a a1 a2 a3 a4, fun j hj => by rw [kj _ j (by omega)]; exact hf.2 j hj⟩ (by rw [kj _ 10 (by decide)]; exact e10) mset_ss (by rw [kj _ 14 (by decide)]; exact e14) (show dfM _ D from hd.keep (fun a ha => mset_n (by omega)) (kj _ 4 (by decide))) (fun q4 M' hx => ?_) (fun q4 M2 h2 _ => ?_)
          · rw [if_pos q4] at g
            exact br_f hx.gt (g.1 _ M' rfl hx)
          · rw [if_neg q4] at g
            unfold rlF at g
            refine br_t (by rw [h2.2.2.2.1]; decide) ?_
            rw [show (11 : Int32) = nI 11 from rfl, show (10 : Int32) = nI 10 from rfl, nI_eq (by omega) (by omega), nI_eq (by omega) (by omega)]
            refine br_nf (by omega) (br_nf (by omega) (m_lowest hk9 (m_highest hk9 (m_readNumber hl heb.2 h2 q4 r4 r5 (fun z v M' hx => ?_) (fun k2 v1 v2 s4 v M' hx => ?_) (fun k2 v1 v2 s4 M3 h3 _ => ?_)))))
            · rw [if_neg z] at g
              refine ⟨vp_nI (by rw [a5x.1]; exact hk9) (by rw [a5x.1]; decide), ?_⟩
              rintro _ rfl
              have hx2 : mlX M0 (mset M' 56 (nI (kN c n p)).toNatClampNeg v) (tS c n (tE c n p)) := by
                obtain ⟨f1, ⟨k, a1, a2, a3⟩, a4⟩ := hx
                exact ⟨⟨fun a b1 b2 b3 b4 => by rw [mset_n b2]; exact f1.1 a b1 b2 b3 b4, fun j hj => by rw [mset_n (by decide)]; exact f1.2 j hj⟩, ⟨k, a1, a2, by rw [mset_n (by decide)]; exact a3⟩, by rw [mset_n (by decide)]; exact a4⟩
              exact m_177X hx2 (g.1 _ _ rfl hx2)
            · rw [if_pos ⟨k2, v1, v2⟩, if_pos s4] at g
              refine ⟨vp_nI (by rw [a5x.1]; exact hk9) (by rw [a5x.1]; decide), ?_⟩
              rintro _ rfl
              have hx2 : mlX M0 (mset M' 56 (nI (kN c n p)).toNatClampNeg v) (tS c n (tE c n (tE c n p))) := by
                obtain ⟨f1, ⟨k, a1, a2, a3⟩, a4⟩ := hx
                exact ⟨⟨fun a b1 b2 b3 b4 => by rw [mset_n b2]; exact f1.1 a b1 b2 b3 b4, fun j hj => by rw [mset_n (by decide)]; exact f1.2 j hj⟩, ⟨k, a1, a2, by rw [mset_n (by decide)]; exact a3⟩, by rw [mset_n (by decide)]; exact a4⟩
              exact m_177X hx2 (g.1 _ _ rfl hx2)
            · rw [if_pos ⟨k2, v1, v2⟩, if_neg s4] at g
              refine ⟨vp_nI (by rw [a5x.1]; exact hk9) (by rw [a5x.1]; decide), ?_⟩
              rintro _ rfl
              rw [clamp_nI (by omega)]
              have heb2 := tE_b (c := c) heb.2
              obtain ⟨hf3, ht3, e73, e143, hd3⟩ := h3
              have k56 : ∀ a, a ≠ 56 → mset M3 56 (kN c n p) (nI (tV c n (tE c n p))) a = M3 a := fun a ha => mset_n ha
              refine m_177L (D := setR D (kN c n p) (tV c n (tE c n p))) hl heb2.2 (by have := (tS_b (c := c) heb.2).1; omega) ⟨⟨fun a a1 a2 a3 a4 => by rw [k56 a a2]; exact hf3.1 a a1 a2 a3 a4, fun j hj => by rw [k56 52 (by decide)]; exact hf3.2 j hj⟩, ⟨fun z => by rw [k56 52 (by decide)]; exact ht3.1 z, fun z => by rw [k56 52 (by decide)]; exact ht3.2 z⟩, by rw [k56 52 (by decide)]; exact e73, by rw [k56 52 (by decide)]; exact e143, fun r hr => ?_, by rw [k56 52 (by decide)]; exact hd3.2.1, fun j hj => by rw [k56 57 (by decide)]; exact hd3.2.2.1 j hj, fun j hj i hi => by rw [k56 58 (by decide)]; exact hd3.2.2.2 j hj i hi⟩ s4 (ok.set hk9 ⟨v1, v2⟩) g
              show mset M3 56 (kN c n p) (nI (tV c n (tE c n p))) 56 r = nI (if r = kN c n p then tV c n (tE c n p) else dR D r)
              by_cases e : r = kN c n p
              · subst e; rw [mset_ss, if_pos rfl]
              · rw [mset_sn e, if_neg e]; exact hd3.1 r hr
      · rw [if_neg k8] at g
        refine br_f (by omega) ?_
        rw [hd.2.1, show (12 : Int32) = nI 12 from rfl, nI_leI (by omega) (by omega)]
        by_cases b : 12 ≤ dN D
        · rw [if_pos b] at g
          refine br_t b ?_
          unfold wX5_readLine_55
          exact m_fault (k := 5) hf e14 rfl (by omega) e11 (fun M' hx => br_nf hx.ne (m_105X hx (g.1 _ M' rfl hx)))
        · rw [if_neg b] at g
          refine br_f b ?_
          unfold wX5_readLine_50 wX5_readLine_55
          refine m_needs1 (br_nt e14 ?_)
          rw [show (10 : Int32) = nI 10 from rfl, nI_leI (by omega) (by omega)]
          refine br_t (by omega) ?_
          unfold wX5_readLine_105
          refine m_rd hl heb.2 hf e10 e7 e14 hd (fun q4 M' hx => ?_) (fun q4 M2 h2 _ => ?_)
          · rw [if_pos q4] at g
            exact br_f hx.gt (g.1 _ M' rfl hx)
          · rw [if_neg q4] at g
            refine br_t (by rw [h2.2.2.2.1]; decide) ?_
            rw [show (11 : Int32) = nI 11 from rfl, show (10 : Int32) = nI 10 from rfl, nI_eq (by omega) (by omega), nI_eq (by omega) (by omega)]
            by_cases k10 : kN c n p = 10
            · rw [if_pos k10] at g
              exact br_nt k10 (m_readBlock hl heb.2 (by omega) h2 q4 ok (by omega) g)
            · rw [if_neg k10] at g
              refine br_nf k10 (br_nt (by omega) ?_)
              rw [h2.2.2.2.2.2.1, clamp_nI (by omega)]
              refine ⟨vp_nI (by rw [a5x.2.1]; omega) (by rw [a5x.2.1]; decide), ?_⟩
              intro M5 e5 M6 e6
              exact m_82 (i := 0) (T := fun _ => 0) hl heb.2 (by omega) h2 q4 ok (by omega) (by omega) (fun j hj => absurd hj (Nat.not_lt_zero _)) g M5 M6 e5 e6
  unfold wX5_readLine
  rw [e12, show (1 : Int32) = nI 1 from rfl, nI_eq (by omega) (by omega)]
  by_cases k1 : tK c n p = 1
  · exact br_nt k1 (m_nameNow hlM hp k1 e10 e11 t17)
  · refine br_nf k1 ?_
    have e : kN c n p = 12 := by
      unfold kN
      rw [if_neg (fun z => k1 z.1), if_neg (fun z => k1 z.1), if_neg (fun z => k1 z.1), if_neg (fun z => k1 z.1), if_neg (fun z => k1 z.1), if_neg (fun z => k1 z.1), if_neg (fun z => k1 z.1), if_neg (fun z => k1 z.1), if_neg (fun z => k1 z.1), if_neg (fun z => k1 z.1), if_neg (fun z => k1 z.1)]
    rw [e, if_pos rfl] at t17
    exact t17
-- ===== the class's whole text =====
def enD (D : DD) : Nat → Nat
  | 0 => 0
  | j + 1 => enD D j + dR D 6 + lgN (dR D) (dZ D j)
def bgD (D : DD) (j : Nat) : Nat := enD D j + dR D 6
theorem enD_le {D : DD} (ok : okD D) : ∀ j, j ≤ dN D → enD D j ≤ j * 207 := by
  intro j
  induction j with
  | zero => intro _; exact Nat.le_refl _
  | succ j ih =>
    intro h
    have h1 := ih (by omega)
    have h2 := ok.2.2.1 j (by omega)
    have h3 := lgN_le ok.R.1 (n := dZ D j) (by omega)
    have h4 := (ok.1 6 (by omega)).2
    have h5 : hiN 6 = 99 := rfl
    show enD D j + dR D 6 + lgN (dR D) (dZ D j) ≤ _
    omega
theorem s_endD {Q : Int32 → MM → Prop} {M : MM} {D : DD} {j : Nat} (hd : dfC M D) (ok : okD D) (hj : j ≤ dN D) (hB : ∀ i, i < j → M 30 i = nI (bgD D i)) (hq : Q (nI (enD D j)) M) : wX2_endOf Q M 28 (nI j - 1) := by
  have hb : tpB 28 := Or.inr (Or.inr (Or.inr rfl))
  have hN := ok.2.1
  cases j with
  | zero =>
    unfold wX2_endOf
    refine s_hasBlock hd.2.1 (zf2 (fun q => absurd q.1 (by decide)) hq)
  | succ j =>
    rw [nI_sub1 (by omega), Nat.add_sub_cancel]
    have h2 := ok.2.2.1 j (by omega)
    refine s_endRaw (B := bgD D j) (Z := dZ D j) (R := dR D) hb ok.R.1.2.2.2.2.2.1 (hd.1 7 (by omega)) hN (show j < dN D by omega) hd.2.1 (hB j (by omega)) (hd.2.2.2.2.2.2.1 j (by omega)) (by omega) hq
theorem s_layOut {Q : MM → Prop} {M : MM} {D : DD} (hd : dfC M D) (ok : okD D) (hq : ∀ M', (∀ a, a ≠ 30 → M' a = M a) → (∀ j, j < dN D → M' 30 j = nI (bgD D j)) → Q M') : wX2_layOutBlocks Q M 28 := by
  have hb : tpB 28 := Or.inr (Or.inr (Or.inr rfl))
  have hN := ok.2.1
  have loop : ∀ r j M', j + r = dN D → (∀ a, a ≠ 30 → M' a = M a) → (∀ i, i < j → M' 30 i = nI (bgD D i)) → wX2_layOutBlocks_2 Q 28 (r + 1) M' (nI j) := by
    intro r
    induction r with
    | zero =>
      intro j M' hj k1 k2
      have : j = dN D := by omega
      subst this
      refine br_t ?_ (hq M' k1 k2)
      rw [k1 28 (by decide), hd.2.1]; exact nI_le (Nat.le_refl _) (by omega)
    | succ r ih =>
      intro j M' hj k1 k2
      have hd' : dfC M' D := hd.keep (fun a ha => k1 a (by omega)) (fun j _ => by rw [k1 28 (by decide)])
      unfold wX2_layOutBlocks_2
      rw [hd'.2.1, nI_leI (by omega) (by omega)]
      refine br_f (by omega) ?_
      unfold wX2_beginningAt
      refine s_endD hd' ok (by omega) k2 (s_ruled hb 6 (by omega) rfl ?_)
      rw [hd'.1 6 (by omega), nI_add]
      refine s_setCell (by show j < 12; omega) (by decide +kernel) ?_
      rw [nI_1]
      refine ih (j + 1) _ (by omega) (fun a ha => by rw [mset_n ha]; exact k1 a ha) (fun i hi => ?_)
      by_cases e : i = j
      · subst e; exact mset_ss
      · exact (mset_sn (k := 28 + 2) e).trans (k2 i (by omega))
  exact ⟨dN D + 1, loop (dN D) 0 M (by omega) (fun _ _ => rfl) (fun i hi => absurd hi (Nat.not_lt_zero _))⟩
/-- the draft's blocks are laid out, no fault was met -/
def clE (M0 M : MM) (D : DD) : Prop := fr M0 M ∧ M 37 8 = 0 ∧ dfC M D ∧ M 28 11 = 0 ∧ ∀ j, j < dN D → M 30 j = nI (bgD D j)
/-- what both ends do -/
theorem s_64 {Q : Int32 → MM → Prop} {M0 M : MM} {D : DD} {v : Int32} {n : Nat} (hf : fr M0 M) (hd : dfC M D) (ok : okD D) (e2 : M0 37 2 = nI n) (hq : ∀ M', fr M0 M' → (∀ j, M' 37 j = M 37 j) → dfC M' D → M' 28 11 = 0 → (∀ j, j < dN D → M' 30 j = nI (bgD D j)) → (enD D (dN D) ≤ dR D 0 → Q v M') ∧ (¬ enD D (dN D) ≤ dR D 0 → wX3_refuse (fun M14 => Q v M14) M' 6 (nI n))) : wX3_takeAll_64 Q M v := by
  have hb : tpB 28 := Or.inr (Or.inr (Or.inr rfl))
  have hN := ok.2.1
  have hen := enD_le ok (dN D) (Nat.le_refl _)
  have hR0 := ok.R.2
  unfold wX3_takeAll_64
  refine s_layOut hd ok (fun M1 k1 k2 => ?_)
  rintro _ rfl
  have ka : ∀ a, a ≠ 28 → a ≠ 30 → mset M1 28 11 0 a = M a := fun a a1 a2 => by rw [mset_n a1, k1 a a2]
  have kj : ∀ j, j ≠ 11 → mset M1 28 11 0 28 j = M 28 j := fun j hj => by rw [mset_sn hj, k1 28 (by decide)]
  have hd' : dfC (mset M1 28 11 0) D := hd.keep (fun a ha => ka a (by omega) (by omega)) kj
  have hB : ∀ j, j < dN D → mset M1 28 11 0 30 j = nI (bgD D j) := fun j hj => by rw [mset_n (by decide)]; exact k2 j hj
  have hf' : fr M0 (mset M1 28 11 0) := ⟨fun a ha => by rw [ka a (by omega) (by omega)]; exact hf.1 a ha, by rw [ka 37 (by decide) (by decide)]; exact hf.2⟩
  rw [kj 8 (by decide), hd.2.1]
  refine s_endD hd' ok (Nat.le_refl _) hB (s_ruled hb 0 (by omega) rfl ?_)
  rw [hd'.1 0 (by omega), nI_leI (by omega) (by omega), hf'.2, e2]
  exact hq _ hf' (fun j => by rw [ka 37 (by decide) (by decide)]) hd' mset_ss hB
theorem s_64X {Q : Int32 → MM → Prop} {M0 M : MM} {pl n : Nat} {v : Int32} (h : clX M0 M pl) (e2 : M0 37 2 = nI n) (hq : ∀ M', clX M0 M' pl → Q v M') : wX3_takeAll_64 Q M v := by
  obtain ⟨hf, ⟨k, k1, k2, e8⟩, e9, D, ok, hd⟩ := h
  refine s_64 hf hd ok e2 (fun M' f' kj d' _ _ => ?_)
  have hx : clX M0 M' pl := ⟨f', ⟨k, k1, k2, by rw [kj]; exact e8⟩, by rw [kj]; exact e9, D, ok, d'⟩
  refine ⟨fun _ => hq M' hx, fun _ => ?_⟩
  unfold wX3_refuse
  exact br_f hx.ne (hq M' hx)
theorem s_64L {Q : Int32 → MM → Prop} {M0 M : MM} {D : DD} {v : Int32} {n : Nat} (hf : fr M0 M) (e8 : M 37 8 = 0) (hd : dfC M D) (ok : okD D) (e2 : M0 37 2 = nI n) (h1 : enD D (dN D) ≤ dR D 0 → ∀ M', clE M0 M' D → Q v M') (h0 : ¬ enD D (dN D) ≤ dR D 0 → ∀ M', clX M0 M' n → Q v M') : wX3_takeAll_64 Q M v := by
  refine s_64 hf hd ok e2 (fun M' f' kj d' e11 eB => ⟨fun z => h1 z M' ⟨f', by rw [kj]; exact e8, d', e11, eB⟩, fun z => ?_⟩)
  exact s_refuse (k := 6) f' ok d' (by rw [kj]; exact e8) rfl rfl (by omega) (fun M2 hx _ _ => h0 z M2 hx)
-- ===== the lines, one behind another =====
def rnL (c : Nat → Nat) (n : Nat) : Nat → Nat → DD → Nat → LR
  | 0, p, _, _ => .inl p
  | k + 1, p, D, l => if tK c n p = 0 then (if enD D (dN D) ≤ dR D 0 then .inr (l, D) else .inl n) else match lnF c n p D with
    | .inl pl => .inl pl
    | .inr x => rnL c n k x.1 x.2 (l + 1)
def D0 : DD := (0, rF, 0, fun _ => 0, fun _ => 0)
def txF (c : Nat → Nat) (n : Nat) : LR := if tK c n 0 = 4 then .inl (tS c n 0) else rnL c n (n + 1) 0 D0 0
theorem ok0 : okD D0 := ⟨fun r hr => (rule_ok r hr).2.2.2.2.2, Nat.zero_le _, fun j hj => absurd hj (Nat.not_lt_zero _), fun j hj => absurd hj (Nat.not_lt_zero _), by show 0 < 512; omega⟩
theorem s_lines {Q : Int32 → MM → Prop} {M0 : MM} {c : Nat → Nat} {n : Nat} (hl : ltP M0 c n) : ∀ k p D l M, n < p + k → p ≤ n → l ≤ p → clL c n M0 M p D → okD D → tK c n p ≠ 4 → (∀ pl v M', rnL c n k p D l = .inl pl → clX M0 M' pl → Q v M') → (∀ l' D' M', rnL c n k p D l = .inr (l', D') → clE M0 M' D' → okD D' → enD D' (dN D') ≤ dR D' 0 → Q (nI l') M') → wX3_takeAll_33 Q (k + 1) M (nI l) := by
  have h400 := hl.1
  intro k
  induction k with
  | zero => intro p D l M h1 h2; omega
  | succ k ih =>
    intro p D l M h1 h2 h3 h ok k4 gX gE
    have h' := h
    obtain ⟨hf, ht, e7, e8, hd⟩ := h
    have hkl := tK_le c n p
    have hsb := tS_b (c := c) h2
    have heb := tE_b (c := c) h2
    rw [rnL] at gX gE
    unfold wX3_takeAll_33
    rw [ht.2.1, show (0 : Int32) = nI 0 from rfl, nI_eq (by omega) (by omega)]
    by_cases k0 : tK c n p = 0
    · rw [if_pos k0] at gX gE
      refine br_t k0 (s_64L hf e8 hd ok hl.2.1 (fun z M' hE => ?_) (fun z M' hx => ?_))
      · rw [if_pos z] at gE; exact gE l D M' rfl hE ok z
      · rw [if_neg z] at gX; exact gX n _ M' rfl hx
    · rw [if_neg k0] at gX gE
      have hgt := tE_gt (c := c) h2 k0
      refine br_f k0 (br_nt e8 ?_)
      rw [show (400 : Int32) = nI 400 from rfl, nI_leI (by omega) (by omega)]
      refine br_f (by omega) (s_takeLine hl h2 k0 h' ok ⟨fun pl M' er hx => ?_, fun q D' M' er hL ok' q1 q2 q4 => ?_⟩)
      · rw [er] at gX
        refine ⟨fun _ => s_64X hx hl.2.1 (fun M2 h2 => gX pl _ M2 rfl h2), fun _ => br_nf hx.ne (s_64X hx hl.2.1 (fun M2 h2 => gX pl _ M2 rfl h2))⟩
      · rw [er] at gX gE
        rw [nI_1]
        exact ih q D' (l + 1) M' (by omega) q1 (by omega) hL ok' q4 gX gE
/-- what a fresh tape holds -/
def tpP (b : Nat) (M : MM) : Prop := (∀ r, r < 9 → M (b + 1) r = nI (rF r)) ∧ M b 8 = 0 ∧ M b 9 = 0 ∧ M b 10 = 0 ∧ M b 11 = 0 ∧ M b 12 = -4 ∧ M b 13 = 0
theorem s_reset {Q : MM → Prop} {M : MM} {b : Nat} (hb : tpB b) (hq : ∀ M', (∀ a, a ≠ b → a ≠ b + 1 → M' a = M a) → tpP b M' → Q M') : wX2_reset Q M b := by
  obtain ⟨l1, -⟩ := alen_tp hb
  unfold wX2_reset wX4_copyRow_si
  rw [l1]
  have e : (if (nI 9) < (9 : Int32) then (nI 9) else 9) = nI 9 := by decide +kernel
  rw [e]
  refine ⟨by decide, by decide, by decide, by decide +kernel, by decide +kernel, ?_⟩
  rintro _ rfl _ rfl _ rfl _ rfl _ rfl _ rfl _ rfl
  have hne : b + 1 ≠ b := by omega
  refine hq _ (fun a a1 a2 => by rw [mset_n a1, mset_n a1, mset_n a1, mset_n a1, mset_n a1, mset_n a1, mrow_n a2]) ⟨fun r hr => ?_, ?_, ?_, ?_, ?_, ?_, mset_ss⟩
  · rw [mset_n hne, mset_n hne, mset_n hne, mset_n hne, mset_n hne, mset_n hne, mrow_s]
    have e9 : (nI 9).toNatClampNeg = 9 := by decide +kernel
    rw [e9]
    have : va_cpy (stV 2) (M (b + 1)) 0 0 9 r = stV 2 (0 + (r - 0)) := pk_cpy_in (Nat.zero_le _) (by omega)
    refine this.trans ?_
    rw [show 0 + (r - 0) = r by omega]
    exact (rule_ok r hr).2.2.1
  · rw [mset_sn (by decide), mset_sn (by decide), mset_sn (by decide), mset_sn (by decide), mset_sn (by decide), mset_ss]
  · rw [mset_sn (by decide), mset_sn (by decide), mset_sn (by decide), mset_sn (by decide), mset_ss]
  · rw [mset_sn (by decide), mset_sn (by decide), mset_sn (by decide), mset_ss]
  · rw [mset_sn (by decide), mset_sn (by decide), mset_ss]
  · rw [mset_sn (by decide), mset_ss]
theorem s_takeAll {Q : Int32 → MM → Prop} {M : MM} {c : Nat → Nat} {n : Nat} (hl : ltP M c n) (gX : ∀ pl v M', txF c n = .inl pl → clX M M' pl → Q v M') (gE : ∀ l D M', txF c n = .inr (l, D) → clE M M' D → okD D → enD D (dN D) ≤ dR D 0 → Q (nI l) M') : wX3_takeAll Q M := by
  have h400 := hl.1
  unfold wX3_takeAll
  refine s_reset (Or.inr (Or.inr (Or.inr rfl))) (fun M1 k1 k2 => ?_)
  rintro _ rfl _ rfl _ rfl _ rfl
  obtain ⟨t1, t2, t3, t4, t5, t6, t7⟩ := k2
  have ka : ∀ a, a ≠ 37 → mset (mset (mset (mset M1 37 3 0) 37 7 0) 37 8 0) 37 9 0 a = M1 a := fun a ha => by rw [mset_n ha, mset_n ha, mset_n ha, mset_n ha]
  have hd : dfC (mset (mset (mset (mset M1 37 3 0) 37 7 0) 37 8 0) 37 9 0) D0 := by
    refine ⟨fun r hr => by rw [ka 29 (by decide)]; exact t1 r hr, by rw [ka 28 (by decide)]; exact t2, by rw [ka 28 (by decide)]; exact t3, by rw [ka 28 (by decide)]; exact t4, by rw [ka 28 (by decide)]; exact t6, by rw [ka 28 (by decide)]; exact t7, fun j hj => absurd hj (Nat.not_lt_zero _), fun j hj => absurd hj (Nat.not_lt_zero _), fun j hj => absurd hj (Nat.not_lt_zero _), fun j hj => absurd hj (Nat.not_lt_zero _)⟩
  have hf : fr M (mset (mset (mset (mset M1 37 3 0) 37 7 0) 37 8 0) 37 9 0) := ⟨fun a ha => by rw [ka a (by omega)]; exact k1 a (by omega) (by omega), by rw [mset_sn (by decide), mset_sn (by decide), mset_sn (by decide), mset_sn (by decide), k1 37 (by decide) (by decide)]⟩
  refine s_rd (D := D0) (p := 0) hl (Nat.zero_le _) hf ?_ ?_ ?_ hd ok0 (fun k4 M' hx ek _ => ?_) (fun k4 M' h _ => ?_)
  · rw [mset_sn (by decide), mset_sn (by decide), mset_sn (by decide), mset_ss]; rfl
  · rw [mset_sn (by decide), mset_sn (by decide), mset_ss]; rfl
  · rw [mset_sn (by decide), mset_ss]
  · have e : txF c n = .inl (tS c n 0) := if_pos k4
    refine ⟨1, br_f (by rw [ek]; decide) (br_nf hx.ne (s_64X hx hl.2.1 (fun M2 h2 => gX _ _ M2 e h2)))⟩
  · have e : txF c n = rnL c n (n + 1) 0 D0 0 := if_neg k4
    rw [e] at gX gE
    exact ⟨n + 1 + 1, s_lines hl (n + 1) 0 D0 0 M' (by omega) (Nat.zero_le _) (Nat.le_refl _) h ok0 k4 gX gE⟩
-- ===== the tape that a draft becomes =====
def dS (D : DD) : SS := ((dR D 0, dN D, 0), (bgD D, dZ D, fun x => if x % 13 < dZ D (x / 13) then odN (dY D (12 * (x / 13) + x % 13)) else rwN (fun i => dY D (12 * (x / 13) + i)) (dZ D (x / 13)), dY D), (0, fun _ => 0), (0, fun _ => 0, fun _ => 0), (0, -4))
theorem bg_mono {D : DD} {i j : Nat} (h : i < j) : bgD D i + lgN (dR D) (dZ D i) ≤ bgD D j := by
  induction h with
  | refl => show enD D i + dR D 6 + _ ≤ enD D i + dR D 6 + lgN (dR D) (dZ D i) + dR D 6; omega
  | step h ih =>
    rename_i m
    refine Nat.le_trans ih ?_
    show enD D m + dR D 6 ≤ enD D m + dR D 6 + lgN (dR D) (dZ D m) + dR D 6
    omega
theorem bg_end {D : DD} {j : Nat} (h : j < dN D) : bgD D j + lgN (dR D) (dZ D j) ≤ enD D (dN D) := by
  have g : ∀ k, j < k → bgD D j + lgN (dR D) (dZ D j) ≤ enD D k := by
    intro k hk
    cases k with
    | zero => omega
    | succ k =>
      show _ ≤ enD D k + dR D 6 + lgN (dR D) (dZ D k)
      by_cases e : j = k
      · subst e; exact Nat.le_refl _
      · have := bg_mono (D := D) (show j < k by omega)
        unfold bgD at this ⊢
        omega
  exact g _ h
theorem ok_dS {D : DD} (ok : okD D) (he : enD D (dN D) ≤ dR D 0) : okS (dR D) (dS D) := by
  obtain ⟨oR, r0, r1⟩ := ok.R
  obtain ⟨h1, h2, h3, h4, h5⟩ := ok
  refine ⟨⟨r0, r1⟩, h2, Nat.zero_le _, fun j hj => ⟨h3 j hj, Nat.le_trans (bg_end hj) he⟩, fun i j hi _ => bg_mono hi, fun j hj i hi => ?_, fun j hj i hi => ?_, Nat.zero_le _, fun i hi => absurd hi (Nat.not_lt_zero _), Nat.zero_le _, fun i hi => absurd hi (Nat.not_lt_zero _), Or.inl rfl⟩
  · have hz := h3 j hj
    have hi' : i ≤ dZ D j := hi
    show (if (j * 13 + i) % 13 < dZ D ((j * 13 + i) / 13) then odN (dY D (12 * ((j * 13 + i) / 13) + (j * 13 + i) % 13)) else rwN (fun i' => dY D (12 * ((j * 13 + i) / 13) + i')) (dZ D ((j * 13 + i) / 13))) < 512
    rw [show (j * 13 + i) / 13 = j by omega, show (j * 13 + i) % 13 = i by omega]
    by_cases e : i < dZ D j
    · rw [if_pos e]; exact odN_lt (h4 j hj i e)
    · rw [if_neg e]; exact rwN_lt _ (fun i' hi' => h4 j hj i' hi')
  · show dY D (j * 12 + i) < 256
    rw [show j * 12 + i = 12 * j + i by omega]
    exact h4 j hj i hi
theorem clT_dS {M : MM} {b : Nat} {D : DD} (ok : okD D) (e1 : ∀ r, r < 9 → M (b + 1) r = nI (dR D r)) (e8 : M b 8 = nI (dN D)) (e9 : M b 9 = 0) (e10 : M b 10 = 0) (e11 : M b 11 = 0) (e12 : M b 12 = -4) (e13 : M b 13 = 0) (eB : ∀ j, j < dN D → M (b + 2) j = nI (bgD D j)) (eZ : ∀ j, j < dN D → M (b + 3) j = nI (dZ D j)) (eC : ∀ j, j < dN D → ∀ i, i < dZ D j → M (b + 4) (13 * j + i) = nI (odN (dY D (12 * j + i)))) (eR : ∀ j, j < dN D → M (b + 4) (13 * j + dZ D j) = nI (rwN (fun i => dY D (12 * j + i)) (dZ D j))) (eO : ∀ j, j < dN D → ∀ i, i < dZ D j → M (b + 5) (12 * j + i) = nI (dY D (12 * j + i))) : clT M b (dR D) (dS D) := by
  refine ⟨⟨e1 0 (by omega), fun r _ hr => e1 r hr⟩, e8, e9, eB, eZ, fun j hj i hi => ?_, fun j hj i hi => ?_, e11, fun i hi => absurd hi (Nat.not_lt_zero _), e13, fun i hi => absurd hi (Nat.not_lt_zero _), e10, e12⟩
  · have hz := ok.2.2.1 j hj
    have hi' : i ≤ dZ D j := hi
    show M (b + 4) (j * 13 + i) = nI (if (j * 13 + i) % 13 < dZ D ((j * 13 + i) / 13) then odN (dY D (12 * ((j * 13 + i) / 13) + (j * 13 + i) % 13)) else rwN (fun i' => dY D (12 * ((j * 13 + i) / 13) + i')) (dZ D ((j * 13 + i) / 13)))
    rw [show (j * 13 + i) / 13 = j by omega, show (j * 13 + i) % 13 = i by omega, show j * 13 + i = 13 * j + i by omega]
    by_cases e : i < dZ D j
    · rw [if_pos e]; exact eC j hj i e
    · rw [if_neg e]
      have : i = dZ D j := by omega
      subst this
      exact eR j hj
  · show M (b + 5) (j * 12 + i) = nI (dY D (j * 12 + i))
    rw [show j * 12 + i = 12 * j + i by omega]
    exact eO j hj i hi
theorem s_text {Q : Int32 → MM → Prop} {M : MM} {c : Nat → Nat} {n : Nat} (hl : ltP M c n) (gX : ∀ pl M', txF c n = .inl pl → (∀ a, a ≠ 0 → (a < 28 ∨ 38 ≤ a) → M' a = M a) → (∀ j, j ≠ 9 → M' 0 j = M 0 j) → M' 37 2 = 0 → Q (((-10) : Int32) - nI pl) M') (gE : ∀ l D M', txF c n = .inr (l, D) → okD D → enD D (dN D) ≤ dR D 0 → clT M' 1 (dR D) (dS D) → (∀ a, 10 ≤ a → (a < 28 ∨ 38 ≤ a) → M' a = M a) → (∀ j, j ≠ 9 → j ≠ 11 → M' 0 j = M 0 j) → M' 0 11 = 0 → M' 37 2 = 0 → Q (nI l) M') : wX4_text Q M := by
  unfold wX4_text
  refine s_takeAll hl (fun pl v M' er hx => ?_) (fun l D M' er hE ok he => ?_)
  · rintro _ rfl _ rfl
    have hne := hx.ne
    obtain ⟨hf, -, e9, -⟩ := hx
    refine br_f (by rw [mset_ss, mset_sn (by decide)]; exact hne) ?_
    rw [show ∀ w, mset (mset M' 37 2 0) 0 9 w 37 9 = nI pl from fun w => by rw [mset_n (by decide), mset_sn (by decide)]; exact e9]
    refine gX pl _ er (fun a a0 ha => by rw [mset_n a0, mset_n (by omega)]; exact hf.1 a ha) (fun j hj => by rw [mset_sn hj, mset_n (by decide), hf.1 0 (by omega)]) (by rw [mset_n (by decide), mset_ss])
  · obtain ⟨hf, e8, hd, e11, eB⟩ := hE
    rintro _ rfl _ rfl
    refine br_t (by rw [mset_ss, mset_sn (by decide)]; exact e8) ?_
    refine s_becomes (Or.inl rfl) (Or.inr (Or.inr (Or.inr rfl))) (by omega) (fun M5 k1 k2 k3 => ?_)
    rintro _ rfl
    have km : ∀ w a, a ≠ 0 → a ≠ 37 → mset (mset M' 37 2 0) 0 9 w a = M' a := fun w a a0 a1 => by rw [mset_n a0, mset_n a1]
    obtain ⟨d1, d2, d3, d4, d5, d6, d7, d8, d9, d10⟩ := hd
    have r5 : ∀ r, 1 ≤ r → r < 9 → ∀ j, j < (if r = 1 then 9 else if r = 4 then 156 else if r = 5 then 144 else 12) → mset M5 0 11 0 (1 + r) j = M' (28 + r) j := fun r r1 r2 j hj => by
      rw [mset_n (by omega), k2 r r1 r2 j hj, km _ _ (by omega) (by omega)]
    have f5 : ∀ j, 8 ≤ j → j < 14 → mset M5 0 11 0 1 j = M' 28 j := fun j j1 j2 => by
      rw [mset_n (by decide), k3 j j1 j2, km _ _ (by decide) (by decide)]
    have hN := ok.2.1
    refine gE l D _ er ok he (clT_dS ok (fun r hr => ?_) ?_ ?_ ?_ ?_ ?_ ?_ (fun j hj => ?_) (fun j hj => ?_) (fun j hj i hi => ?_) (fun j hj => ?_) (fun j hj i hi => ?_)) (fun a a1 a2 => ?_) (fun j j1 j2 => ?_) mset_ss ?_
    · exact (r5 1 (by omega) (by omega) r hr).trans (d1 r hr)
    · exact (f5 8 (by omega) (by omega)).trans d2
    · exact (f5 9 (by omega) (by omega)).trans d3
    · exact (f5 10 (by omega) (by omega)).trans d4
    · exact (f5 11 (by omega) (by omega)).trans e11
    · exact (f5 12 (by omega) (by omega)).trans d5
    · exact (f5 13 (by omega) (by omega)).trans d6
    · exact (r5 2 (by omega) (by omega) j (by show j < 12; omega)).trans (eB j hj)
    · exact (r5 3 (by omega) (by omega) j (by show j < 12; omega)).trans (d7 j hj)
    · have := ok.2.2.1 j hj
      exact (r5 4 (by omega) (by omega) _ (by show 13 * j + i < 156; omega)).trans (d8 j hj i hi)
    · have := ok.2.2.1 j hj
      exact (r5 4 (by omega) (by omega) _ (by show 13 * j + dZ D j < 156; omega)).trans (d9 j hj)
    · have := ok.2.2.1 j hj
      exact (r5 5 (by omega) (by omega) _ (by show 12 * j + i < 144; omega)).trans (d10 j hj i hi)
    · rw [mset_n (by omega), k1 a (by omega), km _ a (by omega) (by omega)]; exact hf.1 a a2
    · rw [mset_sn j2, k1 0 (by omega), mset_sn j1, mset_n (by decide), hf.1 0 (by omega)]
    · rw [mset_n (by decide), k1 37 (by omega), mset_n (by decide), mset_ss]
-- ===== the reference's draft's end; what is kept of it =====
theorem m_draftEnd {Q : Int32 → MM → Prop} {M : MM} {D : DD} (hd : dfM M D) (ok : okD D) (hq : Q (nI (enD D (dN D))) M) : wX5_draftEnd Q M := by
  have hN := ok.2.1
  have h7 := ok.1 7 (by omega)
  have l7 : loN 7 = 1 := rfl
  have u7 : hiN 7 = 9 := rfl
  have loop : ∀ r j, j + r = dN D → wX5_draftEnd_4 Q (r + 1) M (nI (enD D j)) (nI j) := by
    intro r
    induction r with
    | zero =>
      intro j hj
      have : j = dN D := by omega
      subst this
      refine br_t ?_ hq
      rw [hd.2.1]; exact nI_le (Nat.le_refl _) (by omega)
    | succ r ih =>
      intro j hj
      have hz := ok.2.2.1 j (by omega)
      unfold wX5_draftEnd_4
      rw [hd.2.1, nI_leI (by omega) (by omega), clamp_nI (by omega), hd.2.2.1 j (by omega), hd.1 7 (by omega), hd.1 6 (by omega)]
      refine br_f (by omega) ⟨vp_nI (by rw [a5x.2.1]; omega) (by rw [a5x.2.1]; decide), ?_⟩
      have go : ∀ p0 : Int32, p0 = nI (lgN (dR D) (dZ D j)) → wX5_draftEnd_55 Q (fun M v1 v2 => wX5_draftEnd_4 Q (r + 1) M v1 v2) M (nI j) p0 (nI (dR D 6)) (nI (enD D j)) := by
        rintro _ rfl
        unfold wX5_draftEnd_55
        rintro _ rfl
        rw [nI_add, nI_add, nI_1]
        have g := ih (j + 1) (by omega)
        have e : enD D (j + 1) = enD D j + (dR D 6 + lgN (dR D) (dZ D j)) := by
          show enD D j + dR D 6 + lgN (dR D) (dZ D j) = _
          omega
        rw [e] at g
        exact g
      rw [show (0 : Int32) = nI 0 from rfl, nI_eq (by omega) (by omega), nI_eq (by omega) (by omega)]
      by_cases z : dZ D j = 0
      · refine br_nt z (go 1 ?_)
        unfold lgN; rw [if_pos z]; rfl
      · refine br_nf z ⟨vp_nI (by rw [a5x.2.1]; omega) (by rw [a5x.2.1]; decide), by omega, go _ ?_⟩
        rw [nI_add, pk_div (by omega) (by omega) (by omega)]
        unfold lgN; rw [if_neg z]
  exact ⟨dN D + 1, loop (dN D) 0 (by omega)⟩
theorem m_firstDraft {Q : MM → Prop} {M : MM} (hq : ∀ M', (∀ a, a ≠ 52 → a ≠ 56 → M' a = M a) → (∀ j, j ≠ 4 → j ≠ 7 → M' 52 j = M 52 j) → (∀ r, r < 9 → M' 56 r = nI (rF r)) → M' 52 4 = 0 → M' 52 7 = 0 → Q M') : wX5_firstDraft Q M := by
  unfold wX5_firstDraft
  rintro _ rfl _ rfl _ rfl _ rfl _ rfl _ rfl _ rfl _ rfl _ rfl _ rfl _ rfl
  refine hq _ (fun a a1 a2 => by rw [mset_n a1, mset_n a1, mset_n a2, mset_n a2, mset_n a2, mset_n a2, mset_n a2, mset_n a2, mset_n a2, mset_n a2, mset_n a2]) (fun j j1 j2 => by rw [mset_sn j2, mset_sn j1]; simp [mset, mrow]) (fun r hr => ?_) (by rw [mset_sn (by decide), mset_ss]) mset_ss
  rw [mset_n (by decide), mset_n (by decide)]
  rcases (by omega : r = 0 ∨ r = 1 ∨ r = 2 ∨ r = 3 ∨ r = 4 ∨ r = 5 ∨ r = 6 ∨ r = 7 ∨ r = 8) with rfl | rfl | rfl | rfl | rfl | rfl | rfl | rfl | rfl <;> simp [mset, mrow, upd] <;> rfl
/-- what stands of the draft when b blocks are laid -/
def kdI (M0 M : MM) (D : DD) (b : Nat) : Prop := (∀ a, a ≠ 53 → a ≠ 60 → M a = M0 a) ∧ (∀ j, 400 ≤ j → M 53 j = M0 53 j) ∧ M 53 0 = nI b ∧ (∀ j, j < b → M 53 (1 + j) = nI (bgD D j)) ∧ (∀ j, j < b → M 53 (13 + j) = nI (dZ D j)) ∧ (∀ j, j < b → ∀ i, i < dZ D j → M 53 (25 + 13 * j + i) = nI (odN (dY D (12 * j + i)))) ∧ (∀ j, j < b → M 53 (25 + 13 * j + dZ D j) = nI (rwN (fun i => dY D (12 * j + i)) (dZ D j))) ∧ (∀ j, j < b → ∀ i, i < dZ D j → M 53 (181 + 12 * j + i) = nI (dY D (12 * j + i))) ∧ M 53 325 = 0 ∧ M 53 326 = 0 ∧ M 53 327 = 0 ∧ M 53 340 = -4 ∧ M 53 341 = 0 ∧ M 53 366 = nI (dR D 0)
theorem m_blocks {Q : MM → Prop} {M0 : MM} {D : DD} (hd : dfM M0 D) (hr : rlT M0 (dR D)) (ok : okD D) (hq : ∀ M', kdI M0 M' D (dN D) → Q M') : ∀ r b M, b + r = dN D → kdI M0 M D b → wX5_keepDraft_88 Q (r + 1) M (nI b) := by
  have hN := ok.2.1
  intro r
  induction r with
  | zero =>
    intro b M hb h
    have : b = dN D := by omega
    subst this
    refine br_t ?_ (hq M h)
    rw [h.1 52 (by decide) (by decide), hd.2.1]; exact nI_le (Nat.le_refl _) (by omega)
  | succ r ih =>
    intro b M hb h
    have hz := ok.2.2.1 b (by omega)
    -- its bytes are laid ready
    have t98 : ∀ s i (M1 : MM), i + s = dZ D b → (∀ a, a ≠ 60 → M1 a = M a) → (∀ j, j < i → M1 60 j = nI (dY D (12 * b + j))) → wX5_keepDraft_98 Q (fun M v1 => wX5_keepDraft_88 Q (r + 1) M v1) (s + 1) M1 (nI b) (nI i) := by
      intro s
      induction s with
      | zero =>
        intro i M1 hi k1 k2
        have : i = dZ D b := by omega
        subst this
        have e57 : M1 57 (nI b).toNatClampNeg = nI (dZ D b) := by
          rw [clamp_nI (by omega), k1 57 (by decide), h.1 57 (by decide) (by decide)]; exact hd.2.2.1 b (by omega)
        unfold wX5_keepDraft_98
        rw [e57]
        refine ⟨vp_nI (by rw [a5x.2.1]; omega) (by rw [a5x.2.1]; decide), br_t (nI_le (Nat.le_refl _) (by omega)) ⟨vp_nI (by rw [a5x.2.1]; omega) (by rw [a5x.2.1]; decide), ?_⟩⟩
        have hr1 : rlT M1 (dR D) := hr.keep (by rw [k1 55 (by decide), h.1 55 (by decide) (by decide)])
        obtain ⟨i1, i2, i3, i4, i5, i6, i7, i8, i9, i10, i11, i12, i13, i14⟩ := id h
        have k53 : M1 53 = M 53 := k1 53 (by decide)
        refine m_lays (k := b) (n := dZ D b) (bg := bgD D b) (T := fun i => dY D (12 * b + i)) (by omega) hz (by rw [k53]; exact i3) (fun i hi => ⟨ok.2.2.2.1 b (by omega) i hi, k2 i hi⟩) (fun Q hQ => ?_) (fun M2 hp => ?_)
        · unfold wX5_beginOf
          rw [hr1 6 (by omega) (by omega), show (0 : Int32) = nI 0 from rfl, nI_eq (by omega) (by omega)]
          cases b with
          | zero =>
            refine br_nt rfl ?_
            rw [nI_add]
            have e : dR D 6 + 0 = bgD D 0 := by
              show dR D 6 + 0 = 0 + dR D 6
              omega
            rw [e]; exact hQ
          | succ k =>
            refine br_nf (by omega) ?_
            rw [nI_sub1 (by omega), Nat.add_sub_cancel]
            have hz2 := ok.2.2.1 k (by omega)
            refine m_endRaw (B := bgD D k) (Z := dZ D k) ok.R.1 hr1 (by omega) (by rw [k53]; exact i4 k (by omega)) (by rw [k53]; exact i5 k (by omega)) (by omega) ?_
            rw [nI_add]
            have e : dR D 6 + (bgD D k + lgN (dR D) (dZ D k)) = bgD D (k + 1) := by
              show dR D 6 + (enD D k + dR D 6 + _) = enD D k + dR D 6 + lgN (dR D) (dZ D k) + dR D 6
              omega
            rw [e]; exact hQ
        · obtain ⟨p1, p2, p3, p4, p5, p6, p7, p8⟩ := hp
          have hb12 : b < 12 := by omega
          rw [nI_1]
          refine ih (b + 1) M2 (by omega) ⟨fun a a1 a2 => by rw [p1 a a1, k1 a a2]; exact i1 a a1 a2, fun j hj => by rw [p8 j (by omega) (by omega) (by omega) (by omega) (by omega), k53]; exact i2 j hj, p2, fun j hj => ?_, fun j hj => ?_, fun j hj u hu => ?_, fun j hj => ?_, fun j hj u hu => ?_, ?_, ?_, ?_, ?_, ?_, ?_⟩
          · by_cases e : j = b
            · subst e; exact p3
            · rw [p8 _ (by omega) (by omega) (by omega) (by omega) (by omega), k53]; exact i4 j (by omega)
          · by_cases e : j = b
            · subst e; exact p4
            · rw [p8 _ (by omega) (by omega) (by omega) (by omega) (by omega), k53]; exact i5 j (by omega)
          · by_cases e : j = b
            · subst e; exact p5 u hu
            · have := ok.2.2.1 j (by omega)
              rw [p8 _ (by omega) (by omega) (by omega) (by omega) (by omega), k53]; exact i6 j (by omega) u hu
          · by_cases e : j = b
            · subst e; exact p6
            · have := ok.2.2.1 j (by omega)
              rw [p8 _ (by omega) (by omega) (by omega) (by omega) (by omega), k53]; exact i7 j (by omega)
          · by_cases e : j = b
            · subst e; exact p7 u hu
            · have := ok.2.2.1 j (by omega)
              rw [p8 _ (by omega) (by omega) (by omega) (by omega) (by omega), k53]; exact i8 j (by omega) u hu
          · rw [p8 _ (by omega) (by omega) (by omega) (by omega) (by omega), k53]; exact i9
          · rw [p8 _ (by omega) (by omega) (by omega) (by omega) (by omega), k53]; exact i10
          · rw [p8 _ (by omega) (by omega) (by omega) (by omega) (by omega), k53]; exact i11
          · rw [p8 _ (by omega) (by omega) (by omega) (by omega) (by omega), k53]; exact i12
          · rw [p8 _ (by omega) (by omega) (by omega) (by omega) (by omega), k53]; exact i13
          · rw [p8 _ (by omega) (by omega) (by omega) (by omega) (by omega), k53]; exact i14
      | succ s ih2 =>
        intro i M1 hi k1 k2
        have e57 : M1 57 (nI b).toNatClampNeg = nI (dZ D b) := by
          rw [clamp_nI (by omega), k1 57 (by decide), h.1 57 (by decide) (by decide)]; exact hd.2.2.1 b (by omega)
        unfold wX5_keepDraft_98
        rw [e57, nI_leI (by omega) (by omega)]
        refine ⟨vp_nI (by rw [a5x.2.1]; omega) (by rw [a5x.2.1]; decide), br_f (by omega) ?_⟩
        rw [show (12 : Int32) = nI 12 from rfl, pk_mul, nI_add, clamp_nI (n := 12 * b + i) (by omega), clamp_nI (n := i) (by omega)]
        refine ⟨vp_nI (by rw [a5x.2.2.1]; omega) (by rw [a5x.2.2.1]; decide), v60 (by omega), ?_⟩
        rintro _ rfl
        rw [k1 58 (by decide), h.1 58 (by decide) (by decide), hd.2.2.2 b (by omega) i (by omega), nI_1]
        refine ih2 (i + 1) _ (by omega) (fun a ha => by rw [mset_n ha]; exact k1 a ha) (fun j hj => ?_)
        by_cases e : j = i
        · subst e; rw [mset_ss]
        · rw [mset_sn e]; exact k2 j (by omega)
    unfold wX5_keepDraft_88
    rw [h.1 52 (by decide) (by decide), hd.2.1, nI_leI (by omega) (by omega)]
    exact br_f (by omega) ⟨dZ D b + 1, t98 (dZ D b) 0 M (by omega) (fun _ _ => rfl) (fun j hj => absurd hj (Nat.not_lt_zero _))⟩
theorem mdT_dS {M0 M : MM} {D : DD} (ok : okD D) (h : kdI M0 M D (dN D)) : mdT M 0 (dS D) := by
  obtain ⟨i1, i2, i3, i4, i5, i6, i7, i8, i9, i10, i11, i12, i13, i14⟩ := h
  refine ⟨i14, i3, i9, fun j hj => ?_, fun j hj => ?_, fun j hj i hi => ?_, fun j hj i hi => ?_, i11, fun i hi => absurd hi (Nat.not_lt_zero _), i13, fun i hi => absurd hi (Nat.not_lt_zero _), i10, i12⟩
  · rw [Nat.zero_add]; exact i4 j hj
  · rw [Nat.zero_add]; exact i5 j hj
  · have hz := ok.2.2.1 j hj
    have hi' : i ≤ dZ D j := hi
    rw [Nat.zero_add, show 25 + (j * 13 + i) = 25 + 13 * j + i by omega]
    show M 53 (25 + 13 * j + i) = nI (if (j * 13 + i) % 13 < dZ D ((j * 13 + i) / 13) then odN (dY D (12 * ((j * 13 + i) / 13) + (j * 13 + i) % 13)) else rwN (fun i' => dY D (12 * ((j * 13 + i) / 13) + i')) (dZ D ((j * 13 + i) / 13)))
    rw [show (j * 13 + i) / 13 = j by omega, show (j * 13 + i) % 13 = i by omega]
    by_cases e : i < dZ D j
    · rw [if_pos e]; exact i6 j hj i e
    · rw [if_neg e]
      have : i = dZ D j := by omega
      subst this
      exact i7 j hj
  · rw [Nat.zero_add, show 181 + (j * 12 + i) = 181 + 12 * j + i by omega]
    show M 53 (181 + 12 * j + i) = nI (dY D (j * 12 + i))
    rw [show j * 12 + i = 12 * j + i by omega]
    exact i8 j hj i hi
theorem m_keepDraft {Q : MM → Prop} {M : MM} {D : DD} (hd : dfM M D) (ok : okD D) (hq : ∀ M', mdT M' 0 (dS D) → (∀ r, r < 9 → M' 55 r = nI (dR D r)) → M' 54 0 = 0 → M' 54 1 = 0 → (∀ a, a ≠ 53 → a ≠ 54 → a ≠ 55 → a ≠ 60 → M' a = M a) → (∀ j, 400 ≤ j → M' 53 j = M 53 j) → Q M') : wX5_keepDraft Q M := by
  have hN := ok.2.1
  -- the rest, behind the emptied row
  have t28 : ∀ (M1 : MM), (∀ a, a ≠ 53 → a ≠ 55 → M1 a = M a) → (∀ r, r < 9 → M1 55 r = nI (dR D r)) → (∀ j, j < 400 → M1 53 j = 0) → (∀ j, 400 ≤ j → M1 53 j = M 53 j) → ∀ M2, M2 = mset M1 53 340 (-4) → ∀ M3, M3 = mset M2 53 366 (M2 55 0) → ∀ M4, M4 = mset M3 54 0 0 → ∀ M5, M5 = mset M4 54 1 0 → ∃ m, wX5_keepDraft_88 Q m M5 0 := by
    rintro M1 k1 k2 k3 k4 _ rfl _ rfl _ rfl _ rfl
    rw [show mset M1 53 340 (-4) 55 0 = nI (dR D 0) by rw [mset_n (by decide)]; exact k2 0 (by omega)]
    have ka : ∀ a, a ≠ 53 → a ≠ 54 → mset (mset (mset (mset M1 53 340 (-4)) 53 366 (nI (dR D 0))) 54 0 0) 54 1 0 a = M1 a := fun a a1 a2 => by rw [mset_n a2, mset_n a2, mset_n a1, mset_n a1]
    have kj : ∀ j, j ≠ 340 → j ≠ 366 → mset (mset (mset (mset M1 53 340 (-4)) 53 366 (nI (dR D 0))) 54 0 0) 54 1 0 53 j = M1 53 j := fun j j1 j2 => by rw [mset_n (by decide), mset_n (by decide), mset_sn j2, mset_sn j1]
    have hd5 : dfM (mset (mset (mset (mset M1 53 340 (-4)) 53 366 (nI (dR D 0))) 54 0 0) 54 1 0) D := hd.keep (fun a ha => by rw [ka a (by omega) (by omega), k1 a (by omega) (by omega)]) (by rw [ka 52 (by decide) (by decide), k1 52 (by decide) (by decide)])
    have hr5 : rlT (mset (mset (mset (mset M1 53 340 (-4)) 53 366 (nI (dR D 0))) 54 0 0) 54 1 0) (dR D) := fun r _ hr => by rw [ka 55 (by decide) (by decide)]; exact k2 r hr
    refine ⟨dN D + 1, m_blocks hd5 hr5 ok (fun M' h => ?_) (dN D) 0 _ (by omega) ⟨fun _ _ _ => rfl, fun _ _ => rfl, ?_, fun j hj => absurd hj (Nat.not_lt_zero _), fun j hj => absurd hj (Nat.not_lt_zero _), fun j hj => absurd hj (Nat.not_lt_zero _), fun j hj => absurd hj (Nat.not_lt_zero _), fun j hj => absurd hj (Nat.not_lt_zero _), ?_, ?_, ?_, ?_, ?_, ?_⟩⟩
    · refine hq M' (mdT_dS ok h) (fun r hr => by rw [h.1 55 (by decide) (by decide), ka 55 (by decide) (by decide)]; exact k2 r hr) ?_ ?_ (fun a a1 a2 a3 a4 => by rw [h.1 a a1 a4, ka a a1 a2]; exact k1 a a1 a3) (fun j hj => by rw [h.2.1 j hj, kj j (by omega) (by omega)]; exact k4 j hj)
      · rw [h.1 54 (by decide) (by decide), mset_sn (by decide), mset_ss]
      · rw [h.1 54 (by decide) (by decide), mset_ss]
    · rw [kj 0 (by decide) (by decide)]; exact k3 0 (by omega)
    · rw [kj 325 (by decide) (by decide)]; exact k3 325 (by omega)
    · rw [kj 326 (by decide) (by decide)]; exact k3 326 (by omega)
    · rw [kj 327 (by decide) (by decide)]; exact k3 327 (by omega)
    · rw [mset_n (by decide), mset_n (by decide), mset_sn (by decide), mset_ss]
    · rw [kj 341 (by decide) (by decide)]; exact k3 341 (by omega)
    · rw [mset_n (by decide), mset_n (by decide), mset_ss]
  -- the row is emptied
  have t20 : ∀ (M0 : MM), (∀ a, a ≠ 55 → M0 a = M a) → (∀ r, r < 9 → M0 55 r = nI (dR D r)) → ∀ r i (M1 : MM), i + r = 400 → (∀ a, a ≠ 53 → M1 a = M0 a) → (∀ j, j < i → M1 53 j = 0) → (∀ j, i ≤ j → M1 53 j = M0 53 j) → wX5_keepDraft_28 Q (r + 1) M1 (nI i) := by
    intro M0 q1 q2 r
    induction r with
    | zero =>
      intro i M1 hi k1 k2 k3
      have : i = 400 := by omega
      subst this
      refine br_t (by decide +kernel) (t28 M1 (fun a a1 a2 => by rw [k1 a a1]; exact q1 a a2) (fun r hr => by rw [k1 55 (by decide)]; exact q2 r hr) k2 (fun j hj => by rw [k3 j hj, q1 53 (by decide)]))
    | succ r ih =>
      intro i M1 hi k1 k2 k3
      unfold wX5_keepDraft_28
      rw [show (400 : Int32) = nI 400 from rfl, nI_leI (by omega) (by omega), clamp_nI (by omega)]
      refine br_f (by omega) ⟨v53 (by omega), ?_⟩
      rintro _ rfl
      rw [nI_1]
      refine ih (i + 1) _ (by omega) (fun a ha => by rw [mset_n ha]; exact k1 a ha) (fun j hj => ?_) (fun j hj => by rw [mset_sn (by omega)]; exact k3 j (by omega))
      by_cases e : j = i
      · subst e; rw [mset_ss]
      · rw [mset_sn e]; exact k2 j (by omega)
  -- the rules
  have t2 : ∀ r i (M1 : MM), i + r = 9 → (∀ a, a ≠ 55 → M1 a = M a) → (∀ j, j < i → M1 55 j = nI (dR D j)) → wX5_keepDraft_2 Q (r + 1) M1 (nI i) := by
    intro r
    induction r with
    | zero =>
      intro i M1 hi k1 k2
      have : i = 9 := by omega
      subst this
      exact br_t (by decide +kernel) ⟨401, t20 M1 k1 k2 400 0 M1 (by omega) (fun _ _ => rfl) (fun j hj => absurd hj (Nat.not_lt_zero _)) (fun _ _ => rfl)⟩
    | succ r ih =>
      intro i M1 hi k1 k2
      unfold wX5_keepDraft_2
      rw [show (9 : Int32) = nI 9 from rfl, nI_leI (by omega) (by omega), clamp_nI (by omega)]
      refine br_f (by omega) ⟨vp_nI (by rw [a5x.1]; omega) (by rw [a5x.1]; decide), vp_nI (by rw [a5x.2.2.2]; omega) (by rw [a5x.2.2.2]; decide), ?_⟩
      rintro _ rfl
      rw [nI_1]
      refine ih (i + 1) _ (by omega) (fun a ha => by rw [mset_n ha]; exact k1 a ha) (fun j hj => ?_)
      by_cases e : j = i
      · subst e; rw [mset_ss, k1 56 (by decide)]; exact hd.1 j (by omega)
      · rw [mset_sn e]; exact k2 j (by omega)
  exact ⟨10, t2 9 0 M (by omega) (fun _ _ => rfl) (fun j hj => absurd hj (Nat.not_lt_zero _))⟩
-- ===== the reference's text =====
/-- what a text leaves of all else -/
def mfr (M M' : MM) : Prop := (∀ a, a ≠ 52 → a ≠ 53 → a ≠ 54 → a ≠ 55 → a ≠ 56 → a ≠ 57 → a ≠ 58 → a ≠ 60 → M' a = M a) ∧ (∀ j, 400 ≤ j → M' 53 j = M 53 j) ∧ ∀ j, (j < 4 ∨ 16 ≤ j) → M' 52 j = M 52 j
theorem m_75X {Q : Int32 → MM → Prop} {M0 M : MM} {pl : Nat} {v : Int32} (h : mlX M0 M pl) (hq : ∀ M', (∀ a, a ≠ 52 → M' a = M a) → (∀ j, j ≠ 9 → M' 52 j = M 52 j) → M' 52 9 = 0 → Q (((-10) : Int32) - nI pl) M') : wX5_text_75 Q M v := by
  have hgt := h.gt
  unfold wX5_text_75
  rintro _ rfl
  refine br_f (by rw [mset_sn (by decide)]; exact hgt) ?_
  rw [mset_sn (by decide), h.2.2]
  exact hq _ (fun a ha => mset_n ha) (fun j hj => mset_sn hj) mset_ss
theorem m_lines {Q : Int32 → MM → Prop} {M0 : MM} {c : Nat → Nat} {n : Nat} (hl : ltM M0 c n) : ∀ k p D l M, n < p + k → p ≤ n → mlL c n M0 M p D → okD D → tK c n p ≠ 4 → (∀ pl v M', rnL c n k p D l = .inl pl → mlX M0 M' pl → wX5_text_75 Q M' v) → (∀ l' D' M', rnL c n k p D l = .inr (l', D') → fm M0 M' → M' 52 14 = 0 → dfM M' D' → okD D' → enD D' (dN D') ≤ dR D' 0 → wX5_text_75 Q M' (nI l')) → wX5_text_20 Q (k + 1) M (nI l) := by
  have h400 := hl.1
  intro k
  induction k with
  | zero => intro p D l M h1 h2; omega
  | succ k ih =>
    intro p D l M h1 h2 h ok k4 gX gE
    have h' := h
    obtain ⟨hf, ht, e7, e14, hd⟩ := h
    obtain ⟨e10, e11, e12⟩ := ht.1 k4
    have hkl := tK_le c n p
    have heb := tE_b (c := c) h2
    rw [rnL] at gX gE
    unfold wX5_text_20
    refine br_nt e14 ?_
    rw [e12, show (0 : Int32) = nI 0 from rfl, nI_eq (by omega) (by omega)]
    have x44 : ∀ pl M' (v : Int32), mlX M0 M' pl → wX5_text_75 Q M' v → wX5_text_44 Q M' v := by
      intro pl M' v hx g
      unfold wX5_text_44
      exact br_nf hx.ne g
    by_cases k0 : tK c n p = 0
    · rw [if_pos k0] at gX gE
      refine br_t k0 ?_
      have hR0 := ok.R.2
      have hen := enD_le ok (dN D) (Nat.le_refl _)
      have hN := ok.2.1
      unfold wX5_text_44
      refine br_nt e14 (m_draftEnd hd ok ?_)
      rw [hd.1 0 (by omega), nI_ltI (by omega) (by omega)]
      unfold wX5_text_70
      by_cases z : enD D (dN D) ≤ dR D 0
      · rw [if_pos z] at gE
        exact br_f (by omega) (m_needs1 (gE l D M rfl hf e14 hd ok z))
      · rw [if_neg z] at gX
        have eS : tS c n p = n := (tK_0 (c := c) h2 k0).1
        exact br_t (by omega) (m_fault (k := 6) hf e14 rfl (by omega) (by rw [e11, eS]) (fun M' hx => gX n _ M' rfl hx))
    · rw [if_neg k0] at gX gE
      refine br_f k0 (m_readLine hl h2 k0 k4 h' ok ⟨fun pl M' er hx => ?_, fun q D' M' er hL ok' q1 q2 q4 => ?_⟩)
      · rw [er] at gX
        refine br_nf hx.ne (x44 pl M' _ hx (gX pl _ M' rfl hx))
      · rw [er] at gX gE
        rw [nI_1]
        exact ih q D' (l + 1) M' (by omega) q1 hL ok' q4 gX gE
theorem m_text {Q : Int32 → MM → Prop} {M : MM} {c : Nat → Nat} {n : Nat} (hl : ltM M c n) (gX : ∀ pl M', txF c n = .inl pl → (∀ a, a ≠ 52 → a ≠ 56 → a ≠ 57 → a ≠ 58 → M' a = M a) → (∀ j, (j < 4 ∨ 16 ≤ j) → M' 52 j = M 52 j) → M' 52 9 = 0 → Q (((-10) : Int32) - nI pl) M') (gE : ∀ l D M', txF c n = .inr (l, D) → okD D → mdT M' 0 (dS D) → rlT M' (dR D) → M' 54 0 = 0 → M' 54 1 = 0 → mfr M M' → M' 52 9 = 0 → Q (nI l) M') : wX5_text Q M := by
  have h400 := hl.1
  unfold wX5_text
  rintro _ rfl _ rfl
  refine m_firstDraft (fun M1 a1 a2 a3 a4 a5 => ?_)
  have hf : fm M M1 := ⟨fun a b1 b2 b3 b4 => by rw [a1 a b1 b2, mset_n b1, mset_n b1], fun j hj => by rw [a2 j (by omega) (by omega), mset_sn (by omega), mset_sn (by omega)]⟩
  have hd : dfM M1 D0 := ⟨a3, a4, fun j hj => absurd hj (Nat.not_lt_zero _), fun j hj => absurd hj (Nat.not_lt_zero _)⟩
  have e14 : M1 52 14 = 0 := by rw [a2 14 (by decide) (by decide), mset_sn (by decide), mset_ss]
  have e10 : M1 52 10 = nI 0 := by rw [a2 10 (by decide) (by decide), mset_ss]; rfl
  -- both ends
  have fX : ∀ pl M' (v : Int32), txF c n = .inl pl → mlX M M' pl → wX5_text_75 Q M' v := by
    intro pl M' v er hx
    refine m_75X hx (fun M2 b1 b2 b3 => gX pl M2 er (fun a c1 c2 c3 c4 => by rw [b1 a c1]; exact hx.1.1 a c1 c2 c3 c4) (fun j hj => by rw [b2 j (by omega)]; exact hx.1.2 j (by omega)) b3)
  have fE : ∀ l D M', txF c n = .inr (l, D) → fm M M' → M' 52 14 = 0 → dfM M' D → okD D → wX5_text_75 Q M' (nI l) := by
    intro l D M' er f f14 d ok
    unfold wX5_text_75
    rintro _ rfl
    refine br_t (by rw [mset_sn (by decide), f14]; decide) ?_
    have d2 : dfM (mset M' 52 9 0) D := d.keep (fun a ha => mset_n (by omega)) (mset_sn (by decide))
    refine m_keepDraft d2 ok (fun M2 b1 b2 b3 b4 b5 b6 => gE l D M2 er ok b1 (fun r _ hr => b2 r hr) b3 b4 ⟨fun a c1 c2 c3 c4 c5 c6 c7 c8 => ?_, fun j hj => ?_, fun j hj => ?_⟩ ?_)
    · rw [b5 a c2 c3 c4 c8, mset_n c1]; exact f.1 a c1 c5 c6 c7
    · rw [b6 j hj, mset_n (by decide), f.1 53 (by decide) (by decide) (by decide) (by decide)]
    · rw [b5 52 (by decide) (by decide) (by decide) (by decide), mset_sn (by omega)]; exact f.2 j (by omega)
    · rw [b5 52 (by decide) (by decide) (by decide) (by decide), mset_ss]
  refine m_rd (D := D0) (p := 0) hl (Nat.zero_le _) hf e10 a5 e14 hd (fun k4 M' hx => ?_) (fun k4 M' h _ => ?_)
  · have e : txF c n = .inl (tS c n 0) := if_pos k4
    refine ⟨1, br_nf hx.ne ?_⟩
    unfold wX5_text_44
    exact br_nf hx.ne (fX _ M' _ e hx)
  · have e : txF c n = rnL c n (n + 1) 0 D0 0 := if_neg k4
    rw [e] at fX fE
    exact ⟨n + 1 + 1, m_lines hl (n + 1) 0 D0 0 M' (by omega) (Nat.zero_le _) h ok0 k4 (fun pl v M2 er hx => fX pl M2 v er hx) (fun l D M2 er f f14 d ok _ => fE l D M2 er f f14 d ok)⟩
theorem L_text {M : MM} (h : Rel M) : wX4_text (fun r M1 => wX5_text (PQ r) M1) M := by
  obtain ⟨R, σ, hR, hS, hc, hm, hr, him, hsh, htx⟩ := id h
  obtain ⟨⟨n, hn, e1, e2, g⟩, -, t3⟩ := htx
  have hl : ∃ c : Nat → Nat, ltP M c n ∧ ltM M c n := by
    refine ⟨fun i => (M 59 i).toBitVec.toNat, ⟨hn, e1, fun i hi => ?_, fun i hi => ?_⟩, hn, e2, fun i hi => ?_, fun i hi => ?_⟩
    · obtain ⟨x, x1, x2, x3⟩ := g i hi
      show M 38 i &&& 255 = nI (M 59 i).toBitVec.toNat
      rw [x3, pk_tn (by omega)]; exact x2
    · obtain ⟨x, x1, x2, x3⟩ := g i hi
      show (M 59 i).toBitVec.toNat < 256
      rw [x3, pk_tn (by omega)]; exact x1
    · obtain ⟨x, x1, x2, x3⟩ := g i hi
      show M 59 i = nI (M 59 i).toBitVec.toNat
      rw [x3, pk_tn (by omega)]
    · obtain ⟨x, x1, x2, x3⟩ := g i hi
      show (M 59 i).toBitVec.toNat < 256
      rw [x3, pk_tn (by omega)]; exact x1
  obtain ⟨c, hl1, hl2⟩ := hl
  refine s_text hl1 (fun pl M1 er a1 a2 a3 => ?_) (fun l D M1 er ok he hcd a1 a2 a3 a4 => ?_)
  · -- a fault
    have hl3 : ltM M1 c n := hl2.keep (by rw [a1 52 (by decide) (by omega)]) (a1 59 (by decide) (by omega))
    refine m_text hl3 (fun pl2 M2 er2 b1 b2 b3 => ?_) (fun l D M2 er2 => by rw [er] at er2; exact absurd er2 (by simp))
    rw [er] at er2
    have e : pl = pl2 := Sum.inl.inj er2
    subst e
    have kk : ∀ a, a ≠ 0 → (a < 28 ∨ 38 ≤ a) → a ≠ 52 → a ≠ 56 → a ≠ 57 → a ≠ 58 → M2 a = M a := fun a c0 c1 c2 c3 c4 c5 => by rw [b1 a c2 c3 c4 c5]; exact a1 a c0 c1
    refine ⟨rfl, R, σ, hR, hS, hc.keep (fun i hi => kk _ (by omega) (by omega) (by omega) (by omega) (by omega) (by omega)), hm.keep (kk 53 (by decide) (by omega) (by decide) (by decide) (by decide) (by decide)), hr.keep (kk 55 (by decide) (by omega) (by decide) (by decide) (by decide) (by decide)), him.keep ?_ (fun a c1 c2 => kk a (by omega) (by omega) (by omega) (by omega) (by omega) (by omega)) (fun j _ => by rw [kk 53 (by decide) (by omega) (by decide) (by decide) (by decide) (by decide)]) (kk 54 (by decide) (by omega) (by decide) (by decide) (by decide) (by decide)), hsh.keep (fun a c1 c2 => kk a (by omega) (by omega) (by omega) (by omega) (by omega) (by omega)) (fun a c1 c2 => kk a (by omega) (by omega) (by omega) (by omega) (by omega) (by omega)), ⟨0, Nat.zero_le _, ?_, ?_, fun i hi => absurd hi (Nat.not_lt_zero _)⟩, True.intro, ?_⟩
    · rw [b1 0 (by decide) (by decide) (by decide) (by decide)]; exact a2 11 (by decide)
    · rw [b1 37 (by decide) (by decide) (by decide) (by decide)]; exact a3
    · exact b3
    · rw [b1 0 (by decide) (by decide) (by decide) (by decide), a2 10 (by decide), b2 25 (by omega), a1 52 (by decide) (by omega)]; exact t3
  · -- a new tape
    have hl3 : ltM M1 c n := hl2.keep (by rw [a1 52 (by decide) (by omega)]) (a1 59 (by decide) (by omega))
    refine m_text hl3 (fun pl2 M2 er2 => by rw [er] at er2; exact absurd er2 (by simp)) (fun l2 D2 M2 er2 ok2 b1 b2 b3 b4 b5 b6 => ?_)
    rw [er] at er2
    have e := Sum.inr.inj er2
    have e3 : l = l2 := congrArg Prod.fst e
    have e4 : D = D2 := congrArg Prod.snd e
    subst e3; subst e4
    obtain ⟨f1, f2, f3⟩ := b5
    have kk : ∀ a, 10 ≤ a → (a < 28 ∨ 38 ≤ a) → a ≠ 52 → a ≠ 53 → a ≠ 54 → a ≠ 55 → a ≠ 56 → a ≠ 57 → a ≠ 58 → a ≠ 60 → M2 a = M a := fun a c0 c1 d1 d2 d3 d4 d5 d6 d7 d8 => by rw [f1 a d1 d2 d3 d4 d5 d6 d7 d8]; exact a1 a c0 c1
    refine ⟨rfl, dR D, dS D, ok.R.1, ok_dS ok he, hcd.keep (fun i hi => f1 _ (by omega) (by omega) (by omega) (by omega) (by omega) (by omega) (by omega) (by omega)), b1, b2, ⟨0, 0, by omega, by omega, ?_, b3, b4, fun q => by omega, fun q => by omega⟩, hsh.keep (fun a c1 c2 => kk a (by omega) (by omega) (by omega) (by omega) (by omega) (by omega) (by omega) (by omega) (by omega) (by omega)) (fun a c1 c2 => kk a (by omega) (by omega) (by omega) (by omega) (by omega) (by omega) (by omega) (by omega) (by omega) (by omega)), ⟨0, Nat.zero_le _, ?_, b6, fun i hi => absurd hi (Nat.not_lt_zero _)⟩, True.intro, ?_⟩
    · rw [f1 0 (by decide) (by decide) (by decide) (by decide) (by decide) (by decide) (by decide) (by decide)]; exact a3
    · rw [f1 37 (by decide) (by decide) (by decide) (by decide) (by decide) (by decide) (by decide) (by decide)]; exact a4
    · rw [f1 0 (by decide) (by decide) (by decide) (by decide) (by decide) (by decide) (by decide) (by decide), a2 10 (by decide) (by decide), f3 25 (by omega), a1 52 (by decide) (by omega)]; exact t3
-- ===== fresh objects =====
theorem s_reset0 {Q : MM → Prop} {M : MM} {b : Nat} (hb : tpB b) (hq : ∀ M', tpP b M' → Q M') : wX2_reset Q M b := s_reset hb (fun M' _ h => hq M' h)
def shP (b : Nat) (M : MM) : Prop := M b 1 = -1 ∧ M b 2 = 0
def r4P (M : MM) : Prop := tpP 1 M ∧ M 37 2 = 0 ∧ shP 44 M ∧ shP 46 M ∧ shP 48 M ∧ shP 50 M ∧ M 0 9 = 0 ∧ M 0 10 = 0 ∧ M 0 11 = 0
def d5P (M : MM) : Prop := (∀ r, r < 9 → M 56 r = nI (rF r)) ∧ M 52 4 = 0 ∧ M 52 9 = 0 ∧ M 52 14 = 0 ∧ M 52 25 = 0 ∧ ∀ s, s < 4 → M 64 s = -4
def r5P (M : MM) : Prop := mdT M 0 (dS D0) ∧ (∀ r, r < 9 → M 55 r = nI (rF r)) ∧ M 54 0 = 0 ∧ M 54 1 = 0 ∧ (∀ s, s < 4 → M 64 s = -4) ∧ M 52 9 = 0 ∧ M 52 14 = 0 ∧ M 52 25 = 0
theorem m_firstDraft0 {Q : MM → Prop} {M : MM} (h : M 52 9 = 0 ∧ M 52 14 = 0 ∧ M 52 25 = 0 ∧ ∀ s, s < 4 → M 64 s = -4) (hq : ∀ M', d5P M' → Q M') : wX5_firstDraft Q M :=
  m_firstDraft (fun M' a1 a2 a3 a4 a5 => hq M' ⟨a3, a4, by rw [a2 9 (by decide) (by decide)]; exact h.1, by rw [a2 14 (by decide) (by decide)]; exact h.2.1, by rw [a2 25 (by decide) (by decide)]; exact h.2.2.1, fun s hs => by rw [a1 64 (by decide) (by decide)]; exact h.2.2.2 s hs⟩)
theorem m_keepDraft0 {Q : MM → Prop} {M : MM} (h : d5P M) (hq : ∀ M', r5P M' → Q M') : wX5_keepDraft Q M :=
  m_keepDraft (D := D0) ⟨h.1, h.2.1, fun j hj => absurd hj (Nat.not_lt_zero _), fun j hj => absurd hj (Nat.not_lt_zero _)⟩ ok0 (fun M' b1 b2 b3 b4 b5 _ => hq M' ⟨b1, b2, b3, b4, fun s hs => by rw [b5 64 (by decide) (by decide) (by decide) (by decide)]; exact h.2.2.2.2.2 s hs, by rw [b5 52 (by decide) (by decide) (by decide) (by decide)]; exact h.2.2.1, by rw [b5 52 (by decide) (by decide) (by decide) (by decide)]; exact h.2.2.2.1, by rw [b5 52 (by decide) (by decide) (by decide) (by decide)]; exact h.2.2.2.2.1⟩)
/-- what holds at the law's loop: both objects fresh -/
theorem Rel0 {M : MM} (h4 : r4P M) (h5 : r5P M) : Rel M ∧ M 0 9 = M 52 14 := by
  obtain ⟨t, a1, a2, a3, a4, a5, a6, a7, a8⟩ := h4
  obtain ⟨b1, b2, b3, b4, b5, b6, b7, b8⟩ := h5
  obtain ⟨t1, t2, t3, t4, t5, t6, t7⟩ := t
  have he : enD D0 (dN D0) ≤ dR D0 0 := Nat.zero_le _
  refine ⟨⟨dR D0, dS D0, ok0.R.1, ok_dS ok0 he, ?_, b1, fun r _ hr => b2 r hr, ⟨0, 0, by omega, by omega, a8, b3, b4, fun q => by omega, fun q => by omega⟩, fun s hs => ?_, ⟨0, Nat.zero_le _, a1, b6, fun i hi => absurd hi (Nat.not_lt_zero _)⟩, True.intro, by rw [a7, b8]⟩, by rw [a6, b7]⟩
  · exact clT_dS ok0 t1 t2 t3 t4 t5 t6 t7 (fun j hj => absurd hj (Nat.not_lt_zero _)) (fun j hj => absurd hj (Nat.not_lt_zero _)) (fun j hj => absurd hj (Nat.not_lt_zero _)) (fun j hj => absurd hj (Nat.not_lt_zero _)) (fun j hj => absurd hj (Nat.not_lt_zero _))
  · refine Or.inl ⟨?_, b5 s hs⟩
    rcases (by omega : s = 0 ∨ s = 1 ∨ s = 2 ∨ s = 3) with rfl | rfl | rfl | rfl
    · exact a2.1
    · exact a3.1
    · exact a4.1
    · exact a5.1
