-- ===== a block read =====
def tI : Option Nat → Int32
  | none => -4
  | some t => nI t
def okT : Option Nat → Prop
  | none => True
  | some t => t < 9
theorem okS.dead {R : Nat → Nat} {σ : SS} (h : okS R σ) : ∃ o, okT o ∧ sD σ = tI o := by
  rcases h.2.2.2.2.2.2.2.2.2.2.2 with q | ⟨t, ht, q⟩
  · exact ⟨none, True.intro, q⟩
  · exact ⟨some t, ht, q⟩
def wrN (σ : SS) (j i : Nat) : Nat := if poN (sC σ (j * 13 + i)) 9 % 2 = 0 then 1 else 0
def alN (σ : SS) (j : Nat) : Nat → Nat
  | 0 => 0
  | k + 1 => alN σ j k + wrN σ j k
def acN (σ : SS) (j : Nat) : Nat → Nat
  | 0 => 0
  | k + 1 => acN σ j k ^^^ sC σ (j * 13 + k)
def crN (σ : SS) (j : Nat) : Nat := if sZ σ j = 0 then 0 else acN σ j (sZ σ j + 1)
def rdF (al ac : Nat) : Option Nat → Nat
  | none => if al = 0 ∧ ac = 0 then 0 else if al ≤ 1 ∧ poN ac 9 = 1 then 1 else 3
  | some t => if al = 0 ∧ ac = 0 then 0 else if ac = (if al % 2 = 1 then 2 ^ t else 0) then 2 else 3
def rdN (σ : SS) (j : Nat) (o : Option Nat) : Nat := rdF (alN σ j (sZ σ j)) (crN σ j) o
def fxN (ac : Nat) : Option Nat → Nat
  | none => ac
  | some t => 2 ^ t
def byN (σ : SS) (j : Nat) (o : Option Nat) (i : Nat) : Nat := (if wrN σ j i = 1 then sC σ (j * 13 + i) ^^^ fxN (crN σ j) o else sC σ (j * 13 + i)) % 256
theorem ite_le {c : Prop} [Decidable c] {a b n : Nat} (ha : a ≤ n) (hb : b ≤ n) : (if c then a else b) ≤ n := by
  by_cases h : c
  · rw [if_pos h]; exact ha
  · rw [if_neg h]; exact hb
theorem rdF_le (al ac : Nat) (o : Option Nat) : rdF al ac o ≤ 3 := by
  cases o with
  | none => exact ite_le (by omega) (ite_le (by omega) (by omega))
  | some t => exact ite_le (by omega) (ite_le (by omega) (by omega))
theorem wrN_le (σ : SS) (j i : Nat) : wrN σ j i ≤ 1 := by unfold wrN; split <;> omega
theorem alN_le (σ : SS) (j : Nat) : ∀ k, alN σ j k ≤ k := by
  intro k
  induction k with
  | zero => exact Nat.le_refl _
  | succ k ih =>
    have := wrN_le σ j k
    rw [alN]; omega
theorem acN_lt {R : Nat → Nat} {σ : SS} (hS : okS R σ) {j : Nat} (hj : j < sN σ) : ∀ k, k ≤ sZ σ j + 1 → acN σ j k < 512 := by
  intro k
  induction k with
  | zero => intro _; exact (by decide : 0 < 512)
  | succ k ih =>
    intro hk
    rw [acN]
    exact Nat.xor_lt_two_pow (n := 9) (ih (by omega)) (hS.2.2.2.2.2.1 j hj k (by omega))
theorem crN_lt {R : Nat → Nat} {σ : SS} (hS : okS R σ) {j : Nat} (hj : j < sN σ) : crN σ j < 512 := by
  unfold crN
  split
  · omega
  · exact acN_lt hS hj _ (Nat.le_refl _)
theorem po9_lt {R : Nat → Nat} {σ : SS} (hS : okS R σ) {j i : Nat} (hj : j < sN σ) (hi : i ≤ sZ σ j) : sC σ (j * 13 + i) < 512 := hS.2.2.2.2.2.1 j hj i hi
-- the class
theorem s_isWrongAlong {Q : Int32 → MM → Prop} {M : MM} {b j i : Nat} {R : Nat → Nat} {σ : SS} (hb : tpB b) (hS : okS R σ) (hc : clT M b R σ) (hj : j < sN σ) (hi : i ≤ sZ σ j) (hq : Q (nI (wrN σ j i)) M) : wX2_isWrongAlong Q M b (nI j) (nI i) := by
  unfold wX2_isWrongAlong
  refine s_columnOf hb hS hc hj hi ?_
  have h5 := po9_lt hS hj hi
  refine s_bitCount (by omega) ?_
  have h9 := poN_le (sC σ (j * 13 + i)) 9
  rw [po12 h5, n2, pk_rem (by omega) (by omega) (by omega)]
  unfold wrN at hq
  by_cases q : poN (sC σ (j * 13 + i)) 9 % 2 = 0
  · rw [if_pos q] at hq
    exact br_nt (by rw [q]; rfl) hq
  · rw [if_neg q] at hq
    exact br_nf (fun e => q ((nI_eq (b := 0) (by omega) (by omega)).mp e)) hq
theorem s_wrongAlongCount {Q : Int32 → MM → Prop} {M : MM} {b j : Nat} {R : Nat → Nat} {σ : SS} (hb : tpB b) (hS : okS R σ) (hc : clT M b R σ) (hj : j < sN σ) (hq : Q (nI (alN σ j (sZ σ j))) M) : wX2_wrongAlongCount Q M b (nI j) := by
  have hz := hS.z12 j hj
  have loop : ∀ k i, i + k = sZ σ j → wX2_wrongAlongCount_4 Q b (nI j) (k + 1) M (nI (alN σ j i)) (nI i) := by
    intro k
    induction k with
    | zero =>
      intro i hi
      have : i = sZ σ j := by omega
      subst this
      exact s_sizeOf hb hc hS.2.1 hj (br_t (nI_le (Nat.le_refl _) (by omega)) hq)
    | succ k ih =>
      intro i hi
      refine s_sizeOf hb hc hS.2.1 hj (br_f (fun q => ?_) (s_isWrongAlong hb hS hc hj (by omega) ?_))
      · have := (nI_leI (by omega) (by omega)).mp q; omega
      have g := ih (i + 1) (by omega)
      rw [alN] at g
      have h1 := wrN_le σ j i
      unfold wX2_wrongAlongCount_25
      by_cases q : wrN σ j i = 0
      · rw [q] at g ⊢
        exact br_t rfl (by rw [nI_1]; exact g)
      · have q1 : wrN σ j i = 1 := by omega
        rw [q1] at g ⊢
        exact br_f (by decide +kernel) (by rw [nI_1, nI_1]; exact g)
  exact ⟨_, loop (sZ σ j) 0 (by omega)⟩
theorem s_wrongAcross {Q : Int32 → MM → Prop} {M : MM} {b j : Nat} {R : Nat → Nat} {σ : SS} (hb : tpB b) (hS : okS R σ) (hc : clT M b R σ) (hj : j < sN σ) (hq : Q (nI (crN σ j)) M) : wX2_wrongAcross Q M b (nI j) := by
  have hz := hS.z12 j hj
  unfold wX2_wrongAcross
  refine s_sizeOf hb hc hS.2.1 hj ?_
  unfold crN at hq
  by_cases h0 : sZ σ j = 0
  · rw [if_pos h0] at hq
    rw [h0]
    exact ⟨1, br_t (by decide +kernel) hq⟩
  rw [if_neg h0] at hq
  have loop : ∀ k i, i + k = sZ σ j + 1 → wX2_wrongAcross_11 Q b (nI j) (k + 1) M (nI (sZ σ j)) (nI (acN σ j i)) (nI i) := by
    intro k
    induction k with
    | zero =>
      intro i hi
      have : i = sZ σ j + 1 := by omega
      subst this
      exact br_f (nI_nle (by omega) (by omega)) (br_t (nI_lt (by omega) (by omega)) hq)
    | succ k ih =>
      intro i hi
      refine br_f (nI_nle (by omega) (by omega)) (br_f (fun q => ?_) (s_columnOf hb hS hc hj (by omega) ?_))
      · have := (nI_ltI (by omega) (by omega)).mp q; omega
      rw [nI_xor, nI_1]
      exact ih (i + 1) (by omega)
  exact ⟨_, loop (sZ σ j + 1) 0 (by omega)⟩
theorem s_readingOf {Q : Int32 → MM → Prop} {M : MM} {b j : Nat} {o : Option Nat} {R : Nat → Nat} {σ : SS} (hb : tpB b) (hS : okS R σ) (hc : clT M b R σ) (hj : j < sN σ) (ho : okT o) (hq : Q (nI (rdN σ j o)) M) : wX2_readingOf Q M b (nI j) (tI o) := by
  have hz := hS.z12 j hj
  have ha := alN_le σ j (sZ σ j)
  have hac := crN_lt hS hj
  unfold wX2_readingOf
  refine s_wrongAlongCount hb hS hc hj (s_wrongAcross hb hS hc hj ?_)
  unfold rdN at hq
  rw [show (0 : Int32) = nI 0 from rfl, nI_eq (by omega) (by omega), nI_eq (by omega) (by omega)]
  have rest : ¬ (alN σ j (sZ σ j) = 0 ∧ crN σ j = 0) → wX2_readingOf_24 Q b (nI j) (tI o) M (nI (alN σ j (sZ σ j))) (nI (crN σ j)) := by
    intro hne
    unfold wX2_readingOf_24
    cases o with
    | none =>
      refine br_t rfl ?_
      unfold rdF at hq
      dsimp only at hq
      rw [if_neg hne] at hq
      rw [n1, nI_ltI (by omega) (by omega)]
      by_cases q : 1 < alN σ j (sZ σ j)
      · rw [if_neg (by omega)] at hq
        exact br_t q hq
      · refine br_f q (s_bitCount (by omega) ?_)
        have := poN_le (crN σ j) 9
        rw [po12 hac, nI_eq (by omega) (by omega)]
        by_cases q2 : poN (crN σ j) 9 = 1
        · rw [if_pos ⟨by omega, q2⟩] at hq
          exact br_nt q2 hq
        · rw [if_neg (fun e => q2 e.2)] at hq
          exact br_nf q2 hq
    | some t =>
      have ht : t < 9 := ho
      refine br_f (nI_n4 (by omega)) ?_
      unfold rdF at hq
      dsimp only at hq
      rw [if_neg hne] at hq
      show (¬ (nI (alN σ j (sZ σ j)) - nI (alN σ j (sZ σ j)) / 2 * 2) = 0 → _) ∧ _
      rw [n2, pk_rem (by omega) (by omega) (by omega)]
      have hp : 2 ^ t ≤ 2 ^ 8 := Nat.pow_le_pow_right (by omega) (by omega)
      unfold wX2_readingOf_47
      show (¬ _ → (¬ (nI (crN σ j) ^^^ ((1 : Int32) <<< (nI t &&& 31))) = 0 → _) ∧ ((nI (crN σ j) ^^^ ((1 : Int32) <<< (nI t &&& 31))) = 0 → _)) ∧ _
      rw [shl_1 t (by omega), nI_xor, show (0 : Int32) = nI 0 from rfl]
      have hx : crN σ j ^^^ 2 ^ t < 2 ^ 9 := Nat.xor_lt_two_pow hac (by omega)
      rw [nI_eq (by omega) (by omega), nI_eq (by omega) (by omega), nI_eq (by omega) (by omega)]
      by_cases q : alN σ j (sZ σ j) % 2 = 0
      · refine br_nt q ?_
        rw [if_neg (show ¬ alN σ j (sZ σ j) % 2 = 1 by omega)] at hq
        by_cases q2 : crN σ j = 0
        · rw [if_pos q2] at hq
          exact br_nt q2 hq
        · rw [if_neg q2] at hq
          exact br_nf q2 hq
      · refine br_nf q ?_
        rw [if_pos (show alN σ j (sZ σ j) % 2 = 1 by omega)] at hq
        have hx0 : crN σ j ^^^ 2 ^ t = 0 ↔ crN σ j = 2 ^ t := by
          constructor
          · intro e
            have : (crN σ j ^^^ 2 ^ t) ^^^ 2 ^ t = crN σ j := by rw [Nat.xor_assoc, Nat.xor_self, Nat.xor_zero]
            rw [e, Nat.zero_xor] at this
            exact this.symm
          · intro e
            rw [e, Nat.xor_self]
        rw [hx0]
        by_cases q2 : crN σ j = 2 ^ t
        · rw [if_pos q2] at hq
          exact br_nt q2 hq
        · rw [if_neg q2] at hq
          exact br_nf q2 hq
  by_cases h0 : alN σ j (sZ σ j) = 0
  · refine br_nt h0 ?_
    by_cases h1 : crN σ j = 0
    · have e : rdF (alN σ j (sZ σ j)) (crN σ j) o = 0 := by
        cases o with
        | none => exact if_pos ⟨h0, h1⟩
        | some t => exact if_pos ⟨h0, h1⟩
      rw [e] at hq
      exact br_nt h1 hq
    · exact br_nf h1 (rest (fun q => h1 q.2))
  · exact br_nf h0 (rest (fun q => h0 q.1))
theorem s_byteAsRead {Q : Int32 → MM → Prop} {M : MM} {b j i : Nat} {o : Option Nat} {R : Nat → Nat} {σ : SS} (hb : tpB b) (hS : okS R σ) (hc : clT M b R σ) (hj : j < sN σ) (hi : i < sZ σ j) (ho : okT o) (hd : sD σ = tI o) (hq : Q (nI (byN σ j o i)) M) : wX2_byteAsRead Q M b (nI j) (nI i) := by
  unfold wX2_byteAsRead
  have hac := crN_lt hS hj
  have h5 := po9_lt hS hj (show i ≤ sZ σ j by omega)
  refine s_columnOf hb hS hc hj (by omega) (s_isWrongAlong hb hS hc hj (by omega) ?_)
  have h1 := wrN_le σ j i
  unfold byN at hq
  have e12 : M b 12 = tI o := by rw [← hd]; exact hc.2.2.2.2.2.2.2.2.2.2.2.2
  rw [e12]
  unfold wX2_byteAsRead_40 wX2_byteAsRead_42
  by_cases q : wrN σ j i = 0
  · rw [if_neg (by omega)] at hq
    rw [q]
    refine br_t rfl ?_
    rw [pk_andN (m := 255) (by omega) 8 rfl]
    exact hq
  · rw [if_pos (by omega)] at hq
    have q1 : wrN σ j i = 1 := by omega
    rw [q1]
    refine br_f (by decide +kernel) ?_
    cases o with
    | none =>
      refine br_nt rfl (s_wrongAcross hb hS hc hj ?_)
      have hx : sC σ (j * 13 + i) ^^^ crN σ j < 2 ^ 9 := Nat.xor_lt_two_pow h5 hac
      rw [nI_xor, pk_andN (m := 255) (by omega) 8 rfl]
      exact hq
    | some t =>
      have ht : t < 9 := ho
      have hp : 2 ^ t ≤ 2 ^ 8 := Nat.pow_le_pow_right (by omega) (by omega)
      have hx : sC σ (j * 13 + i) ^^^ 2 ^ t < 2 ^ 9 := Nat.xor_lt_two_pow h5 (by omega)
      refine br_nf (nI_n4 (by omega)) ?_
      show Q ((nI (sC σ (j * 13 + i)) ^^^ ((1 : Int32) <<< (nI t &&& 31))) &&& (255 : Int32)) M
      rw [shl_1 t (by omega), nI_xor, pk_andN (m := 255) (by omega) 8 rfl]
      exact hq
