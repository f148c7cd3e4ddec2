-- ===== bits =====
def poN (n : Nat) : Nat → Nat
  | 0 => 0
  | k + 1 => poN n k + n / 2 ^ k % 2
theorem poN_le (n : Nat) : ∀ k, poN n k ≤ k := by
  intro k
  induction k with
  | zero => exact Nat.le_refl _
  | succ k ih => rw [poN]; omega
theorem po12 {n : Nat} (h : n < 512) : poN n 12 = poN n 9 := by
  have a : ∀ k, 9 ≤ k → n / 2 ^ k = 0 := fun k hk => Nat.div_eq_of_lt (Nat.lt_of_lt_of_le h (show 2 ^ 9 ≤ 2 ^ k from Nat.pow_le_pow_right (by omega) hk))
  show poN n 9 + n / 2 ^ 9 % 2 + n / 2 ^ 10 % 2 + n / 2 ^ 11 % 2 = poN n 9
  rw [a 9 (by omega), a 10 (by omega), a 11 (by omega)]; rfl
theorem sh_s : ∀ k, k < 12 → ((nI k &&& 31).toBitVec.smod 32).toNat = k := by decide +kernel
theorem bit_at {n k : Nat} (h : n < 2 ^ 31) (hk : k < 12) : (nI n >>> (nI k &&& 31)) &&& (1 : Int32) = nI (n / 2 ^ k % 2) := by
  have h2 : n / 2 ^ k ≤ n := Nat.div_le_self _ _
  rw [pk_shrN h _ k (sh_s k hk), pk_andN (m := 1) (by omega) 1 rfl]
theorem shl_1 : ∀ t, t < 12 → (1 : Int32) <<< (nI t &&& 31) = nI (2 ^ t) := by decide +kernel
theorem nI_xor (a b : Nat) : nI a ^^^ nI b = nI (a ^^^ b) := by
  apply Int32.toBitVec_inj.mp
  apply BitVec.eq_of_getLsbD_eq
  intro i hi
  rw [Int32.toBitVec_xor, BitVec.getLsbD_xor]
  show ((BitVec.ofNat 32 a).getLsbD i ^^ (BitVec.ofNat 32 b).getLsbD i) = (BitVec.ofNat 32 (a ^^^ b)).getLsbD i
  rw [BitVec.getLsbD_ofNat, BitVec.getLsbD_ofNat, BitVec.getLsbD_ofNat, Nat.testBit_xor]
  simp [hi]
theorem nI_or (a b : Nat) : nI a ||| nI b = nI (a ||| b) := by
  apply Int32.toBitVec_inj.mp
  apply BitVec.eq_of_getLsbD_eq
  intro i hi
  rw [Int32.toBitVec_or, BitVec.getLsbD_or]
  show ((BitVec.ofNat 32 a).getLsbD i || (BitVec.ofNat 32 b).getLsbD i) = (BitVec.ofNat 32 (a ||| b)).getLsbD i
  rw [BitVec.getLsbD_ofNat, BitVec.getLsbD_ofNat, BitVec.getLsbD_ofNat, Nat.testBit_or]
  simp [hi]
theorem m_odd {Q : Int32 → MM → Prop} {M : MM} {n : Nat} (h : n < 2 ^ 31) (hq : Q (nI (poN n 9 % 2)) M) : wX5_odd Q M (nI n) := by
  have loop : ∀ k i, i + k = 9 → wX5_odd_4 Q (nI n) (k + 1) M (nI (poN n i)) (nI i) := by
    intro k
    induction k with
    | zero =>
      intro i hi
      have : i = 9 := by omega
      subst this
      have := poN_le n 9
      refine br_t (by decide +kernel) ?_
      rw [n2, pk_rem (by omega) (by omega) (by omega)]
      exact hq
    | succ k ih =>
      intro i hi
      refine br_f (fun q => ?_) ?_
      · have := (nI_leI (a := 9) (by omega) (by omega)).mp q; omega
      rintro _ rfl
      rw [bit_at h (by omega), nI_add, nI_1]
      exact ih (i + 1) (by omega)
  exact ⟨10, loop 9 0 (by omega)⟩
theorem m_onesOf {Q : Int32 → MM → Prop} {M : MM} {n : Nat} (h : n < 2 ^ 31) (hq : Q (nI (poN n 9)) M) : wX5_onesOf Q M (nI n) := by
  have loop : ∀ k i, i + k = 9 → wX5_onesOf_4 Q (nI n) (k + 1) M (nI (poN n i)) (nI i) := by
    intro k
    induction k with
    | zero =>
      intro i hi
      have : i = 9 := by omega
      subst this
      exact br_t (by decide +kernel) hq
    | succ k ih =>
      intro i hi
      refine br_f (fun q => ?_) ?_
      · have := (nI_leI (a := 9) (by omega) (by omega)).mp q; omega
      rintro _ rfl
      rw [bit_at h (by omega), nI_add, nI_1]
      exact ih (i + 1) (by omega)
  exact ⟨10, loop 9 0 (by omega)⟩
theorem m_countOf {Q : Int32 → MM → Prop} {M : MM} {n : Nat} (h : n < 2 ^ 31) (hq : Q (nI (poN n 12)) M) : wX5_countOf Q M (nI n) := by
  have loop : ∀ k i, i + k = 12 → wX5_countOf_4 Q (nI n) (k + 1) M (nI (poN n i)) (nI i) := by
    intro k
    induction k with
    | zero =>
      intro i hi
      have : i = 12 := by omega
      subst this
      exact br_t (by decide +kernel) hq
    | succ k ih =>
      intro i hi
      refine br_f (fun q => ?_) ?_
      · have := (nI_leI (a := 12) (by omega) (by omega)).mp q; omega
      rintro _ rfl
      rw [bit_at h (by omega), nI_add, nI_1]
      exact ih (i + 1) (by omega)
  exact ⟨13, loop 12 0 (by omega)⟩
def bc1 (v : Int32) : Int32 := v - (((v.toUInt32 >>> ((1 : Int32).toUInt32 &&& Int32.toUInt32 31)).toInt32) &&& (1431655765 : Int32))
def bc2 (v : Int32) : Int32 := (v &&& (858993459 : Int32)) + (((v.toUInt32 >>> ((2 : Int32).toUInt32 &&& Int32.toUInt32 31)).toInt32) &&& (858993459 : Int32))
def bc3 (v : Int32) : Int32 := (v + ((v.toUInt32 >>> ((4 : Int32).toUInt32 &&& Int32.toUInt32 31)).toInt32)) &&& (252645135 : Int32)
def bc4 (v : Int32) : Int32 := v + ((v.toUInt32 >>> ((8 : Int32).toUInt32 &&& Int32.toUInt32 31)).toInt32)
def bc5 (v : Int32) : Int32 := v + ((v.toUInt32 >>> ((16 : Int32).toUInt32 &&& Int32.toUInt32 31)).toInt32)
theorem bc_al2 : ∀ a, a < 64 → ∀ b, b < 64 → bc5 (bc4 (bc3 (bc2 (bc1 (nI (64 * a + b)))))) &&& (63 : Int32) = nI (poN (64 * a + b) 12) := by decide +kernel
theorem bc_all {n : Nat} (h : n < 4096) : bc5 (bc4 (bc3 (bc2 (bc1 (nI n))))) &&& (63 : Int32) = nI (poN n 12) := by
  have e : n = 64 * (n / 64) + n % 64 := by omega
  have := bc_al2 (n / 64) (by omega) (n % 64) (by omega)
  rw [← e] at this; exact this
theorem s_bitCount {Q : Int32 → MM → Prop} {M : MM} {n : Nat} (h : n < 4096) (hq : Q (nI (poN n 12)) M) : wJ6_bitCount_0f7a4 Q M (nI n) := by
  unfold wJ6_bitCount_0f7a4
  rintro _ rfl _ rfl _ rfl _ rfl _ rfl
  show Q (bc5 (bc4 (bc3 (bc2 (bc1 (nI n))))) &&& (63 : Int32)) M
  rw [bc_all h]; exact hq
