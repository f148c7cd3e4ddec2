-- ===== the law's own rows =====
/-- the script lies outside of all that is written -/
def SX (z : ZZ) (g : GG) (b L : Nat) (xs : Nat → Int32) : Prop := va_X b L xs (zs z) (zs z).heap ∧ b < (zs z).heap.size ∧ ¬ AA g b
def inS (v : Int32) (L : Nat) : Prop := vp_in v L ∧ vp_in (v + 1) L ∧ vp_in (v + 2) L ∧ vp_in (v + 3) L ∧ vp_in (v + 4) L ∧ vp_in (v + 5) L
section LROWS
variable {z : ZZ} {g : GG} {Qf : State → Prop} {nL pc : Nat} {L : List (Nat × Value)} {st : List Value} {M : MM} {cc : ByteArray} {Ts : List Cond} {own : String} {rm : Room} {b Ln : Nat} {xs : Nat → Int32}
theorem q_sld (hC : CX z g cc nL Ts own rm) (hX : SX z g b Ln xs) {i : Int32} (hin : vp_in i Ln) (hd : decode cc pc = .ok (.iaload, 1)) (pc' : Nat) (he : pc + 1 = pc') (k : XX z g Qf nL pc' L (.int (xs i.toNatClampNeg) :: st) M) : XX z g Qf nL pc L (.int i :: .ref b :: st) M := by
  subst he; exact fun H locs ls hI hS h => va_sld hC.1.1 hC.1.2.1 hX.1 hX.2.1 hX.2.2 hS hin hd (k H locs ls hI hS h)
theorem q_slen (hC : CX z g cc nL Ts own rm) (hX : SX z g b Ln xs) (hd : decode cc pc = .ok (.arraylength, 1)) (pc' : Nat) (he : pc + 1 = pc') (k : XX z g Qf nL pc' L (.int (nI Ln) :: st) M) : XX z g Qf nL pc L (.ref b :: st) M := by
  subst he; exact fun H locs ls hI hS h => va_slen hC.1.1 hC.1.2.1 hX.1 hX.2.1 hX.2.2 hS hd (k H locs ls hI hS h)
end LROWS
theorem inS_nI {i L : Nat} (h : i + 6 ≤ L) (hL : L ≤ 3072) : inS (nI i) L := by
  have g : ∀ k : Nat, k < 6 → vp_in (nI i + nI k) L := fun k hk => by
    rw [nI_add]; exact vp_nI (by omega) (by omega)
  exact ⟨vp_nI (by omega) (by omega), g 1 (by omega), g 2 (by omega), g 3 (by omega), g 4 (by omega), g 5 (by omega)⟩
/-- a script's end -/
theorem end_iff {i L : Nat} (hL : L ≤ 3072) (hi : i ≤ 4000) : (nI L - 6 < nI i) ↔ L < i + 6 := by
  by_cases h : 6 ≤ L
  · rw [show (6 : Int32) = nI 6 from rfl, pk_sub h, nI_ltI (by omega) (by omega)]
    omega
  · have hn : nI L - 6 < 0 := by
      have : ∀ k, k < 6 → nI k - 6 < 0 := by decide +kernel
      exact this L (by omega)
    have h0 : (0 : Int32) ≤ nI i := nI_le (a := 0) (Nat.zero_le _) (by omega)
    constructor
    · intro _; omega
    · intro _; exact Int32.lt_of_lt_of_le hn h0
theorem tab_out {x : Int32} {n : Nat} (hn : n < 2 ^ 31) (h : ¬ ((0 : Int32) ≤ x ∧ x ≤ nI n)) : x.toInt < 0 ∨ (n : Int) < x.toInt := by
  by_cases h0 : (0 : Int32) ≤ x
  · refine Or.inr ?_
    have h1 : ¬ x ≤ nI n := fun q => h ⟨h0, q⟩
    have h2 : nI n < x := Int32.not_le.mp h1
    have h3 := Int32.lt_iff_toInt_lt.mp h2
    have e : (nI n).toInt = n := Int32.toInt_ofNat_of_lt hn
    omega
  · refine Or.inl ?_
    have h2 : x < 0 := Int32.not_le.mp h0
    exact Int32.lt_iff_toInt_lt.mp h2
