def wX4_copyRow (Q : MM → Prop) (M : MM) (k0 : Nat) (k1 : Nat) : Prop :=
  ¬ (0 : Int32) < 0 ∧ ¬ (0 : Int32) < 0 ∧ ¬ (if (nI (alen k1)) < (nI (alen k0)) then (nI (alen k1)) else (nI (alen k0))) < 0 ∧ (0 : Int32).toNatClampNeg + (if (nI (alen k1)) < (nI (alen k0)) then (nI (alen k1)) else (nI (alen k0))).toNatClampNeg ≤ alen k0 ∧ (0 : Int32).toNatClampNeg + (if (nI (alen k1)) < (nI (alen k0)) then (nI (alen k1)) else (nI (alen k0))).toNatClampNeg ≤ alen k1 ∧ (∀ M1 : MM, M1 = mrow M k1 (va_cpy (M k0) (M k1) (0 : Int32).toNatClampNeg (0 : Int32).toNatClampNeg (if (nI (alen k1)) < (nI (alen k0)) then (nI (alen k1)) else (nI (alen k0))).toNatClampNeg) → Q M1)
def wX4_copyRow_si (Q : MM → Prop) (M : MM) (k0 : Nat) (k1 : Nat) : Prop :=
  ¬ (0 : Int32) < 0 ∧ ¬ (0 : Int32) < 0 ∧ ¬ (if (nI (alen k1)) < 9 then (nI (alen k1)) else 9) < 0 ∧ (0 : Int32).toNatClampNeg + (if (nI (alen k1)) < 9 then (nI (alen k1)) else 9).toNatClampNeg ≤ 9 ∧ (0 : Int32).toNatClampNeg + (if (nI (alen k1)) < 9 then (nI (alen k1)) else 9).toNatClampNeg ≤ alen k1 ∧ (∀ M1 : MM, M1 = mrow M k1 (va_cpy (stV k0) (M k1) (0 : Int32).toNatClampNeg (0 : Int32).toNatClampNeg (if (nI (alen k1)) < 9 then (nI (alen k1)) else 9).toNatClampNeg) → Q M1)
def wX2_reset (Q : MM → Prop) (M : MM) (b : Nat) : Prop :=
  wX4_copyRow_si (fun M1 => ∀ M2 : MM, M2 = mset M1 b 8 0 → ∀ M3 : MM, M3 = mset M2 b 9 0 → ∀ M4 : MM, M4 = mset M3 b 10 0 → ∀ M5 : MM, M5 = mset M4 b 11 0 → ∀ M6 : MM, M6 = mset M5 b 12 (-4) → ∀ M7 : MM, M7 = mset M6 b 13 0 → Q M7) M 2 (b + 1)
def wX2_becomes (Q : MM → Prop) (M : MM) (b : Nat) (o1 : Nat) : Prop :=
  wX4_copyRow (fun M1 => wX4_copyRow (fun M2 => wX4_copyRow (fun M3 => wX4_copyRow (fun M4 => wX4_copyRow (fun M5 => wX4_copyRow (fun M6 => wX4_copyRow (fun M7 => wX4_copyRow (fun M8 => ∀ M9 : MM, M9 = mset M8 b 8 (M8 o1 8) → ∀ M10 : MM, M10 = mset M9 b 9 (M9 o1 9) → ∀ M11 : MM, M11 = mset M10 b 10 (M10 o1 10) → ∀ M12 : MM, M12 = mset M11 b 11 (M11 o1 11) → ∀ M13 : MM, M13 = mset M12 b 12 (M12 o1 12) → ∀ M14 : MM, M14 = mset M13 b 13 (M13 o1 13) → Q M14) M7 (o1 + 8) (b + 8)) M6 (o1 + 7) (b + 7)) M5 (o1 + 6) (b + 6)) M4 (o1 + 5) (b + 5)) M3 (o1 + 4) (b + 4)) M2 (o1 + 3) (b + 3)) M1 (o1 + 2) (b + 2)) M (o1 + 1) (b + 1)
def wX2_ruled_22 (Q : Int32 → MM → Prop)  (b : Nat) (v1 : Int32) (M : MM)  : Prop :=
  Q 0 M
def wX2_ruled (Q : Int32 → MM → Prop) (M : MM) (b : Nat) (v1 : Int32) : Prop :=
  (v1 < 0 → wX2_ruled_22 Q  b v1 M) ∧ (¬ v1 < 0 → ((nI (alen (b + 1))) ≤ v1 → wX2_ruled_22 Q  b v1 M) ∧ (¬ (nI (alen (b + 1))) ≤ v1 → vp_in v1 (alen (b + 1)) ∧ (Q (M (b + 1) v1.toNatClampNeg) M)))
def wX4_isBetween_14 (Q : Int32 → MM → Prop)  (v0 : Int32) (v1 : Int32) (v2 : Int32) (M : MM)  : Prop :=
  Q 0 M
def wX4_isBetween (Q : Int32 → MM → Prop) (M : MM) (v0 : Int32) (v1 : Int32) (v2 : Int32) : Prop :=
  (v0 < v1 → wX4_isBetween_14 Q  v0 v1 v2 M) ∧ (¬ v0 < v1 → (v2 < v0 → wX4_isBetween_14 Q  v0 v1 v2 M) ∧ (¬ v2 < v0 → Q 1 M))
def wX2_hasPlace (Q : Int32 → MM → Prop) (M : MM) (b : Nat) (v1 : Int32) : Prop :=
  wX2_ruled (fun r1 M2 => wX4_isBetween (fun r3 M4 => nb r3 ∧ Q r3 M4) M2 v1 0 r1) M b 0
def wX4_lengthOfTurns (Q : Int32 → MM → Prop) (M : MM) (v0 : Int32) (v1 : Int32) (v2 : Int32) : Prop :=
  Q ((v0 * v1) + (v2 * ((v0 * (v0 - (1 : Int32))) / 2))) M
def wX2_turnsOf_46 (Q : Int32 → MM → Prop) (K20 : MM → Int32 → Int32 → Int32 → Int32 → Prop) (b : Nat) (v1 : Int32) (M : MM) (v2 : Int32) (v3 : Int32) (v4 : Int32) (v5 : Int32) : Prop :=
  K20 M v2 v3 v4 (v5 / 2)
def wX2_turnsOf_20 (Q : Int32 → MM → Prop)  (b : Nat) (v1 : Int32) : Nat → MM → Int32 → Int32 → Int32 → Int32 → Prop
  | 0, _, _, _, _, _ => False
  | n + 1, M, v2, v3, v4, v5 => (v5 ≤ 0 → Q v4 M) ∧ (¬ v5 ≤ 0 → wX4_lengthOfTurns (fun r5 M6 => (v1 < r5 → wX2_turnsOf_46 Q (fun M v2 v3 v4 v5 => wX2_turnsOf_20 Q  b v1 n M v2 v3 v4 v5) b v1 M6 v2 v3 v4 v5) ∧ (¬ v1 < r5 → wX2_turnsOf_46 Q (fun M v2 v3 v4 v5 => wX2_turnsOf_20 Q  b v1 n M v2 v3 v4 v5) b v1 M6 v2 v3 (v4 + v5) v5)) M (v4 + v5) v2 v3)
def wX2_turnsOf (Q : Int32 → MM → Prop) (M : MM) (b : Nat) (v1 : Int32) : Prop :=
  wX2_ruled (fun r1 M2 => wX2_ruled (fun r3 M4 => ∃ m, wX2_turnsOf_20 Q  b v1 m M4 r1 r3 0 1024) M2 b 2) M b 1
def wX2_rightTurns (Q : Int32 → MM → Prop) (M : MM) (b : Nat) (v1 : Int32) : Prop :=
  wX2_turnsOf (fun r1 M2 => Q r1 M2) M b v1
def wX2_leftTurns (Q : Int32 → MM → Prop) (M : MM) (b : Nat) (v1 : Int32) : Prop :=
  wX2_ruled (fun r1 M2 => wX2_turnsOf (fun r3 M4 => Q r3 M4) M2 b (r1 - v1)) M b 0
def wX2_firstShowing (Q : Int32 → MM → Prop) (M : MM) (b : Nat) (v1 : Int32) : Prop :=
  wX2_ruled (fun r1 M2 => (v1 ≤ r1 → wX2_ruled (fun r3 M4 => wX2_ruled (fun r5 M6 => wX4_lengthOfTurns (fun r7 M8 => wX2_hasPlace (fun r9 M10 => (r9 = 0 → Q (-4) M10) ∧ (¬ r9 = 0 → Q r7 M10)) M8 b r7) M6 v1 r3 r5) M4 b 2) M2 b 1) ∧ (¬ v1 ≤ r1 → Q (-4) M2)) M b 0
def wX2_lastShowing (Q : Int32 → MM → Prop) (M : MM) (b : Nat) (v1 : Int32) : Prop :=
  wX2_firstShowing (fun r1 M2 => (¬ r1 = (-4) → wX2_ruled (fun r3 M4 => wX2_ruled (fun r5 M6 => wX2_ruled (fun r7 M8 => wX4_lengthOfTurns (fun r9 M10 => Q (if (r9 - (1 : Int32)) < r3 then (r9 - (1 : Int32)) else r3) M10) M8 (v1 + (1 : Int32)) r5 r7) M6 b 2) M4 b 1) M2 b 0) ∧ (r1 = (-4) → Q (-4) M2)) M b v1
def wX2_meetingPlace_54 (Q : Int32 → MM → Prop) (K10 : MM → Int32 → Int32 → Int32 → Prop) (b : Nat) (M : MM) (v1 : Int32) (v2 : Int32) (v3 : Int32) : Prop :=
  K10 M v1 v2 (v3 + 1)
def wX2_meetingPlace_10 (Q : Int32 → MM → Prop)  (b : Nat) : Nat → MM → Int32 → Int32 → Int32 → Prop
  | 0, _, _, _, _ => False
  | n + 1, M, v1, v2, v3 => (32 ≤ v3 → Q v1 M) ∧ (¬ 32 ≤ v3 → (v2 ≤ v1 → Q v1 M) ∧ (¬ v2 ≤ v1 → ∀ x3 : Int32, x3 = ((v1 + v2) / 2) → wX2_rightTurns (fun r4 M5 => wX2_leftTurns (fun r6 M7 => (r4 < r6 → ∀ x8 : Int32, x8 = (x3 + (1 : Int32)) → wX2_meetingPlace_54 Q (fun M v1 v2 v3 => wX2_meetingPlace_10 Q  b n M v1 v2 v3) b M7 x8 v2 v3) ∧ (¬ r4 < r6 → wX2_meetingPlace_54 Q (fun M v1 v2 v3 => wX2_meetingPlace_10 Q  b n M v1 v2 v3) b M7 v1 x3 v3)) M5 b x3) M b x3))
def wX2_meetingPlace (Q : Int32 → MM → Prop) (M : MM) (b : Nat) : Prop :=
  wX2_ruled (fun r1 M2 => ∃ m, wX2_meetingPlace_10 Q  b m M2 0 r1 0) M b 0
def wX2_playedThrough (Q : Int32 → MM → Prop) (M : MM) (b : Nat) (v1 : Int32) : Prop :=
  wX2_ruled (fun r1 M2 => Q (r1 * v1) M2) M b 3
def wX2_played (Q : Int32 → MM → Prop) (M : MM) (b : Nat) (v1 : Int32) (v2 : Int32) : Prop :=
  (¬ v1 = v2 → wX2_ruled (fun r1 M2 => wX2_playedThrough (fun r3 M4 => Q (r1 + r3) M4) M2 b (if 0 ≤ (v2 - v1) then (v2 - v1) else 0 - (v2 - v1))) M b 5) ∧ (v1 = v2 → Q 0 M)
def wX2_wound_47 (Q : Int32 → MM → Prop)  (b : Nat) (v1 : Int32) (v2 : Int32) (M : MM) (p0 : Int32) : Prop :=
  wX2_ruled (fun r11 M12 => wX2_ruled (fun r13 M14 => Q (((2 : Int32) * r11) + (r13 * p0)) M14) M12 b 4) M b 5
def wX2_wound (Q : Int32 → MM → Prop) (M : MM) (b : Nat) (v1 : Int32) (v2 : Int32) : Prop :=
  (¬ v1 = v2 → wX2_ruled (fun r1 M2 => (v2 ≤ v1 → wX2_turnsOf (fun r3 M4 => wX2_turnsOf (fun r5 M6 => wX2_wound_47 Q  b v1 v2 M6 (r3 - r5)) M4 b (r1 - v1)) M2 b (r1 - v2)) ∧ (¬ v2 ≤ v1 → wX2_turnsOf (fun r7 M8 => wX2_turnsOf (fun r9 M10 => wX2_wound_47 Q  b v1 v2 M10 (r7 - r9)) M8 b v1) M2 b v2)) M b 0) ∧ (v1 = v2 → Q 0 M)
def wX2_sooner (Q : Int32 → MM → Prop) (M : MM) (b : Nat) (v1 : Int32) (v2 : Int32) : Prop :=
  wX2_played (fun r1 M2 => wX2_wound (fun r3 M4 => Q (if r3 < r1 then r3 else r1) M4) M2 b v1 v2) M b v1 v2
def wX2_goTo (Q : Int32 → MM → Prop) (M : MM) (b : Nat) (v1 : Int32) : Prop :=
  wX2_sooner (fun r1 M2 => ∀ M3 : MM, M3 = mset M2 b 9 v1 → ∀ M4 : MM, M4 = mset M3 b 10 ((M3 b 10) + r1) → Q r1 M4) M b (M b 9) v1
def wX2_reach_68 (Q : Int32 → MM → Prop) (K9 : MM → Int32 → Int32 → Int32 → Prop) (b : Nat) (v1 : Int32) (v2 : Int32) (v3 : Int32) (M : MM) (v4 : Int32) (v5 : Int32) (v6 : Int32) : Prop :=
  K9 M v4 v5 (v6 + 1)
def wX2_reach_9 (Q : Int32 → MM → Prop)  (b : Nat) (v1 : Int32) (v2 : Int32) (v3 : Int32) : Nat → MM → Int32 → Int32 → Int32 → Prop
  | 0, _, _, _, _ => False
  | n + 1, M, v4, v5, v6 => (32 ≤ v6 → Q v4 M) ∧ (¬ 32 ≤ v6 → (v5 ≤ v4 → Q v4 M) ∧ (¬ v5 ≤ v4 → ∀ x1 : Int32, x1 = (((v4 + v5) + (1 : Int32)) / 2) → wX2_sooner (fun r2 M3 => (v1 < r2 → ∀ x4 : Int32, x4 = (x1 - (1 : Int32)) → wX2_reach_68 Q (fun M v4 v5 v6 => wX2_reach_9 Q  b v1 v2 v3 n M v4 v5 v6) b v1 v2 v3 M3 v4 x4 v6) ∧ (¬ v1 < r2 → wX2_reach_68 Q (fun M v4 v5 v6 => wX2_reach_9 Q  b v1 v2 v3 n M v4 v5 v6) b v1 v2 v3 M3 x1 v5 v6)) M b (M b 9) ((M b 9) + (v3 * x1))))
def wX2_reach (Q : Int32 → MM → Prop) (M : MM) (b : Nat) (v1 : Int32) (v2 : Int32) (v3 : Int32) : Prop :=
  ∃ m, wX2_reach_9 Q  b v1 v2 v3 m M 0 v2 0
def wX2_hasBlock (Q : Int32 → MM → Prop) (M : MM) (b : Nat) (v1 : Int32) : Prop :=
  wX4_isBetween (fun r1 M2 => nb r1 ∧ Q r1 M2) M v1 0 ((M b 8) - (1 : Int32))
def wX2_hasAllOf (Q : Int32 → MM → Prop) (M : MM) (b : Nat) (v1 : Int32) : Prop :=
  (¬ ((v1.toUInt32 >>> ((M b 8).toUInt32 &&& Int32.toUInt32 31)).toInt32) = 0 → Q 0 M) ∧ (((v1.toUInt32 >>> ((M b 8).toUInt32 &&& Int32.toUInt32 31)).toInt32) = 0 → Q 1 M)
def wX4_cell_20 (Q : Int32 → MM → Prop)  (k0 : Nat) (v1 : Int32) (M : MM)  : Prop :=
  Q 0 M
def wX4_cell (Q : Int32 → MM → Prop) (M : MM) (k0 : Nat) (v1 : Int32) : Prop :=
  (v1 < 0 → wX4_cell_20 Q  k0 v1 M) ∧ (¬ v1 < 0 → ((nI (alen k0)) ≤ v1 → wX4_cell_20 Q  k0 v1 M) ∧ (¬ (nI (alen k0)) ≤ v1 → vp_in v1 (alen k0) ∧ (Q (M k0 v1.toNatClampNeg) M)))
def wX4_cell_s_20 (Q : Int32 → MM → Prop)  (k0 : Nat) (v1 : Int32) (M : MM)  : Prop :=
  Q 0 M
def wX4_cell_s (Q : Int32 → MM → Prop) (M : MM) (k0 : Nat) (v1 : Int32) : Prop :=
  (v1 < 0 → wX4_cell_s_20 Q  k0 v1 M) ∧ (¬ v1 < 0 → (9 ≤ v1 → wX4_cell_s_20 Q  k0 v1 M) ∧ (¬ 9 ≤ v1 → vp_in v1 9 ∧ (Q (stV k0 v1.toNatClampNeg) M)))
def wX2_beginOf (Q : Int32 → MM → Prop) (M : MM) (b : Nat) (v1 : Int32) : Prop :=
  wX4_cell (fun r1 M2 => Q r1 M2) M (b + 2) v1
def wX2_sizeOf (Q : Int32 → MM → Prop) (M : MM) (b : Nat) (v1 : Int32) : Prop :=
  wX4_cell (fun r1 M2 => Q r1 M2) M (b + 3) v1
def wX2_isMark (Q : Int32 → MM → Prop) (M : MM) (b : Nat) (v1 : Int32) : Prop :=
  wX2_sizeOf (fun r1 M2 => (¬ r1 = 0 → Q 0 M2) ∧ (r1 = 0 → Q 1 M2)) M b v1
def wX4_dividedUp (Q : Int32 → MM → Prop) (M : MM) (v0 : Int32) (v1 : Int32) : Prop :=
  (1 ≤ v1 → ¬ v1 = 0 ∧ (Q (((v0 + v1) - (1 : Int32)) / v1) M)) ∧ (¬ 1 ≤ v1 → Q 0 M)
def wX2_longWith (Q : Int32 → MM → Prop) (M : MM) (b : Nat) (v1 : Int32) : Prop :=
  (¬ v1 = 0 → wX2_ruled (fun r1 M2 => wX4_dividedUp (fun r3 M4 => Q r3 M4) M2 (v1 + (1 : Int32)) r1) M b 7) ∧ (v1 = 0 → Q 1 M)
def wX2_longOf (Q : Int32 → MM → Prop) (M : MM) (b : Nat) (v1 : Int32) : Prop :=
  wX2_sizeOf (fun r1 M2 => wX2_longWith (fun r3 M4 => Q r3 M4) M2 b r1) M b v1
def wX2_endOf (Q : Int32 → MM → Prop) (M : MM) (b : Nat) (v1 : Int32) : Prop :=
  wX2_hasBlock (fun r1 M2 => (r1 = 0 → Q 0 M2) ∧ (¬ r1 = 0 → wX2_beginOf (fun r3 M4 => wX2_sizeOf (fun r5 M6 => wX2_longWith (fun r7 M8 => Q (r3 + r7) M8) M6 b r5) M4 b v1) M2 b v1)) M b v1
def wX2_blockWith_2 (Q : Int32 → MM → Prop)  (b : Nat) (v1 : Int32) : Nat → MM → Int32 → Prop
  | 0, _, _ => False
  | n + 1, M, v2 => ((M b 8) ≤ v2 → Q (-4) M) ∧ (¬ (M b 8) ≤ v2 → wX2_beginOf (fun r1 M2 => wX2_endOf (fun r3 M4 => wX4_isBetween (fun r5 M6 => (r5 = 0 → wX2_blockWith_2 Q  b v1 n M6 (v2 + 1)) ∧ (¬ r5 = 0 → Q v2 M6)) M4 v1 r1 (r3 - (1 : Int32))) M2 b v2) M b v2)
def wX2_blockWith (Q : Int32 → MM → Prop) (M : MM) (b : Nat) (v1 : Int32) : Prop :=
  ∃ m, wX2_blockWith_2 Q  b v1 m M 0
def wX2_markCount_23 (Q : Int32 → MM → Prop) (K4 : MM → Int32 → Int32 → Prop) (b : Nat) (M : MM) (v1 : Int32) (v2 : Int32) : Prop :=
  K4 M v1 (v2 + 1)
def wX2_markCount_4 (Q : Int32 → MM → Prop)  (b : Nat) : Nat → MM → Int32 → Int32 → Prop
  | 0, _, _, _ => False
  | n + 1, M, v1, v2 => ((M b 8) ≤ v2 → Q v1 M) ∧ (¬ (M b 8) ≤ v2 → wX2_isMark (fun r1 M2 => (r1 = 0 → wX2_markCount_23 Q (fun M v1 v2 => wX2_markCount_4 Q  b n M v1 v2) b M2 v1 v2) ∧ (¬ r1 = 0 → wX2_markCount_23 Q (fun M v1 v2 => wX2_markCount_4 Q  b n M v1 v2) b M2 (v1 + 1) v2)) M b v2)
def wX2_markCount (Q : Int32 → MM → Prop) (M : MM) (b : Nat) : Prop :=
  ∃ m, wX2_markCount_4 Q  b m M 0 0
def wX2_byteCount_4 (Q : Int32 → MM → Prop)  (b : Nat) : Nat → MM → Int32 → Int32 → Prop
  | 0, _, _, _ => False
  | n + 1, M, v1, v2 => ((M b 8) ≤ v2 → Q v1 M) ∧ (¬ (M b 8) ≤ v2 → wX2_sizeOf (fun r1 M2 => wX2_byteCount_4 Q  b n M2 (v1 + r1) (v2 + 1)) M b v2)
def wX2_byteCount (Q : Int32 → MM → Prop) (M : MM) (b : Nat) : Prop :=
  ∃ m, wX2_byteCount_4 Q  b m M 0 0
def wX4_setCell (Q : MM → Prop) (M : MM) (k0 : Nat) (v1 : Int32) (v2 : Int32) : Prop :=
  (v1 < 0 → Q M) ∧ (¬ v1 < 0 → ((nI (alen k0)) ≤ v1 → Q M) ∧ (¬ (nI (alen k0)) ≤ v1 → vp_in v1 (alen k0) ∧ (∀ M1 : MM, M1 = mset M k0 v1.toNatClampNeg v2 → Q M1)))
def wX2_typeOne (Q : Int32 → MM → Prop) (M : MM) (b : Nat) (v1 : Int32) : Prop :=
  wX4_setCell (fun M1 => ∀ M2 : MM, M2 = mset M1 b 11 ((M1 b 11) + (1 : Int32)) → Q (M2 b 11) M2) M (b + 6) (M b 11) v1
def wX2_beginningAt (Q : Int32 → MM → Prop) (M : MM) (b : Nat) (v1 : Int32) : Prop :=
  wX2_endOf (fun r1 M2 => wX2_ruled (fun r3 M4 => Q (r1 + r3) M4) M2 b 6) M b (v1 - (1 : Int32))
def wX2_hasRoomAt_29 (Q : Int32 → MM → Prop)  (b : Nat) (v1 : Int32) (v2 : Int32) (M : MM)  : Prop :=
  Q 0 M
def wX2_hasRoomAt (Q : Int32 → MM → Prop) (M : MM) (b : Nat) (v1 : Int32) (v2 : Int32) : Prop :=
  (12 ≤ v1 → wX2_hasRoomAt_29 Q  b v1 v2 M) ∧ (¬ 12 ≤ v1 → wX2_beginningAt (fun r1 M2 => wX2_longWith (fun r3 M4 => wX2_ruled (fun r5 M6 => (r5 < (r1 + r3) → wX2_hasRoomAt_29 Q  b v1 v2 M6) ∧ (¬ r5 < (r1 + r3) → Q 1 M6)) M4 b 0) M2 b v2) M b v1)
def wJ6_bitCount_0f7a4 (Q : Int32 → MM → Prop) (M : MM) (v0 : Int32) : Prop :=
  ∀ x1 : Int32, x1 = (v0 - (((v0.toUInt32 >>> ((1 : Int32).toUInt32 &&& Int32.toUInt32 31)).toInt32) &&& (1431655765 : Int32))) → ∀ x2 : Int32, x2 = ((x1 &&& (858993459 : Int32)) + (((x1.toUInt32 >>> ((2 : Int32).toUInt32 &&& Int32.toUInt32 31)).toInt32) &&& (858993459 : Int32))) → ∀ x3 : Int32, x3 = ((x2 + ((x2.toUInt32 >>> ((4 : Int32).toUInt32 &&& Int32.toUInt32 31)).toInt32)) &&& (252645135 : Int32)) → ∀ x4 : Int32, x4 = (x3 + ((x3.toUInt32 >>> ((8 : Int32).toUInt32 &&& Int32.toUInt32 31)).toInt32)) → ∀ x5 : Int32, x5 = (x4 + ((x4.toUInt32 >>> ((16 : Int32).toUInt32 &&& Int32.toUInt32 31)).toInt32)) → Q (x5 &&& (63 : Int32)) M
def wX2_setColumn (Q : MM → Prop) (M : MM) (b : Nat) (v1 : Int32) (v2 : Int32) (v3 : Int32) : Prop :=
  wX4_setCell (fun M1 => Q M1) M (b + 4) ((v1 * (13 : Int32)) + v2) v3
def wX2_putBlock_67 (Q : MM → Prop) (K31 : MM → Int32 → Int32 → Prop) (b : Nat) (v1 : Int32) (v2 : Int32) (v3 : Int32) (M : MM) (v4 : Int32) (v5 : Int32) (v6 : Int32) (p0 : Int32) (p1 : Int32) : Prop :=
  wX4_setCell (fun M9 => wX2_setColumn (fun M10 => ∀ x11 : Int32, x11 = (v4 ^^^ (p1 ||| p0)) → K31 M10 x11 (v5 + 1)) M9 b v1 v5 (p1 ||| p0)) M (b + 5) ((v1 * (12 : Int32)) + v5) v6
def wX2_putBlock_31 (Q : MM → Prop)  (b : Nat) (v1 : Int32) (v2 : Int32) (v3 : Int32) : Nat → MM → Int32 → Int32 → Prop
  | 0, _, _, _ => False
  | n + 1, M, v4, v5 => (v3 ≤ v5 → wX2_setColumn (fun M4 => Q M4) M b v1 v3 v4) ∧ (¬ v3 ≤ v5 → wX4_cell (fun r5 M6 => wJ6_bitCount_0f7a4 (fun r7 M8 => (¬ (r7 - r7 / 2 * 2) = 0 → wX2_putBlock_67 Q (fun M v4 v5 => wX2_putBlock_31 Q  b v1 v2 v3 n M v4 v5) b v1 v2 v3 M8 v4 v5 r5 0 r5) ∧ ((r7 - r7 / 2 * 2) = 0 → wX2_putBlock_67 Q (fun M v4 v5 => wX2_putBlock_31 Q  b v1 v2 v3 n M v4 v5) b v1 v2 v3 M8 v4 v5 r5 256 r5)) M6 r5) M (b + 6) v5)
def wX2_putBlock (Q : MM → Prop) (M : MM) (b : Nat) (v1 : Int32) (v2 : Int32) (v3 : Int32) : Prop :=
  ∀ M1 : MM, M1 = mset M b 8 (v1 + (1 : Int32)) → wX4_setCell (fun M2 => wX4_setCell (fun M3 => ∃ m, wX2_putBlock_31 Q  b v1 v2 v3 m M3 0 0) M2 (b + 3) v1 v3) M1 (b + 2) v1 v2
def wX2_writeAt (Q : Int32 → MM → Prop) (M : MM) (b : Nat) (v1 : Int32) (v2 : Int32) : Prop :=
  wX2_beginningAt (fun r1 M2 => wX2_sooner (fun r3 M4 => wX2_longWith (fun r5 M6 => wX2_playedThrough (fun r7 M8 => wX2_putBlock (fun M9 => wX2_endOf (fun r10 M11 => ∀ M12 : MM, M12 = mset M11 b 9 r10 → ∀ M13 : MM, M13 = mset M12 b 10 ((M12 b 10) + (r3 + r7)) → Q (r3 + r7) M13) M9 b v1) M8 b v1 r1 v2) M6 b r5) M4 b v2) M2 b (M2 b 9) r1) M b v1
def wX2_layOutBlocks_2 (Q : MM → Prop)  (b : Nat) : Nat → MM → Int32 → Prop
  | 0, _, _ => False
  | n + 1, M, v1 => ((M b 8) ≤ v1 → Q M) ∧ (¬ (M b 8) ≤ v1 → wX2_beginningAt (fun r1 M2 => wX4_setCell (fun M3 => wX2_layOutBlocks_2 Q  b n M3 (v1 + 1)) M2 (b + 2) v1 r1) M b v1)
def wX2_layOutBlocks (Q : MM → Prop) (M : MM) (b : Nat) : Prop :=
  ∃ m, wX2_layOutBlocks_2 Q  b m M 0
def wX2_columnOf (Q : Int32 → MM → Prop) (M : MM) (b : Nat) (v1 : Int32) (v2 : Int32) : Prop :=
  wX4_cell (fun r1 M2 => Q r1 M2) M (b + 4) ((v1 * (13 : Int32)) + v2)
def wX2_originalOf (Q : Int32 → MM → Prop) (M : MM) (b : Nat) (v1 : Int32) (v2 : Int32) : Prop :=
  wX4_cell (fun r1 M2 => Q r1 M2) M (b + 5) ((v1 * (12 : Int32)) + v2)
def wX2_moveBlock_61 (Q : MM → Prop)  (b : Nat) (v1 : Int32) (v2 : Int32) (v3 : Int32) : Nat → MM → Int32 → Prop
  | 0, _, _ => False
  | n + 1, M, v4 => (12 ≤ v4 → Q M) ∧ (¬ 12 ≤ v4 → wX2_originalOf (fun r10 M11 => wX4_setCell (fun M12 => wX2_moveBlock_61 Q  b v1 v2 v3 n M12 (v4 + 1)) M11 (b + 5) ((v2 * (12 : Int32)) + v4) r10) M b v1 v4)
def wX2_moveBlock_31 (Q : MM → Prop)  (b : Nat) (v1 : Int32) (v2 : Int32) (v3 : Int32) : Nat → MM → Int32 → Prop
  | 0, _, _ => False
  | n + 1, M, v4 => (13 ≤ v4 → ∃ m, wX2_moveBlock_61 Q  b v1 v2 v3 m M 0) ∧ (¬ 13 ≤ v4 → wX2_columnOf (fun r7 M8 => wX2_setColumn (fun M9 => wX2_moveBlock_31 Q  b v1 v2 v3 n M9 (v4 + 1)) M8 b v2 v4 r7) M b v1 v4)
def wX2_moveBlock (Q : MM → Prop) (M : MM) (b : Nat) (v1 : Int32) (v2 : Int32) (v3 : Int32) : Prop :=
  wX2_beginOf (fun r1 M2 => wX4_setCell (fun M3 => wX2_sizeOf (fun r4 M5 => wX4_setCell (fun M6 => ∃ m, wX2_moveBlock_31 Q  b v1 v2 v3 m M6 0) M5 (b + 3) v2 r4) M3 b v1) M2 (b + 2) v2 (r1 - v3)) M b v1
def wX2_cutOut_139 (Q : Int32 → MM → Prop)  (b : Nat) (v1 : Int32) (v2 : Int32) (M : MM) (v3 : Int32) (v4 : Int32) : Prop :=
  Q (v4 - v3) M
def wX2_cutOut_75 (Q : Int32 → MM → Prop) (K11 : MM → Int32 → Int32 → Int32 → Prop) (b : Nat) (v1 : Int32) (v2 : Int32) (M : MM) (v3 : Int32) (v4 : Int32) (v5 : Int32) : Prop :=
  K11 M v3 v4 (v5 + 1)
def wX2_cutOut_69 (Q : Int32 → MM → Prop) (K11 : MM → Int32 → Int32 → Int32 → Prop) (b : Nat) (v1 : Int32) (v2 : Int32) (M : MM) (v3 : Int32) (v4 : Int32) (v5 : Int32) (p0 : Int32) (p1 : Int32) (p2 : Int32) : Prop :=
  wX2_moveBlock (fun M11 => wX2_cutOut_75 Q K11 b v1 v2 M11 (v3 + 1) v4 v5) M b p2 p1 p0
def wX2_cutOut_53 (Q : Int32 → MM → Prop) (K11 : MM → Int32 → Int32 → Int32 → Prop) (b : Nat) (v1 : Int32) (v2 : Int32) (M : MM) (v3 : Int32) (v4 : Int32) (v5 : Int32) (v6 : Int32) : Prop :=
  (v6 = 0 → wX2_cutOut_69 Q K11 b v1 v2 M v3 v4 v5 0 v3 v5) ∧ (¬ v6 = 0 → wX2_cutOut_69 Q K11 b v1 v2 M v3 v4 v5 (v2 - v1) v3 v5)
def wX2_cutOut_33 (Q : Int32 → MM → Prop) (K11 : MM → Int32 → Int32 → Int32 → Prop) (b : Nat) (v1 : Int32) (v2 : Int32) (M : MM) (v3 : Int32) (v4 : Int32) (v5 : Int32) (p0 : Int32) : Prop :=
  (¬ p0 = 0 → wX2_cutOut_53 Q K11 b v1 v2 M v3 v4 v5 p0) ∧ (p0 = 0 → wX2_endOf (fun r9 M10 => (r9 ≤ v1 → wX2_cutOut_53 Q K11 b v1 v2 M10 v3 v4 v5 p0) ∧ (¬ r9 ≤ v1 → wX2_cutOut_75 Q K11 b v1 v2 M10 v3 v4 v5)) M b v5)
def wX2_cutOut_11 (Q : Int32 → MM → Prop)  (b : Nat) (v1 : Int32) (v2 : Int32) : Nat → MM → Int32 → Int32 → Int32 → Prop
  | 0, _, _, _, _ => False
  | n + 1, M, v3, v4, v5 => (v4 ≤ v5 → ∀ M1 : MM, M1 = mset M b 8 v3 → wX2_ruled (fun r2 M3 => wX4_setCell (fun M4 => ((M4 b 9) < v2 → ((M4 b 9) ≤ v1 → wX2_cutOut_139 Q  b v1 v2 M4 v3 v4) ∧ (¬ (M4 b 9) ≤ v1 → ∀ M5 : MM, M5 = mset M4 b 9 v1 → wX2_cutOut_139 Q  b v1 v2 M5 v3 v4)) ∧ (¬ (M4 b 9) < v2 → ∀ M6 : MM, M6 = mset M4 b 9 ((M4 b 9) - (v2 - v1)) → wX2_cutOut_139 Q  b v1 v2 M6 v3 v4)) M3 (b + 1) 0 (r2 - (v2 - v1))) M1 b 0) ∧ (¬ v4 ≤ v5 → wX2_beginOf (fun r7 M8 => (r7 < v2 → wX2_cutOut_33 Q (fun M v3 v4 v5 => wX2_cutOut_11 Q  b v1 v2 n M v3 v4 v5) b v1 v2 M8 v3 v4 v5 0) ∧ (¬ r7 < v2 → wX2_cutOut_33 Q (fun M v3 v4 v5 => wX2_cutOut_11 Q  b v1 v2 n M v3 v4 v5) b v1 v2 M8 v3 v4 v5 1)) M b v5)
def wX2_cutOut (Q : Int32 → MM → Prop) (M : MM) (b : Nat) (v1 : Int32) (v2 : Int32) : Prop :=
  ∃ m, wX2_cutOut_11 Q  b v1 v2 m M 0 (M b 8) 0
def wX2_hasColumn_33 (Q : Int32 → MM → Prop)  (b : Nat) (v1 : Int32) (v2 : Int32) (M : MM)  : Prop :=
  Q 0 M
def wX2_hasColumn (Q : Int32 → MM → Prop) (M : MM) (b : Nat) (v1 : Int32) (v2 : Int32) : Prop :=
  wX2_hasBlock (fun r1 M2 => (r1 = 0 → wX2_hasColumn_33 Q  b v1 v2 M2) ∧ (¬ r1 = 0 → wX2_isMark (fun r3 M4 => (¬ r3 = 0 → wX2_hasColumn_33 Q  b v1 v2 M4) ∧ (r3 = 0 → wX2_sizeOf (fun r5 M6 => wX4_isBetween (fun r7 M8 => (r7 = 0 → wX2_hasColumn_33 Q  b v1 v2 M8) ∧ (¬ r7 = 0 → Q 1 M8)) M6 v2 0 r5) M4 b v1)) M2 b v1)) M b v1
def wX2_turnBit (Q : Int32 → MM → Prop) (M : MM) (b : Nat) (v1 : Int32) (v2 : Int32) (v3 : Int32) : Prop :=
  wX2_columnOf (fun r1 M2 => wX2_setColumn (fun M3 => wX2_columnOf (fun r4 M5 => Q r4 M5) M3 b v1 v2) M2 b v1 v2 (r1 ^^^ ((1 : Int32) <<< (v3 &&& 31)))) M b v1 v2
def wX2_isWrongAlong (Q : Int32 → MM → Prop) (M : MM) (b : Nat) (v1 : Int32) (v2 : Int32) : Prop :=
  wX2_columnOf (fun r1 M2 => wJ6_bitCount_0f7a4 (fun r3 M4 => (¬ (r3 - r3 / 2 * 2) = 0 → Q 0 M4) ∧ ((r3 - r3 / 2 * 2) = 0 → Q 1 M4)) M2 r1) M b v1 v2
def wX2_wrongAlongCount_25 (Q : Int32 → MM → Prop) (K4 : MM → Int32 → Int32 → Prop) (b : Nat) (v1 : Int32) (M : MM) (v2 : Int32) (v3 : Int32) : Prop :=
  K4 M v2 (v3 + 1)
def wX2_wrongAlongCount_4 (Q : Int32 → MM → Prop)  (b : Nat) (v1 : Int32) : Nat → MM → Int32 → Int32 → Prop
  | 0, _, _, _ => False
  | n + 1, M, v2, v3 => wX2_sizeOf (fun r1 M2 => (r1 ≤ v3 → Q v2 M2) ∧ (¬ r1 ≤ v3 → wX2_isWrongAlong (fun r3 M4 => (r3 = 0 → wX2_wrongAlongCount_25 Q (fun M v2 v3 => wX2_wrongAlongCount_4 Q  b v1 n M v2 v3) b v1 M4 v2 v3) ∧ (¬ r3 = 0 → wX2_wrongAlongCount_25 Q (fun M v2 v3 => wX2_wrongAlongCount_4 Q  b v1 n M v2 v3) b v1 M4 (v2 + 1) v3)) M2 b v1 v3)) M b v1
def wX2_wrongAlongCount (Q : Int32 → MM → Prop) (M : MM) (b : Nat) (v1 : Int32) : Prop :=
  ∃ m, wX2_wrongAlongCount_4 Q  b v1 m M 0 0
def wX2_wrongAcross_11 (Q : Int32 → MM → Prop)  (b : Nat) (v1 : Int32) : Nat → MM → Int32 → Int32 → Int32 → Prop
  | 0, _, _, _, _ => False
  | n + 1, M, v2, v3, v4 => (v2 ≤ 0 → Q v3 M) ∧ (¬ v2 ≤ 0 → (v2 < v4 → Q v3 M) ∧ (¬ v2 < v4 → wX2_columnOf (fun r3 M4 => wX2_wrongAcross_11 Q  b v1 n M4 v2 (v3 ^^^ r3) (v4 + 1)) M b v1 v4))
def wX2_wrongAcross (Q : Int32 → MM → Prop) (M : MM) (b : Nat) (v1 : Int32) : Prop :=
  wX2_sizeOf (fun r1 M2 => ∃ m, wX2_wrongAcross_11 Q  b v1 m M2 r1 0 0) M b v1
def wX2_readingOf_78 (Q : Int32 → MM → Prop)  (b : Nat) (v1 : Int32) (v2 : Int32) (M : MM)  : Prop :=
  Q 3 M
def wX2_readingOf_47 (Q : Int32 → MM → Prop)  (b : Nat) (v1 : Int32) (v2 : Int32) (M : MM) (p0 : Int32) : Prop :=
  (¬ p0 = 0 → Q 3 M) ∧ (p0 = 0 → Q 2 M)
def wX2_readingOf_24 (Q : Int32 → MM → Prop)  (b : Nat) (v1 : Int32) (v2 : Int32) (M : MM) (v3 : Int32) (v4 : Int32) : Prop :=
  (v2 = (-4) → (1 < v3 → wX2_readingOf_78 Q  b v1 v2 M) ∧ (¬ 1 < v3 → wJ6_bitCount_0f7a4 (fun r5 M6 => (¬ r5 = 1 → wX2_readingOf_78 Q  b v1 v2 M6) ∧ (r5 = 1 → Q 1 M6)) M v4)) ∧ (¬ v2 = (-4) → (¬ (v3 - v3 / 2 * 2) = 0 → wX2_readingOf_47 Q  b v1 v2 M (v4 ^^^ ((1 : Int32) <<< (v2 &&& 31)))) ∧ ((v3 - v3 / 2 * 2) = 0 → wX2_readingOf_47 Q  b v1 v2 M v4))
def wX2_readingOf (Q : Int32 → MM → Prop) (M : MM) (b : Nat) (v1 : Int32) (v2 : Int32) : Prop :=
  wX2_wrongAlongCount (fun r1 M2 => wX2_wrongAcross (fun r3 M4 => (¬ r1 = 0 → wX2_readingOf_24 Q  b v1 v2 M4 r1 r3) ∧ (r1 = 0 → (¬ r3 = 0 → wX2_readingOf_24 Q  b v1 v2 M4 r1 r3) ∧ (r3 = 0 → Q 0 M4))) M2 b v1) M b v1
def wX2_byteAsRead_42 (Q : Int32 → MM → Prop)  (b : Nat) (v1 : Int32) (v2 : Int32) (M : MM) (v3 : Int32) : Prop :=
  Q (v3 &&& (255 : Int32)) M
def wX2_byteAsRead_40 (Q : Int32 → MM → Prop)  (b : Nat) (v1 : Int32) (v2 : Int32) (M : MM) (p0 : Int32) (p1 : Int32) : Prop :=
  wX2_byteAsRead_42 Q  b v1 v2 M (p1 ^^^ p0)
def wX2_byteAsRead (Q : Int32 → MM → Prop) (M : MM) (b : Nat) (v1 : Int32) (v2 : Int32) : Prop :=
  wX2_columnOf (fun r1 M2 => wX2_isWrongAlong (fun r3 M4 => (r3 = 0 → wX2_byteAsRead_42 Q  b v1 v2 M4 r1) ∧ (¬ r3 = 0 → (¬ (M4 b 12) = (-4) → wX2_byteAsRead_40 Q  b v1 v2 M4 ((1 : Int32) <<< ((M4 b 12) &&& 31)) r1) ∧ ((M4 b 12) = (-4) → wX2_wrongAcross (fun r5 M6 => wX2_byteAsRead_40 Q  b v1 v2 M6 r5 r1) M4 b v1))) M2 b v1 v2) M b v1 v2
def wX2_isReadAsWritten_2 (Q : Int32 → MM → Prop)  (b : Nat) (v1 : Int32) : Nat → MM → Int32 → Prop
  | 0, _, _ => False
  | n + 1, M, v2 => wX2_sizeOf (fun r1 M2 => (r1 ≤ v2 → Q 1 M2) ∧ (¬ r1 ≤ v2 → wX2_byteAsRead (fun r3 M4 => wX2_originalOf (fun r5 M6 => (r3 = r5 → wX2_isReadAsWritten_2 Q  b v1 n M6 (v2 + 1)) ∧ (¬ r3 = r5 → Q 0 M6)) M4 b v1 v2) M2 b v1 v2)) M b v1
def wX2_isReadAsWritten (Q : Int32 → MM → Prop) (M : MM) (b : Nat) (v1 : Int32) : Prop :=
  ∃ m, wX2_isReadAsWritten_2 Q  b v1 m M 0
def wX2_lostBlocksBy_28 (Q : Int32 → MM → Prop) (K4 : MM → Int32 → Int32 → Prop) (b : Nat) (v1 : Int32) (M : MM) (v2 : Int32) (v3 : Int32) : Prop :=
  K4 M v2 (v3 + 1)
def wX2_lostBlocksBy_4 (Q : Int32 → MM → Prop)  (b : Nat) (v1 : Int32) : Nat → MM → Int32 → Int32 → Prop
  | 0, _, _, _ => False
  | n + 1, M, v2, v3 => ((M b 8) ≤ v3 → Q v2 M) ∧ (¬ (M b 8) ≤ v3 → wX2_readingOf (fun r1 M2 => (¬ r1 = 3 → wX2_lostBlocksBy_28 Q (fun M v2 v3 => wX2_lostBlocksBy_4 Q  b v1 n M v2 v3) b v1 M2 v2 v3) ∧ (r1 = 3 → ∀ x3 : Int32, x3 = (v2 ||| ((1 : Int32) <<< (v3 &&& 31))) → wX2_lostBlocksBy_28 Q (fun M v2 v3 => wX2_lostBlocksBy_4 Q  b v1 n M v2 v3) b v1 M2 x3 v3)) M b v3 v1)
def wX2_lostBlocksBy (Q : Int32 → MM → Prop) (M : MM) (b : Nat) (v1 : Int32) : Prop :=
  ∃ m, wX2_lostBlocksBy_4 Q  b v1 m M 0 0
def wX2_fooledBlocks_39 (Q : Int32 → MM → Prop) (K4 : MM → Int32 → Int32 → Prop) (b : Nat) (M : MM) (v1 : Int32) (v2 : Int32) : Prop :=
  K4 M v1 (v2 + 1)
def wX2_fooledBlocks_4 (Q : Int32 → MM → Prop)  (b : Nat) : Nat → MM → Int32 → Int32 → Prop
  | 0, _, _, _ => False
  | n + 1, M, v1, v2 => ((M b 8) ≤ v2 → Q v1 M) ∧ (¬ (M b 8) ≤ v2 → wX2_readingOf (fun r1 M2 => (r1 = 3 → wX2_fooledBlocks_39 Q (fun M v1 v2 => wX2_fooledBlocks_4 Q  b n M v1 v2) b M2 v1 v2) ∧ (¬ r1 = 3 → wX2_isReadAsWritten (fun r3 M4 => (¬ r3 = 0 → wX2_fooledBlocks_39 Q (fun M v1 v2 => wX2_fooledBlocks_4 Q  b n M v1 v2) b M4 v1 v2) ∧ (r3 = 0 → ∀ x5 : Int32, x5 = (v1 ||| ((1 : Int32) <<< (v2 &&& 31))) → wX2_fooledBlocks_39 Q (fun M v1 v2 => wX2_fooledBlocks_4 Q  b n M v1 v2) b M4 x5 v2)) M2 b v2)) M b v2 (M b 12))
def wX2_fooledBlocks (Q : Int32 → MM → Prop) (M : MM) (b : Nat) : Prop :=
  ∃ m, wX2_fooledBlocks_4 Q  b m M 0 0
def wX2_mendedBlocks_38 (Q : Int32 → MM → Prop) (K4 : MM → Int32 → Int32 → Prop) (b : Nat) (M : MM) (v1 : Int32) (v2 : Int32) : Prop :=
  K4 M v1 (v2 + 1)
def wX2_mendedBlocks_32 (Q : Int32 → MM → Prop) (K4 : MM → Int32 → Int32 → Prop) (b : Nat) (M : MM) (v1 : Int32) (v2 : Int32) : Prop :=
  ∀ x3 : Int32, x3 = (v1 ||| ((1 : Int32) <<< (v2 &&& 31))) → wX2_mendedBlocks_38 Q K4 b M x3 v2
def wX2_mendedBlocks_4 (Q : Int32 → MM → Prop)  (b : Nat) : Nat → MM → Int32 → Int32 → Prop
  | 0, _, _, _ => False
  | n + 1, M, v1, v2 => ((M b 8) ≤ v2 → Q v1 M) ∧ (¬ (M b 8) ≤ v2 → wX2_readingOf (fun r1 M2 => (r1 = 1 → wX2_mendedBlocks_32 Q (fun M v1 v2 => wX2_mendedBlocks_4 Q  b n M v1 v2) b M2 v1 v2) ∧ (¬ r1 = 1 → (¬ r1 = 2 → wX2_mendedBlocks_38 Q (fun M v1 v2 => wX2_mendedBlocks_4 Q  b n M v1 v2) b M2 v1 v2) ∧ (r1 = 2 → wX2_mendedBlocks_32 Q (fun M v1 v2 => wX2_mendedBlocks_4 Q  b n M v1 v2) b M2 v1 v2))) M b v2 (M b 12))
def wX2_mendedBlocks (Q : Int32 → MM → Prop) (M : MM) (b : Nat) : Prop :=
  ∃ m, wX2_mendedBlocks_4 Q  b m M 0 0
def wX2_roomFor (Q : Int32 → MM → Prop) (M : MM) (b : Nat) (v1 : Int32) : Prop :=
  wX2_ruled (fun r1 M2 => wX2_longWith (fun r3 M4 => (1 ≤ (r1 + r3) → wX2_ruled (fun r5 M6 => ¬ (r1 + r3) = 0 ∧ (Q (r5 / (r1 + r3)) M6)) M4 b 0) ∧ (¬ 1 ≤ (r1 + r3) → Q 0 M4)) M2 b v1) M b 6
def wX2_timeWhenFilled (Q : Int32 → MM → Prop) (M : MM) (v0 : Int32) (v1 : Int32) (v2 : Int32) (v3 : Int32) (v4 : Int32) : Prop :=
  ∀ x1 : Int32, x1 = ((if v2 < (v1 + v4) then v2 else (v1 + v4)) - (1 : Int32)) → Q (if v0 < (x1 * v3) then (x1 * v3) else v0) M
def wX2_streamed_69 (Q : Int32 → MM → Prop) (K31 : MM → Int32 → Int32 → Int32 → Int32 → Prop) (b : Nat) (v1 : Int32) (v2 : Int32) (v3 : Int32) (v4 : Int32) (v5 : Int32) (M : MM) (v6 : Int32) (v7 : Int32) (v8 : Int32) (v9 : Int32) : Prop :=
  K31 M v6 v7 (v8 + v6) (v9 + 1)
def wX2_streamed_31 (Q : Int32 → MM → Prop)  (b : Nat) (v1 : Int32) (v2 : Int32) (v3 : Int32) (v4 : Int32) (v5 : Int32) : Nat → MM → Int32 → Int32 → Int32 → Int32 → Prop
  | 0, _, _, _, _, _ => False
  | n + 1, M, v6, v7, v8, v9 => (v1 ≤ v9 → (v5 = 0 → Q v8 M) ∧ (¬ v5 = 0 → Q v7 M)) ∧ (¬ v1 ≤ v9 → ((v9 * v3) ≤ v8 → wX2_streamed_69 Q (fun M v6 v7 v8 v9 => wX2_streamed_31 Q  b v1 v2 v3 v4 v5 n M v6 v7 v8 v9) b v1 v2 v3 v4 v5 M v6 v7 v8 v9) ∧ (¬ (v9 * v3) ≤ v8 → wX2_ruled (fun r7 M8 => wX2_timeWhenFilled (fun r9 M10 => wX2_streamed_69 Q (fun M v6 v7 v8 v9 => wX2_streamed_31 Q  b v1 v2 v3 v4 v5 n M v6 v7 v8 v9) b v1 v2 v3 v4 v5 M10 v6 (v7 + 1) r9 v9) M8 (v8 + r7) v9 v1 v3 v4) M b 8))
def wX2_streamed (Q : Int32 → MM → Prop) (M : MM) (b : Nat) (v1 : Int32) (v2 : Int32) (v3 : Int32) (v4 : Int32) (v5 : Int32) : Prop :=
  wX2_ruled (fun r1 M2 => wX2_playedThrough (fun r3 M4 => wX2_timeWhenFilled (fun r5 M6 => ∃ m, wX2_streamed_31 Q  b v1 v2 v3 v4 v5 m M6 r3 0 r5 0) M4 0 0 v1 v3 v4) M2 b (v2 + r1)) M b 6
def wX2_addSeen (Q : Int32 → MM → Prop) (M : MM) (b : Nat) (v1 : Int32) (v2 : Int32) : Prop :=
  wX4_setCell (fun M1 => wX4_setCell (fun M2 => ∀ M3 : MM, M3 = mset M2 b 13 ((M2 b 13) + (1 : Int32)) → Q (M3 b 13) M3) M1 (b + 8) (M1 b 13) v2) M (b + 7) (M b 13) v1
def wX2_canBe_2 (Q : Int32 → MM → Prop)  (b : Nat) (v1 : Int32) (v2 : Int32) : Nat → MM → Int32 → Prop
  | 0, _, _ => False
  | n + 1, M, v3 => ((M b 13) ≤ v3 → Q 1 M) ∧ (¬ (M b 13) ≤ v3 → wX4_cell (fun r1 M2 => wX4_cell (fun r3 M4 => wX4_lengthOfTurns (fun r5 M6 => (r3 < r5 → Q 0 M6) ∧ (¬ r3 < r5 → wX4_lengthOfTurns (fun r7 M8 => (r3 < r7 → wX2_canBe_2 Q  b v1 v2 n M8 (v3 + 1)) ∧ (¬ r3 < r7 → Q 0 M8)) M6 (r1 + (1 : Int32)) v1 v2)) M4 r1 v1 v2) M2 (b + 8) v3) M (b + 7) v3)
def wX2_canBe (Q : Int32 → MM → Prop) (M : MM) (b : Nat) (v1 : Int32) (v2 : Int32) : Prop :=
  ∃ m, wX2_canBe_2 Q  b v1 v2 m M 0
def wX1_isNothing (Q : Int32 → MM → Prop) (M : MM) (b : Nat) : Prop :=
  (¬ (M b 1) = (-1) → Q 0 M) ∧ ((M b 1) = (-1) → Q 1 M)
def wX1_makeNew_12 (Q : MM → Prop)  (b : Nat) (v1 : Int32) (v2 : Int32) : Nat → MM → Int32 → Prop
  | 0, _, _ => False
  | n + 1, M, v3 => (40 ≤ v3 → Q M) ∧ (¬ 40 ≤ v3 → wX4_setCell (fun M3 => wX1_makeNew_12 Q  b v1 v2 n M3 (v3 + 1)) M (b + 1) v3 0)
def wX1_makeNew (Q : MM → Prop) (M : MM) (b : Nat) (v1 : Int32) (v2 : Int32) : Prop :=
  ∀ M1 : MM, M1 = mset M b 1 v1 → ∀ M2 : MM, M2 = mset M1 b 2 v2 → ∃ m, wX1_makeNew_12 Q  b v1 v2 m M2 0
def wX1_faultOf (Q : Int32 → MM → Prop) (M : MM) (b : Nat) (v1 : Int32) (v2 : Int32) : Prop :=
  wX1_isNothing (fun r1 M2 => (r1 = 0 → (v1 = (M2 b 1) → wX4_isBetween (fun r3 M4 => (r3 = 0 → Q 2 M4) ∧ (¬ r3 = 0 → Q 0 M4)) M2 v2 0 ((M2 b 2) - (1 : Int32))) ∧ (¬ v1 = (M2 b 1) → Q 3 M2)) ∧ (¬ r1 = 0 → Q 1 M2)) M b
def wX1_cellAt (Q : Int32 → MM → Prop) (M : MM) (b : Nat) (v1 : Int32) : Prop :=
  wX4_cell (fun r1 M2 => Q r1 M2) M (b + 1) v1
def wX1_put_26 (Q : MM → Prop)  (b : Nat) (v1 : Int32) (v2 : Int32) (M : MM) (p0 : Int32) : Prop :=
  wX4_setCell (fun M1 => Q M1) M (b + 1) v1 p0
def wX1_put (Q : MM → Prop) (M : MM) (b : Nat) (v1 : Int32) (v2 : Int32) : Prop :=
  (¬ (M b 1) = 0 → (¬ (M b 1) = 1 → wX1_put_26 Q  b v1 v2 M v2) ∧ ((M b 1) = 1 → wX1_put_26 Q  b v1 v2 M (v2.toInt16.toInt32))) ∧ ((M b 1) = 0 → wX1_put_26 Q  b v1 v2 M (v2.toInt8.toInt32))
def wX0_choose_53 (Q : MM → Prop) (K7 : MM → Int32 → Prop) (v1 : Int32) (M : MM) (v2 : Int32) : Prop :=
  K7 M (v2 + 1)
def wX0_choose_7 (Q : MM → Prop)  (v1 : Int32) : Nat → MM → Int32 → Prop
  | 0, _, _ => False
  | n + 1, M, v2 => (12 ≤ v2 → Q M) ∧ (¬ 12 ≤ v2 → (¬ ((v1 >>> (v2 &&& 31)) &&& (1 : Int32)) = 1 → wX0_choose_53 Q (fun M v2 => wX0_choose_7 Q  v1 n M v2) v1 M v2) ∧ (((v1 >>> (v2 &&& 31)) &&& (1 : Int32)) = 1 → (8 ≤ (M 39 4) → wX0_choose_53 Q (fun M v2 => wX0_choose_7 Q  v1 n M v2) v1 M v2) ∧ (¬ 8 ≤ (M 39 4) → wX4_setCell (fun M2 => ∀ M3 : MM, M3 = mset M2 39 4 ((M2 39 4) + (1 : Int32)) → wX0_choose_53 Q (fun M v2 => wX0_choose_7 Q  v1 n M v2) v1 M3 v2) M 42 (M 39 4) v2)))
def wX0_choose (Q : MM → Prop) (M : MM) (v1 : Int32) : Prop :=
  ∀ M1 : MM, M1 = mset M 39 4 0 → ∃ m, wX0_choose_7 Q  v1 m M1 0
def wX0_measureHops_41 (Q : MM → Prop) (K2 : MM → Int32 → Prop) (o1 : Nat) : Nat → MM → Int32 → Int32 → Int32 → Prop
  | 0, _, _, _, _ => False
  | n + 1, M, v2, v3, v4 => ((M 39 4) ≤ v4 → K2 M (v2 + 1)) ∧ (¬ (M 39 4) ≤ v4 → wX4_cell (fun r5 M6 => wX2_beginOf (fun r7 M8 => wX2_sooner (fun r9 M10 => wX2_longOf (fun r11 M12 => wX2_playedThrough (fun r13 M14 => wX4_setCell (fun M15 => wX0_measureHops_41 Q K2 o1 n M15 v2 v3 (v4 + 1)) M14 40 ((v2 * (8 : Int32)) + v4) (r9 + r13)) M12 o1 r11) M10 o1 r5) M8 o1 v3 r7) M6 o1 r5) M 42 v4)
def wX0_measureHops_37 (Q : MM → Prop) (K2 : MM → Int32 → Prop) (o1 : Nat) (M : MM) (v2 : Int32) (p0 : Int32) : Prop :=
  ∃ m, wX0_measureHops_41 Q K2 o1 m M v2 p0 0
def wX0_measureHops_2 (Q : MM → Prop)  (o1 : Nat) : Nat → MM → Int32 → Prop
  | 0, _, _ => False
  | n + 1, M, v2 => ((M 39 4) < v2 → Q M) ∧ (¬ (M 39 4) < v2 → (¬ v2 = (M 39 4) → wX4_cell (fun r1 M2 => wX2_endOf (fun r3 M4 => wX0_measureHops_37 Q (fun M v2 => wX0_measureHops_2 Q  o1 n M v2) o1 M4 v2 r3) M2 o1 r1) M 42 v2) ∧ (v2 = (M 39 4) → wX0_measureHops_37 Q (fun M v2 => wX0_measureHops_2 Q  o1 n M v2) o1 M v2 (M o1 9)))
def wX0_measureHops (Q : MM → Prop) (M : MM) (o1 : Nat) : Prop :=
  ∃ m, wX0_measureHops_2 Q  o1 m M 0
def wX0_ticksBy (Q : Int32 → MM → Prop) (M : MM) (v1 : Int32) (v2 : Int32) (v3 : Int32) : Prop :=
  wX4_cell (fun r1 M2 => wX4_cell (fun r3 M4 => Q (r1 + r3) M4) M2 41 (((v3 ^^^ ((1 : Int32) <<< (v2 &&& 31))) * (8 : Int32)) + v2)) M 40 ((v1 * (8 : Int32)) + v2)
def wX0_fewestFrom_38 (Q : Int32 → MM → Prop) (K6 : MM → Int32 → Int32 → Prop) (v1 : Int32) (v2 : Int32) (M : MM) (v3 : Int32) (v4 : Int32) : Prop :=
  K6 M v3 (v4 + 1)
def wX0_fewestFrom_6 (Q : Int32 → MM → Prop)  (v1 : Int32) (v2 : Int32) : Nat → MM → Int32 → Int32 → Prop
  | 0, _, _, _ => False
  | n + 1, M, v3, v4 => ((M 39 4) ≤ v4 → Q v3 M) ∧ (¬ (M 39 4) ≤ v4 → (¬ ((v2 >>> (v4 &&& 31)) &&& (1 : Int32)) = 1 → wX0_fewestFrom_38 Q (fun M v3 v4 => wX0_fewestFrom_6 Q  v1 v2 n M v3 v4) v1 v2 M v3 v4) ∧ (((v2 >>> (v4 &&& 31)) &&& (1 : Int32)) = 1 → wX0_ticksBy (fun r1 M2 => ∀ x3 : Int32, x3 = (if r1 < v3 then r1 else v3) → wX0_fewestFrom_38 Q (fun M v3 v4 => wX0_fewestFrom_6 Q  v1 v2 n M v3 v4) v1 v2 M2 x3 v4) M v1 v4 v2))
def wX0_fewestFrom (Q : Int32 → MM → Prop) (M : MM) (v1 : Int32) (v2 : Int32) : Prop :=
  ∃ m, wX0_fewestFrom_6 Q  v1 v2 m M 1073741824 0
def wX0_firstOfFewest_44 (Q : Int32 → MM → Prop) (K10 : MM → Int32 → Int32 → Prop) (v1 : Int32) (v2 : Int32) (M : MM) (v3 : Int32) (v4 : Int32) : Prop :=
  K10 M v3 (v4 + 1)
def wX0_firstOfFewest_10 (Q : Int32 → MM → Prop)  (v1 : Int32) (v2 : Int32) : Nat → MM → Int32 → Int32 → Prop
  | 0, _, _, _ => False
  | n + 1, M, v3, v4 => ((M 39 4) ≤ v4 → Q 0 M) ∧ (¬ (M 39 4) ≤ v4 → (¬ ((v2 >>> (v4 &&& 31)) &&& (1 : Int32)) = 1 → wX0_firstOfFewest_44 Q (fun M v3 v4 => wX0_firstOfFewest_10 Q  v1 v2 n M v3 v4) v1 v2 M v3 v4) ∧ (((v2 >>> (v4 &&& 31)) &&& (1 : Int32)) = 1 → wX0_ticksBy (fun r3 M4 => (¬ r3 = v3 → wX0_firstOfFewest_44 Q (fun M v3 v4 => wX0_firstOfFewest_10 Q  v1 v2 n M v3 v4) v1 v2 M4 v3 v4) ∧ (r3 = v3 → Q v4 M4)) M v1 v4 v2))
def wX0_firstOfFewest (Q : Int32 → MM → Prop) (M : MM) (v1 : Int32) (v2 : Int32) : Prop :=
  wX0_fewestFrom (fun r1 M2 => ∃ m, wX0_firstOfFewest_10 Q  v1 v2 m M2 r1 0) M v1 v2
def wX0_followFirst_34 (Q : MM → Prop)   : Nat → MM → Int32 → Int32 → Int32 → Prop
  | 0, _, _, _, _ => False
  | n + 1, M, v1, v2, v3 => ((M 39 4) ≤ v3 → Q M) ∧ (¬ (M 39 4) ≤ v3 → wX0_firstOfFewest (fun r5 M6 => wX4_cell (fun r7 M8 => wX4_setCell (fun M9 => ∀ x10 : Int32, x10 = (v1 ^^^ ((1 : Int32) <<< (r5 &&& 31))) → wX0_followFirst_34 Q   n M9 x10 r5 (v3 + 1)) M8 43 v3 r7) M6 42 r5) M v2 v1)
def wX0_followFirst_29 (Q : MM → Prop)   (M : MM) (v1 : Int32) (v2 : Int32) (p0 : Int32) : Prop :=
  ∀ M4 : MM, M4 = mset M 39 5 p0 → ∃ m, wX0_followFirst_34 Q   m M4 v1 v2 0
def wX0_followFirst (Q : MM → Prop) (M : MM)  : Prop :=
  ∀ x1 : Int32, x1 = (((1 : Int32) <<< ((M 39 4) &&& 31)) - (1 : Int32)) → (¬ x1 = 0 → wX0_fewestFrom (fun r2 M3 => wX0_followFirst_29 Q   M3 x1 (M 39 4) r2) M (M 39 4) x1) ∧ (x1 = 0 → wX0_followFirst_29 Q   M x1 (M 39 4) 0)
def wX0_plan_65 (Q : MM → Prop) (K17 : MM → Int32 → Prop) (K30 : MM → Int32 → Int32 → Prop) (o1 : Nat) (v2 : Int32) (M : MM) (v3 : Int32) (v4 : Int32) (p0 : Int32) (p1 : Int32) : Prop :=
  wX4_setCell (fun M6 => K30 M6 v3 (v4 + 1)) M 41 p1 p0
def wX0_plan_30 (Q : MM → Prop) (K17 : MM → Int32 → Prop) (o1 : Nat) (v2 : Int32) : Nat → MM → Int32 → Int32 → Prop
  | 0, _, _, _ => False
  | n + 1, M, v3, v4 => ((M 39 4) ≤ v4 → K17 M (v3 + 1)) ∧ (¬ (M 39 4) ≤ v4 → (¬ v3 = 0 → wX0_fewestFrom (fun r4 M5 => wX0_plan_65 Q K17 (fun M v3 v4 => wX0_plan_30 Q K17 o1 v2 n M v3 v4) o1 v2 M5 v3 v4 r4 ((v3 * (8 : Int32)) + v4)) M v4 v3) ∧ (v3 = 0 → wX0_plan_65 Q K17 (fun M v3 v4 => wX0_plan_30 Q K17 o1 v2 n M v3 v4) o1 v2 M v3 v4 0 ((v3 * (8 : Int32)) + v4)))
def wX0_plan_17 (Q : MM → Prop)  (o1 : Nat) (v2 : Int32) : Nat → MM → Int32 → Prop
  | 0, _, _ => False
  | n + 1, M, v3 => (((1 : Int32) <<< ((M 39 4) &&& 31)) ≤ v3 → wX0_followFirst (fun M3 => Q M3) M) ∧ (¬ ((1 : Int32) <<< ((M 39 4) &&& 31)) ≤ v3 → ∃ m, wX0_plan_30 Q (fun M v3 => wX0_plan_17 Q  o1 v2 n M v3) o1 v2 m M v3 0)
def wX0_plan (Q : MM → Prop) (M : MM) (o1 : Nat) (v2 : Int32) : Prop :=
  wX0_choose (fun M1 => wX0_measureHops (fun M2 => ∃ m, wX0_plan_17 Q  o1 v2 m M2 0) M1 o1) M v2
def wX0_stopAt (Q : Int32 → MM → Prop) (M : MM) (v1 : Int32) : Prop :=
  wX4_cell (fun r1 M2 => Q r1 M2) M 43 v1
def wX3_addLetter_29 (Q : MM → Prop)  (v1 : Int32) (M : MM)  : Prop :=
  ∀ M2 : MM, M2 = mset M 37 2 ((M 37 2) + (1 : Int32)) → Q M2
def wX3_addLetter (Q : MM → Prop) (M : MM) (v1 : Int32) : Prop :=
  ((M 37 2) < 0 → wX3_addLetter_29 Q  v1 M) ∧ (¬ (M 37 2) < 0 → ((nI (alen 38)) ≤ (M 37 2) → wX3_addLetter_29 Q  v1 M) ∧ (¬ (nI (alen 38)) ≤ (M 37 2) → vp_in (M 37 2) (alen 38) ∧ (∀ M1 : MM, M1 = mset M 38 (M 37 2).toNatClampNeg (vp_nar .byte v1) → wX3_addLetter_29 Q  v1 M1)))
def wX3_letterAt_34 (Q : Int32 → MM → Prop)  (v1 : Int32) (M : MM)  : Prop :=
  Q (-1) M
def wX3_letterAt (Q : Int32 → MM → Prop) (M : MM) (v1 : Int32) : Prop :=
  (v1 < 0 → wX3_letterAt_34 Q  v1 M) ∧ (¬ v1 < 0 → ((M 37 2) ≤ v1 → wX3_letterAt_34 Q  v1 M) ∧ (¬ (M 37 2) ≤ v1 → ((nI (alen 38)) ≤ v1 → wX3_letterAt_34 Q  v1 M) ∧ (¬ (nI (alen 38)) ≤ v1 → vp_in v1 (alen 38) ∧ (Q ((M 38 v1.toNatClampNeg) &&& (255 : Int32)) M))))
def wX3_isSmallLetter_16 (Q : Int32 → MM → Prop)  (v0 : Int32) (M : MM)  : Prop :=
  Q 0 M
def wX3_isSmallLetter (Q : Int32 → MM → Prop) (M : MM) (v0 : Int32) : Prop :=
  (v0 < 97 → wX3_isSmallLetter_16 Q  v0 M) ∧ (¬ v0 < 97 → (122 < v0 → wX3_isSmallLetter_16 Q  v0 M) ∧ (¬ 122 < v0 → Q 1 M))
def wX3_isFigure_16 (Q : Int32 → MM → Prop)  (v0 : Int32) (M : MM)  : Prop :=
  Q 0 M
def wX3_isFigure (Q : Int32 → MM → Prop) (M : MM) (v0 : Int32) : Prop :=
  (v0 < 48 → wX3_isFigure_16 Q  v0 M) ∧ (¬ v0 < 48 → (57 < v0 → wX3_isFigure_16 Q  v0 M) ∧ (¬ 57 < v0 → Q 1 M))
def wX3_readNumber_79 (Q : MM → Prop)   : Nat → MM → Int32 → Prop
  | 0, _, _ => False
  | n + 1, M, v1 => ((M 37 3) ≤ v1 → Q M) ∧ (¬ (M 37 3) ≤ v1 → wX3_letterAt (fun r8 M9 => ∀ M10 : MM, M10 = mset M9 37 6 ((((M 37 6) * (10 : Int32)) + r8) - (48 : Int32)) → wX3_readNumber_79 Q   n M10 (v1 + 1)) M v1)
def wX3_readNumber_57 (Q : MM → Prop)   (M : MM) (p0 : Int32) : Prop :=
  ∀ M6 : MM, M6 = mset M 37 4 p0 → ∀ M7 : MM, M7 = mset M6 37 6 0 → (¬ (M7 37 4) = 4 → ∃ m, wX3_readNumber_79 Q   m M7 (M7 37 5)) ∧ ((M7 37 4) = 4 → Q M7)
def wX3_readNumber_38 (Q : MM → Prop)   (M : MM)  : Prop :=
  (((M 37 3) - (M 37 5)) ≤ 4 → wX3_readNumber_57 Q   M 2) ∧ (¬ ((M 37 3) - (M 37 5)) ≤ 4 → wX3_readNumber_57 Q   M 4)
def wX3_readNumber_0 (Q : MM → Prop)   : Nat → MM → Prop
  | 0, _ => False
  | n + 1, M => ((M 37 2) ≤ (M 37 3) → wX3_readNumber_38 Q   M) ∧ (¬ (M 37 2) ≤ (M 37 3) → wX3_letterAt (fun r1 M2 => wX3_isFigure (fun r3 M4 => (r3 = 0 → wX3_readNumber_38 Q   M4) ∧ (¬ r3 = 0 → ∀ M5 : MM, M5 = mset M4 37 3 ((M4 37 3) + (1 : Int32)) → wX3_readNumber_0 Q   n M5)) M2 r1) M (M 37 3))
def wX3_readNumber (Q : MM → Prop) (M : MM)  : Prop :=
  ∃ m, wX3_readNumber_0 Q   m M
def wX3_refuse (Q : MM → Prop) (M : MM) (v1 : Int32) (v2 : Int32) : Prop :=
  ((M 37 8) = 0 → ∀ M1 : MM, M1 = mset M 37 8 v1 → ∀ M2 : MM, M2 = mset M1 37 9 v2 → Q M2) ∧ (¬ (M 37 8) = 0 → Q M)
def wX3_readToken_155 (Q : MM → Prop)   (M : MM)  : Prop :=
  (¬ (M 37 4) = 4 → Q M) ∧ ((M 37 4) = 4 → wX3_refuse (fun M21 => Q M21) M 1 (M 37 5))
def wX3_readToken_142 (Q : MM → Prop)   (M : MM) (p0 : Int32) : Prop :=
  ∀ M19 : MM, M19 = mset M 37 4 p0 → ∀ M20 : MM, M20 = mset M19 37 3 ((M19 37 3) + (1 : Int32)) → wX3_readToken_155 Q   M20
def wX3_readToken_78 (Q : MM → Prop)   : Nat → MM → Prop
  | 0, _ => False
  | n + 1, M => ((M 37 2) ≤ (M 37 3) → wX3_readToken_155 Q   M) ∧ (¬ (M 37 2) ≤ (M 37 3) → wX3_letterAt (fun r14 M15 => wX3_isSmallLetter (fun r16 M17 => (r16 = 0 → wX3_readToken_155 Q   M17) ∧ (¬ r16 = 0 → ∀ M18 : MM, M18 = mset M17 37 3 ((M17 37 3) + (1 : Int32)) → wX3_readToken_78 Q   n M18)) M15 r14) M (M 37 3))
def wX3_readToken_37 (Q : MM → Prop)   (M : MM)  : Prop :=
  ∀ M4 : MM, M4 = mset M 37 5 (M 37 3) → wX3_letterAt (fun r5 M6 => (0 ≤ r5 → wX3_isSmallLetter (fun r7 M8 => (r7 = 0 → wX3_isFigure (fun r9 M10 => (r9 = 0 → (¬ r5 = 59 → wX3_readToken_142 Q   M10 4) ∧ (r5 = 59 → wX3_readToken_142 Q   M10 3)) ∧ (¬ r9 = 0 → wX3_readNumber (fun M11 => wX3_readToken_155 Q   M11) M10)) M8 r5) ∧ (¬ r7 = 0 → ∀ M12 : MM, M12 = mset M8 37 4 1 → ∃ m, wX3_readToken_78 Q   m M12)) M6 r5) ∧ (¬ 0 ≤ r5 → ∀ M13 : MM, M13 = mset M6 37 4 0 → wX3_readToken_155 Q   M13)) M4 (M4 37 5)
def wX3_readToken_0 (Q : MM → Prop)   : Nat → MM → Prop
  | 0, _ => False
  | n + 1, M => ((M 37 2) ≤ (M 37 3) → wX3_readToken_37 Q   M) ∧ (¬ (M 37 2) ≤ (M 37 3) → wX3_letterAt (fun r1 M2 => (¬ r1 = 32 → wX3_readToken_37 Q   M2) ∧ (r1 = 32 → ∀ M3 : MM, M3 = mset M2 37 3 ((M2 37 3) + (1 : Int32)) → wX3_readToken_0 Q   n M3)) M (M 37 3))
def wX3_readToken (Q : MM → Prop) (M : MM)  : Prop :=
  ∃ m, wX3_readToken_0 Q   m M
def wX3_isNamed_28 (Q : Int32 → MM → Prop)  (k1 : Nat) : Nat → MM → Int32 → Prop
  | 0, _, _ => False
  | n + 1, M, v2 => wJ0_length_8abf5 (fun r3 M4 => (r3 ≤ v2 → Q 1 M4) ∧ (¬ r3 ≤ v2 → wX3_letterAt (fun r5 M6 => wJ0_charAt_5068e (fun r7 M8 => (r5 = r7 → wX3_isNamed_28 Q  k1 n M8 (v2 + 1)) ∧ (¬ r5 = r7 → Q 0 M8)) M6 k1 v2) M4 ((M4 37 5) + v2))) M k1
def wX3_isNamed (Q : Int32 → MM → Prop) (M : MM) (k1 : Nat) : Prop :=
  (¬ (M 37 4) = 1 → Q 0 M) ∧ ((M 37 4) = 1 → wJ0_length_8abf5 (fun r1 M2 => (((M 37 3) - (M 37 5)) = r1 → ∃ m, wX3_isNamed_28 Q  k1 m M2 0) ∧ (¬ ((M 37 3) - (M 37 5)) = r1 → Q 0 M2)) M k1)
def wX3_ruleNamed (Q : Int32 → MM → Prop) (M : MM)  : Prop :=
  wX3_isNamed (fun r1 M2 => (r1 = 0 → wX3_isNamed (fun r3 M4 => (r3 = 0 → wX3_isNamed (fun r5 M6 => (r5 = 0 → wX3_isNamed (fun r7 M8 => (r7 = 0 → wX3_isNamed (fun r9 M10 => (r9 = 0 → wX3_isNamed (fun r11 M12 => (r11 = 0 → wX3_isNamed (fun r13 M14 => (r13 = 0 → wX3_isNamed (fun r15 M16 => (r15 = 0 → wX3_isNamed (fun r17 M18 => (r17 = 0 → Q (-4) M18) ∧ (¬ r17 = 0 → Q 8 M18)) M16 8) ∧ (¬ r15 = 0 → Q 7 M16)) M14 7) ∧ (¬ r13 = 0 → Q 6 M14)) M12 6) ∧ (¬ r11 = 0 → Q 5 M12)) M10 5) ∧ (¬ r9 = 0 → Q 4 M10)) M8 4) ∧ (¬ r7 = 0 → Q 3 M8)) M6 3) ∧ (¬ r5 = 0 → Q 2 M6)) M4 2) ∧ (¬ r3 = 0 → Q 1 M4)) M2 1) ∧ (¬ r1 = 0 → Q 0 M2)) M 0
def wX3_isNumberWithin_41 (Q : Int32 → MM → Prop)  (v1 : Int32) (v2 : Int32) (M : MM)  : Prop :=
  (¬ (M 37 8) = 0 → Q 0 M) ∧ ((M 37 8) = 0 → Q 1 M)
def wX3_isNumberWithin (Q : Int32 → MM → Prop) (M : MM) (v1 : Int32) (v2 : Int32) : Prop :=
  ((M 37 4) = 2 → wX4_isBetween (fun r1 M2 => (¬ r1 = 0 → wX3_isNumberWithin_41 Q  v1 v2 M2) ∧ (r1 = 0 → wX3_refuse (fun M3 => wX3_isNumberWithin_41 Q  v1 v2 M3) M2 3 (M2 37 5))) M (M 37 6) v1 v2) ∧ (¬ (M 37 4) = 2 → wX3_refuse (fun M4 => wX3_isNumberWithin_41 Q  v1 v2 M4) M 2 (M 37 5))
def wX3_takeRule (Q : MM → Prop) (M : MM) (v1 : Int32) : Prop :=
  (¬ (((M 37 7) >>> (v1 &&& 31)) &&& (1 : Int32)) = 1 → ∀ M1 : MM, M1 = mset M 37 7 ((M 37 7) ||| ((1 : Int32) <<< (v1 &&& 31))) → wX3_readToken (fun M2 => wX4_cell_s (fun r3 M4 => wX4_cell_s (fun r5 M6 => wX3_isNumberWithin (fun r7 M8 => (¬ r7 = 0 → wX4_setCell (fun M9 => wX3_readToken (fun M10 => Q M10) M9) M8 29 v1 (M8 37 6)) ∧ (r7 = 0 → Q M8)) M6 r3 r5) M4 1 v1) M2 0 v1) M1) ∧ ((((M 37 7) >>> (v1 &&& 31)) &&& (1 : Int32)) = 1 → wX3_refuse (fun M11 => Q M11) M 4 (M 37 5))
def wX3_hasRoomForBlock (Q : Int32 → MM → Prop) (M : MM)  : Prop :=
  (12 ≤ (M 28 8) → wX3_refuse (fun M1 => Q 0 M1) M 5 (M 37 5)) ∧ (¬ 12 ≤ (M 28 8) → Q 1 M)
def wX3_takeBlock_92 (Q : MM → Prop)   (M : MM)  : Prop :=
  wX2_putBlock (fun M10 => Q M10) M 28 (M 28 8) 0 (M 28 11)
def wX3_takeBlock_82 (Q : MM → Prop) (K22 : MM → Int32 → Prop)  (M : MM) (v1 : Int32) : Prop :=
  wX3_readToken (fun M11 => K22 M11 (v1 + 1)) M
def wX3_takeBlock_40 (Q : MM → Prop) (K22 : MM → Int32 → Prop)  (M : MM) (v1 : Int32) : Prop :=
  wX3_isNumberWithin (fun r5 M6 => (¬ r5 = 0 → (¬ v1 = 12 → wX2_typeOne (fun r7 M8 => wX3_takeBlock_82 Q K22  M8 v1) M6 28 (M6 37 6)) ∧ (v1 = 12 → wX3_refuse (fun M9 => wX3_takeBlock_82 Q K22  M9 v1) M6 5 (M6 37 5))) ∧ (r5 = 0 → Q M6)) M 0 255
def wX3_takeBlock_22 (Q : MM → Prop)   : Nat → MM → Int32 → Prop
  | 0, _, _ => False
  | n + 1, M, v1 => (12 < v1 → wX3_takeBlock_92 Q   M) ∧ (¬ 12 < v1 → (v1 = 0 → wX3_takeBlock_40 Q (fun M v1 => wX3_takeBlock_22 Q   n M v1)  M v1) ∧ (¬ v1 = 0 → (¬ (M 37 4) = 2 → wX3_takeBlock_92 Q   M) ∧ ((M 37 4) = 2 → wX3_takeBlock_40 Q (fun M v1 => wX3_takeBlock_22 Q   n M v1)  M v1)))
def wX3_takeBlock (Q : MM → Prop) (M : MM)  : Prop :=
  wX3_hasRoomForBlock (fun r1 M2 => (¬ r1 = 0 → ∀ M3 : MM, M3 = mset M2 28 11 0 → wX3_readToken (fun M4 => ∃ m, wX3_takeBlock_22 Q   m M4 0) M3) ∧ (r1 = 0 → Q M2)) M
def wX3_takeMark (Q : MM → Prop) (M : MM)  : Prop :=
  wX3_hasRoomForBlock (fun r1 M2 => (¬ r1 = 0 → wX2_putBlock (fun M3 => wX3_readToken (fun M4 => Q M4) M3) M2 28 (M2 28 8) 0 0) ∧ (r1 = 0 → Q M2)) M
def wX3_takeSign (Q : MM → Prop) (M : MM)  : Prop :=
  (¬ (M 37 4) = 3 → wX3_refuse (fun M1 => Q M1) M 2 (M 37 5)) ∧ ((M 37 4) = 3 → wX3_readToken (fun M2 => Q M2) M)
def wX3_takeLine_60 (Q : MM → Prop)   (M : MM)  : Prop :=
  (¬ (M 37 8) = 0 → Q M) ∧ ((M 37 8) = 0 → wX3_takeSign (fun M11 => Q M11) M)
def wX3_takeLine (Q : MM → Prop) (M : MM)  : Prop :=
  wX3_ruleNamed (fun r1 M2 => (r1 = (-4) → wX3_isNamed (fun r3 M4 => (r3 = 0 → wX3_isNamed (fun r5 M6 => (r5 = 0 → wX3_refuse (fun M7 => wX3_takeLine_60 Q   M7) M6 2 (M6 37 5)) ∧ (¬ r5 = 0 → wX3_takeMark (fun M8 => wX3_takeLine_60 Q   M8) M6)) M4 10) ∧ (¬ r3 = 0 → wX3_takeBlock (fun M9 => wX3_takeLine_60 Q   M9) M4)) M2 9) ∧ (¬ r1 = (-4) → wX3_takeRule (fun M10 => wX3_takeLine_60 Q   M10) M2 r1)) M
def wX3_takeAll_64 (Q : Int32 → MM → Prop)   (M : MM) (v1 : Int32) : Prop :=
  wX2_layOutBlocks (fun M8 => ∀ M9 : MM, M9 = mset M8 28 11 0 → wX2_endOf (fun r10 M11 => wX2_ruled (fun r12 M13 => (r10 ≤ r12 → Q v1 M13) ∧ (¬ r10 ≤ r12 → wX3_refuse (fun M14 => Q v1 M14) M13 6 (M13 37 2))) M11 28 0) M9 28 ((M9 28 8) - (1 : Int32))) M 28
def wX3_takeAll_33 (Q : Int32 → MM → Prop)   : Nat → MM → Int32 → Prop
  | 0, _, _ => False
  | n + 1, M, v1 => ((M 37 4) = 0 → wX3_takeAll_64 Q   M v1) ∧ (¬ (M 37 4) = 0 → (¬ (M 37 8) = 0 → wX3_takeAll_64 Q   M v1) ∧ ((M 37 8) = 0 → (400 ≤ v1 → wX3_takeAll_64 Q   M v1) ∧ (¬ 400 ≤ v1 → wX3_takeLine (fun M7 => wX3_takeAll_33 Q   n M7 (v1 + 1)) M)))
def wX3_takeAll (Q : Int32 → MM → Prop) (M : MM)  : Prop :=
  wX2_reset (fun M1 => ∀ M2 : MM, M2 = mset M1 37 3 0 → ∀ M3 : MM, M3 = mset M2 37 7 0 → ∀ M4 : MM, M4 = mset M3 37 8 0 → ∀ M5 : MM, M5 = mset M4 37 9 0 → wX3_readToken (fun M6 => ∃ m, wX3_takeAll_33 Q   m M6 0) M5) M 28
def wX4_feed_22 (Q : Int32 → MM → Prop)  (v1 : Int64) : Nat → MM → Int32 → Prop
  | 0, _, _ => False
  | n + 1, M, v3 => (v3 < 0 → Q (M 37 2) M) ∧ (¬ v3 < 0 → wX3_addLetter (fun M1 => wX4_feed_22 Q  v1 n M1 (v3 + (-8))) M ((((v1.toUInt64 >>> (v3.toInt64.toUInt64 &&& Int64.toUInt64 63)).toInt64).toInt32).toInt8.toInt32))
def wX4_feed (Q : Int32 → MM → Prop) (M : MM) (v1 : Int64) : Prop :=
  (((M 37 2) + (8 : Int32)) ≤ 400 → ∃ m, wX4_feed_22 Q  v1 m M 56) ∧ (¬ ((M 37 2) + (8 : Int32)) ≤ 400 → Q (-3) M)
def wX4_end (Q : Int32 → MM → Prop) (M : MM) (v1 : Int32) : Prop :=
  wX4_isBetween (fun r1 M2 => (¬ r1 = 0 → ∀ M3 : MM, M3 = mset M2 37 2 v1 → Q (M 37 2) M3) ∧ (r1 = 0 → Q (-1) M2)) M v1 0 (M 37 2)
def wX4_text (Q : Int32 → MM → Prop) (M : MM)  : Prop :=
  wX3_takeAll (fun r1 M2 => ∀ M3 : MM, M3 = mset M2 37 2 0 → ∀ M4 : MM, M4 = mset M3 0 9 (M3 37 8) → ((M4 0 9) = 0 → wX2_becomes (fun M5 => ∀ M6 : MM, M6 = mset M5 0 11 0 → Q r1 M6) M4 1 28) ∧ (¬ (M4 0 9) = 0 → Q (((-10) : Int32) - (M4 37 9)) M4)) M
def wX4_fault (Q : Int32 → MM → Prop) (M : MM)  : Prop :=
  Q (M 0 9) M
def wX4_rule (Q : Int32 → MM → Prop) (M : MM) (v1 : Int32) : Prop :=
  wX4_isBetween (fun r1 M2 => (r1 = 0 → Q (-1) M2) ∧ (¬ r1 = 0 → wX2_ruled (fun r3 M4 => Q r3 M4) M2 1 v1)) M v1 0 8
def wX4_turns (Q : Int32 → MM → Prop) (M : MM) (v1 : Int32) (v2 : Int32) : Prop :=
  wX2_hasPlace (fun r1 M2 => (¬ r1 = 0 → (v2 = 0 → wX2_rightTurns (fun r3 M4 => Q r3 M4) M2 1 v1) ∧ (¬ v2 = 0 → wX2_leftTurns (fun r5 M6 => Q r5 M6) M2 1 v1)) ∧ (r1 = 0 → Q (-1) M2)) M 1 v1
def wX4_shows (Q : Int32 → MM → Prop) (M : MM) (v1 : Int32) (v2 : Int32) : Prop :=
  (v1 < 0 → Q (-1) M) ∧ (¬ v1 < 0 → wX4_isBetween (fun r1 M2 => (¬ r1 = 0 → (¬ v2 = 0 → wX2_lastShowing (fun r3 M4 => Q r3 M4) M2 1 v1) ∧ (v2 = 0 → wX2_firstShowing (fun r5 M6 => Q r5 M6) M2 1 v1)) ∧ (r1 = 0 → Q (-1) M2)) M v2 0 1)
def wX4_meet (Q : Int32 → MM → Prop) (M : MM)  : Prop :=
  wX2_meetingPlace (fun r1 M2 => Q r1 M2) M 1
def wX4_ticks (Q : Int32 → MM → Prop) (M : MM) (v1 : Int32) (v2 : Int32) (v3 : Int32) : Prop :=
  wX2_hasPlace (fun r1 M2 => (r1 = 0 → Q (-1) M2) ∧ (¬ r1 = 0 → wX2_hasPlace (fun r3 M4 => (¬ r3 = 0 → (v3 = 0 → wX2_played (fun r5 M6 => Q r5 M6) M4 1 v1 v2) ∧ (¬ v3 = 0 → (v3 = 1 → wX2_wound (fun r7 M8 => Q r7 M8) M4 1 v1 v2) ∧ (¬ v3 = 1 → (v3 = 2 → wX2_sooner (fun r9 M10 => Q r9 M10) M4 1 v1 v2) ∧ (¬ v3 = 2 → Q (-1) M4)))) ∧ (r3 = 0 → Q (-1) M4)) M2 1 v2)) M 1 v1
def wX4_go (Q : Int32 → MM → Prop) (M : MM) (v1 : Int32) : Prop :=
  wX2_hasPlace (fun r1 M2 => (r1 = 0 → Q (-1) M2) ∧ (¬ r1 = 0 → wX2_goTo (fun r3 M4 => Q r3 M4) M2 1 v1)) M 1 v1
def wX4_now (Q : Int32 → MM → Prop) (M : MM) (v1 : Int32) : Prop :=
  (v1 = 0 → Q (M 1 9) M) ∧ (¬ v1 = 0 → (v1 = 1 → Q (M 1 10) M) ∧ (¬ v1 = 1 → (v1 = 2 → wX2_rightTurns (fun r1 M2 => Q r1 M2) M 1 (M 1 9)) ∧ (¬ v1 = 2 → (v1 = 3 → Q (M 1 12) M) ∧ (¬ v1 = 3 → (v1 = 4 → Q (M 1 11) M) ∧ (¬ v1 = 4 → (v1 = 5 → wX2_ruled (fun r3 M4 => wX2_endOf (fun r5 M6 => Q (r3 - r5) M6) M4 1 ((M4 1 8) - (1 : Int32))) M 1 0) ∧ (¬ v1 = 5 → Q (-1) M))))))
def wX4_within (Q : Int32 → MM → Prop) (M : MM) (v1 : Int32) (v2 : Int32) : Prop :=
  wX4_isBetween (fun r1 M2 => (¬ r1 = 0 → (v2 = 0 → wX2_ruled (fun r3 M4 => wX2_reach (fun r5 M6 => Q ((M2 1 9) + r5) M6) M4 1 v1 (r3 - (M4 1 9)) 1) M2 1 0) ∧ (¬ v2 = 0 → wX2_reach (fun r7 M8 => Q ((M2 1 9) + (-r7)) M8) M2 1 v1 (M2 1 9) (-1))) ∧ (r1 = 0 → Q (-1) M2)) M v1 0 999999
def wX4_block (Q : Int32 → MM → Prop) (M : MM) (v1 : Int32) (v2 : Int32) : Prop :=
  wX2_hasBlock (fun r1 M2 => (¬ r1 = 0 → (v2 = 0 → wX2_beginOf (fun r3 M4 => Q r3 M4) M2 1 v1) ∧ (¬ v2 = 0 → (v2 = 1 → wX2_longOf (fun r5 M6 => Q r5 M6) M2 1 v1) ∧ (¬ v2 = 1 → (v2 = 2 → wX2_sizeOf (fun r7 M8 => Q r7 M8) M2 1 v1) ∧ (¬ v2 = 2 → (v2 = 3 → wX2_isMark (fun r9 M10 => (r9 = 0 → wX2_sizeOf (fun r11 M12 => wX2_columnOf (fun r13 M14 => Q r13 M14) M12 1 v1 r11) M10 1 v1) ∧ (¬ r9 = 0 → Q 0 M10)) M2 1 v1) ∧ (¬ v2 = 3 → (v2 = 4 → wX2_endOf (fun r15 M16 => Q r15 M16) M2 1 v1) ∧ (¬ v2 = 4 → Q (-1) M2)))))) ∧ (r1 = 0 → Q (-1) M2)) M 1 v1
def wX4_blockAt (Q : Int32 → MM → Prop) (M : MM) (v1 : Int32) : Prop :=
  wX2_hasPlace (fun r1 M2 => (r1 = 0 → Q (-1) M2) ∧ (¬ r1 = 0 → wX2_blockWith (fun r3 M4 => Q r3 M4) M2 1 v1)) M 1 v1
def wX4_type (Q : Int32 → MM → Prop) (M : MM) (v1 : Int32) : Prop :=
  wX4_isBetween (fun r1 M2 => (¬ r1 = 0 → ((M2 1 11) < 12 → wX2_typeOne (fun r3 M4 => Q r3 M4) M2 1 v1) ∧ (¬ (M2 1 11) < 12 → Q (-3) M2)) ∧ (r1 = 0 → Q (-1) M2)) M v1 0 255
def wX4_write (Q : Int32 → MM → Prop) (M : MM) (v1 : Int32) : Prop :=
  wX4_isBetween (fun r1 M2 => (¬ r1 = 0 → (¬ (M2 1 11) = 0 → wX2_hasRoomAt (fun r3 M4 => (¬ r3 = 0 → wX2_writeAt (fun r5 M6 => ∀ M7 : MM, M7 = mset M6 1 11 0 → Q r5 M7) M4 1 v1 (M4 1 11)) ∧ (r3 = 0 → Q (-3) M4)) M2 1 v1 (M2 1 11)) ∧ ((M2 1 11) = 0 → Q (-2) M2)) ∧ (r1 = 0 → Q (-1) M2)) M v1 0 (M 1 8)
def wX4_mark (Q : Int32 → MM → Prop) (M : MM) (v1 : Int32) : Prop :=
  wX4_isBetween (fun r1 M2 => (¬ r1 = 0 → wX2_hasRoomAt (fun r3 M4 => (¬ r3 = 0 → wX2_writeAt (fun r5 M6 => Q r5 M6) M4 1 v1 0) ∧ (r3 = 0 → Q (-3) M4)) M2 1 v1 0) ∧ (r1 = 0 → Q (-1) M2)) M v1 0 (M 1 8)
def wX4_spoil (Q : Int32 → MM → Prop) (M : MM) (v1 : Int32) (v2 : Int32) (v3 : Int32) : Prop :=
  wX2_hasColumn (fun r1 M2 => (r1 = 0 → Q (-1) M2) ∧ (¬ r1 = 0 → wX4_isBetween (fun r3 M4 => (¬ r3 = 0 → wX2_turnBit (fun r5 M6 => Q r5 M6) M4 1 v1 v2 v3) ∧ (r3 = 0 → Q (-1) M4)) M2 v3 0 8)) M 1 v1 v2
def wX4_dead_18 (Q : Int32 → MM → Prop)  (v1 : Int32) (M : MM)  : Prop :=
  ∀ M3 : MM, M3 = mset M 1 12 v1 → Q (M 1 12) M3
def wX4_dead (Q : Int32 → MM → Prop) (M : MM) (v1 : Int32) : Prop :=
  (v1 = (-4) → wX4_dead_18 Q  v1 M) ∧ (¬ v1 = (-4) → wX4_isBetween (fun r1 M2 => (¬ r1 = 0 → wX4_dead_18 Q  v1 M2) ∧ (r1 = 0 → Q (-1) M2)) M v1 0 8)
def wX4_check (Q : Int32 → MM → Prop) (M : MM) (v1 : Int32) : Prop :=
  wX2_hasBlock (fun r1 M2 => (r1 = 0 → Q (-1) M2) ∧ (¬ r1 = 0 → wX2_readingOf (fun r3 M4 => Q r3 M4) M2 1 v1 (M2 1 12))) M 1 v1
def wX4_got (Q : Int32 → MM → Prop) (M : MM) (v1 : Int32) (v2 : Int32) : Prop :=
  wX2_hasBlock (fun r1 M2 => (r1 = 0 → Q (-1) M2) ∧ (¬ r1 = 0 → wX2_sizeOf (fun r3 M4 => wX4_isBetween (fun r5 M6 => (¬ r5 = 0 → wX2_readingOf (fun r7 M8 => (¬ r7 = 3 → wX2_byteAsRead (fun r9 M10 => Q r9 M10) M8 1 v1 v2) ∧ (r7 = 3 → Q (-4) M8)) M6 1 v1 (M6 1 12)) ∧ (r5 = 0 → Q (-1) M6)) M4 v2 0 (r3 - (1 : Int32))) M2 1 v1)) M 1 v1
def wX4_column (Q : Int32 → MM → Prop) (M : MM) (v1 : Int32) (v2 : Int32) : Prop :=
  wX2_hasColumn (fun r1 M2 => (r1 = 0 → Q (-1) M2) ∧ (¬ r1 = 0 → wX2_columnOf (fun r3 M4 => Q r3 M4) M2 1 v1 v2)) M 1 v1 v2
def wX4_state (Q : Int32 → MM → Prop) (M : MM) (v1 : Int32) : Prop :=
  (v1 = 0 → wX2_lostBlocksBy (fun r1 M2 => Q r1 M2) M 1 (M 1 12)) ∧ (¬ v1 = 0 → (v1 = 1 → wX2_fooledBlocks (fun r3 M4 => Q r3 M4) M 1) ∧ (¬ v1 = 1 → (v1 = 2 → wX2_mendedBlocks (fun r5 M6 => Q r5 M6) M 1) ∧ (¬ v1 = 2 → Q (-1) M)))
def wX4_best_61 (Q : Int32 → MM → Prop) (K28 : MM → Int32 → Int32 → Int32 → Prop) (v1 : Int32) (M : MM) (v2 : Int32) (v3 : Int32) (v4 : Int32) : Prop :=
  K28 M v2 v3 (v4 + 1)
def wX4_best_28 (Q : Int32 → MM → Prop)  (v1 : Int32) : Nat → MM → Int32 → Int32 → Int32 → Prop
  | 0, _, _, _, _ => False
  | n + 1, M, v2, v3, v4 => (9 ≤ v4 → (¬ v1 = 0 → Q v3 M) ∧ (v1 = 0 → Q v2 M)) ∧ (¬ 9 ≤ v4 → wX2_lostBlocksBy (fun r7 M8 => wJ6_bitCount_0f7a4 (fun r9 M10 => (v3 ≤ r9 → wX4_best_61 Q (fun M v2 v3 v4 => wX4_best_28 Q  v1 n M v2 v3 v4) v1 M10 v2 v3 v4) ∧ (¬ v3 ≤ r9 → wX4_best_61 Q (fun M v2 v3 v4 => wX4_best_28 Q  v1 n M v2 v3 v4) v1 M10 v4 r9 v4)) M8 r7) M 1 v4)
def wX4_best (Q : Int32 → MM → Prop) (M : MM) (v1 : Int32) : Prop :=
  wX4_isBetween (fun r1 M2 => (¬ r1 = 0 → wX2_lostBlocksBy (fun r3 M4 => wJ6_bitCount_0f7a4 (fun r5 M6 => ∃ m, wX4_best_28 Q  v1 m M6 0 r5 1) M4 r3) M2 1 0) ∧ (r1 = 0 → Q (-1) M2)) M v1 0 1
def wX4_order_54 (Q : Int32 → MM → Prop)  (v1 : Int32) (v2 : Int32) (M : MM) (v3 : Int32) (v4 : Int32) : Prop :=
  wJ6_bitCount_0f7a4 (fun r8 M9 => (r8 ≤ 8 → wX0_plan (fun M10 => (v4 = 0 → wX0_stopAt (fun r11 M12 => Q r11 M12) M10 v3) ∧ (¬ v4 = 0 → Q (M10 39 5) M10)) M9 1 v1) ∧ (¬ r8 ≤ 8 → Q (-2) M9)) M v1
def wX4_order_27 (Q : Int32 → MM → Prop)  (v1 : Int32) (v2 : Int32) (M : MM) (v3 : Int32) (p0 : Int32) : Prop :=
  (¬ p0 = 0 → wX4_order_54 Q  v1 v2 M v3 p0) ∧ (p0 = 0 → wX4_isBetween (fun r4 M5 => (r4 = 0 → Q (-1) M5) ∧ (¬ r4 = 0 → wJ6_bitCount_0f7a4 (fun r6 M7 => (v3 < r6 → wX4_order_54 Q  v1 v2 M7 v3 p0) ∧ (¬ v3 < r6 → Q (-1) M7)) M5 v1)) M v3 0 7)
def wX4_order (Q : Int32 → MM → Prop) (M : MM) (v1 : Int32) (v2 : Int32) : Prop :=
  wX2_hasAllOf (fun r1 M2 => (¬ r1 = 0 → ∀ x3 : Int32, x3 = (v2 - (10 : Int32)) → (¬ v2 = 0 → wX4_order_27 Q  v1 v2 M2 x3 0) ∧ (v2 = 0 → wX4_order_27 Q  v1 v2 M2 x3 1)) ∧ (r1 = 0 → Q (-1) M2)) M 1 v1
def wX4_reads (Q : Int32 → MM → Prop) (M : MM) (v1 : Int32) : Prop :=
  wX2_hasAllOf (fun r1 M2 => (¬ r1 = 0 → wJ6_bitCount_0f7a4 (fun r3 M4 => (r3 ≤ 8 → (¬ v1 = 0 → wX0_plan (fun M5 => ∀ M6 : MM, M6 = mset M5 1 10 ((M5 1 10) + (M5 39 5)) → wX0_stopAt (fun r7 M8 => wX2_endOf (fun r9 M10 => ∀ M11 : MM, M11 = mset M10 1 9 r9 → Q (M11 39 5) M11) M8 1 r7) M6 ((M6 39 4) - (1 : Int32))) M4 1 v1) ∧ (v1 = 0 → Q 0 M4)) ∧ (¬ r3 ≤ 8 → Q (-2) M4)) M2 v1) ∧ (r1 = 0 → Q (-1) M2)) M 1 v1
def wX4_cut (Q : Int32 → MM → Prop) (M : MM) (v1 : Int32) (v2 : Int32) : Prop :=
  wX2_hasPlace (fun r1 M2 => (r1 = 0 → Q (-1) M2) ∧ (¬ r1 = 0 → wX2_hasPlace (fun r3 M4 => (r3 = 0 → Q (-1) M4) ∧ (¬ r3 = 0 → (v1 < v2 → wX2_ruled (fun r5 M6 => (20 ≤ (r5 - (v2 - v1)) → wX2_cutOut (fun r7 M8 => Q r7 M8) M6 1 v1 v2) ∧ (¬ 20 ≤ (r5 - (v2 - v1)) → Q (-2) M6)) M4 1 0) ∧ (¬ v1 < v2 → Q (-1) M4))) M2 1 v2)) M 1 v1
def wX4_holds (Q : Int32 → MM → Prop) (M : MM) (v1 : Int32) : Prop :=
  wX4_isBetween (fun r1 M2 => (r1 = 0 → Q (-1) M2) ∧ (¬ r1 = 0 → wX2_roomFor (fun r3 M4 => Q r3 M4) M2 1 v1)) M v1 1 99
def wX4_most_58 (Q : Int32 → MM → Prop) (K25 : MM → Int32 → Int32 → Int32 → Prop) (v1 : Int32) (M : MM) (v2 : Int32) (v3 : Int32) (v4 : Int32) : Prop :=
  K25 M v2 v3 (v4 + 1)
def wX4_most_25 (Q : Int32 → MM → Prop)  (v1 : Int32) : Nat → MM → Int32 → Int32 → Int32 → Prop
  | 0, _, _, _, _ => False
  | n + 1, M, v2, v3, v4 => (99 < v4 → (¬ v1 = 0 → Q v3 M) ∧ (v1 = 0 → Q v2 M)) ∧ (¬ 99 < v4 → wX2_roomFor (fun r5 M6 => ((v4 * r5) ≤ v3 → wX4_most_58 Q (fun M v2 v3 v4 => wX4_most_25 Q  v1 n M v2 v3 v4) v1 M6 v2 v3 v4) ∧ (¬ (v4 * r5) ≤ v3 → wX4_most_58 Q (fun M v2 v3 v4 => wX4_most_25 Q  v1 n M v2 v3 v4) v1 M6 v4 (v4 * r5) v4)) M 1 v4)
def wX4_most (Q : Int32 → MM → Prop) (M : MM) (v1 : Int32) : Prop :=
  wX4_isBetween (fun r1 M2 => (¬ r1 = 0 → wX2_roomFor (fun r3 M4 => ∃ m, wX4_most_25 Q  v1 m M4 1 r3 2) M2 1 1) ∧ (r1 = 0 → Q (-1) M2)) M v1 0 1
def wX4_isStream_35 (Q : Int32 → MM → Prop)  (v0 : Int32) (v1 : Int32) (v2 : Int32) (M : MM)  : Prop :=
  Q 0 M
def wX4_isStream (Q : Int32 → MM → Prop) (M : MM) (v0 : Int32) (v1 : Int32) (v2 : Int32) : Prop :=
  wX4_isBetween (fun r1 M2 => (r1 = 0 → wX4_isStream_35 Q  v0 v1 v2 M2) ∧ (¬ r1 = 0 → wX4_isBetween (fun r3 M4 => (r3 = 0 → wX4_isStream_35 Q  v0 v1 v2 M4) ∧ (¬ r3 = 0 → wX4_isBetween (fun r5 M6 => (r5 = 0 → wX4_isStream_35 Q  v0 v1 v2 M6) ∧ (¬ r5 = 0 → Q 1 M6)) M4 v2 0 9999)) M2 v1 1 99)) M v0 1 99
def wX4_stream_52 (Q : Int32 → MM → Prop)  (v1 : Int32) (v2 : Int32) (v3 : Int32) (v4 : Int32) (v5 : Int32) (M : MM) (p0 : Int32) (p1 : Int32) (p2 : Int32) (p3 : Int32) (p4 : Int32) : Prop :=
  wX2_streamed (fun r7 M8 => Q r7 M8) M 1 p4 p3 p2 p1 p0
def wX4_stream (Q : Int32 → MM → Prop) (M : MM) (v1 : Int32) (v2 : Int32) (v3 : Int32) (v4 : Int32) (v5 : Int32) : Prop :=
  wX4_isStream (fun r1 M2 => (r1 = 0 → Q (-1) M2) ∧ (¬ r1 = 0 → wX4_isBetween (fun r3 M4 => (r3 = 0 → Q (-1) M4) ∧ (¬ r3 = 0 → wX4_isBetween (fun r5 M6 => (¬ r5 = 0 → (¬ v5 = 1 → wX4_stream_52 Q  v1 v2 v3 v4 v5 M6 0 v4 v3 v2 v1) ∧ (v5 = 1 → wX4_stream_52 Q  v1 v2 v3 v4 v5 M6 1 v4 v3 v2 v1)) ∧ (r5 = 0 → Q (-1) M6)) M4 v5 0 1)) M2 v4 1 99)) M v1 v2 v3
def wX4_buffer_77 (Q : Int32 → MM → Prop) (K41 : MM → Int32 → Int32 → Int32 → Prop) (v1 : Int32) (v2 : Int32) (v3 : Int32) (v4 : Int32) (M : MM) (v5 : Int32) (v6 : Int32) (v7 : Int32) : Prop :=
  K41 M v5 v6 (v7 + 1)
def wX4_buffer_41 (Q : Int32 → MM → Prop)  (v1 : Int32) (v2 : Int32) (v3 : Int32) (v4 : Int32) : Nat → MM → Int32 → Int32 → Int32 → Prop
  | 0, _, _, _, _ => False
  | n + 1, M, v5, v6, v7 => (v1 < v7 → (¬ v4 = 0 → Q v6 M) ∧ (v4 = 0 → Q v5 M)) ∧ (¬ v1 < v7 → wX2_streamed (fun r7 M8 => (v6 ≤ r7 → wX4_buffer_77 Q (fun M v5 v6 v7 => wX4_buffer_41 Q  v1 v2 v3 v4 n M v5 v6 v7) v1 v2 v3 v4 M8 v5 v6 v7) ∧ (¬ v6 ≤ r7 → wX4_buffer_77 Q (fun M v5 v6 v7 => wX4_buffer_41 Q  v1 v2 v3 v4 n M v5 v6 v7) v1 v2 v3 v4 M8 v7 r7 v7)) M 1 v1 v2 v3 v7 0)
def wX4_buffer (Q : Int32 → MM → Prop) (M : MM) (v1 : Int32) (v2 : Int32) (v3 : Int32) (v4 : Int32) : Prop :=
  wX4_isStream (fun r1 M2 => (r1 = 0 → Q (-1) M2) ∧ (¬ r1 = 0 → wX4_isBetween (fun r3 M4 => (¬ r3 = 0 → wX2_streamed (fun r5 M6 => ∃ m, wX4_buffer_41 Q  v1 v2 v3 v4 m M6 1 r5 2) M4 1 v1 v2 v3 1 0) ∧ (r3 = 0 → Q (-1) M4)) M2 v4 0 1)) M v1 v2 v3
def wX4_saw (Q : Int32 → MM → Prop) (M : MM) (v1 : Int32) (v2 : Int32) : Prop :=
  wX4_isBetween (fun r1 M2 => (r1 = 0 → Q (-1) M2) ∧ (¬ r1 = 0 → wX4_isBetween (fun r3 M4 => (¬ r3 = 0 → ((M4 1 13) < 12 → wX2_addSeen (fun r5 M6 => Q r5 M6) M4 1 v1 v2) ∧ (¬ (M4 1 13) < 12 → Q (-3) M4)) ∧ (r3 = 0 → Q (-1) M4)) M2 v2 0 9999)) M v1 0 999
def wX4_forget (Q : Int32 → MM → Prop) (M : MM)  : Prop :=
  ∀ M1 : MM, M1 = mset M 1 13 0 → Q (M 1 13) M1
def wX4_fits_87 (Q : Int32 → MM → Prop) (K21 : MM → Int32 → Int32 → Prop) (K41 : MM → Int32 → Int32 → Int32 → Prop) (v1 : Int32) (M : MM) (v2 : Int32) (v3 : Int32) (v4 : Int32) : Prop :=
  K41 M v2 v3 (v4 + 1)
def wX4_fits_41 (Q : Int32 → MM → Prop) (K21 : MM → Int32 → Int32 → Prop) (v1 : Int32) : Nat → MM → Int32 → Int32 → Int32 → Prop
  | 0, _, _, _, _ => False
  | n + 1, M, v2, v3, v4 => wX4_cell_s (fun r9 M10 => (r9 < v4 → K21 M10 v2 (v3 + 1)) ∧ (¬ r9 < v4 → wX2_canBe (fun r11 M12 => (¬ r11 = 0 → (¬ v1 = 1 → (¬ v1 = 2 → wX4_fits_87 Q K21 (fun M v2 v3 v4 => wX4_fits_41 Q K21 v1 n M v2 v3 v4) v1 M12 (v2 + 1) v3 v4) ∧ (v1 = 2 → Q v4 M12)) ∧ (v1 = 1 → Q v3 M12)) ∧ (r11 = 0 → wX4_fits_87 Q K21 (fun M v2 v3 v4 => wX4_fits_41 Q K21 v1 n M v2 v3 v4) v1 M12 v2 v3 v4)) M10 1 v3 v4)) M 1 2
def wX4_fits_21 (Q : Int32 → MM → Prop)  (v1 : Int32) : Nat → MM → Int32 → Int32 → Prop
  | 0, _, _, _ => False
  | n + 1, M, v2, v3 => wX4_cell_s (fun r5 M6 => (r5 < v3 → (¬ v1 = 0 → Q (-4) M6) ∧ (v1 = 0 → Q v2 M6)) ∧ (¬ r5 < v3 → wX4_cell_s (fun r7 M8 => ∃ m, wX4_fits_41 Q (fun M v2 v3 => wX4_fits_21 Q  v1 n M v2 v3) v1 m M8 v2 v3 r7) M6 0 2)) M 1 1
def wX4_fits (Q : Int32 → MM → Prop) (M : MM) (v1 : Int32) : Prop :=
  wX4_isBetween (fun r1 M2 => (¬ r1 = 0 → wX4_cell_s (fun r3 M4 => ∃ m, wX4_fits_21 Q  v1 m M4 0 r3) M2 0 1) ∧ (r1 = 0 → Q (-1) M2)) M v1 0 2
def wX4_imageNumbered (Q : Nat → MM → Prop) (M : MM) (v1 : Int32) : Prop :=
  (¬ v1 = 0 → Q 19 M) ∧ (v1 = 0 → Q 10 M)
def wX4_keep (Q : Int32 → MM → Prop) (M : MM) (v1 : Int32) : Prop :=
  wX4_isBetween (fun r1 M2 => (¬ r1 = 0 → ∀ x3 : Int32, x3 = (((M2 0 11) >>> (v1 &&& 31)) &&& (1 : Int32)) → wX4_imageNumbered (fun r4 M5 => tpB r4 ∧ (wX2_becomes (fun M6 => ∀ M7 : MM, M7 = mset M6 0 11 ((M6 0 11) ||| ((1 : Int32) <<< (v1 &&& 31))) → Q x3 M7) M5 r4 1)) M2 v1) ∧ (r1 = 0 → Q (-1) M2)) M v1 0 1
def wX4_back (Q : Int32 → MM → Prop) (M : MM) (v1 : Int32) : Prop :=
  wX4_isBetween (fun r1 M2 => (¬ r1 = 0 → (¬ (((M2 0 11) >>> (v1 &&& 31)) &&& (1 : Int32)) = 0 → wX4_imageNumbered (fun r3 M4 => tpB r3 ∧ (wX2_becomes (fun M5 => Q (M5 1 8) M5) M4 1 r3)) M2 v1) ∧ ((((M2 0 11) >>> (v1 &&& 31)) &&& (1 : Int32)) = 0 → Q (-2) M2)) ∧ (r1 = 0 → Q (-1) M2)) M v1 0 1
def wX4_sheetNumbered (Q : Nat → MM → Prop) (M : MM) (v1 : Int32) : Prop :=
  (v1 = 0 → Q 44 M) ∧ (¬ v1 = 0 → (v1 = 1 → Q 46 M) ∧ (¬ v1 = 1 → (v1 = 2 → Q 48 M) ∧ (¬ v1 = 2 → Q 50 M)))
def wX4_sheet (Q : Int32 → MM → Prop) (M : MM) (v1 : Int32) (v2 : Int32) (v3 : Int32) : Prop :=
  wX4_isBetween (fun r1 M2 => (r1 = 0 → Q (-1) M2) ∧ (¬ r1 = 0 → wX4_isBetween (fun r3 M4 => (r3 = 0 → Q (-1) M4) ∧ (¬ r3 = 0 → (v3 ≤ 40 → (0 ≤ v3 → wX4_sheetNumbered (fun r5 M6 => shB r5 ∧ (wX1_makeNew (fun M7 => Q 1 M7) M6 r5 v2 v3)) M4 v1) ∧ (¬ 0 ≤ v3 → Q (-14) M4)) ∧ (¬ v3 ≤ 40 → Q (-1) M4))) M2 v2 0 2)) M v1 0 3
def wX4_lay (Q : Int32 → MM → Prop) (M : MM) (v1 : Int32) (v2 : Int32) (v3 : Int32) : Prop :=
  wX4_isBetween (fun r1 M2 => (¬ r1 = 0 → wX4_sheetNumbered (fun r3 M4 => shB r3 ∧ (wX1_faultOf (fun r5 M6 => (r5 = 0 → wX1_put (fun M7 => Q 1 M7) M6 r3 v2 v3) ∧ (¬ r5 = 0 → Q (((-10) : Int32) - r5) M6)) M4 r3 (M4 r3 1) v2)) M2 v1) ∧ (r1 = 0 → Q (-1) M2)) M v1 0 3
def wX4_read_122 (Q : Int32 → MM → Prop)  (v1 : Int32) (v2 : Int32) (v3 : Int32) (v4 : Int32) (M : MM) (v6 : Int32) (v7 : Int32) (v10 : Int32) : Prop :=
  ∀ M19 : MM, M19 = mset M 1 11 v6 → (v10 = 0 → Q (((-20) : Int32) - v7) M19) ∧ (¬ v10 = 0 → Q (-3) M19)
def wX4_read_50 (Q : Int32 → MM → Prop)  (v1 : Int32) (v2 : Int32) (v3 : Int32) (v4 : Int32) : Nat → MM → Nat → Int32 → Int32 → Prop
  | 0, _, _, _, _ => False
  | n + 1, M, o5, v6, v7 => (v4 ≤ v7 → ∀ M9 : MM, M9 = mset M 0 10 0 → Q v4 M9) ∧ (¬ v4 ≤ v7 → wX1_faultOf (fun r10 M11 => (r10 = 0 → wX1_cellAt (fun r12 M13 => wX4_isBetween (fun r14 M15 => (r14 = 0 → wX4_read_122 Q  v1 v2 v3 v4 M15 v6 v7 r14) ∧ (¬ r14 = 0 → ((M15 1 11) < 12 → wX2_typeOne (fun r16 M17 => wX4_read_50 Q  v1 v2 v3 v4 n M17 o5 v6 (v7 + 1)) M15 1 r12) ∧ (¬ (M15 1 11) < 12 → wX4_read_122 Q  v1 v2 v3 v4 M15 v6 v7 r14))) M13 r12 0 255) M11 o5 (v3 + v7)) ∧ (¬ r10 = 0 → ∀ M18 : MM, M18 = mset M11 0 10 r10 → Q v7 M18)) M o5 v2 (v3 + v7))
def wX4_read (Q : Int32 → MM → Prop) (M : MM) (v1 : Int32) (v2 : Int32) (v3 : Int32) (v4 : Int32) : Prop :=
  wX4_isBetween (fun r1 M2 => (r1 = 0 → Q (-1) M2) ∧ (¬ r1 = 0 → wX4_isBetween (fun r3 M4 => (r3 = 0 → Q (-1) M4) ∧ (¬ r3 = 0 → wX4_isBetween (fun r5 M6 => (¬ r5 = 0 → wX4_sheetNumbered (fun r7 M8 => shB r7 ∧ (∃ m, wX4_read_50 Q  v1 v2 v3 v4 m M8 r7 (M8 1 11) 0)) M6 v1) ∧ (r5 = 0 → Q (-1) M6)) M4 v4 0 12)) M2 v2 0 2)) M v1 0 3
def wX4_torn (Q : Int32 → MM → Prop) (M : MM)  : Prop :=
  Q (M 0 10) M
def wX4_count (Q : Int32 → MM → Prop) (M : MM) (v1 : Int32) : Prop :=
  (v1 = 0 → Q (M 1 8) M) ∧ (¬ v1 = 0 → (v1 = 1 → wX2_markCount (fun r1 M2 => Q r1 M2) M 1) ∧ (¬ v1 = 1 → (v1 = 2 → wX2_byteCount (fun r3 M4 => Q r3 M4) M 1) ∧ (¬ v1 = 2 → (v1 = 3 → Q (M 1 13) M) ∧ (¬ v1 = 3 → (v1 = 4 → wJ6_bitCount_0f7a4 (fun r5 M6 => Q r5 M6) M (M 0 11)) ∧ (¬ v1 = 4 → (v1 = 5 → Q (M 37 2) M) ∧ (¬ v1 = 5 → (v1 = 6 → wX1_isNothing (fun r7 M8 => (r7 = 0 → Q (M8 44 2) M8) ∧ (¬ r7 = 0 → Q (-4) M8)) M 44) ∧ (¬ v1 = 6 → Q (-1) M)))))))
def wX5_in_17 (Q : Int32 → MM → Prop)  (v0 : Int64) (v2 : Int64) (v4 : Int64) (M : MM)  : Prop :=
  Q 0 M
def wX5_in (Q : Int32 → MM → Prop) (M : MM) (v0 : Int64) (v2 : Int64) (v4 : Int64) : Prop :=
  ((lg_cmp v0 v2) < 0 → wX5_in_17 Q  v0 v2 v4 M) ∧ (¬ (lg_cmp v0 v2) < 0 → (0 < (lg_cmp v0 v4) → wX5_in_17 Q  v0 v2 v4 M) ∧ (¬ 0 < (lg_cmp v0 v4) → Q 1 M))
def wX5_flag (Q : Int32 → MM → Prop) (M : MM) (v0 : Int32) : Prop :=
  (v0 = 0 → Q 0 M) ∧ (¬ v0 = 0 → Q 1 M)
def wX5_less (Q : Int32 → MM → Prop) (M : MM) (v0 : Int32) (v1 : Int32) : Prop :=
  (v1 ≤ v0 → Q v1 M) ∧ (¬ v1 ≤ v0 → Q v0 M)
def wX5_odd_4 (Q : Int32 → MM → Prop)  (v0 : Int32) : Nat → MM → Int32 → Int32 → Prop
  | 0, _, _, _ => False
  | n + 1, M, v1, v2 => (9 ≤ v2 → Q (v1 - v1 / 2 * 2) M) ∧ (¬ 9 ≤ v2 → ∀ x1 : Int32, x1 = (v1 + ((v0 >>> (v2 &&& 31)) &&& (1 : Int32))) → wX5_odd_4 Q  v0 n M x1 (v2 + 1))
def wX5_odd (Q : Int32 → MM → Prop) (M : MM) (v0 : Int32) : Prop :=
  ∃ m, wX5_odd_4 Q  v0 m M 0 0
def wX5_firstDraft (Q : MM → Prop) (M : MM)  : Prop :=
  ∀ M1 : MM, M1 = mset M 56 0 1000 → ∀ M2 : MM, M2 = mset M1 56 1 20 → ∀ M3 : MM, M3 = mset M2 56 2 2 → ∀ M4 : MM, M4 = mset M3 56 3 10 → ∀ M5 : MM, M5 = mset M4 56 4 5 → ∀ M6 : MM, M6 = mset M5 56 5 3 → ∀ M7 : MM, M7 = mset M6 56 6 6 → ∀ M8 : MM, M8 = mset M7 56 7 2 → ∀ M9 : MM, M9 = mset M8 56 8 20 → ∀ M10 : MM, M10 = mset M9 52 4 0 → ∀ M11 : MM, M11 = mset M10 52 7 0 → Q M11
def wX5_longOf (Q : Int32 → MM → Prop) (M : MM) (v1 : Int32) : Prop :=
  (¬ v1 = 0 → ¬ (M 55 7) = 0 ∧ (Q ((v1 + (M 55 7)) / (M 55 7)) M)) ∧ (v1 = 0 → Q 1 M)
def wX5_draftEnd_55 (Q : Int32 → MM → Prop) (K4 : MM → Int32 → Int32 → Prop)  (M : MM) (v2 : Int32) (p0 : Int32) (p1 : Int32) (p2 : Int32) : Prop :=
  ∀ x1 : Int32, x1 = (p2 + (p1 + p0)) → K4 M x1 (v2 + 1)
def wX5_draftEnd_4 (Q : Int32 → MM → Prop)   : Nat → MM → Int32 → Int32 → Prop
  | 0, _, _, _ => False
  | n + 1, M, v1, v2 => ((M 52 4) ≤ v2 → Q v1 M) ∧ (¬ (M 52 4) ≤ v2 → vp_in v2 (alen 57) ∧ ((¬ (M 57 v2.toNatClampNeg) = 0 → vp_in v2 (alen 57) ∧ (¬ (M 56 7) = 0 ∧ (wX5_draftEnd_55 Q (fun M v1 v2 => wX5_draftEnd_4 Q   n M v1 v2)  M v2 (((M 57 v2.toNatClampNeg) + (M 56 7)) / (M 56 7)) (M 56 6) v1))) ∧ ((M 57 v2.toNatClampNeg) = 0 → wX5_draftEnd_55 Q (fun M v1 v2 => wX5_draftEnd_4 Q   n M v1 v2)  M v2 1 (M 56 6) v1)))
def wX5_draftEnd (Q : Int32 → MM → Prop) (M : MM)  : Prop :=
  ∃ m, wX5_draftEnd_4 Q   m M 0 0
def wX5_endOf (Q : Int32 → MM → Prop) (M : MM) (v1 : Int32) : Prop :=
  vp_in ((1 : Int32) + v1) (alen 53) ∧ (vp_in ((13 : Int32) + v1) (alen 53) ∧ (wX5_longOf (fun r1 M2 => Q ((M 53 ((1 : Int32) + v1).toNatClampNeg) + r1) M2) M (M 53 ((13 : Int32) + v1).toNatClampNeg)))
def wX5_beginOf (Q : Int32 → MM → Prop) (M : MM) (v1 : Int32) : Prop :=
  (¬ v1 = 0 → wX5_endOf (fun r1 M2 => Q ((M 55 6) + r1) M2) M (v1 - (1 : Int32))) ∧ (v1 = 0 → Q ((M 55 6) + (0 : Int32)) M)
def wX5_lays_68 (Q : MM → Prop) (K35 : MM → Int32 → Int32 → Int32 → Prop) (v1 : Int32) (M : MM) (v2 : Int32) (v3 : Int32) (v4 : Int32) (p0 : Int32) (p1 : Int32) : Prop :=
  vp_in (((25 : Int32) + ((13 : Int32) * v2)) + v4) (alen 53) ∧ (∀ M9 : MM, M9 = mset M 53 (((25 : Int32) + ((13 : Int32) * v2)) + v4).toNatClampNeg (p1 ||| p0) → vp_in v4 (alen 60) ∧ (vp_in (((181 : Int32) + ((12 : Int32) * v2)) + v4) (alen 53) ∧ (∀ M10 : MM, M10 = mset M9 53 (((181 : Int32) + ((12 : Int32) * v2)) + v4).toNatClampNeg (M9 60 v4.toNatClampNeg) → ∀ x11 : Int32, x11 = (v3 ^^^ (p1 ||| p0)) → K35 M10 v2 x11 (v4 + 1))))
def wX5_lays_35 (Q : MM → Prop)  (v1 : Int32) : Nat → MM → Int32 → Int32 → Int32 → Prop
  | 0, _, _, _, _ => False
  | n + 1, M, v2, v3, v4 => (v1 ≤ v4 → vp_in (((25 : Int32) + ((13 : Int32) * v2)) + v1) (alen 53) ∧ (∀ M5 : MM, M5 = mset M 53 (((25 : Int32) + ((13 : Int32) * v2)) + v1).toNatClampNeg v3 → ∀ M6 : MM, M6 = mset M5 53 0 (v2 + (1 : Int32)) → Q M6)) ∧ (¬ v1 ≤ v4 → vp_in v4 (alen 60) ∧ (vp_in v4 (alen 60) ∧ (wX5_odd (fun r7 M8 => (¬ r7 = 0 → wX5_lays_68 Q (fun M v2 v3 v4 => wX5_lays_35 Q  v1 n M v2 v3 v4) v1 M8 v2 v3 v4 0 (M 60 v4.toNatClampNeg)) ∧ (r7 = 0 → wX5_lays_68 Q (fun M v2 v3 v4 => wX5_lays_35 Q  v1 n M v2 v3 v4) v1 M8 v2 v3 v4 256 (M 60 v4.toNatClampNeg))) M (M 60 v4.toNatClampNeg))))
def wX5_lays (Q : MM → Prop) (M : MM) (v1 : Int32) : Prop :=
  wX5_beginOf (fun r1 M2 => vp_in ((1 : Int32) + (M 53 0)) (alen 53) ∧ (∀ M3 : MM, M3 = mset M2 53 ((1 : Int32) + (M 53 0)).toNatClampNeg r1 → vp_in ((13 : Int32) + (M 53 0)) (alen 53) ∧ (∀ M4 : MM, M4 = mset M3 53 ((13 : Int32) + (M 53 0)).toNatClampNeg v1 → ∃ m, wX5_lays_35 Q  v1 m M4 (M 53 0) 0 0))) M (M 53 0)
def wX5_keepDraft_98 (Q : MM → Prop) (K88 : MM → Int32 → Prop)  : Nat → MM → Int32 → Int32 → Prop
  | 0, _, _, _ => False
  | n + 1, M, v1, v2 => vp_in v1 (alen 57) ∧ (((M 57 v1.toNatClampNeg) ≤ v2 → vp_in v1 (alen 57) ∧ (wX5_lays (fun M7 => K88 M7 (v1 + 1)) M (M 57 v1.toNatClampNeg))) ∧ (¬ (M 57 v1.toNatClampNeg) ≤ v2 → vp_in (((12 : Int32) * v1) + v2) (alen 58) ∧ (vp_in v2 (alen 60) ∧ (∀ M8 : MM, M8 = mset M 60 v2.toNatClampNeg (M 58 (((12 : Int32) * v1) + v2).toNatClampNeg) → wX5_keepDraft_98 Q K88  n M8 v1 (v2 + 1)))))
def wX5_keepDraft_88 (Q : MM → Prop)   : Nat → MM → Int32 → Prop
  | 0, _, _ => False
  | n + 1, M, v1 => ((M 52 4) ≤ v1 → Q M) ∧ (¬ (M 52 4) ≤ v1 → ∃ m, wX5_keepDraft_98 Q (fun M v1 => wX5_keepDraft_88 Q   n M v1)  m M v1 0)
def wX5_keepDraft_28 (Q : MM → Prop)   : Nat → MM → Int32 → Prop
  | 0, _, _ => False
  | n + 1, M, v1 => (400 ≤ v1 → ∀ M2 : MM, M2 = mset M 53 340 (-4) → ∀ M3 : MM, M3 = mset M2 53 366 (M2 55 0) → ∀ M4 : MM, M4 = mset M3 54 0 0 → ∀ M5 : MM, M5 = mset M4 54 1 0 → ∃ m, wX5_keepDraft_88 Q   m M5 0) ∧ (¬ 400 ≤ v1 → vp_in v1 (alen 53) ∧ (∀ M6 : MM, M6 = mset M 53 v1.toNatClampNeg 0 → wX5_keepDraft_28 Q   n M6 (v1 + 1)))
def wX5_keepDraft_2 (Q : MM → Prop)   : Nat → MM → Int32 → Prop
  | 0, _, _ => False
  | n + 1, M, v1 => (9 ≤ v1 → ∃ m, wX5_keepDraft_28 Q   m M 0) ∧ (¬ 9 ≤ v1 → vp_in v1 (alen 56) ∧ (vp_in v1 (alen 55) ∧ (∀ M1 : MM, M1 = mset M 55 v1.toNatClampNeg (M 56 v1.toNatClampNeg) → wX5_keepDraft_2 Q   n M1 (v1 + 1))))
def wX5_keepDraft (Q : MM → Prop) (M : MM)  : Prop :=
  ∃ m, wX5_keepDraft_2 Q   m M 0
def wX5_feed_19 (Q : Int32 → MM → Prop)  (v1 : Int64) : Nat → MM → Int32 → Prop
  | 0, _, _ => False
  | n + 1, M, v3 => (v3 < 0 → Q (M 52 9) M) ∧ (¬ v3 < 0 → vp_in (M 52 9) (alen 59) ∧ (∀ M1 : MM, M1 = mset M 59 (M 52 9).toNatClampNeg (((v1 >>> (v3.toInt64 &&& 63)) &&& (255 : Int64)).toInt32) → ∀ M2 : MM, M2 = mset M1 52 9 ((M1 52 9) + (1 : Int32)) → wX5_feed_19 Q  v1 n M2 (v3 + (-8))))
def wX5_feed (Q : Int32 → MM → Prop) (M : MM) (v1 : Int64) : Prop :=
  (((M 52 9) + (8 : Int32)) ≤ 400 → ∃ m, wX5_feed_19 Q  v1 m M 56) ∧ (¬ ((M 52 9) + (8 : Int32)) ≤ 400 → Q (-3) M)
def wX5_end (Q : Int32 → MM → Prop) (M : MM) (v1 : Int32) : Prop :=
  wX5_in (fun r1 M2 => (¬ r1 = 0 → ∀ M3 : MM, M3 = mset M2 52 9 v1 → Q (M2 52 9) M3) ∧ (r1 = 0 → Q (-1) M2)) M (v1.toInt64) 0 ((M 52 9).toInt64)
def wX5_needs (Q : MM → Prop) (M : MM) (v1 : Int32) (v2 : Int32) : Prop :=
  (¬ v1 = 0 → Q M) ∧ (v1 = 0 → (¬ (M 52 14) = 0 → Q M) ∧ ((M 52 14) = 0 → ∀ M1 : MM, M1 = mset M 52 14 v2 → ∀ M2 : MM, M2 = mset M1 52 15 (M1 52 11) → Q M2))
def wX5_look (Q : Int32 → MM → Prop) (M : MM) (v1 : Int32) : Prop :=
  ((M 52 9) ≤ v1 → Q (-1) M) ∧ (¬ (M 52 9) ≤ v1 → vp_in v1 (alen 59) ∧ (Q (M 59 v1.toNatClampNeg) M))
def wX5_is_78 (Q : Int32 → MM → Prop)  (v1 : Int32) (v2 : Int32) (v3 : Int32) (v4 : Int32) (v5 : Int32) (M : MM)  : Prop :=
  Q 0 M
def wX5_is_74 (Q : Int32 → MM → Prop)  (v1 : Int32) (v2 : Int32) (v3 : Int32) (v4 : Int32) (v5 : Int32) (M : MM)  : Prop :=
  Q 1 M
def wX5_is (Q : Int32 → MM → Prop) (M : MM) (v1 : Int32) (v2 : Int32) (v3 : Int32) (v4 : Int32) (v5 : Int32) : Prop :=
  (¬ ((M 52 10) - (M 52 11)) = v1 → wX5_is_78 Q  v1 v2 v3 v4 v5 M) ∧ (((M 52 10) - (M 52 11)) = v1 → wX5_look (fun r1 M2 => (¬ r1 = v2 → wX5_is_78 Q  v1 v2 v3 v4 v5 M2) ∧ (r1 = v2 → wX5_look (fun r3 M4 => (¬ r3 = v3 → wX5_is_78 Q  v1 v2 v3 v4 v5 M4) ∧ (r3 = v3 → wX5_look (fun r5 M6 => (¬ r5 = v4 → wX5_is_78 Q  v1 v2 v3 v4 v5 M6) ∧ (r5 = v4 → (v1 < 4 → wX5_is_74 Q  v1 v2 v3 v4 v5 M6) ∧ (¬ v1 < 4 → wX5_look (fun r7 M8 => (¬ r7 = v5 → wX5_is_78 Q  v1 v2 v3 v4 v5 M8) ∧ (r7 = v5 → wX5_is_74 Q  v1 v2 v3 v4 v5 M8)) M6 ((M6 52 11) + (3 : Int32))))) M4 ((M4 52 11) + (2 : Int32)))) M2 ((M2 52 11) + (1 : Int32)))) M (M 52 11))
def wX5_nameNow_275 (Q : Int32 → MM → Prop)   (M : MM)  : Prop :=
  wX5_is (fun r33 M34 => (r33 = 0 → Q (-4) M34) ∧ (¬ r33 = 0 → Q 11 M34)) M 4 109 97 114 107
def wX5_nameNow_239 (Q : Int32 → MM → Prop)   (M : MM)  : Prop :=
  wX5_is (fun r29 M30 => (r29 = 0 → wX5_nameNow_275 Q   M30) ∧ (¬ r29 = 0 → wX5_look (fun r31 M32 => (¬ r31 = 107 → wX5_nameNow_275 Q   M32) ∧ (r31 = 107 → Q 10 M32)) M30 ((M30 52 11) + (4 : Int32)))) M 5 98 108 111 99
def wX5_nameNow_205 (Q : Int32 → MM → Prop)   (M : MM)  : Prop :=
  wX5_is (fun r25 M26 => (r25 = 0 → wX5_nameNow_239 Q   M26) ∧ (¬ r25 = 0 → wX5_look (fun r27 M28 => (¬ r27 = 104 → wX5_nameNow_239 Q   M28) ∧ (r27 = 104 → Q 8 M28)) M26 ((M26 52 11) + (4 : Int32)))) M 5 104 105 116 99
def wX5_nameNow_99 (Q : Int32 → MM → Prop)   (M : MM)  : Prop :=
  wX5_is (fun r13 M14 => (r13 = 0 → wX5_is (fun r15 M16 => (r15 = 0 → wX5_is (fun r17 M18 => (r17 = 0 → wX5_is (fun r19 M20 => (r19 = 0 → wX5_is (fun r21 M22 => (r21 = 0 → wX5_nameNow_205 Q   M22) ∧ (¬ r21 = 0 → wX5_look (fun r23 M24 => (¬ r23 = 101 → wX5_nameNow_205 Q   M24) ∧ (r23 = 101 → Q 7 M24)) M22 ((M22 52 11) + (4 : Int32)))) M20 5 100 101 110 115) ∧ (¬ r19 = 0 → Q 6 M20)) M18 3 103 97 112 0) ∧ (¬ r17 = 0 → Q 5 M18)) M16 4 114 97 109 112) ∧ (¬ r15 = 0 → Q 4 M16)) M14 4 119 105 110 100) ∧ (¬ r13 = 0 → Q 3 M14)) M 4 112 108 97 121
def wX5_nameNow_49 (Q : Int32 → MM → Prop)   (M : MM)  : Prop :=
  wX5_is (fun r7 M8 => (r7 = 0 → wX5_is (fun r9 M10 => (r9 = 0 → wX5_nameNow_99 Q   M10) ∧ (¬ r9 = 0 → wX5_look (fun r11 M12 => (¬ r11 = 107 → wX5_nameNow_99 Q   M12) ∧ (r11 = 107 → Q 2 M12)) M10 ((M10 52 11) + (4 : Int32)))) M8 5 116 104 105 99) ∧ (¬ r7 = 0 → Q 1 M8)) M 3 104 117 98 0
def wX5_nameNow (Q : Int32 → MM → Prop) (M : MM)  : Prop :=
  wX5_is (fun r1 M2 => (r1 = 0 → wX5_nameNow_49 Q   M2) ∧ (¬ r1 = 0 → wX5_look (fun r3 M4 => (¬ r3 = 116 → wX5_nameNow_49 Q   M4) ∧ (r3 = 116 → wX5_look (fun r5 M6 => (¬ r5 = 104 → wX5_nameNow_49 Q   M6) ∧ (r5 = 104 → Q 0 M6)) M4 ((M4 52 11) + (5 : Int32)))) M2 ((M2 52 11) + (4 : Int32)))) M 6 108 101 110 103
def wX5_next_260 (Q : MM → Prop)   (M : MM) (p0 : Int32) : Prop :=
  wX5_needs (fun M27 => ∀ M28 : MM, M28 = mset M27 52 10 ((M27 52 10) + (1 : Int32)) → Q M28) M p0 1
def wX5_next_236 (Q : MM → Prop)   (M : MM) (p0 : Int32) : Prop :=
  wX5_needs (fun M31 => Q M31) M p0 1
def wX5_next_201 (Q : MM → Prop) (K140 : MM → Prop)  (M : MM) (p0 : Int32) : Prop :=
  ∀ M29 : MM, M29 = mset M 52 13 p0 → ∀ M30 : MM, M30 = mset M29 52 10 ((M29 52 10) + (1 : Int32)) → K140 M30
def wX5_next_140 (Q : MM → Prop)   : Nat → MM → Prop
  | 0, _ => False
  | n + 1, M => wX5_look (fun r21 M22 => wX5_in (fun r23 M24 => (r23 = 0 → (4 < ((M24 52 10) - (M24 52 11)) → wX5_next_236 Q   M24 0) ∧ (¬ 4 < ((M24 52 10) - (M24 52 11)) → wX5_next_236 Q   M24 1)) ∧ (¬ r23 = 0 → (4 ≤ ((M24 52 10) - (M24 52 11)) → wX5_next_201 Q (fun M => wX5_next_140 Q   n M)  M24 (M24 52 13)) ∧ (¬ 4 ≤ ((M24 52 10) - (M24 52 11)) → wX5_look (fun r25 M26 => wX5_next_201 Q (fun M => wX5_next_140 Q   n M)  M26 ((((10 : Int32) * (M24 52 13)) + r25) - (48 : Int32))) M24 (M24 52 10)))) M22 (r21.toInt64) 48 57) M (M 52 10)
def wX5_next_82 (Q : MM → Prop)   : Nat → MM → Prop
  | 0, _ => False
  | n + 1, M => wX5_look (fun r16 M17 => wX5_in (fun r18 M19 => (r18 = 0 → Q M19) ∧ (¬ r18 = 0 → ∀ M20 : MM, M20 = mset M19 52 10 ((M19 52 10) + (1 : Int32)) → wX5_next_82 Q   n M20)) M17 (r16.toInt64) 97 122) M (M 52 10)
def wX5_next_8 (Q : MM → Prop)   : Nat → MM → Prop
  | 0, _ => False
  | n + 1, M => wX5_look (fun r1 M2 => (¬ r1 = 32 → ∀ M3 : MM, M3 = mset M2 52 11 (M2 52 10) → wX5_look (fun r4 M5 => (0 ≤ r4 → wX5_in (fun r6 M7 => (r6 = 0 → wX5_in (fun r8 M9 => (r8 = 0 → ∀ M10 : MM, M10 = mset M9 52 12 3 → (¬ r4 = 59 → wX5_next_260 Q   M10 0) ∧ (r4 = 59 → wX5_next_260 Q   M10 1)) ∧ (¬ r8 = 0 → ∀ M11 : MM, M11 = mset M9 52 12 2 → ∀ M12 : MM, M12 = mset M11 52 13 0 → ∃ m, wX5_next_140 Q   m M12)) M7 (r4.toInt64) 48 57) ∧ (¬ r6 = 0 → ∀ M13 : MM, M13 = mset M7 52 12 1 → ∃ m, wX5_next_82 Q   m M13)) M5 (r4.toInt64) 97 122) ∧ (¬ 0 ≤ r4 → ∀ M14 : MM, M14 = mset M5 52 12 0 → Q M14)) M3 (M3 52 10)) ∧ (r1 = 32 → ∀ M15 : MM, M15 = mset M2 52 10 ((M2 52 10) + (1 : Int32)) → wX5_next_8 Q   n M15)) M (M 52 10)
def wX5_next (Q : MM → Prop) (M : MM)  : Prop :=
  ((M 52 14) ≤ 0 → ∃ m, wX5_next_8 Q   m M) ∧ (¬ (M 52 14) ≤ 0 → Q M)
def wX5_readNumber_49 (Q : Int32 → MM → Prop)  (v1 : Int32) (v2 : Int32) (M : MM)  : Prop :=
  wX5_next (fun M5 => Q (M 52 13) M5) M
def wX5_readNumber_25 (Q : Int32 → MM → Prop)  (v1 : Int32) (v2 : Int32) (M : MM)  : Prop :=
  (¬ (M 52 14) = 0 → wX5_readNumber_49 Q  v1 v2 M) ∧ ((M 52 14) = 0 → wX5_in (fun r2 M3 => wX5_needs (fun M4 => wX5_readNumber_49 Q  v1 v2 M4) M3 r2 3) M ((M 52 13).toInt64) (v1.toInt64) (v2.toInt64))
def wX5_readNumber_21 (Q : Int32 → MM → Prop)  (v1 : Int32) (v2 : Int32) (M : MM) (p0 : Int32) : Prop :=
  wX5_needs (fun M1 => wX5_readNumber_25 Q  v1 v2 M1) M p0 2
def wX5_readNumber (Q : Int32 → MM → Prop) (M : MM) (v1 : Int32) (v2 : Int32) : Prop :=
  (¬ (M 52 14) = 0 → wX5_readNumber_25 Q  v1 v2 M) ∧ ((M 52 14) = 0 → (¬ (M 52 12) = 2 → wX5_readNumber_21 Q  v1 v2 M 0) ∧ ((M 52 12) = 2 → wX5_readNumber_21 Q  v1 v2 M 1))
def wX5_readBlock_82 (Q : MM → Prop)   (M : MM) (v1 : Int32) : Prop :=
  (¬ (M 52 14) = 0 → Q M) ∧ ((M 52 14) = 0 → vp_in (M 52 4) (alen 57) ∧ (∀ M5 : MM, M5 = mset M 57 (M 52 4).toNatClampNeg v1 → ∀ M6 : MM, M6 = mset M5 52 4 ((M5 52 4) + (1 : Int32)) → Q M6))
def wX5_readBlock_78 (Q : MM → Prop) (K4 : MM → Int32 → Int32 → Prop)  (M : MM) (v1 : Int32) (p0 : Int32) : Prop :=
  K4 M v1 p0
def wX5_readBlock_65 (Q : MM → Prop) (K4 : MM → Int32 → Int32 → Prop)  (M : MM) (v1 : Int32) : Prop :=
  (¬ (M 52 12) = 2 → wX5_readBlock_78 Q K4  M v1 0) ∧ ((M 52 12) = 2 → wX5_readBlock_78 Q K4  M v1 1)
def wX5_readBlock_27 (Q : MM → Prop) (K4 : MM → Int32 → Int32 → Prop)  (M : MM) (v1 : Int32) (p0 : Int32) : Prop :=
  wX5_needs (fun M1 => wX5_readNumber (fun r2 M3 => (¬ (M3 52 14) = 0 → wX5_readBlock_65 Q K4  M3 v1) ∧ ((M3 52 14) = 0 → vp_in (((12 : Int32) * (M3 52 4)) + v1) (alen 58) ∧ (∀ M4 : MM, M4 = mset M3 58 (((12 : Int32) * (M3 52 4)) + v1).toNatClampNeg r2 → wX5_readBlock_65 Q K4  M4 (v1 + 1)))) M1 0 255) M p0 5
def wX5_readBlock_4 (Q : MM → Prop)   : Nat → MM → Int32 → Int32 → Prop
  | 0, _, _, _ => False
  | n + 1, M, v1, v2 => (¬ (M 52 14) = 0 → wX5_readBlock_82 Q   M v1) ∧ ((M 52 14) = 0 → (v2 = 0 → wX5_readBlock_82 Q   M v1) ∧ (¬ v2 = 0 → (12 ≤ v1 → wX5_readBlock_27 Q (fun M v1 v2 => wX5_readBlock_4 Q   n M v1 v2)  M v1 0) ∧ (¬ 12 ≤ v1 → wX5_readBlock_27 Q (fun M v1 v2 => wX5_readBlock_4 Q   n M v1 v2)  M v1 1)))
def wX5_readBlock (Q : MM → Prop) (M : MM)  : Prop :=
  ∃ m, wX5_readBlock_4 Q   m M 0 1
def wX5_lowest (Q : Int32 → MM → Prop) (M : MM) (v0 : Int32) : Prop :=
  (¬ v0 = 0 → (¬ v0 = 1 → (v0 = 5 → Q 0 M) ∧ (¬ v0 = 5 → (v0 = 6 → Q 0 M) ∧ (¬ v0 = 6 → (¬ v0 = 8 → Q 1 M) ∧ (v0 = 8 → Q 0 M)))) ∧ (v0 = 1 → Q 5 M)) ∧ (v0 = 0 → Q 20 M)
def wX5_highest (Q : Int32 → MM → Prop) (M : MM) (v0 : Int32) : Prop :=
  (¬ v0 = 0 → (v0 = 2 → Q 9 M) ∧ (¬ v0 = 2 → (¬ v0 = 7 → (¬ v0 = 8 → Q 99 M) ∧ (v0 = 8 → Q 999 M)) ∧ (v0 = 7 → Q 9 M))) ∧ (v0 = 0 → Q 9999 M)
def wX5_readLine_202 (Q : MM → Prop)   (M : MM)  : Prop :=
  wX5_next (fun M19 => Q M19) M
def wX5_readLine_198 (Q : MM → Prop)   (M : MM) (p0 : Int32) : Prop :=
  wX5_needs (fun M18 => wX5_readLine_202 Q   M18) M p0 2
def wX5_readLine_177 (Q : MM → Prop)   (M : MM)  : Prop :=
  (¬ (M 52 14) = 0 → wX5_readLine_202 Q   M) ∧ ((M 52 14) = 0 → (¬ (M 52 12) = 3 → wX5_readLine_198 Q   M 0) ∧ ((M 52 12) = 3 → wX5_readLine_198 Q   M 1))
def wX5_readLine_105 (Q : MM → Prop)   (M : MM) (v1 : Int32) : Prop :=
  wX5_next (fun M7 => ((M7 52 14) ≤ 0 → (¬ v1 = 10 → (¬ v1 = 11 → wX5_lowest (fun r8 M9 => wX5_highest (fun r10 M11 => wX5_readNumber (fun r12 M13 => vp_in v1 (alen 56) ∧ (∀ M14 : MM, M14 = mset M13 56 v1.toNatClampNeg r12 → wX5_readLine_177 Q   M14)) M11 r8 r10) M9 v1) M7 v1) ∧ (v1 = 11 → vp_in (M7 52 4) (alen 57) ∧ (∀ M15 : MM, M15 = mset M7 57 (M7 52 4).toNatClampNeg 0 → ∀ M16 : MM, M16 = mset M15 52 4 ((M15 52 4) + (1 : Int32)) → wX5_readLine_177 Q   M16))) ∧ (v1 = 10 → wX5_readBlock (fun M17 => wX5_readLine_177 Q   M17) M7)) ∧ (¬ (M7 52 14) ≤ 0 → Q M7)) M
def wX5_readLine_89 (Q : MM → Prop)   (M : MM) (v1 : Int32) (p0 : Int32) : Prop :=
  wX5_needs (fun M5 => ∀ M6 : MM, M6 = mset M5 52 7 ((M5 52 7) ||| ((1 : Int32) <<< (v1 &&& 31))) → wX5_readLine_105 Q   M6 v1) M p0 4
def wX5_readLine_55 (Q : MM → Prop)   (M : MM) (v1 : Int32) (p0 : Int32) : Prop :=
  wX5_needs (fun M4 => (¬ (M4 52 14) = 0 → wX5_readLine_105 Q   M4 v1) ∧ ((M4 52 14) = 0 → (10 ≤ v1 → wX5_readLine_105 Q   M4 v1) ∧ (¬ 10 ≤ v1 → (¬ (((M4 52 7) >>> (v1 &&& 31)) &&& (1 : Int32)) = 0 → wX5_readLine_89 Q   M4 v1 0) ∧ ((((M4 52 7) >>> (v1 &&& 31)) &&& (1 : Int32)) = 0 → wX5_readLine_89 Q   M4 v1 1)))) M p0 5
def wX5_readLine_50 (Q : MM → Prop)   (M : MM) (v1 : Int32) : Prop :=
  wX5_readLine_55 Q   M v1 1
def wX5_readLine_30 (Q : MM → Prop)   (M : MM) (v1 : Int32) (p0 : Int32) : Prop :=
  wX5_needs (fun M3 => (v1 < 10 → wX5_readLine_50 Q   M3 v1) ∧ (¬ v1 < 10 → (12 ≤ (M3 52 4) → wX5_readLine_55 Q   M3 v1 0) ∧ (¬ 12 ≤ (M3 52 4) → wX5_readLine_50 Q   M3 v1))) M p0 2
def wX5_readLine_17 (Q : MM → Prop)   (M : MM) (p0 : Int32) : Prop :=
  (p0 = (-4) → wX5_readLine_30 Q   M p0 0) ∧ (¬ p0 = (-4) → wX5_readLine_30 Q   M p0 1)
def wX5_readLine (Q : MM → Prop) (M : MM)  : Prop :=
  (¬ (M 52 12) = 1 → wX5_readLine_17 Q   M (-4)) ∧ ((M 52 12) = 1 → wX5_nameNow (fun r1 M2 => wX5_readLine_17 Q   M2 r1) M)
def wX5_text_75 (Q : Int32 → MM → Prop)   (M : MM) (v1 : Int32) : Prop :=
  ∀ M9 : MM, M9 = mset M 52 9 0 → ((M9 52 14) ≤ 0 → wX5_keepDraft (fun M10 => Q v1 M10) M9) ∧ (¬ (M9 52 14) ≤ 0 → Q (((-10) : Int32) - (M9 52 15)) M9)
def wX5_text_70 (Q : Int32 → MM → Prop)   (M : MM) (v1 : Int32) (p0 : Int32) : Prop :=
  wX5_needs (fun M8 => wX5_text_75 Q   M8 v1) M p0 6
def wX5_text_44 (Q : Int32 → MM → Prop)   (M : MM) (v1 : Int32) : Prop :=
  (¬ (M 52 14) = 0 → wX5_text_75 Q   M v1) ∧ ((M 52 14) = 0 → wX5_draftEnd (fun r6 M7 => ((M7 56 0) < r6 → wX5_text_70 Q   M7 v1 0) ∧ (¬ (M7 56 0) < r6 → wX5_text_70 Q   M7 v1 1)) M)
def wX5_text_20 (Q : Int32 → MM → Prop)   : Nat → MM → Int32 → Prop
  | 0, _, _ => False
  | n + 1, M, v1 => (¬ (M 52 14) = 0 → wX5_text_44 Q   M v1) ∧ ((M 52 14) = 0 → ((M 52 12) = 0 → wX5_text_44 Q   M v1) ∧ (¬ (M 52 12) = 0 → wX5_readLine (fun M5 => wX5_text_20 Q   n M5 (v1 + 1)) M))
def wX5_text (Q : Int32 → MM → Prop) (M : MM)  : Prop :=
  ∀ M1 : MM, M1 = mset M 52 14 0 → ∀ M2 : MM, M2 = mset M1 52 10 0 → wX5_firstDraft (fun M3 => wX5_next (fun M4 => ∃ m, wX5_text_20 Q   m M4 0) M3) M2
def wX5_fault (Q : Int32 → MM → Prop) (M : MM)  : Prop :=
  Q (M 52 14) M
def wX5_rule (Q : Int32 → MM → Prop) (M : MM) (v1 : Int32) : Prop :=
  (¬ v1 = 0 → wX5_in (fun r1 M2 => (r1 = 0 → Q (-1) M2) ∧ (¬ r1 = 0 → vp_in v1 (alen 55) ∧ (Q (M2 55 v1.toNatClampNeg) M2))) M (v1.toInt64) 1 8) ∧ (v1 = 0 → Q (M 53 366) M)
def wX5_turnsOf_5 (Q : Int32 → MM → Prop)  (v0 : Int32) (v1 : Int32) (v2 : Int32) : Nat → MM → Int32 → Int32 → Prop
  | 0, _, _, _ => False
  | n + 1, M, v3, v4 => (v0 < ((v4 + v1) + (v2 * v3)) → Q v3 M) ∧ (¬ v0 < ((v4 + v1) + (v2 * v3)) → ∀ x1 : Int32, x1 = (v4 + (v1 + (v2 * v3))) → wX5_turnsOf_5 Q  v0 v1 v2 n M (v3 + 1) x1)
def wX5_turnsOf (Q : Int32 → MM → Prop) (M : MM) (v0 : Int32) (v1 : Int32) (v2 : Int32) : Prop :=
  ∃ m, wX5_turnsOf_5 Q  v0 v1 v2 m M 0 0
def wX5_turnsAt (Q : Int32 → MM → Prop) (M : MM) (v1 : Int32) : Prop :=
  wX5_turnsOf (fun r1 M2 => Q r1 M2) M v1 (M 55 1) (M 55 2)
def wX5_isPlace (Q : Int32 → MM → Prop) (M : MM) (v1 : Int32) : Prop :=
  wX5_in (fun r1 M2 => nb r1 ∧ Q r1 M2) M (v1.toInt64) 0 ((M 53 366).toInt64)
def wX5_turns_31 (Q : Int32 → MM → Prop)  (v1 : Int32) (v2 : Int32) (M : MM) (p0 : Int32) : Prop :=
  wX5_turnsAt (fun r3 M4 => Q r3 M4) M p0
def wX5_turns (Q : Int32 → MM → Prop) (M : MM) (v1 : Int32) (v2 : Int32) : Prop :=
  wX5_isPlace (fun r1 M2 => (¬ r1 = 0 → (v2 = 0 → wX5_turns_31 Q  v1 v2 M2 v1) ∧ (¬ v2 = 0 → wX5_turns_31 Q  v1 v2 M2 ((M2 53 366) - v1))) ∧ (r1 = 0 → Q (-1) M2)) M v1
def wX5_shows_66 (Q : Int32 → MM → Prop) (K26 : MM → Int32 → Int32 → Int32 → Prop) (v1 : Int32) (v2 : Int32) (M : MM) (v3 : Int32) (v4 : Int32) (v5 : Int32) : Prop :=
  K26 M v3 v4 (v5 + 1)
def wX5_shows_61 (Q : Int32 → MM → Prop) (K26 : MM → Int32 → Int32 → Int32 → Prop) (v1 : Int32) (v2 : Int32) (M : MM) (v5 : Int32) (p0 : Int32) : Prop :=
  wX5_shows_66 Q K26 v1 v2 M p0 v5 v5
def wX5_shows_26 (Q : Int32 → MM → Prop)  (v1 : Int32) (v2 : Int32) : Nat → MM → Int32 → Int32 → Int32 → Prop
  | 0, _, _, _, _ => False
  | n + 1, M, v3, v4, v5 => ((M 53 366) < v5 → (¬ v2 = 0 → Q v4 M) ∧ (v2 = 0 → Q v3 M)) ∧ (¬ (M 53 366) < v5 → wX5_turnsAt (fun r3 M4 => (¬ r3 = v1 → wX5_shows_66 Q (fun M v3 v4 v5 => wX5_shows_26 Q  v1 v2 n M v3 v4 v5) v1 v2 M4 v3 v4 v5) ∧ (r3 = v1 → (¬ v3 = (-4) → wX5_shows_61 Q (fun M v3 v4 v5 => wX5_shows_26 Q  v1 v2 n M v3 v4 v5) v1 v2 M4 v5 v3) ∧ (v3 = (-4) → wX5_shows_61 Q (fun M v3 v4 v5 => wX5_shows_26 Q  v1 v2 n M v3 v4 v5) v1 v2 M4 v5 v5))) M v5)
def wX5_shows (Q : Int32 → MM → Prop) (M : MM) (v1 : Int32) (v2 : Int32) : Prop :=
  (v1 < 0 → Q (-1) M) ∧ (¬ v1 < 0 → wX5_in (fun r1 M2 => (¬ r1 = 0 → ∃ m, wX5_shows_26 Q  v1 v2 m M2 (-4) (-4) 0) ∧ (r1 = 0 → Q (-1) M2)) M (v2.toInt64) 0 1)
def wX5_meet_2 (Q : Int32 → MM → Prop)   : Nat → MM → Int32 → Prop
  | 0, _, _ => False
  | n + 1, M, v1 => wX5_turnsAt (fun r1 M2 => wX5_turnsAt (fun r3 M4 => (r3 ≤ r1 → Q v1 M4) ∧ (¬ r3 ≤ r1 → wX5_meet_2 Q   n M4 (v1 + 1))) M2 ((M2 53 366) - v1)) M v1
def wX5_meet (Q : Int32 → MM → Prop) (M : MM)  : Prop :=
  ∃ m, wX5_meet_2 Q   m M 0
def wX5_apart (Q : Int32 → MM → Prop) (M : MM) (v0 : Int32) (v1 : Int32) : Prop :=
  (v1 ≤ v0 → Q (v0 - v1) M) ∧ (¬ v1 ≤ v0 → Q (v1 - v0) M)
def wX5_playedTo (Q : Int32 → MM → Prop) (M : MM) (v1 : Int32) (v2 : Int32) : Prop :=
  (¬ v1 = v2 → wX5_apart (fun r1 M2 => Q ((M 55 5) + ((M 55 3) * r1)) M2) M v1 v2) ∧ (v1 = v2 → Q 0 M)
def wX5_woundTo_55 (Q : Int32 → MM → Prop)  (v1 : Int32) (v2 : Int32) (M : MM) (p0 : Int32) : Prop :=
  Q (((2 : Int32) * (M 55 5)) + ((M 55 4) * p0)) M
def wX5_woundTo (Q : Int32 → MM → Prop) (M : MM) (v1 : Int32) (v2 : Int32) : Prop :=
  (¬ v1 = v2 → (v2 ≤ v1 → wX5_turnsAt (fun r1 M2 => wX5_turnsAt (fun r3 M4 => wX5_woundTo_55 Q  v1 v2 M4 (r1 - r3)) M2 ((M2 53 366) - v1)) M ((M 53 366) - v2)) ∧ (¬ v2 ≤ v1 → wX5_turnsAt (fun r5 M6 => wX5_turnsAt (fun r7 M8 => wX5_woundTo_55 Q  v1 v2 M8 (r5 - r7)) M6 v1) M v2)) ∧ (v1 = v2 → Q 0 M)
def wX5_sooner (Q : Int32 → MM → Prop) (M : MM) (v1 : Int32) (v2 : Int32) : Prop :=
  wX5_playedTo (fun r1 M2 => wX5_woundTo (fun r3 M4 => wX5_less (fun r5 M6 => Q r5 M6) M4 r1 r3) M2 v1 v2) M v1 v2
def wX5_ticks (Q : Int32 → MM → Prop) (M : MM) (v1 : Int32) (v2 : Int32) (v3 : Int32) : Prop :=
  wX5_isPlace (fun r1 M2 => (r1 = 0 → Q (-1) M2) ∧ (¬ r1 = 0 → wX5_isPlace (fun r3 M4 => (r3 = 0 → Q (-1) M4) ∧ (¬ r3 = 0 → wX5_in (fun r5 M6 => (¬ r5 = 0 → (¬ v3 = 0 → (¬ v3 = 1 → wX5_sooner (fun r7 M8 => Q r7 M8) M6 v1 v2) ∧ (v3 = 1 → wX5_woundTo (fun r9 M10 => Q r9 M10) M6 v1 v2)) ∧ (v3 = 0 → wX5_playedTo (fun r11 M12 => Q r11 M12) M6 v1 v2)) ∧ (r5 = 0 → Q (-1) M6)) M4 (v3.toInt64) 0 2)) M2 v2)) M v1
def wX5_goesTo (Q : Int32 → MM → Prop) (M : MM) (v1 : Int32) : Prop :=
  wX5_sooner (fun r1 M2 => ∀ M3 : MM, M3 = mset M2 53 325 v1 → ∀ M4 : MM, M4 = mset M3 53 326 ((M3 53 326) + r1) → Q r1 M4) M (M 53 325) v1
def wX5_go (Q : Int32 → MM → Prop) (M : MM) (v1 : Int32) : Prop :=
  wX5_isPlace (fun r1 M2 => (r1 = 0 → Q (-1) M2) ∧ (¬ r1 = 0 → wX5_goesTo (fun r3 M4 => Q r3 M4) M2 v1)) M v1
def wX5_endOfAll (Q : Int32 → MM → Prop) (M : MM)  : Prop :=
  (¬ (M 53 0) = 0 → wX5_endOf (fun r1 M2 => Q r1 M2) M ((M 53 0) - (1 : Int32))) ∧ ((M 53 0) = 0 → Q 0 M)
def wX5_now (Q : Int32 → MM → Prop) (M : MM) (v1 : Int32) : Prop :=
  (v1 = 0 → Q (M 53 325) M) ∧ (¬ v1 = 0 → (v1 = 1 → Q (M 53 326) M) ∧ (¬ v1 = 1 → (v1 = 2 → wX5_turnsAt (fun r1 M2 => Q r1 M2) M (M 53 325)) ∧ (¬ v1 = 2 → (v1 = 3 → Q (M 53 340) M) ∧ (¬ v1 = 3 → (v1 = 4 → Q (M 53 327) M) ∧ (¬ v1 = 4 → (v1 = 5 → wX5_endOfAll (fun r3 M4 => Q ((M 53 366) - r3) M4) M) ∧ (¬ v1 = 5 → Q (-1) M))))))
def wX5_within_124 (Q : Int32 → MM → Prop) (K83 : MM → Int32 → Int32 → Prop) (v1 : Int32) (v2 : Int32) (M : MM) (v4 : Int32) (p0 : Int32) : Prop :=
  K83 M p0 (v4 + 1)
def wX5_within_83 (Q : Int32 → MM → Prop)  (v1 : Int32) (v2 : Int32) : Nat → MM → Int32 → Int32 → Prop
  | 0, _, _, _ => False
  | n + 1, M, v3, v4 => ((M 53 366) < v4 → Q v3 M) ∧ (¬ (M 53 366) < v4 → (¬ v2 = 0 → Q v3 M) ∧ (v2 = 0 → wX5_sooner (fun r5 M6 => (v1 < r5 → wX5_within_124 Q (fun M v3 v4 => wX5_within_83 Q  v1 v2 n M v3 v4) v1 v2 M6 v4 v3) ∧ (¬ v1 < r5 → wX5_within_124 Q (fun M v3 v4 => wX5_within_83 Q  v1 v2 n M v3 v4) v1 v2 M6 v4 v4)) M (M 53 325) v4))
def wX5_within_73 (Q : Int32 → MM → Prop)  (v1 : Int32) (v2 : Int32) (M : MM) (v3 : Int32) : Prop :=
  ∃ m, wX5_within_83 Q  v1 v2 m M v3 (M 53 325)
def wX5_within_66 (Q : Int32 → MM → Prop) (K33 : MM → Int32 → Int32 → Prop) (v1 : Int32) (v2 : Int32) (M : MM) (v4 : Int32) (p0 : Int32) : Prop :=
  K33 M p0 (v4 + (-1))
def wX5_within_33 (Q : Int32 → MM → Prop)  (v1 : Int32) (v2 : Int32) : Nat → MM → Int32 → Int32 → Prop
  | 0, _, _, _ => False
  | n + 1, M, v3, v4 => (v4 < 0 → wX5_within_73 Q  v1 v2 M v3) ∧ (¬ v4 < 0 → (v2 = 0 → wX5_within_73 Q  v1 v2 M v3) ∧ (¬ v2 = 0 → wX5_sooner (fun r3 M4 => (v1 < r3 → wX5_within_66 Q (fun M v3 v4 => wX5_within_33 Q  v1 v2 n M v3 v4) v1 v2 M4 v4 v3) ∧ (¬ v1 < r3 → wX5_within_66 Q (fun M v3 v4 => wX5_within_33 Q  v1 v2 n M v3 v4) v1 v2 M4 v4 v4)) M (M 53 325) v4))
def wX5_within (Q : Int32 → MM → Prop) (M : MM) (v1 : Int32) (v2 : Int32) : Prop :=
  wX5_in (fun r1 M2 => (¬ r1 = 0 → ∃ m, wX5_within_33 Q  v1 v2 m M2 (M2 53 325) (M2 53 325)) ∧ (r1 = 0 → Q (-1) M2)) M (v1.toInt64) 0 999999
def wX5_isBlock (Q : Int32 → MM → Prop) (M : MM) (v1 : Int32) : Prop :=
  wX5_in (fun r1 M2 => nb r1 ∧ Q r1 M2) M (v1.toInt64) 0 (((M 53 0) - (1 : Int32)).toInt64)
def wX5_columnOf (Q : Int32 → MM → Prop) (M : MM) (v1 : Int32) (v2 : Int32) : Prop :=
  vp_in (((25 : Int32) + ((13 : Int32) * v1)) + v2) (alen 53) ∧ (Q (M 53 (((25 : Int32) + ((13 : Int32) * v1)) + v2).toNatClampNeg) M)
def wX5_block (Q : Int32 → MM → Prop) (M : MM) (v1 : Int32) (v2 : Int32) : Prop :=
  wX5_isBlock (fun r1 M2 => (¬ r1 = 0 → vp_in ((13 : Int32) + v1) (alen 53) ∧ (∀ x3 : Int32, x3 = (M2 53 ((13 : Int32) + v1).toNatClampNeg) → (v2 = 0 → vp_in ((1 : Int32) + v1) (alen 53) ∧ (Q (M2 53 ((1 : Int32) + v1).toNatClampNeg) M2)) ∧ (¬ v2 = 0 → (v2 = 1 → wX5_longOf (fun r4 M5 => Q r4 M5) M2 x3) ∧ (¬ v2 = 1 → (v2 = 2 → Q x3 M2) ∧ (¬ v2 = 2 → (v2 = 3 → (¬ x3 = 0 → wX5_columnOf (fun r6 M7 => Q r6 M7) M2 v1 x3) ∧ (x3 = 0 → Q 0 M2)) ∧ (¬ v2 = 3 → (v2 = 4 → wX5_endOf (fun r8 M9 => Q r8 M9) M2 v1) ∧ (¬ v2 = 4 → Q (-1) M2))))))) ∧ (r1 = 0 → Q (-1) M2)) M v1
def wX5_blockAt_55 (Q : Int32 → MM → Prop) (K15 : MM → Int32 → Int32 → Prop) (v1 : Int32) (M : MM) (v3 : Int32) (p0 : Int32) : Prop :=
  K15 M p0 (v3 + 1)
def wX5_blockAt_15 (Q : Int32 → MM → Prop)  (v1 : Int32) : Nat → MM → Int32 → Int32 → Prop
  | 0, _, _, _ => False
  | n + 1, M, v2, v3 => ((M 53 0) ≤ v3 → Q v2 M) ∧ (¬ (M 53 0) ≤ v3 → vp_in ((1 : Int32) + v3) (alen 53) ∧ (wX5_endOf (fun r3 M4 => wX5_in (fun r5 M6 => (r5 = 0 → wX5_blockAt_55 Q (fun M v2 v3 => wX5_blockAt_15 Q  v1 n M v2 v3) v1 M6 v3 v2) ∧ (¬ r5 = 0 → wX5_blockAt_55 Q (fun M v2 v3 => wX5_blockAt_15 Q  v1 n M v2 v3) v1 M6 v3 v3)) M4 (v1.toInt64) ((M 53 ((1 : Int32) + v3).toNatClampNeg).toInt64) ((r3 - (1 : Int32)).toInt64)) M v3))
def wX5_blockAt (Q : Int32 → MM → Prop) (M : MM) (v1 : Int32) : Prop :=
  wX5_isPlace (fun r1 M2 => (¬ r1 = 0 → ∃ m, wX5_blockAt_15 Q  v1 m M2 (-4) 0) ∧ (r1 = 0 → Q (-1) M2)) M v1
def wX5_type (Q : Int32 → MM → Prop) (M : MM) (v1 : Int32) : Prop :=
  wX5_in (fun r1 M2 => (¬ r1 = 0 → (¬ (M2 53 327) = 12 → vp_in ((328 : Int32) + (M2 53 327)) (alen 53) ∧ (∀ M3 : MM, M3 = mset M2 53 ((328 : Int32) + (M2 53 327)).toNatClampNeg v1 → ∀ M4 : MM, M4 = mset M3 53 327 ((M3 53 327) + (1 : Int32)) → Q (M4 53 327) M4)) ∧ ((M2 53 327) = 12 → Q (-3) M2)) ∧ (r1 = 0 → Q (-1) M2)) M (v1.toInt64) 0 255
def wX5_writes (Q : Int32 → MM → Prop) (M : MM) (v1 : Int32) (v2 : Int32) : Prop :=
  (v1 = 12 → Q (-3) M) ∧ (¬ v1 = 12 → wX5_beginOf (fun r1 M2 => wX5_longOf (fun r3 M4 => ((r1 + r3) ≤ (M4 53 366) → ∀ M5 : MM, M5 = mset M4 53 0 v1 → wX5_beginOf (fun r6 M7 => wX5_goesTo (fun r8 M9 => wX5_longOf (fun r10 M11 => ∀ x12 : Int32, x12 = (r8 + ((M9 55 3) * r10)) → wX5_lays (fun M13 => wX5_longOf (fun r14 M15 => ∀ M16 : MM, M16 = mset M15 53 326 ((M13 53 326) + ((M13 55 3) * r14)) → wX5_endOf (fun r17 M18 => ∀ M19 : MM, M19 = mset M18 53 325 r17 → Q x12 M19) M16 v1) M13 v2) M11 v2) M9 v2) M7 r6) M5 v1) ∧ (¬ (r1 + r3) ≤ (M4 53 366) → Q (-3) M4)) M2 v2) M v1)
def wX5_write_105 (Q : Int32 → MM → Prop)  (v1 : Int32) (M : MM) (v2 : Int32) (p0 : Int32) (p1 : Int32) : Prop :=
  vp_in p1 (alen 53) ∧ (∀ M6 : MM, M6 = mset M 53 p1.toNatClampNeg p0 → Q v2 M6)
def wX5_write_34 (Q : Int32 → MM → Prop)  (v1 : Int32) : Nat → MM → Int32 → Prop
  | 0, _, _ => False
  | n + 1, M, v2 => ((M 53 327) ≤ v2 → wX5_writes (fun r3 M4 => (0 ≤ r3 → wX5_write_105 Q  v1 M4 r3 0 327) ∧ (¬ 0 ≤ r3 → wX5_write_105 Q  v1 M4 r3 (M4 53 327) 327)) M v1 (M 53 327)) ∧ (¬ (M 53 327) ≤ v2 → vp_in ((328 : Int32) + v2) (alen 53) ∧ (vp_in v2 (alen 60) ∧ (∀ M5 : MM, M5 = mset M 60 v2.toNatClampNeg (M 53 ((328 : Int32) + v2).toNatClampNeg) → wX5_write_34 Q  v1 n M5 (v2 + 1))))
def wX5_write (Q : Int32 → MM → Prop) (M : MM) (v1 : Int32) : Prop :=
  wX5_in (fun r1 M2 => (¬ r1 = 0 → (¬ (M2 53 327) = 0 → ∃ m, wX5_write_34 Q  v1 m M2 0) ∧ ((M2 53 327) = 0 → Q (-2) M2)) ∧ (r1 = 0 → Q (-1) M2)) M (v1.toInt64) 0 ((M 53 0).toInt64)
def wX5_mark (Q : Int32 → MM → Prop) (M : MM) (v1 : Int32) : Prop :=
  wX5_in (fun r1 M2 => (r1 = 0 → Q (-1) M2) ∧ (¬ r1 = 0 → wX5_writes (fun r3 M4 => Q r3 M4) M2 v1 0)) M (v1.toInt64) 0 ((M 53 0).toInt64)
def wX5_isTrack (Q : Int32 → MM → Prop) (M : MM) (v0 : Int32) : Prop :=
  wX5_in (fun r1 M2 => nb r1 ∧ Q r1 M2) M (v0.toInt64) 0 8
def wX5_isColumn_43 (Q : Int32 → MM → Prop)  (v1 : Int32) (v2 : Int32) (M : MM)  : Prop :=
  Q 0 M
def wX5_isColumn (Q : Int32 → MM → Prop) (M : MM) (v1 : Int32) (v2 : Int32) : Prop :=
  wX5_isBlock (fun r1 M2 => (r1 = 0 → wX5_isColumn_43 Q  v1 v2 M2) ∧ (¬ r1 = 0 → vp_in ((13 : Int32) + v1) (alen 53) ∧ (((M2 53 ((13 : Int32) + v1).toNatClampNeg) ≤ 0 → wX5_isColumn_43 Q  v1 v2 M2) ∧ (¬ (M2 53 ((13 : Int32) + v1).toNatClampNeg) ≤ 0 → vp_in ((13 : Int32) + v1) (alen 53) ∧ (wX5_in (fun r3 M4 => (r3 = 0 → wX5_isColumn_43 Q  v1 v2 M4) ∧ (¬ r3 = 0 → Q 1 M4)) M2 (v2.toInt64) 0 ((M2 53 ((13 : Int32) + v1).toNatClampNeg).toInt64)))))) M v1
def wX5_spoil (Q : Int32 → MM → Prop) (M : MM) (v1 : Int32) (v2 : Int32) (v3 : Int32) : Prop :=
  wX5_isColumn (fun r1 M2 => (r1 = 0 → Q (-1) M2) ∧ (¬ r1 = 0 → wX5_isTrack (fun r3 M4 => (¬ r3 = 0 → vp_in (((25 : Int32) + ((13 : Int32) * v1)) + v2) (alen 53) ∧ (vp_in (((25 : Int32) + ((13 : Int32) * v1)) + v2) (alen 53) ∧ (∀ M5 : MM, M5 = mset M4 53 (((25 : Int32) + ((13 : Int32) * v1)) + v2).toNatClampNeg ((M4 53 (((25 : Int32) + ((13 : Int32) * v1)) + v2).toNatClampNeg) ^^^ ((1 : Int32) <<< (v3 &&& 31))) → wX5_columnOf (fun r6 M7 => Q r6 M7) M5 v1 v2))) ∧ (r3 = 0 → Q (-1) M4)) M2 v3)) M v1 v2
def wX5_dead_15 (Q : Int32 → MM → Prop)  (v1 : Int32) (M : MM)  : Prop :=
  ∀ M3 : MM, M3 = mset M 53 340 v1 → Q (M 53 340) M3
def wX5_dead (Q : Int32 → MM → Prop) (M : MM) (v1 : Int32) : Prop :=
  (v1 = (-4) → wX5_dead_15 Q  v1 M) ∧ (¬ v1 = (-4) → wX5_isTrack (fun r1 M2 => (¬ r1 = 0 → wX5_dead_15 Q  v1 M2) ∧ (r1 = 0 → Q (-1) M2)) M v1)
def wX5_across_4 (Q : Int32 → MM → Prop)  (v1 : Int32) : Nat → MM → Int32 → Int32 → Prop
  | 0, _, _, _ => False
  | n + 1, M, v2, v3 => vp_in ((13 : Int32) + v1) (alen 53) ∧ (((M 53 ((13 : Int32) + v1).toNatClampNeg) < v3 → Q v2 M) ∧ (¬ (M 53 ((13 : Int32) + v1).toNatClampNeg) < v3 → wX5_columnOf (fun r1 M2 => wX5_across_4 Q  v1 n M2 (v2 ^^^ r1) (v3 + 1)) M v1 v3))
def wX5_across (Q : Int32 → MM → Prop) (M : MM) (v1 : Int32) : Prop :=
  ∃ m, wX5_across_4 Q  v1 m M 0 0
def wX5_onesOf_4 (Q : Int32 → MM → Prop)  (v0 : Int32) : Nat → MM → Int32 → Int32 → Prop
  | 0, _, _, _ => False
  | n + 1, M, v1, v2 => (9 ≤ v2 → Q v1 M) ∧ (¬ 9 ≤ v2 → ∀ x1 : Int32, x1 = (v1 + ((v0 >>> (v2 &&& 31)) &&& (1 : Int32))) → wX5_onesOf_4 Q  v0 n M x1 (v2 + 1))
def wX5_onesOf (Q : Int32 → MM → Prop) (M : MM) (v0 : Int32) : Prop :=
  ∃ m, wX5_onesOf_4 Q  v0 m M 0 0
def wX5_reading_161 (Q : Int32 → MM → Prop)  (v1 : Int32) (v2 : Int32) (M : MM) (p0 : Int32) (p1 : Int32) : Prop :=
  (¬ p1 = p0 → Q 3 M) ∧ (p1 = p0 → Q 2 M)
def wX5_reading_136 (Q : Int32 → MM → Prop) (K102 : MM → Int32 → Int32 → Int32 → Int32 → Prop) (v1 : Int32) (v2 : Int32) (M : MM) (v3 : Int32) (v4 : Int32) (v5 : Int32) (v7 : Int32) (p0 : Int32) (p1 : Int32) (p2 : Int32) : Prop :=
  vp_in p2 (alen 61) ∧ (∀ M14 : MM, M14 = mset M 61 p2.toNatClampNeg (p1 ^^^ p0) → K102 M14 v3 v4 v5 (v7 + 1))
def wX5_reading_102 (Q : Int32 → MM → Prop)  (v1 : Int32) (v2 : Int32) : Nat → MM → Int32 → Int32 → Int32 → Int32 → Prop
  | 0, _, _, _, _, _ => False
  | n + 1, M, v3, v4, v5, v7 => (v3 ≤ v7 → (¬ (v5 - v5 / 2 * 2) = 1 → wX5_reading_161 Q  v1 v2 M 0 v4) ∧ ((v5 - v5 / 2 * 2) = 1 → wX5_reading_161 Q  v1 v2 M ((1 : Int32) <<< (v2 &&& 31)) v4)) ∧ (¬ v3 ≤ v7 → vp_in v7 (alen 61) ∧ (vp_in v7 (alen 61) ∧ (wX5_odd (fun r12 M13 => (¬ r12 = 0 → wX5_reading_136 Q (fun M v3 v4 v5 v7 => wX5_reading_102 Q  v1 v2 n M v3 v4 v5 v7) v1 v2 M13 v3 v4 v5 v7 0 (M 61 v7.toNatClampNeg) v7) ∧ (r12 = 0 → wX5_reading_136 Q (fun M v3 v4 v5 v7 => wX5_reading_102 Q  v1 v2 n M v3 v4 v5 v7) v1 v2 M13 v3 v4 v5 v7 ((1 : Int32) <<< (v2 &&& 31)) (M 61 v7.toNatClampNeg) v7)) M (M 61 v7.toNatClampNeg))))
def wX5_reading_93 (Q : Int32 → MM → Prop)  (v1 : Int32) (v2 : Int32) (M : MM) (v3 : Int32) (v4 : Int32) (v5 : Int32) (v6 : Int32) : Prop :=
  (v2 = (-4) → wX5_onesOf (fun r9 M10 => (¬ r9 = 1 → Q 3 M10) ∧ (r9 = 1 → (v5 ≤ 1 → (¬ v5 = 1 → Q 1 M10) ∧ (v5 = 1 → vp_in v6 (alen 61) ∧ (vp_in v6 (alen 61) ∧ (∀ M11 : MM, M11 = mset M10 61 v6.toNatClampNeg ((M10 61 v6.toNatClampNeg) ^^^ v4) → Q 1 M11)))) ∧ (¬ v5 ≤ 1 → Q 3 M10))) M v4) ∧ (¬ v2 = (-4) → ∃ m, wX5_reading_102 Q  v1 v2 m M v3 v4 v5 0)
def wX5_reading_75 (Q : Int32 → MM → Prop) (K35 : MM → Int32 → Int32 → Int32 → Int32 → Int32 → Prop) (v1 : Int32) (v2 : Int32) (M : MM) (v3 : Int32) (v4 : Int32) (v5 : Int32) (v6 : Int32) (v7 : Int32) : Prop :=
  K35 M v3 v4 v5 v6 (v7 + 1)
def wX5_reading_35 (Q : Int32 → MM → Prop)  (v1 : Int32) (v2 : Int32) : Nat → MM → Int32 → Int32 → Int32 → Int32 → Int32 → Prop
  | 0, _, _, _, _, _, _ => False
  | n + 1, M, v3, v4, v5, v6, v7 => (v3 ≤ v7 → (¬ v5 = 0 → wX5_reading_93 Q  v1 v2 M v3 v4 v5 v6) ∧ (v5 = 0 → (¬ v4 = 0 → wX5_reading_93 Q  v1 v2 M v3 v4 v5 v6) ∧ (v4 = 0 → Q 0 M))) ∧ (¬ v3 ≤ v7 → wX5_columnOf (fun r4 M5 => vp_in v7 (alen 61) ∧ (∀ M6 : MM, M6 = mset M5 61 v7.toNatClampNeg r4 → vp_in v7 (alen 61) ∧ (wX5_odd (fun r7 M8 => (¬ r7 = 0 → wX5_reading_75 Q (fun M v3 v4 v5 v6 v7 => wX5_reading_35 Q  v1 v2 n M v3 v4 v5 v6 v7) v1 v2 M8 v3 v4 v5 v6 v7) ∧ (r7 = 0 → wX5_reading_75 Q (fun M v3 v4 v5 v6 v7 => wX5_reading_35 Q  v1 v2 n M v3 v4 v5 v6 v7) v1 v2 M8 v3 v4 (v5 + 1) v7 v7)) M6 (M6 61 v7.toNatClampNeg)))) M v1 v7)
def wX5_reading_23 (Q : Int32 → MM → Prop)  (v1 : Int32) (v2 : Int32) (M : MM) (v3 : Int32) (p0 : Int32) : Prop :=
  ∃ m, wX5_reading_35 Q  v1 v2 m M v3 p0 0 (-4) 0
def wX5_reading (Q : Int32 → MM → Prop) (M : MM) (v1 : Int32) (v2 : Int32) : Prop :=
  vp_in ((13 : Int32) + v1) (alen 53) ∧ (∀ x1 : Int32, x1 = (M 53 ((13 : Int32) + v1).toNatClampNeg) → (¬ x1 = 0 → wX5_across (fun r2 M3 => wX5_reading_23 Q  v1 v2 M3 x1 r2) M v1) ∧ (x1 = 0 → wX5_reading_23 Q  v1 v2 M x1 0))
def wX5_check (Q : Int32 → MM → Prop) (M : MM) (v1 : Int32) : Prop :=
  wX5_isBlock (fun r1 M2 => (r1 = 0 → Q (-1) M2) ∧ (¬ r1 = 0 → wX5_reading (fun r3 M4 => Q r3 M4) M2 v1 (M2 53 340))) M v1
def wX5_got (Q : Int32 → MM → Prop) (M : MM) (v1 : Int32) (v2 : Int32) : Prop :=
  wX5_isBlock (fun r1 M2 => (r1 = 0 → Q (-1) M2) ∧ (¬ r1 = 0 → vp_in ((13 : Int32) + v1) (alen 53) ∧ (wX5_in (fun r3 M4 => (¬ r3 = 0 → wX5_reading (fun r5 M6 => (¬ r5 = 3 → vp_in v2 (alen 61) ∧ (Q ((M6 61 v2.toNatClampNeg) &&& (255 : Int32)) M6)) ∧ (r5 = 3 → Q (-4) M6)) M4 v1 (M4 53 340)) ∧ (r3 = 0 → Q (-1) M4)) M2 (v2.toInt64) 0 (((M2 53 ((13 : Int32) + v1).toNatClampNeg) - (1 : Int32)).toInt64)))) M v1
def wX5_column (Q : Int32 → MM → Prop) (M : MM) (v1 : Int32) (v2 : Int32) : Prop :=
  wX5_isColumn (fun r1 M2 => (r1 = 0 → Q (-1) M2) ∧ (¬ r1 = 0 → wX5_columnOf (fun r3 M4 => Q r3 M4) M2 v1 v2)) M v1 v2
def wX5_isFooled_100 (Q : Int32 → MM → Prop)  (v1 : Int32) (M : MM)  : Prop :=
  Q 0 M
def wX5_isFooled_81 (Q : Int32 → MM → Prop) (K28 : MM → Int32 → Int32 → Int32 → Prop) (v1 : Int32) (M : MM) (v3 : Int32) (v4 : Int32) (p0 : Int32) : Prop :=
  K28 M p0 v3 (v4 + 1)
def wX5_isFooled_76 (Q : Int32 → MM → Prop) (K28 : MM → Int32 → Int32 → Int32 → Prop) (v1 : Int32) (M : MM) (v3 : Int32) (v4 : Int32) : Prop :=
  wX5_isFooled_81 Q K28 v1 M v3 v4 1
def wX5_isFooled_28 (Q : Int32 → MM → Prop)  (v1 : Int32) : Nat → MM → Int32 → Int32 → Int32 → Prop
  | 0, _, _, _, _ => False
  | n + 1, M, v2, v3, v4 => vp_in ((13 : Int32) + v1) (alen 53) ∧ (((M 53 ((13 : Int32) + v1).toNatClampNeg) ≤ v4 → (v2 = 0 → wX5_isFooled_100 Q  v1 M) ∧ (¬ v2 = 0 → (¬ v3 = 0 → wX5_isFooled_100 Q  v1 M) ∧ (v3 = 0 → Q 1 M))) ∧ (¬ (M 53 ((13 : Int32) + v1).toNatClampNeg) ≤ v4 → (¬ v2 = 0 → wX5_isFooled_76 Q (fun M v2 v3 v4 => wX5_isFooled_28 Q  v1 n M v2 v3 v4) v1 M v3 v4) ∧ (v2 = 0 → vp_in v4 (alen 61) ∧ (vp_in (((181 : Int32) + ((12 : Int32) * v1)) + v4) (alen 53) ∧ ((((M 61 v4.toNatClampNeg) &&& (255 : Int32)) = (M 53 (((181 : Int32) + ((12 : Int32) * v1)) + v4).toNatClampNeg) → wX5_isFooled_81 Q (fun M v2 v3 v4 => wX5_isFooled_28 Q  v1 n M v2 v3 v4) v1 M v3 v4 0) ∧ (¬ ((M 61 v4.toNatClampNeg) &&& (255 : Int32)) = (M 53 (((181 : Int32) + ((12 : Int32) * v1)) + v4).toNatClampNeg) → wX5_isFooled_76 Q (fun M v2 v3 v4 => wX5_isFooled_28 Q  v1 n M v2 v3 v4) v1 M v3 v4))))))
def wX5_isFooled_24 (Q : Int32 → MM → Prop)  (v1 : Int32) (M : MM) (v2 : Int32) (p0 : Int32) : Prop :=
  ∃ m, wX5_isFooled_28 Q  v1 m M v2 p0 0
def wX5_isFooled (Q : Int32 → MM → Prop) (M : MM) (v1 : Int32) : Prop :=
  wX5_reading (fun r1 M2 => (¬ r1 = 3 → wX5_isFooled_24 Q  v1 M2 0 0) ∧ (r1 = 3 → wX5_isFooled_24 Q  v1 M2 0 1)) M v1 (M 53 340)
def wX5_state_106 (Q : Int32 → MM → Prop) (K18 : MM → Int32 → Int32 → Prop) (v1 : Int32) (M : MM) (v3 : Int32) (p0 : Int32) (p1 : Int32) : Prop :=
  K18 M (p1 ||| p0) (v3 + 1)
def wX5_state_91 (Q : Int32 → MM → Prop) (K18 : MM → Int32 → Int32 → Prop) (v1 : Int32) (M : MM) (v2 : Int32) (v3 : Int32) (p0 : Int32) : Prop :=
  (p0 = 0 → wX5_state_106 Q K18 v1 M v3 0 v2) ∧ (¬ p0 = 0 → wX5_state_106 Q K18 v1 M v3 ((1 : Int32) <<< (v3 &&& 31)) v2)
def wX5_state_86 (Q : Int32 → MM → Prop) (K18 : MM → Int32 → Int32 → Prop) (v1 : Int32) (M : MM) (v2 : Int32) (v3 : Int32) : Prop :=
  wX5_state_91 Q K18 v1 M v2 v3 1
def wX5_state_18 (Q : Int32 → MM → Prop)  (v1 : Int32) : Nat → MM → Int32 → Int32 → Prop
  | 0, _, _, _ => False
  | n + 1, M, v2, v3 => ((M 53 0) ≤ v3 → Q v2 M) ∧ (¬ (M 53 0) ≤ v3 → wX5_reading (fun r3 M4 => (¬ v1 = 0 → (¬ v1 = 1 → (r3 = 1 → wX5_state_86 Q (fun M v2 v3 => wX5_state_18 Q  v1 n M v2 v3) v1 M4 v2 v3) ∧ (¬ r3 = 1 → (¬ r3 = 2 → wX5_state_91 Q (fun M v2 v3 => wX5_state_18 Q  v1 n M v2 v3) v1 M4 v2 v3 0) ∧ (r3 = 2 → wX5_state_86 Q (fun M v2 v3 => wX5_state_18 Q  v1 n M v2 v3) v1 M4 v2 v3))) ∧ (v1 = 1 → wX5_isFooled (fun r5 M6 => wX5_state_91 Q (fun M v2 v3 => wX5_state_18 Q  v1 n M v2 v3) v1 M6 v2 v3 r5) M4 v3)) ∧ (v1 = 0 → (¬ r3 = 3 → wX5_state_91 Q (fun M v2 v3 => wX5_state_18 Q  v1 n M v2 v3) v1 M4 v2 v3 0) ∧ (r3 = 3 → wX5_state_91 Q (fun M v2 v3 => wX5_state_18 Q  v1 n M v2 v3) v1 M4 v2 v3 1))) M v3 (M 53 340))
def wX5_state (Q : Int32 → MM → Prop) (M : MM) (v1 : Int32) : Prop :=
  wX5_in (fun r1 M2 => (¬ r1 = 0 → ∃ m, wX5_state_18 Q  v1 m M2 0 0) ∧ (r1 = 0 → Q (-1) M2)) M (v1.toInt64) 0 2
def wX5_best_117 (Q : Int32 → MM → Prop) (K20 : MM → Int32 → Int32 → Int32 → Prop) (v1 : Int32) (M : MM) (v2 : Int32) (v4 : Int32) (p0 : Int32) : Prop :=
  K20 M v2 p0 (v4 + 1)
def wX5_best_105 (Q : Int32 → MM → Prop) (K20 : MM → Int32 → Int32 → Int32 → Prop) (v1 : Int32) (M : MM) (v3 : Int32) (v4 : Int32) (v5 : Int32) (v6 : Int32) (p0 : Int32) : Prop :=
  (v6 = 0 → wX5_best_117 Q K20 v1 M p0 v4 v3) ∧ (¬ v6 = 0 → wX5_best_117 Q K20 v1 M p0 v4 v5)
def wX5_best_92 (Q : Int32 → MM → Prop) (K20 : MM → Int32 → Int32 → Int32 → Prop) (v1 : Int32) (M : MM) (v2 : Int32) (v3 : Int32) (v4 : Int32) (v5 : Int32) (p0 : Int32) : Prop :=
  (p0 = 0 → wX5_best_105 Q K20 v1 M v3 v4 v5 p0 v2) ∧ (¬ p0 = 0 → wX5_best_105 Q K20 v1 M v3 v4 v5 p0 v4)
def wX5_best_87 (Q : Int32 → MM → Prop) (K20 : MM → Int32 → Int32 → Int32 → Prop) (v1 : Int32) (M : MM) (v2 : Int32) (v3 : Int32) (v4 : Int32) (v5 : Int32) : Prop :=
  wX5_best_92 Q K20 v1 M v2 v3 v4 v5 1
def wX5_best_63 (Q : Int32 → MM → Prop) (K20 : MM → Int32 → Int32 → Int32 → Prop) (K33 : MM → Int32 → Int32 → Int32 → Int32 → Int32 → Prop) (v1 : Int32) (M : MM) (v2 : Int32) (v3 : Int32) (v4 : Int32) (v6 : Int32) (p0 : Int32) (p1 : Int32) : Prop :=
  wX5_flag (fun r5 M6 => K33 M6 v2 v3 v4 (p1 + r5) (v6 + 1)) M p0
def wX5_best_33 (Q : Int32 → MM → Prop) (K20 : MM → Int32 → Int32 → Int32 → Prop) (v1 : Int32) : Nat → MM → Int32 → Int32 → Int32 → Int32 → Int32 → Prop
  | 0, _, _, _, _, _, _ => False
  | n + 1, M, v2, v3, v4, v5, v6 => ((M 53 0) ≤ v6 → (v2 = (-4) → wX5_best_87 Q K20 v1 M v2 v3 v4 v5) ∧ (¬ v2 = (-4) → (v3 ≤ v5 → wX5_best_92 Q K20 v1 M v2 v3 v4 v5 0) ∧ (¬ v3 ≤ v5 → wX5_best_87 Q K20 v1 M v2 v3 v4 v5))) ∧ (¬ (M 53 0) ≤ v6 → wX5_reading (fun r3 M4 => (¬ r3 = 3 → wX5_best_63 Q K20 (fun M v2 v3 v4 v5 v6 => wX5_best_33 Q K20 v1 n M v2 v3 v4 v5 v6) v1 M4 v2 v3 v4 v6 0 v5) ∧ (r3 = 3 → wX5_best_63 Q K20 (fun M v2 v3 v4 v5 v6 => wX5_best_33 Q K20 v1 n M v2 v3 v4 v5 v6) v1 M4 v2 v3 v4 v6 1 v5)) M v6 v4)
def wX5_best_20 (Q : Int32 → MM → Prop)  (v1 : Int32) : Nat → MM → Int32 → Int32 → Int32 → Prop
  | 0, _, _, _, _ => False
  | n + 1, M, v2, v3, v4 => (9 ≤ v4 → (¬ v1 = 0 → Q v3 M) ∧ (v1 = 0 → Q v2 M)) ∧ (¬ 9 ≤ v4 → ∃ m, wX5_best_33 Q (fun M v2 v3 v4 => wX5_best_20 Q  v1 n M v2 v3 v4) v1 m M v2 v3 v4 0 0)
def wX5_best (Q : Int32 → MM → Prop) (M : MM) (v1 : Int32) : Prop :=
  wX5_in (fun r1 M2 => (¬ r1 = 0 → ∃ m, wX5_best_20 Q  v1 m M2 (-4) 0 0) ∧ (r1 = 0 → Q (-1) M2)) M (v1.toInt64) 0 1
def wX5_takes_27 (Q : Int32 → MM → Prop)  (v1 : Int32) (v2 : Int32) (M : MM) (p0 : Int32) : Prop :=
  vp_in v2 (alen 63) ∧ (vp_in ((1 : Int32) + (M 63 v2.toNatClampNeg)) (alen 53) ∧ (wX5_sooner (fun r3 M4 => vp_in v2 (alen 63) ∧ (vp_in ((13 : Int32) + (M4 63 v2.toNatClampNeg)) (alen 53) ∧ (wX5_longOf (fun r5 M6 => Q (r3 + ((M4 55 3) * r5)) M6) M4 (M4 53 ((13 : Int32) + (M4 63 v2.toNatClampNeg)).toNatClampNeg)))) M p0 (M 53 ((1 : Int32) + (M 63 v2.toNatClampNeg)).toNatClampNeg)))
def wX5_takes (Q : Int32 → MM → Prop) (M : MM) (v1 : Int32) (v2 : Int32) : Prop :=
  (¬ v1 = 8 → vp_in v1 (alen 63) ∧ (wX5_endOf (fun r1 M2 => wX5_takes_27 Q  v1 v2 M2 r1) M (M 63 v1.toNatClampNeg))) ∧ (v1 = 8 → wX5_takes_27 Q  v1 v2 M (M 53 325))
def wX5_areBlocks (Q : Int32 → MM → Prop) (M : MM) (v1 : Int32) : Prop :=
  wX5_in (fun r1 M2 => nb r1 ∧ Q r1 M2) M (v1.toInt64) 0 ((((1 : Int32) <<< ((M 53 0) &&& 31)) - (1 : Int32)).toInt64)
def wX5_countOf_4 (Q : Int32 → MM → Prop)  (v0 : Int32) : Nat → MM → Int32 → Int32 → Prop
  | 0, _, _, _ => False
  | n + 1, M, v1, v2 => (12 ≤ v2 → Q v1 M) ∧ (¬ 12 ≤ v2 → ∀ x1 : Int32, x1 = (v1 + ((v0 >>> (v2 &&& 31)) &&& (1 : Int32))) → wX5_countOf_4 Q  v0 n M x1 (v2 + 1))
def wX5_countOf (Q : Int32 → MM → Prop) (M : MM) (v0 : Int32) : Prop :=
  ∃ m, wX5_countOf_4 Q  v0 m M 0 0
def wX5_layRest_200 (Q : MM → Prop) (K63 : MM → Int32 → Int32 → Prop) (K70 : MM → Int32 → Int32 → Int32 → Prop) (v1 : Int32) (M : MM) (v2 : Int32) (v3 : Int32) (v4 : Int32) (v5 : Int32) : Prop :=
  vp_in (((13 : Int32) * v3) + v4) (alen 62) ∧ (∀ M9 : MM, M9 = mset M 62 (((13 : Int32) * v3) + v4).toNatClampNeg v5 → K70 M9 v2 v3 (v4 + 1))
def wX5_layRest_194 (Q : MM → Prop) (K63 : MM → Int32 → Int32 → Prop) (K70 : MM → Int32 → Int32 → Int32 → Prop) (K138 : MM → Int32 → Int32 → Int32 → Int32 → Int32 → Int32 → Prop) (v1 : Int32) (M : MM) (v2 : Int32) (v3 : Int32) (v4 : Int32) (v5 : Int32) (v6 : Int32) (v7 : Int32) : Prop :=
  K138 M v2 v3 v4 v5 v6 (v7 + 1)
def wX5_layRest_138 (Q : MM → Prop) (K63 : MM → Int32 → Int32 → Prop) (K70 : MM → Int32 → Int32 → Int32 → Prop) (v1 : Int32) : Nat → MM → Int32 → Int32 → Int32 → Int32 → Int32 → Int32 → Prop
  | 0, _, _, _, _, _, _, _ => False
  | n + 1, M, v2, v3, v4, v5, v6, v7 => ((M 52 20) ≤ v7 → wX5_layRest_200 Q K63 K70 v1 M v2 v3 v4 v5) ∧ (¬ (M 52 20) ≤ v7 → (v6 = 0 → wX5_layRest_200 Q K63 K70 v1 M v2 v3 v4 v5) ∧ (¬ v6 = 0 → (¬ ((v3 >>> (v7 &&& 31)) &&& (1 : Int32)) = 0 → wX5_layRest_194 Q K63 K70 (fun M v2 v3 v4 v5 v6 v7 => wX5_layRest_138 Q K63 K70 v1 n M v2 v3 v4 v5 v6 v7) v1 M v2 v3 v4 v5 v6 v7) ∧ (((v3 >>> (v7 &&& 31)) &&& (1 : Int32)) = 0 → wX5_takes (fun r5 M6 => vp_in (((13 : Int32) * (v3 ||| ((1 : Int32) <<< (v7 &&& 31)))) + v7) (alen 62) ∧ (wX5_less (fun r7 M8 => wX5_layRest_194 Q K63 K70 (fun M v2 v3 v4 v5 v6 v7 => wX5_layRest_138 Q K63 K70 v1 n M v2 v3 v4 v5 v6 v7) v1 M8 v2 v3 v4 r7 v6 v7) M6 v5 (r5 + (M6 62 (((13 : Int32) * (v3 ||| ((1 : Int32) <<< (v7 &&& 31)))) + v7).toNatClampNeg)))) M v4 v7)))
def wX5_layRest_133 (Q : MM → Prop) (K63 : MM → Int32 → Int32 → Prop) (K70 : MM → Int32 → Int32 → Int32 → Prop) (v1 : Int32) (M : MM) (v2 : Int32) (v3 : Int32) (v4 : Int32) (v5 : Int32) (p0 : Int32) : Prop :=
  ∃ m, wX5_layRest_138 Q K63 K70 v1 m M v2 v3 v4 v5 p0 0
def wX5_layRest_132 (Q : MM → Prop) (K63 : MM → Int32 → Int32 → Prop) (K70 : MM → Int32 → Int32 → Int32 → Prop) (v1 : Int32) (M : MM) (v2 : Int32) (v3 : Int32) (v4 : Int32) (v5 : Int32) : Prop :=
  wX5_layRest_133 Q K63 K70 v1 M v2 v3 v4 v5 0
def wX5_layRest_88 (Q : MM → Prop) (K63 : MM → Int32 → Int32 → Prop) (K70 : MM → Int32 → Int32 → Int32 → Prop) (v1 : Int32) (M : MM) (v2 : Int32) (v3 : Int32) (v4 : Int32) (p0 : Int32) : Prop :=
  (¬ v4 = 8 → ((M 52 20) ≤ v4 → wX5_layRest_132 Q K63 K70 v1 M v2 v3 v4 p0) ∧ (¬ (M 52 20) ≤ v4 → (¬ ((v3 >>> (v4 &&& 31)) &&& (1 : Int32)) = 1 → wX5_layRest_132 Q K63 K70 v1 M v2 v3 v4 p0) ∧ (((v3 >>> (v4 &&& 31)) &&& (1 : Int32)) = 1 → wX5_layRest_133 Q K63 K70 v1 M v2 v3 v4 p0 1))) ∧ (v4 = 8 → (¬ v3 = 0 → wX5_layRest_133 Q K63 K70 v1 M v2 v3 v4 p0 0) ∧ (v3 = 0 → wX5_layRest_133 Q K63 K70 v1 M v2 v3 v4 p0 1))
def wX5_layRest_70 (Q : MM → Prop) (K63 : MM → Int32 → Int32 → Prop) (v1 : Int32) : Nat → MM → Int32 → Int32 → Int32 → Prop
  | 0, _, _, _, _ => False
  | n + 1, M, v2, v3, v4 => (9 ≤ v4 → K63 M v2 (v3 + (-1))) ∧ (¬ 9 ≤ v4 → (¬ v3 = v2 → wX5_layRest_88 Q K63 (fun M v2 v3 v4 => wX5_layRest_70 Q K63 v1 n M v2 v3 v4) v1 M v2 v3 v4 2000000000) ∧ (v3 = v2 → wX5_layRest_88 Q K63 (fun M v2 v3 v4 => wX5_layRest_70 Q K63 v1 n M v2 v3 v4) v1 M v2 v3 v4 0))
def wX5_layRest_63 (Q : MM → Prop)  (v1 : Int32) : Nat → MM → Int32 → Int32 → Prop
  | 0, _, _, _ => False
  | n + 1, M, v2, v3 => (v3 < 0 → Q M) ∧ (¬ v3 < 0 → ∃ m, wX5_layRest_70 Q (fun M v2 v3 => wX5_layRest_63 Q  v1 n M v2 v3) v1 m M v2 v3 0)
def wX5_layRest_46 (Q : MM → Prop) (K7 : MM → Int32 → Prop) (v1 : Int32) (M : MM) (v2 : Int32) : Prop :=
  K7 M (v2 + 1)
def wX5_layRest_7 (Q : MM → Prop)  (v1 : Int32) : Nat → MM → Int32 → Prop
  | 0, _, _ => False
  | n + 1, M, v2 => ((M 53 0) ≤ v2 → ∀ x2 : Int32, x2 = (((1 : Int32) <<< ((M 52 20) &&& 31)) - (1 : Int32)) → ∃ m, wX5_layRest_63 Q  v1 m M x2 x2) ∧ (¬ (M 53 0) ≤ v2 → (¬ ((v1 >>> (v2 &&& 31)) &&& (1 : Int32)) = 1 → wX5_layRest_46 Q (fun M v2 => wX5_layRest_7 Q  v1 n M v2) v1 M v2) ∧ (((v1 >>> (v2 &&& 31)) &&& (1 : Int32)) = 1 → vp_in (M 52 20) (alen 63) ∧ (∀ M3 : MM, M3 = mset M 63 (M 52 20).toNatClampNeg v2 → ∀ M4 : MM, M4 = mset M3 52 20 ((M3 52 20) + (1 : Int32)) → wX5_layRest_46 Q (fun M v2 => wX5_layRest_7 Q  v1 n M v2) v1 M4 v2)))
def wX5_layRest (Q : MM → Prop) (M : MM) (v1 : Int32) : Prop :=
  ∀ M1 : MM, M1 = mset M 52 20 0 → ∃ m, wX5_layRest_7 Q  v1 m M1 0
def wX5_follows_82 (Q : Int32 → MM → Prop) (K11 : MM → Int32 → Int32 → Prop) (v1 : Int32) (v2 : Int32) (M : MM) (v4 : Int32) (p0 : Int32) : Prop :=
  K11 M p0 (v4 + (-1))
def wX5_follows_69 (Q : Int32 → MM → Prop) (K11 : MM → Int32 → Int32 → Prop) (v1 : Int32) (v2 : Int32) (M : MM) (v3 : Int32) (v4 : Int32) (p0 : Int32) : Prop :=
  (p0 = 0 → wX5_follows_82 Q K11 v1 v2 M v4 v3) ∧ (¬ p0 = 0 → wX5_follows_82 Q K11 v1 v2 M v4 v4)
def wX5_follows_68 (Q : Int32 → MM → Prop) (K11 : MM → Int32 → Int32 → Prop) (v1 : Int32) (v2 : Int32) (M : MM) (v3 : Int32) (v4 : Int32) : Prop :=
  wX5_follows_69 Q K11 v1 v2 M v3 v4 0
def wX5_follows_11 (Q : Int32 → MM → Prop)  (v1 : Int32) (v2 : Int32) : Nat → MM → Int32 → Int32 → Prop
  | 0, _, _, _ => False
  | n + 1, M, v3, v4 => (v4 < 0 → Q v3 M) ∧ (¬ v4 < 0 → (¬ ((v1 >>> (v4 &&& 31)) &&& (1 : Int32)) = 0 → wX5_follows_68 Q (fun M v3 v4 => wX5_follows_11 Q  v1 v2 n M v3 v4) v1 v2 M v3 v4) ∧ (((v1 >>> (v4 &&& 31)) &&& (1 : Int32)) = 0 → wX5_takes (fun r2 M3 => vp_in (((13 : Int32) * (v1 ||| ((1 : Int32) <<< (v4 &&& 31)))) + v4) (alen 62) ∧ (vp_in (((13 : Int32) * v1) + v2) (alen 62) ∧ ((¬ (r2 + (M3 62 (((13 : Int32) * (v1 ||| ((1 : Int32) <<< (v4 &&& 31)))) + v4).toNatClampNeg)) = (M3 62 (((13 : Int32) * v1) + v2).toNatClampNeg) → wX5_follows_68 Q (fun M v3 v4 => wX5_follows_11 Q  v1 v2 n M v3 v4) v1 v2 M3 v3 v4) ∧ ((r2 + (M3 62 (((13 : Int32) * (v1 ||| ((1 : Int32) <<< (v4 &&& 31)))) + v4).toNatClampNeg)) = (M3 62 (((13 : Int32) * v1) + v2).toNatClampNeg) → wX5_follows_69 Q (fun M v3 v4 => wX5_follows_11 Q  v1 v2 n M v3 v4) v1 v2 M3 v3 v4 1)))) M v2 v4))
def wX5_follows (Q : Int32 → MM → Prop) (M : MM) (v1 : Int32) (v2 : Int32) : Prop :=
  ∀ x1 : Int32, x1 = ((M 52 20) - (1 : Int32)) → ∃ m, wX5_follows_11 Q  v1 v2 m M (-4) x1
def wX5_nthOf_8 (Q : Int32 → MM → Prop)  (v1 : Int32) : Nat → MM → Int32 → Int32 → Int32 → Prop
  | 0, _, _, _, _ => False
  | n + 1, M, v2, v3, v4 => (v1 < v4 → vp_in v3 (alen 63) ∧ (Q (M 63 v3.toNatClampNeg) M)) ∧ (¬ v1 < v4 → wX5_follows (fun r1 M2 => ∀ x3 : Int32, x3 = (v2 ||| ((1 : Int32) <<< (r1 &&& 31))) → wX5_nthOf_8 Q  v1 n M2 x3 r1 (v4 + 1)) M v2 v3)
def wX5_nthOf (Q : Int32 → MM → Prop) (M : MM) (v1 : Int32) : Prop :=
  ∃ m, wX5_nthOf_8 Q  v1 m M 0 8 0
def wX5_order_28 (Q : Int32 → MM → Prop)  (v1 : Int32) (v2 : Int32) (M : MM)  : Prop :=
  wX5_countOf (fun r5 M6 => (r5 ≤ 8 → wX5_layRest (fun M7 => (¬ v2 = 0 → ((M7 52 20) ≤ (v2 - (10 : Int32)) → Q (-1) M7) ∧ (¬ (M7 52 20) ≤ (v2 - (10 : Int32)) → wX5_nthOf (fun r8 M9 => Q r8 M9) M7 (v2 - (10 : Int32)))) ∧ (v2 = 0 → Q (M7 62 8) M7)) M6 v1) ∧ (¬ r5 ≤ 8 → Q (-2) M6)) M v1
def wX5_order (Q : Int32 → MM → Prop) (M : MM) (v1 : Int32) (v2 : Int32) : Prop :=
  wX5_areBlocks (fun r1 M2 => (r1 = 0 → Q (-1) M2) ∧ (¬ r1 = 0 → (v2 = 0 → wX5_order_28 Q  v1 v2 M2) ∧ (¬ v2 = 0 → wX5_in (fun r3 M4 => (¬ r3 = 0 → wX5_order_28 Q  v1 v2 M4) ∧ (r3 = 0 → Q (-1) M4)) M2 (v2.toInt64) 10 17))) M v1
def wX5_reads_67 (Q : Int32 → MM → Prop)  (v1 : Int32) (M : MM) (v2 : Int32) (p0 : Int32) : Prop :=
  ∀ M10 : MM, M10 = mset M 53 326 ((M 53 326) + v2) → ∀ M11 : MM, M11 = mset M10 53 325 p0 → Q v2 M11
def wX5_reads (Q : Int32 → MM → Prop) (M : MM) (v1 : Int32) : Prop :=
  wX5_areBlocks (fun r1 M2 => (¬ r1 = 0 → wX5_countOf (fun r3 M4 => (r3 ≤ 8 → wX5_layRest (fun M5 => (¬ (M5 52 20) = 0 → wX5_nthOf (fun r6 M7 => wX5_endOf (fun r8 M9 => wX5_reads_67 Q  v1 M9 (M5 62 8) r8) M7 r6) M5 ((M5 52 20) - (1 : Int32))) ∧ ((M5 52 20) = 0 → wX5_reads_67 Q  v1 M5 (M5 62 8) (M5 53 325))) M4 v1) ∧ (¬ r3 ≤ 8 → Q (-2) M4)) M2 v1) ∧ (r1 = 0 → Q (-1) M2)) M v1
def wX5_moves_85 (Q : MM → Prop)  (v1 : Int32) (v2 : Int32) (v3 : Int32) : Nat → MM → Int32 → Prop
  | 0, _, _ => False
  | n + 1, M, v4 => (12 ≤ v4 → Q M) ∧ (¬ 12 ≤ v4 → vp_in (((181 : Int32) + ((12 : Int32) * v2)) + v4) (alen 53) ∧ (vp_in (((181 : Int32) + ((12 : Int32) * v1)) + v4) (alen 53) ∧ (∀ M4 : MM, M4 = mset M 53 (((181 : Int32) + ((12 : Int32) * v1)) + v4).toNatClampNeg (M 53 (((181 : Int32) + ((12 : Int32) * v2)) + v4).toNatClampNeg) → wX5_moves_85 Q  v1 v2 v3 n M4 (v4 + 1))))
def wX5_moves_39 (Q : MM → Prop)  (v1 : Int32) (v2 : Int32) (v3 : Int32) : Nat → MM → Int32 → Prop
  | 0, _, _ => False
  | n + 1, M, v4 => (13 ≤ v4 → ∃ m, wX5_moves_85 Q  v1 v2 v3 m M 0) ∧ (¬ 13 ≤ v4 → vp_in (((25 : Int32) + ((13 : Int32) * v2)) + v4) (alen 53) ∧ (vp_in (((25 : Int32) + ((13 : Int32) * v1)) + v4) (alen 53) ∧ (∀ M3 : MM, M3 = mset M 53 (((25 : Int32) + ((13 : Int32) * v1)) + v4).toNatClampNeg (M 53 (((25 : Int32) + ((13 : Int32) * v2)) + v4).toNatClampNeg) → wX5_moves_39 Q  v1 v2 v3 n M3 (v4 + 1))))
def wX5_moves (Q : MM → Prop) (M : MM) (v1 : Int32) (v2 : Int32) (v3 : Int32) : Prop :=
  vp_in ((1 : Int32) + v2) (alen 53) ∧ (vp_in ((1 : Int32) + v1) (alen 53) ∧ (∀ M1 : MM, M1 = mset M 53 ((1 : Int32) + v1).toNatClampNeg ((M 53 ((1 : Int32) + v2).toNatClampNeg) - v3) → vp_in ((13 : Int32) + v2) (alen 53) ∧ (vp_in ((13 : Int32) + v1) (alen 53) ∧ (∀ M2 : MM, M2 = mset M1 53 ((13 : Int32) + v1).toNatClampNeg (M1 53 ((13 : Int32) + v2).toNatClampNeg) → ∃ m, wX5_moves_39 Q  v1 v2 v3 m M2 0))))
def wX5_cut_191 (Q : Int32 → MM → Prop)  (v1 : Int32) (v2 : Int32) (M : MM) (v3 : Int32) (v4 : Int32) (p0 : Int32) (p1 : Int32) : Prop :=
  vp_in p1 (alen 53) ∧ (∀ M8 : MM, M8 = mset M 53 p1.toNatClampNeg p0 → ∀ M9 : MM, M9 = mset M8 53 366 ((M8 53 366) - (v2 - v1)) → Q (v4 - v3) M9)
def wX5_cut_120 (Q : Int32 → MM → Prop) (K56 : MM → Int32 → Int32 → Int32 → Prop) (v1 : Int32) (v2 : Int32) (M : MM) (v3 : Int32) (v4 : Int32) (v5 : Int32) : Prop :=
  K56 M v3 v4 (v5 + 1)
def wX5_cut_114 (Q : Int32 → MM → Prop) (K56 : MM → Int32 → Int32 → Int32 → Prop) (v1 : Int32) (v2 : Int32) (M : MM) (v3 : Int32) (v4 : Int32) (v5 : Int32) (p0 : Int32) (p1 : Int32) (p2 : Int32) : Prop :=
  wX5_moves (fun M10 => wX5_cut_120 Q K56 v1 v2 M10 (v3 + 1) v4 v5) M p2 p1 p0
def wX5_cut_98 (Q : Int32 → MM → Prop) (K56 : MM → Int32 → Int32 → Int32 → Prop) (v1 : Int32) (v2 : Int32) (M : MM) (v3 : Int32) (v4 : Int32) (v5 : Int32) (v6 : Int32) : Prop :=
  (v6 = 0 → wX5_cut_114 Q K56 v1 v2 M v3 v4 v5 0 v5 v3) ∧ (¬ v6 = 0 → wX5_cut_114 Q K56 v1 v2 M v3 v4 v5 (v2 - v1) v5 v3)
def wX5_cut_81 (Q : Int32 → MM → Prop) (K56 : MM → Int32 → Int32 → Int32 → Prop) (v1 : Int32) (v2 : Int32) (M : MM) (v3 : Int32) (v4 : Int32) (v5 : Int32) (p0 : Int32) : Prop :=
  (¬ p0 = 0 → wX5_cut_98 Q K56 v1 v2 M v3 v4 v5 p0) ∧ (p0 = 0 → wX5_endOf (fun r6 M7 => (v1 < r6 → wX5_cut_120 Q K56 v1 v2 M7 v3 v4 v5) ∧ (¬ v1 < r6 → wX5_cut_98 Q K56 v1 v2 M7 v3 v4 v5 p0)) M v5)
def wX5_cut_56 (Q : Int32 → MM → Prop)  (v1 : Int32) (v2 : Int32) : Nat → MM → Int32 → Int32 → Int32 → Prop
  | 0, _, _, _, _ => False
  | n + 1, M, v3, v4, v5 => (v4 ≤ v5 → ∀ M5 : MM, M5 = mset M 53 0 v3 → ((M5 53 325) < v2 → ((M5 53 325) ≤ v1 → wX5_cut_191 Q  v1 v2 M5 v3 v4 (M5 53 325) 325) ∧ (¬ (M5 53 325) ≤ v1 → wX5_cut_191 Q  v1 v2 M5 v3 v4 v1 325)) ∧ (¬ (M5 53 325) < v2 → wX5_cut_191 Q  v1 v2 M5 v3 v4 ((M5 53 325) - (v2 - v1)) 325)) ∧ (¬ v4 ≤ v5 → vp_in ((1 : Int32) + v5) (alen 53) ∧ (((M 53 ((1 : Int32) + v5).toNatClampNeg) < v2 → wX5_cut_81 Q (fun M v3 v4 v5 => wX5_cut_56 Q  v1 v2 n M v3 v4 v5) v1 v2 M v3 v4 v5 0) ∧ (¬ (M 53 ((1 : Int32) + v5).toNatClampNeg) < v2 → wX5_cut_81 Q (fun M v3 v4 v5 => wX5_cut_56 Q  v1 v2 n M v3 v4 v5) v1 v2 M v3 v4 v5 1)))
def wX5_cut (Q : Int32 → MM → Prop) (M : MM) (v1 : Int32) (v2 : Int32) : Prop :=
  wX5_isPlace (fun r1 M2 => (r1 = 0 → Q (-1) M2) ∧ (¬ r1 = 0 → wX5_isPlace (fun r3 M4 => (r3 = 0 → Q (-1) M4) ∧ (¬ r3 = 0 → (v1 < v2 → (20 ≤ ((M4 53 366) - (v2 - v1)) → ∃ m, wX5_cut_56 Q  v1 v2 m M4 0 (M4 53 0) 0) ∧ (¬ 20 ≤ ((M4 53 366) - (v2 - v1)) → Q (-2) M4)) ∧ (¬ v1 < v2 → Q (-1) M4))) M2 v2)) M v1
def wX5_holdsOf (Q : Int32 → MM → Prop) (M : MM) (v1 : Int32) : Prop :=
  wX5_longOf (fun r1 M2 => ¬ ((M 55 6) + r1) = 0 ∧ (Q ((M 53 366) / ((M 55 6) + r1)) M2)) M v1
def wX5_holds (Q : Int32 → MM → Prop) (M : MM) (v1 : Int32) : Prop :=
  wX5_in (fun r1 M2 => (r1 = 0 → Q (-1) M2) ∧ (¬ r1 = 0 → wX5_holdsOf (fun r3 M4 => Q r3 M4) M2 v1)) M (v1.toInt64) 1 99
def wX5_most_44 (Q : Int32 → MM → Prop) (K16 : MM → Int32 → Int32 → Prop) (v1 : Int32) (M : MM) (v3 : Int32) (p0 : Int32) : Prop :=
  K16 M p0 (v3 + 1)
def wX5_most_16 (Q : Int32 → MM → Prop)  (v1 : Int32) : Nat → MM → Int32 → Int32 → Prop
  | 0, _, _, _ => False
  | n + 1, M, v2, v3 => (100 ≤ v3 → (¬ v1 = 0 → wX5_holdsOf (fun r3 M4 => Q (v2 * r3) M4) M v2) ∧ (v1 = 0 → Q v2 M)) ∧ (¬ 100 ≤ v3 → wX5_holdsOf (fun r5 M6 => wX5_holdsOf (fun r7 M8 => ((v3 * r5) ≤ (v2 * r7) → wX5_most_44 Q (fun M v2 v3 => wX5_most_16 Q  v1 n M v2 v3) v1 M8 v3 v2) ∧ (¬ (v3 * r5) ≤ (v2 * r7) → wX5_most_44 Q (fun M v2 v3 => wX5_most_16 Q  v1 n M v2 v3) v1 M8 v3 v3)) M6 v2) M v3)
def wX5_most (Q : Int32 → MM → Prop) (M : MM) (v1 : Int32) : Prop :=
  wX5_in (fun r1 M2 => (¬ r1 = 0 → ∃ m, wX5_most_16 Q  v1 m M2 1 2) ∧ (r1 = 0 → Q (-1) M2)) M (v1.toInt64) 0 1
def wX5_streams_136 (Q : Int32 → MM → Prop) (K14 : MM → Int32 → Int32 → Int32 → Prop) (v1 : Int32) (v2 : Int32) (v3 : Int32) (v4 : Int32) (M : MM) (v6 : Int32) (v7 : Int32) (p0 : Int32) (p1 : Int32) : Prop :=
  K14 M (p1 + p0) v6 v7
def wX5_streams_102 (Q : Int32 → MM → Prop) (K14 : MM → Int32 → Int32 → Int32 → Prop) (v1 : Int32) (v2 : Int32) (v3 : Int32) (v4 : Int32) (M : MM) (v5 : Int32) (v6 : Int32) (p0 : Int32) : Prop :=
  wX5_flag (fun r6 M7 => ∀ M8 : MM, M8 = mset M7 52 21 ((M 52 21) + r6) → (p0 = 0 → wX5_streams_136 Q K14 v1 v2 v3 v4 M8 v6 p0 0 v5) ∧ (¬ p0 = 0 → wX5_streams_136 Q K14 v1 v2 v3 v4 M8 v6 p0 (M8 55 8) v5)) M p0
def wX5_streams_101 (Q : Int32 → MM → Prop) (K14 : MM → Int32 → Int32 → Int32 → Prop) (v1 : Int32) (v2 : Int32) (v3 : Int32) (v4 : Int32) (M : MM) (v5 : Int32) (v6 : Int32) : Prop :=
  wX5_streams_102 Q K14 v1 v2 v3 v4 M v5 v6 0
def wX5_streams_56 (Q : Int32 → MM → Prop) (K14 : MM → Int32 → Int32 → Int32 → Prop) (v1 : Int32) (v2 : Int32) (v3 : Int32) (v4 : Int32) (M : MM) (v6 : Int32) (p0 : Int32) : Prop :=
  ∀ x5 : Int32, x5 = (p0 + ((M 55 3) * (v2 + (M 55 6)))) → (v1 ≤ (v6 + 1) → wX5_streams_101 Q K14 v1 v2 v3 v4 M x5 (v6 + 1)) ∧ (¬ v1 ≤ (v6 + 1) → (((v6 + 1) * v3) ≤ x5 → wX5_streams_101 Q K14 v1 v2 v3 v4 M x5 (v6 + 1)) ∧ (¬ ((v6 + 1) * v3) ≤ x5 → wX5_streams_102 Q K14 v1 v2 v3 v4 M x5 (v6 + 1) 1))
def wX5_streams_54 (Q : Int32 → MM → Prop) (K14 : MM → Int32 → Int32 → Int32 → Prop) (v1 : Int32) (v2 : Int32) (v3 : Int32) (v4 : Int32) (M : MM) (v5 : Int32) (v6 : Int32) : Prop :=
  wX5_streams_56 Q K14 v1 v2 v3 v4 M v6 v5
def wX5_streams_14 (Q : Int32 → MM → Prop)  (v1 : Int32) (v2 : Int32) (v3 : Int32) (v4 : Int32) : Nat → MM → Int32 → Int32 → Int32 → Prop
  | 0, _, _, _, _ => False
  | n + 1, M, v5, v6, v7 => (v1 ≤ v6 → Q v5 M) ∧ (¬ v1 ≤ v6 → wX5_less (fun r2 M3 => ∀ x4 : Int32, x4 = (r2 - (1 : Int32)) → (v7 = 0 → wX5_streams_54 Q (fun M v5 v6 v7 => wX5_streams_14 Q  v1 v2 v3 v4 n M v5 v6 v7) v1 v2 v3 v4 M3 v5 v6) ∧ (¬ v7 = 0 → ((x4 * v3) ≤ v5 → wX5_streams_54 Q (fun M v5 v6 v7 => wX5_streams_14 Q  v1 v2 v3 v4 n M v5 v6 v7) v1 v2 v3 v4 M3 v5 v6) ∧ (¬ (x4 * v3) ≤ v5 → wX5_streams_56 Q (fun M v5 v6 v7 => wX5_streams_14 Q  v1 v2 v3 v4 n M v5 v6 v7) v1 v2 v3 v4 M3 v6 (x4 * v3)))) M (v6 + v4) v1)
def wX5_streams (Q : Int32 → MM → Prop) (M : MM) (v1 : Int32) (v2 : Int32) (v3 : Int32) (v4 : Int32) : Prop :=
  ∀ M1 : MM, M1 = mset M 52 21 0 → ∃ m, wX5_streams_14 Q  v1 v2 v3 v4 m M1 0 0 1
def wX5_isStream_40 (Q : Int32 → MM → Prop)  (v0 : Int32) (v1 : Int32) (v2 : Int32) (M : MM)  : Prop :=
  Q 0 M
def wX5_isStream (Q : Int32 → MM → Prop) (M : MM) (v0 : Int32) (v1 : Int32) (v2 : Int32) : Prop :=
  wX5_in (fun r1 M2 => (r1 = 0 → wX5_isStream_40 Q  v0 v1 v2 M2) ∧ (¬ r1 = 0 → wX5_in (fun r3 M4 => (r3 = 0 → wX5_isStream_40 Q  v0 v1 v2 M4) ∧ (¬ r3 = 0 → wX5_in (fun r5 M6 => (r5 = 0 → wX5_isStream_40 Q  v0 v1 v2 M6) ∧ (¬ r5 = 0 → Q 1 M6)) M4 (v2.toInt64) 0 9999)) M2 (v1.toInt64) 1 99)) M (v0.toInt64) 1 99
def wX5_stream (Q : Int32 → MM → Prop) (M : MM) (v1 : Int32) (v2 : Int32) (v3 : Int32) (v4 : Int32) (v5 : Int32) : Prop :=
  wX5_isStream (fun r1 M2 => (r1 = 0 → Q (-1) M2) ∧ (¬ r1 = 0 → wX5_in (fun r3 M4 => (r3 = 0 → Q (-1) M4) ∧ (¬ r3 = 0 → wX5_in (fun r5 M6 => (¬ r5 = 0 → wX5_streams (fun r7 M8 => (¬ v5 = 0 → Q (M8 52 21) M8) ∧ (v5 = 0 → Q r7 M8)) M6 v1 v2 v3 v4) ∧ (r5 = 0 → Q (-1) M6)) M4 (v5.toInt64) 0 1)) M2 (v4.toInt64) 1 99)) M v1 v2 v3
def wX5_buffer_69 (Q : Int32 → MM → Prop) (K38 : MM → Int32 → Int32 → Int32 → Prop) (v1 : Int32) (v2 : Int32) (v3 : Int32) (v4 : Int32) (M : MM) (v6 : Int32) (v7 : Int32) (v8 : Int32) (p0 : Int32) : Prop :=
  wX5_less (fun r9 M10 => K38 M10 p0 r9 (v7 + 1)) M v8 v6
def wX5_buffer_38 (Q : Int32 → MM → Prop)  (v1 : Int32) (v2 : Int32) (v3 : Int32) (v4 : Int32) : Nat → MM → Int32 → Int32 → Int32 → Prop
  | 0, _, _, _, _ => False
  | n + 1, M, v5, v6, v7 => (v1 < v7 → (¬ v4 = 0 → Q v6 M) ∧ (v4 = 0 → Q v5 M)) ∧ (¬ v1 < v7 → wX5_streams (fun r7 M8 => (v6 ≤ r7 → wX5_buffer_69 Q (fun M v5 v6 v7 => wX5_buffer_38 Q  v1 v2 v3 v4 n M v5 v6 v7) v1 v2 v3 v4 M8 v6 v7 r7 v5) ∧ (¬ v6 ≤ r7 → wX5_buffer_69 Q (fun M v5 v6 v7 => wX5_buffer_38 Q  v1 v2 v3 v4 n M v5 v6 v7) v1 v2 v3 v4 M8 v6 v7 r7 v7)) M v1 v2 v3 v7)
def wX5_buffer (Q : Int32 → MM → Prop) (M : MM) (v1 : Int32) (v2 : Int32) (v3 : Int32) (v4 : Int32) : Prop :=
  wX5_isStream (fun r1 M2 => (r1 = 0 → Q (-1) M2) ∧ (¬ r1 = 0 → wX5_in (fun r3 M4 => (¬ r3 = 0 → wX5_streams (fun r5 M6 => ∃ m, wX5_buffer_38 Q  v1 v2 v3 v4 m M6 1 r5 2) M4 v1 v2 v3 1) ∧ (r3 = 0 → Q (-1) M4)) M2 (v4.toInt64) 0 1)) M v1 v2 v3
def wX5_saw (Q : Int32 → MM → Prop) (M : MM) (v1 : Int32) (v2 : Int32) : Prop :=
  wX5_in (fun r1 M2 => (r1 = 0 → Q (-1) M2) ∧ (¬ r1 = 0 → wX5_in (fun r3 M4 => (¬ r3 = 0 → (¬ (M4 53 341) = 12 → vp_in ((342 : Int32) + ((2 : Int32) * (M4 53 341))) (alen 53) ∧ (∀ M5 : MM, M5 = mset M4 53 ((342 : Int32) + ((2 : Int32) * (M4 53 341))).toNatClampNeg v1 → vp_in (((342 : Int32) + ((2 : Int32) * (M5 53 341))) + (1 : Int32)) (alen 53) ∧ (∀ M6 : MM, M6 = mset M5 53 (((342 : Int32) + ((2 : Int32) * (M5 53 341))) + (1 : Int32)).toNatClampNeg v2 → ∀ M7 : MM, M7 = mset M6 53 341 ((M6 53 341) + (1 : Int32)) → Q (M7 53 341) M7))) ∧ ((M4 53 341) = 12 → Q (-3) M4)) ∧ (r3 = 0 → Q (-1) M4)) M2 (v2.toInt64) 0 9999)) M (v1.toInt64) 0 999
def wX5_forget (Q : Int32 → MM → Prop) (M : MM)  : Prop :=
  ∀ M1 : MM, M1 = mset M 53 341 0 → Q (M 53 341) M1
def wX5_canBe_2 (Q : Int32 → MM → Prop)  (v1 : Int32) (v2 : Int32) : Nat → MM → Int32 → Prop
  | 0, _, _ => False
  | n + 1, M, v3 => ((M 53 341) ≤ v3 → Q 1 M) ∧ (¬ (M 53 341) ≤ v3 → vp_in (((342 : Int32) + ((2 : Int32) * v3)) + (1 : Int32)) (alen 53) ∧ (wX5_turnsOf (fun r1 M2 => vp_in ((342 : Int32) + ((2 : Int32) * v3)) (alen 53) ∧ ((r1 = (M2 53 ((342 : Int32) + ((2 : Int32) * v3)).toNatClampNeg) → wX5_canBe_2 Q  v1 v2 n M2 (v3 + 1)) ∧ (¬ r1 = (M2 53 ((342 : Int32) + ((2 : Int32) * v3)).toNatClampNeg) → Q 0 M2))) M (M 53 (((342 : Int32) + ((2 : Int32) * v3)) + (1 : Int32)).toNatClampNeg) v1 v2))
def wX5_canBe (Q : Int32 → MM → Prop) (M : MM) (v1 : Int32) (v2 : Int32) : Prop :=
  ∃ m, wX5_canBe_2 Q  v1 v2 m M 0
def wX5_fits_72 (Q : Int32 → MM → Prop) (K22 : MM → Int32 → Int32 → Int32 → Prop) (K32 : MM → Int32 → Int32 → Int32 → Int32 → Prop) (v1 : Int32) (M : MM) (v2 : Int32) (v3 : Int32) (v4 : Int32) (v5 : Int32) : Prop :=
  K32 M v2 v3 v4 (v5 + 1)
def wX5_fits_68 (Q : Int32 → MM → Prop) (K22 : MM → Int32 → Int32 → Int32 → Prop) (K32 : MM → Int32 → Int32 → Int32 → Int32 → Prop) (v1 : Int32) (M : MM) (v2 : Int32) (v4 : Int32) (v5 : Int32) (p0 : Int32) : Prop :=
  wX5_fits_72 Q K22 K32 v1 M (v2 + 1) p0 v4 v5
def wX5_fits_32 (Q : Int32 → MM → Prop) (K22 : MM → Int32 → Int32 → Int32 → Prop) (v1 : Int32) : Nat → MM → Int32 → Int32 → Int32 → Int32 → Prop
  | 0, _, _, _, _, _ => False
  | n + 1, M, v2, v3, v4, v5 => (10 ≤ v5 → K22 M v2 v3 (v4 + 1)) ∧ (¬ 10 ≤ v5 → wX5_canBe (fun r3 M4 => (r3 = 0 → wX5_fits_72 Q K22 (fun M v2 v3 v4 v5 => wX5_fits_32 Q K22 v1 n M v2 v3 v4 v5) v1 M4 v2 v3 v4 v5) ∧ (¬ r3 = 0 → (¬ v3 = (-4) → wX5_fits_68 Q K22 (fun M v2 v3 v4 v5 => wX5_fits_32 Q K22 v1 n M v2 v3 v4 v5) v1 M4 v2 v4 v5 v3) ∧ (v3 = (-4) → wX5_fits_68 Q K22 (fun M v2 v3 v4 v5 => wX5_fits_32 Q K22 v1 n M v2 v3 v4 v5) v1 M4 v2 v4 v5 (((10 : Int32) * v4) + v5)))) M v4 v5)
def wX5_fits_22 (Q : Int32 → MM → Prop)  (v1 : Int32) : Nat → MM → Int32 → Int32 → Int32 → Prop
  | 0, _, _, _, _ => False
  | n + 1, M, v2, v3, v4 => (100 ≤ v4 → (¬ v1 = 0 → (¬ v3 = (-4) → (¬ v1 = 1 → Q (v3 - v3 / 10 * 10) M) ∧ (v1 = 1 → Q (v3 / 10) M)) ∧ (v3 = (-4) → Q (-4) M)) ∧ (v1 = 0 → Q v2 M)) ∧ (¬ 100 ≤ v4 → ∃ m, wX5_fits_32 Q (fun M v2 v3 v4 => wX5_fits_22 Q  v1 n M v2 v3 v4) v1 m M v2 v3 v4 1)
def wX5_fits (Q : Int32 → MM → Prop) (M : MM) (v1 : Int32) : Prop :=
  wX5_in (fun r1 M2 => (¬ r1 = 0 → ∃ m, wX5_fits_22 Q  v1 m M2 0 (-4) 5) ∧ (r1 = 0 → Q (-1) M2)) M (v1.toInt64) 0 2
def wX5_copies_2 (Q : MM → Prop)  (v1 : Int32) (v2 : Int32) : Nat → MM → Int32 → Prop
  | 0, _, _ => False
  | n + 1, M, v3 => (400 ≤ v3 → Q M) ∧ (¬ 400 ≤ v3 → vp_in (v2 + v3) (alen 53) ∧ (vp_in (v1 + v3) (alen 53) ∧ (∀ M1 : MM, M1 = mset M 53 (v1 + v3).toNatClampNeg (M 53 (v2 + v3).toNatClampNeg) → wX5_copies_2 Q  v1 v2 n M1 (v3 + 1))))
def wX5_copies (Q : MM → Prop) (M : MM) (v1 : Int32) (v2 : Int32) : Prop :=
  ∃ m, wX5_copies_2 Q  v1 v2 m M 0
def wX5_keep (Q : Int32 → MM → Prop) (M : MM) (v1 : Int32) : Prop :=
  wX5_in (fun r1 M2 => (¬ r1 = 0 → vp_in v1 (alen 54) ∧ (wX5_flag (fun r3 M4 => vp_in v1 (alen 54) ∧ (∀ M5 : MM, M5 = mset M4 54 v1.toNatClampNeg (vp_nar .boolean 1) → wX5_copies (fun M6 => Q r3 M6) M5 ((400 : Int32) * (v1 + (1 : Int32))) 0)) M2 (M2 54 v1.toNatClampNeg))) ∧ (r1 = 0 → Q (-1) M2)) M (v1.toInt64) 0 1
def wX5_back (Q : Int32 → MM → Prop) (M : MM) (v1 : Int32) : Prop :=
  wX5_in (fun r1 M2 => (¬ r1 = 0 → vp_in v1 (alen 54) ∧ ((¬ (M2 54 v1.toNatClampNeg) = 0 → wX5_copies (fun M3 => Q (M3 53 0) M3) M2 0 ((400 : Int32) * (v1 + (1 : Int32)))) ∧ ((M2 54 v1.toNatClampNeg) = 0 → Q (-2) M2))) ∧ (r1 = 0 → Q (-1) M2)) M (v1.toInt64) 0 1
def wX5_isSheet_28 (Q : Int32 → MM → Prop)  (v0 : Int32) (v1 : Int32) (M : MM)  : Prop :=
  Q 0 M
def wX5_isSheet (Q : Int32 → MM → Prop) (M : MM) (v0 : Int32) (v1 : Int32) : Prop :=
  wX5_in (fun r1 M2 => (r1 = 0 → wX5_isSheet_28 Q  v0 v1 M2) ∧ (¬ r1 = 0 → wX5_in (fun r3 M4 => (r3 = 0 → wX5_isSheet_28 Q  v0 v1 M4) ∧ (¬ r3 = 0 → Q 1 M4)) M2 (v1.toInt64) 0 2)) M (v0.toInt64) 0 3
def wX5_sheet_40 (Q : Int32 → MM → Prop)  (v1 : Int32) (v2 : Int32) (v3 : Int32) : Nat → MM → Int32 → Prop
  | 0, _, _ => False
  | n + 1, M, v4 => (40 ≤ v4 → Q 1 M) ∧ (¬ 40 ≤ v4 → vp_in (((40 : Int32) * v1) + v4) (alen 66) ∧ (∀ M5 : MM, M5 = mset M 66 (((40 : Int32) * v1) + v4).toNatClampNeg 0 → wX5_sheet_40 Q  v1 v2 v3 n M5 (v4 + 1)))
def wX5_sheet (Q : Int32 → MM → Prop) (M : MM) (v1 : Int32) (v2 : Int32) (v3 : Int32) : Prop :=
  wX5_isSheet (fun r1 M2 => (r1 = 0 → Q (-1) M2) ∧ (¬ r1 = 0 → (v3 ≤ 40 → (0 ≤ v3 → vp_in v1 (alen 64) ∧ (∀ M3 : MM, M3 = mset M2 64 v1.toNatClampNeg v2 → vp_in v1 (alen 65) ∧ (∀ M4 : MM, M4 = mset M3 65 v1.toNatClampNeg v3 → ∃ m, wX5_sheet_40 Q  v1 v2 v3 m M4 0))) ∧ (¬ 0 ≤ v3 → Q (-14) M2)) ∧ (¬ v3 ≤ 40 → Q (-1) M2))) M v1 v2
def wX5_lay_85 (Q : Int32 → MM → Prop)  (v1 : Int32) (v2 : Int32) (v3 : Int32) (M : MM) (p0 : Int32) (p1 : Int32) : Prop :=
  vp_in p1 (alen 66) ∧ (∀ M5 : MM, M5 = mset M 66 p1.toNatClampNeg p0 → Q 1 M5)
def wX5_lay (Q : Int32 → MM → Prop) (M : MM) (v1 : Int32) (v2 : Int32) (v3 : Int32) : Prop :=
  wX5_isSheet (fun r1 M2 => (¬ r1 = 0 → vp_in v1 (alen 64) ∧ ((¬ (M2 64 v1.toNatClampNeg) = (-4) → vp_in v1 (alen 65) ∧ (wX5_in (fun r3 M4 => (¬ r3 = 0 → vp_in v1 (alen 64) ∧ ((¬ (M4 64 v1.toNatClampNeg) = 0 → vp_in v1 (alen 64) ∧ ((¬ (M4 64 v1.toNatClampNeg) = 1 → wX5_lay_85 Q  v1 v2 v3 M4 v3 (((40 : Int32) * v1) + v2)) ∧ ((M4 64 v1.toNatClampNeg) = 1 → wX5_lay_85 Q  v1 v2 v3 M4 (v3.toInt16.toInt32) (((40 : Int32) * v1) + v2)))) ∧ ((M4 64 v1.toNatClampNeg) = 0 → wX5_lay_85 Q  v1 v2 v3 M4 (v3.toInt8.toInt32) (((40 : Int32) * v1) + v2)))) ∧ (r3 = 0 → Q (-12) M4)) M2 (v2.toInt64) 0 (((M2 65 v1.toNatClampNeg) - (1 : Int32)).toInt64))) ∧ ((M2 64 v1.toNatClampNeg) = (-4) → Q (-11) M2))) ∧ (r1 = 0 → Q (-1) M2)) M v1 0
def wX5_read_181 (Q : Int32 → MM → Prop)  (v1 : Int32) (v2 : Int32) (v3 : Int32) (v4 : Int32) : Nat → MM → Int32 → Int32 → Prop
  | 0, _, _, _ => False
  | n + 1, M, v6, v7 => (v6 ≤ v7 → Q v6 M) ∧ (¬ v6 ≤ v7 → vp_in ((((40 : Int32) * v1) + v3) + v7) (alen 66) ∧ (wX5_type (fun r9 M10 => wX5_read_181 Q  v1 v2 v3 v4 n M10 v6 (v7 + 1)) M (M 66 ((((40 : Int32) * v1) + v3) + v7).toNatClampNeg)))
def wX5_read_172 (Q : Int32 → MM → Prop)  (v1 : Int32) (v2 : Int32) (v3 : Int32) (v4 : Int32) (M : MM) (v5 : Int32) (v6 : Int32) : Prop :=
  ∀ M8 : MM, M8 = mset M 52 25 v5 → ∃ m, wX5_read_181 Q  v1 v2 v3 v4 m M8 v6 0
def wX5_read_166 (Q : Int32 → MM → Prop) (K32 : MM → Int32 → Int32 → Int32 → Prop) (v1 : Int32) (v2 : Int32) (v3 : Int32) (v4 : Int32) (M : MM) (v5 : Int32) (v6 : Int32) (v7 : Int32) : Prop :=
  K32 M v5 v6 (v7 + 1)
def wX5_read_106 (Q : Int32 → MM → Prop) (K32 : MM → Int32 → Int32 → Int32 → Prop) (v1 : Int32) (v2 : Int32) (v3 : Int32) (v4 : Int32) (M : MM) (v6 : Int32) (v7 : Int32) (p0 : Int32) : Prop :=
  (¬ p0 = 0 → wX5_read_166 Q K32 v1 v2 v3 v4 M p0 v6 v7) ∧ (p0 = 0 → vp_in ((((40 : Int32) * v1) + v3) + v7) (alen 66) ∧ (wX5_in (fun r6 M7 => (¬ r6 = 0 → (¬ ((M7 53 327) + v6) = 12 → wX5_read_166 Q K32 v1 v2 v3 v4 M7 p0 (v6 + 1) v7) ∧ (((M7 53 327) + v6) = 12 → Q (-3) M7)) ∧ (r6 = 0 → Q (((-20) : Int32) - v7) M7)) M ((M 66 ((((40 : Int32) * v1) + v3) + v7).toNatClampNeg).toInt64) 0 255))
def wX5_read_101 (Q : Int32 → MM → Prop) (K32 : MM → Int32 → Int32 → Int32 → Prop) (v1 : Int32) (v2 : Int32) (v3 : Int32) (v4 : Int32) (M : MM) (v6 : Int32) (v7 : Int32) : Prop :=
  wX5_read_106 Q K32 v1 v2 v3 v4 M v6 v7 2
def wX5_read_32 (Q : Int32 → MM → Prop)  (v1 : Int32) (v2 : Int32) (v3 : Int32) (v4 : Int32) : Nat → MM → Int32 → Int32 → Int32 → Prop
  | 0, _, _, _, _ => False
  | n + 1, M, v5, v6, v7 => (v4 ≤ v7 → wX5_read_172 Q  v1 v2 v3 v4 M v5 v6) ∧ (¬ v4 ≤ v7 → (¬ v5 = 0 → wX5_read_172 Q  v1 v2 v3 v4 M v5 v6) ∧ (v5 = 0 → ∀ x5 : Int64, x5 = ((v3.toInt64) + (v7.toInt64)) → vp_in v1 (alen 64) ∧ ((¬ (M 64 v1.toNatClampNeg) = (-4) → vp_in v1 (alen 64) ∧ (((M 64 v1.toNatClampNeg) = v2 → ((lg_cmp x5 0) < 0 → wX5_read_101 Q (fun M v5 v6 v7 => wX5_read_32 Q  v1 v2 v3 v4 n M v5 v6 v7) v1 v2 v3 v4 M v6 v7) ∧ (¬ (lg_cmp x5 0) < 0 → vp_in v1 (alen 65) ∧ (((lg_cmp x5 ((M 65 v1.toNatClampNeg).toInt64)) < 0 → wX5_read_106 Q (fun M v5 v6 v7 => wX5_read_32 Q  v1 v2 v3 v4 n M v5 v6 v7) v1 v2 v3 v4 M v6 v7 0) ∧ (¬ (lg_cmp x5 ((M 65 v1.toNatClampNeg).toInt64)) < 0 → wX5_read_101 Q (fun M v5 v6 v7 => wX5_read_32 Q  v1 v2 v3 v4 n M v5 v6 v7) v1 v2 v3 v4 M v6 v7)))) ∧ (¬ (M 64 v1.toNatClampNeg) = v2 → wX5_read_106 Q (fun M v5 v6 v7 => wX5_read_32 Q  v1 v2 v3 v4 n M v5 v6 v7) v1 v2 v3 v4 M v6 v7 3))) ∧ ((M 64 v1.toNatClampNeg) = (-4) → wX5_read_106 Q (fun M v5 v6 v7 => wX5_read_32 Q  v1 v2 v3 v4 n M v5 v6 v7) v1 v2 v3 v4 M v6 v7 1))))
def wX5_read (Q : Int32 → MM → Prop) (M : MM) (v1 : Int32) (v2 : Int32) (v3 : Int32) (v4 : Int32) : Prop :=
  wX5_isSheet (fun r1 M2 => (r1 = 0 → Q (-1) M2) ∧ (¬ r1 = 0 → wX5_in (fun r3 M4 => (¬ r3 = 0 → ∃ m, wX5_read_32 Q  v1 v2 v3 v4 m M4 0 0 0) ∧ (r3 = 0 → Q (-1) M4)) M2 (v4.toInt64) 0 12)) M v1 v2
def wX5_torn (Q : Int32 → MM → Prop) (M : MM)  : Prop :=
  Q (M 52 25) M
def wX5_count_37 (Q : Int32 → MM → Prop) (K7 : MM → Int32 → Int32 → Int32 → Prop) (v1 : Int32) (M : MM) (v3 : Int32) (v4 : Int32) (p0 : Int32) (p1 : Int32) : Prop :=
  wX5_flag (fun r5 M6 => vp_in ((13 : Int32) + v4) (alen 53) ∧ (∀ x7 : Int32, x7 = (v3 + (M6 53 ((13 : Int32) + v4).toNatClampNeg)) → K7 M6 (p1 + r5) x7 (v4 + 1))) M p0
def wX5_count_7 (Q : Int32 → MM → Prop)  (v1 : Int32) : Nat → MM → Int32 → Int32 → Int32 → Prop
  | 0, _, _, _, _ => False
  | n + 1, M, v2, v3, v4 => ((M 53 0) ≤ v4 → (v1 = 0 → Q (M 53 0) M) ∧ (¬ v1 = 0 → (v1 = 1 → Q v2 M) ∧ (¬ v1 = 1 → (v1 = 2 → Q v3 M) ∧ (¬ v1 = 2 → (v1 = 3 → Q (M 53 341) M) ∧ (¬ v1 = 3 → (v1 = 4 → wX5_flag (fun r1 M2 => wX5_flag (fun r3 M4 => Q (r1 + r3) M4) M2 (M2 54 1)) M (M 54 0)) ∧ (¬ v1 = 4 → (v1 = 5 → Q (M 52 9) M) ∧ (¬ v1 = 5 → (v1 = 6 → (¬ (M 64 0) = (-4) → Q (M 65 0) M) ∧ ((M 64 0) = (-4) → Q (-4) M)) ∧ (¬ v1 = 6 → Q (-1) M)))))))) ∧ (¬ (M 53 0) ≤ v4 → vp_in ((13 : Int32) + v4) (alen 53) ∧ ((¬ (M 53 ((13 : Int32) + v4).toNatClampNeg) = 0 → wX5_count_37 Q (fun M v2 v3 v4 => wX5_count_7 Q  v1 n M v2 v3 v4) v1 M v3 v4 0 v2) ∧ ((M 53 ((13 : Int32) + v4).toNatClampNeg) = 0 → wX5_count_37 Q (fun M v2 v3 v4 => wX5_count_7 Q  v1 n M v2 v3 v4) v1 M v3 v4 1 v2)))
def wX5_count (Q : Int32 → MM → Prop) (M : MM) (v1 : Int32) : Prop :=
  ∃ m, wX5_count_7 Q  v1 m M 0 0 0
