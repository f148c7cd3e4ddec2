theorem inX4_fault_X4 : ∀ w ∈ u_ws RX4 TX4 12, w ∈ wsX4_fault := uX4_fault__wsX40
set_option maxRecDepth 100000 in
set_option maxHeartbeats 4000000 in
theorem ctX4_fault (l : Launch) (g : GG) (M : MM)  (Q : Int32 → MM → Prop) (hF : full g) (hw : wX4_fault Q M ) : MI g l yX4_fault wsX4_fault (rmOf 0 0) [.ref (gA g 0)] M Q := by
  refine mk_MI (cc := cX4_fault) (maxL := 1) (by decide) rfl (Nat.le_of_ble_eq_true rfl) ?_
  intro z Qf hC hR
  show XX z g Qf 1 0 [(0, .ref (gA g 0))] [] M
  refine q_aload_n hC dX4_fault_0 0 rfl 1 rfl ?_
  refine q_getI (C := RX4) (T := TX4) (N := 12) (ci := 4) hC inX4_fault_X4 (obF0 hF) rfl 9 (by decide) (uX4_fault__o _ (List.mem_of_getElem? (l := owX4_fault) (i := 1) rfl)) rfl (fun _ => rfl) dX4_fault_1 4 rfl ?_
  exact r_iret hR dX4_fault_4 hw
theorem inX4_rule_X4 : ∀ w ∈ u_ws RX4 TX4 12, w ∈ wsX4_rule := uX4_rule__wsX40
set_option maxRecDepth 100000 in
set_option maxHeartbeats 4000000 in
theorem ctX4_rule (l : Launch) (g : GG) (M : MM) (v1 : Int32) (Q : Int32 → MM → Prop) (hF : full g) (hw : wX4_rule Q M v1) : MI g l yX4_rule wsX4_rule (rmOf 1 22) [.ref (gA g 0), .int v1] M Q := by
  refine mk_MI (cc := cX4_rule) (maxL := 2) (by decide) rfl (Nat.le_of_ble_eq_true rfl) ?_
  intro z Qf hC hR
  show XX z g Qf 2 0 [(0, .ref (gA g 0)), (1, .int v1)] [] M
  refine q_iload_n hC dX4_rule_0 1 rfl 1 rfl ?_
  refine q_iconst (v := 0) hC dX4_rule_1 rfl 2 rfl ?_
  refine q_bipush (v := 8) hC dX4_rule_2 (by decide) 4 rfl ?_
  refine r_callI hC (go_T (As := [.int v1, .int 0, .int 8]) (rest := []) hC (ctX4_isBetween (zl z) g M v1 0 8 _ hw) 3 gX4_rule_X4_isBetween rfl ⟨rfl, rfl⟩ hdT_X4_isBetween ⟨Nat.le_of_ble_eq_true rfl, Nat.le_of_ble_eq_true rfl⟩ rfl rfl (Nat.le_of_ble_eq_true rfl) dX4_rule_4) 7 rfl (fun r1 M2 hw => ?_)
  refine q_if_eq hC 21 dX4_rule_7 (by decide) 10 rfl hw (fun hw => ?_) (fun hw => ?_)
  · refine q_iconst (v := (-1)) hC dX4_rule_21 rfl 22 rfl ?_
    exact r_iret hR dX4_rule_22 hw
  · refine q_aload_n hC dX4_rule_10 0 rfl 11 rfl ?_
    refine q_getR (C := RX4) (T := TX4) (N := 12) (ci := 4) hC inX4_rule_X4 (obF0 hF) rfl 0 (by decide) (uX4_rule__o _ (List.mem_of_getElem? (l := owX4_rule) (i := 1) rfl)) rfl 1 (fun _ => rfl) dX4_rule_11 14 rfl ?_
    refine q_iload_n hC dX4_rule_14 1 rfl 15 rfl ?_
    refine r_callI hC (go_V (q := (RX2, TX2, 14)) (As := [.int v1]) (rest := []) hC (ctX2_ruled (zl z) g M2 1 v1 _ (hF.tp (b := 1) (Or.inl rfl)) hw) 1 gX4_rule_X2_ruled rfl ⟨rfl, rfl⟩ hdV_X2_ruled ⟨Nat.le_of_ble_eq_true rfl, Nat.le_of_ble_eq_true rfl⟩ (hF.tp (b := 1) (Or.inl rfl)).ob rfl rfl rfl (Nat.le_of_ble_eq_true rfl) dX4_rule_15) 18 rfl (fun r3 M4 hw => ?_)
    refine q_goto hC 22 dX4_rule_18 (by decide) ?_
    exact r_iret hR dX4_rule_22 hw
theorem inX4_turns_X4 : ∀ w ∈ u_ws RX4 TX4 12, w ∈ wsX4_turns := uX4_turns__wsX40
set_option maxRecDepth 100000 in
set_option maxHeartbeats 4000000 in
theorem ctX4_turns (l : Launch) (g : GG) (M : MM) (v1 : Int32) (v2 : Int32) (Q : Int32 → MM → Prop) (hF : full g) (hw : wX4_turns Q M v1 v2) : MI g l yX4_turns wsX4_turns (rmOf 3 68) [.ref (gA g 0), .int v1, .int v2] M Q := by
  refine mk_MI (cc := cX4_turns) (maxL := 3) (by decide) rfl (Nat.le_of_ble_eq_true rfl) ?_
  intro z Qf hC hR
  show XX z g Qf 3 0 [(0, .ref (gA g 0)), (1, .int v1), (2, .int v2)] [] M
  refine q_aload_n hC dX4_turns_0 0 rfl 1 rfl ?_
  refine q_getR (C := RX4) (T := TX4) (N := 12) (ci := 4) hC inX4_turns_X4 (obF0 hF) rfl 0 (by decide) (uX4_turns__o _ (List.mem_of_getElem? (l := owX4_turns) (i := 1) rfl)) rfl 1 (fun _ => rfl) dX4_turns_1 4 rfl ?_
  refine q_iload_n hC dX4_turns_4 1 rfl 5 rfl ?_
  refine r_callI hC (go_V (q := (RX2, TX2, 14)) (As := [.int v1]) (rest := []) hC (ctX2_hasPlace (zl z) g M 1 v1 _ (hF.tp (b := 1) (Or.inl rfl)) hw) 1 gX4_turns_X2_hasPlace rfl ⟨rfl, rfl⟩ hdV_X2_hasPlace ⟨Nat.le_of_ble_eq_true rfl, Nat.le_of_ble_eq_true rfl⟩ (hF.tp (b := 1) (Or.inl rfl)).ob rfl rfl rfl (Nat.le_of_ble_eq_true rfl) dX4_turns_5) 8 rfl (fun r1 M2 hw => ?_)
  refine q_if_ne hC 13 dX4_turns_8 (by decide) 11 rfl hw (fun hw => ?_) (fun hw => ?_)
  · refine q_iload_n hC dX4_turns_13 2 rfl 14 rfl ?_
    refine q_if_eq hC 28 dX4_turns_14 (by decide) 17 rfl hw (fun hw => ?_) (fun hw => ?_)
    · refine q_aload_n hC dX4_turns_28 0 rfl 29 rfl ?_
      refine q_getR (C := RX4) (T := TX4) (N := 12) (ci := 4) hC inX4_turns_X4 (obF0 hF) rfl 0 (by decide) (uX4_turns__o _ (List.mem_of_getElem? (l := owX4_turns) (i := 1) rfl)) rfl 1 (fun _ => rfl) dX4_turns_29 32 rfl ?_
      refine q_iload_n hC dX4_turns_32 1 rfl 33 rfl ?_
      refine r_callI hC (go_V (q := (RX2, TX2, 14)) (As := [.int v1]) (rest := []) hC (ctX2_rightTurns (zl z) g M2 1 v1 _ (hF.tp (b := 1) (Or.inl rfl)) hw) 1 gX4_turns_X2_rightTurns rfl ⟨rfl, rfl⟩ hdV_X2_rightTurns ⟨Nat.le_of_ble_eq_true rfl, Nat.le_of_ble_eq_true rfl⟩ (hF.tp (b := 1) (Or.inl rfl)).ob rfl rfl rfl (Nat.le_of_ble_eq_true rfl) dX4_turns_33) 36 rfl (fun r3 M4 hw => ?_)
      exact r_iret hR dX4_turns_36 hw
    · refine q_aload_n hC dX4_turns_17 0 rfl 18 rfl ?_
      refine q_getR (C := RX4) (T := TX4) (N := 12) (ci := 4) hC inX4_turns_X4 (obF0 hF) rfl 0 (by decide) (uX4_turns__o _ (List.mem_of_getElem? (l := owX4_turns) (i := 1) rfl)) rfl 1 (fun _ => rfl) dX4_turns_18 21 rfl ?_
      refine q_iload_n hC dX4_turns_21 1 rfl 22 rfl ?_
      refine r_callI hC (go_V (q := (RX2, TX2, 14)) (As := [.int v1]) (rest := []) hC (ctX2_leftTurns (zl z) g M2 1 v1 _ (hF.tp (b := 1) (Or.inl rfl)) hw) 1 gX4_turns_X2_leftTurns rfl ⟨rfl, rfl⟩ hdV_X2_leftTurns ⟨Nat.le_of_ble_eq_true rfl, Nat.le_of_ble_eq_true rfl⟩ (hF.tp (b := 1) (Or.inl rfl)).ob rfl rfl rfl (Nat.le_of_ble_eq_true rfl) dX4_turns_22) 25 rfl (fun r5 M6 hw => ?_)
      refine q_goto hC 36 dX4_turns_25 (by decide) ?_
      exact r_iret hR dX4_turns_36 hw
  · refine q_iconst (v := (-1)) hC dX4_turns_11 rfl 12 rfl ?_
    exact r_iret hR dX4_turns_12 hw
theorem hdV_X2_lastShowing : yX2_lastShowing.cls = RX2 ∧ yX2_lastShowing.cls ≠ "java/lang/invoke/MethodHandle" ∧ yX2_lastShowing.cls ≠ "java/lang/invoke/VarHandle" ∧ (parseMethodDescriptor yX2_lastShowing.desc).map (fun d => d.parameters.length) = some 1 := by decide +kernel
theorem inX4_shows_X4 : ∀ w ∈ u_ws RX4 TX4 12, w ∈ wsX4_shows := uX4_shows__wsX40
set_option maxRecDepth 100000 in
set_option maxHeartbeats 4000000 in
theorem ctX4_shows (l : Launch) (g : GG) (M : MM) (v1 : Int32) (v2 : Int32) (Q : Int32 → MM → Prop) (hF : full g) (hw : wX4_shows Q M v1 v2) : MI g l yX4_shows wsX4_shows (rmOf 4 86) [.ref (gA g 0), .int v1, .int v2] M Q := by
  refine mk_MI (cc := cX4_shows) (maxL := 3) (by decide) rfl (Nat.le_of_ble_eq_true rfl) ?_
  intro z Qf hC hR
  show XX z g Qf 3 0 [(0, .ref (gA g 0)), (1, .int v1), (2, .int v2)] [] M
  refine q_iload_n hC dX4_shows_0 1 rfl 1 rfl ?_
  refine q_if_lt hC 13 dX4_shows_1 (by decide) 4 rfl hw (fun hw => ?_) (fun hw => ?_)
  · refine q_iconst (v := (-1)) hC dX4_shows_13 rfl 14 rfl ?_
    exact r_iret hR dX4_shows_14 hw
  · refine q_iload_n hC dX4_shows_4 2 rfl 5 rfl ?_
    refine q_iconst (v := 0) hC dX4_shows_5 rfl 6 rfl ?_
    refine q_iconst (v := 1) hC dX4_shows_6 rfl 7 rfl ?_
    refine r_callI hC (go_T (As := [.int v2, .int 0, .int 1]) (rest := []) hC (ctX4_isBetween (zl z) g M v2 0 1 _ hw) 3 gX4_shows_X4_isBetween rfl ⟨rfl, rfl⟩ hdT_X4_isBetween ⟨Nat.le_of_ble_eq_true rfl, Nat.le_of_ble_eq_true rfl⟩ rfl rfl (Nat.le_of_ble_eq_true rfl) dX4_shows_7) 10 rfl (fun r1 M2 hw => ?_)
    refine q_if_ne hC 15 dX4_shows_10 (by decide) 13 rfl hw (fun hw => ?_) (fun hw => ?_)
    · refine q_iload_n hC dX4_shows_15 2 rfl 16 rfl ?_
      refine q_if_ne hC 30 dX4_shows_16 (by decide) 19 rfl hw (fun hw => ?_) (fun hw => ?_)
      · refine q_aload_n hC dX4_shows_30 0 rfl 31 rfl ?_
        refine q_getR (C := RX4) (T := TX4) (N := 12) (ci := 4) hC inX4_shows_X4 (obF0 hF) rfl 0 (by decide) (uX4_shows__o _ (List.mem_of_getElem? (l := owX4_shows) (i := 1) rfl)) rfl 1 (fun _ => rfl) dX4_shows_31 34 rfl ?_
        refine q_iload_n hC dX4_shows_34 1 rfl 35 rfl ?_
        refine r_callI hC (go_V (q := (RX2, TX2, 14)) (As := [.int v1]) (rest := []) hC (ctX2_lastShowing (zl z) g M2 1 v1 _ (hF.tp (b := 1) (Or.inl rfl)) hw) 1 gX4_shows_X2_lastShowing rfl ⟨rfl, rfl⟩ hdV_X2_lastShowing ⟨Nat.le_of_ble_eq_true rfl, Nat.le_of_ble_eq_true rfl⟩ (hF.tp (b := 1) (Or.inl rfl)).ob rfl rfl rfl (Nat.le_of_ble_eq_true rfl) dX4_shows_35) 38 rfl (fun r3 M4 hw => ?_)
        exact r_iret hR dX4_shows_38 hw
      · refine q_aload_n hC dX4_shows_19 0 rfl 20 rfl ?_
        refine q_getR (C := RX4) (T := TX4) (N := 12) (ci := 4) hC inX4_shows_X4 (obF0 hF) rfl 0 (by decide) (uX4_shows__o _ (List.mem_of_getElem? (l := owX4_shows) (i := 1) rfl)) rfl 1 (fun _ => rfl) dX4_shows_20 23 rfl ?_
        refine q_iload_n hC dX4_shows_23 1 rfl 24 rfl ?_
        refine r_callI hC (go_V (q := (RX2, TX2, 14)) (As := [.int v1]) (rest := []) hC (ctX2_firstShowing (zl z) g M2 1 v1 _ (hF.tp (b := 1) (Or.inl rfl)) hw) 1 gX4_shows_X2_firstShowing rfl ⟨rfl, rfl⟩ hdV_X2_firstShowing ⟨Nat.le_of_ble_eq_true rfl, Nat.le_of_ble_eq_true rfl⟩ (hF.tp (b := 1) (Or.inl rfl)).ob rfl rfl rfl (Nat.le_of_ble_eq_true rfl) dX4_shows_24) 27 rfl (fun r5 M6 hw => ?_)
        refine q_goto hC 38 dX4_shows_27 (by decide) ?_
        exact r_iret hR dX4_shows_38 hw
    · refine q_iconst (v := (-1)) hC dX4_shows_13 rfl 14 rfl ?_
      exact r_iret hR dX4_shows_14 hw
theorem hdV_X2_meetingPlace : yX2_meetingPlace.cls = RX2 ∧ yX2_meetingPlace.cls ≠ "java/lang/invoke/MethodHandle" ∧ yX2_meetingPlace.cls ≠ "java/lang/invoke/VarHandle" ∧ (parseMethodDescriptor yX2_meetingPlace.desc).map (fun d => d.parameters.length) = some 0 := by decide +kernel
theorem inX4_meet_X4 : ∀ w ∈ u_ws RX4 TX4 12, w ∈ wsX4_meet := uX4_meet__wsX40
set_option maxRecDepth 100000 in
set_option maxHeartbeats 4000000 in
theorem ctX4_meet (l : Launch) (g : GG) (M : MM)  (Q : Int32 → MM → Prop) (hF : full g) (hw : wX4_meet Q M ) : MI g l yX4_meet wsX4_meet (rmOf 4 92) [.ref (gA g 0)] M Q := by
  refine mk_MI (cc := cX4_meet) (maxL := 1) (by decide) rfl (Nat.le_of_ble_eq_true rfl) ?_
  intro z Qf hC hR
  show XX z g Qf 1 0 [(0, .ref (gA g 0))] [] M
  refine q_aload_n hC dX4_meet_0 0 rfl 1 rfl ?_
  refine q_getR (C := RX4) (T := TX4) (N := 12) (ci := 4) hC inX4_meet_X4 (obF0 hF) rfl 0 (by decide) (uX4_meet__o _ (List.mem_of_getElem? (l := owX4_meet) (i := 1) rfl)) rfl 1 (fun _ => rfl) dX4_meet_1 4 rfl ?_
  refine r_callI hC (go_V (q := (RX2, TX2, 14)) (As := []) (rest := []) hC (ctX2_meetingPlace (zl z) g M 1 _ (hF.tp (b := 1) (Or.inl rfl)) hw) 0 gX4_meet_X2_meetingPlace rfl ⟨rfl, rfl⟩ hdV_X2_meetingPlace ⟨Nat.le_of_ble_eq_true rfl, Nat.le_of_ble_eq_true rfl⟩ (hF.tp (b := 1) (Or.inl rfl)).ob rfl rfl rfl (Nat.le_of_ble_eq_true rfl) dX4_meet_4) 7 rfl (fun r1 M2 hw => ?_)
  exact r_iret hR dX4_meet_7 hw
theorem inX4_ticks_X4 : ∀ w ∈ u_ws RX4 TX4 12, w ∈ wsX4_ticks := uX4_ticks__wsX40
set_option maxRecDepth 100000 in
set_option maxHeartbeats 4000000 in
theorem ctX4_ticks (l : Launch) (g : GG) (M : MM) (v1 : Int32) (v2 : Int32) (v3 : Int32) (Q : Int32 → MM → Prop) (hF : full g) (hw : wX4_ticks Q M v1 v2 v3) : MI g l yX4_ticks wsX4_ticks (rmOf 4 93) [.ref (gA g 0), .int v1, .int v2, .int v3] M Q := by
  refine mk_MI (cc := cX4_ticks) (maxL := 4) (by decide) rfl (Nat.le_of_ble_eq_true rfl) ?_
  intro z Qf hC hR
  show XX z g Qf 4 0 [(0, .ref (gA g 0)), (1, .int v1), (2, .int v2), (3, .int v3)] [] M
  refine q_aload_n hC dX4_ticks_0 0 rfl 1 rfl ?_
  refine q_getR (C := RX4) (T := TX4) (N := 12) (ci := 4) hC inX4_ticks_X4 (obF0 hF) rfl 0 (by decide) (uX4_ticks__o _ (List.mem_of_getElem? (l := owX4_ticks) (i := 1) rfl)) rfl 1 (fun _ => rfl) dX4_ticks_1 4 rfl ?_
  refine q_iload_n hC dX4_ticks_4 1 rfl 5 rfl ?_
  refine r_callI hC (go_V (q := (RX2, TX2, 14)) (As := [.int v1]) (rest := []) hC (ctX2_hasPlace (zl z) g M 1 v1 _ (hF.tp (b := 1) (Or.inl rfl)) hw) 1 gX4_ticks_X2_hasPlace rfl ⟨rfl, rfl⟩ hdV_X2_hasPlace ⟨Nat.le_of_ble_eq_true rfl, Nat.le_of_ble_eq_true rfl⟩ (hF.tp (b := 1) (Or.inl rfl)).ob rfl rfl rfl (Nat.le_of_ble_eq_true rfl) dX4_ticks_5) 8 rfl (fun r1 M2 hw => ?_)
  refine q_if_eq hC 22 dX4_ticks_8 (by decide) 11 rfl hw (fun hw => ?_) (fun hw => ?_)
  · refine q_iconst (v := (-1)) hC dX4_ticks_22 rfl 23 rfl ?_
    exact r_iret hR dX4_ticks_23 hw
  · refine q_aload_n hC dX4_ticks_11 0 rfl 12 rfl ?_
    refine q_getR (C := RX4) (T := TX4) (N := 12) (ci := 4) hC inX4_ticks_X4 (obF0 hF) rfl 0 (by decide) (uX4_ticks__o _ (List.mem_of_getElem? (l := owX4_ticks) (i := 1) rfl)) rfl 1 (fun _ => rfl) dX4_ticks_12 15 rfl ?_
    refine q_iload_n hC dX4_ticks_15 2 rfl 16 rfl ?_
    refine r_callI hC (go_V (q := (RX2, TX2, 14)) (As := [.int v2]) (rest := []) hC (ctX2_hasPlace (zl z) g M2 1 v2 _ (hF.tp (b := 1) (Or.inl rfl)) hw) 1 gX4_ticks_X2_hasPlace rfl ⟨rfl, rfl⟩ hdV_X2_hasPlace ⟨Nat.le_of_ble_eq_true rfl, Nat.le_of_ble_eq_true rfl⟩ (hF.tp (b := 1) (Or.inl rfl)).ob rfl rfl rfl (Nat.le_of_ble_eq_true rfl) dX4_ticks_16) 19 rfl (fun r3 M4 hw => ?_)
    refine q_if_ne hC 24 dX4_ticks_19 (by decide) 22 rfl hw (fun hw => ?_) (fun hw => ?_)
    · refine q_iload_n hC dX4_ticks_24 3 rfl 25 rfl ?_
      by_cases c0 : v3 = 0
      · have hw := hw.1 c0
        refine q_tabIn hC 52 dX4_ticks_25 (by rw [c0]; decide) (by rw [c0]; decide) (by rw [c0]; rfl) (by decide) ?_
        refine q_aload_n hC dX4_ticks_52 0 rfl 53 rfl ?_
        refine q_getR (C := RX4) (T := TX4) (N := 12) (ci := 4) hC inX4_ticks_X4 (obF0 hF) rfl 0 (by decide) (uX4_ticks__o _ (List.mem_of_getElem? (l := owX4_ticks) (i := 1) rfl)) rfl 1 (fun _ => rfl) dX4_ticks_53 56 rfl ?_
        refine q_iload_n hC dX4_ticks_56 1 rfl 57 rfl ?_
        refine q_iload_n hC dX4_ticks_57 2 rfl 58 rfl ?_
        refine r_callI hC (go_V (q := (RX2, TX2, 14)) (As := [.int v1, .int v2]) (rest := []) hC (ctX2_played (zl z) g M4 1 v1 v2 _ (hF.tp (b := 1) (Or.inl rfl)) hw) 2 gX4_ticks_X2_played rfl ⟨rfl, rfl⟩ hdV_X2_played ⟨Nat.le_of_ble_eq_true rfl, Nat.le_of_ble_eq_true rfl⟩ (hF.tp (b := 1) (Or.inl rfl)).ob rfl rfl rfl (Nat.le_of_ble_eq_true rfl) dX4_ticks_58) 61 rfl (fun r5 M6 hw => ?_)
        exact r_iret hR dX4_ticks_61 hw
      · have hw := hw.2 c0
        by_cases c1 : v3 = 1
        · have hw := hw.1 c1
          refine q_tabIn hC 62 dX4_ticks_25 (by rw [c1]; decide) (by rw [c1]; decide) (by rw [c1]; rfl) (by decide) ?_
          refine q_aload_n hC dX4_ticks_62 0 rfl 63 rfl ?_
          refine q_getR (C := RX4) (T := TX4) (N := 12) (ci := 4) hC inX4_ticks_X4 (obF0 hF) rfl 0 (by decide) (uX4_ticks__o _ (List.mem_of_getElem? (l := owX4_ticks) (i := 1) rfl)) rfl 1 (fun _ => rfl) dX4_ticks_63 66 rfl ?_
          refine q_iload_n hC dX4_ticks_66 1 rfl 67 rfl ?_
          refine q_iload_n hC dX4_ticks_67 2 rfl 68 rfl ?_
          refine r_callI hC (go_V (q := (RX2, TX2, 14)) (As := [.int v1, .int v2]) (rest := []) hC (ctX2_wound (zl z) g M4 1 v1 v2 _ (hF.tp (b := 1) (Or.inl rfl)) hw) 2 gX4_ticks_X2_wound rfl ⟨rfl, rfl⟩ hdV_X2_wound ⟨Nat.le_of_ble_eq_true rfl, Nat.le_of_ble_eq_true rfl⟩ (hF.tp (b := 1) (Or.inl rfl)).ob rfl rfl rfl (Nat.le_of_ble_eq_true rfl) dX4_ticks_68) 71 rfl (fun r7 M8 hw => ?_)
          exact r_iret hR dX4_ticks_71 hw
        · have hw := hw.2 c1
          by_cases c2 : v3 = 2
          · have hw := hw.1 c2
            refine q_tabIn hC 72 dX4_ticks_25 (by rw [c2]; decide) (by rw [c2]; decide) (by rw [c2]; rfl) (by decide) ?_
            refine q_aload_n hC dX4_ticks_72 0 rfl 73 rfl ?_
            refine q_getR (C := RX4) (T := TX4) (N := 12) (ci := 4) hC inX4_ticks_X4 (obF0 hF) rfl 0 (by decide) (uX4_ticks__o _ (List.mem_of_getElem? (l := owX4_ticks) (i := 1) rfl)) rfl 1 (fun _ => rfl) dX4_ticks_73 76 rfl ?_
            refine q_iload_n hC dX4_ticks_76 1 rfl 77 rfl ?_
            refine q_iload_n hC dX4_ticks_77 2 rfl 78 rfl ?_
            refine r_callI hC (go_V (q := (RX2, TX2, 14)) (As := [.int v1, .int v2]) (rest := []) hC (ctX2_sooner (zl z) g M4 1 v1 v2 _ (hF.tp (b := 1) (Or.inl rfl)) hw) 2 gX4_ticks_X2_sooner rfl ⟨rfl, rfl⟩ hdV_X2_sooner ⟨Nat.le_of_ble_eq_true rfl, Nat.le_of_ble_eq_true rfl⟩ (hF.tp (b := 1) (Or.inl rfl)).ob rfl rfl rfl (Nat.le_of_ble_eq_true rfl) dX4_ticks_78) 81 rfl (fun r9 M10 hw => ?_)
            exact r_iret hR dX4_ticks_81 hw
          · have hw := hw.2 c2
            refine q_tabOut hC 82 dX4_ticks_25 (tab_out2 c0 c1 c2) (by decide) ?_
            refine q_iconst (v := (-1)) hC dX4_ticks_82 rfl 83 rfl ?_
            exact r_iret hR dX4_ticks_83 hw
    · refine q_iconst (v := (-1)) hC dX4_ticks_22 rfl 23 rfl ?_
      exact r_iret hR dX4_ticks_23 hw
theorem hdV_X2_goTo : yX2_goTo.cls = RX2 ∧ yX2_goTo.cls ≠ "java/lang/invoke/MethodHandle" ∧ yX2_goTo.cls ≠ "java/lang/invoke/VarHandle" ∧ (parseMethodDescriptor yX2_goTo.desc).map (fun d => d.parameters.length) = some 1 := by decide +kernel
theorem inX4_go_X4 : ∀ w ∈ u_ws RX4 TX4 12, w ∈ wsX4_go := uX4_go__wsX40
set_option maxRecDepth 100000 in
set_option maxHeartbeats 4000000 in
theorem ctX4_go (l : Launch) (g : GG) (M : MM) (v1 : Int32) (Q : Int32 → MM → Prop) (hF : full g) (hw : wX4_go Q M v1) : MI g l yX4_go wsX4_go (rmOf 5 115) [.ref (gA g 0), .int v1] M Q := by
  refine mk_MI (cc := cX4_go) (maxL := 2) (by decide) rfl (Nat.le_of_ble_eq_true rfl) ?_
  intro z Qf hC hR
  show XX z g Qf 2 0 [(0, .ref (gA g 0)), (1, .int v1)] [] M
  refine q_aload_n hC dX4_go_0 0 rfl 1 rfl ?_
  refine q_getR (C := RX4) (T := TX4) (N := 12) (ci := 4) hC inX4_go_X4 (obF0 hF) rfl 0 (by decide) (uX4_go__o _ (List.mem_of_getElem? (l := owX4_go) (i := 1) rfl)) rfl 1 (fun _ => rfl) dX4_go_1 4 rfl ?_
  refine q_iload_n hC dX4_go_4 1 rfl 5 rfl ?_
  refine r_callI hC (go_V (q := (RX2, TX2, 14)) (As := [.int v1]) (rest := []) hC (ctX2_hasPlace (zl z) g M 1 v1 _ (hF.tp (b := 1) (Or.inl rfl)) hw) 1 gX4_go_X2_hasPlace rfl ⟨rfl, rfl⟩ hdV_X2_hasPlace ⟨Nat.le_of_ble_eq_true rfl, Nat.le_of_ble_eq_true rfl⟩ (hF.tp (b := 1) (Or.inl rfl)).ob rfl rfl rfl (Nat.le_of_ble_eq_true rfl) dX4_go_5) 8 rfl (fun r1 M2 hw => ?_)
  refine q_if_eq hC 22 dX4_go_8 (by decide) 11 rfl hw (fun hw => ?_) (fun hw => ?_)
  · refine q_iconst (v := (-1)) hC dX4_go_22 rfl 23 rfl ?_
    exact r_iret hR dX4_go_23 hw
  · refine q_aload_n hC dX4_go_11 0 rfl 12 rfl ?_
    refine q_getR (C := RX4) (T := TX4) (N := 12) (ci := 4) hC inX4_go_X4 (obF0 hF) rfl 0 (by decide) (uX4_go__o _ (List.mem_of_getElem? (l := owX4_go) (i := 1) rfl)) rfl 1 (fun _ => rfl) dX4_go_12 15 rfl ?_
    refine q_iload_n hC dX4_go_15 1 rfl 16 rfl ?_
    refine r_callI hC (go_V (q := (RX2, TX2, 14)) (As := [.int v1]) (rest := []) hC (ctX2_goTo (zl z) g M2 1 v1 _ (hF.tp (b := 1) (Or.inl rfl)) hw) 1 gX4_go_X2_goTo rfl ⟨rfl, rfl⟩ hdV_X2_goTo ⟨Nat.le_of_ble_eq_true rfl, Nat.le_of_ble_eq_true rfl⟩ (hF.tp (b := 1) (Or.inl rfl)).ob rfl rfl rfl (Nat.le_of_ble_eq_true rfl) dX4_go_16) 19 rfl (fun r3 M4 hw => ?_)
    refine q_goto hC 23 dX4_go_19 (by decide) ?_
    exact r_iret hR dX4_go_23 hw
theorem inX4_now_X2 : ∀ w ∈ u_ws RX2 TX2 14, w ∈ wsX4_now := uX4_now__wsX20
theorem inX4_now_X4 : ∀ w ∈ u_ws RX4 TX4 12, w ∈ wsX4_now := uX4_now__wsX40
set_option maxRecDepth 100000 in
set_option maxHeartbeats 4000000 in
theorem ctX4_now (l : Launch) (g : GG) (M : MM) (v1 : Int32) (Q : Int32 → MM → Prop) (hF : full g) (hw : wX4_now Q M v1) : MI g l yX4_now wsX4_now (rmOf 3 68) [.ref (gA g 0), .int v1] M Q := by
  refine mk_MI (cc := cX4_now) (maxL := 2) (by decide) rfl (Nat.le_of_ble_eq_true rfl) ?_
  intro z Qf hC hR
  show XX z g Qf 2 0 [(0, .ref (gA g 0)), (1, .int v1)] [] M
  refine q_iload_n hC dX4_now_0 1 rfl 1 rfl ?_
  by_cases c0 : v1 = 0
  · have hw := hw.1 c0
    refine q_tabIn hC 40 dX4_now_1 (by rw [c0]; decide) (by rw [c0]; decide) (by rw [c0]; rfl) (by decide) ?_
    refine q_aload_n hC dX4_now_40 0 rfl 41 rfl ?_
    refine q_getR (C := RX4) (T := TX4) (N := 12) (ci := 4) hC inX4_now_X4 (obF0 hF) rfl 0 (by decide) (uX4_now__o _ (List.mem_of_getElem? (l := owX4_now) (i := 1) rfl)) rfl 1 (fun _ => rfl) dX4_now_41 44 rfl ?_
    refine q_getI (C := RX2) (T := TX2) (N := 14) (ci := 2) hC inX4_now_X2 (hF.tp (b := 1) (Or.inl rfl)).ob rfl 9 (by decide) (uX4_now__o _ (List.mem_of_getElem? (l := owX4_now) (i := 2) rfl)) rfl (fun _ => rfl) dX4_now_44 47 rfl ?_
    exact r_iret hR dX4_now_47 hw
  · have hw := hw.2 c0
    by_cases c1 : v1 = 1
    · have hw := hw.1 c1
      refine q_tabIn hC 48 dX4_now_1 (by rw [c1]; decide) (by rw [c1]; decide) (by rw [c1]; rfl) (by decide) ?_
      refine q_aload_n hC dX4_now_48 0 rfl 49 rfl ?_
      refine q_getR (C := RX4) (T := TX4) (N := 12) (ci := 4) hC inX4_now_X4 (obF0 hF) rfl 0 (by decide) (uX4_now__o _ (List.mem_of_getElem? (l := owX4_now) (i := 1) rfl)) rfl 1 (fun _ => rfl) dX4_now_49 52 rfl ?_
      refine q_getI (C := RX2) (T := TX2) (N := 14) (ci := 2) hC inX4_now_X2 (hF.tp (b := 1) (Or.inl rfl)).ob rfl 10 (by decide) (uX4_now__o _ (List.mem_of_getElem? (l := owX4_now) (i := 3) rfl)) rfl (fun _ => rfl) dX4_now_52 55 rfl ?_
      exact r_iret hR dX4_now_55 hw
    · have hw := hw.2 c1
      by_cases c2 : v1 = 2
      · have hw := hw.1 c2
        refine q_tabIn hC 56 dX4_now_1 (by rw [c2]; decide) (by rw [c2]; decide) (by rw [c2]; rfl) (by decide) ?_
        refine q_aload_n hC dX4_now_56 0 rfl 57 rfl ?_
        refine q_getR (C := RX4) (T := TX4) (N := 12) (ci := 4) hC inX4_now_X4 (obF0 hF) rfl 0 (by decide) (uX4_now__o _ (List.mem_of_getElem? (l := owX4_now) (i := 1) rfl)) rfl 1 (fun _ => rfl) dX4_now_57 60 rfl ?_
        refine q_aload_n hC dX4_now_60 0 rfl 61 rfl ?_
        refine q_getR (C := RX4) (T := TX4) (N := 12) (ci := 4) hC inX4_now_X4 (obF0 hF) rfl 0 (by decide) (uX4_now__o _ (List.mem_of_getElem? (l := owX4_now) (i := 1) rfl)) rfl 1 (fun _ => rfl) dX4_now_61 64 rfl ?_
        refine q_getI (C := RX2) (T := TX2) (N := 14) (ci := 2) hC inX4_now_X2 (hF.tp (b := 1) (Or.inl rfl)).ob rfl 9 (by decide) (uX4_now__o _ (List.mem_of_getElem? (l := owX4_now) (i := 2) rfl)) rfl (fun _ => rfl) dX4_now_64 67 rfl ?_
        refine r_callI hC (go_V (q := (RX2, TX2, 14)) (As := [.int (M 1 9)]) (rest := []) hC (ctX2_rightTurns (zl z) g M 1 (M 1 9) _ (hF.tp (b := 1) (Or.inl rfl)) hw) 1 gX4_now_X2_rightTurns rfl ⟨rfl, rfl⟩ hdV_X2_rightTurns ⟨Nat.le_of_ble_eq_true rfl, Nat.le_of_ble_eq_true rfl⟩ (hF.tp (b := 1) (Or.inl rfl)).ob rfl rfl rfl (Nat.le_of_ble_eq_true rfl) dX4_now_67) 70 rfl (fun r1 M2 hw => ?_)
        exact r_iret hR dX4_now_70 hw
      · have hw := hw.2 c2
        by_cases c3 : v1 = 3
        · have hw := hw.1 c3
          refine q_tabIn hC 71 dX4_now_1 (by rw [c3]; decide) (by rw [c3]; decide) (by rw [c3]; rfl) (by decide) ?_
          refine q_aload_n hC dX4_now_71 0 rfl 72 rfl ?_
          refine q_getR (C := RX4) (T := TX4) (N := 12) (ci := 4) hC inX4_now_X4 (obF0 hF) rfl 0 (by decide) (uX4_now__o _ (List.mem_of_getElem? (l := owX4_now) (i := 1) rfl)) rfl 1 (fun _ => rfl) dX4_now_72 75 rfl ?_
          refine q_getI (C := RX2) (T := TX2) (N := 14) (ci := 2) hC inX4_now_X2 (hF.tp (b := 1) (Or.inl rfl)).ob rfl 12 (by decide) (uX4_now__o _ (List.mem_of_getElem? (l := owX4_now) (i := 4) rfl)) rfl (fun _ => rfl) dX4_now_75 78 rfl ?_
          exact r_iret hR dX4_now_78 hw
        · have hw := hw.2 c3
          by_cases c4 : v1 = 4
          · have hw := hw.1 c4
            refine q_tabIn hC 79 dX4_now_1 (by rw [c4]; decide) (by rw [c4]; decide) (by rw [c4]; rfl) (by decide) ?_
            refine q_aload_n hC dX4_now_79 0 rfl 80 rfl ?_
            refine q_getR (C := RX4) (T := TX4) (N := 12) (ci := 4) hC inX4_now_X4 (obF0 hF) rfl 0 (by decide) (uX4_now__o _ (List.mem_of_getElem? (l := owX4_now) (i := 1) rfl)) rfl 1 (fun _ => rfl) dX4_now_80 83 rfl ?_
            refine q_getI (C := RX2) (T := TX2) (N := 14) (ci := 2) hC inX4_now_X2 (hF.tp (b := 1) (Or.inl rfl)).ob rfl 11 (by decide) (uX4_now__o _ (List.mem_of_getElem? (l := owX4_now) (i := 5) rfl)) rfl (fun _ => rfl) dX4_now_83 86 rfl ?_
            exact r_iret hR dX4_now_86 hw
          · have hw := hw.2 c4
            by_cases c5 : v1 = 5
            · have hw := hw.1 c5
              refine q_tabIn hC 87 dX4_now_1 (by rw [c5]; decide) (by rw [c5]; decide) (by rw [c5]; rfl) (by decide) ?_
              refine q_aload_n hC dX4_now_87 0 rfl 88 rfl ?_
              refine q_getR (C := RX4) (T := TX4) (N := 12) (ci := 4) hC inX4_now_X4 (obF0 hF) rfl 0 (by decide) (uX4_now__o _ (List.mem_of_getElem? (l := owX4_now) (i := 1) rfl)) rfl 1 (fun _ => rfl) dX4_now_88 91 rfl ?_
              refine q_iconst (v := 0) hC dX4_now_91 rfl 92 rfl ?_
              refine r_callI hC (go_V (q := (RX2, TX2, 14)) (As := [.int 0]) (rest := []) hC (ctX2_ruled (zl z) g M 1 0 _ (hF.tp (b := 1) (Or.inl rfl)) hw) 1 gX4_now_X2_ruled rfl ⟨rfl, rfl⟩ hdV_X2_ruled ⟨Nat.le_of_ble_eq_true rfl, Nat.le_of_ble_eq_true rfl⟩ (hF.tp (b := 1) (Or.inl rfl)).ob rfl rfl rfl (Nat.le_of_ble_eq_true rfl) dX4_now_92) 95 rfl (fun r3 M4 hw => ?_)
              refine q_aload_n hC dX4_now_95 0 rfl 96 rfl ?_
              refine q_getR (C := RX4) (T := TX4) (N := 12) (ci := 4) hC inX4_now_X4 (obF0 hF) rfl 0 (by decide) (uX4_now__o _ (List.mem_of_getElem? (l := owX4_now) (i := 1) rfl)) rfl 1 (fun _ => rfl) dX4_now_96 99 rfl ?_
              refine q_aload_n hC dX4_now_99 0 rfl 100 rfl ?_
              refine q_getR (C := RX4) (T := TX4) (N := 12) (ci := 4) hC inX4_now_X4 (obF0 hF) rfl 0 (by decide) (uX4_now__o _ (List.mem_of_getElem? (l := owX4_now) (i := 1) rfl)) rfl 1 (fun _ => rfl) dX4_now_100 103 rfl ?_
              refine q_getI (C := RX2) (T := TX2) (N := 14) (ci := 2) hC inX4_now_X2 (hF.tp (b := 1) (Or.inl rfl)).ob rfl 8 (by decide) (uX4_now__o _ (List.mem_of_getElem? (l := owX4_now) (i := 6) rfl)) rfl (fun _ => rfl) dX4_now_103 106 rfl ?_
              refine q_iconst (v := 1) hC dX4_now_106 rfl 107 rfl ?_
              refine q_isub hC dX4_now_107 108 rfl ?_
              refine r_callI hC (go_V (q := (RX2, TX2, 14)) (As := [.int ((M4 1 8) - (1 : Int32))]) (rest := [.int r3]) hC (ctX2_endOf (zl z) g M4 1 ((M4 1 8) - (1 : Int32)) _ (hF.tp (b := 1) (Or.inl rfl)) hw) 1 gX4_now_X2_endOf rfl ⟨rfl, rfl⟩ hdV_X2_endOf ⟨Nat.le_of_ble_eq_true rfl, Nat.le_of_ble_eq_true rfl⟩ (hF.tp (b := 1) (Or.inl rfl)).ob rfl rfl rfl (Nat.le_of_ble_eq_true rfl) dX4_now_108) 111 rfl (fun r5 M6 hw => ?_)
              refine q_isub hC dX4_now_111 112 rfl ?_
              exact r_iret hR dX4_now_112 hw
            · have hw := hw.2 c5
              refine q_tabOut hC 113 dX4_now_1 (tab_out5 c0 c1 c2 c3 c4 c5) (by decide) ?_
              refine q_iconst (v := (-1)) hC dX4_now_113 rfl 114 rfl ?_
              exact r_iret hR dX4_now_114 hw
theorem hdV_X2_reach : yX2_reach.cls = RX2 ∧ yX2_reach.cls ≠ "java/lang/invoke/MethodHandle" ∧ yX2_reach.cls ≠ "java/lang/invoke/VarHandle" ∧ (parseMethodDescriptor yX2_reach.desc).map (fun d => d.parameters.length) = some 3 := by decide +kernel
theorem inX4_within_X2 : ∀ w ∈ u_ws RX2 TX2 14, w ∈ wsX4_within := uX4_within__wsX20
theorem inX4_within_X4 : ∀ w ∈ u_ws RX4 TX4 12, w ∈ wsX4_within := uX4_within__wsX40
set_option maxRecDepth 100000 in
set_option maxHeartbeats 4000000 in
theorem ctX4_within (l : Launch) (g : GG) (M : MM) (v1 : Int32) (v2 : Int32) (Q : Int32 → MM → Prop) (hF : full g) (hw : wX4_within Q M v1 v2) : MI g l yX4_within wsX4_within (rmOf 5 120) [.ref (gA g 0), .int v1, .int v2] M Q := by
  refine mk_MI (cc := cX4_within) (maxL := 3) (by decide) rfl (Nat.le_of_ble_eq_true rfl) ?_
  intro z Qf hC hR
  show XX z g Qf 3 0 [(0, .ref (gA g 0)), (1, .int v1), (2, .int v2)] [] M
  refine q_iload_n hC dX4_within_0 1 rfl 1 rfl ?_
  refine q_iconst (v := 0) hC dX4_within_1 rfl 2 rfl ?_
  refine q_ldc (v := 999999) hC (uX4_within__o _ (List.mem_of_getElem? (l := owX4_within) (i := 1) rfl)) dX4_within_2 4 rfl ?_
  refine r_callI hC (go_T (As := [.int v1, .int 0, .int 999999]) (rest := []) hC (ctX4_isBetween (zl z) g M v1 0 999999 _ hw) 3 gX4_within_X4_isBetween rfl ⟨rfl, rfl⟩ hdT_X4_isBetween ⟨Nat.le_of_ble_eq_true rfl, Nat.le_of_ble_eq_true rfl⟩ rfl rfl (Nat.le_of_ble_eq_true rfl) dX4_within_4) 7 rfl (fun r1 M2 hw => ?_)
  refine q_if_ne hC 12 dX4_within_7 (by decide) 10 rfl hw (fun hw => ?_) (fun hw => ?_)
  · refine q_aload_n hC dX4_within_12 0 rfl 13 rfl ?_
    refine q_getR (C := RX4) (T := TX4) (N := 12) (ci := 4) hC inX4_within_X4 (obF0 hF) rfl 0 (by decide) (uX4_within__o _ (List.mem_of_getElem? (l := owX4_within) (i := 2) rfl)) rfl 1 (fun _ => rfl) dX4_within_13 16 rfl ?_
    refine q_getI (C := RX2) (T := TX2) (N := 14) (ci := 2) hC inX4_within_X2 (hF.tp (b := 1) (Or.inl rfl)).ob rfl 9 (by decide) (uX4_within__o _ (List.mem_of_getElem? (l := owX4_within) (i := 3) rfl)) rfl (fun _ => rfl) dX4_within_16 19 rfl ?_
    refine q_iload_n hC dX4_within_19 2 rfl 20 rfl ?_
    refine q_if_eq hC 43 dX4_within_20 (by decide) 23 rfl hw (fun hw => ?_) (fun hw => ?_)
    · refine q_aload_n hC dX4_within_43 0 rfl 44 rfl ?_
      refine q_getR (C := RX4) (T := TX4) (N := 12) (ci := 4) hC inX4_within_X4 (obF0 hF) rfl 0 (by decide) (uX4_within__o _ (List.mem_of_getElem? (l := owX4_within) (i := 2) rfl)) rfl 1 (fun _ => rfl) dX4_within_44 47 rfl ?_
      refine q_iload_n hC dX4_within_47 1 rfl 48 rfl ?_
      refine q_aload_n hC dX4_within_48 0 rfl 49 rfl ?_
      refine q_getR (C := RX4) (T := TX4) (N := 12) (ci := 4) hC inX4_within_X4 (obF0 hF) rfl 0 (by decide) (uX4_within__o _ (List.mem_of_getElem? (l := owX4_within) (i := 2) rfl)) rfl 1 (fun _ => rfl) dX4_within_49 52 rfl ?_
      refine q_iconst (v := 0) hC dX4_within_52 rfl 53 rfl ?_
      refine r_callI hC (go_V (q := (RX2, TX2, 14)) (As := [.int 0]) (rest := [.int v1, .ref (gA g 1), .int (M2 1 9)]) hC (ctX2_ruled (zl z) g M2 1 0 _ (hF.tp (b := 1) (Or.inl rfl)) hw) 1 gX4_within_X2_ruled rfl ⟨rfl, rfl⟩ hdV_X2_ruled ⟨Nat.le_of_ble_eq_true rfl, Nat.le_of_ble_eq_true rfl⟩ (hF.tp (b := 1) (Or.inl rfl)).ob rfl rfl rfl (Nat.le_of_ble_eq_true rfl) dX4_within_53) 56 rfl (fun r3 M4 hw => ?_)
      refine q_aload_n hC dX4_within_56 0 rfl 57 rfl ?_
      refine q_getR (C := RX4) (T := TX4) (N := 12) (ci := 4) hC inX4_within_X4 (obF0 hF) rfl 0 (by decide) (uX4_within__o _ (List.mem_of_getElem? (l := owX4_within) (i := 2) rfl)) rfl 1 (fun _ => rfl) dX4_within_57 60 rfl ?_
      refine q_getI (C := RX2) (T := TX2) (N := 14) (ci := 2) hC inX4_within_X2 (hF.tp (b := 1) (Or.inl rfl)).ob rfl 9 (by decide) (uX4_within__o _ (List.mem_of_getElem? (l := owX4_within) (i := 3) rfl)) rfl (fun _ => rfl) dX4_within_60 63 rfl ?_
      refine q_isub hC dX4_within_63 64 rfl ?_
      refine q_iconst (v := 1) hC dX4_within_64 rfl 65 rfl ?_
      refine r_callI hC (go_V (q := (RX2, TX2, 14)) (As := [.int v1, .int (r3 - (M4 1 9)), .int 1]) (rest := [.int (M2 1 9)]) hC (ctX2_reach (zl z) g M4 1 v1 (r3 - (M4 1 9)) 1 _ (hF.tp (b := 1) (Or.inl rfl)) hw) 3 gX4_within_X2_reach rfl ⟨rfl, rfl⟩ hdV_X2_reach ⟨Nat.le_of_ble_eq_true rfl, Nat.le_of_ble_eq_true rfl⟩ (hF.tp (b := 1) (Or.inl rfl)).ob rfl rfl rfl (Nat.le_of_ble_eq_true rfl) dX4_within_65) 68 rfl (fun r5 M6 hw => ?_)
      refine q_iadd hC dX4_within_68 69 rfl ?_
      exact r_iret hR dX4_within_69 hw
    · refine q_aload_n hC dX4_within_23 0 rfl 24 rfl ?_
      refine q_getR (C := RX4) (T := TX4) (N := 12) (ci := 4) hC inX4_within_X4 (obF0 hF) rfl 0 (by decide) (uX4_within__o _ (List.mem_of_getElem? (l := owX4_within) (i := 2) rfl)) rfl 1 (fun _ => rfl) dX4_within_24 27 rfl ?_
      refine q_iload_n hC dX4_within_27 1 rfl 28 rfl ?_
      refine q_aload_n hC dX4_within_28 0 rfl 29 rfl ?_
      refine q_getR (C := RX4) (T := TX4) (N := 12) (ci := 4) hC inX4_within_X4 (obF0 hF) rfl 0 (by decide) (uX4_within__o _ (List.mem_of_getElem? (l := owX4_within) (i := 2) rfl)) rfl 1 (fun _ => rfl) dX4_within_29 32 rfl ?_
      refine q_getI (C := RX2) (T := TX2) (N := 14) (ci := 2) hC inX4_within_X2 (hF.tp (b := 1) (Or.inl rfl)).ob rfl 9 (by decide) (uX4_within__o _ (List.mem_of_getElem? (l := owX4_within) (i := 3) rfl)) rfl (fun _ => rfl) dX4_within_32 35 rfl ?_
      refine q_iconst (v := (-1)) hC dX4_within_35 rfl 36 rfl ?_
      refine r_callI hC (go_V (q := (RX2, TX2, 14)) (As := [.int v1, .int (M2 1 9), .int (-1)]) (rest := [.int (M2 1 9)]) hC (ctX2_reach (zl z) g M2 1 v1 (M2 1 9) (-1) _ (hF.tp (b := 1) (Or.inl rfl)) hw) 3 gX4_within_X2_reach rfl ⟨rfl, rfl⟩ hdV_X2_reach ⟨Nat.le_of_ble_eq_true rfl, Nat.le_of_ble_eq_true rfl⟩ (hF.tp (b := 1) (Or.inl rfl)).ob rfl rfl rfl (Nat.le_of_ble_eq_true rfl) dX4_within_36) 39 rfl (fun r7 M8 hw => ?_)
      refine q_ineg hC dX4_within_39 40 rfl ?_
      refine q_goto hC 68 dX4_within_40 (by decide) ?_
      refine q_iadd hC dX4_within_68 69 rfl ?_
      exact r_iret hR dX4_within_69 hw
  · refine q_iconst (v := (-1)) hC dX4_within_10 rfl 11 rfl ?_
    exact r_iret hR dX4_within_11 hw
theorem inX4_block_X4 : ∀ w ∈ u_ws RX4 TX4 12, w ∈ wsX4_block := uX4_block__wsX40
set_option maxRecDepth 100000 in
set_option maxHeartbeats 4000000 in
theorem ctX4_block (l : Launch) (g : GG) (M : MM) (v1 : Int32) (v2 : Int32) (Q : Int32 → MM → Prop) (hF : full g) (hw : wX4_block Q M v1 v2) : MI g l yX4_block wsX4_block (rmOf 3 64) [.ref (gA g 0), .int v1, .int v2] M Q := by
  refine mk_MI (cc := cX4_block) (maxL := 3) (by decide) rfl (Nat.le_of_ble_eq_true rfl) ?_
  intro z Qf hC hR
  show XX z g Qf 3 0 [(0, .ref (gA g 0)), (1, .int v1), (2, .int v2)] [] M
  refine q_aload_n hC dX4_block_0 0 rfl 1 rfl ?_
  refine q_getR (C := RX4) (T := TX4) (N := 12) (ci := 4) hC inX4_block_X4 (obF0 hF) rfl 0 (by decide) (uX4_block__o _ (List.mem_of_getElem? (l := owX4_block) (i := 1) rfl)) rfl 1 (fun _ => rfl) dX4_block_1 4 rfl ?_
  refine q_iload_n hC dX4_block_4 1 rfl 5 rfl ?_
  refine r_callI hC (go_V (q := (RX2, TX2, 14)) (As := [.int v1]) (rest := []) hC (ctX2_hasBlock (zl z) g M 1 v1 _ (hF.tp (b := 1) (Or.inl rfl)) hw) 1 gX4_block_X2_hasBlock rfl ⟨rfl, rfl⟩ hdV_X2_hasBlock ⟨Nat.le_of_ble_eq_true rfl, Nat.le_of_ble_eq_true rfl⟩ (hF.tp (b := 1) (Or.inl rfl)).ob rfl rfl rfl (Nat.le_of_ble_eq_true rfl) dX4_block_5) 8 rfl (fun r1 M2 hw => ?_)
  refine q_if_ne hC 13 dX4_block_8 (by decide) 11 rfl hw (fun hw => ?_) (fun hw => ?_)
  · refine q_iload_n hC dX4_block_13 2 rfl 14 rfl ?_
    by_cases c0 : v2 = 0
    · have hw := hw.1 c0
      refine q_tabIn hC 48 dX4_block_14 (by rw [c0]; decide) (by rw [c0]; decide) (by rw [c0]; rfl) (by decide) ?_
      refine q_aload_n hC dX4_block_48 0 rfl 49 rfl ?_
      refine q_getR (C := RX4) (T := TX4) (N := 12) (ci := 4) hC inX4_block_X4 (obF0 hF) rfl 0 (by decide) (uX4_block__o _ (List.mem_of_getElem? (l := owX4_block) (i := 1) rfl)) rfl 1 (fun _ => rfl) dX4_block_49 52 rfl ?_
      refine q_iload_n hC dX4_block_52 1 rfl 53 rfl ?_
      refine r_callI hC (go_V (q := (RX2, TX2, 14)) (As := [.int v1]) (rest := []) hC (ctX2_beginOf (zl z) g M2 1 v1 _ (hF.tp (b := 1) (Or.inl rfl)) hw) 1 gX4_block_X2_beginOf rfl ⟨rfl, rfl⟩ hdV_X2_beginOf ⟨Nat.le_of_ble_eq_true rfl, Nat.le_of_ble_eq_true rfl⟩ (hF.tp (b := 1) (Or.inl rfl)).ob rfl rfl rfl (Nat.le_of_ble_eq_true rfl) dX4_block_53) 56 rfl (fun r3 M4 hw => ?_)
      exact r_iret hR dX4_block_56 hw
    · have hw := hw.2 c0
      by_cases c1 : v2 = 1
      · have hw := hw.1 c1
        refine q_tabIn hC 57 dX4_block_14 (by rw [c1]; decide) (by rw [c1]; decide) (by rw [c1]; rfl) (by decide) ?_
        refine q_aload_n hC dX4_block_57 0 rfl 58 rfl ?_
        refine q_getR (C := RX4) (T := TX4) (N := 12) (ci := 4) hC inX4_block_X4 (obF0 hF) rfl 0 (by decide) (uX4_block__o _ (List.mem_of_getElem? (l := owX4_block) (i := 1) rfl)) rfl 1 (fun _ => rfl) dX4_block_58 61 rfl ?_
        refine q_iload_n hC dX4_block_61 1 rfl 62 rfl ?_
        refine r_callI hC (go_V (q := (RX2, TX2, 14)) (As := [.int v1]) (rest := []) hC (ctX2_longOf (zl z) g M2 1 v1 _ (hF.tp (b := 1) (Or.inl rfl)) hw) 1 gX4_block_X2_longOf rfl ⟨rfl, rfl⟩ hdV_X2_longOf ⟨Nat.le_of_ble_eq_true rfl, Nat.le_of_ble_eq_true rfl⟩ (hF.tp (b := 1) (Or.inl rfl)).ob rfl rfl rfl (Nat.le_of_ble_eq_true rfl) dX4_block_62) 65 rfl (fun r5 M6 hw => ?_)
        exact r_iret hR dX4_block_65 hw
      · have hw := hw.2 c1
        by_cases c2 : v2 = 2
        · have hw := hw.1 c2
          refine q_tabIn hC 66 dX4_block_14 (by rw [c2]; decide) (by rw [c2]; decide) (by rw [c2]; rfl) (by decide) ?_
          refine q_aload_n hC dX4_block_66 0 rfl 67 rfl ?_
          refine q_getR (C := RX4) (T := TX4) (N := 12) (ci := 4) hC inX4_block_X4 (obF0 hF) rfl 0 (by decide) (uX4_block__o _ (List.mem_of_getElem? (l := owX4_block) (i := 1) rfl)) rfl 1 (fun _ => rfl) dX4_block_67 70 rfl ?_
          refine q_iload_n hC dX4_block_70 1 rfl 71 rfl ?_
          refine r_callI hC (go_V (q := (RX2, TX2, 14)) (As := [.int v1]) (rest := []) hC (ctX2_sizeOf (zl z) g M2 1 v1 _ (hF.tp (b := 1) (Or.inl rfl)) hw) 1 gX4_block_X2_sizeOf rfl ⟨rfl, rfl⟩ hdV_X2_sizeOf ⟨Nat.le_of_ble_eq_true rfl, Nat.le_of_ble_eq_true rfl⟩ (hF.tp (b := 1) (Or.inl rfl)).ob rfl rfl rfl (Nat.le_of_ble_eq_true rfl) dX4_block_71) 74 rfl (fun r7 M8 hw => ?_)
          exact r_iret hR dX4_block_74 hw
        · have hw := hw.2 c2
          by_cases c3 : v2 = 3
          · have hw := hw.1 c3
            refine q_tabIn hC 75 dX4_block_14 (by rw [c3]; decide) (by rw [c3]; decide) (by rw [c3]; rfl) (by decide) ?_
            refine q_aload_n hC dX4_block_75 0 rfl 76 rfl ?_
            refine q_getR (C := RX4) (T := TX4) (N := 12) (ci := 4) hC inX4_block_X4 (obF0 hF) rfl 0 (by decide) (uX4_block__o _ (List.mem_of_getElem? (l := owX4_block) (i := 1) rfl)) rfl 1 (fun _ => rfl) dX4_block_76 79 rfl ?_
            refine q_iload_n hC dX4_block_79 1 rfl 80 rfl ?_
            refine r_callI hC (go_V (q := (RX2, TX2, 14)) (As := [.int v1]) (rest := []) hC (ctX2_isMark (zl z) g M2 1 v1 _ (hF.tp (b := 1) (Or.inl rfl)) hw) 1 gX4_block_X2_isMark rfl ⟨rfl, rfl⟩ hdV_X2_isMark ⟨Nat.le_of_ble_eq_true rfl, Nat.le_of_ble_eq_true rfl⟩ (hF.tp (b := 1) (Or.inl rfl)).ob rfl rfl rfl (Nat.le_of_ble_eq_true rfl) dX4_block_80) 83 rfl (fun r9 M10 hw => ?_)
            refine q_if_eq hC 90 dX4_block_83 (by decide) 86 rfl hw (fun hw => ?_) (fun hw => ?_)
            · refine q_aload_n hC dX4_block_90 0 rfl 91 rfl ?_
              refine q_getR (C := RX4) (T := TX4) (N := 12) (ci := 4) hC inX4_block_X4 (obF0 hF) rfl 0 (by decide) (uX4_block__o _ (List.mem_of_getElem? (l := owX4_block) (i := 1) rfl)) rfl 1 (fun _ => rfl) dX4_block_91 94 rfl ?_
              refine q_iload_n hC dX4_block_94 1 rfl 95 rfl ?_
              refine q_aload_n hC dX4_block_95 0 rfl 96 rfl ?_
              refine q_getR (C := RX4) (T := TX4) (N := 12) (ci := 4) hC inX4_block_X4 (obF0 hF) rfl 0 (by decide) (uX4_block__o _ (List.mem_of_getElem? (l := owX4_block) (i := 1) rfl)) rfl 1 (fun _ => rfl) dX4_block_96 99 rfl ?_
              refine q_iload_n hC dX4_block_99 1 rfl 100 rfl ?_
              refine r_callI hC (go_V (q := (RX2, TX2, 14)) (As := [.int v1]) (rest := [.int v1, .ref (gA g 1)]) hC (ctX2_sizeOf (zl z) g M10 1 v1 _ (hF.tp (b := 1) (Or.inl rfl)) hw) 1 gX4_block_X2_sizeOf rfl ⟨rfl, rfl⟩ hdV_X2_sizeOf ⟨Nat.le_of_ble_eq_true rfl, Nat.le_of_ble_eq_true rfl⟩ (hF.tp (b := 1) (Or.inl rfl)).ob rfl rfl rfl (Nat.le_of_ble_eq_true rfl) dX4_block_100) 103 rfl (fun r11 M12 hw => ?_)
              refine r_callI hC (go_V (q := (RX2, TX2, 14)) (As := [.int v1, .int r11]) (rest := []) hC (ctX2_columnOf (zl z) g M12 1 v1 r11 _ (hF.tp (b := 1) (Or.inl rfl)) hw) 2 gX4_block_X2_columnOf rfl ⟨rfl, rfl⟩ hdV_X2_columnOf ⟨Nat.le_of_ble_eq_true rfl, Nat.le_of_ble_eq_true rfl⟩ (hF.tp (b := 1) (Or.inl rfl)).ob rfl rfl rfl (Nat.le_of_ble_eq_true rfl) dX4_block_103) 106 rfl (fun r13 M14 hw => ?_)
              exact r_iret hR dX4_block_106 hw
            · refine q_iconst (v := 0) hC dX4_block_86 rfl 87 rfl ?_
              refine q_goto hC 106 dX4_block_87 (by decide) ?_
              exact r_iret hR dX4_block_106 hw
          · have hw := hw.2 c3
            by_cases c4 : v2 = 4
            · have hw := hw.1 c4
              refine q_tabIn hC 107 dX4_block_14 (by rw [c4]; decide) (by rw [c4]; decide) (by rw [c4]; rfl) (by decide) ?_
              refine q_aload_n hC dX4_block_107 0 rfl 108 rfl ?_
              refine q_getR (C := RX4) (T := TX4) (N := 12) (ci := 4) hC inX4_block_X4 (obF0 hF) rfl 0 (by decide) (uX4_block__o _ (List.mem_of_getElem? (l := owX4_block) (i := 1) rfl)) rfl 1 (fun _ => rfl) dX4_block_108 111 rfl ?_
              refine q_iload_n hC dX4_block_111 1 rfl 112 rfl ?_
              refine r_callI hC (go_V (q := (RX2, TX2, 14)) (As := [.int v1]) (rest := []) hC (ctX2_endOf (zl z) g M2 1 v1 _ (hF.tp (b := 1) (Or.inl rfl)) hw) 1 gX4_block_X2_endOf rfl ⟨rfl, rfl⟩ hdV_X2_endOf ⟨Nat.le_of_ble_eq_true rfl, Nat.le_of_ble_eq_true rfl⟩ (hF.tp (b := 1) (Or.inl rfl)).ob rfl rfl rfl (Nat.le_of_ble_eq_true rfl) dX4_block_112) 115 rfl (fun r15 M16 hw => ?_)
              exact r_iret hR dX4_block_115 hw
            · have hw := hw.2 c4
              refine q_tabOut hC 116 dX4_block_14 (tab_out4 c0 c1 c2 c3 c4) (by decide) ?_
              refine q_iconst (v := (-1)) hC dX4_block_116 rfl 117 rfl ?_
              exact r_iret hR dX4_block_117 hw
  · refine q_iconst (v := (-1)) hC dX4_block_11 rfl 12 rfl ?_
    exact r_iret hR dX4_block_12 hw
theorem hdV_X2_blockWith : yX2_blockWith.cls = RX2 ∧ yX2_blockWith.cls ≠ "java/lang/invoke/MethodHandle" ∧ yX2_blockWith.cls ≠ "java/lang/invoke/VarHandle" ∧ (parseMethodDescriptor yX2_blockWith.desc).map (fun d => d.parameters.length) = some 1 := by decide +kernel
theorem inX4_blockAt_X4 : ∀ w ∈ u_ws RX4 TX4 12, w ∈ wsX4_blockAt := uX4_blockAt__wsX40
set_option maxRecDepth 100000 in
set_option maxHeartbeats 4000000 in
theorem ctX4_blockAt (l : Launch) (g : GG) (M : MM) (v1 : Int32) (Q : Int32 → MM → Prop) (hF : full g) (hw : wX4_blockAt Q M v1) : MI g l yX4_blockAt wsX4_blockAt (rmOf 4 86) [.ref (gA g 0), .int v1] M Q := by
  refine mk_MI (cc := cX4_blockAt) (maxL := 2) (by decide) rfl (Nat.le_of_ble_eq_true rfl) ?_
  intro z Qf hC hR
  show XX z g Qf 2 0 [(0, .ref (gA g 0)), (1, .int v1)] [] M
  refine q_aload_n hC dX4_blockAt_0 0 rfl 1 rfl ?_
  refine q_getR (C := RX4) (T := TX4) (N := 12) (ci := 4) hC inX4_blockAt_X4 (obF0 hF) rfl 0 (by decide) (uX4_blockAt__o _ (List.mem_of_getElem? (l := owX4_blockAt) (i := 1) rfl)) rfl 1 (fun _ => rfl) dX4_blockAt_1 4 rfl ?_
  refine q_iload_n hC dX4_blockAt_4 1 rfl 5 rfl ?_
  refine r_callI hC (go_V (q := (RX2, TX2, 14)) (As := [.int v1]) (rest := []) hC (ctX2_hasPlace (zl z) g M 1 v1 _ (hF.tp (b := 1) (Or.inl rfl)) hw) 1 gX4_blockAt_X2_hasPlace rfl ⟨rfl, rfl⟩ hdV_X2_hasPlace ⟨Nat.le_of_ble_eq_true rfl, Nat.le_of_ble_eq_true rfl⟩ (hF.tp (b := 1) (Or.inl rfl)).ob rfl rfl rfl (Nat.le_of_ble_eq_true rfl) dX4_blockAt_5) 8 rfl (fun r1 M2 hw => ?_)
  refine q_if_eq hC 22 dX4_blockAt_8 (by decide) 11 rfl hw (fun hw => ?_) (fun hw => ?_)
  · refine q_iconst (v := (-1)) hC dX4_blockAt_22 rfl 23 rfl ?_
    exact r_iret hR dX4_blockAt_23 hw
  · refine q_aload_n hC dX4_blockAt_11 0 rfl 12 rfl ?_
    refine q_getR (C := RX4) (T := TX4) (N := 12) (ci := 4) hC inX4_blockAt_X4 (obF0 hF) rfl 0 (by decide) (uX4_blockAt__o _ (List.mem_of_getElem? (l := owX4_blockAt) (i := 1) rfl)) rfl 1 (fun _ => rfl) dX4_blockAt_12 15 rfl ?_
    refine q_iload_n hC dX4_blockAt_15 1 rfl 16 rfl ?_
    refine r_callI hC (go_V (q := (RX2, TX2, 14)) (As := [.int v1]) (rest := []) hC (ctX2_blockWith (zl z) g M2 1 v1 _ (hF.tp (b := 1) (Or.inl rfl)) hw) 1 gX4_blockAt_X2_blockWith rfl ⟨rfl, rfl⟩ hdV_X2_blockWith ⟨Nat.le_of_ble_eq_true rfl, Nat.le_of_ble_eq_true rfl⟩ (hF.tp (b := 1) (Or.inl rfl)).ob rfl rfl rfl (Nat.le_of_ble_eq_true rfl) dX4_blockAt_16) 19 rfl (fun r3 M4 hw => ?_)
    refine q_goto hC 23 dX4_blockAt_19 (by decide) ?_
    exact r_iret hR dX4_blockAt_23 hw
theorem inX4_type_X2 : ∀ w ∈ u_ws RX2 TX2 14, w ∈ wsX4_type := uX4_type__wsX20
theorem inX4_type_X4 : ∀ w ∈ u_ws RX4 TX4 12, w ∈ wsX4_type := uX4_type__wsX40
set_option maxRecDepth 100000 in
set_option maxHeartbeats 4000000 in
theorem ctX4_type (l : Launch) (g : GG) (M : MM) (v1 : Int32) (Q : Int32 → MM → Prop) (hF : full g) (hw : wX4_type Q M v1) : MI g l yX4_type wsX4_type (rmOf 2 43) [.ref (gA g 0), .int v1] M Q := by
  refine mk_MI (cc := cX4_type) (maxL := 2) (by decide) rfl (Nat.le_of_ble_eq_true rfl) ?_
  intro z Qf hC hR
  show XX z g Qf 2 0 [(0, .ref (gA g 0)), (1, .int v1)] [] M
  refine q_iload_n hC dX4_type_0 1 rfl 1 rfl ?_
  refine q_iconst (v := 0) hC dX4_type_1 rfl 2 rfl ?_
  refine q_sipush (v := 255) hC dX4_type_2 (by decide) 5 rfl ?_
  refine r_callI hC (go_T (As := [.int v1, .int 0, .int 255]) (rest := []) hC (ctX4_isBetween (zl z) g M v1 0 255 _ hw) 3 gX4_type_X4_isBetween rfl ⟨rfl, rfl⟩ hdT_X4_isBetween ⟨Nat.le_of_ble_eq_true rfl, Nat.le_of_ble_eq_true rfl⟩ rfl rfl (Nat.le_of_ble_eq_true rfl) dX4_type_5) 8 rfl (fun r1 M2 hw => ?_)
  refine q_if_ne hC 13 dX4_type_8 (by decide) 11 rfl hw (fun hw => ?_) (fun hw => ?_)
  · refine q_aload_n hC dX4_type_13 0 rfl 14 rfl ?_
    refine q_getR (C := RX4) (T := TX4) (N := 12) (ci := 4) hC inX4_type_X4 (obF0 hF) rfl 0 (by decide) (uX4_type__o _ (List.mem_of_getElem? (l := owX4_type) (i := 1) rfl)) rfl 1 (fun _ => rfl) dX4_type_14 17 rfl ?_
    refine q_getI (C := RX2) (T := TX2) (N := 14) (ci := 2) hC inX4_type_X2 (hF.tp (b := 1) (Or.inl rfl)).ob rfl 11 (by decide) (uX4_type__o _ (List.mem_of_getElem? (l := owX4_type) (i := 2) rfl)) rfl (fun _ => rfl) dX4_type_17 20 rfl ?_
    refine q_bipush (v := 12) hC dX4_type_20 (by decide) 22 rfl ?_
    refine q_icmp_lt hC 28 dX4_type_22 (by decide) 25 rfl hw (fun hw => ?_) (fun hw => ?_)
    · refine q_aload_n hC dX4_type_28 0 rfl 29 rfl ?_
      refine q_getR (C := RX4) (T := TX4) (N := 12) (ci := 4) hC inX4_type_X4 (obF0 hF) rfl 0 (by decide) (uX4_type__o _ (List.mem_of_getElem? (l := owX4_type) (i := 1) rfl)) rfl 1 (fun _ => rfl) dX4_type_29 32 rfl ?_
      refine q_iload_n hC dX4_type_32 1 rfl 33 rfl ?_
      refine r_callI hC (go_V (q := (RX2, TX2, 14)) (As := [.int v1]) (rest := []) hC (ctX2_typeOne (zl z) g M2 1 v1 _ (hF.tp (b := 1) (Or.inl rfl)) hw) 1 gX4_type_X2_typeOne rfl ⟨rfl, rfl⟩ hdV_X2_typeOne ⟨Nat.le_of_ble_eq_true rfl, Nat.le_of_ble_eq_true rfl⟩ (hF.tp (b := 1) (Or.inl rfl)).ob rfl rfl rfl (Nat.le_of_ble_eq_true rfl) dX4_type_33) 36 rfl (fun r3 M4 hw => ?_)
      exact r_iret hR dX4_type_36 hw
    · refine q_bipush (v := (-3)) hC dX4_type_25 (by decide) 27 rfl ?_
      exact r_iret hR dX4_type_27 hw
  · refine q_iconst (v := (-1)) hC dX4_type_11 rfl 12 rfl ?_
    exact r_iret hR dX4_type_12 hw
theorem hdV_X2_hasRoomAt : yX2_hasRoomAt.cls = RX2 ∧ yX2_hasRoomAt.cls ≠ "java/lang/invoke/MethodHandle" ∧ yX2_hasRoomAt.cls ≠ "java/lang/invoke/VarHandle" ∧ (parseMethodDescriptor yX2_hasRoomAt.desc).map (fun d => d.parameters.length) = some 2 := by decide +kernel
theorem hdV_X2_writeAt : yX2_writeAt.cls = RX2 ∧ yX2_writeAt.cls ≠ "java/lang/invoke/MethodHandle" ∧ yX2_writeAt.cls ≠ "java/lang/invoke/VarHandle" ∧ (parseMethodDescriptor yX2_writeAt.desc).map (fun d => d.parameters.length) = some 2 := by decide +kernel
theorem inX4_write_X2 : ∀ w ∈ u_ws RX2 TX2 14, w ∈ wsX4_write := uX4_write__wsX20
theorem inX4_write_X4 : ∀ w ∈ u_ws RX4 TX4 12, w ∈ wsX4_write := uX4_write__wsX40
set_option maxRecDepth 100000 in
set_option maxHeartbeats 4000000 in
theorem ctX4_write (l : Launch) (g : GG) (M : MM) (v1 : Int32) (Q : Int32 → MM → Prop) (hF : full g) (hw : wX4_write Q M v1) : MI g l yX4_write wsX4_write (rmOf 5 117) [.ref (gA g 0), .int v1] M Q := by
  refine mk_MI (cc := cX4_write) (maxL := 3) (by decide) rfl (Nat.le_of_ble_eq_true rfl) ?_
  intro z Qf hC hR
  show XX z g Qf 3 0 [(0, .ref (gA g 0)), (1, .int v1)] [] M
  refine q_iload_n hC dX4_write_0 1 rfl 1 rfl ?_
  refine q_iconst (v := 0) hC dX4_write_1 rfl 2 rfl ?_
  refine q_aload_n hC dX4_write_2 0 rfl 3 rfl ?_
  refine q_getR (C := RX4) (T := TX4) (N := 12) (ci := 4) hC inX4_write_X4 (obF0 hF) rfl 0 (by decide) (uX4_write__o _ (List.mem_of_getElem? (l := owX4_write) (i := 1) rfl)) rfl 1 (fun _ => rfl) dX4_write_3 6 rfl ?_
  refine q_getI (C := RX2) (T := TX2) (N := 14) (ci := 2) hC inX4_write_X2 (hF.tp (b := 1) (Or.inl rfl)).ob rfl 8 (by decide) (uX4_write__o _ (List.mem_of_getElem? (l := owX4_write) (i := 2) rfl)) rfl (fun _ => rfl) dX4_write_6 9 rfl ?_
  refine r_callI hC (go_T (As := [.int v1, .int 0, .int (M 1 8)]) (rest := []) hC (ctX4_isBetween (zl z) g M v1 0 (M 1 8) _ hw) 3 gX4_write_X4_isBetween rfl ⟨rfl, rfl⟩ hdT_X4_isBetween ⟨Nat.le_of_ble_eq_true rfl, Nat.le_of_ble_eq_true rfl⟩ rfl rfl (Nat.le_of_ble_eq_true rfl) dX4_write_9) 12 rfl (fun r1 M2 hw => ?_)
  refine q_if_ne hC 17 dX4_write_12 (by decide) 15 rfl hw (fun hw => ?_) (fun hw => ?_)
  · refine q_aload_n hC dX4_write_17 0 rfl 18 rfl ?_
    refine q_getR (C := RX4) (T := TX4) (N := 12) (ci := 4) hC inX4_write_X4 (obF0 hF) rfl 0 (by decide) (uX4_write__o _ (List.mem_of_getElem? (l := owX4_write) (i := 1) rfl)) rfl 1 (fun _ => rfl) dX4_write_18 21 rfl ?_
    refine q_getI (C := RX2) (T := TX2) (N := 14) (ci := 2) hC inX4_write_X2 (hF.tp (b := 1) (Or.inl rfl)).ob rfl 11 (by decide) (uX4_write__o _ (List.mem_of_getElem? (l := owX4_write) (i := 3) rfl)) rfl (fun _ => rfl) dX4_write_21 24 rfl ?_
    refine q_if_ne hC 30 dX4_write_24 (by decide) 27 rfl hw (fun hw => ?_) (fun hw => ?_)
    · refine q_aload_n hC dX4_write_30 0 rfl 31 rfl ?_
      refine q_getR (C := RX4) (T := TX4) (N := 12) (ci := 4) hC inX4_write_X4 (obF0 hF) rfl 0 (by decide) (uX4_write__o _ (List.mem_of_getElem? (l := owX4_write) (i := 1) rfl)) rfl 1 (fun _ => rfl) dX4_write_31 34 rfl ?_
      refine q_iload_n hC dX4_write_34 1 rfl 35 rfl ?_
      refine q_aload_n hC dX4_write_35 0 rfl 36 rfl ?_
      refine q_getR (C := RX4) (T := TX4) (N := 12) (ci := 4) hC inX4_write_X4 (obF0 hF) rfl 0 (by decide) (uX4_write__o _ (List.mem_of_getElem? (l := owX4_write) (i := 1) rfl)) rfl 1 (fun _ => rfl) dX4_write_36 39 rfl ?_
      refine q_getI (C := RX2) (T := TX2) (N := 14) (ci := 2) hC inX4_write_X2 (hF.tp (b := 1) (Or.inl rfl)).ob rfl 11 (by decide) (uX4_write__o _ (List.mem_of_getElem? (l := owX4_write) (i := 3) rfl)) rfl (fun _ => rfl) dX4_write_39 42 rfl ?_
      refine r_callI hC (go_V (q := (RX2, TX2, 14)) (As := [.int v1, .int (M2 1 11)]) (rest := []) hC (ctX2_hasRoomAt (zl z) g M2 1 v1 (M2 1 11) _ (hF.tp (b := 1) (Or.inl rfl)) hw) 2 gX4_write_X2_hasRoomAt rfl ⟨rfl, rfl⟩ hdV_X2_hasRoomAt ⟨Nat.le_of_ble_eq_true rfl, Nat.le_of_ble_eq_true rfl⟩ (hF.tp (b := 1) (Or.inl rfl)).ob rfl rfl rfl (Nat.le_of_ble_eq_true rfl) dX4_write_42) 45 rfl (fun r3 M4 hw => ?_)
      refine q_if_ne hC 51 dX4_write_45 (by decide) 48 rfl hw (fun hw => ?_) (fun hw => ?_)
      · refine q_aload_n hC dX4_write_51 0 rfl 52 rfl ?_
        refine q_getR (C := RX4) (T := TX4) (N := 12) (ci := 4) hC inX4_write_X4 (obF0 hF) rfl 0 (by decide) (uX4_write__o _ (List.mem_of_getElem? (l := owX4_write) (i := 1) rfl)) rfl 1 (fun _ => rfl) dX4_write_52 55 rfl ?_
        refine q_iload_n hC dX4_write_55 1 rfl 56 rfl ?_
        refine q_aload_n hC dX4_write_56 0 rfl 57 rfl ?_
        refine q_getR (C := RX4) (T := TX4) (N := 12) (ci := 4) hC inX4_write_X4 (obF0 hF) rfl 0 (by decide) (uX4_write__o _ (List.mem_of_getElem? (l := owX4_write) (i := 1) rfl)) rfl 1 (fun _ => rfl) dX4_write_57 60 rfl ?_
        refine q_getI (C := RX2) (T := TX2) (N := 14) (ci := 2) hC inX4_write_X2 (hF.tp (b := 1) (Or.inl rfl)).ob rfl 11 (by decide) (uX4_write__o _ (List.mem_of_getElem? (l := owX4_write) (i := 3) rfl)) rfl (fun _ => rfl) dX4_write_60 63 rfl ?_
        refine r_callI hC (go_V (q := (RX2, TX2, 14)) (As := [.int v1, .int (M4 1 11)]) (rest := []) hC (ctX2_writeAt (zl z) g M4 1 v1 (M4 1 11) _ (hF.tp (b := 1) (Or.inl rfl)) hw) 2 gX4_write_X2_writeAt rfl ⟨rfl, rfl⟩ hdV_X2_writeAt ⟨Nat.le_of_ble_eq_true rfl, Nat.le_of_ble_eq_true rfl⟩ (hF.tp (b := 1) (Or.inl rfl)).ob rfl rfl rfl (Nat.le_of_ble_eq_true rfl) dX4_write_63) 66 rfl (fun r5 M6 hw => ?_)
        refine q_istore_n (L' := [(2, .int r5), (0, .ref (gA g 0)), (1, .int v1)]) hC dX4_write_66 (by decide) rfl 67 rfl ?_
        refine q_aload_n hC dX4_write_67 1 rfl 68 rfl ?_
        refine q_getR (C := RX4) (T := TX4) (N := 12) (ci := 4) hC inX4_write_X4 (obF0 hF) rfl 0 (by decide) (uX4_write__o _ (List.mem_of_getElem? (l := owX4_write) (i := 1) rfl)) rfl 1 (fun _ => rfl) dX4_write_68 71 rfl ?_
        refine q_iconst (v := 0) hC dX4_write_71 rfl 72 rfl ?_
        refine q_putI (C := RX2) (T := TX2) (N := 14) (ci := 2) hC inX4_write_X2 tyX2 tyX2_ok nmX2 (hF.tp (b := 1) (Or.inl rfl)).ob rfl 11 (by decide) (uX4_write__o _ (List.mem_of_getElem? (l := owX4_write) (i := 3) rfl)) rfl rfl rfl (fun _ => Nat.le_of_ble_eq_true rfl) (fun _ => rfl) dX4_write_72 75 rfl (fun M7 eM7 => ?_)
        have hw := hw M7 eM7
        refine q_iload_n hC dX4_write_75 0 rfl 76 rfl ?_
        exact r_iret hR dX4_write_76 hw
      · refine q_bipush (v := (-3)) hC dX4_write_48 (by decide) 50 rfl ?_
        exact r_iret hR dX4_write_50 hw
    · refine q_bipush (v := (-2)) hC dX4_write_27 (by decide) 29 rfl ?_
      exact r_iret hR dX4_write_29 hw
  · refine q_iconst (v := (-1)) hC dX4_write_15 rfl 16 rfl ?_
    exact r_iret hR dX4_write_16 hw
