theorem inX4_mark_X2 : ∀ w ∈ u_ws RX2 TX2 14, w ∈ wsX4_mark := uX4_mark__wsX20
theorem inX4_mark_X4 : ∀ w ∈ u_ws RX4 TX4 12, w ∈ wsX4_mark := uX4_mark__wsX40
set_option maxRecDepth 100000 in
set_option maxHeartbeats 4000000 in
theorem ctX4_mark (l : Launch) (g : GG) (M : MM) (v1 : Int32) (Q : Int32 → MM → Prop) (hF : full g) (hw : wX4_mark Q M v1) : MI g l yX4_mark wsX4_mark (rmOf 5 117) [.ref (gA g 0), .int v1] M Q := by
  refine mk_MI (cc := cX4_mark) (maxL := 2) (by decide) rfl (Nat.le_of_ble_eq_true rfl) ?_
  intro z Qf hC hR
  show XX z g Qf 2 0 [(0, .ref (gA g 0)), (1, .int v1)] [] M
  refine q_iload_n hC dX4_mark_0 1 rfl 1 rfl ?_
  refine q_iconst (v := 0) hC dX4_mark_1 rfl 2 rfl ?_
  refine q_aload_n hC dX4_mark_2 0 rfl 3 rfl ?_
  refine q_getR (C := RX4) (T := TX4) (N := 12) (ci := 4) hC inX4_mark_X4 (obF0 hF) rfl 0 (by decide) (uX4_mark__o _ (List.mem_of_getElem? (l := owX4_mark) (i := 1) rfl)) rfl 1 (fun _ => rfl) dX4_mark_3 6 rfl ?_
  refine q_getI (C := RX2) (T := TX2) (N := 14) (ci := 2) hC inX4_mark_X2 (hF.tp (b := 1) (Or.inl rfl)).ob rfl 8 (by decide) (uX4_mark__o _ (List.mem_of_getElem? (l := owX4_mark) (i := 2) rfl)) rfl (fun _ => rfl) dX4_mark_6 9 rfl ?_
  refine r_callI hC (go_T (As := [.int v1, .int 0, .int (M 1 8)]) (rest := []) hC (ctX4_isBetween (zl z) g M v1 0 (M 1 8) _ hw) 3 gX4_mark_X4_isBetween rfl ⟨rfl, rfl⟩ hdT_X4_isBetween ⟨Nat.le_of_ble_eq_true rfl, Nat.le_of_ble_eq_true rfl⟩ rfl rfl (Nat.le_of_ble_eq_true rfl) dX4_mark_9) 12 rfl (fun r1 M2 hw => ?_)
  refine q_if_ne hC 17 dX4_mark_12 (by decide) 15 rfl hw (fun hw => ?_) (fun hw => ?_)
  · refine q_aload_n hC dX4_mark_17 0 rfl 18 rfl ?_
    refine q_getR (C := RX4) (T := TX4) (N := 12) (ci := 4) hC inX4_mark_X4 (obF0 hF) rfl 0 (by decide) (uX4_mark__o _ (List.mem_of_getElem? (l := owX4_mark) (i := 1) rfl)) rfl 1 (fun _ => rfl) dX4_mark_18 21 rfl ?_
    refine q_iload_n hC dX4_mark_21 1 rfl 22 rfl ?_
    refine q_iconst (v := 0) hC dX4_mark_22 rfl 23 rfl ?_
    refine r_callI hC (go_V (q := (RX2, TX2, 14)) (As := [.int v1, .int 0]) (rest := []) hC (ctX2_hasRoomAt (zl z) g M2 1 v1 0 _ (hF.tp (b := 1) (Or.inl rfl)) hw) 2 gX4_mark_X2_hasRoomAt rfl ⟨rfl, rfl⟩ hdV_X2_hasRoomAt ⟨Nat.le_of_ble_eq_true rfl, Nat.le_of_ble_eq_true rfl⟩ (hF.tp (b := 1) (Or.inl rfl)).ob rfl rfl rfl (Nat.le_of_ble_eq_true rfl) dX4_mark_23) 26 rfl (fun r3 M4 hw => ?_)
    refine q_if_ne hC 32 dX4_mark_26 (by decide) 29 rfl hw (fun hw => ?_) (fun hw => ?_)
    · refine q_aload_n hC dX4_mark_32 0 rfl 33 rfl ?_
      refine q_getR (C := RX4) (T := TX4) (N := 12) (ci := 4) hC inX4_mark_X4 (obF0 hF) rfl 0 (by decide) (uX4_mark__o _ (List.mem_of_getElem? (l := owX4_mark) (i := 1) rfl)) rfl 1 (fun _ => rfl) dX4_mark_33 36 rfl ?_
      refine q_iload_n hC dX4_mark_36 1 rfl 37 rfl ?_
      refine q_iconst (v := 0) hC dX4_mark_37 rfl 38 rfl ?_
      refine r_callI hC (go_V (q := (RX2, TX2, 14)) (As := [.int v1, .int 0]) (rest := []) hC (ctX2_writeAt (zl z) g M4 1 v1 0 _ (hF.tp (b := 1) (Or.inl rfl)) hw) 2 gX4_mark_X2_writeAt rfl ⟨rfl, rfl⟩ hdV_X2_writeAt ⟨Nat.le_of_ble_eq_true rfl, Nat.le_of_ble_eq_true rfl⟩ (hF.tp (b := 1) (Or.inl rfl)).ob rfl rfl rfl (Nat.le_of_ble_eq_true rfl) dX4_mark_38) 41 rfl (fun r5 M6 hw => ?_)
      exact r_iret hR dX4_mark_41 hw
    · refine q_bipush (v := (-3)) hC dX4_mark_29 (by decide) 31 rfl ?_
      exact r_iret hR dX4_mark_31 hw
  · refine q_iconst (v := (-1)) hC dX4_mark_15 rfl 16 rfl ?_
    exact r_iret hR dX4_mark_16 hw
theorem hdV_X2_hasColumn : yX2_hasColumn.cls = RX2 ∧ yX2_hasColumn.cls ≠ "java/lang/invoke/MethodHandle" ∧ yX2_hasColumn.cls ≠ "java/lang/invoke/VarHandle" ∧ (parseMethodDescriptor yX2_hasColumn.desc).map (fun d => d.parameters.length) = some 2 := by decide +kernel
theorem hdV_X2_turnBit : yX2_turnBit.cls = RX2 ∧ yX2_turnBit.cls ≠ "java/lang/invoke/MethodHandle" ∧ yX2_turnBit.cls ≠ "java/lang/invoke/VarHandle" ∧ (parseMethodDescriptor yX2_turnBit.desc).map (fun d => d.parameters.length) = some 3 := by decide +kernel
theorem inX4_spoil_X4 : ∀ w ∈ u_ws RX4 TX4 12, w ∈ wsX4_spoil := uX4_spoil__wsX40
set_option maxRecDepth 100000 in
set_option maxHeartbeats 4000000 in
theorem ctX4_spoil (l : Launch) (g : GG) (M : MM) (v1 : Int32) (v2 : Int32) (v3 : Int32) (Q : Int32 → MM → Prop) (hF : full g) (hw : wX4_spoil Q M v1 v2 v3) : MI g l yX4_spoil wsX4_spoil (rmOf 4 85) [.ref (gA g 0), .int v1, .int v2, .int v3] M Q := by
  refine mk_MI (cc := cX4_spoil) (maxL := 4) (by decide) rfl (Nat.le_of_ble_eq_true rfl) ?_
  intro z Qf hC hR
  show XX z g Qf 4 0 [(0, .ref (gA g 0)), (1, .int v1), (2, .int v2), (3, .int v3)] [] M
  refine q_aload_n hC dX4_spoil_0 0 rfl 1 rfl ?_
  refine q_getR (C := RX4) (T := TX4) (N := 12) (ci := 4) hC inX4_spoil_X4 (obF0 hF) rfl 0 (by decide) (uX4_spoil__o _ (List.mem_of_getElem? (l := owX4_spoil) (i := 1) rfl)) rfl 1 (fun _ => rfl) dX4_spoil_1 4 rfl ?_
  refine q_iload_n hC dX4_spoil_4 1 rfl 5 rfl ?_
  refine q_iload_n hC dX4_spoil_5 2 rfl 6 rfl ?_
  refine r_callI hC (go_V (q := (RX2, TX2, 14)) (As := [.int v1, .int v2]) (rest := []) hC (ctX2_hasColumn (zl z) g M 1 v1 v2 _ (hF.tp (b := 1) (Or.inl rfl)) hw) 2 gX4_spoil_X2_hasColumn rfl ⟨rfl, rfl⟩ hdV_X2_hasColumn ⟨Nat.le_of_ble_eq_true rfl, Nat.le_of_ble_eq_true rfl⟩ (hF.tp (b := 1) (Or.inl rfl)).ob rfl rfl rfl (Nat.le_of_ble_eq_true rfl) dX4_spoil_6) 9 rfl (fun r1 M2 hw => ?_)
  refine q_if_eq hC 22 dX4_spoil_9 (by decide) 12 rfl hw (fun hw => ?_) (fun hw => ?_)
  · refine q_iconst (v := (-1)) hC dX4_spoil_22 rfl 23 rfl ?_
    exact r_iret hR dX4_spoil_23 hw
  · refine q_iload_n hC dX4_spoil_12 3 rfl 13 rfl ?_
    refine q_iconst (v := 0) hC dX4_spoil_13 rfl 14 rfl ?_
    refine q_bipush (v := 8) hC dX4_spoil_14 (by decide) 16 rfl ?_
    refine r_callI hC (go_T (As := [.int v3, .int 0, .int 8]) (rest := []) hC (ctX4_isBetween (zl z) g M2 v3 0 8 _ hw) 3 gX4_spoil_X4_isBetween rfl ⟨rfl, rfl⟩ hdT_X4_isBetween ⟨Nat.le_of_ble_eq_true rfl, Nat.le_of_ble_eq_true rfl⟩ rfl rfl (Nat.le_of_ble_eq_true rfl) dX4_spoil_16) 19 rfl (fun r3 M4 hw => ?_)
    refine q_if_ne hC 24 dX4_spoil_19 (by decide) 22 rfl hw (fun hw => ?_) (fun hw => ?_)
    · refine q_aload_n hC dX4_spoil_24 0 rfl 25 rfl ?_
      refine q_getR (C := RX4) (T := TX4) (N := 12) (ci := 4) hC inX4_spoil_X4 (obF0 hF) rfl 0 (by decide) (uX4_spoil__o _ (List.mem_of_getElem? (l := owX4_spoil) (i := 1) rfl)) rfl 1 (fun _ => rfl) dX4_spoil_25 28 rfl ?_
      refine q_iload_n hC dX4_spoil_28 1 rfl 29 rfl ?_
      refine q_iload_n hC dX4_spoil_29 2 rfl 30 rfl ?_
      refine q_iload_n hC dX4_spoil_30 3 rfl 31 rfl ?_
      refine r_callI hC (go_V (q := (RX2, TX2, 14)) (As := [.int v1, .int v2, .int v3]) (rest := []) hC (ctX2_turnBit (zl z) g M4 1 v1 v2 v3 _ (hF.tp (b := 1) (Or.inl rfl)) hw) 3 gX4_spoil_X2_turnBit rfl ⟨rfl, rfl⟩ hdV_X2_turnBit ⟨Nat.le_of_ble_eq_true rfl, Nat.le_of_ble_eq_true rfl⟩ (hF.tp (b := 1) (Or.inl rfl)).ob rfl rfl rfl (Nat.le_of_ble_eq_true rfl) dX4_spoil_31) 34 rfl (fun r5 M6 hw => ?_)
      exact r_iret hR dX4_spoil_34 hw
    · refine q_iconst (v := (-1)) hC dX4_spoil_22 rfl 23 rfl ?_
      exact r_iret hR dX4_spoil_23 hw
theorem inX4_dead_X2 : ∀ w ∈ u_ws RX2 TX2 14, w ∈ wsX4_dead := uX4_dead__wsX20
theorem inX4_dead_X4 : ∀ w ∈ u_ws RX4 TX4 12, w ∈ wsX4_dead := uX4_dead__wsX40
set_option maxRecDepth 100000 in
set_option maxHeartbeats 4000000 in
theorem ctX4_dead (l : Launch) (g : GG) (M : MM) (v1 : Int32) (Q : Int32 → MM → Prop) (hF : full g) (hw : wX4_dead Q M v1) : MI g l yX4_dead wsX4_dead (rmOf 1 22) [.ref (gA g 0), .int v1] M Q := by
  refine mk_MI (cc := cX4_dead) (maxL := 3) (by decide) rfl (Nat.le_of_ble_eq_true rfl) ?_
  intro z Qf hC hR
  show XX z g Qf 3 0 [(0, .ref (gA g 0)), (1, .int v1)] [] M
  have B18 : ∀ (M : MM), wX4_dead_18 Q v1 M → XX z g Qf 3 18 [(0, .ref (gA g 0)), (1, .int v1)] [] M := by
    intro M hw
    refine q_aload_n hC dX4_dead_18 0 rfl 19 rfl ?_
    refine q_getR (C := RX4) (T := TX4) (N := 12) (ci := 4) hC inX4_dead_X4 (obF0 hF) rfl 0 (by decide) (uX4_dead__o _ (List.mem_of_getElem? (l := owX4_dead) (i := 1) rfl)) rfl 1 (fun _ => rfl) dX4_dead_19 22 rfl ?_
    refine q_getI (C := RX2) (T := TX2) (N := 14) (ci := 2) hC inX4_dead_X2 (hF.tp (b := 1) (Or.inl rfl)).ob rfl 12 (by decide) (uX4_dead__o _ (List.mem_of_getElem? (l := owX4_dead) (i := 2) rfl)) rfl (fun _ => rfl) dX4_dead_22 25 rfl ?_
    refine q_istore_n (L' := [(2, .int (M 1 12)), (0, .ref (gA g 0)), (1, .int v1)]) hC dX4_dead_25 (by decide) rfl 26 rfl ?_
    refine q_aload_n hC dX4_dead_26 1 rfl 27 rfl ?_
    refine q_getR (C := RX4) (T := TX4) (N := 12) (ci := 4) hC inX4_dead_X4 (obF0 hF) rfl 0 (by decide) (uX4_dead__o _ (List.mem_of_getElem? (l := owX4_dead) (i := 1) rfl)) rfl 1 (fun _ => rfl) dX4_dead_27 30 rfl ?_
    refine q_iload_n hC dX4_dead_30 2 rfl 31 rfl ?_
    refine q_putI (C := RX2) (T := TX2) (N := 14) (ci := 2) hC inX4_dead_X2 tyX2 tyX2_ok nmX2 (hF.tp (b := 1) (Or.inl rfl)).ob rfl 12 (by decide) (uX4_dead__o _ (List.mem_of_getElem? (l := owX4_dead) (i := 2) rfl)) rfl rfl rfl (fun _ => Nat.le_of_ble_eq_true rfl) (fun _ => rfl) dX4_dead_31 34 rfl (fun M3 eM3 => ?_)
    have hw := hw M3 eM3
    refine q_iload_n hC dX4_dead_34 0 rfl 35 rfl ?_
    exact r_iret hR dX4_dead_35 hw
  refine q_iload_n hC dX4_dead_0 1 rfl 1 rfl ?_
  refine q_bipush (v := (-4)) hC dX4_dead_1 (by decide) 3 rfl ?_
  refine q_icmp_eq hC 18 dX4_dead_3 (by decide) 6 rfl hw (fun hw => ?_) (fun hw => ?_)
  · exact XX.sub [0, 1] rfl (B18 M hw)
  · refine q_iload_n hC dX4_dead_6 1 rfl 7 rfl ?_
    refine q_iconst (v := 0) hC dX4_dead_7 rfl 8 rfl ?_
    refine q_bipush (v := 8) hC dX4_dead_8 (by decide) 10 rfl ?_
    refine r_callI hC (go_T (As := [.int v1, .int 0, .int 8]) (rest := []) hC (ctX4_isBetween (zl z) g M v1 0 8 _ hw) 3 gX4_dead_X4_isBetween rfl ⟨rfl, rfl⟩ hdT_X4_isBetween ⟨Nat.le_of_ble_eq_true rfl, Nat.le_of_ble_eq_true rfl⟩ rfl rfl (Nat.le_of_ble_eq_true rfl) dX4_dead_10) 13 rfl (fun r1 M2 hw => ?_)
    refine q_if_ne hC 18 dX4_dead_13 (by decide) 16 rfl hw (fun hw => ?_) (fun hw => ?_)
    · exact XX.sub [0, 1] rfl (B18 M2 hw)
    · refine q_iconst (v := (-1)) hC dX4_dead_16 rfl 17 rfl ?_
      exact r_iret hR dX4_dead_17 hw
theorem inX4_check_X2 : ∀ w ∈ u_ws RX2 TX2 14, w ∈ wsX4_check := uX4_check__wsX20
theorem inX4_check_X4 : ∀ w ∈ u_ws RX4 TX4 12, w ∈ wsX4_check := uX4_check__wsX40
set_option maxRecDepth 100000 in
set_option maxHeartbeats 4000000 in
theorem ctX4_check (l : Launch) (g : GG) (M : MM) (v1 : Int32) (Q : Int32 → MM → Prop) (hF : full g) (hw : wX4_check Q M v1) : MI g l yX4_check wsX4_check (rmOf 5 113) [.ref (gA g 0), .int v1] M Q := by
  refine mk_MI (cc := cX4_check) (maxL := 2) (by decide) rfl (Nat.le_of_ble_eq_true rfl) ?_
  intro z Qf hC hR
  show XX z g Qf 2 0 [(0, .ref (gA g 0)), (1, .int v1)] [] M
  refine q_aload_n hC dX4_check_0 0 rfl 1 rfl ?_
  refine q_getR (C := RX4) (T := TX4) (N := 12) (ci := 4) hC inX4_check_X4 (obF0 hF) rfl 0 (by decide) (uX4_check__o _ (List.mem_of_getElem? (l := owX4_check) (i := 1) rfl)) rfl 1 (fun _ => rfl) dX4_check_1 4 rfl ?_
  refine q_iload_n hC dX4_check_4 1 rfl 5 rfl ?_
  refine r_callI hC (go_V (q := (RX2, TX2, 14)) (As := [.int v1]) (rest := []) hC (ctX2_hasBlock (zl z) g M 1 v1 _ (hF.tp (b := 1) (Or.inl rfl)) hw) 1 gX4_check_X2_hasBlock rfl ⟨rfl, rfl⟩ hdV_X2_hasBlock ⟨Nat.le_of_ble_eq_true rfl, Nat.le_of_ble_eq_true rfl⟩ (hF.tp (b := 1) (Or.inl rfl)).ob rfl rfl rfl (Nat.le_of_ble_eq_true rfl) dX4_check_5) 8 rfl (fun r1 M2 hw => ?_)
  refine q_if_eq hC 29 dX4_check_8 (by decide) 11 rfl hw (fun hw => ?_) (fun hw => ?_)
  · refine q_iconst (v := (-1)) hC dX4_check_29 rfl 30 rfl ?_
    exact r_iret hR dX4_check_30 hw
  · refine q_aload_n hC dX4_check_11 0 rfl 12 rfl ?_
    refine q_getR (C := RX4) (T := TX4) (N := 12) (ci := 4) hC inX4_check_X4 (obF0 hF) rfl 0 (by decide) (uX4_check__o _ (List.mem_of_getElem? (l := owX4_check) (i := 1) rfl)) rfl 1 (fun _ => rfl) dX4_check_12 15 rfl ?_
    refine q_iload_n hC dX4_check_15 1 rfl 16 rfl ?_
    refine q_aload_n hC dX4_check_16 0 rfl 17 rfl ?_
    refine q_getR (C := RX4) (T := TX4) (N := 12) (ci := 4) hC inX4_check_X4 (obF0 hF) rfl 0 (by decide) (uX4_check__o _ (List.mem_of_getElem? (l := owX4_check) (i := 1) rfl)) rfl 1 (fun _ => rfl) dX4_check_17 20 rfl ?_
    refine q_getI (C := RX2) (T := TX2) (N := 14) (ci := 2) hC inX4_check_X2 (hF.tp (b := 1) (Or.inl rfl)).ob rfl 12 (by decide) (uX4_check__o _ (List.mem_of_getElem? (l := owX4_check) (i := 2) rfl)) rfl (fun _ => rfl) dX4_check_20 23 rfl ?_
    refine r_callI hC (go_V (q := (RX2, TX2, 14)) (As := [.int v1, .int (M2 1 12)]) (rest := []) hC (ctX2_readingOf (zl z) g M2 1 v1 (M2 1 12) _ (hF.tp (b := 1) (Or.inl rfl)) hw) 2 gX4_check_X2_readingOf rfl ⟨rfl, rfl⟩ hdV_X2_readingOf ⟨Nat.le_of_ble_eq_true rfl, Nat.le_of_ble_eq_true rfl⟩ (hF.tp (b := 1) (Or.inl rfl)).ob rfl rfl rfl (Nat.le_of_ble_eq_true rfl) dX4_check_23) 26 rfl (fun r3 M4 hw => ?_)
    refine q_goto hC 30 dX4_check_26 (by decide) ?_
    exact r_iret hR dX4_check_30 hw
theorem inX4_got_X2 : ∀ w ∈ u_ws RX2 TX2 14, w ∈ wsX4_got := uX4_got__wsX20
theorem inX4_got_X4 : ∀ w ∈ u_ws RX4 TX4 12, w ∈ wsX4_got := uX4_got__wsX40
set_option maxRecDepth 100000 in
set_option maxHeartbeats 4000000 in
theorem ctX4_got (l : Launch) (g : GG) (M : MM) (v1 : Int32) (v2 : Int32) (Q : Int32 → MM → Prop) (hF : full g) (hw : wX4_got Q M v1 v2) : MI g l yX4_got wsX4_got (rmOf 5 113) [.ref (gA g 0), .int v1, .int v2] M Q := by
  refine mk_MI (cc := cX4_got) (maxL := 3) (by decide) rfl (Nat.le_of_ble_eq_true rfl) ?_
  intro z Qf hC hR
  show XX z g Qf 3 0 [(0, .ref (gA g 0)), (1, .int v1), (2, .int v2)] [] M
  refine q_aload_n hC dX4_got_0 0 rfl 1 rfl ?_
  refine q_getR (C := RX4) (T := TX4) (N := 12) (ci := 4) hC inX4_got_X4 (obF0 hF) rfl 0 (by decide) (uX4_got__o _ (List.mem_of_getElem? (l := owX4_got) (i := 1) rfl)) rfl 1 (fun _ => rfl) dX4_got_1 4 rfl ?_
  refine q_iload_n hC dX4_got_4 1 rfl 5 rfl ?_
  refine r_callI hC (go_V (q := (RX2, TX2, 14)) (As := [.int v1]) (rest := []) hC (ctX2_hasBlock (zl z) g M 1 v1 _ (hF.tp (b := 1) (Or.inl rfl)) hw) 1 gX4_got_X2_hasBlock rfl ⟨rfl, rfl⟩ hdV_X2_hasBlock ⟨Nat.le_of_ble_eq_true rfl, Nat.le_of_ble_eq_true rfl⟩ (hF.tp (b := 1) (Or.inl rfl)).ob rfl rfl rfl (Nat.le_of_ble_eq_true rfl) dX4_got_5) 8 rfl (fun r1 M2 hw => ?_)
  refine q_if_eq hC 29 dX4_got_8 (by decide) 11 rfl hw (fun hw => ?_) (fun hw => ?_)
  · refine q_iconst (v := (-1)) hC dX4_got_29 rfl 30 rfl ?_
    exact r_iret hR dX4_got_30 hw
  · refine q_iload_n hC dX4_got_11 2 rfl 12 rfl ?_
    refine q_iconst (v := 0) hC dX4_got_12 rfl 13 rfl ?_
    refine q_aload_n hC dX4_got_13 0 rfl 14 rfl ?_
    refine q_getR (C := RX4) (T := TX4) (N := 12) (ci := 4) hC inX4_got_X4 (obF0 hF) rfl 0 (by decide) (uX4_got__o _ (List.mem_of_getElem? (l := owX4_got) (i := 1) rfl)) rfl 1 (fun _ => rfl) dX4_got_14 17 rfl ?_
    refine q_iload_n hC dX4_got_17 1 rfl 18 rfl ?_
    refine r_callI hC (go_V (q := (RX2, TX2, 14)) (As := [.int v1]) (rest := [.int 0, .int v2]) hC (ctX2_sizeOf (zl z) g M2 1 v1 _ (hF.tp (b := 1) (Or.inl rfl)) hw) 1 gX4_got_X2_sizeOf rfl ⟨rfl, rfl⟩ hdV_X2_sizeOf ⟨Nat.le_of_ble_eq_true rfl, Nat.le_of_ble_eq_true rfl⟩ (hF.tp (b := 1) (Or.inl rfl)).ob rfl rfl rfl (Nat.le_of_ble_eq_true rfl) dX4_got_18) 21 rfl (fun r3 M4 hw => ?_)
    refine q_iconst (v := 1) hC dX4_got_21 rfl 22 rfl ?_
    refine q_isub hC dX4_got_22 23 rfl ?_
    refine r_callI hC (go_T (As := [.int v2, .int 0, .int (r3 - (1 : Int32))]) (rest := []) hC (ctX4_isBetween (zl z) g M4 v2 0 (r3 - (1 : Int32)) _ hw) 3 gX4_got_X4_isBetween rfl ⟨rfl, rfl⟩ hdT_X4_isBetween ⟨Nat.le_of_ble_eq_true rfl, Nat.le_of_ble_eq_true rfl⟩ rfl rfl (Nat.le_of_ble_eq_true rfl) dX4_got_23) 26 rfl (fun r5 M6 hw => ?_)
    refine q_if_ne hC 31 dX4_got_26 (by decide) 29 rfl hw (fun hw => ?_) (fun hw => ?_)
    · refine q_aload_n hC dX4_got_31 0 rfl 32 rfl ?_
      refine q_getR (C := RX4) (T := TX4) (N := 12) (ci := 4) hC inX4_got_X4 (obF0 hF) rfl 0 (by decide) (uX4_got__o _ (List.mem_of_getElem? (l := owX4_got) (i := 1) rfl)) rfl 1 (fun _ => rfl) dX4_got_32 35 rfl ?_
      refine q_iload_n hC dX4_got_35 1 rfl 36 rfl ?_
      refine q_aload_n hC dX4_got_36 0 rfl 37 rfl ?_
      refine q_getR (C := RX4) (T := TX4) (N := 12) (ci := 4) hC inX4_got_X4 (obF0 hF) rfl 0 (by decide) (uX4_got__o _ (List.mem_of_getElem? (l := owX4_got) (i := 1) rfl)) rfl 1 (fun _ => rfl) dX4_got_37 40 rfl ?_
      refine q_getI (C := RX2) (T := TX2) (N := 14) (ci := 2) hC inX4_got_X2 (hF.tp (b := 1) (Or.inl rfl)).ob rfl 12 (by decide) (uX4_got__o _ (List.mem_of_getElem? (l := owX4_got) (i := 2) rfl)) rfl (fun _ => rfl) dX4_got_40 43 rfl ?_
      refine r_callI hC (go_V (q := (RX2, TX2, 14)) (As := [.int v1, .int (M6 1 12)]) (rest := []) hC (ctX2_readingOf (zl z) g M6 1 v1 (M6 1 12) _ (hF.tp (b := 1) (Or.inl rfl)) hw) 2 gX4_got_X2_readingOf rfl ⟨rfl, rfl⟩ hdV_X2_readingOf ⟨Nat.le_of_ble_eq_true rfl, Nat.le_of_ble_eq_true rfl⟩ (hF.tp (b := 1) (Or.inl rfl)).ob rfl rfl rfl (Nat.le_of_ble_eq_true rfl) dX4_got_43) 46 rfl (fun r7 M8 hw => ?_)
      refine q_iconst (v := 3) hC dX4_got_46 rfl 47 rfl ?_
      refine q_icmp_ne hC 53 dX4_got_47 (by decide) 50 rfl hw (fun hw => ?_) (fun hw => ?_)
      · refine q_aload_n hC dX4_got_53 0 rfl 54 rfl ?_
        refine q_getR (C := RX4) (T := TX4) (N := 12) (ci := 4) hC inX4_got_X4 (obF0 hF) rfl 0 (by decide) (uX4_got__o _ (List.mem_of_getElem? (l := owX4_got) (i := 1) rfl)) rfl 1 (fun _ => rfl) dX4_got_54 57 rfl ?_
        refine q_iload_n hC dX4_got_57 1 rfl 58 rfl ?_
        refine q_iload_n hC dX4_got_58 2 rfl 59 rfl ?_
        refine r_callI hC (go_V (q := (RX2, TX2, 14)) (As := [.int v1, .int v2]) (rest := []) hC (ctX2_byteAsRead (zl z) g M8 1 v1 v2 _ (hF.tp (b := 1) (Or.inl rfl)) hw) 2 gX4_got_X2_byteAsRead rfl ⟨rfl, rfl⟩ hdV_X2_byteAsRead ⟨Nat.le_of_ble_eq_true rfl, Nat.le_of_ble_eq_true rfl⟩ (hF.tp (b := 1) (Or.inl rfl)).ob rfl rfl rfl (Nat.le_of_ble_eq_true rfl) dX4_got_59) 62 rfl (fun r9 M10 hw => ?_)
        exact r_iret hR dX4_got_62 hw
      · refine q_bipush (v := (-4)) hC dX4_got_50 (by decide) 52 rfl ?_
        exact r_iret hR dX4_got_52 hw
    · refine q_iconst (v := (-1)) hC dX4_got_29 rfl 30 rfl ?_
      exact r_iret hR dX4_got_30 hw
theorem inX4_column_X4 : ∀ w ∈ u_ws RX4 TX4 12, w ∈ wsX4_column := uX4_column__wsX40
set_option maxRecDepth 100000 in
set_option maxHeartbeats 4000000 in
theorem ctX4_column (l : Launch) (g : GG) (M : MM) (v1 : Int32) (v2 : Int32) (Q : Int32 → MM → Prop) (hF : full g) (hw : wX4_column Q M v1 v2) : MI g l yX4_column wsX4_column (rmOf 4 85) [.ref (gA g 0), .int v1, .int v2] M Q := by
  refine mk_MI (cc := cX4_column) (maxL := 3) (by decide) rfl (Nat.le_of_ble_eq_true rfl) ?_
  intro z Qf hC hR
  show XX z g Qf 3 0 [(0, .ref (gA g 0)), (1, .int v1), (2, .int v2)] [] M
  refine q_aload_n hC dX4_column_0 0 rfl 1 rfl ?_
  refine q_getR (C := RX4) (T := TX4) (N := 12) (ci := 4) hC inX4_column_X4 (obF0 hF) rfl 0 (by decide) (uX4_column__o _ (List.mem_of_getElem? (l := owX4_column) (i := 1) rfl)) rfl 1 (fun _ => rfl) dX4_column_1 4 rfl ?_
  refine q_iload_n hC dX4_column_4 1 rfl 5 rfl ?_
  refine q_iload_n hC dX4_column_5 2 rfl 6 rfl ?_
  refine r_callI hC (go_V (q := (RX2, TX2, 14)) (As := [.int v1, .int v2]) (rest := []) hC (ctX2_hasColumn (zl z) g M 1 v1 v2 _ (hF.tp (b := 1) (Or.inl rfl)) hw) 2 gX4_column_X2_hasColumn rfl ⟨rfl, rfl⟩ hdV_X2_hasColumn ⟨Nat.le_of_ble_eq_true rfl, Nat.le_of_ble_eq_true rfl⟩ (hF.tp (b := 1) (Or.inl rfl)).ob rfl rfl rfl (Nat.le_of_ble_eq_true rfl) dX4_column_6) 9 rfl (fun r1 M2 hw => ?_)
  refine q_if_eq hC 24 dX4_column_9 (by decide) 12 rfl hw (fun hw => ?_) (fun hw => ?_)
  · refine q_iconst (v := (-1)) hC dX4_column_24 rfl 25 rfl ?_
    exact r_iret hR dX4_column_25 hw
  · refine q_aload_n hC dX4_column_12 0 rfl 13 rfl ?_
    refine q_getR (C := RX4) (T := TX4) (N := 12) (ci := 4) hC inX4_column_X4 (obF0 hF) rfl 0 (by decide) (uX4_column__o _ (List.mem_of_getElem? (l := owX4_column) (i := 1) rfl)) rfl 1 (fun _ => rfl) dX4_column_13 16 rfl ?_
    refine q_iload_n hC dX4_column_16 1 rfl 17 rfl ?_
    refine q_iload_n hC dX4_column_17 2 rfl 18 rfl ?_
    refine r_callI hC (go_V (q := (RX2, TX2, 14)) (As := [.int v1, .int v2]) (rest := []) hC (ctX2_columnOf (zl z) g M2 1 v1 v2 _ (hF.tp (b := 1) (Or.inl rfl)) hw) 2 gX4_column_X2_columnOf rfl ⟨rfl, rfl⟩ hdV_X2_columnOf ⟨Nat.le_of_ble_eq_true rfl, Nat.le_of_ble_eq_true rfl⟩ (hF.tp (b := 1) (Or.inl rfl)).ob rfl rfl rfl (Nat.le_of_ble_eq_true rfl) dX4_column_18) 21 rfl (fun r3 M4 hw => ?_)
    refine q_goto hC 25 dX4_column_21 (by decide) ?_
    exact r_iret hR dX4_column_25 hw
theorem hdV_X2_lostBlocksBy : yX2_lostBlocksBy.cls = RX2 ∧ yX2_lostBlocksBy.cls ≠ "java/lang/invoke/MethodHandle" ∧ yX2_lostBlocksBy.cls ≠ "java/lang/invoke/VarHandle" ∧ (parseMethodDescriptor yX2_lostBlocksBy.desc).map (fun d => d.parameters.length) = some 1 := by decide +kernel
theorem hdV_X2_fooledBlocks : yX2_fooledBlocks.cls = RX2 ∧ yX2_fooledBlocks.cls ≠ "java/lang/invoke/MethodHandle" ∧ yX2_fooledBlocks.cls ≠ "java/lang/invoke/VarHandle" ∧ (parseMethodDescriptor yX2_fooledBlocks.desc).map (fun d => d.parameters.length) = some 0 := by decide +kernel
theorem hdV_X2_mendedBlocks : yX2_mendedBlocks.cls = RX2 ∧ yX2_mendedBlocks.cls ≠ "java/lang/invoke/MethodHandle" ∧ yX2_mendedBlocks.cls ≠ "java/lang/invoke/VarHandle" ∧ (parseMethodDescriptor yX2_mendedBlocks.desc).map (fun d => d.parameters.length) = some 0 := by decide +kernel
theorem inX4_state_X2 : ∀ w ∈ u_ws RX2 TX2 14, w ∈ wsX4_state := uX4_state__wsX20
theorem inX4_state_X4 : ∀ w ∈ u_ws RX4 TX4 12, w ∈ wsX4_state := uX4_state__wsX40
set_option maxRecDepth 100000 in
set_option maxHeartbeats 4000000 in
theorem ctX4_state (l : Launch) (g : GG) (M : MM) (v1 : Int32) (Q : Int32 → MM → Prop) (hF : full g) (hw : wX4_state Q M v1) : MI g l yX4_state wsX4_state (rmOf 6 136) [.ref (gA g 0), .int v1] M Q := by
  refine mk_MI (cc := cX4_state) (maxL := 2) (by decide) rfl (Nat.le_of_ble_eq_true rfl) ?_
  intro z Qf hC hR
  show XX z g Qf 2 0 [(0, .ref (gA g 0)), (1, .int v1)] [] M
  refine q_iload_n hC dX4_state_0 1 rfl 1 rfl ?_
  by_cases c0 : v1 = 0
  · have hw := hw.1 c0
    refine q_tabIn hC 28 dX4_state_1 (by rw [c0]; decide) (by rw [c0]; decide) (by rw [c0]; rfl) (by decide) ?_
    refine q_aload_n hC dX4_state_28 0 rfl 29 rfl ?_
    refine q_getR (C := RX4) (T := TX4) (N := 12) (ci := 4) hC inX4_state_X4 (obF0 hF) rfl 0 (by decide) (uX4_state__o _ (List.mem_of_getElem? (l := owX4_state) (i := 1) rfl)) rfl 1 (fun _ => rfl) dX4_state_29 32 rfl ?_
    refine q_aload_n hC dX4_state_32 0 rfl 33 rfl ?_
    refine q_getR (C := RX4) (T := TX4) (N := 12) (ci := 4) hC inX4_state_X4 (obF0 hF) rfl 0 (by decide) (uX4_state__o _ (List.mem_of_getElem? (l := owX4_state) (i := 1) rfl)) rfl 1 (fun _ => rfl) dX4_state_33 36 rfl ?_
    refine q_getI (C := RX2) (T := TX2) (N := 14) (ci := 2) hC inX4_state_X2 (hF.tp (b := 1) (Or.inl rfl)).ob rfl 12 (by decide) (uX4_state__o _ (List.mem_of_getElem? (l := owX4_state) (i := 2) rfl)) rfl (fun _ => rfl) dX4_state_36 39 rfl ?_
    refine r_callI hC (go_V (q := (RX2, TX2, 14)) (As := [.int (M 1 12)]) (rest := []) hC (ctX2_lostBlocksBy (zl z) g M 1 (M 1 12) _ (hF.tp (b := 1) (Or.inl rfl)) hw) 1 gX4_state_X2_lostBlocksBy rfl ⟨rfl, rfl⟩ hdV_X2_lostBlocksBy ⟨Nat.le_of_ble_eq_true rfl, Nat.le_of_ble_eq_true rfl⟩ (hF.tp (b := 1) (Or.inl rfl)).ob rfl rfl rfl (Nat.le_of_ble_eq_true rfl) dX4_state_39) 42 rfl (fun r1 M2 hw => ?_)
    exact r_iret hR dX4_state_42 hw
  · have hw := hw.2 c0
    by_cases c1 : v1 = 1
    · have hw := hw.1 c1
      refine q_tabIn hC 43 dX4_state_1 (by rw [c1]; decide) (by rw [c1]; decide) (by rw [c1]; rfl) (by decide) ?_
      refine q_aload_n hC dX4_state_43 0 rfl 44 rfl ?_
      refine q_getR (C := RX4) (T := TX4) (N := 12) (ci := 4) hC inX4_state_X4 (obF0 hF) rfl 0 (by decide) (uX4_state__o _ (List.mem_of_getElem? (l := owX4_state) (i := 1) rfl)) rfl 1 (fun _ => rfl) dX4_state_44 47 rfl ?_
      refine r_callI hC (go_V (q := (RX2, TX2, 14)) (As := []) (rest := []) hC (ctX2_fooledBlocks (zl z) g M 1 _ (hF.tp (b := 1) (Or.inl rfl)) hw) 0 gX4_state_X2_fooledBlocks rfl ⟨rfl, rfl⟩ hdV_X2_fooledBlocks ⟨Nat.le_of_ble_eq_true rfl, Nat.le_of_ble_eq_true rfl⟩ (hF.tp (b := 1) (Or.inl rfl)).ob rfl rfl rfl (Nat.le_of_ble_eq_true rfl) dX4_state_47) 50 rfl (fun r3 M4 hw => ?_)
      exact r_iret hR dX4_state_50 hw
    · have hw := hw.2 c1
      by_cases c2 : v1 = 2
      · have hw := hw.1 c2
        refine q_tabIn hC 51 dX4_state_1 (by rw [c2]; decide) (by rw [c2]; decide) (by rw [c2]; rfl) (by decide) ?_
        refine q_aload_n hC dX4_state_51 0 rfl 52 rfl ?_
        refine q_getR (C := RX4) (T := TX4) (N := 12) (ci := 4) hC inX4_state_X4 (obF0 hF) rfl 0 (by decide) (uX4_state__o _ (List.mem_of_getElem? (l := owX4_state) (i := 1) rfl)) rfl 1 (fun _ => rfl) dX4_state_52 55 rfl ?_
        refine r_callI hC (go_V (q := (RX2, TX2, 14)) (As := []) (rest := []) hC (ctX2_mendedBlocks (zl z) g M 1 _ (hF.tp (b := 1) (Or.inl rfl)) hw) 0 gX4_state_X2_mendedBlocks rfl ⟨rfl, rfl⟩ hdV_X2_mendedBlocks ⟨Nat.le_of_ble_eq_true rfl, Nat.le_of_ble_eq_true rfl⟩ (hF.tp (b := 1) (Or.inl rfl)).ob rfl rfl rfl (Nat.le_of_ble_eq_true rfl) dX4_state_55) 58 rfl (fun r5 M6 hw => ?_)
        exact r_iret hR dX4_state_58 hw
      · have hw := hw.2 c2
        refine q_tabOut hC 59 dX4_state_1 (tab_out2 c0 c1 c2) (by decide) ?_
        refine q_iconst (v := (-1)) hC dX4_state_59 rfl 60 rfl ?_
        exact r_iret hR dX4_state_60 hw
theorem inX4_best_X4 : ∀ w ∈ u_ws RX4 TX4 12, w ∈ wsX4_best := uX4_best__wsX40
set_option maxRecDepth 100000 in
set_option maxHeartbeats 4000000 in
theorem ctX4_best (l : Launch) (g : GG) (M : MM) (v1 : Int32) (Q : Int32 → MM → Prop) (hF : full g) (hw : wX4_best Q M v1) : MI g l yX4_best wsX4_best (rmOf 6 136) [.ref (gA g 0), .int v1] M Q := by
  refine mk_MI (cc := cX4_best) (maxL := 6) (by decide) rfl (Nat.le_of_ble_eq_true rfl) ?_
  intro z Qf hC hR
  show XX z g Qf 6 0 [(0, .ref (gA g 0)), (1, .int v1)] [] M
  have B61 : ∀ (K28 : MM → Int32 → Int32 → Int32 → Prop) (hK28 : ∀ (M : MM) (v2 : Int32) (v3 : Int32) (v4 : Int32) , K28 M v2 v3 v4 → XX z g Qf 6 28 [(0, .ref (gA g 0)), (1, .int v1), (2, .int v2), (3, .int v3), (4, .int v4)] [] M) (M : MM) (v2 : Int32) (v3 : Int32) (v4 : Int32), wX4_best_61 Q K28 v1 M v2 v3 v4 → XX z g Qf 6 61 [(0, .ref (gA g 0)), (1, .int v1), (2, .int v2), (3, .int v3), (4, .int v4)] [] M := by
    intro K28 hK28 M v2 v3 v4 hw
    refine q_iinc (v := v4 + 1) (L' := [(4, .int (v4 + 1)), (0, .ref (gA g 0)), (1, .int v1), (2, .int v2), (3, .int v3)]) hC dX4_best_61 4 rfl rfl (by decide) rfl 64 rfl ?_
    refine q_goto hC 28 dX4_best_64 (by decide) ?_
    exact XX.sub [1, 2, 3, 4, 0] rfl (hK28 M v2 v3 (v4 + 1) hw)
  have B28 : ∀ (n : Nat) (M : MM) (v2 : Int32) (v3 : Int32) (v4 : Int32) , wX4_best_28 Q v1 n M v2 v3 v4 → XX z g Qf 6 28 [(0, .ref (gA g 0)), (1, .int v1), (2, .int v2), (3, .int v3), (4, .int v4)] [] M := by
    intro n
    induction n with
    | zero =>
      intro M v2 v3 v4 hw
      exact hw.elim
    | succ n ih =>
      intro M v2 v3 v4 hw
      refine q_iload hC dX4_best_28 4 rfl 30 rfl ?_
      refine q_bipush (v := 9) hC dX4_best_30 (by decide) 32 rfl ?_
      refine q_icmp_ge hC 67 dX4_best_32 (by decide) 35 rfl hw (fun hw => ?_) (fun hw => ?_)
      · refine q_iload_n hC dX4_best_67 1 rfl 68 rfl ?_
        refine q_if_ne hC 75 dX4_best_68 (by decide) 71 rfl hw (fun hw => ?_) (fun hw => ?_)
        · refine q_iload_n hC dX4_best_75 3 rfl 76 rfl ?_
          exact r_iret hR dX4_best_76 hw
        · refine q_iload_n hC dX4_best_71 2 rfl 72 rfl ?_
          refine q_goto hC 76 dX4_best_72 (by decide) ?_
          exact r_iret hR dX4_best_76 hw
      · refine q_aload_n hC dX4_best_35 0 rfl 36 rfl ?_
        refine q_getR (C := RX4) (T := TX4) (N := 12) (ci := 4) hC inX4_best_X4 (obF0 hF) rfl 0 (by decide) (uX4_best__o _ (List.mem_of_getElem? (l := owX4_best) (i := 1) rfl)) rfl 1 (fun _ => rfl) dX4_best_36 39 rfl ?_
        refine q_iload hC dX4_best_39 4 rfl 41 rfl ?_
        refine r_callI hC (go_V (q := (RX2, TX2, 14)) (As := [.int v4]) (rest := []) hC (ctX2_lostBlocksBy (zl z) g M 1 v4 _ (hF.tp (b := 1) (Or.inl rfl)) hw) 1 gX4_best_X2_lostBlocksBy rfl ⟨rfl, rfl⟩ hdV_X2_lostBlocksBy ⟨Nat.le_of_ble_eq_true rfl, Nat.le_of_ble_eq_true rfl⟩ (hF.tp (b := 1) (Or.inl rfl)).ob rfl rfl rfl (Nat.le_of_ble_eq_true rfl) dX4_best_41) 44 rfl (fun r7 M8 hw => ?_)
        refine r_callI hC (go_T (As := [.int r7]) (rest := []) hC (ctJ6_bitCount_0f7a4 (zl z) g M8 r7 _ hw) 1 gX4_best_J6_bitCount_0f7a4 rfl ⟨rfl, rfl⟩ hdT_J6_bitCount_0f7a4 ⟨Nat.le_of_ble_eq_true rfl, Nat.le_of_ble_eq_true rfl⟩ rfl rfl (Nat.le_of_ble_eq_true rfl) dX4_best_44) 47 rfl (fun r9 M10 hw => ?_)
        refine q_istore (L' := [(5, .int r9), (0, .ref (gA g 0)), (1, .int v1), (2, .int v2), (3, .int v3), (4, .int v4)]) hC dX4_best_47 (by decide) rfl 49 rfl ?_
        refine q_iload hC dX4_best_49 0 rfl 51 rfl ?_
        refine q_iload_n hC dX4_best_51 4 rfl 52 rfl ?_
        refine q_icmp_ge hC 61 dX4_best_52 (by decide) 55 rfl hw (fun hw => ?_) (fun hw => ?_)
        · exact XX.sub [1, 2, 3, 4, 5] rfl (B61 _ (fun M v2 v3 v4 hw => ih M v2 v3 v4 hw) M10 v2 v3 v4 hw)
        · refine q_iload hC dX4_best_55 0 rfl 57 rfl ?_
          refine q_istore_n (L' := [(3, .int r9), (5, .int r9), (0, .ref (gA g 0)), (1, .int v1), (2, .int v2), (4, .int v4)]) hC dX4_best_57 (by decide) rfl 58 rfl ?_
          refine q_iload hC dX4_best_58 5 rfl 60 rfl ?_
          refine q_istore_n (L' := [(2, .int v4), (3, .int r9), (5, .int r9), (0, .ref (gA g 0)), (1, .int v1), (4, .int v4)]) hC dX4_best_60 (by decide) rfl 61 rfl ?_
          exact XX.sub [3, 4, 0, 1, 5] rfl (B61 _ (fun M v2 v3 v4 hw => ih M v2 v3 v4 hw) M10 v4 r9 v4 hw)
  refine q_iload_n hC dX4_best_0 1 rfl 1 rfl ?_
  refine q_iconst (v := 0) hC dX4_best_1 rfl 2 rfl ?_
  refine q_iconst (v := 1) hC dX4_best_2 rfl 3 rfl ?_
  refine r_callI hC (go_T (As := [.int v1, .int 0, .int 1]) (rest := []) hC (ctX4_isBetween (zl z) g M v1 0 1 _ hw) 3 gX4_best_X4_isBetween rfl ⟨rfl, rfl⟩ hdT_X4_isBetween ⟨Nat.le_of_ble_eq_true rfl, Nat.le_of_ble_eq_true rfl⟩ rfl rfl (Nat.le_of_ble_eq_true rfl) dX4_best_3) 6 rfl (fun r1 M2 hw => ?_)
  refine q_if_ne hC 11 dX4_best_6 (by decide) 9 rfl hw (fun hw => ?_) (fun hw => ?_)
  · refine q_iconst (v := 0) hC dX4_best_11 rfl 12 rfl ?_
    refine q_istore_n (L' := [(2, .int 0), (0, .ref (gA g 0)), (1, .int v1)]) hC dX4_best_12 (by decide) rfl 13 rfl ?_
    refine q_aload_n hC dX4_best_13 1 rfl 14 rfl ?_
    refine q_getR (C := RX4) (T := TX4) (N := 12) (ci := 4) hC inX4_best_X4 (obF0 hF) rfl 0 (by decide) (uX4_best__o _ (List.mem_of_getElem? (l := owX4_best) (i := 1) rfl)) rfl 1 (fun _ => rfl) dX4_best_14 17 rfl ?_
    refine q_iconst (v := 0) hC dX4_best_17 rfl 18 rfl ?_
    refine r_callI hC (go_V (q := (RX2, TX2, 14)) (As := [.int 0]) (rest := []) hC (ctX2_lostBlocksBy (zl z) g M2 1 0 _ (hF.tp (b := 1) (Or.inl rfl)) hw) 1 gX4_best_X2_lostBlocksBy rfl ⟨rfl, rfl⟩ hdV_X2_lostBlocksBy ⟨Nat.le_of_ble_eq_true rfl, Nat.le_of_ble_eq_true rfl⟩ (hF.tp (b := 1) (Or.inl rfl)).ob rfl rfl rfl (Nat.le_of_ble_eq_true rfl) dX4_best_18) 21 rfl (fun r3 M4 hw => ?_)
    refine r_callI hC (go_T (As := [.int r3]) (rest := []) hC (ctJ6_bitCount_0f7a4 (zl z) g M4 r3 _ hw) 1 gX4_best_J6_bitCount_0f7a4 rfl ⟨rfl, rfl⟩ hdT_J6_bitCount_0f7a4 ⟨Nat.le_of_ble_eq_true rfl, Nat.le_of_ble_eq_true rfl⟩ rfl rfl (Nat.le_of_ble_eq_true rfl) dX4_best_21) 24 rfl (fun r5 M6 hw => ?_)
    refine q_istore_n (L' := [(3, .int r5), (2, .int 0), (0, .ref (gA g 0)), (1, .int v1)]) hC dX4_best_24 (by decide) rfl 25 rfl ?_
    refine q_iconst (v := 1) hC dX4_best_25 rfl 26 rfl ?_
    refine q_istore (L' := [(4, .int 1), (3, .int r5), (2, .int 0), (0, .ref (gA g 0)), (1, .int v1)]) hC dX4_best_26 (by decide) rfl 28 rfl ?_
    obtain ⟨n0, hw⟩ := hw
    exact XX.sub [3, 4, 2, 1, 0] rfl (B28 n0 M6 0 r5 1 hw)
  · refine q_iconst (v := (-1)) hC dX4_best_9 rfl 10 rfl ?_
    exact r_iret hR dX4_best_10 hw
theorem hdV_X2_hasAllOf : yX2_hasAllOf.cls = RX2 ∧ yX2_hasAllOf.cls ≠ "java/lang/invoke/MethodHandle" ∧ yX2_hasAllOf.cls ≠ "java/lang/invoke/VarHandle" ∧ (parseMethodDescriptor yX2_hasAllOf.desc).map (fun d => d.parameters.length) = some 1 := by decide +kernel
theorem hdV_X0_plan : yX0_plan.cls = RX0 ∧ yX0_plan.cls ≠ "java/lang/invoke/MethodHandle" ∧ yX0_plan.cls ≠ "java/lang/invoke/VarHandle" ∧ (parseMethodDescriptor yX0_plan.desc).map (fun d => d.parameters.length) = some 2 := by decide +kernel
theorem hdV_X0_stopAt : yX0_stopAt.cls = RX0 ∧ yX0_stopAt.cls ≠ "java/lang/invoke/MethodHandle" ∧ yX0_stopAt.cls ≠ "java/lang/invoke/VarHandle" ∧ (parseMethodDescriptor yX0_stopAt.desc).map (fun d => d.parameters.length) = some 1 := by decide +kernel
theorem inX4_order_X0 : ∀ w ∈ u_ws RX0 TX0 6, w ∈ wsX4_order := uX4_order__wsX00
theorem inX4_order_X4 : ∀ w ∈ u_ws RX4 TX4 12, w ∈ wsX4_order := uX4_order__wsX40
set_option maxRecDepth 100000 in
set_option maxHeartbeats 4000000 in
theorem ctX4_order (l : Launch) (g : GG) (M : MM) (v1 : Int32) (v2 : Int32) (Q : Int32 → MM → Prop) (hF : full g) (hw : wX4_order Q M v1 v2) : MI g l yX4_order wsX4_order (rmOf 6 143) [.ref (gA g 0), .int v1, .int v2] M Q := by
  refine mk_MI (cc := cX4_order) (maxL := 5) (by decide) rfl (Nat.le_of_ble_eq_true rfl) ?_
  intro z Qf hC hR
  show XX z g Qf 5 0 [(0, .ref (gA g 0)), (1, .int v1), (2, .int v2)] [] M
  have B54 : ∀ (M : MM) (v3 : Int32) (v4 : Int32), wX4_order_54 Q v1 v2 M v3 v4 → XX z g Qf 5 54 [(0, .ref (gA g 0)), (1, .int v1), (3, .int v3), (4, .int v4)] [] M := by
    intro M v3 v4 hw
    refine q_iload_n hC dX4_order_54 1 rfl 55 rfl ?_
    refine r_callI hC (go_T (As := [.int v1]) (rest := []) hC (ctJ6_bitCount_0f7a4 (zl z) g M v1 _ hw) 1 gX4_order_J6_bitCount_0f7a4 rfl ⟨rfl, rfl⟩ hdT_J6_bitCount_0f7a4 ⟨Nat.le_of_ble_eq_true rfl, Nat.le_of_ble_eq_true rfl⟩ rfl rfl (Nat.le_of_ble_eq_true rfl) dX4_order_55) 58 rfl (fun r8 M9 hw => ?_)
    refine q_bipush (v := 8) hC dX4_order_58 (by decide) 60 rfl ?_
    refine q_icmp_le hC 66 dX4_order_60 (by decide) 63 rfl hw (fun hw => ?_) (fun hw => ?_)
    · refine q_aload_n hC dX4_order_66 0 rfl 67 rfl ?_
      refine q_getR (C := RX4) (T := TX4) (N := 12) (ci := 4) hC inX4_order_X4 (obF0 hF) rfl 2 (by decide) (uX4_order__o _ (List.mem_of_getElem? (l := owX4_order) (i := 2) rfl)) rfl 39 (fun _ => rfl) dX4_order_67 70 rfl ?_
      refine q_aload_n hC dX4_order_70 0 rfl 71 rfl ?_
      refine q_getR (C := RX4) (T := TX4) (N := 12) (ci := 4) hC inX4_order_X4 (obF0 hF) rfl 0 (by decide) (uX4_order__o _ (List.mem_of_getElem? (l := owX4_order) (i := 1) rfl)) rfl 1 (fun _ => rfl) dX4_order_71 74 rfl ?_
      refine q_iload_n hC dX4_order_74 1 rfl 75 rfl ?_
      refine r_callV hC (go_V (q := (RX0, TX0, 6)) (As := [.ref (gA g 1), .int v1]) (rest := []) hC (ctX0_plan (zl z) g M9 1 v1 _ hF (hF.tp (b := 1) (Or.inl rfl)) hw) 2 gX4_order_X0_plan rfl ⟨rfl, rfl⟩ hdV_X0_plan ⟨Nat.le_of_ble_eq_true rfl, Nat.le_of_ble_eq_true rfl⟩ (obF39 hF) rfl rfl rfl (Nat.le_of_ble_eq_true rfl) dX4_order_75) 78 rfl (fun M10 hw => ?_)
      refine q_iload hC dX4_order_78 3 rfl 80 rfl ?_
      refine q_if_eq hC 93 dX4_order_80 (by decide) 83 rfl hw (fun hw => ?_) (fun hw => ?_)
      · refine q_aload_n hC dX4_order_93 0 rfl 94 rfl ?_
        refine q_getR (C := RX4) (T := TX4) (N := 12) (ci := 4) hC inX4_order_X4 (obF0 hF) rfl 2 (by decide) (uX4_order__o _ (List.mem_of_getElem? (l := owX4_order) (i := 2) rfl)) rfl 39 (fun _ => rfl) dX4_order_94 97 rfl ?_
        refine q_iload_n hC dX4_order_97 2 rfl 98 rfl ?_
        refine r_callI hC (go_V (q := (RX0, TX0, 6)) (As := [.int v3]) (rest := []) hC (ctX0_stopAt (zl z) g M10 v3 _ hF hw) 1 gX4_order_X0_stopAt rfl ⟨rfl, rfl⟩ hdV_X0_stopAt ⟨Nat.le_of_ble_eq_true rfl, Nat.le_of_ble_eq_true rfl⟩ (obF39 hF) rfl rfl rfl (Nat.le_of_ble_eq_true rfl) dX4_order_98) 101 rfl (fun r11 M12 hw => ?_)
        exact r_iret hR dX4_order_101 hw
      · refine q_aload_n hC dX4_order_83 0 rfl 84 rfl ?_
        refine q_getR (C := RX4) (T := TX4) (N := 12) (ci := 4) hC inX4_order_X4 (obF0 hF) rfl 2 (by decide) (uX4_order__o _ (List.mem_of_getElem? (l := owX4_order) (i := 2) rfl)) rfl 39 (fun _ => rfl) dX4_order_84 87 rfl ?_
        refine q_getI (C := RX0) (T := TX0) (N := 6) (ci := 0) hC inX4_order_X0 (obF39 hF) rfl 5 (by decide) (uX4_order__o _ (List.mem_of_getElem? (l := owX4_order) (i := 3) rfl)) rfl (fun _ => rfl) dX4_order_87 90 rfl ?_
        refine q_goto hC 101 dX4_order_90 (by decide) ?_
        exact r_iret hR dX4_order_101 hw
    · refine q_bipush (v := (-2)) hC dX4_order_63 (by decide) 65 rfl ?_
      exact r_iret hR dX4_order_65 hw
  have B27 : ∀ (M : MM) (v3 : Int32) (p0 : Int32), wX4_order_27 Q v1 v2 M v3 p0 → XX z g Qf 5 27 [(0, .ref (gA g 0)), (1, .int v1), (3, .int v3)] [.int p0] M := by
    intro M v3 p0 hw
    refine q_istore (L' := [(4, .int p0), (0, .ref (gA g 0)), (1, .int v1), (3, .int v3)]) hC dX4_order_27 (by decide) rfl 29 rfl ?_
    refine q_iload hC dX4_order_29 0 rfl 31 rfl ?_
    refine q_if_ne hC 54 dX4_order_31 (by decide) 34 rfl hw (fun hw => ?_) (fun hw => ?_)
    · exact XX.sub [1, 2, 3, 0] rfl (B54 M v3 p0 hw)
    · refine q_iload_n hC dX4_order_34 3 rfl 35 rfl ?_
      refine q_iconst (v := 0) hC dX4_order_35 rfl 36 rfl ?_
      refine q_bipush (v := 7) hC dX4_order_36 (by decide) 38 rfl ?_
      refine r_callI hC (go_T (As := [.int v3, .int 0, .int 7]) (rest := []) hC (ctX4_isBetween (zl z) g M v3 0 7 _ hw) 3 gX4_order_X4_isBetween rfl ⟨rfl, rfl⟩ hdT_X4_isBetween ⟨Nat.le_of_ble_eq_true rfl, Nat.le_of_ble_eq_true rfl⟩ rfl rfl (Nat.le_of_ble_eq_true rfl) dX4_order_38) 41 rfl (fun r4 M5 hw => ?_)
      refine q_if_eq hC 52 dX4_order_41 (by decide) 44 rfl hw (fun hw => ?_) (fun hw => ?_)
      · refine q_iconst (v := (-1)) hC dX4_order_52 rfl 53 rfl ?_
        exact r_iret hR dX4_order_53 hw
      · refine q_iload_n hC dX4_order_44 3 rfl 45 rfl ?_
        refine q_iload_n hC dX4_order_45 2 rfl 46 rfl ?_
        refine r_callI hC (go_T (As := [.int v1]) (rest := [.int v3]) hC (ctJ6_bitCount_0f7a4 (zl z) g M5 v1 _ hw) 1 gX4_order_J6_bitCount_0f7a4 rfl ⟨rfl, rfl⟩ hdT_J6_bitCount_0f7a4 ⟨Nat.le_of_ble_eq_true rfl, Nat.le_of_ble_eq_true rfl⟩ rfl rfl (Nat.le_of_ble_eq_true rfl) dX4_order_46) 49 rfl (fun r6 M7 hw => ?_)
        refine q_icmp_lt hC 54 dX4_order_49 (by decide) 52 rfl hw (fun hw => ?_) (fun hw => ?_)
        · exact XX.sub [1, 2, 3, 0] rfl (B54 M7 v3 p0 hw)
        · refine q_iconst (v := (-1)) hC dX4_order_52 rfl 53 rfl ?_
          exact r_iret hR dX4_order_53 hw
  refine q_aload_n hC dX4_order_0 0 rfl 1 rfl ?_
  refine q_getR (C := RX4) (T := TX4) (N := 12) (ci := 4) hC inX4_order_X4 (obF0 hF) rfl 0 (by decide) (uX4_order__o _ (List.mem_of_getElem? (l := owX4_order) (i := 1) rfl)) rfl 1 (fun _ => rfl) dX4_order_1 4 rfl ?_
  refine q_iload_n hC dX4_order_4 1 rfl 5 rfl ?_
  refine r_callI hC (go_V (q := (RX2, TX2, 14)) (As := [.int v1]) (rest := []) hC (ctX2_hasAllOf (zl z) g M 1 v1 _ (hF.tp (b := 1) (Or.inl rfl)) hw) 1 gX4_order_X2_hasAllOf rfl ⟨rfl, rfl⟩ hdV_X2_hasAllOf ⟨Nat.le_of_ble_eq_true rfl, Nat.le_of_ble_eq_true rfl⟩ (hF.tp (b := 1) (Or.inl rfl)).ob rfl rfl rfl (Nat.le_of_ble_eq_true rfl) dX4_order_5) 8 rfl (fun r1 M2 hw => ?_)
  refine q_if_ne hC 13 dX4_order_8 (by decide) 11 rfl hw (fun hw => ?_) (fun hw => ?_)
  · refine q_iload_n hC dX4_order_13 2 rfl 14 rfl ?_
    refine q_bipush (v := 10) hC dX4_order_14 (by decide) 16 rfl ?_
    refine q_isub hC dX4_order_16 17 rfl ?_
    refine q_nameI (fun x3 ex3 => ?_)
    have hw := hw x3 ex3
    refine q_istore_n (L' := [(3, .int x3), (0, .ref (gA g 0)), (1, .int v1), (2, .int v2)]) hC dX4_order_17 (by decide) rfl 18 rfl ?_
    refine q_iload_n hC dX4_order_18 3 rfl 19 rfl ?_
    refine q_if_ne hC 26 dX4_order_19 (by decide) 22 rfl hw (fun hw => ?_) (fun hw => ?_)
    · refine q_iconst (v := 0) hC dX4_order_26 rfl 27 rfl ?_
      exact XX.sub [1, 2, 0] rfl (B27 M2 x3 0 hw)
    · refine q_iconst (v := 1) hC dX4_order_22 rfl 23 rfl ?_
      refine q_goto hC 27 dX4_order_23 (by decide) ?_
      exact XX.sub [1, 2, 0] rfl (B27 M2 x3 1 hw)
  · refine q_iconst (v := (-1)) hC dX4_order_11 rfl 12 rfl ?_
    exact r_iret hR dX4_order_12 hw
theorem inX4_reads_X0 : ∀ w ∈ u_ws RX0 TX0 6, w ∈ wsX4_reads := uX4_reads__wsX00
theorem inX4_reads_X2 : ∀ w ∈ u_ws RX2 TX2 14, w ∈ wsX4_reads := uX4_reads__wsX20
theorem inX4_reads_X4 : ∀ w ∈ u_ws RX4 TX4 12, w ∈ wsX4_reads := uX4_reads__wsX40
set_option maxRecDepth 100000 in
set_option maxHeartbeats 4000000 in
theorem ctX4_reads (l : Launch) (g : GG) (M : MM) (v1 : Int32) (Q : Int32 → MM → Prop) (hF : full g) (hw : wX4_reads Q M v1) : MI g l yX4_reads wsX4_reads (rmOf 6 143) [.ref (gA g 0), .int v1] M Q := by
  refine mk_MI (cc := cX4_reads) (maxL := 2) (by decide) rfl (Nat.le_of_ble_eq_true rfl) ?_
  intro z Qf hC hR
  show XX z g Qf 2 0 [(0, .ref (gA g 0)), (1, .int v1)] [] M
  refine q_aload_n hC dX4_reads_0 0 rfl 1 rfl ?_
  refine q_getR (C := RX4) (T := TX4) (N := 12) (ci := 4) hC inX4_reads_X4 (obF0 hF) rfl 0 (by decide) (uX4_reads__o _ (List.mem_of_getElem? (l := owX4_reads) (i := 1) rfl)) rfl 1 (fun _ => rfl) dX4_reads_1 4 rfl ?_
  refine q_iload_n hC dX4_reads_4 1 rfl 5 rfl ?_
  refine r_callI hC (go_V (q := (RX2, TX2, 14)) (As := [.int v1]) (rest := []) hC (ctX2_hasAllOf (zl z) g M 1 v1 _ (hF.tp (b := 1) (Or.inl rfl)) hw) 1 gX4_reads_X2_hasAllOf rfl ⟨rfl, rfl⟩ hdV_X2_hasAllOf ⟨Nat.le_of_ble_eq_true rfl, Nat.le_of_ble_eq_true rfl⟩ (hF.tp (b := 1) (Or.inl rfl)).ob rfl rfl rfl (Nat.le_of_ble_eq_true rfl) dX4_reads_5) 8 rfl (fun r1 M2 hw => ?_)
  refine q_if_ne hC 13 dX4_reads_8 (by decide) 11 rfl hw (fun hw => ?_) (fun hw => ?_)
  · refine q_iload_n hC dX4_reads_13 1 rfl 14 rfl ?_
    refine r_callI hC (go_T (As := [.int v1]) (rest := []) hC (ctJ6_bitCount_0f7a4 (zl z) g M2 v1 _ hw) 1 gX4_reads_J6_bitCount_0f7a4 rfl ⟨rfl, rfl⟩ hdT_J6_bitCount_0f7a4 ⟨Nat.le_of_ble_eq_true rfl, Nat.le_of_ble_eq_true rfl⟩ rfl rfl (Nat.le_of_ble_eq_true rfl) dX4_reads_14) 17 rfl (fun r3 M4 hw => ?_)
    refine q_bipush (v := 8) hC dX4_reads_17 (by decide) 19 rfl ?_
    refine q_icmp_le hC 25 dX4_reads_19 (by decide) 22 rfl hw (fun hw => ?_) (fun hw => ?_)
    · refine q_iload_n hC dX4_reads_25 1 rfl 26 rfl ?_
      refine q_if_ne hC 31 dX4_reads_26 (by decide) 29 rfl hw (fun hw => ?_) (fun hw => ?_)
      · refine q_aload_n hC dX4_reads_31 0 rfl 32 rfl ?_
        refine q_getR (C := RX4) (T := TX4) (N := 12) (ci := 4) hC inX4_reads_X4 (obF0 hF) rfl 2 (by decide) (uX4_reads__o _ (List.mem_of_getElem? (l := owX4_reads) (i := 2) rfl)) rfl 39 (fun _ => rfl) dX4_reads_32 35 rfl ?_
        refine q_aload_n hC dX4_reads_35 0 rfl 36 rfl ?_
        refine q_getR (C := RX4) (T := TX4) (N := 12) (ci := 4) hC inX4_reads_X4 (obF0 hF) rfl 0 (by decide) (uX4_reads__o _ (List.mem_of_getElem? (l := owX4_reads) (i := 1) rfl)) rfl 1 (fun _ => rfl) dX4_reads_36 39 rfl ?_
        refine q_iload_n hC dX4_reads_39 1 rfl 40 rfl ?_
        refine r_callV hC (go_V (q := (RX0, TX0, 6)) (As := [.ref (gA g 1), .int v1]) (rest := []) hC (ctX0_plan (zl z) g M4 1 v1 _ hF (hF.tp (b := 1) (Or.inl rfl)) hw) 2 gX4_reads_X0_plan rfl ⟨rfl, rfl⟩ hdV_X0_plan ⟨Nat.le_of_ble_eq_true rfl, Nat.le_of_ble_eq_true rfl⟩ (obF39 hF) rfl rfl rfl (Nat.le_of_ble_eq_true rfl) dX4_reads_40) 43 rfl (fun M5 hw => ?_)
        refine q_aload_n hC dX4_reads_43 0 rfl 44 rfl ?_
        refine q_getR (C := RX4) (T := TX4) (N := 12) (ci := 4) hC inX4_reads_X4 (obF0 hF) rfl 0 (by decide) (uX4_reads__o _ (List.mem_of_getElem? (l := owX4_reads) (i := 1) rfl)) rfl 1 (fun _ => rfl) dX4_reads_44 47 rfl ?_
        refine q_dup hC dX4_reads_47 rfl 48 rfl ?_
        refine q_getI (C := RX2) (T := TX2) (N := 14) (ci := 2) hC inX4_reads_X2 (hF.tp (b := 1) (Or.inl rfl)).ob rfl 10 (by decide) (uX4_reads__o _ (List.mem_of_getElem? (l := owX4_reads) (i := 3) rfl)) rfl (fun _ => rfl) dX4_reads_48 51 rfl ?_
        refine q_aload_n hC dX4_reads_51 0 rfl 52 rfl ?_
        refine q_getR (C := RX4) (T := TX4) (N := 12) (ci := 4) hC inX4_reads_X4 (obF0 hF) rfl 2 (by decide) (uX4_reads__o _ (List.mem_of_getElem? (l := owX4_reads) (i := 2) rfl)) rfl 39 (fun _ => rfl) dX4_reads_52 55 rfl ?_
        refine q_getI (C := RX0) (T := TX0) (N := 6) (ci := 0) hC inX4_reads_X0 (obF39 hF) rfl 5 (by decide) (uX4_reads__o _ (List.mem_of_getElem? (l := owX4_reads) (i := 4) rfl)) rfl (fun _ => rfl) dX4_reads_55 58 rfl ?_
        refine q_iadd hC dX4_reads_58 59 rfl ?_
        refine q_putI (C := RX2) (T := TX2) (N := 14) (ci := 2) hC inX4_reads_X2 tyX2 tyX2_ok nmX2 (hF.tp (b := 1) (Or.inl rfl)).ob rfl 10 (by decide) (uX4_reads__o _ (List.mem_of_getElem? (l := owX4_reads) (i := 3) rfl)) rfl rfl rfl (fun _ => Nat.le_of_ble_eq_true rfl) (fun _ => rfl) dX4_reads_59 62 rfl (fun M6 eM6 => ?_)
        have hw := hw M6 eM6
        refine q_aload_n hC dX4_reads_62 0 rfl 63 rfl ?_
        refine q_getR (C := RX4) (T := TX4) (N := 12) (ci := 4) hC inX4_reads_X4 (obF0 hF) rfl 0 (by decide) (uX4_reads__o _ (List.mem_of_getElem? (l := owX4_reads) (i := 1) rfl)) rfl 1 (fun _ => rfl) dX4_reads_63 66 rfl ?_
        refine q_aload_n hC dX4_reads_66 0 rfl 67 rfl ?_
        refine q_getR (C := RX4) (T := TX4) (N := 12) (ci := 4) hC inX4_reads_X4 (obF0 hF) rfl 0 (by decide) (uX4_reads__o _ (List.mem_of_getElem? (l := owX4_reads) (i := 1) rfl)) rfl 1 (fun _ => rfl) dX4_reads_67 70 rfl ?_
        refine q_aload_n hC dX4_reads_70 0 rfl 71 rfl ?_
        refine q_getR (C := RX4) (T := TX4) (N := 12) (ci := 4) hC inX4_reads_X4 (obF0 hF) rfl 2 (by decide) (uX4_reads__o _ (List.mem_of_getElem? (l := owX4_reads) (i := 2) rfl)) rfl 39 (fun _ => rfl) dX4_reads_71 74 rfl ?_
        refine q_aload_n hC dX4_reads_74 0 rfl 75 rfl ?_
        refine q_getR (C := RX4) (T := TX4) (N := 12) (ci := 4) hC inX4_reads_X4 (obF0 hF) rfl 2 (by decide) (uX4_reads__o _ (List.mem_of_getElem? (l := owX4_reads) (i := 2) rfl)) rfl 39 (fun _ => rfl) dX4_reads_75 78 rfl ?_
        refine q_getI (C := RX0) (T := TX0) (N := 6) (ci := 0) hC inX4_reads_X0 (obF39 hF) rfl 4 (by decide) (uX4_reads__o _ (List.mem_of_getElem? (l := owX4_reads) (i := 5) rfl)) rfl (fun _ => rfl) dX4_reads_78 81 rfl ?_
        refine q_iconst (v := 1) hC dX4_reads_81 rfl 82 rfl ?_
        refine q_isub hC dX4_reads_82 83 rfl ?_
        refine r_callI hC (go_V (q := (RX0, TX0, 6)) (As := [.int ((M6 39 4) - (1 : Int32))]) (rest := [.ref (gA g 1), .ref (gA g 1)]) hC (ctX0_stopAt (zl z) g M6 ((M6 39 4) - (1 : Int32)) _ hF hw) 1 gX4_reads_X0_stopAt rfl ⟨rfl, rfl⟩ hdV_X0_stopAt ⟨Nat.le_of_ble_eq_true rfl, Nat.le_of_ble_eq_true rfl⟩ (obF39 hF) rfl rfl rfl (Nat.le_of_ble_eq_true rfl) dX4_reads_83) 86 rfl (fun r7 M8 hw => ?_)
        refine r_callI hC (go_V (q := (RX2, TX2, 14)) (As := [.int r7]) (rest := [.ref (gA g 1)]) hC (ctX2_endOf (zl z) g M8 1 r7 _ (hF.tp (b := 1) (Or.inl rfl)) hw) 1 gX4_reads_X2_endOf rfl ⟨rfl, rfl⟩ hdV_X2_endOf ⟨Nat.le_of_ble_eq_true rfl, Nat.le_of_ble_eq_true rfl⟩ (hF.tp (b := 1) (Or.inl rfl)).ob rfl rfl rfl (Nat.le_of_ble_eq_true rfl) dX4_reads_86) 89 rfl (fun r9 M10 hw => ?_)
        refine q_putI (C := RX2) (T := TX2) (N := 14) (ci := 2) hC inX4_reads_X2 tyX2 tyX2_ok nmX2 (hF.tp (b := 1) (Or.inl rfl)).ob rfl 9 (by decide) (uX4_reads__o _ (List.mem_of_getElem? (l := owX4_reads) (i := 6) rfl)) rfl rfl rfl (fun _ => Nat.le_of_ble_eq_true rfl) (fun _ => rfl) dX4_reads_89 92 rfl (fun M11 eM11 => ?_)
        have hw := hw M11 eM11
        refine q_aload_n hC dX4_reads_92 0 rfl 93 rfl ?_
        refine q_getR (C := RX4) (T := TX4) (N := 12) (ci := 4) hC inX4_reads_X4 (obF0 hF) rfl 2 (by decide) (uX4_reads__o _ (List.mem_of_getElem? (l := owX4_reads) (i := 2) rfl)) rfl 39 (fun _ => rfl) dX4_reads_93 96 rfl ?_
        refine q_getI (C := RX0) (T := TX0) (N := 6) (ci := 0) hC inX4_reads_X0 (obF39 hF) rfl 5 (by decide) (uX4_reads__o _ (List.mem_of_getElem? (l := owX4_reads) (i := 4) rfl)) rfl (fun _ => rfl) dX4_reads_96 99 rfl ?_
        exact r_iret hR dX4_reads_99 hw
      · refine q_iconst (v := 0) hC dX4_reads_29 rfl 30 rfl ?_
        exact r_iret hR dX4_reads_30 hw
    · refine q_bipush (v := (-2)) hC dX4_reads_22 (by decide) 24 rfl ?_
      exact r_iret hR dX4_reads_24 hw
  · refine q_iconst (v := (-1)) hC dX4_reads_11 rfl 12 rfl ?_
    exact r_iret hR dX4_reads_12 hw
theorem hdV_X2_cutOut : yX2_cutOut.cls = RX2 ∧ yX2_cutOut.cls ≠ "java/lang/invoke/MethodHandle" ∧ yX2_cutOut.cls ≠ "java/lang/invoke/VarHandle" ∧ (parseMethodDescriptor yX2_cutOut.desc).map (fun d => d.parameters.length) = some 2 := by decide +kernel
theorem inX4_cut_X4 : ∀ w ∈ u_ws RX4 TX4 12, w ∈ wsX4_cut := uX4_cut__wsX40
set_option maxRecDepth 100000 in
set_option maxHeartbeats 4000000 in
theorem ctX4_cut (l : Launch) (g : GG) (M : MM) (v1 : Int32) (v2 : Int32) (Q : Int32 → MM → Prop) (hF : full g) (hw : wX4_cut Q M v1 v2) : MI g l yX4_cut wsX4_cut (rmOf 4 95) [.ref (gA g 0), .int v1, .int v2] M Q := by
  refine mk_MI (cc := cX4_cut) (maxL := 3) (by decide) rfl (Nat.le_of_ble_eq_true rfl) ?_
  intro z Qf hC hR
  show XX z g Qf 3 0 [(0, .ref (gA g 0)), (1, .int v1), (2, .int v2)] [] M
  refine q_aload_n hC dX4_cut_0 0 rfl 1 rfl ?_
  refine q_getR (C := RX4) (T := TX4) (N := 12) (ci := 4) hC inX4_cut_X4 (obF0 hF) rfl 0 (by decide) (uX4_cut__o _ (List.mem_of_getElem? (l := owX4_cut) (i := 1) rfl)) rfl 1 (fun _ => rfl) dX4_cut_1 4 rfl ?_
  refine q_iload_n hC dX4_cut_4 1 rfl 5 rfl ?_
  refine r_callI hC (go_V (q := (RX2, TX2, 14)) (As := [.int v1]) (rest := []) hC (ctX2_hasPlace (zl z) g M 1 v1 _ (hF.tp (b := 1) (Or.inl rfl)) hw) 1 gX4_cut_X2_hasPlace rfl ⟨rfl, rfl⟩ hdV_X2_hasPlace ⟨Nat.le_of_ble_eq_true rfl, Nat.le_of_ble_eq_true rfl⟩ (hF.tp (b := 1) (Or.inl rfl)).ob rfl rfl rfl (Nat.le_of_ble_eq_true rfl) dX4_cut_5) 8 rfl (fun r1 M2 hw => ?_)
  refine q_if_eq hC 27 dX4_cut_8 (by decide) 11 rfl hw (fun hw => ?_) (fun hw => ?_)
  · refine q_iconst (v := (-1)) hC dX4_cut_27 rfl 28 rfl ?_
    exact r_iret hR dX4_cut_28 hw
  · refine q_aload_n hC dX4_cut_11 0 rfl 12 rfl ?_
    refine q_getR (C := RX4) (T := TX4) (N := 12) (ci := 4) hC inX4_cut_X4 (obF0 hF) rfl 0 (by decide) (uX4_cut__o _ (List.mem_of_getElem? (l := owX4_cut) (i := 1) rfl)) rfl 1 (fun _ => rfl) dX4_cut_12 15 rfl ?_
    refine q_iload_n hC dX4_cut_15 2 rfl 16 rfl ?_
    refine r_callI hC (go_V (q := (RX2, TX2, 14)) (As := [.int v2]) (rest := []) hC (ctX2_hasPlace (zl z) g M2 1 v2 _ (hF.tp (b := 1) (Or.inl rfl)) hw) 1 gX4_cut_X2_hasPlace rfl ⟨rfl, rfl⟩ hdV_X2_hasPlace ⟨Nat.le_of_ble_eq_true rfl, Nat.le_of_ble_eq_true rfl⟩ (hF.tp (b := 1) (Or.inl rfl)).ob rfl rfl rfl (Nat.le_of_ble_eq_true rfl) dX4_cut_16) 19 rfl (fun r3 M4 hw => ?_)
    refine q_if_eq hC 27 dX4_cut_19 (by decide) 22 rfl hw (fun hw => ?_) (fun hw => ?_)
    · refine q_iconst (v := (-1)) hC dX4_cut_27 rfl 28 rfl ?_
      exact r_iret hR dX4_cut_28 hw
    · refine q_iload_n hC dX4_cut_22 2 rfl 23 rfl ?_
      refine q_iload_n hC dX4_cut_23 1 rfl 24 rfl ?_
      refine q_icmp_gt hC 29 dX4_cut_24 (by decide) 27 rfl hw (fun hw => ?_) (fun hw => ?_)
      · refine q_aload_n hC dX4_cut_29 0 rfl 30 rfl ?_
        refine q_getR (C := RX4) (T := TX4) (N := 12) (ci := 4) hC inX4_cut_X4 (obF0 hF) rfl 0 (by decide) (uX4_cut__o _ (List.mem_of_getElem? (l := owX4_cut) (i := 1) rfl)) rfl 1 (fun _ => rfl) dX4_cut_30 33 rfl ?_
        refine q_iconst (v := 0) hC dX4_cut_33 rfl 34 rfl ?_
        refine r_callI hC (go_V (q := (RX2, TX2, 14)) (As := [.int 0]) (rest := []) hC (ctX2_ruled (zl z) g M4 1 0 _ (hF.tp (b := 1) (Or.inl rfl)) hw) 1 gX4_cut_X2_ruled rfl ⟨rfl, rfl⟩ hdV_X2_ruled ⟨Nat.le_of_ble_eq_true rfl, Nat.le_of_ble_eq_true rfl⟩ (hF.tp (b := 1) (Or.inl rfl)).ob rfl rfl rfl (Nat.le_of_ble_eq_true rfl) dX4_cut_34) 37 rfl (fun r5 M6 hw => ?_)
        refine q_iload_n hC dX4_cut_37 2 rfl 38 rfl ?_
        refine q_iload_n hC dX4_cut_38 1 rfl 39 rfl ?_
        refine q_isub hC dX4_cut_39 40 rfl ?_
        refine q_isub hC dX4_cut_40 41 rfl ?_
        refine q_bipush (v := 20) hC dX4_cut_41 (by decide) 43 rfl ?_
        refine q_icmp_ge hC 49 dX4_cut_43 (by decide) 46 rfl hw (fun hw => ?_) (fun hw => ?_)
        · refine q_aload_n hC dX4_cut_49 0 rfl 50 rfl ?_
          refine q_getR (C := RX4) (T := TX4) (N := 12) (ci := 4) hC inX4_cut_X4 (obF0 hF) rfl 0 (by decide) (uX4_cut__o _ (List.mem_of_getElem? (l := owX4_cut) (i := 1) rfl)) rfl 1 (fun _ => rfl) dX4_cut_50 53 rfl ?_
          refine q_iload_n hC dX4_cut_53 1 rfl 54 rfl ?_
          refine q_iload_n hC dX4_cut_54 2 rfl 55 rfl ?_
          refine r_callI hC (go_V (q := (RX2, TX2, 14)) (As := [.int v1, .int v2]) (rest := []) hC (ctX2_cutOut (zl z) g M6 1 v1 v2 _ (hF.tp (b := 1) (Or.inl rfl)) hw) 2 gX4_cut_X2_cutOut rfl ⟨rfl, rfl⟩ hdV_X2_cutOut ⟨Nat.le_of_ble_eq_true rfl, Nat.le_of_ble_eq_true rfl⟩ (hF.tp (b := 1) (Or.inl rfl)).ob rfl rfl rfl (Nat.le_of_ble_eq_true rfl) dX4_cut_55) 58 rfl (fun r7 M8 hw => ?_)
          exact r_iret hR dX4_cut_58 hw
        · refine q_bipush (v := (-2)) hC dX4_cut_46 (by decide) 48 rfl ?_
          exact r_iret hR dX4_cut_48 hw
      · refine q_iconst (v := (-1)) hC dX4_cut_27 rfl 28 rfl ?_
        exact r_iret hR dX4_cut_28 hw
