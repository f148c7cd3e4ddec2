theorem hdV_X3_readToken : yX3_readToken.cls = RX3 ∧ yX3_readToken.cls ≠ "java/lang/invoke/MethodHandle" ∧ yX3_readToken.cls ≠ "java/lang/invoke/VarHandle" ∧ (parseMethodDescriptor yX3_readToken.desc).map (fun d => d.parameters.length) = some 0 := by decide +kernel
theorem hdV_X3_isNumberWithin : yX3_isNumberWithin.cls = RX3 ∧ yX3_isNumberWithin.cls ≠ "java/lang/invoke/MethodHandle" ∧ yX3_isNumberWithin.cls ≠ "java/lang/invoke/VarHandle" ∧ (parseMethodDescriptor yX3_isNumberWithin.desc).map (fun d => d.parameters.length) = some 2 := by decide +kernel
theorem inX3_takeRule_X2 : ∀ w ∈ u_ws RX2 TX2 14, w ∈ wsX3_takeRule := uX3_takeRule__wsX20
theorem inX3_takeRule_X3 : ∀ w ∈ u_ws RX3 TX3 10, w ∈ wsX3_takeRule := uX3_takeRule__wsX30
set_option maxRecDepth 100000 in
set_option maxHeartbeats 4000000 in
theorem ctX3_takeRule (l : Launch) (g : GG) (M : MM) (v1 : Int32) (Q : MM → Prop) (hF : full g) (hw : wX3_takeRule Q M v1) : MV g l yX3_takeRule wsX3_takeRule (rmOf 3 63) [.ref (gA g 37), .int v1] M Q := by
  refine mk_MV (cc := cX3_takeRule) (maxL := 2) (by decide) rfl (Nat.le_of_ble_eq_true rfl) ?_
  intro z Qf hC hR
  show XX z g Qf 2 0 [(0, .ref (gA g 37)), (1, .int v1)] [] M
  refine q_aload_n hC dX3_takeRule_0 0 rfl 1 rfl ?_
  refine q_getI (C := RX3) (T := TX3) (N := 10) (ci := 3) hC inX3_takeRule_X3 (obF37 hF) rfl 7 (by decide) (uX3_takeRule__o _ (List.mem_of_getElem? (l := owX3_takeRule) (i := 1) rfl)) rfl (fun _ => rfl) dX3_takeRule_1 4 rfl ?_
  refine q_iload_n hC dX3_takeRule_4 1 rfl 5 rfl ?_
  refine q_ishr hC dX3_takeRule_5 6 rfl ?_
  refine q_iconst (v := 1) hC dX3_takeRule_6 rfl 7 rfl ?_
  refine q_iand hC dX3_takeRule_7 8 rfl ?_
  refine q_iconst (v := 1) hC dX3_takeRule_8 rfl 9 rfl ?_
  refine q_icmp_ne hC 22 dX3_takeRule_9 (by decide) 12 rfl hw (fun hw => ?_) (fun hw => ?_)
  · refine q_aload_n hC dX3_takeRule_22 0 rfl 23 rfl ?_
    refine q_dup hC dX3_takeRule_23 rfl 24 rfl ?_
    refine q_getI (C := RX3) (T := TX3) (N := 10) (ci := 3) hC inX3_takeRule_X3 (obF37 hF) rfl 7 (by decide) (uX3_takeRule__o _ (List.mem_of_getElem? (l := owX3_takeRule) (i := 1) rfl)) rfl (fun _ => rfl) dX3_takeRule_24 27 rfl ?_
    refine q_iconst (v := 1) hC dX3_takeRule_27 rfl 28 rfl ?_
    refine q_iload_n hC dX3_takeRule_28 1 rfl 29 rfl ?_
    refine q_ishl hC dX3_takeRule_29 30 rfl ?_
    refine q_ior hC dX3_takeRule_30 31 rfl ?_
    refine q_putI (C := RX3) (T := TX3) (N := 10) (ci := 3) hC inX3_takeRule_X3 tyX3 tyX3_ok nmX3 (obF37 hF) rfl 7 (by decide) (uX3_takeRule__o _ (List.mem_of_getElem? (l := owX3_takeRule) (i := 1) rfl)) rfl rfl rfl (fun _ => Nat.le_of_ble_eq_true rfl) (fun _ => rfl) dX3_takeRule_31 34 rfl (fun M1 eM1 => ?_)
    have hw := hw M1 eM1
    refine q_aload_n hC dX3_takeRule_34 0 rfl 35 rfl ?_
    refine r_callV hC (go_V (q := (RX3, TX3, 10)) (As := []) (rest := []) hC (ctX3_readToken (zl z) g M1 _ hF hw) 0 gX3_takeRule_X3_readToken rfl ⟨rfl, rfl⟩ hdV_X3_readToken ⟨Nat.le_of_ble_eq_true rfl, Nat.le_of_ble_eq_true rfl⟩ (obF37 hF) rfl rfl rfl (Nat.le_of_ble_eq_true rfl) dX3_takeRule_35) 38 rfl (fun M2 hw => ?_)
    refine q_aload_n hC dX3_takeRule_38 0 rfl 39 rfl ?_
    refine q_getsN hC 0 (by decide) 1 rfl dX3_takeRule_39 42 rfl ?_
    refine q_iload_n hC dX3_takeRule_42 1 rfl 43 rfl ?_
    refine r_callI hC (go_N (As := [.ref (gS g 0), .int v1]) (rest := [.ref (gA g 37)]) hC (ctX4_cell_s (zl z) g M2 0 v1 _ (by decide) hw) 2 gX3_takeRule_X4_cell_n144 rfl ⟨rfl, rfl⟩ 11 rfl (uX3_takeRule__X3_isNumberWithin _ (List.mem_of_getElem? (l := owX3_isNumberWithin) (i := 9) rfl)) (uX3_takeRule__o _ (List.mem_of_getElem? (l := owX3_takeRule) (i := 7) rfl)) hdT_X4_cell ⟨Nat.le_of_ble_eq_true rfl, Nat.le_of_ble_eq_true rfl⟩ rfl rfl (Nat.le_of_ble_eq_true rfl) dX3_takeRule_43) 46 rfl (fun r3 M4 hw => ?_)
    refine q_getsN hC 1 (by decide) 2 rfl dX3_takeRule_46 49 rfl ?_
    refine q_iload_n hC dX3_takeRule_49 1 rfl 50 rfl ?_
    refine r_callI hC (go_N (As := [.ref (gS g 1), .int v1]) (rest := [.int r3, .ref (gA g 37)]) hC (ctX4_cell_s (zl z) g M4 1 v1 _ (by decide) hw) 2 gX3_takeRule_X4_cell_n144 rfl ⟨rfl, rfl⟩ 11 rfl (uX3_takeRule__X3_isNumberWithin _ (List.mem_of_getElem? (l := owX3_isNumberWithin) (i := 9) rfl)) (uX3_takeRule__o _ (List.mem_of_getElem? (l := owX3_takeRule) (i := 7) rfl)) hdT_X4_cell ⟨Nat.le_of_ble_eq_true rfl, Nat.le_of_ble_eq_true rfl⟩ rfl rfl (Nat.le_of_ble_eq_true rfl) dX3_takeRule_50) 53 rfl (fun r5 M6 hw => ?_)
    refine r_callI hC (go_V (q := (RX3, TX3, 10)) (As := [.int r3, .int r5]) (rest := []) hC (ctX3_isNumberWithin (zl z) g M6 r3 r5 _ hF hw) 2 gX3_takeRule_X3_isNumberWithin rfl ⟨rfl, rfl⟩ hdV_X3_isNumberWithin ⟨Nat.le_of_ble_eq_true rfl, Nat.le_of_ble_eq_true rfl⟩ (obF37 hF) rfl rfl rfl (Nat.le_of_ble_eq_true rfl) dX3_takeRule_53) 56 rfl (fun r7 M8 hw => ?_)
    refine q_if_ne hC 60 dX3_takeRule_56 (by decide) 59 rfl hw (fun hw => ?_) (fun hw => ?_)
    · refine q_aload_n hC dX3_takeRule_60 0 rfl 61 rfl ?_
      refine q_getR (C := RX3) (T := TX3) (N := 10) (ci := 3) hC inX3_takeRule_X3 (obF37 hF) rfl 1 (by decide) (uX3_takeRule__o _ (List.mem_of_getElem? (l := owX3_takeRule) (i := 2) rfl)) rfl 28 (fun _ => rfl) dX3_takeRule_61 64 rfl ?_
      refine q_getR (C := RX2) (T := TX2) (N := 14) (ci := 2) hC inX3_takeRule_X2 (hF.tp (b := 28) (Or.inr (Or.inr (Or.inr rfl)))).ob rfl 0 (by decide) (uX3_takeRule__o _ (List.mem_of_getElem? (l := owX3_takeRule) (i := 3) rfl)) rfl 29 (fun _ => rfl) dX3_takeRule_64 67 rfl ?_
      refine q_iload_n hC dX3_takeRule_67 1 rfl 68 rfl ?_
      refine q_aload_n hC dX3_takeRule_68 0 rfl 69 rfl ?_
      refine q_getI (C := RX3) (T := TX3) (N := 10) (ci := 3) hC inX3_takeRule_X3 (obF37 hF) rfl 6 (by decide) (uX3_takeRule__X3_readNumber _ (List.mem_of_getElem? (l := owX3_readNumber) (i := 4) rfl)) rfl (fun _ => rfl) dX3_takeRule_69 72 rfl ?_
      refine r_callV hC (go_N (As := [.ref (gA g 29), .int v1, .int (M8 37 6)]) (rest := []) hC (ctX4_setCell (zl z) g M8 29 v1 (M8 37 6) _ (arF29 hF) hw) 3 gX3_takeRule_X4_setCell_n158 rfl ⟨rfl, rfl⟩ 12 rfl (uX3_takeRule__X3_isNumberWithin _ (List.mem_of_getElem? (l := owX3_isNumberWithin) (i := 9) rfl)) (uX3_takeRule__o _ (List.mem_of_getElem? (l := owX3_takeRule) (i := 11) rfl)) hdT_X4_setCell ⟨Nat.le_of_ble_eq_true rfl, Nat.le_of_ble_eq_true rfl⟩ rfl rfl (Nat.le_of_ble_eq_true rfl) dX3_takeRule_72) 75 rfl (fun M9 hw => ?_)
      refine q_aload_n hC dX3_takeRule_75 0 rfl 76 rfl ?_
      refine r_callV hC (go_V (q := (RX3, TX3, 10)) (As := []) (rest := []) hC (ctX3_readToken (zl z) g M9 _ hF hw) 0 gX3_takeRule_X3_readToken rfl ⟨rfl, rfl⟩ hdV_X3_readToken ⟨Nat.le_of_ble_eq_true rfl, Nat.le_of_ble_eq_true rfl⟩ (obF37 hF) rfl rfl rfl (Nat.le_of_ble_eq_true rfl) dX3_takeRule_76) 79 rfl (fun M10 hw => ?_)
      exact r_vret hR dX3_takeRule_79 hw
    · exact r_vret hR dX3_takeRule_59 hw
  · refine q_aload_n hC dX3_takeRule_12 0 rfl 13 rfl ?_
    refine q_iconst (v := 4) hC dX3_takeRule_13 rfl 14 rfl ?_
    refine q_aload_n hC dX3_takeRule_14 0 rfl 15 rfl ?_
    refine q_getI (C := RX3) (T := TX3) (N := 10) (ci := 3) hC inX3_takeRule_X3 (obF37 hF) rfl 5 (by decide) (uX3_takeRule__X3_readNumber _ (List.mem_of_getElem? (l := owX3_readNumber) (i := 2) rfl)) rfl (fun _ => rfl) dX3_takeRule_15 18 rfl ?_
    refine r_callV hC (go_V (q := (RX3, TX3, 10)) (As := [.int 4, .int (M 37 5)]) (rest := []) hC (ctX3_refuse (zl z) g M 4 (M 37 5) _ hF hw) 2 gX3_takeRule_X3_refuse rfl ⟨rfl, rfl⟩ hdV_X3_refuse ⟨Nat.le_of_ble_eq_true rfl, Nat.le_of_ble_eq_true rfl⟩ (obF37 hF) rfl rfl rfl (Nat.le_of_ble_eq_true rfl) dX3_takeRule_18) 21 rfl (fun M11 hw => ?_)
    exact r_vret hR dX3_takeRule_21 hw
theorem inX3_hasRoomForBlock_X2 : ∀ w ∈ u_ws RX2 TX2 14, w ∈ wsX3_hasRoomForBlock := uX3_hasRoomForBlock__wsX20
theorem inX3_hasRoomForBlock_X3 : ∀ w ∈ u_ws RX3 TX3 10, w ∈ wsX3_hasRoomForBlock := uX3_hasRoomForBlock__wsX30
set_option maxRecDepth 100000 in
set_option maxHeartbeats 4000000 in
theorem ctX3_hasRoomForBlock (l : Launch) (g : GG) (M : MM)  (Q : Int32 → MM → Prop) (hF : full g) (hw : wX3_hasRoomForBlock Q M ) : MI g l yX3_hasRoomForBlock wsX3_hasRoomForBlock (rmOf 1 22) [.ref (gA g 37)] M Q := by
  refine mk_MZ (cc := cX3_hasRoomForBlock) (maxL := 1) (by decide) rfl (Nat.le_of_ble_eq_true rfl) ?_
  intro z Qf hC hR
  show XX z g Qf 1 0 [(0, .ref (gA g 37))] [] M
  refine q_aload_n hC dX3_hasRoomForBlock_0 0 rfl 1 rfl ?_
  refine q_getR (C := RX3) (T := TX3) (N := 10) (ci := 3) hC inX3_hasRoomForBlock_X3 (obF37 hF) rfl 1 (by decide) (uX3_hasRoomForBlock__o _ (List.mem_of_getElem? (l := owX3_hasRoomForBlock) (i := 1) rfl)) rfl 28 (fun _ => rfl) dX3_hasRoomForBlock_1 4 rfl ?_
  refine q_getI (C := RX2) (T := TX2) (N := 14) (ci := 2) hC inX3_hasRoomForBlock_X2 (hF.tp (b := 28) (Or.inr (Or.inr (Or.inr rfl)))).ob rfl 8 (by decide) (uX3_hasRoomForBlock__o _ (List.mem_of_getElem? (l := owX3_hasRoomForBlock) (i := 2) rfl)) rfl (fun _ => rfl) dX3_hasRoomForBlock_4 7 rfl ?_
  refine q_bipush (v := 12) hC dX3_hasRoomForBlock_7 (by decide) 9 rfl ?_
  refine q_icmp_ge hC 14 dX3_hasRoomForBlock_9 (by decide) 12 rfl hw (fun hw => ?_) (fun hw => ?_)
  · refine q_aload_n hC dX3_hasRoomForBlock_14 0 rfl 15 rfl ?_
    refine q_iconst (v := 5) hC dX3_hasRoomForBlock_15 rfl 16 rfl ?_
    refine q_aload_n hC dX3_hasRoomForBlock_16 0 rfl 17 rfl ?_
    refine q_getI (C := RX3) (T := TX3) (N := 10) (ci := 3) hC inX3_hasRoomForBlock_X3 (obF37 hF) rfl 5 (by decide) (uX3_hasRoomForBlock__o _ (List.mem_of_getElem? (l := owX3_hasRoomForBlock) (i := 3) rfl)) rfl (fun _ => rfl) dX3_hasRoomForBlock_17 20 rfl ?_
    refine r_callV hC (go_V (q := (RX3, TX3, 10)) (As := [.int 5, .int (M 37 5)]) (rest := []) hC (ctX3_refuse (zl z) g M 5 (M 37 5) _ hF hw) 2 gX3_hasRoomForBlock_X3_refuse rfl ⟨rfl, rfl⟩ hdV_X3_refuse ⟨Nat.le_of_ble_eq_true rfl, Nat.le_of_ble_eq_true rfl⟩ (obF37 hF) rfl rfl rfl (Nat.le_of_ble_eq_true rfl) dX3_hasRoomForBlock_20) 23 rfl (fun M1 hw => ?_)
    refine q_iconst (v := 0) hC dX3_hasRoomForBlock_23 rfl 24 rfl ?_
    exact r_iret hR dX3_hasRoomForBlock_24 ⟨nb_0, hw⟩
  · refine q_iconst (v := 1) hC dX3_hasRoomForBlock_12 rfl 13 rfl ?_
    exact r_iret hR dX3_hasRoomForBlock_13 ⟨nb_1, hw⟩
theorem hdV_X3_hasRoomForBlock : yX3_hasRoomForBlock.cls = RX3 ∧ yX3_hasRoomForBlock.cls ≠ "java/lang/invoke/MethodHandle" ∧ yX3_hasRoomForBlock.cls ≠ "java/lang/invoke/VarHandle" ∧ (parseMethodDescriptor yX3_hasRoomForBlock.desc).map (fun d => d.parameters.length) = some 0 := by decide +kernel
theorem hdV_X2_typeOne : yX2_typeOne.cls = RX2 ∧ yX2_typeOne.cls ≠ "java/lang/invoke/MethodHandle" ∧ yX2_typeOne.cls ≠ "java/lang/invoke/VarHandle" ∧ (parseMethodDescriptor yX2_typeOne.desc).map (fun d => d.parameters.length) = some 1 := by decide +kernel
theorem inX3_takeBlock_X2 : ∀ w ∈ u_ws RX2 TX2 14, w ∈ wsX3_takeBlock := uX3_takeBlock__wsX20
theorem inX3_takeBlock_X3 : ∀ w ∈ u_ws RX3 TX3 10, w ∈ wsX3_takeBlock := uX3_takeBlock__wsX30
set_option maxRecDepth 100000 in
set_option maxHeartbeats 4000000 in
theorem ctX3_takeBlock (l : Launch) (g : GG) (M : MM)  (Q : MM → Prop) (hF : full g) (hw : wX3_takeBlock Q M ) : MV g l yX3_takeBlock wsX3_takeBlock (rmOf 3 72) [.ref (gA g 37)] M Q := by
  refine mk_MV (cc := cX3_takeBlock) (maxL := 2) (by decide) rfl (Nat.le_of_ble_eq_true rfl) ?_
  intro z Qf hC hR
  show XX z g Qf 2 0 [(0, .ref (gA g 37))] [] M
  have B92 : ∀ (M : MM), wX3_takeBlock_92 Q M → XX z g Qf 2 92 [(0, .ref (gA g 37))] [] M := by
    intro M hw
    refine q_aload_n hC dX3_takeBlock_92 0 rfl 93 rfl ?_
    refine q_getR (C := RX3) (T := TX3) (N := 10) (ci := 3) hC inX3_takeBlock_X3 (obF37 hF) rfl 1 (by decide) (uX3_takeBlock__X3_hasRoomForBlock _ (List.mem_of_getElem? (l := owX3_hasRoomForBlock) (i := 1) rfl)) rfl 28 (fun _ => rfl) dX3_takeBlock_93 96 rfl ?_
    refine q_aload_n hC dX3_takeBlock_96 0 rfl 97 rfl ?_
    refine q_getR (C := RX3) (T := TX3) (N := 10) (ci := 3) hC inX3_takeBlock_X3 (obF37 hF) rfl 1 (by decide) (uX3_takeBlock__X3_hasRoomForBlock _ (List.mem_of_getElem? (l := owX3_hasRoomForBlock) (i := 1) rfl)) rfl 28 (fun _ => rfl) dX3_takeBlock_97 100 rfl ?_
    refine q_getI (C := RX2) (T := TX2) (N := 14) (ci := 2) hC inX3_takeBlock_X2 (hF.tp (b := 28) (Or.inr (Or.inr (Or.inr rfl)))).ob rfl 8 (by decide) (uX3_takeBlock__X3_hasRoomForBlock _ (List.mem_of_getElem? (l := owX3_hasRoomForBlock) (i := 2) rfl)) rfl (fun _ => rfl) dX3_takeBlock_100 103 rfl ?_
    refine q_iconst (v := 0) hC dX3_takeBlock_103 rfl 104 rfl ?_
    refine q_aload_n hC dX3_takeBlock_104 0 rfl 105 rfl ?_
    refine q_getR (C := RX3) (T := TX3) (N := 10) (ci := 3) hC inX3_takeBlock_X3 (obF37 hF) rfl 1 (by decide) (uX3_takeBlock__X3_hasRoomForBlock _ (List.mem_of_getElem? (l := owX3_hasRoomForBlock) (i := 1) rfl)) rfl 28 (fun _ => rfl) dX3_takeBlock_105 108 rfl ?_
    refine q_getI (C := RX2) (T := TX2) (N := 14) (ci := 2) hC inX3_takeBlock_X2 (hF.tp (b := 28) (Or.inr (Or.inr (Or.inr rfl)))).ob rfl 11 (by decide) (uX3_takeBlock__o _ (List.mem_of_getElem? (l := owX3_takeBlock) (i := 1) rfl)) rfl (fun _ => rfl) dX3_takeBlock_108 111 rfl ?_
    refine r_callV hC (go_V (q := (RX2, TX2, 14)) (As := [.int (M 28 8), .int 0, .int (M 28 11)]) (rest := []) hC (ctX2_putBlock (zl z) g M 28 (M 28 8) 0 (M 28 11) _ (hF.tp (b := 28) (Or.inr (Or.inr (Or.inr rfl)))) hw) 3 gX3_takeBlock_X2_putBlock rfl ⟨rfl, rfl⟩ hdV_X2_putBlock ⟨Nat.le_of_ble_eq_true rfl, Nat.le_of_ble_eq_true rfl⟩ (hF.tp (b := 28) (Or.inr (Or.inr (Or.inr rfl)))).ob rfl rfl rfl (Nat.le_of_ble_eq_true rfl) dX3_takeBlock_111) 114 rfl (fun M10 hw => ?_)
    exact r_vret hR dX3_takeBlock_114 hw
  have B82 : ∀ (K22 : MM → Int32 → Prop) (hK22 : ∀ (M : MM) (v1 : Int32) , K22 M v1 → XX z g Qf 2 22 [(0, .ref (gA g 37)), (1, .int v1)] [] M) (M : MM) (v1 : Int32), wX3_takeBlock_82 Q K22 M v1 → XX z g Qf 2 82 [(0, .ref (gA g 37)), (1, .int v1)] [] M := by
    intro K22 hK22 M v1 hw
    refine q_aload_n hC dX3_takeBlock_82 0 rfl 83 rfl ?_
    refine r_callV hC (go_V (q := (RX3, TX3, 10)) (As := []) (rest := []) hC (ctX3_readToken (zl z) g M _ hF hw) 0 gX3_takeBlock_X3_readToken rfl ⟨rfl, rfl⟩ hdV_X3_readToken ⟨Nat.le_of_ble_eq_true rfl, Nat.le_of_ble_eq_true rfl⟩ (obF37 hF) rfl rfl rfl (Nat.le_of_ble_eq_true rfl) dX3_takeBlock_83) 86 rfl (fun M11 hw => ?_)
    refine q_iinc (v := v1 + 1) (L' := [(1, .int (v1 + 1)), (0, .ref (gA g 37))]) hC dX3_takeBlock_86 1 rfl rfl (by decide) rfl 89 rfl ?_
    refine q_goto hC 22 dX3_takeBlock_89 (by decide) ?_
    exact XX.sub [1, 0] rfl (hK22 M11 (v1 + 1) hw)
  have B40 : ∀ (K22 : MM → Int32 → Prop) (hK22 : ∀ (M : MM) (v1 : Int32) , K22 M v1 → XX z g Qf 2 22 [(0, .ref (gA g 37)), (1, .int v1)] [] M) (M : MM) (v1 : Int32), wX3_takeBlock_40 Q K22 M v1 → XX z g Qf 2 40 [(0, .ref (gA g 37)), (1, .int v1)] [] M := by
    intro K22 hK22 M v1 hw
    refine q_aload_n hC dX3_takeBlock_40 0 rfl 41 rfl ?_
    refine q_iconst (v := 0) hC dX3_takeBlock_41 rfl 42 rfl ?_
    refine q_sipush (v := 255) hC dX3_takeBlock_42 (by decide) 45 rfl ?_
    refine r_callI hC (go_V (q := (RX3, TX3, 10)) (As := [.int 0, .int 255]) (rest := []) hC (ctX3_isNumberWithin (zl z) g M 0 255 _ hF hw) 2 gX3_takeBlock_X3_isNumberWithin rfl ⟨rfl, rfl⟩ hdV_X3_isNumberWithin ⟨Nat.le_of_ble_eq_true rfl, Nat.le_of_ble_eq_true rfl⟩ (obF37 hF) rfl rfl rfl (Nat.le_of_ble_eq_true rfl) dX3_takeBlock_45) 48 rfl (fun r5 M6 hw => ?_)
    refine q_if_ne hC 52 dX3_takeBlock_48 (by decide) 51 rfl hw (fun hw => ?_) (fun hw => ?_)
    · refine q_iload_n hC dX3_takeBlock_52 1 rfl 53 rfl ?_
      refine q_bipush (v := 12) hC dX3_takeBlock_53 (by decide) 55 rfl ?_
      refine q_icmp_ne hC 70 dX3_takeBlock_55 (by decide) 58 rfl hw (fun hw => ?_) (fun hw => ?_)
      · refine q_aload_n hC dX3_takeBlock_70 0 rfl 71 rfl ?_
        refine q_getR (C := RX3) (T := TX3) (N := 10) (ci := 3) hC inX3_takeBlock_X3 (obF37 hF) rfl 1 (by decide) (uX3_takeBlock__X3_hasRoomForBlock _ (List.mem_of_getElem? (l := owX3_hasRoomForBlock) (i := 1) rfl)) rfl 28 (fun _ => rfl) dX3_takeBlock_71 74 rfl ?_
        refine q_aload_n hC dX3_takeBlock_74 0 rfl 75 rfl ?_
        refine q_getI (C := RX3) (T := TX3) (N := 10) (ci := 3) hC inX3_takeBlock_X3 (obF37 hF) rfl 6 (by decide) (uX3_takeBlock__X3_readNumber _ (List.mem_of_getElem? (l := owX3_readNumber) (i := 4) rfl)) rfl (fun _ => rfl) dX3_takeBlock_75 78 rfl ?_
        refine r_callI hC (go_V (q := (RX2, TX2, 14)) (As := [.int (M6 37 6)]) (rest := []) hC (ctX2_typeOne (zl z) g M6 28 (M6 37 6) _ (hF.tp (b := 28) (Or.inr (Or.inr (Or.inr rfl)))) hw) 1 gX3_takeBlock_X2_typeOne rfl ⟨rfl, rfl⟩ hdV_X2_typeOne ⟨Nat.le_of_ble_eq_true rfl, Nat.le_of_ble_eq_true rfl⟩ (hF.tp (b := 28) (Or.inr (Or.inr (Or.inr rfl)))).ob rfl rfl rfl (Nat.le_of_ble_eq_true rfl) dX3_takeBlock_78) 81 rfl (fun r7 M8 hw => ?_)
        refine q_pop hC dX3_takeBlock_81 rfl 82 rfl ?_
        exact XX.sub [0, 1] rfl (B82 _ hK22 M8 v1 hw)
      · refine q_aload_n hC dX3_takeBlock_58 0 rfl 59 rfl ?_
        refine q_iconst (v := 5) hC dX3_takeBlock_59 rfl 60 rfl ?_
        refine q_aload_n hC dX3_takeBlock_60 0 rfl 61 rfl ?_
        refine q_getI (C := RX3) (T := TX3) (N := 10) (ci := 3) hC inX3_takeBlock_X3 (obF37 hF) rfl 5 (by decide) (uX3_takeBlock__X3_hasRoomForBlock _ (List.mem_of_getElem? (l := owX3_hasRoomForBlock) (i := 3) rfl)) rfl (fun _ => rfl) dX3_takeBlock_61 64 rfl ?_
        refine r_callV hC (go_V (q := (RX3, TX3, 10)) (As := [.int 5, .int (M6 37 5)]) (rest := []) hC (ctX3_refuse (zl z) g M6 5 (M6 37 5) _ hF hw) 2 gX3_takeBlock_X3_refuse rfl ⟨rfl, rfl⟩ hdV_X3_refuse ⟨Nat.le_of_ble_eq_true rfl, Nat.le_of_ble_eq_true rfl⟩ (obF37 hF) rfl rfl rfl (Nat.le_of_ble_eq_true rfl) dX3_takeBlock_64) 67 rfl (fun M9 hw => ?_)
        refine q_goto hC 82 dX3_takeBlock_67 (by decide) ?_
        exact XX.sub [0, 1] rfl (B82 _ hK22 M9 v1 hw)
    · exact r_vret hR dX3_takeBlock_51 hw
  have B22 : ∀ (n : Nat) (M : MM) (v1 : Int32) , wX3_takeBlock_22 Q n M v1 → XX z g Qf 2 22 [(0, .ref (gA g 37)), (1, .int v1)] [] M := by
    intro n
    induction n with
    | zero =>
      intro M v1 hw
      exact hw.elim
    | succ n ih =>
      intro M v1 hw
      refine q_iload_n hC dX3_takeBlock_22 1 rfl 23 rfl ?_
      refine q_bipush (v := 12) hC dX3_takeBlock_23 (by decide) 25 rfl ?_
      refine q_icmp_gt hC 92 dX3_takeBlock_25 (by decide) 28 rfl hw (fun hw => ?_) (fun hw => ?_)
      · exact XX.sub [0] rfl (B92 M hw)
      · refine q_iload_n hC dX3_takeBlock_28 1 rfl 29 rfl ?_
        refine q_if_eq hC 40 dX3_takeBlock_29 (by decide) 32 rfl hw (fun hw => ?_) (fun hw => ?_)
        · exact XX.sub [0, 1] rfl (B40 _ (fun M v1 hw => ih M v1 hw) M v1 hw)
        · refine q_aload_n hC dX3_takeBlock_32 0 rfl 33 rfl ?_
          refine q_getI (C := RX3) (T := TX3) (N := 10) (ci := 3) hC inX3_takeBlock_X3 (obF37 hF) rfl 4 (by decide) (uX3_takeBlock__X3_readNumber _ (List.mem_of_getElem? (l := owX3_readNumber) (i := 3) rfl)) rfl (fun _ => rfl) dX3_takeBlock_33 36 rfl ?_
          refine q_iconst (v := 2) hC dX3_takeBlock_36 rfl 37 rfl ?_
          refine q_icmp_ne hC 92 dX3_takeBlock_37 (by decide) 40 rfl hw (fun hw => ?_) (fun hw => ?_)
          · exact XX.sub [0] rfl (B92 M hw)
          · exact XX.sub [0, 1] rfl (B40 _ (fun M v1 hw => ih M v1 hw) M v1 hw)
  refine q_aload_n hC dX3_takeBlock_0 0 rfl 1 rfl ?_
  refine r_callI hC (go_V (q := (RX3, TX3, 10)) (As := []) (rest := []) hC (ctX3_hasRoomForBlock (zl z) g M _ hF hw) 0 gX3_takeBlock_X3_hasRoomForBlock rfl ⟨rfl, rfl⟩ hdV_X3_hasRoomForBlock ⟨Nat.le_of_ble_eq_true rfl, Nat.le_of_ble_eq_true rfl⟩ (obF37 hF) rfl rfl rfl (Nat.le_of_ble_eq_true rfl) dX3_takeBlock_1) 4 rfl (fun r1 M2 hw => ?_)
  refine q_if_ne hC 8 dX3_takeBlock_4 (by decide) 7 rfl hw (fun hw => ?_) (fun hw => ?_)
  · refine q_aload_n hC dX3_takeBlock_8 0 rfl 9 rfl ?_
    refine q_getR (C := RX3) (T := TX3) (N := 10) (ci := 3) hC inX3_takeBlock_X3 (obF37 hF) rfl 1 (by decide) (uX3_takeBlock__X3_hasRoomForBlock _ (List.mem_of_getElem? (l := owX3_hasRoomForBlock) (i := 1) rfl)) rfl 28 (fun _ => rfl) dX3_takeBlock_9 12 rfl ?_
    refine q_iconst (v := 0) hC dX3_takeBlock_12 rfl 13 rfl ?_
    refine q_putI (C := RX2) (T := TX2) (N := 14) (ci := 2) hC inX3_takeBlock_X2 tyX2 tyX2_ok nmX2 (hF.tp (b := 28) (Or.inr (Or.inr (Or.inr rfl)))).ob rfl 11 (by decide) (uX3_takeBlock__o _ (List.mem_of_getElem? (l := owX3_takeBlock) (i := 1) rfl)) rfl rfl rfl (fun _ => Nat.le_of_ble_eq_true rfl) (fun _ => rfl) dX3_takeBlock_13 16 rfl (fun M3 eM3 => ?_)
    have hw := hw M3 eM3
    refine q_aload_n hC dX3_takeBlock_16 0 rfl 17 rfl ?_
    refine r_callV hC (go_V (q := (RX3, TX3, 10)) (As := []) (rest := []) hC (ctX3_readToken (zl z) g M3 _ hF hw) 0 gX3_takeBlock_X3_readToken rfl ⟨rfl, rfl⟩ hdV_X3_readToken ⟨Nat.le_of_ble_eq_true rfl, Nat.le_of_ble_eq_true rfl⟩ (obF37 hF) rfl rfl rfl (Nat.le_of_ble_eq_true rfl) dX3_takeBlock_17) 20 rfl (fun M4 hw => ?_)
    refine q_iconst (v := 0) hC dX3_takeBlock_20 rfl 21 rfl ?_
    refine q_istore_n (L' := [(1, .int 0), (0, .ref (gA g 37))]) hC dX3_takeBlock_21 (by decide) rfl 22 rfl ?_
    obtain ⟨n0, hw⟩ := hw
    exact XX.sub [1, 0] rfl (B22 n0 M4 0 hw)
  · exact r_vret hR dX3_takeBlock_7 hw
theorem inX3_takeMark_X2 : ∀ w ∈ u_ws RX2 TX2 14, w ∈ wsX3_takeMark := uX3_takeMark__wsX20
theorem inX3_takeMark_X3 : ∀ w ∈ u_ws RX3 TX3 10, w ∈ wsX3_takeMark := uX3_takeMark__wsX30
set_option maxRecDepth 100000 in
set_option maxHeartbeats 4000000 in
theorem ctX3_takeMark (l : Launch) (g : GG) (M : MM)  (Q : MM → Prop) (hF : full g) (hw : wX3_takeMark Q M ) : MV g l yX3_takeMark wsX3_takeMark (rmOf 3 72) [.ref (gA g 37)] M Q := by
  refine mk_MV (cc := cX3_takeMark) (maxL := 1) (by decide) rfl (Nat.le_of_ble_eq_true rfl) ?_
  intro z Qf hC hR
  show XX z g Qf 1 0 [(0, .ref (gA g 37))] [] M
  refine q_aload_n hC dX3_takeMark_0 0 rfl 1 rfl ?_
  refine r_callI hC (go_V (q := (RX3, TX3, 10)) (As := []) (rest := []) hC (ctX3_hasRoomForBlock (zl z) g M _ hF hw) 0 gX3_takeMark_X3_hasRoomForBlock rfl ⟨rfl, rfl⟩ hdV_X3_hasRoomForBlock ⟨Nat.le_of_ble_eq_true rfl, Nat.le_of_ble_eq_true rfl⟩ (obF37 hF) rfl rfl rfl (Nat.le_of_ble_eq_true rfl) dX3_takeMark_1) 4 rfl (fun r1 M2 hw => ?_)
  refine q_if_ne hC 8 dX3_takeMark_4 (by decide) 7 rfl hw (fun hw => ?_) (fun hw => ?_)
  · refine q_aload_n hC dX3_takeMark_8 0 rfl 9 rfl ?_
    refine q_getR (C := RX3) (T := TX3) (N := 10) (ci := 3) hC inX3_takeMark_X3 (obF37 hF) rfl 1 (by decide) (uX3_takeMark__X3_hasRoomForBlock _ (List.mem_of_getElem? (l := owX3_hasRoomForBlock) (i := 1) rfl)) rfl 28 (fun _ => rfl) dX3_takeMark_9 12 rfl ?_
    refine q_aload_n hC dX3_takeMark_12 0 rfl 13 rfl ?_
    refine q_getR (C := RX3) (T := TX3) (N := 10) (ci := 3) hC inX3_takeMark_X3 (obF37 hF) rfl 1 (by decide) (uX3_takeMark__X3_hasRoomForBlock _ (List.mem_of_getElem? (l := owX3_hasRoomForBlock) (i := 1) rfl)) rfl 28 (fun _ => rfl) dX3_takeMark_13 16 rfl ?_
    refine q_getI (C := RX2) (T := TX2) (N := 14) (ci := 2) hC inX3_takeMark_X2 (hF.tp (b := 28) (Or.inr (Or.inr (Or.inr rfl)))).ob rfl 8 (by decide) (uX3_takeMark__X3_hasRoomForBlock _ (List.mem_of_getElem? (l := owX3_hasRoomForBlock) (i := 2) rfl)) rfl (fun _ => rfl) dX3_takeMark_16 19 rfl ?_
    refine q_iconst (v := 0) hC dX3_takeMark_19 rfl 20 rfl ?_
    refine q_iconst (v := 0) hC dX3_takeMark_20 rfl 21 rfl ?_
    refine r_callV hC (go_V (q := (RX2, TX2, 14)) (As := [.int (M2 28 8), .int 0, .int 0]) (rest := []) hC (ctX2_putBlock (zl z) g M2 28 (M2 28 8) 0 0 _ (hF.tp (b := 28) (Or.inr (Or.inr (Or.inr rfl)))) hw) 3 gX3_takeMark_X2_putBlock rfl ⟨rfl, rfl⟩ hdV_X2_putBlock ⟨Nat.le_of_ble_eq_true rfl, Nat.le_of_ble_eq_true rfl⟩ (hF.tp (b := 28) (Or.inr (Or.inr (Or.inr rfl)))).ob rfl rfl rfl (Nat.le_of_ble_eq_true rfl) dX3_takeMark_21) 24 rfl (fun M3 hw => ?_)
    refine q_aload_n hC dX3_takeMark_24 0 rfl 25 rfl ?_
    refine r_callV hC (go_V (q := (RX3, TX3, 10)) (As := []) (rest := []) hC (ctX3_readToken (zl z) g M3 _ hF hw) 0 gX3_takeMark_X3_readToken rfl ⟨rfl, rfl⟩ hdV_X3_readToken ⟨Nat.le_of_ble_eq_true rfl, Nat.le_of_ble_eq_true rfl⟩ (obF37 hF) rfl rfl rfl (Nat.le_of_ble_eq_true rfl) dX3_takeMark_25) 28 rfl (fun M4 hw => ?_)
    exact r_vret hR dX3_takeMark_28 hw
  · exact r_vret hR dX3_takeMark_7 hw
theorem inX3_takeSign_X3 : ∀ w ∈ u_ws RX3 TX3 10, w ∈ wsX3_takeSign := uX3_takeSign__wsX30
set_option maxRecDepth 100000 in
set_option maxHeartbeats 4000000 in
theorem ctX3_takeSign (l : Launch) (g : GG) (M : MM)  (Q : MM → Prop) (hF : full g) (hw : wX3_takeSign Q M ) : MV g l yX3_takeSign wsX3_takeSign (rmOf 3 63) [.ref (gA g 37)] M Q := by
  refine mk_MV (cc := cX3_takeSign) (maxL := 1) (by decide) rfl (Nat.le_of_ble_eq_true rfl) ?_
  intro z Qf hC hR
  show XX z g Qf 1 0 [(0, .ref (gA g 37))] [] M
  refine q_aload_n hC dX3_takeSign_0 0 rfl 1 rfl ?_
  refine q_getI (C := RX3) (T := TX3) (N := 10) (ci := 3) hC inX3_takeSign_X3 (obF37 hF) rfl 4 (by decide) (uX3_takeSign__X3_readNumber _ (List.mem_of_getElem? (l := owX3_readNumber) (i := 3) rfl)) rfl (fun _ => rfl) dX3_takeSign_1 4 rfl ?_
  refine q_iconst (v := 3) hC dX3_takeSign_4 rfl 5 rfl ?_
  refine q_icmp_ne hC 15 dX3_takeSign_5 (by decide) 8 rfl hw (fun hw => ?_) (fun hw => ?_)
  · refine q_aload_n hC dX3_takeSign_15 0 rfl 16 rfl ?_
    refine q_iconst (v := 2) hC dX3_takeSign_16 rfl 17 rfl ?_
    refine q_aload_n hC dX3_takeSign_17 0 rfl 18 rfl ?_
    refine q_getI (C := RX3) (T := TX3) (N := 10) (ci := 3) hC inX3_takeSign_X3 (obF37 hF) rfl 5 (by decide) (uX3_takeSign__X3_readNumber _ (List.mem_of_getElem? (l := owX3_readNumber) (i := 2) rfl)) rfl (fun _ => rfl) dX3_takeSign_18 21 rfl ?_
    refine r_callV hC (go_V (q := (RX3, TX3, 10)) (As := [.int 2, .int (M 37 5)]) (rest := []) hC (ctX3_refuse (zl z) g M 2 (M 37 5) _ hF hw) 2 gX3_takeSign_X3_refuse rfl ⟨rfl, rfl⟩ hdV_X3_refuse ⟨Nat.le_of_ble_eq_true rfl, Nat.le_of_ble_eq_true rfl⟩ (obF37 hF) rfl rfl rfl (Nat.le_of_ble_eq_true rfl) dX3_takeSign_21) 24 rfl (fun M1 hw => ?_)
    exact r_vret hR dX3_takeSign_24 hw
  · refine q_aload_n hC dX3_takeSign_8 0 rfl 9 rfl ?_
    refine r_callV hC (go_V (q := (RX3, TX3, 10)) (As := []) (rest := []) hC (ctX3_readToken (zl z) g M _ hF hw) 0 gX3_takeSign_X3_readToken rfl ⟨rfl, rfl⟩ hdV_X3_readToken ⟨Nat.le_of_ble_eq_true rfl, Nat.le_of_ble_eq_true rfl⟩ (obF37 hF) rfl rfl rfl (Nat.le_of_ble_eq_true rfl) dX3_takeSign_9) 12 rfl (fun M2 hw => ?_)
    refine q_goto hC 24 dX3_takeSign_12 (by decide) ?_
    exact r_vret hR dX3_takeSign_24 hw
theorem hdV_X3_ruleNamed : yX3_ruleNamed.cls = RX3 ∧ yX3_ruleNamed.cls ≠ "java/lang/invoke/MethodHandle" ∧ yX3_ruleNamed.cls ≠ "java/lang/invoke/VarHandle" ∧ (parseMethodDescriptor yX3_ruleNamed.desc).map (fun d => d.parameters.length) = some 0 := by decide +kernel
theorem hdV_X3_takeMark : yX3_takeMark.cls = RX3 ∧ yX3_takeMark.cls ≠ "java/lang/invoke/MethodHandle" ∧ yX3_takeMark.cls ≠ "java/lang/invoke/VarHandle" ∧ (parseMethodDescriptor yX3_takeMark.desc).map (fun d => d.parameters.length) = some 0 := by decide +kernel
theorem hdV_X3_takeBlock : yX3_takeBlock.cls = RX3 ∧ yX3_takeBlock.cls ≠ "java/lang/invoke/MethodHandle" ∧ yX3_takeBlock.cls ≠ "java/lang/invoke/VarHandle" ∧ (parseMethodDescriptor yX3_takeBlock.desc).map (fun d => d.parameters.length) = some 0 := by decide +kernel
theorem hdV_X3_takeRule : yX3_takeRule.cls = RX3 ∧ yX3_takeRule.cls ≠ "java/lang/invoke/MethodHandle" ∧ yX3_takeRule.cls ≠ "java/lang/invoke/VarHandle" ∧ (parseMethodDescriptor yX3_takeRule.desc).map (fun d => d.parameters.length) = some 1 := by decide +kernel
theorem hdV_X3_takeSign : yX3_takeSign.cls = RX3 ∧ yX3_takeSign.cls ≠ "java/lang/invoke/MethodHandle" ∧ yX3_takeSign.cls ≠ "java/lang/invoke/VarHandle" ∧ (parseMethodDescriptor yX3_takeSign.desc).map (fun d => d.parameters.length) = some 0 := by decide +kernel
theorem inX3_takeLine_X3 : ∀ w ∈ u_ws RX3 TX3 10, w ∈ wsX3_takeLine := uX3_takeLine__wsX30
set_option maxRecDepth 100000 in
set_option maxHeartbeats 4000000 in
theorem ctX3_takeLine (l : Launch) (g : GG) (M : MM)  (Q : MM → Prop) (hF : full g) (hw : wX3_takeLine Q M ) : MV g l yX3_takeLine wsX3_takeLine (rmOf 7 193) [.ref (gA g 37)] M Q := by
  refine mk_MV (cc := cX3_takeLine) (maxL := 2) (by decide) rfl (Nat.le_of_ble_eq_true rfl) ?_
  intro z Qf hC hR
  show XX z g Qf 2 0 [(0, .ref (gA g 37))] [] M
  have B60 : ∀ (M : MM), wX3_takeLine_60 Q M → XX z g Qf 2 60 [(0, .ref (gA g 37))] [] M := by
    intro M hw
    refine q_aload_n hC dX3_takeLine_60 0 rfl 61 rfl ?_
    refine q_getI (C := RX3) (T := TX3) (N := 10) (ci := 3) hC inX3_takeLine_X3 (obF37 hF) rfl 8 (by decide) (uX3_takeLine__X3_refuse _ (List.mem_of_getElem? (l := owX3_refuse) (i := 1) rfl)) rfl (fun _ => rfl) dX3_takeLine_61 64 rfl ?_
    refine q_if_ne hC 71 dX3_takeLine_64 (by decide) 67 rfl hw (fun hw => ?_) (fun hw => ?_)
    · exact r_vret hR dX3_takeLine_71 hw
    · refine q_aload_n hC dX3_takeLine_67 0 rfl 68 rfl ?_
      refine r_callV hC (go_V (q := (RX3, TX3, 10)) (As := []) (rest := []) hC (ctX3_takeSign (zl z) g M _ hF hw) 0 gX3_takeLine_X3_takeSign rfl ⟨rfl, rfl⟩ hdV_X3_takeSign ⟨Nat.le_of_ble_eq_true rfl, Nat.le_of_ble_eq_true rfl⟩ (obF37 hF) rfl rfl rfl (Nat.le_of_ble_eq_true rfl) dX3_takeLine_68) 71 rfl (fun M11 hw => ?_)
      exact r_vret hR dX3_takeLine_71 hw
  refine q_aload_n hC dX3_takeLine_0 0 rfl 1 rfl ?_
  refine r_callI hC (go_V (q := (RX3, TX3, 10)) (As := []) (rest := []) hC (ctX3_ruleNamed (zl z) g M _ hF hw) 0 gX3_takeLine_X3_ruleNamed rfl ⟨rfl, rfl⟩ hdV_X3_ruleNamed ⟨Nat.le_of_ble_eq_true rfl, Nat.le_of_ble_eq_true rfl⟩ (obF37 hF) rfl rfl rfl (Nat.le_of_ble_eq_true rfl) dX3_takeLine_1) 4 rfl (fun r1 M2 hw => ?_)
  refine q_istore_n (L' := [(1, .int r1), (0, .ref (gA g 37))]) hC dX3_takeLine_4 (by decide) rfl 5 rfl ?_
  refine q_iload_n hC dX3_takeLine_5 0 rfl 6 rfl ?_
  refine q_bipush (v := (-4)) hC dX3_takeLine_6 (by decide) 8 rfl ?_
  refine q_icmp_eq hC 19 dX3_takeLine_8 (by decide) 11 rfl hw (fun hw => ?_) (fun hw => ?_)
  · refine q_aload_n hC dX3_takeLine_19 1 rfl 20 rfl ?_
    refine q_ldcS hC 9 (by decide) rfl dX3_takeLine_20 22 rfl ?_
    refine r_callI hC (go_V (q := (RX3, TX3, 10)) (As := [.ref (gK g 9)]) (rest := []) hC (ctX3_isNamed (zl z) g M2 9 _ hF (by decide) hw) 1 gX3_takeLine_X3_isNamed rfl ⟨rfl, rfl⟩ hdV_X3_isNamed ⟨Nat.le_of_ble_eq_true rfl, Nat.le_of_ble_eq_true rfl⟩ (obF37 hF) rfl rfl rfl (Nat.le_of_ble_eq_true rfl) dX3_takeLine_22) 25 rfl (fun r3 M4 hw => ?_)
    refine q_if_eq hC 35 dX3_takeLine_25 (by decide) 28 rfl hw (fun hw => ?_) (fun hw => ?_)
    · refine q_aload_n hC dX3_takeLine_35 1 rfl 36 rfl ?_
      refine q_ldcS hC 10 (by decide) rfl dX3_takeLine_36 38 rfl ?_
      refine r_callI hC (go_V (q := (RX3, TX3, 10)) (As := [.ref (gK g 10)]) (rest := []) hC (ctX3_isNamed (zl z) g M4 10 _ hF (by decide) hw) 1 gX3_takeLine_X3_isNamed rfl ⟨rfl, rfl⟩ hdV_X3_isNamed ⟨Nat.le_of_ble_eq_true rfl, Nat.le_of_ble_eq_true rfl⟩ (obF37 hF) rfl rfl rfl (Nat.le_of_ble_eq_true rfl) dX3_takeLine_38) 41 rfl (fun r5 M6 hw => ?_)
      refine q_if_eq hC 51 dX3_takeLine_41 (by decide) 44 rfl hw (fun hw => ?_) (fun hw => ?_)
      · refine q_aload_n hC dX3_takeLine_51 1 rfl 52 rfl ?_
        refine q_iconst (v := 2) hC dX3_takeLine_52 rfl 53 rfl ?_
        refine q_aload_n hC dX3_takeLine_53 1 rfl 54 rfl ?_
        refine q_getI (C := RX3) (T := TX3) (N := 10) (ci := 3) hC inX3_takeLine_X3 (obF37 hF) rfl 5 (by decide) (uX3_takeLine__X3_isNamed _ (List.mem_of_getElem? (l := owX3_isNamed) (i := 3) rfl)) rfl (fun _ => rfl) dX3_takeLine_54 57 rfl ?_
        refine r_callV hC (go_V (q := (RX3, TX3, 10)) (As := [.int 2, .int (M6 37 5)]) (rest := []) hC (ctX3_refuse (zl z) g M6 2 (M6 37 5) _ hF hw) 2 gX3_takeLine_X3_refuse rfl ⟨rfl, rfl⟩ hdV_X3_refuse ⟨Nat.le_of_ble_eq_true rfl, Nat.le_of_ble_eq_true rfl⟩ (obF37 hF) rfl rfl rfl (Nat.le_of_ble_eq_true rfl) dX3_takeLine_57) 60 rfl (fun M7 hw => ?_)
        exact XX.sub [1] rfl (B60 M7 hw)
      · refine q_aload_n hC dX3_takeLine_44 1 rfl 45 rfl ?_
        refine r_callV hC (go_V (q := (RX3, TX3, 10)) (As := []) (rest := []) hC (ctX3_takeMark (zl z) g M6 _ hF hw) 0 gX3_takeLine_X3_takeMark rfl ⟨rfl, rfl⟩ hdV_X3_takeMark ⟨Nat.le_of_ble_eq_true rfl, Nat.le_of_ble_eq_true rfl⟩ (obF37 hF) rfl rfl rfl (Nat.le_of_ble_eq_true rfl) dX3_takeLine_45) 48 rfl (fun M8 hw => ?_)
        refine q_goto hC 60 dX3_takeLine_48 (by decide) ?_
        exact XX.sub [1] rfl (B60 M8 hw)
    · refine q_aload_n hC dX3_takeLine_28 1 rfl 29 rfl ?_
      refine r_callV hC (go_V (q := (RX3, TX3, 10)) (As := []) (rest := []) hC (ctX3_takeBlock (zl z) g M4 _ hF hw) 0 gX3_takeLine_X3_takeBlock rfl ⟨rfl, rfl⟩ hdV_X3_takeBlock ⟨Nat.le_of_ble_eq_true rfl, Nat.le_of_ble_eq_true rfl⟩ (obF37 hF) rfl rfl rfl (Nat.le_of_ble_eq_true rfl) dX3_takeLine_29) 32 rfl (fun M9 hw => ?_)
      refine q_goto hC 60 dX3_takeLine_32 (by decide) ?_
      exact XX.sub [1] rfl (B60 M9 hw)
  · refine q_aload_n hC dX3_takeLine_11 1 rfl 12 rfl ?_
    refine q_iload_n hC dX3_takeLine_12 0 rfl 13 rfl ?_
    refine r_callV hC (go_V (q := (RX3, TX3, 10)) (As := [.int r1]) (rest := []) hC (ctX3_takeRule (zl z) g M2 r1 _ hF hw) 1 gX3_takeLine_X3_takeRule rfl ⟨rfl, rfl⟩ hdV_X3_takeRule ⟨Nat.le_of_ble_eq_true rfl, Nat.le_of_ble_eq_true rfl⟩ (obF37 hF) rfl rfl rfl (Nat.le_of_ble_eq_true rfl) dX3_takeLine_13) 16 rfl (fun M10 hw => ?_)
    refine q_goto hC 60 dX3_takeLine_16 (by decide) ?_
    exact XX.sub [1] rfl (B60 M10 hw)
theorem hdV_X2_reset : yX2_reset.cls = RX2 ∧ yX2_reset.cls ≠ "java/lang/invoke/MethodHandle" ∧ yX2_reset.cls ≠ "java/lang/invoke/VarHandle" ∧ (parseMethodDescriptor yX2_reset.desc).map (fun d => d.parameters.length) = some 0 := by decide +kernel
theorem hdV_X3_takeLine : yX3_takeLine.cls = RX3 ∧ yX3_takeLine.cls ≠ "java/lang/invoke/MethodHandle" ∧ yX3_takeLine.cls ≠ "java/lang/invoke/VarHandle" ∧ (parseMethodDescriptor yX3_takeLine.desc).map (fun d => d.parameters.length) = some 0 := by decide +kernel
theorem hdV_X2_layOutBlocks : yX2_layOutBlocks.cls = RX2 ∧ yX2_layOutBlocks.cls ≠ "java/lang/invoke/MethodHandle" ∧ yX2_layOutBlocks.cls ≠ "java/lang/invoke/VarHandle" ∧ (parseMethodDescriptor yX2_layOutBlocks.desc).map (fun d => d.parameters.length) = some 0 := by decide +kernel
theorem inX3_takeAll_X2 : ∀ w ∈ u_ws RX2 TX2 14, w ∈ wsX3_takeAll := uX3_takeAll__wsX20
theorem inX3_takeAll_X3 : ∀ w ∈ u_ws RX3 TX3 10, w ∈ wsX3_takeAll := uX3_takeAll__wsX30
set_option maxRecDepth 100000 in
set_option maxHeartbeats 4000000 in
theorem ctX3_takeAll (l : Launch) (g : GG) (M : MM)  (Q : Int32 → MM → Prop) (hF : full g) (hw : wX3_takeAll Q M ) : MI g l yX3_takeAll wsX3_takeAll (rmOf 8 214) [.ref (gA g 37)] M Q := by
  refine mk_MI (cc := cX3_takeAll) (maxL := 2) (by decide) rfl (Nat.le_of_ble_eq_true rfl) ?_
  intro z Qf hC hR
  show XX z g Qf 2 0 [(0, .ref (gA g 37))] [] M
  have B64 : ∀ (M : MM) (v1 : Int32), wX3_takeAll_64 Q M v1 → XX z g Qf 2 64 [(0, .ref (gA g 37)), (1, .int v1)] [] M := by
    intro M v1 hw
    refine q_aload_n hC dX3_takeAll_64 0 rfl 65 rfl ?_
    refine q_getR (C := RX3) (T := TX3) (N := 10) (ci := 3) hC inX3_takeAll_X3 (obF37 hF) rfl 1 (by decide) (uX3_takeAll__X3_takeRule _ (List.mem_of_getElem? (l := owX3_takeRule) (i := 2) rfl)) rfl 28 (fun _ => rfl) dX3_takeAll_65 68 rfl ?_
    refine r_callV hC (go_V (q := (RX2, TX2, 14)) (As := []) (rest := []) hC (ctX2_layOutBlocks (zl z) g M 28 _ (hF.tp (b := 28) (Or.inr (Or.inr (Or.inr rfl)))) hw) 0 gX3_takeAll_X2_layOutBlocks rfl ⟨rfl, rfl⟩ hdV_X2_layOutBlocks ⟨Nat.le_of_ble_eq_true rfl, Nat.le_of_ble_eq_true rfl⟩ (hF.tp (b := 28) (Or.inr (Or.inr (Or.inr rfl)))).ob rfl rfl rfl (Nat.le_of_ble_eq_true rfl) dX3_takeAll_68) 71 rfl (fun M8 hw => ?_)
    refine q_aload_n hC dX3_takeAll_71 0 rfl 72 rfl ?_
    refine q_getR (C := RX3) (T := TX3) (N := 10) (ci := 3) hC inX3_takeAll_X3 (obF37 hF) rfl 1 (by decide) (uX3_takeAll__X3_takeRule _ (List.mem_of_getElem? (l := owX3_takeRule) (i := 2) rfl)) rfl 28 (fun _ => rfl) dX3_takeAll_72 75 rfl ?_
    refine q_iconst (v := 0) hC dX3_takeAll_75 rfl 76 rfl ?_
    refine q_putI (C := RX2) (T := TX2) (N := 14) (ci := 2) hC inX3_takeAll_X2 tyX2 tyX2_ok nmX2 (hF.tp (b := 28) (Or.inr (Or.inr (Or.inr rfl)))).ob rfl 11 (by decide) (uX3_takeAll__X3_takeBlock _ (List.mem_of_getElem? (l := owX3_takeBlock) (i := 1) rfl)) rfl rfl rfl (fun _ => Nat.le_of_ble_eq_true rfl) (fun _ => rfl) dX3_takeAll_76 79 rfl (fun M9 eM9 => ?_)
    have hw := hw M9 eM9
    refine q_aload_n hC dX3_takeAll_79 0 rfl 80 rfl ?_
    refine q_getR (C := RX3) (T := TX3) (N := 10) (ci := 3) hC inX3_takeAll_X3 (obF37 hF) rfl 1 (by decide) (uX3_takeAll__X3_takeRule _ (List.mem_of_getElem? (l := owX3_takeRule) (i := 2) rfl)) rfl 28 (fun _ => rfl) dX3_takeAll_80 83 rfl ?_
    refine q_aload_n hC dX3_takeAll_83 0 rfl 84 rfl ?_
    refine q_getR (C := RX3) (T := TX3) (N := 10) (ci := 3) hC inX3_takeAll_X3 (obF37 hF) rfl 1 (by decide) (uX3_takeAll__X3_takeRule _ (List.mem_of_getElem? (l := owX3_takeRule) (i := 2) rfl)) rfl 28 (fun _ => rfl) dX3_takeAll_84 87 rfl ?_
    refine q_getI (C := RX2) (T := TX2) (N := 14) (ci := 2) hC inX3_takeAll_X2 (hF.tp (b := 28) (Or.inr (Or.inr (Or.inr rfl)))).ob rfl 8 (by decide) (uX3_takeAll__X3_hasRoomForBlock _ (List.mem_of_getElem? (l := owX3_hasRoomForBlock) (i := 2) rfl)) rfl (fun _ => rfl) dX3_takeAll_87 90 rfl ?_
    refine q_iconst (v := 1) hC dX3_takeAll_90 rfl 91 rfl ?_
    refine q_isub hC dX3_takeAll_91 92 rfl ?_
    refine r_callI hC (go_V (q := (RX2, TX2, 14)) (As := [.int ((M9 28 8) - (1 : Int32))]) (rest := []) hC (ctX2_endOf (zl z) g M9 28 ((M9 28 8) - (1 : Int32)) _ (hF.tp (b := 28) (Or.inr (Or.inr (Or.inr rfl)))) hw) 1 gX3_takeAll_X2_endOf rfl ⟨rfl, rfl⟩ hdV_X2_endOf ⟨Nat.le_of_ble_eq_true rfl, Nat.le_of_ble_eq_true rfl⟩ (hF.tp (b := 28) (Or.inr (Or.inr (Or.inr rfl)))).ob rfl rfl rfl (Nat.le_of_ble_eq_true rfl) dX3_takeAll_92) 95 rfl (fun r10 M11 hw => ?_)
    refine q_aload_n hC dX3_takeAll_95 0 rfl 96 rfl ?_
    refine q_getR (C := RX3) (T := TX3) (N := 10) (ci := 3) hC inX3_takeAll_X3 (obF37 hF) rfl 1 (by decide) (uX3_takeAll__X3_takeRule _ (List.mem_of_getElem? (l := owX3_takeRule) (i := 2) rfl)) rfl 28 (fun _ => rfl) dX3_takeAll_96 99 rfl ?_
    refine q_iconst (v := 0) hC dX3_takeAll_99 rfl 100 rfl ?_
    refine r_callI hC (go_V (q := (RX2, TX2, 14)) (As := [.int 0]) (rest := [.int r10]) hC (ctX2_ruled (zl z) g M11 28 0 _ (hF.tp (b := 28) (Or.inr (Or.inr (Or.inr rfl)))) hw) 1 gX3_takeAll_X2_ruled rfl ⟨rfl, rfl⟩ hdV_X2_ruled ⟨Nat.le_of_ble_eq_true rfl, Nat.le_of_ble_eq_true rfl⟩ (hF.tp (b := 28) (Or.inr (Or.inr (Or.inr rfl)))).ob rfl rfl rfl (Nat.le_of_ble_eq_true rfl) dX3_takeAll_100) 103 rfl (fun r12 M13 hw => ?_)
    refine q_icmp_le hC 116 dX3_takeAll_103 (by decide) 106 rfl hw (fun hw => ?_) (fun hw => ?_)
    · refine q_iload_n hC dX3_takeAll_116 1 rfl 117 rfl ?_
      exact r_iret hR dX3_takeAll_117 hw
    · refine q_aload_n hC dX3_takeAll_106 0 rfl 107 rfl ?_
      refine q_bipush (v := 6) hC dX3_takeAll_107 (by decide) 109 rfl ?_
      refine q_aload_n hC dX3_takeAll_109 0 rfl 110 rfl ?_
      refine q_getI (C := RX3) (T := TX3) (N := 10) (ci := 3) hC inX3_takeAll_X3 (obF37 hF) rfl 2 (by decide) (uX3_takeAll__X3_letterAt _ (List.mem_of_getElem? (l := owX3_letterAt) (i := 1) rfl)) rfl (fun _ => rfl) dX3_takeAll_110 113 rfl ?_
      refine r_callV hC (go_V (q := (RX3, TX3, 10)) (As := [.int 6, .int (M13 37 2)]) (rest := []) hC (ctX3_refuse (zl z) g M13 6 (M13 37 2) _ hF hw) 2 gX3_takeAll_X3_refuse rfl ⟨rfl, rfl⟩ hdV_X3_refuse ⟨Nat.le_of_ble_eq_true rfl, Nat.le_of_ble_eq_true rfl⟩ (obF37 hF) rfl rfl rfl (Nat.le_of_ble_eq_true rfl) dX3_takeAll_113) 116 rfl (fun M14 hw => ?_)
      refine q_iload_n hC dX3_takeAll_116 1 rfl 117 rfl ?_
      exact r_iret hR dX3_takeAll_117 hw
  have B33 : ∀ (n : Nat) (M : MM) (v1 : Int32) , wX3_takeAll_33 Q n M v1 → XX z g Qf 2 33 [(0, .ref (gA g 37)), (1, .int v1)] [] M := by
    intro n
    induction n with
    | zero =>
      intro M v1 hw
      exact hw.elim
    | succ n ih =>
      intro M v1 hw
      refine q_aload_n hC dX3_takeAll_33 0 rfl 34 rfl ?_
      refine q_getI (C := RX3) (T := TX3) (N := 10) (ci := 3) hC inX3_takeAll_X3 (obF37 hF) rfl 4 (by decide) (uX3_takeAll__X3_readNumber _ (List.mem_of_getElem? (l := owX3_readNumber) (i := 3) rfl)) rfl (fun _ => rfl) dX3_takeAll_34 37 rfl ?_
      refine q_if_eq hC 64 dX3_takeAll_37 (by decide) 40 rfl hw (fun hw => ?_) (fun hw => ?_)
      · exact XX.sub [0, 1] rfl (B64 M v1 hw)
      · refine q_aload_n hC dX3_takeAll_40 0 rfl 41 rfl ?_
        refine q_getI (C := RX3) (T := TX3) (N := 10) (ci := 3) hC inX3_takeAll_X3 (obF37 hF) rfl 8 (by decide) (uX3_takeAll__X3_refuse _ (List.mem_of_getElem? (l := owX3_refuse) (i := 1) rfl)) rfl (fun _ => rfl) dX3_takeAll_41 44 rfl ?_
        refine q_if_ne hC 64 dX3_takeAll_44 (by decide) 47 rfl hw (fun hw => ?_) (fun hw => ?_)
        · exact XX.sub [0, 1] rfl (B64 M v1 hw)
        · refine q_iload_n hC dX3_takeAll_47 1 rfl 48 rfl ?_
          refine q_sipush (v := 400) hC dX3_takeAll_48 (by decide) 51 rfl ?_
          refine q_icmp_ge hC 64 dX3_takeAll_51 (by decide) 54 rfl hw (fun hw => ?_) (fun hw => ?_)
          · exact XX.sub [0, 1] rfl (B64 M v1 hw)
          · refine q_aload_n hC dX3_takeAll_54 0 rfl 55 rfl ?_
            refine r_callV hC (go_V (q := (RX3, TX3, 10)) (As := []) (rest := []) hC (ctX3_takeLine (zl z) g M _ hF hw) 0 gX3_takeAll_X3_takeLine rfl ⟨rfl, rfl⟩ hdV_X3_takeLine ⟨Nat.le_of_ble_eq_true rfl, Nat.le_of_ble_eq_true rfl⟩ (obF37 hF) rfl rfl rfl (Nat.le_of_ble_eq_true rfl) dX3_takeAll_55) 58 rfl (fun M7 hw => ?_)
            refine q_iinc (v := v1 + 1) (L' := [(1, .int (v1 + 1)), (0, .ref (gA g 37))]) hC dX3_takeAll_58 1 rfl rfl (by decide) rfl 61 rfl ?_
            refine q_goto hC 33 dX3_takeAll_61 (by decide) ?_
            exact XX.sub [1, 0] rfl (ih M7 (v1 + 1) hw)
  refine q_aload_n hC dX3_takeAll_0 0 rfl 1 rfl ?_
  refine q_getR (C := RX3) (T := TX3) (N := 10) (ci := 3) hC inX3_takeAll_X3 (obF37 hF) rfl 1 (by decide) (uX3_takeAll__X3_takeRule _ (List.mem_of_getElem? (l := owX3_takeRule) (i := 2) rfl)) rfl 28 (fun _ => rfl) dX3_takeAll_1 4 rfl ?_
  refine r_callV hC (go_V (q := (RX2, TX2, 14)) (As := []) (rest := []) hC (ctX2_reset (zl z) g M 28 _ (hF.tp (b := 28) (Or.inr (Or.inr (Or.inr rfl)))) hw) 0 gX3_takeAll_X2_reset rfl ⟨rfl, rfl⟩ hdV_X2_reset ⟨Nat.le_of_ble_eq_true rfl, Nat.le_of_ble_eq_true rfl⟩ (hF.tp (b := 28) (Or.inr (Or.inr (Or.inr rfl)))).ob rfl rfl rfl (Nat.le_of_ble_eq_true rfl) dX3_takeAll_4) 7 rfl (fun M1 hw => ?_)
  refine q_aload_n hC dX3_takeAll_7 0 rfl 8 rfl ?_
  refine q_iconst (v := 0) hC dX3_takeAll_8 rfl 9 rfl ?_
  refine q_putI (C := RX3) (T := TX3) (N := 10) (ci := 3) hC inX3_takeAll_X3 tyX3 tyX3_ok nmX3 (obF37 hF) rfl 3 (by decide) (uX3_takeAll__X3_readNumber _ (List.mem_of_getElem? (l := owX3_readNumber) (i := 1) rfl)) rfl rfl rfl (fun _ => Nat.le_of_ble_eq_true rfl) (fun _ => rfl) dX3_takeAll_9 12 rfl (fun M2 eM2 => ?_)
  have hw := hw M2 eM2
  refine q_aload_n hC dX3_takeAll_12 0 rfl 13 rfl ?_
  refine q_iconst (v := 0) hC dX3_takeAll_13 rfl 14 rfl ?_
  refine q_putI (C := RX3) (T := TX3) (N := 10) (ci := 3) hC inX3_takeAll_X3 tyX3 tyX3_ok nmX3 (obF37 hF) rfl 7 (by decide) (uX3_takeAll__X3_takeRule _ (List.mem_of_getElem? (l := owX3_takeRule) (i := 1) rfl)) rfl rfl rfl (fun _ => Nat.le_of_ble_eq_true rfl) (fun _ => rfl) dX3_takeAll_14 17 rfl (fun M3 eM3 => ?_)
  have hw := hw M3 eM3
  refine q_aload_n hC dX3_takeAll_17 0 rfl 18 rfl ?_
  refine q_iconst (v := 0) hC dX3_takeAll_18 rfl 19 rfl ?_
  refine q_putI (C := RX3) (T := TX3) (N := 10) (ci := 3) hC inX3_takeAll_X3 tyX3 tyX3_ok nmX3 (obF37 hF) rfl 8 (by decide) (uX3_takeAll__X3_refuse _ (List.mem_of_getElem? (l := owX3_refuse) (i := 1) rfl)) rfl rfl rfl (fun _ => Nat.le_of_ble_eq_true rfl) (fun _ => rfl) dX3_takeAll_19 22 rfl (fun M4 eM4 => ?_)
  have hw := hw M4 eM4
  refine q_aload_n hC dX3_takeAll_22 0 rfl 23 rfl ?_
  refine q_iconst (v := 0) hC dX3_takeAll_23 rfl 24 rfl ?_
  refine q_putI (C := RX3) (T := TX3) (N := 10) (ci := 3) hC inX3_takeAll_X3 tyX3 tyX3_ok nmX3 (obF37 hF) rfl 9 (by decide) (uX3_takeAll__X3_refuse _ (List.mem_of_getElem? (l := owX3_refuse) (i := 2) rfl)) rfl rfl rfl (fun _ => Nat.le_of_ble_eq_true rfl) (fun _ => rfl) dX3_takeAll_24 27 rfl (fun M5 eM5 => ?_)
  have hw := hw M5 eM5
  refine q_iconst (v := 0) hC dX3_takeAll_27 rfl 28 rfl ?_
  refine q_istore_n (L' := [(1, .int 0), (0, .ref (gA g 37))]) hC dX3_takeAll_28 (by decide) rfl 29 rfl ?_
  refine q_aload_n hC dX3_takeAll_29 1 rfl 30 rfl ?_
  refine r_callV hC (go_V (q := (RX3, TX3, 10)) (As := []) (rest := []) hC (ctX3_readToken (zl z) g M5 _ hF hw) 0 gX3_takeAll_X3_readToken rfl ⟨rfl, rfl⟩ hdV_X3_readToken ⟨Nat.le_of_ble_eq_true rfl, Nat.le_of_ble_eq_true rfl⟩ (obF37 hF) rfl rfl rfl (Nat.le_of_ble_eq_true rfl) dX3_takeAll_30) 33 rfl (fun M6 hw => ?_)
  obtain ⟨n0, hw⟩ := hw
  exact XX.sub [1, 0] rfl (B33 n0 M6 0 hw)
theorem hdV_X3_addLetter : yX3_addLetter.cls = RX3 ∧ yX3_addLetter.cls ≠ "java/lang/invoke/MethodHandle" ∧ yX3_addLetter.cls ≠ "java/lang/invoke/VarHandle" ∧ (parseMethodDescriptor yX3_addLetter.desc).map (fun d => d.parameters.length) = some 1 := by decide +kernel
theorem inX4_feed_X3 : ∀ w ∈ u_ws RX3 TX3 10, w ∈ wsX4_feed := uX4_feed__wsX30
theorem inX4_feed_X4 : ∀ w ∈ u_ws RX4 TX4 12, w ∈ wsX4_feed := uX4_feed__wsX40
set_option maxRecDepth 100000 in
set_option maxHeartbeats 4000000 in
theorem ctX4_feed (l : Launch) (g : GG) (M : MM) (v1 : Int64) (Q : Int32 → MM → Prop) (hF : full g) (hw : wX4_feed Q M v1) : MI g l yX4_feed wsX4_feed (rmOf 1 21) [.ref (gA g 0), .long v1] M Q := by
  refine mk_MI (cc := cX4_feed) (maxL := 4) (by decide) rfl (Nat.le_of_ble_eq_true rfl) ?_
  intro z Qf hC hR
  show XX z g Qf 4 0 [(0, .ref (gA g 0)), (1, .long v1)] [] M
  have B22 : ∀ (n : Nat) (M : MM) (v3 : Int32) , wX4_feed_22 Q v1 n M v3 → XX z g Qf 4 22 [(0, .ref (gA g 0)), (1, .long v1), (3, .int v3)] [] M := by
    intro n
    induction n with
    | zero =>
      intro M v3 hw
      exact hw.elim
    | succ n ih =>
      intro M v3 hw
      refine q_iload_n hC dX4_feed_22 2 rfl 23 rfl ?_
      refine q_if_lt hC 44 dX4_feed_23 (by decide) 26 rfl hw (fun hw => ?_) (fun hw => ?_)
      · refine q_aload_n hC dX4_feed_44 0 rfl 45 rfl ?_
        refine q_getR (C := RX4) (T := TX4) (N := 12) (ci := 4) hC inX4_feed_X4 (obF0 hF) rfl 1 (by decide) (uX4_feed__o _ (List.mem_of_getElem? (l := owX4_feed) (i := 1) rfl)) rfl 37 (fun _ => rfl) dX4_feed_45 48 rfl ?_
        refine q_getI (C := RX3) (T := TX3) (N := 10) (ci := 3) hC inX4_feed_X3 (obF37 hF) rfl 2 (by decide) (uX4_feed__o _ (List.mem_of_getElem? (l := owX4_feed) (i := 2) rfl)) rfl (fun _ => rfl) dX4_feed_48 51 rfl ?_
        exact r_iret hR dX4_feed_51 hw
      · refine q_aload_n hC dX4_feed_26 0 rfl 27 rfl ?_
        refine q_getR (C := RX4) (T := TX4) (N := 12) (ci := 4) hC inX4_feed_X4 (obF0 hF) rfl 1 (by decide) (uX4_feed__o _ (List.mem_of_getElem? (l := owX4_feed) (i := 1) rfl)) rfl 37 (fun _ => rfl) dX4_feed_27 30 rfl ?_
        refine q_lload_n hC dX4_feed_30 1 rfl 31 rfl ?_
        refine q_iload_n hC dX4_feed_31 2 rfl 32 rfl ?_
        refine q_lushr hC dX4_feed_32 33 rfl ?_
        refine q_l2i hC dX4_feed_33 34 rfl ?_
        refine q_i2b hC dX4_feed_34 35 rfl ?_
        refine r_callV hC (go_V (q := (RX3, TX3, 10)) (As := [.int ((((v1.toUInt64 >>> (v3.toInt64.toUInt64 &&& Int64.toUInt64 63)).toInt64).toInt32).toInt8.toInt32)]) (rest := []) hC (ctX3_addLetter (zl z) g M ((((v1.toUInt64 >>> (v3.toInt64.toUInt64 &&& Int64.toUInt64 63)).toInt64).toInt32).toInt8.toInt32) _ hF hw) 1 gX4_feed_X3_addLetter rfl ⟨rfl, rfl⟩ hdV_X3_addLetter ⟨Nat.le_of_ble_eq_true rfl, Nat.le_of_ble_eq_true rfl⟩ (obF37 hF) rfl rfl rfl (Nat.le_of_ble_eq_true rfl) dX4_feed_35) 38 rfl (fun M1 hw => ?_)
        refine q_iinc (v := v3 + (-8)) (L' := [(3, .int (v3 + (-8))), (0, .ref (gA g 0)), (1, .long v1)]) hC dX4_feed_38 2 rfl rfl (by decide) rfl 41 rfl ?_
        refine q_goto hC 22 dX4_feed_41 (by decide) ?_
        exact XX.sub [1, 2, 0] rfl (ih M1 (v3 + (-8)) hw)
  refine q_aload_n hC dX4_feed_0 0 rfl 1 rfl ?_
  refine q_getR (C := RX4) (T := TX4) (N := 12) (ci := 4) hC inX4_feed_X4 (obF0 hF) rfl 1 (by decide) (uX4_feed__o _ (List.mem_of_getElem? (l := owX4_feed) (i := 1) rfl)) rfl 37 (fun _ => rfl) dX4_feed_1 4 rfl ?_
  refine q_getI (C := RX3) (T := TX3) (N := 10) (ci := 3) hC inX4_feed_X3 (obF37 hF) rfl 2 (by decide) (uX4_feed__o _ (List.mem_of_getElem? (l := owX4_feed) (i := 2) rfl)) rfl (fun _ => rfl) dX4_feed_4 7 rfl ?_
  refine q_bipush (v := 8) hC dX4_feed_7 (by decide) 9 rfl ?_
  refine q_iadd hC dX4_feed_9 10 rfl ?_
  refine q_sipush (v := 400) hC dX4_feed_10 (by decide) 13 rfl ?_
  refine q_icmp_le hC 19 dX4_feed_13 (by decide) 16 rfl hw (fun hw => ?_) (fun hw => ?_)
  · refine q_bipush (v := 56) hC dX4_feed_19 (by decide) 21 rfl ?_
    refine q_istore_n (L' := [(3, .int 56), (0, .ref (gA g 0)), (1, .long v1)]) hC dX4_feed_21 (by decide) rfl 22 rfl ?_
    obtain ⟨n0, hw⟩ := hw
    exact XX.sub [1, 2, 0] rfl (B22 n0 M 56 hw)
  · refine q_bipush (v := (-3)) hC dX4_feed_16 (by decide) 18 rfl ?_
    exact r_iret hR dX4_feed_18 hw
theorem inX4_end_X3 : ∀ w ∈ u_ws RX3 TX3 10, w ∈ wsX4_end := uX4_end__wsX30
theorem inX4_end_X4 : ∀ w ∈ u_ws RX4 TX4 12, w ∈ wsX4_end := uX4_end__wsX40
set_option maxRecDepth 100000 in
set_option maxHeartbeats 4000000 in
theorem ctX4_end (l : Launch) (g : GG) (M : MM) (v1 : Int32) (Q : Int32 → MM → Prop) (hF : full g) (hw : wX4_end Q M v1) : MI g l yX4_end wsX4_end (rmOf 1 22) [.ref (gA g 0), .int v1] M Q := by
  refine mk_MI (cc := cX4_end) (maxL := 3) (by decide) rfl (Nat.le_of_ble_eq_true rfl) ?_
  intro z Qf hC hR
  show XX z g Qf 3 0 [(0, .ref (gA g 0)), (1, .int v1)] [] M
  refine q_aload_n hC dX4_end_0 0 rfl 1 rfl ?_
  refine q_getR (C := RX4) (T := TX4) (N := 12) (ci := 4) hC inX4_end_X4 (obF0 hF) rfl 1 (by decide) (uX4_end__o _ (List.mem_of_getElem? (l := owX4_end) (i := 1) rfl)) rfl 37 (fun _ => rfl) dX4_end_1 4 rfl ?_
  refine q_getI (C := RX3) (T := TX3) (N := 10) (ci := 3) hC inX4_end_X3 (obF37 hF) rfl 2 (by decide) (uX4_end__o _ (List.mem_of_getElem? (l := owX4_end) (i := 2) rfl)) rfl (fun _ => rfl) dX4_end_4 7 rfl ?_
  refine q_istore_n (L' := [(2, .int (M 37 2)), (0, .ref (gA g 0)), (1, .int v1)]) hC dX4_end_7 (by decide) rfl 8 rfl ?_
  refine q_iload_n hC dX4_end_8 2 rfl 9 rfl ?_
  refine q_iconst (v := 0) hC dX4_end_9 rfl 10 rfl ?_
  refine q_iload_n hC dX4_end_10 0 rfl 11 rfl ?_
  refine r_callI hC (go_T (As := [.int v1, .int 0, .int (M 37 2)]) (rest := []) hC (ctX4_isBetween (zl z) g M v1 0 (M 37 2) _ hw) 3 gX4_end_X4_isBetween rfl ⟨rfl, rfl⟩ hdT_X4_isBetween ⟨Nat.le_of_ble_eq_true rfl, Nat.le_of_ble_eq_true rfl⟩ rfl rfl (Nat.le_of_ble_eq_true rfl) dX4_end_11) 14 rfl (fun r1 M2 hw => ?_)
  refine q_if_ne hC 19 dX4_end_14 (by decide) 17 rfl hw (fun hw => ?_) (fun hw => ?_)
  · refine q_aload_n hC dX4_end_19 1 rfl 20 rfl ?_
    refine q_getR (C := RX4) (T := TX4) (N := 12) (ci := 4) hC inX4_end_X4 (obF0 hF) rfl 1 (by decide) (uX4_end__o _ (List.mem_of_getElem? (l := owX4_end) (i := 1) rfl)) rfl 37 (fun _ => rfl) dX4_end_20 23 rfl ?_
    refine q_iload_n hC dX4_end_23 2 rfl 24 rfl ?_
    refine q_putI (C := RX3) (T := TX3) (N := 10) (ci := 3) hC inX4_end_X3 tyX3 tyX3_ok nmX3 (obF37 hF) rfl 2 (by decide) (uX4_end__o _ (List.mem_of_getElem? (l := owX4_end) (i := 2) rfl)) rfl rfl rfl (fun _ => Nat.le_of_ble_eq_true rfl) (fun _ => rfl) dX4_end_24 27 rfl (fun M3 eM3 => ?_)
    have hw := hw M3 eM3
    refine q_iload_n hC dX4_end_27 0 rfl 28 rfl ?_
    exact r_iret hR dX4_end_28 hw
  · refine q_iconst (v := (-1)) hC dX4_end_17 rfl 18 rfl ?_
    exact r_iret hR dX4_end_18 hw
theorem hdV_X3_takeAll : yX3_takeAll.cls = RX3 ∧ yX3_takeAll.cls ≠ "java/lang/invoke/MethodHandle" ∧ yX3_takeAll.cls ≠ "java/lang/invoke/VarHandle" ∧ (parseMethodDescriptor yX3_takeAll.desc).map (fun d => d.parameters.length) = some 0 := by decide +kernel
theorem hdV_X2_becomes : yX2_becomes.cls = RX2 ∧ yX2_becomes.cls ≠ "java/lang/invoke/MethodHandle" ∧ yX2_becomes.cls ≠ "java/lang/invoke/VarHandle" ∧ (parseMethodDescriptor yX2_becomes.desc).map (fun d => d.parameters.length) = some 1 := by decide +kernel
theorem inX4_text_X3 : ∀ w ∈ u_ws RX3 TX3 10, w ∈ wsX4_text := uX4_text__wsX30
theorem inX4_text_X4 : ∀ w ∈ u_ws RX4 TX4 12, w ∈ wsX4_text := uX4_text__wsX40
set_option maxRecDepth 100000 in
set_option maxHeartbeats 4000000 in
theorem ctX4_text (l : Launch) (g : GG) (M : MM)  (Q : Int32 → MM → Prop) (hF : full g) (hw : wX4_text Q M ) : MI g l yX4_text wsX4_text (rmOf 9 235) [.ref (gA g 0)] M Q := by
  refine mk_MI (cc := cX4_text) (maxL := 2) (by decide) rfl (Nat.le_of_ble_eq_true rfl) ?_
  intro z Qf hC hR
  show XX z g Qf 2 0 [(0, .ref (gA g 0))] [] M
  refine q_aload_n hC dX4_text_0 0 rfl 1 rfl ?_
  refine q_getR (C := RX4) (T := TX4) (N := 12) (ci := 4) hC inX4_text_X4 (obF0 hF) rfl 1 (by decide) (uX4_text__o _ (List.mem_of_getElem? (l := owX4_text) (i := 1) rfl)) rfl 37 (fun _ => rfl) dX4_text_1 4 rfl ?_
  refine r_callI hC (go_V (q := (RX3, TX3, 10)) (As := []) (rest := []) hC (ctX3_takeAll (zl z) g M _ hF hw) 0 gX4_text_X3_takeAll rfl ⟨rfl, rfl⟩ hdV_X3_takeAll ⟨Nat.le_of_ble_eq_true rfl, Nat.le_of_ble_eq_true rfl⟩ (obF37 hF) rfl rfl rfl (Nat.le_of_ble_eq_true rfl) dX4_text_4) 7 rfl (fun r1 M2 hw => ?_)
  refine q_istore_n (L' := [(1, .int r1), (0, .ref (gA g 0))]) hC dX4_text_7 (by decide) rfl 8 rfl ?_
  refine q_aload_n hC dX4_text_8 1 rfl 9 rfl ?_
  refine q_getR (C := RX4) (T := TX4) (N := 12) (ci := 4) hC inX4_text_X4 (obF0 hF) rfl 1 (by decide) (uX4_text__o _ (List.mem_of_getElem? (l := owX4_text) (i := 1) rfl)) rfl 37 (fun _ => rfl) dX4_text_9 12 rfl ?_
  refine q_iconst (v := 0) hC dX4_text_12 rfl 13 rfl ?_
  refine q_putI (C := RX3) (T := TX3) (N := 10) (ci := 3) hC inX4_text_X3 tyX3 tyX3_ok nmX3 (obF37 hF) rfl 2 (by decide) (uX4_text__o _ (List.mem_of_getElem? (l := owX4_text) (i := 2) rfl)) rfl rfl rfl (fun _ => Nat.le_of_ble_eq_true rfl) (fun _ => rfl) dX4_text_13 16 rfl (fun M3 eM3 => ?_)
  have hw := hw M3 eM3
  refine q_aload_n hC dX4_text_16 1 rfl 17 rfl ?_
  refine q_aload_n hC dX4_text_17 1 rfl 18 rfl ?_
  refine q_getR (C := RX4) (T := TX4) (N := 12) (ci := 4) hC inX4_text_X4 (obF0 hF) rfl 1 (by decide) (uX4_text__o _ (List.mem_of_getElem? (l := owX4_text) (i := 1) rfl)) rfl 37 (fun _ => rfl) dX4_text_18 21 rfl ?_
  refine q_getI (C := RX3) (T := TX3) (N := 10) (ci := 3) hC inX4_text_X3 (obF37 hF) rfl 8 (by decide) (uX4_text__o _ (List.mem_of_getElem? (l := owX4_text) (i := 3) rfl)) rfl (fun _ => rfl) dX4_text_21 24 rfl ?_
  refine q_putI (C := RX4) (T := TX4) (N := 12) (ci := 4) hC inX4_text_X4 tyX4 tyX4_ok nmX4 (obF0 hF) rfl 9 (by decide) (uX4_text__o _ (List.mem_of_getElem? (l := owX4_text) (i := 4) rfl)) rfl rfl rfl (fun _ => Nat.le_of_ble_eq_true rfl) (fun _ => rfl) dX4_text_24 27 rfl (fun M4 eM4 => ?_)
  have hw := hw M4 eM4
  refine q_aload_n hC dX4_text_27 1 rfl 28 rfl ?_
  refine q_getI (C := RX4) (T := TX4) (N := 12) (ci := 4) hC inX4_text_X4 (obF0 hF) rfl 9 (by decide) (uX4_text__o _ (List.mem_of_getElem? (l := owX4_text) (i := 4) rfl)) rfl (fun _ => rfl) dX4_text_28 31 rfl ?_
  refine q_if_eq hC 45 dX4_text_31 (by decide) 34 rfl hw (fun hw => ?_) (fun hw => ?_)
  · refine q_aload_n hC dX4_text_45 1 rfl 46 rfl ?_
    refine q_getR (C := RX4) (T := TX4) (N := 12) (ci := 4) hC inX4_text_X4 (obF0 hF) rfl 0 (by decide) (uX4_text__o _ (List.mem_of_getElem? (l := owX4_text) (i := 6) rfl)) rfl 1 (fun _ => rfl) dX4_text_46 49 rfl ?_
    refine q_aload_n hC dX4_text_49 1 rfl 50 rfl ?_
    refine q_getR (C := RX4) (T := TX4) (N := 12) (ci := 4) hC inX4_text_X4 (obF0 hF) rfl 1 (by decide) (uX4_text__o _ (List.mem_of_getElem? (l := owX4_text) (i := 1) rfl)) rfl 37 (fun _ => rfl) dX4_text_50 53 rfl ?_
    refine q_getR (C := RX3) (T := TX3) (N := 10) (ci := 3) hC inX4_text_X3 (obF37 hF) rfl 1 (by decide) (uX4_text__o _ (List.mem_of_getElem? (l := owX4_text) (i := 7) rfl)) rfl 28 (fun _ => rfl) dX4_text_53 56 rfl ?_
    refine r_callV hC (go_V (q := (RX2, TX2, 14)) (As := [.ref (gA g 28)]) (rest := []) hC (ctX2_becomes (zl z) g M4 1 28 _ (hF.tp (b := 1) (Or.inl rfl)) (hF.tp (b := 28) (Or.inr (Or.inr (Or.inr rfl)))) hw) 1 gX4_text_X2_becomes rfl ⟨rfl, rfl⟩ hdV_X2_becomes ⟨Nat.le_of_ble_eq_true rfl, Nat.le_of_ble_eq_true rfl⟩ (hF.tp (b := 1) (Or.inl rfl)).ob rfl rfl rfl (Nat.le_of_ble_eq_true rfl) dX4_text_56) 59 rfl (fun M5 hw => ?_)
    refine q_aload_n hC dX4_text_59 1 rfl 60 rfl ?_
    refine q_iconst (v := 0) hC dX4_text_60 rfl 61 rfl ?_
    refine q_putI (C := RX4) (T := TX4) (N := 12) (ci := 4) hC inX4_text_X4 tyX4 tyX4_ok nmX4 (obF0 hF) rfl 11 (by decide) (uX4_text__o _ (List.mem_of_getElem? (l := owX4_text) (i := 8) rfl)) rfl rfl rfl (fun _ => Nat.le_of_ble_eq_true rfl) (fun _ => rfl) dX4_text_61 64 rfl (fun M6 eM6 => ?_)
    have hw := hw M6 eM6
    refine q_iload_n hC dX4_text_64 0 rfl 65 rfl ?_
    exact r_iret hR dX4_text_65 hw
  · refine q_bipush (v := (-10)) hC dX4_text_34 (by decide) 36 rfl ?_
    refine q_aload_n hC dX4_text_36 1 rfl 37 rfl ?_
    refine q_getR (C := RX4) (T := TX4) (N := 12) (ci := 4) hC inX4_text_X4 (obF0 hF) rfl 1 (by decide) (uX4_text__o _ (List.mem_of_getElem? (l := owX4_text) (i := 1) rfl)) rfl 37 (fun _ => rfl) dX4_text_37 40 rfl ?_
    refine q_getI (C := RX3) (T := TX3) (N := 10) (ci := 3) hC inX4_text_X3 (obF37 hF) rfl 9 (by decide) (uX4_text__o _ (List.mem_of_getElem? (l := owX4_text) (i := 5) rfl)) rfl (fun _ => rfl) dX4_text_40 43 rfl ?_
    refine q_isub hC dX4_text_43 44 rfl ?_
    exact r_iret hR dX4_text_44 hw
