theorem hdV_X2_longOf : yX2_longOf.cls = RX2 ∧ yX2_longOf.cls ≠ "java/lang/invoke/MethodHandle" ∧ yX2_longOf.cls ≠ "java/lang/invoke/VarHandle" ∧ (parseMethodDescriptor yX2_longOf.desc).map (fun d => d.parameters.length) = some 1 := by decide +kernel
theorem inX0_measureHops_X0 : ∀ w ∈ u_ws RX0 TX0 6, w ∈ wsX0_measureHops := uX0_measureHops__wsX00
theorem inX0_measureHops_X2 : ∀ w ∈ u_ws RX2 TX2 14, w ∈ wsX0_measureHops := uX0_measureHops__wsX20
set_option maxRecDepth 100000 in
set_option maxHeartbeats 4000000 in
theorem ctX0_measureHops (l : Launch) (g : GG) (M : MM) (o1 : Nat) (Q : MM → Prop) (hF : full g) (ho1 : tpl g o1) (hw : wX0_measureHops Q M o1) : MV g l yX0_measureHops wsX0_measureHops (rmOf 4 93) [.ref (gA g 39), .ref (gA g o1)] M Q := by
  refine mk_MV (cc := cX0_measureHops) (maxL := 7) (by decide) rfl (Nat.le_of_ble_eq_true rfl) ?_
  intro z Qf hC hR
  show XX z g Qf 7 0 [(0, .ref (gA g 39)), (1, .ref (gA g o1))] [] M
  have B41 : ∀ (K2 : MM → Int32 → Prop) (hK2 : ∀ (M : MM) (v2 : Int32) , K2 M v2 → XX z g Qf 7 2 [(0, .ref (gA g 39)), (1, .ref (gA g o1)), (2, .int v2)] [] M) (n : Nat) (M : MM) (v2 : Int32) (v3 : Int32) (v4 : Int32) , wX0_measureHops_41 Q K2 o1 n M v2 v3 v4 → XX z g Qf 7 41 [(0, .ref (gA g 39)), (1, .ref (gA g o1)), (2, .int v2), (3, .int v3), (4, .int v4)] [] M := by
    intro K2 hK2 n
    induction n with
    | zero =>
      intro M v2 v3 v4 hw
      exact hw.elim
    | succ n ih =>
      intro M v2 v3 v4 hw
      refine q_iload hC dX0_measureHops_41 4 rfl 43 rfl ?_
      refine q_aload_n hC dX0_measureHops_43 0 rfl 44 rfl ?_
      refine q_getI (C := RX0) (T := TX0) (N := 6) (ci := 0) hC inX0_measureHops_X0 (obF39 hF) rfl 4 (by decide) (uX0_measureHops__o _ (List.mem_of_getElem? (l := owX0_measureHops) (i := 1) rfl)) rfl (fun _ => rfl) dX0_measureHops_44 47 rfl ?_
      refine q_icmp_ge hC 107 dX0_measureHops_47 (by decide) 50 rfl hw (fun hw => ?_) (fun hw => ?_)
      · refine q_iinc (v := v2 + 1) (L' := [(2, .int (v2 + 1)), (0, .ref (gA g 39)), (1, .ref (gA g o1)), (3, .int v3), (4, .int v4)]) hC dX0_measureHops_107 2 rfl rfl (by decide) rfl 110 rfl ?_
        refine q_goto hC 2 dX0_measureHops_110 (by decide) ?_
        exact XX.sub [1, 2, 0] rfl (hK2 M (v2 + 1) hw)
      · refine q_aload_n hC dX0_measureHops_50 0 rfl 51 rfl ?_
        refine q_getR (C := RX0) (T := TX0) (N := 6) (ci := 0) hC inX0_measureHops_X0 (obF39 hF) rfl 2 (by decide) (uX0_measureHops__o _ (List.mem_of_getElem? (l := owX0_measureHops) (i := 3) rfl)) rfl 42 (fun _ => rfl) dX0_measureHops_51 54 rfl ?_
        refine q_iload hC dX0_measureHops_54 4 rfl 56 rfl ?_
        refine r_callI hC (go_N (As := [.ref (gA g 42), .int v4]) (rest := []) hC (ctX4_cell (zl z) g M 42 v4 _ (arF42 hF) hw) 2 gX0_measureHops_X4_cell_n47 rfl ⟨rfl, rfl⟩ 1 rfl (uX0_measureHops__X2_hasBlock _ (List.mem_of_getElem? (l := owX2_hasBlock) (i := 3) rfl)) (uX0_measureHops__X2_beginOf _ (List.mem_of_getElem? (l := owX2_beginOf) (i := 2) rfl)) hdT_X4_cell ⟨Nat.le_of_ble_eq_true rfl, Nat.le_of_ble_eq_true rfl⟩ rfl rfl (Nat.le_of_ble_eq_true rfl) dX0_measureHops_56) 59 rfl (fun r5 M6 hw => ?_)
        refine q_istore (L' := [(5, .int r5), (0, .ref (gA g 39)), (1, .ref (gA g o1)), (2, .int v2), (3, .int v3), (4, .int v4)]) hC dX0_measureHops_59 (by decide) rfl 61 rfl ?_
        refine q_aload_n hC dX0_measureHops_61 2 rfl 62 rfl ?_
        refine q_iload_n hC dX0_measureHops_62 4 rfl 63 rfl ?_
        refine q_aload_n hC dX0_measureHops_63 2 rfl 64 rfl ?_
        refine q_iload hC dX0_measureHops_64 0 rfl 66 rfl ?_
        refine r_callI hC (go_V (q := (RX2, TX2, 14)) (As := [.int r5]) (rest := [.int v3, .ref (gA g o1)]) hC (ctX2_beginOf (zl z) g M6 o1 r5 _ ho1 hw) 1 gX0_measureHops_X2_beginOf rfl ⟨rfl, rfl⟩ hdV_X2_beginOf ⟨Nat.le_of_ble_eq_true rfl, Nat.le_of_ble_eq_true rfl⟩ ho1.ob rfl rfl rfl (Nat.le_of_ble_eq_true rfl) dX0_measureHops_66) 69 rfl (fun r7 M8 hw => ?_)
        refine r_callI hC (go_V (q := (RX2, TX2, 14)) (As := [.int v3, .int r7]) (rest := []) hC (ctX2_sooner (zl z) g M8 o1 v3 r7 _ ho1 hw) 2 gX0_measureHops_X2_sooner rfl ⟨rfl, rfl⟩ hdV_X2_sooner ⟨Nat.le_of_ble_eq_true rfl, Nat.le_of_ble_eq_true rfl⟩ ho1.ob rfl rfl rfl (Nat.le_of_ble_eq_true rfl) dX0_measureHops_69) 72 rfl (fun r9 M10 hw => ?_)
        refine q_aload_n hC dX0_measureHops_72 2 rfl 73 rfl ?_
        refine q_aload_n hC dX0_measureHops_73 2 rfl 74 rfl ?_
        refine q_iload hC dX0_measureHops_74 0 rfl 76 rfl ?_
        refine r_callI hC (go_V (q := (RX2, TX2, 14)) (As := [.int r5]) (rest := [.ref (gA g o1), .int r9]) hC (ctX2_longOf (zl z) g M10 o1 r5 _ ho1 hw) 1 gX0_measureHops_X2_longOf rfl ⟨rfl, rfl⟩ hdV_X2_longOf ⟨Nat.le_of_ble_eq_true rfl, Nat.le_of_ble_eq_true rfl⟩ ho1.ob rfl rfl rfl (Nat.le_of_ble_eq_true rfl) dX0_measureHops_76) 79 rfl (fun r11 M12 hw => ?_)
        refine r_callI hC (go_V (q := (RX2, TX2, 14)) (As := [.int r11]) (rest := [.int r9]) hC (ctX2_playedThrough (zl z) g M12 o1 r11 _ ho1 hw) 1 gX0_measureHops_X2_playedThrough rfl ⟨rfl, rfl⟩ hdV_X2_playedThrough ⟨Nat.le_of_ble_eq_true rfl, Nat.le_of_ble_eq_true rfl⟩ ho1.ob rfl rfl rfl (Nat.le_of_ble_eq_true rfl) dX0_measureHops_79) 82 rfl (fun r13 M14 hw => ?_)
        refine q_iadd hC dX0_measureHops_82 83 rfl ?_
        refine q_istore (L' := [(6, .int (r9 + r13)), (5, .int r5), (0, .ref (gA g 39)), (1, .ref (gA g o1)), (2, .int v2), (3, .int v3), (4, .int v4)]) hC dX0_measureHops_83 (by decide) rfl 85 rfl ?_
        refine q_aload_n hC dX0_measureHops_85 2 rfl 86 rfl ?_
        refine q_getR (C := RX0) (T := TX0) (N := 6) (ci := 0) hC inX0_measureHops_X0 (obF39 hF) rfl 0 (by decide) (uX0_measureHops__o _ (List.mem_of_getElem? (l := owX0_measureHops) (i := 4) rfl)) rfl 40 (fun _ => rfl) dX0_measureHops_86 89 rfl ?_
        refine q_iload_n hC dX0_measureHops_89 4 rfl 90 rfl ?_
        refine q_bipush (v := 8) hC dX0_measureHops_90 (by decide) 92 rfl ?_
        refine q_imul hC dX0_measureHops_92 93 rfl ?_
        refine q_iload hC dX0_measureHops_93 6 rfl 95 rfl ?_
        refine q_iadd hC dX0_measureHops_95 96 rfl ?_
        refine q_iload hC dX0_measureHops_96 0 rfl 98 rfl ?_
        refine r_callV hC (go_N (As := [.ref (gA g 40), .int ((v2 * (8 : Int32)) + v4), .int (r9 + r13)]) (rest := []) hC (ctX4_setCell (zl z) g M14 40 ((v2 * (8 : Int32)) + v4) (r9 + r13) _ (arF40 hF) hw) 3 gX0_measureHops_X4_setCell_n40 rfl ⟨rfl, rfl⟩ 0 rfl (uX0_measureHops__X2_hasBlock _ (List.mem_of_getElem? (l := owX2_hasBlock) (i := 3) rfl)) (uX0_measureHops__o _ (List.mem_of_getElem? (l := owX0_measureHops) (i := 16) rfl)) hdT_X4_setCell ⟨Nat.le_of_ble_eq_true rfl, Nat.le_of_ble_eq_true rfl⟩ rfl rfl (Nat.le_of_ble_eq_true rfl) dX0_measureHops_98) 101 rfl (fun M15 hw => ?_)
        refine q_iinc (v := v4 + 1) (L' := [(4, .int (v4 + 1)), (6, .int (r9 + r13)), (5, .int r5), (0, .ref (gA g 39)), (1, .ref (gA g o1)), (2, .int v2), (3, .int v3)]) hC dX0_measureHops_101 6 rfl rfl (by decide) rfl 104 rfl ?_
        refine q_goto hC 41 dX0_measureHops_104 (by decide) ?_
        exact XX.sub [3, 4, 5, 6, 0] rfl (ih M15 v2 v3 (v4 + 1) hw)
  have B37 : ∀ (K2 : MM → Int32 → Prop) (hK2 : ∀ (M : MM) (v2 : Int32) , K2 M v2 → XX z g Qf 7 2 [(0, .ref (gA g 39)), (1, .ref (gA g o1)), (2, .int v2)] [] M) (M : MM) (v2 : Int32) (p0 : Int32), wX0_measureHops_37 Q K2 o1 M v2 p0 → XX z g Qf 7 37 [(0, .ref (gA g 39)), (1, .ref (gA g o1)), (2, .int v2)] [.int p0] M := by
    intro K2 hK2 M v2 p0 hw
    refine q_istore_n (L' := [(3, .int p0), (0, .ref (gA g 39)), (1, .ref (gA g o1)), (2, .int v2)]) hC dX0_measureHops_37 (by decide) rfl 38 rfl ?_
    refine q_iconst (v := 0) hC dX0_measureHops_38 rfl 39 rfl ?_
    refine q_istore (L' := [(4, .int 0), (3, .int p0), (0, .ref (gA g 39)), (1, .ref (gA g o1)), (2, .int v2)]) hC dX0_measureHops_39 (by decide) rfl 41 rfl ?_
    obtain ⟨n0, hw⟩ := hw
    exact XX.sub [2, 3, 4, 1, 0] rfl (B41 _ hK2 n0 M v2 p0 0 hw)
  have B2 : ∀ (n : Nat) (M : MM) (v2 : Int32) , wX0_measureHops_2 Q o1 n M v2 → XX z g Qf 7 2 [(0, .ref (gA g 39)), (1, .ref (gA g o1)), (2, .int v2)] [] M := by
    intro n
    induction n with
    | zero =>
      intro M v2 hw
      exact hw.elim
    | succ n ih =>
      intro M v2 hw
      refine q_iload_n hC dX0_measureHops_2 2 rfl 3 rfl ?_
      refine q_aload_n hC dX0_measureHops_3 0 rfl 4 rfl ?_
      refine q_getI (C := RX0) (T := TX0) (N := 6) (ci := 0) hC inX0_measureHops_X0 (obF39 hF) rfl 4 (by decide) (uX0_measureHops__o _ (List.mem_of_getElem? (l := owX0_measureHops) (i := 1) rfl)) rfl (fun _ => rfl) dX0_measureHops_4 7 rfl ?_
      refine q_icmp_gt hC 113 dX0_measureHops_7 (by decide) 10 rfl hw (fun hw => ?_) (fun hw => ?_)
      · exact r_vret hR dX0_measureHops_113 hw
      · refine q_iload_n hC dX0_measureHops_10 2 rfl 11 rfl ?_
        refine q_aload_n hC dX0_measureHops_11 0 rfl 12 rfl ?_
        refine q_getI (C := RX0) (T := TX0) (N := 6) (ci := 0) hC inX0_measureHops_X0 (obF39 hF) rfl 4 (by decide) (uX0_measureHops__o _ (List.mem_of_getElem? (l := owX0_measureHops) (i := 1) rfl)) rfl (fun _ => rfl) dX0_measureHops_12 15 rfl ?_
        refine q_icmp_ne hC 25 dX0_measureHops_15 (by decide) 18 rfl hw (fun hw => ?_) (fun hw => ?_)
        · refine q_aload_n hC dX0_measureHops_25 1 rfl 26 rfl ?_
          refine q_aload_n hC dX0_measureHops_26 0 rfl 27 rfl ?_
          refine q_getR (C := RX0) (T := TX0) (N := 6) (ci := 0) hC inX0_measureHops_X0 (obF39 hF) rfl 2 (by decide) (uX0_measureHops__o _ (List.mem_of_getElem? (l := owX0_measureHops) (i := 3) rfl)) rfl 42 (fun _ => rfl) dX0_measureHops_27 30 rfl ?_
          refine q_iload_n hC dX0_measureHops_30 2 rfl 31 rfl ?_
          refine r_callI hC (go_N (As := [.ref (gA g 42), .int v2]) (rest := [.ref (gA g o1)]) hC (ctX4_cell (zl z) g M 42 v2 _ (arF42 hF) hw) 2 gX0_measureHops_X4_cell_n47 rfl ⟨rfl, rfl⟩ 1 rfl (uX0_measureHops__X2_hasBlock _ (List.mem_of_getElem? (l := owX2_hasBlock) (i := 3) rfl)) (uX0_measureHops__X2_beginOf _ (List.mem_of_getElem? (l := owX2_beginOf) (i := 2) rfl)) hdT_X4_cell ⟨Nat.le_of_ble_eq_true rfl, Nat.le_of_ble_eq_true rfl⟩ rfl rfl (Nat.le_of_ble_eq_true rfl) dX0_measureHops_31) 34 rfl (fun r1 M2 hw => ?_)
          refine r_callI hC (go_V (q := (RX2, TX2, 14)) (As := [.int r1]) (rest := []) hC (ctX2_endOf (zl z) g M2 o1 r1 _ ho1 hw) 1 gX0_measureHops_X2_endOf rfl ⟨rfl, rfl⟩ hdV_X2_endOf ⟨Nat.le_of_ble_eq_true rfl, Nat.le_of_ble_eq_true rfl⟩ ho1.ob rfl rfl rfl (Nat.le_of_ble_eq_true rfl) dX0_measureHops_34) 37 rfl (fun r3 M4 hw => ?_)
          exact XX.sub [0, 1, 2] rfl (B37 _ (fun M v2 hw => ih M v2 hw) M4 v2 r3 hw)
        · refine q_aload_n hC dX0_measureHops_18 1 rfl 19 rfl ?_
          refine q_getI (C := RX2) (T := TX2) (N := 14) (ci := 2) hC inX0_measureHops_X2 ho1.ob rfl 9 (by decide) (uX0_measureHops__o _ (List.mem_of_getElem? (l := owX0_measureHops) (i := 2) rfl)) rfl (fun _ => rfl) dX0_measureHops_19 22 rfl ?_
          refine q_goto hC 37 dX0_measureHops_22 (by decide) ?_
          exact XX.sub [0, 1, 2] rfl (B37 _ (fun M v2 hw => ih M v2 hw) M v2 (M o1 9) hw)
  refine q_iconst (v := 0) hC dX0_measureHops_0 rfl 1 rfl ?_
  refine q_istore_n (L' := [(2, .int 0), (0, .ref (gA g 39)), (1, .ref (gA g o1))]) hC dX0_measureHops_1 (by decide) rfl 2 rfl ?_
  obtain ⟨n0, hw⟩ := hw
  exact XX.sub [1, 2, 0] rfl (B2 n0 M 0 hw)
theorem inX0_ticksBy_X0 : ∀ w ∈ u_ws RX0 TX0 6, w ∈ wsX0_ticksBy := uX0_ticksBy__wsX00
set_option maxRecDepth 100000 in
set_option maxHeartbeats 4000000 in
theorem ctX0_ticksBy (l : Launch) (g : GG) (M : MM) (v1 : Int32) (v2 : Int32) (v3 : Int32) (Q : Int32 → MM → Prop) (hF : full g) (hw : wX0_ticksBy Q M v1 v2 v3) : MI g l yX0_ticksBy wsX0_ticksBy (rmOf 1 21) [.ref (gA g 39), .int v1, .int v2, .int v3] M Q := by
  refine mk_MI (cc := cX0_ticksBy) (maxL := 4) (by decide) rfl (Nat.le_of_ble_eq_true rfl) ?_
  intro z Qf hC hR
  show XX z g Qf 4 0 [(0, .ref (gA g 39)), (1, .int v1), (2, .int v2), (3, .int v3)] [] M
  refine q_aload_n hC dX0_ticksBy_0 0 rfl 1 rfl ?_
  refine q_getR (C := RX0) (T := TX0) (N := 6) (ci := 0) hC inX0_ticksBy_X0 (obF39 hF) rfl 0 (by decide) (uX0_ticksBy__o _ (List.mem_of_getElem? (l := owX0_ticksBy) (i := 1) rfl)) rfl 40 (fun _ => rfl) dX0_ticksBy_1 4 rfl ?_
  refine q_iload_n hC dX0_ticksBy_4 1 rfl 5 rfl ?_
  refine q_bipush (v := 8) hC dX0_ticksBy_5 (by decide) 7 rfl ?_
  refine q_imul hC dX0_ticksBy_7 8 rfl ?_
  refine q_iload_n hC dX0_ticksBy_8 2 rfl 9 rfl ?_
  refine q_iadd hC dX0_ticksBy_9 10 rfl ?_
  refine r_callI hC (go_N (As := [.ref (gA g 40), .int ((v1 * (8 : Int32)) + v2)]) (rest := []) hC (ctX4_cell (zl z) g M 40 ((v1 * (8 : Int32)) + v2) _ (arF40 hF) hw) 2 gX0_ticksBy_X4_cell_n47 rfl ⟨rfl, rfl⟩ 1 rfl (uX0_ticksBy__o _ (List.mem_of_getElem? (l := owX0_ticksBy) (i := 4) rfl)) (uX0_ticksBy__o _ (List.mem_of_getElem? (l := owX0_ticksBy) (i := 3) rfl)) hdT_X4_cell ⟨Nat.le_of_ble_eq_true rfl, Nat.le_of_ble_eq_true rfl⟩ rfl rfl (Nat.le_of_ble_eq_true rfl) dX0_ticksBy_10) 13 rfl (fun r1 M2 hw => ?_)
  refine q_aload_n hC dX0_ticksBy_13 0 rfl 14 rfl ?_
  refine q_getR (C := RX0) (T := TX0) (N := 6) (ci := 0) hC inX0_ticksBy_X0 (obF39 hF) rfl 1 (by decide) (uX0_ticksBy__o _ (List.mem_of_getElem? (l := owX0_ticksBy) (i := 2) rfl)) rfl 41 (fun _ => rfl) dX0_ticksBy_14 17 rfl ?_
  refine q_iload_n hC dX0_ticksBy_17 3 rfl 18 rfl ?_
  refine q_iconst (v := 1) hC dX0_ticksBy_18 rfl 19 rfl ?_
  refine q_iload_n hC dX0_ticksBy_19 2 rfl 20 rfl ?_
  refine q_ishl hC dX0_ticksBy_20 21 rfl ?_
  refine q_ixor hC dX0_ticksBy_21 22 rfl ?_
  refine q_bipush (v := 8) hC dX0_ticksBy_22 (by decide) 24 rfl ?_
  refine q_imul hC dX0_ticksBy_24 25 rfl ?_
  refine q_iload_n hC dX0_ticksBy_25 2 rfl 26 rfl ?_
  refine q_iadd hC dX0_ticksBy_26 27 rfl ?_
  refine r_callI hC (go_N (As := [.ref (gA g 41), .int (((v3 ^^^ ((1 : Int32) <<< (v2 &&& 31))) * (8 : Int32)) + v2)]) (rest := [.int r1]) hC (ctX4_cell (zl z) g M2 41 (((v3 ^^^ ((1 : Int32) <<< (v2 &&& 31))) * (8 : Int32)) + v2) _ (arF41 hF) hw) 2 gX0_ticksBy_X4_cell_n47 rfl ⟨rfl, rfl⟩ 1 rfl (uX0_ticksBy__o _ (List.mem_of_getElem? (l := owX0_ticksBy) (i := 4) rfl)) (uX0_ticksBy__o _ (List.mem_of_getElem? (l := owX0_ticksBy) (i := 3) rfl)) hdT_X4_cell ⟨Nat.le_of_ble_eq_true rfl, Nat.le_of_ble_eq_true rfl⟩ rfl rfl (Nat.le_of_ble_eq_true rfl) dX0_ticksBy_27) 30 rfl (fun r3 M4 hw => ?_)
  refine q_iadd hC dX0_ticksBy_30 31 rfl ?_
  exact r_iret hR dX0_ticksBy_31 hw
theorem hdV_X0_ticksBy : yX0_ticksBy.cls = RX0 ∧ yX0_ticksBy.cls ≠ "java/lang/invoke/MethodHandle" ∧ yX0_ticksBy.cls ≠ "java/lang/invoke/VarHandle" ∧ (parseMethodDescriptor yX0_ticksBy.desc).map (fun d => d.parameters.length) = some 3 := by decide +kernel
theorem inX0_fewestFrom_X0 : ∀ w ∈ u_ws RX0 TX0 6, w ∈ wsX0_fewestFrom := uX0_fewestFrom__wsX00
set_option maxRecDepth 100000 in
set_option maxHeartbeats 4000000 in
theorem ctX0_fewestFrom (l : Launch) (g : GG) (M : MM) (v1 : Int32) (v2 : Int32) (Q : Int32 → MM → Prop) (hF : full g) (hw : wX0_fewestFrom Q M v1 v2) : MI g l yX0_fewestFrom wsX0_fewestFrom (rmOf 2 44) [.ref (gA g 39), .int v1, .int v2] M Q := by
  refine mk_MI (cc := cX0_fewestFrom) (maxL := 5) (by decide) rfl (Nat.le_of_ble_eq_true rfl) ?_
  intro z Qf hC hR
  show XX z g Qf 5 0 [(0, .ref (gA g 39)), (1, .int v1), (2, .int v2)] [] M
  have B38 : ∀ (K6 : MM → Int32 → Int32 → Prop) (hK6 : ∀ (M : MM) (v3 : Int32) (v4 : Int32) , K6 M v3 v4 → XX z g Qf 5 6 [(0, .ref (gA g 39)), (1, .int v1), (2, .int v2), (3, .int v3), (4, .int v4)] [] M) (M : MM) (v3 : Int32) (v4 : Int32), wX0_fewestFrom_38 Q K6 v1 v2 M v3 v4 → XX z g Qf 5 38 [(0, .ref (gA g 39)), (1, .int v1), (2, .int v2), (3, .int v3), (4, .int v4)] [] M := by
    intro K6 hK6 M v3 v4 hw
    refine q_iinc (v := v4 + 1) (L' := [(4, .int (v4 + 1)), (0, .ref (gA g 39)), (1, .int v1), (2, .int v2), (3, .int v3)]) hC dX0_fewestFrom_38 4 rfl rfl (by decide) rfl 41 rfl ?_
    refine q_goto hC 6 dX0_fewestFrom_41 (by decide) ?_
    exact XX.sub [1, 2, 3, 4, 0] rfl (hK6 M v3 (v4 + 1) hw)
  have B6 : ∀ (n : Nat) (M : MM) (v3 : Int32) (v4 : Int32) , wX0_fewestFrom_6 Q v1 v2 n M v3 v4 → XX z g Qf 5 6 [(0, .ref (gA g 39)), (1, .int v1), (2, .int v2), (3, .int v3), (4, .int v4)] [] M := by
    intro n
    induction n with
    | zero =>
      intro M v3 v4 hw
      exact hw.elim
    | succ n ih =>
      intro M v3 v4 hw
      refine q_iload hC dX0_fewestFrom_6 4 rfl 8 rfl ?_
      refine q_aload_n hC dX0_fewestFrom_8 0 rfl 9 rfl ?_
      refine q_getI (C := RX0) (T := TX0) (N := 6) (ci := 0) hC inX0_fewestFrom_X0 (obF39 hF) rfl 4 (by decide) (uX0_fewestFrom__o _ (List.mem_of_getElem? (l := owX0_fewestFrom) (i := 2) rfl)) rfl (fun _ => rfl) dX0_fewestFrom_9 12 rfl ?_
      refine q_icmp_ge hC 44 dX0_fewestFrom_12 (by decide) 15 rfl hw (fun hw => ?_) (fun hw => ?_)
      · refine q_iload_n hC dX0_fewestFrom_44 3 rfl 45 rfl ?_
        exact r_iret hR dX0_fewestFrom_45 hw
      · refine q_iload_n hC dX0_fewestFrom_15 2 rfl 16 rfl ?_
        refine q_iload hC dX0_fewestFrom_16 4 rfl 18 rfl ?_
        refine q_ishr hC dX0_fewestFrom_18 19 rfl ?_
        refine q_iconst (v := 1) hC dX0_fewestFrom_19 rfl 20 rfl ?_
        refine q_iand hC dX0_fewestFrom_20 21 rfl ?_
        refine q_iconst (v := 1) hC dX0_fewestFrom_21 rfl 22 rfl ?_
        refine q_icmp_ne hC 38 dX0_fewestFrom_22 (by decide) 25 rfl hw (fun hw => ?_) (fun hw => ?_)
        · exact XX.sub [0, 1, 2, 3, 4] rfl (B38 _ (fun M v3 v4 hw => ih M v3 v4 hw) M v3 v4 hw)
        · refine q_iload_n hC dX0_fewestFrom_25 3 rfl 26 rfl ?_
          refine q_aload_n hC dX0_fewestFrom_26 0 rfl 27 rfl ?_
          refine q_iload_n hC dX0_fewestFrom_27 1 rfl 28 rfl ?_
          refine q_iload hC dX0_fewestFrom_28 4 rfl 30 rfl ?_
          refine q_iload_n hC dX0_fewestFrom_30 2 rfl 31 rfl ?_
          refine r_callI hC (go_V (q := (RX0, TX0, 6)) (As := [.int v1, .int v4, .int v2]) (rest := [.int v3]) hC (ctX0_ticksBy (zl z) g M v1 v4 v2 _ hF hw) 3 gX0_fewestFrom_X0_ticksBy rfl ⟨rfl, rfl⟩ hdV_X0_ticksBy ⟨Nat.le_of_ble_eq_true rfl, Nat.le_of_ble_eq_true rfl⟩ (obF39 hF) rfl rfl rfl (Nat.le_of_ble_eq_true rfl) dX0_fewestFrom_31) 34 rfl (fun r1 M2 hw => ?_)
          refine q_mmin hC (uX0_fewestFrom__o _ (List.mem_of_getElem? (l := owX0_fewestFrom) (i := 3) rfl)) (uX0_fewestFrom__o _ (List.mem_of_getElem? (l := owX0_fewestFrom) (i := 4) rfl)) (uX0_fewestFrom__o _ (List.mem_of_getElem? (l := owX0_fewestFrom) (i := 5) rfl)) (uX0_fewestFrom__o _ (List.mem_of_getElem? (l := owX0_fewestFrom) (i := 6) rfl)) (by decide) (Nat.le_of_ble_eq_true rfl) dX0_fewestFrom_34 37 rfl ?_
          refine q_nameI (fun x3 ex3 => ?_)
          have hw := hw x3 ex3
          refine q_istore_n (L' := [(3, .int x3), (0, .ref (gA g 39)), (1, .int v1), (2, .int v2), (4, .int v4)]) hC dX0_fewestFrom_37 (by decide) rfl 38 rfl ?_
          exact XX.sub [1, 2, 3, 0, 4] rfl (B38 _ (fun M v3 v4 hw => ih M v3 v4 hw) M2 x3 v4 hw)
  refine q_ldc (v := 1073741824) hC (uX0_fewestFrom__o _ (List.mem_of_getElem? (l := owX0_fewestFrom) (i := 1) rfl)) dX0_fewestFrom_0 2 rfl ?_
  refine q_istore_n (L' := [(3, .int 1073741824), (0, .ref (gA g 39)), (1, .int v1), (2, .int v2)]) hC dX0_fewestFrom_2 (by decide) rfl 3 rfl ?_
  refine q_iconst (v := 0) hC dX0_fewestFrom_3 rfl 4 rfl ?_
  refine q_istore (L' := [(4, .int 0), (3, .int 1073741824), (0, .ref (gA g 39)), (1, .int v1), (2, .int v2)]) hC dX0_fewestFrom_4 (by decide) rfl 6 rfl ?_
  obtain ⟨n0, hw⟩ := hw
  exact XX.sub [2, 3, 4, 1, 0] rfl (B6 n0 M 1073741824 0 hw)
theorem hdV_X0_fewestFrom : yX0_fewestFrom.cls = RX0 ∧ yX0_fewestFrom.cls ≠ "java/lang/invoke/MethodHandle" ∧ yX0_fewestFrom.cls ≠ "java/lang/invoke/VarHandle" ∧ (parseMethodDescriptor yX0_fewestFrom.desc).map (fun d => d.parameters.length) = some 2 := by decide +kernel
theorem inX0_firstOfFewest_X0 : ∀ w ∈ u_ws RX0 TX0 6, w ∈ wsX0_firstOfFewest := uX0_firstOfFewest__wsX00
set_option maxRecDepth 100000 in
set_option maxHeartbeats 4000000 in
theorem ctX0_firstOfFewest (l : Launch) (g : GG) (M : MM) (v1 : Int32) (v2 : Int32) (Q : Int32 → MM → Prop) (hF : full g) (hw : wX0_firstOfFewest Q M v1 v2) : MI g l yX0_firstOfFewest wsX0_firstOfFewest (rmOf 3 68) [.ref (gA g 39), .int v1, .int v2] M Q := by
  refine mk_MI (cc := cX0_firstOfFewest) (maxL := 5) (by decide) rfl (Nat.le_of_ble_eq_true rfl) ?_
  intro z Qf hC hR
  show XX z g Qf 5 0 [(0, .ref (gA g 39)), (1, .int v1), (2, .int v2)] [] M
  have B44 : ∀ (K10 : MM → Int32 → Int32 → Prop) (hK10 : ∀ (M : MM) (v3 : Int32) (v4 : Int32) , K10 M v3 v4 → XX z g Qf 5 10 [(0, .ref (gA g 39)), (1, .int v1), (2, .int v2), (3, .int v3), (4, .int v4)] [] M) (M : MM) (v3 : Int32) (v4 : Int32), wX0_firstOfFewest_44 Q K10 v1 v2 M v3 v4 → XX z g Qf 5 44 [(0, .ref (gA g 39)), (1, .int v1), (2, .int v2), (3, .int v3), (4, .int v4)] [] M := by
    intro K10 hK10 M v3 v4 hw
    refine q_iinc (v := v4 + 1) (L' := [(4, .int (v4 + 1)), (0, .ref (gA g 39)), (1, .int v1), (2, .int v2), (3, .int v3)]) hC dX0_firstOfFewest_44 4 rfl rfl (by decide) rfl 47 rfl ?_
    refine q_goto hC 10 dX0_firstOfFewest_47 (by decide) ?_
    exact XX.sub [1, 2, 3, 4, 0] rfl (hK10 M v3 (v4 + 1) hw)
  have B10 : ∀ (n : Nat) (M : MM) (v3 : Int32) (v4 : Int32) , wX0_firstOfFewest_10 Q v1 v2 n M v3 v4 → XX z g Qf 5 10 [(0, .ref (gA g 39)), (1, .int v1), (2, .int v2), (3, .int v3), (4, .int v4)] [] M := by
    intro n
    induction n with
    | zero =>
      intro M v3 v4 hw
      exact hw.elim
    | succ n ih =>
      intro M v3 v4 hw
      refine q_iload hC dX0_firstOfFewest_10 4 rfl 12 rfl ?_
      refine q_aload_n hC dX0_firstOfFewest_12 0 rfl 13 rfl ?_
      refine q_getI (C := RX0) (T := TX0) (N := 6) (ci := 0) hC inX0_firstOfFewest_X0 (obF39 hF) rfl 4 (by decide) (uX0_firstOfFewest__X0_fewestFrom _ (List.mem_of_getElem? (l := owX0_fewestFrom) (i := 2) rfl)) rfl (fun _ => rfl) dX0_firstOfFewest_13 16 rfl ?_
      refine q_icmp_ge hC 50 dX0_firstOfFewest_16 (by decide) 19 rfl hw (fun hw => ?_) (fun hw => ?_)
      · refine q_iconst (v := 0) hC dX0_firstOfFewest_50 rfl 51 rfl ?_
        exact r_iret hR dX0_firstOfFewest_51 hw
      · refine q_iload_n hC dX0_firstOfFewest_19 2 rfl 20 rfl ?_
        refine q_iload hC dX0_firstOfFewest_20 4 rfl 22 rfl ?_
        refine q_ishr hC dX0_firstOfFewest_22 23 rfl ?_
        refine q_iconst (v := 1) hC dX0_firstOfFewest_23 rfl 24 rfl ?_
        refine q_iand hC dX0_firstOfFewest_24 25 rfl ?_
        refine q_iconst (v := 1) hC dX0_firstOfFewest_25 rfl 26 rfl ?_
        refine q_icmp_ne hC 44 dX0_firstOfFewest_26 (by decide) 29 rfl hw (fun hw => ?_) (fun hw => ?_)
        · exact XX.sub [0, 1, 2, 3, 4] rfl (B44 _ (fun M v3 v4 hw => ih M v3 v4 hw) M v3 v4 hw)
        · refine q_aload_n hC dX0_firstOfFewest_29 0 rfl 30 rfl ?_
          refine q_iload_n hC dX0_firstOfFewest_30 1 rfl 31 rfl ?_
          refine q_iload hC dX0_firstOfFewest_31 4 rfl 33 rfl ?_
          refine q_iload_n hC dX0_firstOfFewest_33 2 rfl 34 rfl ?_
          refine r_callI hC (go_V (q := (RX0, TX0, 6)) (As := [.int v1, .int v4, .int v2]) (rest := []) hC (ctX0_ticksBy (zl z) g M v1 v4 v2 _ hF hw) 3 gX0_firstOfFewest_X0_ticksBy rfl ⟨rfl, rfl⟩ hdV_X0_ticksBy ⟨Nat.le_of_ble_eq_true rfl, Nat.le_of_ble_eq_true rfl⟩ (obF39 hF) rfl rfl rfl (Nat.le_of_ble_eq_true rfl) dX0_firstOfFewest_34) 37 rfl (fun r3 M4 hw => ?_)
          refine q_iload_n hC dX0_firstOfFewest_37 3 rfl 38 rfl ?_
          refine q_icmp_ne hC 44 dX0_firstOfFewest_38 (by decide) 41 rfl hw (fun hw => ?_) (fun hw => ?_)
          · exact XX.sub [0, 1, 2, 3, 4] rfl (B44 _ (fun M v3 v4 hw => ih M v3 v4 hw) M4 v3 v4 hw)
          · refine q_iload hC dX0_firstOfFewest_41 4 rfl 43 rfl ?_
            exact r_iret hR dX0_firstOfFewest_43 hw
  refine q_aload_n hC dX0_firstOfFewest_0 0 rfl 1 rfl ?_
  refine q_iload_n hC dX0_firstOfFewest_1 1 rfl 2 rfl ?_
  refine q_iload_n hC dX0_firstOfFewest_2 2 rfl 3 rfl ?_
  refine r_callI hC (go_V (q := (RX0, TX0, 6)) (As := [.int v1, .int v2]) (rest := []) hC (ctX0_fewestFrom (zl z) g M v1 v2 _ hF hw) 2 gX0_firstOfFewest_X0_fewestFrom rfl ⟨rfl, rfl⟩ hdV_X0_fewestFrom ⟨Nat.le_of_ble_eq_true rfl, Nat.le_of_ble_eq_true rfl⟩ (obF39 hF) rfl rfl rfl (Nat.le_of_ble_eq_true rfl) dX0_firstOfFewest_3) 6 rfl (fun r1 M2 hw => ?_)
  refine q_istore_n (L' := [(3, .int r1), (0, .ref (gA g 39)), (1, .int v1), (2, .int v2)]) hC dX0_firstOfFewest_6 (by decide) rfl 7 rfl ?_
  refine q_iconst (v := 0) hC dX0_firstOfFewest_7 rfl 8 rfl ?_
  refine q_istore (L' := [(4, .int 0), (3, .int r1), (0, .ref (gA g 39)), (1, .int v1), (2, .int v2)]) hC dX0_firstOfFewest_8 (by decide) rfl 10 rfl ?_
  obtain ⟨n0, hw⟩ := hw
  exact XX.sub [2, 3, 4, 1, 0] rfl (B10 n0 M2 r1 0 hw)
theorem hdV_X0_firstOfFewest : yX0_firstOfFewest.cls = RX0 ∧ yX0_firstOfFewest.cls ≠ "java/lang/invoke/MethodHandle" ∧ yX0_firstOfFewest.cls ≠ "java/lang/invoke/VarHandle" ∧ (parseMethodDescriptor yX0_firstOfFewest.desc).map (fun d => d.parameters.length) = some 2 := by decide +kernel
theorem inX0_followFirst_X0 : ∀ w ∈ u_ws RX0 TX0 6, w ∈ wsX0_followFirst := uX0_followFirst__wsX00
set_option maxRecDepth 100000 in
set_option maxHeartbeats 4000000 in
theorem ctX0_followFirst (l : Launch) (g : GG) (M : MM)  (Q : MM → Prop) (hF : full g) (hw : wX0_followFirst Q M ) : MV g l yX0_followFirst wsX0_followFirst (rmOf 4 92) [.ref (gA g 39)] M Q := by
  refine mk_MV (cc := cX0_followFirst) (maxL := 5) (by decide) rfl (Nat.le_of_ble_eq_true rfl) ?_
  intro z Qf hC hR
  show XX z g Qf 5 0 [(0, .ref (gA g 39))] [] M
  have B34 : ∀ (n : Nat) (M : MM) (v1 : Int32) (v2 : Int32) (v3 : Int32) , wX0_followFirst_34 Q n M v1 v2 v3 → XX z g Qf 5 34 [(0, .ref (gA g 39)), (1, .int v1), (2, .int v2), (3, .int v3)] [] M := by
    intro n
    induction n with
    | zero =>
      intro M v1 v2 v3 hw
      exact hw.elim
    | succ n ih =>
      intro M v1 v2 v3 hw
      refine q_iload_n hC dX0_followFirst_34 3 rfl 35 rfl ?_
      refine q_aload_n hC dX0_followFirst_35 0 rfl 36 rfl ?_
      refine q_getI (C := RX0) (T := TX0) (N := 6) (ci := 0) hC inX0_followFirst_X0 (obF39 hF) rfl 4 (by decide) (uX0_followFirst__X0_fewestFrom _ (List.mem_of_getElem? (l := owX0_fewestFrom) (i := 2) rfl)) rfl (fun _ => rfl) dX0_followFirst_36 39 rfl ?_
      refine q_icmp_ge hC 83 dX0_followFirst_39 (by decide) 42 rfl hw (fun hw => ?_) (fun hw => ?_)
      · exact r_vret hR dX0_followFirst_83 hw
      · refine q_aload_n hC dX0_followFirst_42 0 rfl 43 rfl ?_
        refine q_iload_n hC dX0_followFirst_43 2 rfl 44 rfl ?_
        refine q_iload_n hC dX0_followFirst_44 1 rfl 45 rfl ?_
        refine r_callI hC (go_V (q := (RX0, TX0, 6)) (As := [.int v2, .int v1]) (rest := []) hC (ctX0_firstOfFewest (zl z) g M v2 v1 _ hF hw) 2 gX0_followFirst_X0_firstOfFewest rfl ⟨rfl, rfl⟩ hdV_X0_firstOfFewest ⟨Nat.le_of_ble_eq_true rfl, Nat.le_of_ble_eq_true rfl⟩ (obF39 hF) rfl rfl rfl (Nat.le_of_ble_eq_true rfl) dX0_followFirst_45) 48 rfl (fun r5 M6 hw => ?_)
        refine q_istore (L' := [(4, .int r5), (0, .ref (gA g 39)), (1, .int v1), (2, .int v2), (3, .int v3)]) hC dX0_followFirst_48 (by decide) rfl 50 rfl ?_
        refine q_aload_n hC dX0_followFirst_50 1 rfl 51 rfl ?_
        refine q_getR (C := RX0) (T := TX0) (N := 6) (ci := 0) hC inX0_followFirst_X0 (obF39 hF) rfl 3 (by decide) (uX0_followFirst__o _ (List.mem_of_getElem? (l := owX0_followFirst) (i := 2) rfl)) rfl 43 (fun _ => rfl) dX0_followFirst_51 54 rfl ?_
        refine q_iload_n hC dX0_followFirst_54 4 rfl 55 rfl ?_
        refine q_aload_n hC dX0_followFirst_55 1 rfl 56 rfl ?_
        refine q_getR (C := RX0) (T := TX0) (N := 6) (ci := 0) hC inX0_followFirst_X0 (obF39 hF) rfl 2 (by decide) (uX0_followFirst__o _ (List.mem_of_getElem? (l := owX0_followFirst) (i := 3) rfl)) rfl 42 (fun _ => rfl) dX0_followFirst_56 59 rfl ?_
        refine q_iload hC dX0_followFirst_59 0 rfl 61 rfl ?_
        refine r_callI hC (go_N (As := [.ref (gA g 42), .int r5]) (rest := [.int v3, .ref (gA g 43)]) hC (ctX4_cell (zl z) g M6 42 r5 _ (arF42 hF) hw) 2 gX0_followFirst_X4_cell_n47 rfl ⟨rfl, rfl⟩ 1 rfl (uX0_followFirst__X0_ticksBy _ (List.mem_of_getElem? (l := owX0_ticksBy) (i := 4) rfl)) (uX0_followFirst__X0_ticksBy _ (List.mem_of_getElem? (l := owX0_ticksBy) (i := 3) rfl)) hdT_X4_cell ⟨Nat.le_of_ble_eq_true rfl, Nat.le_of_ble_eq_true rfl⟩ rfl rfl (Nat.le_of_ble_eq_true rfl) dX0_followFirst_61) 64 rfl (fun r7 M8 hw => ?_)
        refine r_callV hC (go_N (As := [.ref (gA g 43), .int v3, .int r7]) (rest := []) hC (ctX4_setCell (zl z) g M8 43 v3 r7 _ (arF43 hF) hw) 3 gX0_followFirst_X4_setCell_n40 rfl ⟨rfl, rfl⟩ 0 rfl (uX0_followFirst__X0_ticksBy _ (List.mem_of_getElem? (l := owX0_ticksBy) (i := 4) rfl)) (uX0_followFirst__o _ (List.mem_of_getElem? (l := owX0_followFirst) (i := 7) rfl)) hdT_X4_setCell ⟨Nat.le_of_ble_eq_true rfl, Nat.le_of_ble_eq_true rfl⟩ rfl rfl (Nat.le_of_ble_eq_true rfl) dX0_followFirst_64) 67 rfl (fun M9 hw => ?_)
        refine q_iload_n hC dX0_followFirst_67 2 rfl 68 rfl ?_
        refine q_iconst (v := 1) hC dX0_followFirst_68 rfl 69 rfl ?_
        refine q_iload hC dX0_followFirst_69 0 rfl 71 rfl ?_
        refine q_ishl hC dX0_followFirst_71 72 rfl ?_
        refine q_ixor hC dX0_followFirst_72 73 rfl ?_
        refine q_nameI (fun x10 ex10 => ?_)
        have hw := hw x10 ex10
        refine q_istore_n (L' := [(1, .int x10), (4, .int r5), (0, .ref (gA g 39)), (2, .int v2), (3, .int v3)]) hC dX0_followFirst_73 (by decide) rfl 74 rfl ?_
        refine q_iload hC dX0_followFirst_74 1 rfl 76 rfl ?_
        refine q_istore_n (L' := [(2, .int r5), (1, .int x10), (4, .int r5), (0, .ref (gA g 39)), (3, .int v3)]) hC dX0_followFirst_76 (by decide) rfl 77 rfl ?_
        refine q_iinc (v := v3 + 1) (L' := [(3, .int (v3 + 1)), (2, .int r5), (1, .int x10), (4, .int r5), (0, .ref (gA g 39))]) hC dX0_followFirst_77 4 rfl rfl (by decide) rfl 80 rfl ?_
        refine q_goto hC 34 dX0_followFirst_80 (by decide) ?_
        exact XX.sub [4, 2, 1, 0] rfl (ih M9 x10 r5 (v3 + 1) hw)
  have B29 : ∀ (M : MM) (v1 : Int32) (v2 : Int32) (p0 : Int32), wX0_followFirst_29 Q M v1 v2 p0 → XX z g Qf 5 29 [(0, .ref (gA g 39)), (1, .int v1), (2, .int v2)] [.int p0, .ref (gA g 39)] M := by
    intro M v1 v2 p0 hw
    refine q_putI (C := RX0) (T := TX0) (N := 6) (ci := 0) hC inX0_followFirst_X0 tyX0 tyX0_ok nmX0 (obF39 hF) rfl 5 (by decide) (uX0_followFirst__o _ (List.mem_of_getElem? (l := owX0_followFirst) (i := 1) rfl)) rfl rfl rfl (fun _ => Nat.le_of_ble_eq_true rfl) (fun _ => rfl) dX0_followFirst_29 32 rfl (fun M4 eM4 => ?_)
    have hw := hw M4 eM4
    refine q_iconst (v := 0) hC dX0_followFirst_32 rfl 33 rfl ?_
    refine q_istore_n (L' := [(3, .int 0), (0, .ref (gA g 39)), (1, .int v1), (2, .int v2)]) hC dX0_followFirst_33 (by decide) rfl 34 rfl ?_
    obtain ⟨n0, hw⟩ := hw
    exact XX.sub [1, 2, 3, 0] rfl (B34 n0 M4 v1 v2 0 hw)
  refine q_iconst (v := 1) hC dX0_followFirst_0 rfl 1 rfl ?_
  refine q_aload_n hC dX0_followFirst_1 0 rfl 2 rfl ?_
  refine q_getI (C := RX0) (T := TX0) (N := 6) (ci := 0) hC inX0_followFirst_X0 (obF39 hF) rfl 4 (by decide) (uX0_followFirst__X0_fewestFrom _ (List.mem_of_getElem? (l := owX0_fewestFrom) (i := 2) rfl)) rfl (fun _ => rfl) dX0_followFirst_2 5 rfl ?_
  refine q_ishl hC dX0_followFirst_5 6 rfl ?_
  refine q_iconst (v := 1) hC dX0_followFirst_6 rfl 7 rfl ?_
  refine q_isub hC dX0_followFirst_7 8 rfl ?_
  refine q_nameI (fun x1 ex1 => ?_)
  have hw := hw x1 ex1
  refine q_istore_n (L' := [(1, .int x1), (0, .ref (gA g 39))]) hC dX0_followFirst_8 (by decide) rfl 9 rfl ?_
  refine q_aload_n hC dX0_followFirst_9 1 rfl 10 rfl ?_
  refine q_getI (C := RX0) (T := TX0) (N := 6) (ci := 0) hC inX0_followFirst_X0 (obF39 hF) rfl 4 (by decide) (uX0_followFirst__X0_fewestFrom _ (List.mem_of_getElem? (l := owX0_fewestFrom) (i := 2) rfl)) rfl (fun _ => rfl) dX0_followFirst_10 13 rfl ?_
  refine q_istore_n (L' := [(2, .int (M 39 4)), (1, .int x1), (0, .ref (gA g 39))]) hC dX0_followFirst_13 (by decide) rfl 14 rfl ?_
  refine q_aload_n hC dX0_followFirst_14 2 rfl 15 rfl ?_
  refine q_iload_n hC dX0_followFirst_15 1 rfl 16 rfl ?_
  refine q_if_ne hC 23 dX0_followFirst_16 (by decide) 19 rfl hw (fun hw => ?_) (fun hw => ?_)
  · refine q_aload_n hC dX0_followFirst_23 2 rfl 24 rfl ?_
    refine q_iload_n hC dX0_followFirst_24 0 rfl 25 rfl ?_
    refine q_iload_n hC dX0_followFirst_25 1 rfl 26 rfl ?_
    refine r_callI hC (go_V (q := (RX0, TX0, 6)) (As := [.int (M 39 4), .int x1]) (rest := [.ref (gA g 39)]) hC (ctX0_fewestFrom (zl z) g M (M 39 4) x1 _ hF hw) 2 gX0_followFirst_X0_fewestFrom rfl ⟨rfl, rfl⟩ hdV_X0_fewestFrom ⟨Nat.le_of_ble_eq_true rfl, Nat.le_of_ble_eq_true rfl⟩ (obF39 hF) rfl rfl rfl (Nat.le_of_ble_eq_true rfl) dX0_followFirst_26) 29 rfl (fun r2 M3 hw => ?_)
    exact XX.sub [2, 1, 0] rfl (B29 M3 x1 (M 39 4) r2 hw)
  · refine q_iconst (v := 0) hC dX0_followFirst_19 rfl 20 rfl ?_
    refine q_goto hC 29 dX0_followFirst_20 (by decide) ?_
    exact XX.sub [2, 1, 0] rfl (B29 M x1 (M 39 4) 0 hw)
theorem hdV_X0_choose : yX0_choose.cls = RX0 ∧ yX0_choose.cls ≠ "java/lang/invoke/MethodHandle" ∧ yX0_choose.cls ≠ "java/lang/invoke/VarHandle" ∧ (parseMethodDescriptor yX0_choose.desc).map (fun d => d.parameters.length) = some 1 := by decide +kernel
theorem hdV_X0_measureHops : yX0_measureHops.cls = RX0 ∧ yX0_measureHops.cls ≠ "java/lang/invoke/MethodHandle" ∧ yX0_measureHops.cls ≠ "java/lang/invoke/VarHandle" ∧ (parseMethodDescriptor yX0_measureHops.desc).map (fun d => d.parameters.length) = some 1 := by decide +kernel
theorem hdV_X0_followFirst : yX0_followFirst.cls = RX0 ∧ yX0_followFirst.cls ≠ "java/lang/invoke/MethodHandle" ∧ yX0_followFirst.cls ≠ "java/lang/invoke/VarHandle" ∧ (parseMethodDescriptor yX0_followFirst.desc).map (fun d => d.parameters.length) = some 0 := by decide +kernel
theorem inX0_plan_X0 : ∀ w ∈ u_ws RX0 TX0 6, w ∈ wsX0_plan := uX0_plan__wsX00
set_option maxRecDepth 100000 in
set_option maxHeartbeats 4000000 in
theorem ctX0_plan (l : Launch) (g : GG) (M : MM) (o1 : Nat) (v2 : Int32) (Q : MM → Prop) (hF : full g) (ho1 : tpl g o1) (hw : wX0_plan Q M o1 v2) : MV g l yX0_plan wsX0_plan (rmOf 5 119) [.ref (gA g 39), .ref (gA g o1), .int v2] M Q := by
  refine mk_MV (cc := cX0_plan) (maxL := 5) (by decide) rfl (Nat.le_of_ble_eq_true rfl) ?_
  intro z Qf hC hR
  show XX z g Qf 5 0 [(0, .ref (gA g 39)), (1, .ref (gA g o1)), (2, .int v2)] [] M
  have B65 : ∀ (K17 : MM → Int32 → Prop) (hK17 : ∀ (M : MM) (v3 : Int32) , K17 M v3 → XX z g Qf 5 17 [(0, .ref (gA g 39)), (3, .int v3)] [] M) (K30 : MM → Int32 → Int32 → Prop) (hK30 : ∀ (M : MM) (v3 : Int32) (v4 : Int32) , K30 M v3 v4 → XX z g Qf 5 30 [(0, .ref (gA g 39)), (3, .int v3), (4, .int v4)] [] M) (M : MM) (v3 : Int32) (v4 : Int32) (p0 : Int32) (p1 : Int32), wX0_plan_65 Q K17 K30 o1 v2 M v3 v4 p0 p1 → XX z g Qf 5 65 [(0, .ref (gA g 39)), (3, .int v3), (4, .int v4)] [.int p0, .int p1, .ref (gA g 41)] M := by
    intro K17 hK17 K30 hK30 M v3 v4 p0 p1 hw
    refine r_callV hC (go_N (As := [.ref (gA g 41), .int p1, .int p0]) (rest := []) hC (ctX4_setCell (zl z) g M 41 p1 p0 _ (arF41 hF) hw) 3 gX0_plan_X4_setCell_n40 rfl ⟨rfl, rfl⟩ 0 rfl (uX0_plan__X0_choose _ (List.mem_of_getElem? (l := owX0_choose) (i := 4) rfl)) (uX0_plan__X0_choose _ (List.mem_of_getElem? (l := owX0_choose) (i := 3) rfl)) hdT_X4_setCell ⟨Nat.le_of_ble_eq_true rfl, Nat.le_of_ble_eq_true rfl⟩ rfl rfl (Nat.le_of_ble_eq_true rfl) dX0_plan_65) 68 rfl (fun M6 hw => ?_)
    refine q_iinc (v := v4 + 1) (L' := [(4, .int (v4 + 1)), (0, .ref (gA g 39)), (3, .int v3)]) hC dX0_plan_68 2 rfl rfl (by decide) rfl 71 rfl ?_
    refine q_goto hC 30 dX0_plan_71 (by decide) ?_
    exact XX.sub [1, 2, 0] rfl (hK30 M6 v3 (v4 + 1) hw)
  have B30 : ∀ (K17 : MM → Int32 → Prop) (hK17 : ∀ (M : MM) (v3 : Int32) , K17 M v3 → XX z g Qf 5 17 [(0, .ref (gA g 39)), (3, .int v3)] [] M) (n : Nat) (M : MM) (v3 : Int32) (v4 : Int32) , wX0_plan_30 Q K17 o1 v2 n M v3 v4 → XX z g Qf 5 30 [(0, .ref (gA g 39)), (3, .int v3), (4, .int v4)] [] M := by
    intro K17 hK17 n
    induction n with
    | zero =>
      intro M v3 v4 hw
      exact hw.elim
    | succ n ih =>
      intro M v3 v4 hw
      refine q_iload hC dX0_plan_30 2 rfl 32 rfl ?_
      refine q_aload_n hC dX0_plan_32 0 rfl 33 rfl ?_
      refine q_getI (C := RX0) (T := TX0) (N := 6) (ci := 0) hC inX0_plan_X0 (obF39 hF) rfl 4 (by decide) (uX0_plan__X0_choose _ (List.mem_of_getElem? (l := owX0_choose) (i := 1) rfl)) rfl (fun _ => rfl) dX0_plan_33 36 rfl ?_
      refine q_icmp_ge hC 74 dX0_plan_36 (by decide) 39 rfl hw (fun hw => ?_) (fun hw => ?_)
      · refine q_iinc (v := v3 + 1) (L' := [(3, .int (v3 + 1)), (0, .ref (gA g 39)), (4, .int v4)]) hC dX0_plan_74 1 rfl rfl (by decide) rfl 77 rfl ?_
        refine q_goto hC 17 dX0_plan_77 (by decide) ?_
        exact XX.sub [1, 0] rfl (hK17 M (v3 + 1) hw)
      · refine q_aload_n hC dX0_plan_39 0 rfl 40 rfl ?_
        refine q_getR (C := RX0) (T := TX0) (N := 6) (ci := 0) hC inX0_plan_X0 (obF39 hF) rfl 1 (by decide) (uX0_plan__X0_ticksBy _ (List.mem_of_getElem? (l := owX0_ticksBy) (i := 2) rfl)) rfl 41 (fun _ => rfl) dX0_plan_40 43 rfl ?_
        refine q_iload_n hC dX0_plan_43 1 rfl 44 rfl ?_
        refine q_bipush (v := 8) hC dX0_plan_44 (by decide) 46 rfl ?_
        refine q_imul hC dX0_plan_46 47 rfl ?_
        refine q_iload hC dX0_plan_47 2 rfl 49 rfl ?_
        refine q_iadd hC dX0_plan_49 50 rfl ?_
        refine q_iload_n hC dX0_plan_50 1 rfl 51 rfl ?_
        refine q_if_ne hC 58 dX0_plan_51 (by decide) 54 rfl hw (fun hw => ?_) (fun hw => ?_)
        · refine q_aload_n hC dX0_plan_58 0 rfl 59 rfl ?_
          refine q_iload hC dX0_plan_59 2 rfl 61 rfl ?_
          refine q_iload_n hC dX0_plan_61 1 rfl 62 rfl ?_
          refine r_callI hC (go_V (q := (RX0, TX0, 6)) (As := [.int v4, .int v3]) (rest := [.int ((v3 * (8 : Int32)) + v4), .ref (gA g 41)]) hC (ctX0_fewestFrom (zl z) g M v4 v3 _ hF hw) 2 gX0_plan_X0_fewestFrom rfl ⟨rfl, rfl⟩ hdV_X0_fewestFrom ⟨Nat.le_of_ble_eq_true rfl, Nat.le_of_ble_eq_true rfl⟩ (obF39 hF) rfl rfl rfl (Nat.le_of_ble_eq_true rfl) dX0_plan_62) 65 rfl (fun r4 M5 hw => ?_)
          exact XX.sub [0, 1, 2] rfl (B65 _ hK17 _ (fun M v3 v4 hw => ih M v3 v4 hw) M5 v3 v4 r4 ((v3 * (8 : Int32)) + v4) hw)
        · refine q_iconst (v := 0) hC dX0_plan_54 rfl 55 rfl ?_
          refine q_goto hC 65 dX0_plan_55 (by decide) ?_
          exact XX.sub [0, 1, 2] rfl (B65 _ hK17 _ (fun M v3 v4 hw => ih M v3 v4 hw) M v3 v4 0 ((v3 * (8 : Int32)) + v4) hw)
  have B17 : ∀ (n : Nat) (M : MM) (v3 : Int32) , wX0_plan_17 Q o1 v2 n M v3 → XX z g Qf 5 17 [(0, .ref (gA g 39)), (3, .int v3)] [] M := by
    intro n
    induction n with
    | zero =>
      intro M v3 hw
      exact hw.elim
    | succ n ih =>
      intro M v3 hw
      refine q_iload_n hC dX0_plan_17 1 rfl 18 rfl ?_
      refine q_iconst (v := 1) hC dX0_plan_18 rfl 19 rfl ?_
      refine q_aload_n hC dX0_plan_19 0 rfl 20 rfl ?_
      refine q_getI (C := RX0) (T := TX0) (N := 6) (ci := 0) hC inX0_plan_X0 (obF39 hF) rfl 4 (by decide) (uX0_plan__X0_choose _ (List.mem_of_getElem? (l := owX0_choose) (i := 1) rfl)) rfl (fun _ => rfl) dX0_plan_20 23 rfl ?_
      refine q_ishl hC dX0_plan_23 24 rfl ?_
      refine q_icmp_ge hC 80 dX0_plan_24 (by decide) 27 rfl hw (fun hw => ?_) (fun hw => ?_)
      · refine q_aload_n hC dX0_plan_80 0 rfl 81 rfl ?_
        refine r_callV hC (go_V (q := (RX0, TX0, 6)) (As := []) (rest := []) hC (ctX0_followFirst (zl z) g M _ hF hw) 0 gX0_plan_X0_followFirst rfl ⟨rfl, rfl⟩ hdV_X0_followFirst ⟨Nat.le_of_ble_eq_true rfl, Nat.le_of_ble_eq_true rfl⟩ (obF39 hF) rfl rfl rfl (Nat.le_of_ble_eq_true rfl) dX0_plan_81) 84 rfl (fun M3 hw => ?_)
        exact r_vret hR dX0_plan_84 hw
      · refine q_iconst (v := 0) hC dX0_plan_27 rfl 28 rfl ?_
        refine q_istore (L' := [(4, .int 0), (0, .ref (gA g 39)), (3, .int v3)]) hC dX0_plan_28 (by decide) rfl 30 rfl ?_
        obtain ⟨n0, hw⟩ := hw
        exact XX.sub [1, 2, 0] rfl (B30 _ (fun M v3 hw => ih M v3 hw) n0 M v3 0 hw)
  refine q_aload_n hC dX0_plan_0 1 rfl 1 rfl ?_
  refine q_ifnonnull hC 5 dX0_plan_1 (by decide) ?_
  refine q_aload_n hC dX0_plan_5 0 rfl 6 rfl ?_
  refine q_iload_n hC dX0_plan_6 2 rfl 7 rfl ?_
  refine r_callV hC (go_V (q := (RX0, TX0, 6)) (As := [.int v2]) (rest := []) hC (ctX0_choose (zl z) g M v2 _ hF hw) 1 gX0_plan_X0_choose rfl ⟨rfl, rfl⟩ hdV_X0_choose ⟨Nat.le_of_ble_eq_true rfl, Nat.le_of_ble_eq_true rfl⟩ (obF39 hF) rfl rfl rfl (Nat.le_of_ble_eq_true rfl) dX0_plan_7) 10 rfl (fun M1 hw => ?_)
  refine q_aload_n hC dX0_plan_10 0 rfl 11 rfl ?_
  refine q_aload_n hC dX0_plan_11 1 rfl 12 rfl ?_
  refine r_callV hC (go_V (q := (RX0, TX0, 6)) (As := [.ref (gA g o1)]) (rest := []) hC (ctX0_measureHops (zl z) g M1 o1 _ hF ho1 hw) 1 gX0_plan_X0_measureHops rfl ⟨rfl, rfl⟩ hdV_X0_measureHops ⟨Nat.le_of_ble_eq_true rfl, Nat.le_of_ble_eq_true rfl⟩ (obF39 hF) rfl rfl rfl (Nat.le_of_ble_eq_true rfl) dX0_plan_12) 15 rfl (fun M2 hw => ?_)
  refine q_iconst (v := 0) hC dX0_plan_15 rfl 16 rfl ?_
  refine q_istore_n (L' := [(3, .int 0), (0, .ref (gA g 39)), (1, .ref (gA g o1)), (2, .int v2)]) hC dX0_plan_16 (by decide) rfl 17 rfl ?_
  obtain ⟨n0, hw⟩ := hw
  exact XX.sub [1, 0] rfl (B17 n0 M2 0 hw)
theorem inX0_stopAt_X0 : ∀ w ∈ u_ws RX0 TX0 6, w ∈ wsX0_stopAt := uX0_stopAt__wsX00
set_option maxRecDepth 100000 in
set_option maxHeartbeats 4000000 in
theorem ctX0_stopAt (l : Launch) (g : GG) (M : MM) (v1 : Int32) (Q : Int32 → MM → Prop) (hF : full g) (hw : wX0_stopAt Q M v1) : MI g l yX0_stopAt wsX0_stopAt (rmOf 1 21) [.ref (gA g 39), .int v1] M Q := by
  refine mk_MI (cc := cX0_stopAt) (maxL := 2) (by decide) rfl (Nat.le_of_ble_eq_true rfl) ?_
  intro z Qf hC hR
  show XX z g Qf 2 0 [(0, .ref (gA g 39)), (1, .int v1)] [] M
  refine q_aload_n hC dX0_stopAt_0 0 rfl 1 rfl ?_
  refine q_getR (C := RX0) (T := TX0) (N := 6) (ci := 0) hC inX0_stopAt_X0 (obF39 hF) rfl 3 (by decide) (uX0_stopAt__o _ (List.mem_of_getElem? (l := owX0_stopAt) (i := 1) rfl)) rfl 43 (fun _ => rfl) dX0_stopAt_1 4 rfl ?_
  refine q_iload_n hC dX0_stopAt_4 1 rfl 5 rfl ?_
  refine r_callI hC (go_N (As := [.ref (gA g 43), .int v1]) (rest := []) hC (ctX4_cell (zl z) g M 43 v1 _ (arF43 hF) hw) 2 gX0_stopAt_X4_cell_n47 rfl ⟨rfl, rfl⟩ 1 rfl (uX0_stopAt__o _ (List.mem_of_getElem? (l := owX0_stopAt) (i := 3) rfl)) (uX0_stopAt__o _ (List.mem_of_getElem? (l := owX0_stopAt) (i := 2) rfl)) hdT_X4_cell ⟨Nat.le_of_ble_eq_true rfl, Nat.le_of_ble_eq_true rfl⟩ rfl rfl (Nat.le_of_ble_eq_true rfl) dX0_stopAt_5) 8 rfl (fun r1 M2 hw => ?_)
  exact r_iret hR dX0_stopAt_8 hw
theorem inX3_addLetter_X3 : ∀ w ∈ u_ws RX3 TX3 10, w ∈ wsX3_addLetter := uX3_addLetter__wsX30
set_option maxRecDepth 100000 in
set_option maxHeartbeats 4000000 in
theorem ctX3_addLetter (l : Launch) (g : GG) (M : MM) (v1 : Int32) (Q : MM → Prop) (hF : full g) (hw : wX3_addLetter Q M v1) : MV g l yX3_addLetter wsX3_addLetter (rmOf 0 0) [.ref (gA g 37), .int v1] M Q := by
  refine mk_MV (cc := cX3_addLetter) (maxL := 2) (by decide) rfl (Nat.le_of_ble_eq_true rfl) ?_
  intro z Qf hC hR
  show XX z g Qf 2 0 [(0, .ref (gA g 37)), (1, .int v1)] [] M
  have B29 : ∀ (M : MM), wX3_addLetter_29 Q v1 M → XX z g Qf 2 29 [(0, .ref (gA g 37))] [] M := by
    intro M hw
    refine q_aload_n hC dX3_addLetter_29 0 rfl 30 rfl ?_
    refine q_dup hC dX3_addLetter_30 rfl 31 rfl ?_
    refine q_getI (C := RX3) (T := TX3) (N := 10) (ci := 3) hC inX3_addLetter_X3 (obF37 hF) rfl 2 (by decide) (uX3_addLetter__o _ (List.mem_of_getElem? (l := owX3_addLetter) (i := 1) rfl)) rfl (fun _ => rfl) dX3_addLetter_31 34 rfl ?_
    refine q_iconst (v := 1) hC dX3_addLetter_34 rfl 35 rfl ?_
    refine q_iadd hC dX3_addLetter_35 36 rfl ?_
    refine q_putI (C := RX3) (T := TX3) (N := 10) (ci := 3) hC inX3_addLetter_X3 tyX3 tyX3_ok nmX3 (obF37 hF) rfl 2 (by decide) (uX3_addLetter__o _ (List.mem_of_getElem? (l := owX3_addLetter) (i := 1) rfl)) rfl rfl rfl (fun _ => Nat.le_of_ble_eq_true rfl) (fun _ => rfl) dX3_addLetter_36 39 rfl (fun M2 eM2 => ?_)
    have hw := hw M2 eM2
    exact r_vret hR dX3_addLetter_39 hw
  refine q_aload_n hC dX3_addLetter_0 0 rfl 1 rfl ?_
  refine q_getI (C := RX3) (T := TX3) (N := 10) (ci := 3) hC inX3_addLetter_X3 (obF37 hF) rfl 2 (by decide) (uX3_addLetter__o _ (List.mem_of_getElem? (l := owX3_addLetter) (i := 1) rfl)) rfl (fun _ => rfl) dX3_addLetter_1 4 rfl ?_
  refine q_if_lt hC 29 dX3_addLetter_4 (by decide) 7 rfl hw (fun hw => ?_) (fun hw => ?_)
  · exact XX.sub [0] rfl (B29 M hw)
  · refine q_aload_n hC dX3_addLetter_7 0 rfl 8 rfl ?_
    refine q_getI (C := RX3) (T := TX3) (N := 10) (ci := 3) hC inX3_addLetter_X3 (obF37 hF) rfl 2 (by decide) (uX3_addLetter__o _ (List.mem_of_getElem? (l := owX3_addLetter) (i := 1) rfl)) rfl (fun _ => rfl) dX3_addLetter_8 11 rfl ?_
    refine q_aload_n hC dX3_addLetter_11 0 rfl 12 rfl ?_
    refine q_getR (C := RX3) (T := TX3) (N := 10) (ci := 3) hC inX3_addLetter_X3 (obF37 hF) rfl 0 (by decide) (uX3_addLetter__o _ (List.mem_of_getElem? (l := owX3_addLetter) (i := 2) rfl)) rfl 38 (fun _ => rfl) dX3_addLetter_12 15 rfl ?_
    refine q_alenB hC (arF38 hF) dX3_addLetter_15 16 rfl ?_
    refine q_icmp_ge hC 29 dX3_addLetter_16 (by decide) 19 rfl hw (fun hw => ?_) (fun hw => ?_)
    · exact XX.sub [0] rfl (B29 M hw)
    · refine q_aload_n hC dX3_addLetter_19 0 rfl 20 rfl ?_
      refine q_getR (C := RX3) (T := TX3) (N := 10) (ci := 3) hC inX3_addLetter_X3 (obF37 hF) rfl 0 (by decide) (uX3_addLetter__o _ (List.mem_of_getElem? (l := owX3_addLetter) (i := 2) rfl)) rfl 38 (fun _ => rfl) dX3_addLetter_20 23 rfl ?_
      refine q_aload_n hC dX3_addLetter_23 0 rfl 24 rfl ?_
      refine q_getI (C := RX3) (T := TX3) (N := 10) (ci := 3) hC inX3_addLetter_X3 (obF37 hF) rfl 2 (by decide) (uX3_addLetter__o _ (List.mem_of_getElem? (l := owX3_addLetter) (i := 1) rfl)) rfl (fun _ => rfl) dX3_addLetter_24 27 rfl ?_
      refine q_iload_n hC dX3_addLetter_27 1 rfl 28 rfl ?_
      obtain ⟨hin, hw⟩ := hw
      refine q_bast hC (arF38 hF) hin dX3_addLetter_28 29 rfl (fun M1 eM1 => ?_)
      have hw := hw M1 eM1
      exact XX.sub [0] rfl (B29 M1 hw)
theorem inX3_letterAt_X3 : ∀ w ∈ u_ws RX3 TX3 10, w ∈ wsX3_letterAt := uX3_letterAt__wsX30
set_option maxRecDepth 100000 in
set_option maxHeartbeats 4000000 in
theorem ctX3_letterAt (l : Launch) (g : GG) (M : MM) (v1 : Int32) (Q : Int32 → MM → Prop) (hF : full g) (hw : wX3_letterAt Q M v1) : MI g l yX3_letterAt wsX3_letterAt (rmOf 0 0) [.ref (gA g 37), .int v1] M Q := by
  refine mk_MI (cc := cX3_letterAt) (maxL := 2) (by decide) rfl (Nat.le_of_ble_eq_true rfl) ?_
  intro z Qf hC hR
  show XX z g Qf 2 0 [(0, .ref (gA g 37)), (1, .int v1)] [] M
  have B34 : ∀ (M : MM), wX3_letterAt_34 Q v1 M → XX z g Qf 2 34 [] [] M := by
    intro M hw
    refine q_iconst (v := (-1)) hC dX3_letterAt_34 rfl 35 rfl ?_
    exact r_iret hR dX3_letterAt_35 hw
  refine q_iload_n hC dX3_letterAt_0 1 rfl 1 rfl ?_
  refine q_if_lt hC 34 dX3_letterAt_1 (by decide) 4 rfl hw (fun hw => ?_) (fun hw => ?_)
  · exact XX.sub [] rfl (B34 M hw)
  · refine q_iload_n hC dX3_letterAt_4 1 rfl 5 rfl ?_
    refine q_aload_n hC dX3_letterAt_5 0 rfl 6 rfl ?_
    refine q_getI (C := RX3) (T := TX3) (N := 10) (ci := 3) hC inX3_letterAt_X3 (obF37 hF) rfl 2 (by decide) (uX3_letterAt__o _ (List.mem_of_getElem? (l := owX3_letterAt) (i := 1) rfl)) rfl (fun _ => rfl) dX3_letterAt_6 9 rfl ?_
    refine q_icmp_ge hC 34 dX3_letterAt_9 (by decide) 12 rfl hw (fun hw => ?_) (fun hw => ?_)
    · exact XX.sub [] rfl (B34 M hw)
    · refine q_iload_n hC dX3_letterAt_12 1 rfl 13 rfl ?_
      refine q_aload_n hC dX3_letterAt_13 0 rfl 14 rfl ?_
      refine q_getR (C := RX3) (T := TX3) (N := 10) (ci := 3) hC inX3_letterAt_X3 (obF37 hF) rfl 0 (by decide) (uX3_letterAt__o _ (List.mem_of_getElem? (l := owX3_letterAt) (i := 2) rfl)) rfl 38 (fun _ => rfl) dX3_letterAt_14 17 rfl ?_
      refine q_alenB hC (arF38 hF) dX3_letterAt_17 18 rfl ?_
      refine q_icmp_ge hC 34 dX3_letterAt_18 (by decide) 21 rfl hw (fun hw => ?_) (fun hw => ?_)
      · exact XX.sub [] rfl (B34 M hw)
      · refine q_aload_n hC dX3_letterAt_21 0 rfl 22 rfl ?_
        refine q_getR (C := RX3) (T := TX3) (N := 10) (ci := 3) hC inX3_letterAt_X3 (obF37 hF) rfl 0 (by decide) (uX3_letterAt__o _ (List.mem_of_getElem? (l := owX3_letterAt) (i := 2) rfl)) rfl 38 (fun _ => rfl) dX3_letterAt_22 25 rfl ?_
        refine q_iload_n hC dX3_letterAt_25 1 rfl 26 rfl ?_
        obtain ⟨hin, hw⟩ := hw
        refine q_bald hC (arF38 hF) hin dX3_letterAt_26 27 rfl ?_
        refine q_sipush (v := 255) hC dX3_letterAt_27 (by decide) 30 rfl ?_
        refine q_iand hC dX3_letterAt_30 31 rfl ?_
        refine q_goto hC 35 dX3_letterAt_31 (by decide) ?_
        exact r_iret hR dX3_letterAt_35 hw
