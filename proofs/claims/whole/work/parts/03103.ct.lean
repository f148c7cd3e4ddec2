set_option maxRecDepth 20000 in
theorem inX4_column_X4 : ∀ w ∈ u_ws RX4 TX4 12, w ∈ wsX4_column := by decide +kernel
set_option maxRecDepth 100000 in
set_option maxHeartbeats 4000000 in
theorem ctX4_column (l : Launch) (g : GG) (M : MM) (v1 : Int32) (v2 : Int32) (Q : Int32 → MM → Prop) (hF : full g) (hw : wX4_column Q M v1 v2) : MI g l yX4_column wsX4_column (rmOf 4 85) [.ref (gA g 0), .int v1, .int v2] M Q := by
  refine mk_MI (cc := cX4_column) (maxL := 3) (by decide) rfl (Nat.le_of_ble_eq_true rfl) ?_
  intro z Qf hC hR
  show XX z g Qf 3 0 [(0, .ref (gA g 0)), (1, .int v1), (2, .int v2)] [] M
  refine q_aload_n hC dX4_column_0 0 rfl 1 rfl ?_
  refine q_getR (C := RX4) (T := TX4) (N := 12) (ci := 4) hC inX4_column_X4 (hF.ob 0 (by decide) (fun _ => rfl)) rfl 0 (by decide) (List.mem_of_getElem? (i := 1) (by decide +kernel)) rfl 1 (fun _ => rfl) dX4_column_1 4 rfl ?_
  refine q_iload_n hC dX4_column_4 1 rfl 5 rfl ?_
  refine q_iload_n hC dX4_column_5 2 rfl 6 rfl ?_
  refine r_callI hC (go_V (q := (RX2, TX2, 14)) (As := [.int v1, .int v2]) (rest := []) hC (ctX2_hasColumn (zl z) g M 1 v1 v2 _ (hF.tp (b := 1) (Or.inl rfl)) hw) 2 gX4_column_X2_hasColumn rfl ⟨rfl, rfl⟩ (by decide +kernel) ⟨Nat.le_of_ble_eq_true rfl, Nat.le_of_ble_eq_true rfl⟩ (hF.tp (b := 1) (Or.inl rfl)).ob rfl rfl rfl (Nat.le_of_ble_eq_true rfl) dX4_column_6) 9 rfl (fun r1 M2 hw => ?_)
  refine q_if_eq hC 24 dX4_column_9 (by decide) 12 rfl hw (fun hw => ?_) (fun hw => ?_)
  · refine q_iconst (v := (-1)) hC dX4_column_24 rfl 25 rfl ?_
    exact r_iret hR dX4_column_25 hw
  · refine q_aload_n hC dX4_column_12 0 rfl 13 rfl ?_
    refine q_getR (C := RX4) (T := TX4) (N := 12) (ci := 4) hC inX4_column_X4 (hF.ob 0 (by decide) (fun _ => rfl)) rfl 0 (by decide) (List.mem_of_getElem? (i := 1) (by decide +kernel)) rfl 1 (fun _ => rfl) dX4_column_13 16 rfl ?_
    refine q_iload_n hC dX4_column_16 1 rfl 17 rfl ?_
    refine q_iload_n hC dX4_column_17 2 rfl 18 rfl ?_
    refine r_callI hC (go_V (q := (RX2, TX2, 14)) (As := [.int v1, .int v2]) (rest := []) hC (ctX2_columnOf (zl z) g M2 1 v1 v2 _ (hF.tp (b := 1) (Or.inl rfl)) hw) 2 gX4_column_X2_columnOf rfl ⟨rfl, rfl⟩ (by decide +kernel) ⟨Nat.le_of_ble_eq_true rfl, Nat.le_of_ble_eq_true rfl⟩ (hF.tp (b := 1) (Or.inl rfl)).ob rfl rfl rfl (Nat.le_of_ble_eq_true rfl) dX4_column_18) 21 rfl (fun r3 M4 hw => ?_)
    refine q_goto hC 25 dX4_column_21 (by decide) ?_
    exact r_iret hR dX4_column_25 hw
set_option maxRecDepth 20000 in
theorem inX4_state_X2 : ∀ w ∈ u_ws RX2 TX2 14, w ∈ wsX4_state := by decide +kernel
set_option maxRecDepth 20000 in
theorem inX4_state_X4 : ∀ w ∈ u_ws RX4 TX4 12, w ∈ wsX4_state := by decide +kernel
set_option maxRecDepth 100000 in
set_option maxHeartbeats 4000000 in
theorem ctX4_state (l : Launch) (g : GG) (M : MM) (v1 : Int32) (Q : Int32 → MM → Prop) (hF : full g) (hw : wX4_state Q M v1) : MI g l yX4_state wsX4_state (rmOf 6 136) [.ref (gA g 0), .int v1] M Q := by
  refine mk_MI (cc := cX4_state) (maxL := 2) (by decide) rfl (Nat.le_of_ble_eq_true rfl) ?_
  intro z Qf hC hR
  show XX z g Qf 2 0 [(0, .ref (gA g 0)), (1, .int v1)] [] M
  refine q_iload_n hC dX4_state_0 1 rfl 1 rfl ?_
  by_cases c0 : v1 = 0
  · have hw := hw.1 c0
    refine q_tabIn hC 28 dX4_state_1 (by rw [c0]; decide) (by rw [c0]; decide) (by rw [c0]; rfl) (by decide) ?_
    refine q_aload_n hC dX4_state_28 0 rfl 29 rfl ?_
    refine q_getR (C := RX4) (T := TX4) (N := 12) (ci := 4) hC inX4_state_X4 (hF.ob 0 (by decide) (fun _ => rfl)) rfl 0 (by decide) (List.mem_of_getElem? (i := 1) (by decide +kernel)) rfl 1 (fun _ => rfl) dX4_state_29 32 rfl ?_
    refine q_aload_n hC dX4_state_32 0 rfl 33 rfl ?_
    refine q_getR (C := RX4) (T := TX4) (N := 12) (ci := 4) hC inX4_state_X4 (hF.ob 0 (by decide) (fun _ => rfl)) rfl 0 (by decide) (List.mem_of_getElem? (i := 1) (by decide +kernel)) rfl 1 (fun _ => rfl) dX4_state_33 36 rfl ?_
    refine q_getI (C := RX2) (T := TX2) (N := 14) (ci := 2) hC inX4_state_X2 (hF.tp (b := 1) (Or.inl rfl)).ob rfl 12 (by decide) (List.mem_of_getElem? (i := 2) (by decide +kernel)) rfl (fun _ => rfl) dX4_state_36 39 rfl ?_
    refine r_callI hC (go_V (q := (RX2, TX2, 14)) (As := [.int (M 1 12)]) (rest := []) hC (ctX2_lostBlocksBy (zl z) g M 1 (M 1 12) _ (hF.tp (b := 1) (Or.inl rfl)) hw) 1 gX4_state_X2_lostBlocksBy rfl ⟨rfl, rfl⟩ (by decide +kernel) ⟨Nat.le_of_ble_eq_true rfl, Nat.le_of_ble_eq_true rfl⟩ (hF.tp (b := 1) (Or.inl rfl)).ob rfl rfl rfl (Nat.le_of_ble_eq_true rfl) dX4_state_39) 42 rfl (fun r1 M2 hw => ?_)
    exact r_iret hR dX4_state_42 hw
  · have hw := hw.2 c0
    by_cases c1 : v1 = 1
    · have hw := hw.1 c1
      refine q_tabIn hC 43 dX4_state_1 (by rw [c1]; decide) (by rw [c1]; decide) (by rw [c1]; rfl) (by decide) ?_
      refine q_aload_n hC dX4_state_43 0 rfl 44 rfl ?_
      refine q_getR (C := RX4) (T := TX4) (N := 12) (ci := 4) hC inX4_state_X4 (hF.ob 0 (by decide) (fun _ => rfl)) rfl 0 (by decide) (List.mem_of_getElem? (i := 1) (by decide +kernel)) rfl 1 (fun _ => rfl) dX4_state_44 47 rfl ?_
      refine r_callI hC (go_V (q := (RX2, TX2, 14)) (As := []) (rest := []) hC (ctX2_fooledBlocks (zl z) g M 1 _ (hF.tp (b := 1) (Or.inl rfl)) hw) 0 gX4_state_X2_fooledBlocks rfl ⟨rfl, rfl⟩ (by decide +kernel) ⟨Nat.le_of_ble_eq_true rfl, Nat.le_of_ble_eq_true rfl⟩ (hF.tp (b := 1) (Or.inl rfl)).ob rfl rfl rfl (Nat.le_of_ble_eq_true rfl) dX4_state_47) 50 rfl (fun r3 M4 hw => ?_)
      exact r_iret hR dX4_state_50 hw
    · have hw := hw.2 c1
      by_cases c2 : v1 = 2
      · have hw := hw.1 c2
        refine q_tabIn hC 51 dX4_state_1 (by rw [c2]; decide) (by rw [c2]; decide) (by rw [c2]; rfl) (by decide) ?_
        refine q_aload_n hC dX4_state_51 0 rfl 52 rfl ?_
        refine q_getR (C := RX4) (T := TX4) (N := 12) (ci := 4) hC inX4_state_X4 (hF.ob 0 (by decide) (fun _ => rfl)) rfl 0 (by decide) (List.mem_of_getElem? (i := 1) (by decide +kernel)) rfl 1 (fun _ => rfl) dX4_state_52 55 rfl ?_
        refine r_callI hC (go_V (q := (RX2, TX2, 14)) (As := []) (rest := []) hC (ctX2_mendedBlocks (zl z) g M 1 _ (hF.tp (b := 1) (Or.inl rfl)) hw) 0 gX4_state_X2_mendedBlocks rfl ⟨rfl, rfl⟩ (by decide +kernel) ⟨Nat.le_of_ble_eq_true rfl, Nat.le_of_ble_eq_true rfl⟩ (hF.tp (b := 1) (Or.inl rfl)).ob rfl rfl rfl (Nat.le_of_ble_eq_true rfl) dX4_state_55) 58 rfl (fun r5 M6 hw => ?_)
        exact r_iret hR dX4_state_58 hw
      · have hw := hw.2 c2
        refine q_tabOut hC 59 dX4_state_1 (tab_out2 c0 c1 c2) (by decide) ?_
        refine q_iconst (v := (-1)) hC dX4_state_59 rfl 60 rfl ?_
        exact r_iret hR dX4_state_60 hw
set_option maxRecDepth 20000 in
theorem inX4_best_X4 : ∀ w ∈ u_ws RX4 TX4 12, w ∈ wsX4_best := by decide +kernel
set_option maxRecDepth 100000 in
set_option maxHeartbeats 4000000 in
theorem ctX4_best (l : Launch) (g : GG) (M : MM) (v1 : Int32) (Q : Int32 → MM → Prop) (hF : full g) (hw : wX4_best Q M v1) : MI g l yX4_best wsX4_best (rmOf 6 136) [.ref (gA g 0), .int v1] M Q := by
  refine mk_MI (cc := cX4_best) (maxL := 6) (by decide) rfl (Nat.le_of_ble_eq_true rfl) ?_
  intro z Qf hC hR
  show XX z g Qf 6 0 [(0, .ref (gA g 0)), (1, .int v1)] [] M
  have B61 : ∀ (K28 : MM → Int32 → Int32 → Int32 → Prop) (hK28 : ∀ (M : MM) (v2 : Int32) (v3 : Int32) (v4 : Int32) , K28 M v2 v3 v4 → XX z g Qf 6 28 [(0, .ref (gA g 0)), (1, .int v1), (2, .int v2), (3, .int v3), (4, .int v4)] [] M) (M : MM) (v2 : Int32) (v3 : Int32) (v4 : Int32), wX4_best_61 Q K28 v1 M v2 v3 v4 → XX z g Qf 6 61 [(0, .ref (gA g 0)), (1, .int v1), (2, .int v2), (3, .int v3), (4, .int v4)] [] M := by
    intro K28 hK28 M v2 v3 v4 hw
    refine q_iinc (v := v4 + 1) (L' := [(4, .int (v4 + 1)), (0, .ref (gA g 0)), (1, .int v1), (2, .int v2), (3, .int v3)]) hC dX4_best_61 4 rfl rfl (by decide) rfl 64 rfl ?_
    refine q_goto hC 28 dX4_best_64 (by decide) ?_
    exact XX.sub [1, 2, 3, 4, 0] rfl (hK28 M v2 v3 (v4 + 1) hw)
  have B28 : ∀ (n : Nat) (M : MM) (v2 : Int32) (v3 : Int32) (v4 : Int32) , wX4_best_28 Q v1 n M v2 v3 v4 → XX z g Qf 6 28 [(0, .ref (gA g 0)), (1, .int v1), (2, .int v2), (3, .int v3), (4, .int v4)] [] M := by
    intro n
    induction n with
    | zero =>
      intro M v2 v3 v4 hw
      exact hw.elim
    | succ n ih =>
      intro M v2 v3 v4 hw
      refine q_iload hC dX4_best_28 4 rfl 30 rfl ?_
      refine q_bipush (v := 9) hC dX4_best_30 (by decide) 32 rfl ?_
      refine q_icmp_ge hC 67 dX4_best_32 (by decide) 35 rfl hw (fun hw => ?_) (fun hw => ?_)
      · refine q_iload_n hC dX4_best_67 1 rfl 68 rfl ?_
        refine q_if_ne hC 75 dX4_best_68 (by decide) 71 rfl hw (fun hw => ?_) (fun hw => ?_)
        · refine q_iload_n hC dX4_best_75 3 rfl 76 rfl ?_
          exact r_iret hR dX4_best_76 hw
        · refine q_iload_n hC dX4_best_71 2 rfl 72 rfl ?_
          refine q_goto hC 76 dX4_best_72 (by decide) ?_
          exact r_iret hR dX4_best_76 hw
      · refine q_aload_n hC dX4_best_35 0 rfl 36 rfl ?_
        refine q_getR (C := RX4) (T := TX4) (N := 12) (ci := 4) hC inX4_best_X4 (hF.ob 0 (by decide) (fun _ => rfl)) rfl 0 (by decide) (List.mem_of_getElem? (i := 1) (by decide +kernel)) rfl 1 (fun _ => rfl) dX4_best_36 39 rfl ?_
        refine q_iload hC dX4_best_39 4 rfl 41 rfl ?_
        refine r_callI hC (go_V (q := (RX2, TX2, 14)) (As := [.int v4]) (rest := []) hC (ctX2_lostBlocksBy (zl z) g M 1 v4 _ (hF.tp (b := 1) (Or.inl rfl)) hw) 1 gX4_best_X2_lostBlocksBy rfl ⟨rfl, rfl⟩ (by decide +kernel) ⟨Nat.le_of_ble_eq_true rfl, Nat.le_of_ble_eq_true rfl⟩ (hF.tp (b := 1) (Or.inl rfl)).ob rfl rfl rfl (Nat.le_of_ble_eq_true rfl) dX4_best_41) 44 rfl (fun r7 M8 hw => ?_)
        refine r_callI hC (go_T (As := [.int r7]) (rest := []) hC (ctJ6_bitCount_0f7a4 (zl z) g M8 r7 _ hw) 1 gX4_best_J6_bitCount_0f7a4 rfl ⟨rfl, rfl⟩ (by decide +kernel) ⟨Nat.le_of_ble_eq_true rfl, Nat.le_of_ble_eq_true rfl⟩ rfl rfl (Nat.le_of_ble_eq_true rfl) dX4_best_44) 47 rfl (fun r9 M10 hw => ?_)
        refine q_istore (L' := [(5, .int r9), (0, .ref (gA g 0)), (1, .int v1), (2, .int v2), (3, .int v3), (4, .int v4)]) hC dX4_best_47 (by decide) rfl 49 rfl ?_
        refine q_iload hC dX4_best_49 0 rfl 51 rfl ?_
        refine q_iload_n hC dX4_best_51 4 rfl 52 rfl ?_
        refine q_icmp_ge hC 61 dX4_best_52 (by decide) 55 rfl hw (fun hw => ?_) (fun hw => ?_)
        · exact XX.sub [1, 2, 3, 4, 5] rfl (B61 _ (fun M v2 v3 v4 hw => ih M v2 v3 v4 hw) M10 v2 v3 v4 hw)
        · refine q_iload hC dX4_best_55 0 rfl 57 rfl ?_
          refine q_istore_n (L' := [(3, .int r9), (5, .int r9), (0, .ref (gA g 0)), (1, .int v1), (2, .int v2), (4, .int v4)]) hC dX4_best_57 (by decide) rfl 58 rfl ?_
          refine q_iload hC dX4_best_58 5 rfl 60 rfl ?_
          refine q_istore_n (L' := [(2, .int v4), (3, .int r9), (5, .int r9), (0, .ref (gA g 0)), (1, .int v1), (4, .int v4)]) hC dX4_best_60 (by decide) rfl 61 rfl ?_
          exact XX.sub [3, 4, 0, 1, 5] rfl (B61 _ (fun M v2 v3 v4 hw => ih M v2 v3 v4 hw) M10 v4 r9 v4 hw)
  refine q_iload_n hC dX4_best_0 1 rfl 1 rfl ?_
  refine q_iconst (v := 0) hC dX4_best_1 rfl 2 rfl ?_
  refine q_iconst (v := 1) hC dX4_best_2 rfl 3 rfl ?_
  refine r_callI hC (go_T (As := [.int v1, .int 0, .int 1]) (rest := []) hC (ctX4_isBetween (zl z) g M v1 0 1 _ hw) 3 gX4_best_X4_isBetween rfl ⟨rfl, rfl⟩ (by decide +kernel) ⟨Nat.le_of_ble_eq_true rfl, Nat.le_of_ble_eq_true rfl⟩ rfl rfl (Nat.le_of_ble_eq_true rfl) dX4_best_3) 6 rfl (fun r1 M2 hw => ?_)
  refine q_if_ne hC 11 dX4_best_6 (by decide) 9 rfl hw (fun hw => ?_) (fun hw => ?_)
  · refine q_iconst (v := 0) hC dX4_best_11 rfl 12 rfl ?_
    refine q_istore_n (L' := [(2, .int 0), (0, .ref (gA g 0)), (1, .int v1)]) hC dX4_best_12 (by decide) rfl 13 rfl ?_
    refine q_aload_n hC dX4_best_13 1 rfl 14 rfl ?_
    refine q_getR (C := RX4) (T := TX4) (N := 12) (ci := 4) hC inX4_best_X4 (hF.ob 0 (by decide) (fun _ => rfl)) rfl 0 (by decide) (List.mem_of_getElem? (i := 1) (by decide +kernel)) rfl 1 (fun _ => rfl) dX4_best_14 17 rfl ?_
    refine q_iconst (v := 0) hC dX4_best_17 rfl 18 rfl ?_
    refine r_callI hC (go_V (q := (RX2, TX2, 14)) (As := [.int 0]) (rest := []) hC (ctX2_lostBlocksBy (zl z) g M2 1 0 _ (hF.tp (b := 1) (Or.inl rfl)) hw) 1 gX4_best_X2_lostBlocksBy rfl ⟨rfl, rfl⟩ (by decide +kernel) ⟨Nat.le_of_ble_eq_true rfl, Nat.le_of_ble_eq_true rfl⟩ (hF.tp (b := 1) (Or.inl rfl)).ob rfl rfl rfl (Nat.le_of_ble_eq_true rfl) dX4_best_18) 21 rfl (fun r3 M4 hw => ?_)
    refine r_callI hC (go_T (As := [.int r3]) (rest := []) hC (ctJ6_bitCount_0f7a4 (zl z) g M4 r3 _ hw) 1 gX4_best_J6_bitCount_0f7a4 rfl ⟨rfl, rfl⟩ (by decide +kernel) ⟨Nat.le_of_ble_eq_true rfl, Nat.le_of_ble_eq_true rfl⟩ rfl rfl (Nat.le_of_ble_eq_true rfl) dX4_best_21) 24 rfl (fun r5 M6 hw => ?_)
    refine q_istore_n (L' := [(3, .int r5), (2, .int 0), (0, .ref (gA g 0)), (1, .int v1)]) hC dX4_best_24 (by decide) rfl 25 rfl ?_
    refine q_iconst (v := 1) hC dX4_best_25 rfl 26 rfl ?_
    refine q_istore (L' := [(4, .int 1), (3, .int r5), (2, .int 0), (0, .ref (gA g 0)), (1, .int v1)]) hC dX4_best_26 (by decide) rfl 28 rfl ?_
    obtain ⟨n0, hw⟩ := hw
    exact XX.sub [3, 4, 2, 1, 0] rfl (B28 n0 M6 0 r5 1 hw)
  · refine q_iconst (v := (-1)) hC dX4_best_9 rfl 10 rfl ?_
    exact r_iret hR dX4_best_10 hw
set_option maxRecDepth 20000 in
theorem inX4_order_X0 : ∀ w ∈ u_ws RX0 TX0 6, w ∈ wsX4_order := by decide +kernel
set_option maxRecDepth 20000 in
theorem inX4_order_X4 : ∀ w ∈ u_ws RX4 TX4 12, w ∈ wsX4_order := by decide +kernel
set_option maxRecDepth 100000 in
set_option maxHeartbeats 4000000 in
theorem ctX4_order (l : Launch) (g : GG) (M : MM) (v1 : Int32) (v2 : Int32) (Q : Int32 → MM → Prop) (hF : full g) (hw : wX4_order Q M v1 v2) : MI g l yX4_order wsX4_order (rmOf 6 143) [.ref (gA g 0), .int v1, .int v2] M Q := by
  refine mk_MI (cc := cX4_order) (maxL := 5) (by decide) rfl (Nat.le_of_ble_eq_true rfl) ?_
  intro z Qf hC hR
  show XX z g Qf 5 0 [(0, .ref (gA g 0)), (1, .int v1), (2, .int v2)] [] M
  have B54 : ∀ (M : MM) (v3 : Int32) (v4 : Int32), wX4_order_54 Q v1 v2 M v3 v4 → XX z g Qf 5 54 [(0, .ref (gA g 0)), (1, .int v1), (3, .int v3), (4, .int v4)] [] M := by
    intro M v3 v4 hw
    refine q_iload_n hC dX4_order_54 1 rfl 55 rfl ?_
    refine r_callI hC (go_T (As := [.int v1]) (rest := []) hC (ctJ6_bitCount_0f7a4 (zl z) g M v1 _ hw) 1 gX4_order_J6_bitCount_0f7a4 rfl ⟨rfl, rfl⟩ (by decide +kernel) ⟨Nat.le_of_ble_eq_true rfl, Nat.le_of_ble_eq_true rfl⟩ rfl rfl (Nat.le_of_ble_eq_true rfl) dX4_order_55) 58 rfl (fun r8 M9 hw => ?_)
    refine q_bipush (v := 8) hC dX4_order_58 (by decide) 60 rfl ?_
    refine q_icmp_le hC 66 dX4_order_60 (by decide) 63 rfl hw (fun hw => ?_) (fun hw => ?_)
    · refine q_aload_n hC dX4_order_66 0 rfl 67 rfl ?_
      refine q_getR (C := RX4) (T := TX4) (N := 12) (ci := 4) hC inX4_order_X4 (hF.ob 0 (by decide) (fun _ => rfl)) rfl 2 (by decide) (List.mem_of_getElem? (i := 2) (by decide +kernel)) rfl 39 (fun _ => rfl) dX4_order_67 70 rfl ?_
      refine q_aload_n hC dX4_order_70 0 rfl 71 rfl ?_
      refine q_getR (C := RX4) (T := TX4) (N := 12) (ci := 4) hC inX4_order_X4 (hF.ob 0 (by decide) (fun _ => rfl)) rfl 0 (by decide) (List.mem_of_getElem? (i := 1) (by decide +kernel)) rfl 1 (fun _ => rfl) dX4_order_71 74 rfl ?_
      refine q_iload_n hC dX4_order_74 1 rfl 75 rfl ?_
      refine r_callV hC (go_V (q := (RX0, TX0, 6)) (As := [.ref (gA g 1), .int v1]) (rest := []) hC (ctX0_plan (zl z) g M9 1 v1 _ hF (hF.tp (b := 1) (Or.inl rfl)) hw) 2 gX4_order_X0_plan rfl ⟨rfl, rfl⟩ (by decide +kernel) ⟨Nat.le_of_ble_eq_true rfl, Nat.le_of_ble_eq_true rfl⟩ (hF.ob 39 (by decide) (fun _ => rfl)) rfl rfl rfl (Nat.le_of_ble_eq_true rfl) dX4_order_75) 78 rfl (fun M10 hw => ?_)
      refine q_iload hC dX4_order_78 3 rfl 80 rfl ?_
      refine q_if_eq hC 93 dX4_order_80 (by decide) 83 rfl hw (fun hw => ?_) (fun hw => ?_)
      · refine q_aload_n hC dX4_order_93 0 rfl 94 rfl ?_
        refine q_getR (C := RX4) (T := TX4) (N := 12) (ci := 4) hC inX4_order_X4 (hF.ob 0 (by decide) (fun _ => rfl)) rfl 2 (by decide) (List.mem_of_getElem? (i := 2) (by decide +kernel)) rfl 39 (fun _ => rfl) dX4_order_94 97 rfl ?_
        refine q_iload_n hC dX4_order_97 2 rfl 98 rfl ?_
        refine r_callI hC (go_V (q := (RX0, TX0, 6)) (As := [.int v3]) (rest := []) hC (ctX0_stopAt (zl z) g M10 v3 _ hF hw) 1 gX4_order_X0_stopAt rfl ⟨rfl, rfl⟩ (by decide +kernel) ⟨Nat.le_of_ble_eq_true rfl, Nat.le_of_ble_eq_true rfl⟩ (hF.ob 39 (by decide) (fun _ => rfl)) rfl rfl rfl (Nat.le_of_ble_eq_true rfl) dX4_order_98) 101 rfl (fun r11 M12 hw => ?_)
        exact r_iret hR dX4_order_101 hw
      · refine q_aload_n hC dX4_order_83 0 rfl 84 rfl ?_
        refine q_getR (C := RX4) (T := TX4) (N := 12) (ci := 4) hC inX4_order_X4 (hF.ob 0 (by decide) (fun _ => rfl)) rfl 2 (by decide) (List.mem_of_getElem? (i := 2) (by decide +kernel)) rfl 39 (fun _ => rfl) dX4_order_84 87 rfl ?_
        refine q_getI (C := RX0) (T := TX0) (N := 6) (ci := 0) hC inX4_order_X0 (hF.ob 39 (by decide) (fun _ => rfl)) rfl 5 (by decide) (List.mem_of_getElem? (i := 3) (by decide +kernel)) rfl (fun _ => rfl) dX4_order_87 90 rfl ?_
        refine q_goto hC 101 dX4_order_90 (by decide) ?_
        exact r_iret hR dX4_order_101 hw
    · refine q_bipush (v := (-2)) hC dX4_order_63 (by decide) 65 rfl ?_
      exact r_iret hR dX4_order_65 hw
  have B27 : ∀ (M : MM) (v3 : Int32) (p0 : Int32), wX4_order_27 Q v1 v2 M v3 p0 → XX z g Qf 5 27 [(0, .ref (gA g 0)), (1, .int v1), (3, .int v3)] [.int p0] M := by
    intro M v3 p0 hw
    refine q_istore (L' := [(4, .int p0), (0, .ref (gA g 0)), (1, .int v1), (3, .int v3)]) hC dX4_order_27 (by decide) rfl 29 rfl ?_
    refine q_iload hC dX4_order_29 0 rfl 31 rfl ?_
    refine q_if_ne hC 54 dX4_order_31 (by decide) 34 rfl hw (fun hw => ?_) (fun hw => ?_)
    · exact XX.sub [1, 2, 3, 0] rfl (B54 M v3 p0 hw)
    · refine q_iload_n hC dX4_order_34 3 rfl 35 rfl ?_
      refine q_iconst (v := 0) hC dX4_order_35 rfl 36 rfl ?_
      refine q_bipush (v := 7) hC dX4_order_36 (by decide) 38 rfl ?_
      refine r_callI hC (go_T (As := [.int v3, .int 0, .int 7]) (rest := []) hC (ctX4_isBetween (zl z) g M v3 0 7 _ hw) 3 gX4_order_X4_isBetween rfl ⟨rfl, rfl⟩ (by decide +kernel) ⟨Nat.le_of_ble_eq_true rfl, Nat.le_of_ble_eq_true rfl⟩ rfl rfl (Nat.le_of_ble_eq_true rfl) dX4_order_38) 41 rfl (fun r4 M5 hw => ?_)
      refine q_if_eq hC 52 dX4_order_41 (by decide) 44 rfl hw (fun hw => ?_) (fun hw => ?_)
      · refine q_iconst (v := (-1)) hC dX4_order_52 rfl 53 rfl ?_
        exact r_iret hR dX4_order_53 hw
      · refine q_iload_n hC dX4_order_44 3 rfl 45 rfl ?_
        refine q_iload_n hC dX4_order_45 2 rfl 46 rfl ?_
        refine r_callI hC (go_T (As := [.int v1]) (rest := [.int v3]) hC (ctJ6_bitCount_0f7a4 (zl z) g M5 v1 _ hw) 1 gX4_order_J6_bitCount_0f7a4 rfl ⟨rfl, rfl⟩ (by decide +kernel) ⟨Nat.le_of_ble_eq_true rfl, Nat.le_of_ble_eq_true rfl⟩ rfl rfl (Nat.le_of_ble_eq_true rfl) dX4_order_46) 49 rfl (fun r6 M7 hw => ?_)
        refine q_icmp_lt hC 54 dX4_order_49 (by decide) 52 rfl hw (fun hw => ?_) (fun hw => ?_)
        · exact XX.sub [1, 2, 3, 0] rfl (B54 M7 v3 p0 hw)
        · refine q_iconst (v := (-1)) hC dX4_order_52 rfl 53 rfl ?_
          exact r_iret hR dX4_order_53 hw
  refine q_aload_n hC dX4_order_0 0 rfl 1 rfl ?_
  refine q_getR (C := RX4) (T := TX4) (N := 12) (ci := 4) hC inX4_order_X4 (hF.ob 0 (by decide) (fun _ => rfl)) rfl 0 (by decide) (List.mem_of_getElem? (i := 1) (by decide +kernel)) rfl 1 (fun _ => rfl) dX4_order_1 4 rfl ?_
  refine q_iload_n hC dX4_order_4 1 rfl 5 rfl ?_
  refine r_callI hC (go_V (q := (RX2, TX2, 14)) (As := [.int v1]) (rest := []) hC (ctX2_hasAllOf (zl z) g M 1 v1 _ (hF.tp (b := 1) (Or.inl rfl)) hw) 1 gX4_order_X2_hasAllOf rfl ⟨rfl, rfl⟩ (by decide +kernel) ⟨Nat.le_of_ble_eq_true rfl, Nat.le_of_ble_eq_true rfl⟩ (hF.tp (b := 1) (Or.inl rfl)).ob rfl rfl rfl (Nat.le_of_ble_eq_true rfl) dX4_order_5) 8 rfl (fun r1 M2 hw => ?_)
  refine q_if_ne hC 13 dX4_order_8 (by decide) 11 rfl hw (fun hw => ?_) (fun hw => ?_)
  · refine q_iload_n hC dX4_order_13 2 rfl 14 rfl ?_
    refine q_bipush (v := 10) hC dX4_order_14 (by decide) 16 rfl ?_
    refine q_isub hC dX4_order_16 17 rfl ?_
    refine q_nameI (fun x3 ex3 => ?_)
    have hw := hw x3 ex3
    refine q_istore_n (L' := [(3, .int x3), (0, .ref (gA g 0)), (1, .int v1), (2, .int v2)]) hC dX4_order_17 (by decide) rfl 18 rfl ?_
    refine q_iload_n hC dX4_order_18 3 rfl 19 rfl ?_
    refine q_if_ne hC 26 dX4_order_19 (by decide) 22 rfl hw (fun hw => ?_) (fun hw => ?_)
    · refine q_iconst (v := 0) hC dX4_order_26 rfl 27 rfl ?_
      exact XX.sub [1, 2, 0] rfl (B27 M2 x3 0 hw)
    · refine q_iconst (v := 1) hC dX4_order_22 rfl 23 rfl ?_
      refine q_goto hC 27 dX4_order_23 (by decide) ?_
      exact XX.sub [1, 2, 0] rfl (B27 M2 x3 1 hw)
  · refine q_iconst (v := (-1)) hC dX4_order_11 rfl 12 rfl ?_
    exact r_iret hR dX4_order_12 hw
set_option maxRecDepth 20000 in
theorem inX4_reads_X0 : ∀ w ∈ u_ws RX0 TX0 6, w ∈ wsX4_reads := by decide +kernel
set_option maxRecDepth 20000 in
theorem inX4_reads_X2 : ∀ w ∈ u_ws RX2 TX2 14, w ∈ wsX4_reads := by decide +kernel
set_option maxRecDepth 20000 in
theorem inX4_reads_X4 : ∀ w ∈ u_ws RX4 TX4 12, w ∈ wsX4_reads := by decide +kernel
set_option maxRecDepth 100000 in
set_option maxHeartbeats 4000000 in
theorem ctX4_reads (l : Launch) (g : GG) (M : MM) (v1 : Int32) (Q : Int32 → MM → Prop) (hF : full g) (hw : wX4_reads Q M v1) : MI g l yX4_reads wsX4_reads (rmOf 6 143) [.ref (gA g 0), .int v1] M Q := by
  refine mk_MI (cc := cX4_reads) (maxL := 2) (by decide) rfl (Nat.le_of_ble_eq_true rfl) ?_
  intro z Qf hC hR
  show XX z g Qf 2 0 [(0, .ref (gA g 0)), (1, .int v1)] [] M
  refine q_aload_n hC dX4_reads_0 0 rfl 1 rfl ?_
  refine q_getR (C := RX4) (T := TX4) (N := 12) (ci := 4) hC inX4_reads_X4 (hF.ob 0 (by decide) (fun _ => rfl)) rfl 0 (by decide) (List.mem_of_getElem? (i := 1) (by decide +kernel)) rfl 1 (fun _ => rfl) dX4_reads_1 4 rfl ?_
  refine q_iload_n hC dX4_reads_4 1 rfl 5 rfl ?_
  refine r_callI hC (go_V (q := (RX2, TX2, 14)) (As := [.int v1]) (rest := []) hC (ctX2_hasAllOf (zl z) g M 1 v1 _ (hF.tp (b := 1) (Or.inl rfl)) hw) 1 gX4_reads_X2_hasAllOf rfl ⟨rfl, rfl⟩ (by decide +kernel) ⟨Nat.le_of_ble_eq_true rfl, Nat.le_of_ble_eq_true rfl⟩ (hF.tp (b := 1) (Or.inl rfl)).ob rfl rfl rfl (Nat.le_of_ble_eq_true rfl) dX4_reads_5) 8 rfl (fun r1 M2 hw => ?_)
  refine q_if_ne hC 13 dX4_reads_8 (by decide) 11 rfl hw (fun hw => ?_) (fun hw => ?_)
  · refine q_iload_n hC dX4_reads_13 1 rfl 14 rfl ?_
    refine r_callI hC (go_T (As := [.int v1]) (rest := []) hC (ctJ6_bitCount_0f7a4 (zl z) g M2 v1 _ hw) 1 gX4_reads_J6_bitCount_0f7a4 rfl ⟨rfl, rfl⟩ (by decide +kernel) ⟨Nat.le_of_ble_eq_true rfl, Nat.le_of_ble_eq_true rfl⟩ rfl rfl (Nat.le_of_ble_eq_true rfl) dX4_reads_14) 17 rfl (fun r3 M4 hw => ?_)
    refine q_bipush (v := 8) hC dX4_reads_17 (by decide) 19 rfl ?_
    refine q_icmp_le hC 25 dX4_reads_19 (by decide) 22 rfl hw (fun hw => ?_) (fun hw => ?_)
    · refine q_iload_n hC dX4_reads_25 1 rfl 26 rfl ?_
      refine q_if_ne hC 31 dX4_reads_26 (by decide) 29 rfl hw (fun hw => ?_) (fun hw => ?_)
      · refine q_aload_n hC dX4_reads_31 0 rfl 32 rfl ?_
        refine q_getR (C := RX4) (T := TX4) (N := 12) (ci := 4) hC inX4_reads_X4 (hF.ob 0 (by decide) (fun _ => rfl)) rfl 2 (by decide) (List.mem_of_getElem? (i := 2) (by decide +kernel)) rfl 39 (fun _ => rfl) dX4_reads_32 35 rfl ?_
        refine q_aload_n hC dX4_reads_35 0 rfl 36 rfl ?_
        refine q_getR (C := RX4) (T := TX4) (N := 12) (ci := 4) hC inX4_reads_X4 (hF.ob 0 (by decide) (fun _ => rfl)) rfl 0 (by decide) (List.mem_of_getElem? (i := 1) (by decide +kernel)) rfl 1 (fun _ => rfl) dX4_reads_36 39 rfl ?_
        refine q_iload_n hC dX4_reads_39 1 rfl 40 rfl ?_
        refine r_callV hC (go_V (q := (RX0, TX0, 6)) (As := [.ref (gA g 1), .int v1]) (rest := []) hC (ctX0_plan (zl z) g M4 1 v1 _ hF (hF.tp (b := 1) (Or.inl rfl)) hw) 2 gX4_reads_X0_plan rfl ⟨rfl, rfl⟩ (by decide +kernel) ⟨Nat.le_of_ble_eq_true rfl, Nat.le_of_ble_eq_true rfl⟩ (hF.ob 39 (by decide) (fun _ => rfl)) rfl rfl rfl (Nat.le_of_ble_eq_true rfl) dX4_reads_40) 43 rfl (fun M5 hw => ?_)
        refine q_aload_n hC dX4_reads_43 0 rfl 44 rfl ?_
        refine q_getR (C := RX4) (T := TX4) (N := 12) (ci := 4) hC inX4_reads_X4 (hF.ob 0 (by decide) (fun _ => rfl)) rfl 0 (by decide) (List.mem_of_getElem? (i := 1) (by decide +kernel)) rfl 1 (fun _ => rfl) dX4_reads_44 47 rfl ?_
        refine q_dup hC dX4_reads_47 rfl 48 rfl ?_
        refine q_getI (C := RX2) (T := TX2) (N := 14) (ci := 2) hC inX4_reads_X2 (hF.tp (b := 1) (Or.inl rfl)).ob rfl 10 (by decide) (List.mem_of_getElem? (i := 3) (by decide +kernel)) rfl (fun _ => rfl) dX4_reads_48 51 rfl ?_
        refine q_aload_n hC dX4_reads_51 0 rfl 52 rfl ?_
        refine q_getR (C := RX4) (T := TX4) (N := 12) (ci := 4) hC inX4_reads_X4 (hF.ob 0 (by decide) (fun _ => rfl)) rfl 2 (by decide) (List.mem_of_getElem? (i := 2) (by decide +kernel)) rfl 39 (fun _ => rfl) dX4_reads_52 55 rfl ?_
        refine q_getI (C := RX0) (T := TX0) (N := 6) (ci := 0) hC inX4_reads_X0 (hF.ob 39 (by decide) (fun _ => rfl)) rfl 5 (by decide) (List.mem_of_getElem? (i := 4) (by decide +kernel)) rfl (fun _ => rfl) dX4_reads_55 58 rfl ?_
        refine q_iadd hC dX4_reads_58 59 rfl ?_
        refine q_putI (C := RX2) (T := TX2) (N := 14) (ci := 2) hC inX4_reads_X2 tyX2 tyX2_ok nmX2 (hF.tp (b := 1) (Or.inl rfl)).ob rfl 10 (by decide) (List.mem_of_getElem? (i := 3) (by decide +kernel)) rfl rfl rfl (fun _ => Nat.le_of_ble_eq_true rfl) (fun _ => rfl) dX4_reads_59 62 rfl (fun M6 eM6 => ?_)
        have hw := hw M6 eM6
        refine q_aload_n hC dX4_reads_62 0 rfl 63 rfl ?_
        refine q_getR (C := RX4) (T := TX4) (N := 12) (ci := 4) hC inX4_reads_X4 (hF.ob 0 (by decide) (fun _ => rfl)) rfl 0 (by decide) (List.mem_of_getElem? (i := 1) (by decide +kernel)) rfl 1 (fun _ => rfl) dX4_reads_63 66 rfl ?_
        refine q_aload_n hC dX4_reads_66 0 rfl 67 rfl ?_
        refine q_getR (C := RX4) (T := TX4) (N := 12) (ci := 4) hC inX4_reads_X4 (hF.ob 0 (by decide) (fun _ => rfl)) rfl 0 (by decide) (List.mem_of_getElem? (i := 1) (by decide +kernel)) rfl 1 (fun _ => rfl) dX4_reads_67 70 rfl ?_
        refine q_aload_n hC dX4_reads_70 0 rfl 71 rfl ?_
        refine q_getR (C := RX4) (T := TX4) (N := 12) (ci := 4) hC inX4_reads_X4 (hF.ob 0 (by decide) (fun _ => rfl)) rfl 2 (by decide) (List.mem_of_getElem? (i := 2) (by decide +kernel)) rfl 39 (fun _ => rfl) dX4_reads_71 74 rfl ?_
        refine q_aload_n hC dX4_reads_74 0 rfl 75 rfl ?_
        refine q_getR (C := RX4) (T := TX4) (N := 12) (ci := 4) hC inX4_reads_X4 (hF.ob 0 (by decide) (fun _ => rfl)) rfl 2 (by decide) (List.mem_of_getElem? (i := 2) (by decide +kernel)) rfl 39 (fun _ => rfl) dX4_reads_75 78 rfl ?_
        refine q_getI (C := RX0) (T := TX0) (N := 6) (ci := 0) hC inX4_reads_X0 (hF.ob 39 (by decide) (fun _ => rfl)) rfl 4 (by decide) (List.mem_of_getElem? (i := 5) (by decide +kernel)) rfl (fun _ => rfl) dX4_reads_78 81 rfl ?_
        refine q_iconst (v := 1) hC dX4_reads_81 rfl 82 rfl ?_
        refine q_isub hC dX4_reads_82 83 rfl ?_
        refine r_callI hC (go_V (q := (RX0, TX0, 6)) (As := [.int ((M6 39 4) - (1 : Int32))]) (rest := [.ref (gA g 1), .ref (gA g 1)]) hC (ctX0_stopAt (zl z) g M6 ((M6 39 4) - (1 : Int32)) _ hF hw) 1 gX4_reads_X0_stopAt rfl ⟨rfl, rfl⟩ (by decide +kernel) ⟨Nat.le_of_ble_eq_true rfl, Nat.le_of_ble_eq_true rfl⟩ (hF.ob 39 (by decide) (fun _ => rfl)) rfl rfl rfl (Nat.le_of_ble_eq_true rfl) dX4_reads_83) 86 rfl (fun r7 M8 hw => ?_)
        refine r_callI hC (go_V (q := (RX2, TX2, 14)) (As := [.int r7]) (rest := [.ref (gA g 1)]) hC (ctX2_endOf (zl z) g M8 1 r7 _ (hF.tp (b := 1) (Or.inl rfl)) hw) 1 gX4_reads_X2_endOf rfl ⟨rfl, rfl⟩ (by decide +kernel) ⟨Nat.le_of_ble_eq_true rfl, Nat.le_of_ble_eq_true rfl⟩ (hF.tp (b := 1) (Or.inl rfl)).ob rfl rfl rfl (Nat.le_of_ble_eq_true rfl) dX4_reads_86) 89 rfl (fun r9 M10 hw => ?_)
        refine q_putI (C := RX2) (T := TX2) (N := 14) (ci := 2) hC inX4_reads_X2 tyX2 tyX2_ok nmX2 (hF.tp (b := 1) (Or.inl rfl)).ob rfl 9 (by decide) (List.mem_of_getElem? (i := 6) (by decide +kernel)) rfl rfl rfl (fun _ => Nat.le_of_ble_eq_true rfl) (fun _ => rfl) dX4_reads_89 92 rfl (fun M11 eM11 => ?_)
        have hw := hw M11 eM11
        refine q_aload_n hC dX4_reads_92 0 rfl 93 rfl ?_
        refine q_getR (C := RX4) (T := TX4) (N := 12) (ci := 4) hC inX4_reads_X4 (hF.ob 0 (by decide) (fun _ => rfl)) rfl 2 (by decide) (List.mem_of_getElem? (i := 2) (by decide +kernel)) rfl 39 (fun _ => rfl) dX4_reads_93 96 rfl ?_
        refine q_getI (C := RX0) (T := TX0) (N := 6) (ci := 0) hC inX4_reads_X0 (hF.ob 39 (by decide) (fun _ => rfl)) rfl 5 (by decide) (List.mem_of_getElem? (i := 4) (by decide +kernel)) rfl (fun _ => rfl) dX4_reads_96 99 rfl ?_
        exact r_iret hR dX4_reads_99 hw
      · refine q_iconst (v := 0) hC dX4_reads_29 rfl 30 rfl ?_
        exact r_iret hR dX4_reads_30 hw
    · refine q_bipush (v := (-2)) hC dX4_reads_22 (by decide) 24 rfl ?_
      exact r_iret hR dX4_reads_24 hw
  · refine q_iconst (v := (-1)) hC dX4_reads_11 rfl 12 rfl ?_
    exact r_iret hR dX4_reads_12 hw
set_option maxRecDepth 20000 in
theorem inX4_cut_X4 : ∀ w ∈ u_ws RX4 TX4 12, w ∈ wsX4_cut := by decide +kernel
set_option maxRecDepth 100000 in
set_option maxHeartbeats 4000000 in
theorem ctX4_cut (l : Launch) (g : GG) (M : MM) (v1 : Int32) (v2 : Int32) (Q : Int32 → MM → Prop) (hF : full g) (hw : wX4_cut Q M v1 v2) : MI g l yX4_cut wsX4_cut (rmOf 4 95) [.ref (gA g 0), .int v1, .int v2] M Q := by
  refine mk_MI (cc := cX4_cut) (maxL := 3) (by decide) rfl (Nat.le_of_ble_eq_true rfl) ?_
  intro z Qf hC hR
  show XX z g Qf 3 0 [(0, .ref (gA g 0)), (1, .int v1), (2, .int v2)] [] M
  refine q_aload_n hC dX4_cut_0 0 rfl 1 rfl ?_
  refine q_getR (C := RX4) (T := TX4) (N := 12) (ci := 4) hC inX4_cut_X4 (hF.ob 0 (by decide) (fun _ => rfl)) rfl 0 (by decide) (List.mem_of_getElem? (i := 1) (by decide +kernel)) rfl 1 (fun _ => rfl) dX4_cut_1 4 rfl ?_
  refine q_iload_n hC dX4_cut_4 1 rfl 5 rfl ?_
  refine r_callI hC (go_V (q := (RX2, TX2, 14)) (As := [.int v1]) (rest := []) hC (ctX2_hasPlace (zl z) g M 1 v1 _ (hF.tp (b := 1) (Or.inl rfl)) hw) 1 gX4_cut_X2_hasPlace rfl ⟨rfl, rfl⟩ (by decide +kernel) ⟨Nat.le_of_ble_eq_true rfl, Nat.le_of_ble_eq_true rfl⟩ (hF.tp (b := 1) (Or.inl rfl)).ob rfl rfl rfl (Nat.le_of_ble_eq_true rfl) dX4_cut_5) 8 rfl (fun r1 M2 hw => ?_)
  refine q_if_eq hC 27 dX4_cut_8 (by decide) 11 rfl hw (fun hw => ?_) (fun hw => ?_)
  · refine q_iconst (v := (-1)) hC dX4_cut_27 rfl 28 rfl ?_
    exact r_iret hR dX4_cut_28 hw
  · refine q_aload_n hC dX4_cut_11 0 rfl 12 rfl ?_
    refine q_getR (C := RX4) (T := TX4) (N := 12) (ci := 4) hC inX4_cut_X4 (hF.ob 0 (by decide) (fun _ => rfl)) rfl 0 (by decide) (List.mem_of_getElem? (i := 1) (by decide +kernel)) rfl 1 (fun _ => rfl) dX4_cut_12 15 rfl ?_
    refine q_iload_n hC dX4_cut_15 2 rfl 16 rfl ?_
    refine r_callI hC (go_V (q := (RX2, TX2, 14)) (As := [.int v2]) (rest := []) hC (ctX2_hasPlace (zl z) g M2 1 v2 _ (hF.tp (b := 1) (Or.inl rfl)) hw) 1 gX4_cut_X2_hasPlace rfl ⟨rfl, rfl⟩ (by decide +kernel) ⟨Nat.le_of_ble_eq_true rfl, Nat.le_of_ble_eq_true rfl⟩ (hF.tp (b := 1) (Or.inl rfl)).ob rfl rfl rfl (Nat.le_of_ble_eq_true rfl) dX4_cut_16) 19 rfl (fun r3 M4 hw => ?_)
    refine q_if_eq hC 27 dX4_cut_19 (by decide) 22 rfl hw (fun hw => ?_) (fun hw => ?_)
    · refine q_iconst (v := (-1)) hC dX4_cut_27 rfl 28 rfl ?_
      exact r_iret hR dX4_cut_28 hw
    · refine q_iload_n hC dX4_cut_22 2 rfl 23 rfl ?_
      refine q_iload_n hC dX4_cut_23 1 rfl 24 rfl ?_
      refine q_icmp_gt hC 29 dX4_cut_24 (by decide) 27 rfl hw (fun hw => ?_) (fun hw => ?_)
      · refine q_aload_n hC dX4_cut_29 0 rfl 30 rfl ?_
        refine q_getR (C := RX4) (T := TX4) (N := 12) (ci := 4) hC inX4_cut_X4 (hF.ob 0 (by decide) (fun _ => rfl)) rfl 0 (by decide) (List.mem_of_getElem? (i := 1) (by decide +kernel)) rfl 1 (fun _ => rfl) dX4_cut_30 33 rfl ?_
        refine q_iconst (v := 0) hC dX4_cut_33 rfl 34 rfl ?_
        refine r_callI hC (go_V (q := (RX2, TX2, 14)) (As := [.int 0]) (rest := []) hC (ctX2_ruled (zl z) g M4 1 0 _ (hF.tp (b := 1) (Or.inl rfl)) hw) 1 gX4_cut_X2_ruled rfl ⟨rfl, rfl⟩ (by decide +kernel) ⟨Nat.le_of_ble_eq_true rfl, Nat.le_of_ble_eq_true rfl⟩ (hF.tp (b := 1) (Or.inl rfl)).ob rfl rfl rfl (Nat.le_of_ble_eq_true rfl) dX4_cut_34) 37 rfl (fun r5 M6 hw => ?_)
        refine q_iload_n hC dX4_cut_37 2 rfl 38 rfl ?_
        refine q_iload_n hC dX4_cut_38 1 rfl 39 rfl ?_
        refine q_isub hC dX4_cut_39 40 rfl ?_
        refine q_isub hC dX4_cut_40 41 rfl ?_
        refine q_bipush (v := 20) hC dX4_cut_41 (by decide) 43 rfl ?_
        refine q_icmp_ge hC 49 dX4_cut_43 (by decide) 46 rfl hw (fun hw => ?_) (fun hw => ?_)
        · refine q_aload_n hC dX4_cut_49 0 rfl 50 rfl ?_
          refine q_getR (C := RX4) (T := TX4) (N := 12) (ci := 4) hC inX4_cut_X4 (hF.ob 0 (by decide) (fun _ => rfl)) rfl 0 (by decide) (List.mem_of_getElem? (i := 1) (by decide +kernel)) rfl 1 (fun _ => rfl) dX4_cut_50 53 rfl ?_
          refine q_iload_n hC dX4_cut_53 1 rfl 54 rfl ?_
          refine q_iload_n hC dX4_cut_54 2 rfl 55 rfl ?_
          refine r_callI hC (go_V (q := (RX2, TX2, 14)) (As := [.int v1, .int v2]) (rest := []) hC (ctX2_cutOut (zl z) g M6 1 v1 v2 _ (hF.tp (b := 1) (Or.inl rfl)) hw) 2 gX4_cut_X2_cutOut rfl ⟨rfl, rfl⟩ (by decide +kernel) ⟨Nat.le_of_ble_eq_true rfl, Nat.le_of_ble_eq_true rfl⟩ (hF.tp (b := 1) (Or.inl rfl)).ob rfl rfl rfl (Nat.le_of_ble_eq_true rfl) dX4_cut_55) 58 rfl (fun r7 M8 hw => ?_)
          exact r_iret hR dX4_cut_58 hw
        · refine q_bipush (v := (-2)) hC dX4_cut_46 (by decide) 48 rfl ?_
          exact r_iret hR dX4_cut_48 hw
      · refine q_iconst (v := (-1)) hC dX4_cut_27 rfl 28 rfl ?_
        exact r_iret hR dX4_cut_28 hw
set_option maxRecDepth 20000 in
theorem inX4_holds_X4 : ∀ w ∈ u_ws RX4 TX4 12, w ∈ wsX4_holds := by decide +kernel
set_option maxRecDepth 100000 in
set_option maxHeartbeats 4000000 in
theorem ctX4_holds (l : Launch) (g : GG) (M : MM) (v1 : Int32) (Q : Int32 → MM → Prop) (hF : full g) (hw : wX4_holds Q M v1) : MI g l yX4_holds wsX4_holds (rmOf 3 64) [.ref (gA g 0), .int v1] M Q := by
  refine mk_MI (cc := cX4_holds) (maxL := 2) (by decide) rfl (Nat.le_of_ble_eq_true rfl) ?_
  intro z Qf hC hR
  show XX z g Qf 2 0 [(0, .ref (gA g 0)), (1, .int v1)] [] M
  refine q_iload_n hC dX4_holds_0 1 rfl 1 rfl ?_
  refine q_iconst (v := 1) hC dX4_holds_1 rfl 2 rfl ?_
  refine q_bipush (v := 99) hC dX4_holds_2 (by decide) 4 rfl ?_
  refine r_callI hC (go_T (As := [.int v1, .int 1, .int 99]) (rest := []) hC (ctX4_isBetween (zl z) g M v1 1 99 _ hw) 3 gX4_holds_X4_isBetween rfl ⟨rfl, rfl⟩ (by decide +kernel) ⟨Nat.le_of_ble_eq_true rfl, Nat.le_of_ble_eq_true rfl⟩ rfl rfl (Nat.le_of_ble_eq_true rfl) dX4_holds_4) 7 rfl (fun r1 M2 hw => ?_)
  refine q_if_eq hC 21 dX4_holds_7 (by decide) 10 rfl hw (fun hw => ?_) (fun hw => ?_)
  · refine q_iconst (v := (-1)) hC dX4_holds_21 rfl 22 rfl ?_
    exact r_iret hR dX4_holds_22 hw
  · refine q_aload_n hC dX4_holds_10 0 rfl 11 rfl ?_
    refine q_getR (C := RX4) (T := TX4) (N := 12) (ci := 4) hC inX4_holds_X4 (hF.ob 0 (by decide) (fun _ => rfl)) rfl 0 (by decide) (List.mem_of_getElem? (i := 1) (by decide +kernel)) rfl 1 (fun _ => rfl) dX4_holds_11 14 rfl ?_
    refine q_iload_n hC dX4_holds_14 1 rfl 15 rfl ?_
    refine r_callI hC (go_V (q := (RX2, TX2, 14)) (As := [.int v1]) (rest := []) hC (ctX2_roomFor (zl z) g M2 1 v1 _ (hF.tp (b := 1) (Or.inl rfl)) hw) 1 gX4_holds_X2_roomFor rfl ⟨rfl, rfl⟩ (by decide +kernel) ⟨Nat.le_of_ble_eq_true rfl, Nat.le_of_ble_eq_true rfl⟩ (hF.tp (b := 1) (Or.inl rfl)).ob rfl rfl rfl (Nat.le_of_ble_eq_true rfl) dX4_holds_15) 18 rfl (fun r3 M4 hw => ?_)
    refine q_goto hC 22 dX4_holds_18 (by decide) ?_
    exact r_iret hR dX4_holds_22 hw
set_option maxRecDepth 20000 in
theorem inX4_most_X4 : ∀ w ∈ u_ws RX4 TX4 12, w ∈ wsX4_most := by decide +kernel
set_option maxRecDepth 100000 in
set_option maxHeartbeats 4000000 in
theorem ctX4_most (l : Launch) (g : GG) (M : MM) (v1 : Int32) (Q : Int32 → MM → Prop) (hF : full g) (hw : wX4_most Q M v1) : MI g l yX4_most wsX4_most (rmOf 3 64) [.ref (gA g 0), .int v1] M Q := by
  refine mk_MI (cc := cX4_most) (maxL := 6) (by decide) rfl (Nat.le_of_ble_eq_true rfl) ?_
  intro z Qf hC hR
  show XX z g Qf 6 0 [(0, .ref (gA g 0)), (1, .int v1)] [] M
  have B58 : ∀ (K25 : MM → Int32 → Int32 → Int32 → Prop) (hK25 : ∀ (M : MM) (v2 : Int32) (v3 : Int32) (v4 : Int32) , K25 M v2 v3 v4 → XX z g Qf 6 25 [(0, .ref (gA g 0)), (1, .int v1), (2, .int v2), (3, .int v3), (4, .int v4)] [] M) (M : MM) (v2 : Int32) (v3 : Int32) (v4 : Int32), wX4_most_58 Q K25 v1 M v2 v3 v4 → XX z g Qf 6 58 [(0, .ref (gA g 0)), (1, .int v1), (2, .int v2), (3, .int v3), (4, .int v4)] [] M := by
    intro K25 hK25 M v2 v3 v4 hw
    refine q_iinc (v := v4 + 1) (L' := [(4, .int (v4 + 1)), (0, .ref (gA g 0)), (1, .int v1), (2, .int v2), (3, .int v3)]) hC dX4_most_58 4 rfl rfl (by decide) rfl 61 rfl ?_
    refine q_goto hC 25 dX4_most_61 (by decide) ?_
    exact XX.sub [1, 2, 3, 4, 0] rfl (hK25 M v2 v3 (v4 + 1) hw)
  have B25 : ∀ (n : Nat) (M : MM) (v2 : Int32) (v3 : Int32) (v4 : Int32) , wX4_most_25 Q v1 n M v2 v3 v4 → XX z g Qf 6 25 [(0, .ref (gA g 0)), (1, .int v1), (2, .int v2), (3, .int v3), (4, .int v4)] [] M := by
    intro n
    induction n with
    | zero =>
      intro M v2 v3 v4 hw
      exact hw.elim
    | succ n ih =>
      intro M v2 v3 v4 hw
      refine q_iload hC dX4_most_25 4 rfl 27 rfl ?_
      refine q_bipush (v := 99) hC dX4_most_27 (by decide) 29 rfl ?_
      refine q_icmp_gt hC 64 dX4_most_29 (by decide) 32 rfl hw (fun hw => ?_) (fun hw => ?_)
      · refine q_iload_n hC dX4_most_64 1 rfl 65 rfl ?_
        refine q_if_ne hC 72 dX4_most_65 (by decide) 68 rfl hw (fun hw => ?_) (fun hw => ?_)
        · refine q_iload_n hC dX4_most_72 3 rfl 73 rfl ?_
          exact r_iret hR dX4_most_73 hw
        · refine q_iload_n hC dX4_most_68 2 rfl 69 rfl ?_
          refine q_goto hC 73 dX4_most_69 (by decide) ?_
          exact r_iret hR dX4_most_73 hw
      · refine q_iload hC dX4_most_32 4 rfl 34 rfl ?_
        refine q_aload_n hC dX4_most_34 0 rfl 35 rfl ?_
        refine q_getR (C := RX4) (T := TX4) (N := 12) (ci := 4) hC inX4_most_X4 (hF.ob 0 (by decide) (fun _ => rfl)) rfl 0 (by decide) (List.mem_of_getElem? (i := 1) (by decide +kernel)) rfl 1 (fun _ => rfl) dX4_most_35 38 rfl ?_
        refine q_iload hC dX4_most_38 4 rfl 40 rfl ?_
        refine r_callI hC (go_V (q := (RX2, TX2, 14)) (As := [.int v4]) (rest := [.int v4]) hC (ctX2_roomFor (zl z) g M 1 v4 _ (hF.tp (b := 1) (Or.inl rfl)) hw) 1 gX4_most_X2_roomFor rfl ⟨rfl, rfl⟩ (by decide +kernel) ⟨Nat.le_of_ble_eq_true rfl, Nat.le_of_ble_eq_true rfl⟩ (hF.tp (b := 1) (Or.inl rfl)).ob rfl rfl rfl (Nat.le_of_ble_eq_true rfl) dX4_most_40) 43 rfl (fun r5 M6 hw => ?_)
        refine q_imul hC dX4_most_43 44 rfl ?_
        refine q_istore (L' := [(5, .int (v4 * r5)), (0, .ref (gA g 0)), (1, .int v1), (2, .int v2), (3, .int v3), (4, .int v4)]) hC dX4_most_44 (by decide) rfl 46 rfl ?_
        refine q_iload hC dX4_most_46 0 rfl 48 rfl ?_
        refine q_iload_n hC dX4_most_48 4 rfl 49 rfl ?_
        refine q_icmp_le hC 58 dX4_most_49 (by decide) 52 rfl hw (fun hw => ?_) (fun hw => ?_)
        · exact XX.sub [1, 2, 3, 4, 5] rfl (B58 _ (fun M v2 v3 v4 hw => ih M v2 v3 v4 hw) M6 v2 v3 v4 hw)
        · refine q_iload hC dX4_most_52 0 rfl 54 rfl ?_
          refine q_istore_n (L' := [(3, .int (v4 * r5)), (5, .int (v4 * r5)), (0, .ref (gA g 0)), (1, .int v1), (2, .int v2), (4, .int v4)]) hC dX4_most_54 (by decide) rfl 55 rfl ?_
          refine q_iload hC dX4_most_55 5 rfl 57 rfl ?_
          refine q_istore_n (L' := [(2, .int v4), (3, .int (v4 * r5)), (5, .int (v4 * r5)), (0, .ref (gA g 0)), (1, .int v1), (4, .int v4)]) hC dX4_most_57 (by decide) rfl 58 rfl ?_
          exact XX.sub [3, 4, 0, 1, 5] rfl (B58 _ (fun M v2 v3 v4 hw => ih M v2 v3 v4 hw) M6 v4 (v4 * r5) v4 hw)
  refine q_iload_n hC dX4_most_0 1 rfl 1 rfl ?_
  refine q_iconst (v := 0) hC dX4_most_1 rfl 2 rfl ?_
  refine q_iconst (v := 1) hC dX4_most_2 rfl 3 rfl ?_
  refine r_callI hC (go_T (As := [.int v1, .int 0, .int 1]) (rest := []) hC (ctX4_isBetween (zl z) g M v1 0 1 _ hw) 3 gX4_most_X4_isBetween rfl ⟨rfl, rfl⟩ (by decide +kernel) ⟨Nat.le_of_ble_eq_true rfl, Nat.le_of_ble_eq_true rfl⟩ rfl rfl (Nat.le_of_ble_eq_true rfl) dX4_most_3) 6 rfl (fun r1 M2 hw => ?_)
  refine q_if_ne hC 11 dX4_most_6 (by decide) 9 rfl hw (fun hw => ?_) (fun hw => ?_)
  · refine q_iconst (v := 1) hC dX4_most_11 rfl 12 rfl ?_
    refine q_istore_n (L' := [(2, .int 1), (0, .ref (gA g 0)), (1, .int v1)]) hC dX4_most_12 (by decide) rfl 13 rfl ?_
    refine q_aload_n hC dX4_most_13 1 rfl 14 rfl ?_
    refine q_getR (C := RX4) (T := TX4) (N := 12) (ci := 4) hC inX4_most_X4 (hF.ob 0 (by decide) (fun _ => rfl)) rfl 0 (by decide) (List.mem_of_getElem? (i := 1) (by decide +kernel)) rfl 1 (fun _ => rfl) dX4_most_14 17 rfl ?_
    refine q_iconst (v := 1) hC dX4_most_17 rfl 18 rfl ?_
    refine r_callI hC (go_V (q := (RX2, TX2, 14)) (As := [.int 1]) (rest := []) hC (ctX2_roomFor (zl z) g M2 1 1 _ (hF.tp (b := 1) (Or.inl rfl)) hw) 1 gX4_most_X2_roomFor rfl ⟨rfl, rfl⟩ (by decide +kernel) ⟨Nat.le_of_ble_eq_true rfl, Nat.le_of_ble_eq_true rfl⟩ (hF.tp (b := 1) (Or.inl rfl)).ob rfl rfl rfl (Nat.le_of_ble_eq_true rfl) dX4_most_18) 21 rfl (fun r3 M4 hw => ?_)
    refine q_istore_n (L' := [(3, .int r3), (2, .int 1), (0, .ref (gA g 0)), (1, .int v1)]) hC dX4_most_21 (by decide) rfl 22 rfl ?_
    refine q_iconst (v := 2) hC dX4_most_22 rfl 23 rfl ?_
    refine q_istore (L' := [(4, .int 2), (3, .int r3), (2, .int 1), (0, .ref (gA g 0)), (1, .int v1)]) hC dX4_most_23 (by decide) rfl 25 rfl ?_
    obtain ⟨n0, hw⟩ := hw
    exact XX.sub [3, 4, 2, 1, 0] rfl (B25 n0 M4 1 r3 2 hw)
  · refine q_iconst (v := (-1)) hC dX4_most_9 rfl 10 rfl ?_
    exact r_iret hR dX4_most_10 hw
set_option maxRecDepth 100000 in
set_option maxHeartbeats 4000000 in
theorem ctX4_isStream (l : Launch) (g : GG) (M : MM) (v0 : Int32) (v1 : Int32) (v2 : Int32) (Q : Int32 → MM → Prop)  (hw : wX4_isStream Q M v0 v1 v2) : MI g l yX4_isStream wsX4_isStream (rmOf 1 22) [.int v0, .int v1, .int v2] M Q := by
  refine mk_MZ (cc := cX4_isStream) (maxL := 3) (by decide) rfl (Nat.le_of_ble_eq_true rfl) ?_
  intro z Qf hC hR
  show XX z g Qf 3 0 [(0, .int v0), (1, .int v1), (2, .int v2)] [] M
  have B35 : ∀ (M : MM), wX4_isStream_35 Q v0 v1 v2 M → XX z g Qf 3 35 [] [] M := by
    intro M hw
    refine q_iconst (v := 0) hC dX4_isStream_35 rfl 36 rfl ?_
    exact r_iret hR dX4_isStream_36 ⟨nb_0, hw⟩
  refine q_iload_n hC dX4_isStream_0 0 rfl 1 rfl ?_
  refine q_iconst (v := 1) hC dX4_isStream_1 rfl 2 rfl ?_
  refine q_bipush (v := 99) hC dX4_isStream_2 (by decide) 4 rfl ?_
  refine r_callI hC (go_T (As := [.int v0, .int 1, .int 99]) (rest := []) hC (ctX4_isBetween (zl z) g M v0 1 99 _ hw) 3 gX4_isStream_X4_isBetween rfl ⟨rfl, rfl⟩ (by decide +kernel) ⟨Nat.le_of_ble_eq_true rfl, Nat.le_of_ble_eq_true rfl⟩ rfl rfl (Nat.le_of_ble_eq_true rfl) dX4_isStream_4) 7 rfl (fun r1 M2 hw => ?_)
  refine q_if_eq hC 35 dX4_isStream_7 (by decide) 10 rfl hw (fun hw => ?_) (fun hw => ?_)
  · exact XX.sub [] rfl (B35 M2 hw)
  · refine q_iload_n hC dX4_isStream_10 1 rfl 11 rfl ?_
    refine q_iconst (v := 1) hC dX4_isStream_11 rfl 12 rfl ?_
    refine q_bipush (v := 99) hC dX4_isStream_12 (by decide) 14 rfl ?_
    refine r_callI hC (go_T (As := [.int v1, .int 1, .int 99]) (rest := []) hC (ctX4_isBetween (zl z) g M2 v1 1 99 _ hw) 3 gX4_isStream_X4_isBetween rfl ⟨rfl, rfl⟩ (by decide +kernel) ⟨Nat.le_of_ble_eq_true rfl, Nat.le_of_ble_eq_true rfl⟩ rfl rfl (Nat.le_of_ble_eq_true rfl) dX4_isStream_14) 17 rfl (fun r3 M4 hw => ?_)
    refine q_if_eq hC 35 dX4_isStream_17 (by decide) 20 rfl hw (fun hw => ?_) (fun hw => ?_)
    · exact XX.sub [] rfl (B35 M4 hw)
    · refine q_iload_n hC dX4_isStream_20 2 rfl 21 rfl ?_
      refine q_iconst (v := 0) hC dX4_isStream_21 rfl 22 rfl ?_
      refine q_sipush (v := 9999) hC dX4_isStream_22 (by decide) 25 rfl ?_
      refine r_callI hC (go_T (As := [.int v2, .int 0, .int 9999]) (rest := []) hC (ctX4_isBetween (zl z) g M4 v2 0 9999 _ hw) 3 gX4_isStream_X4_isBetween rfl ⟨rfl, rfl⟩ (by decide +kernel) ⟨Nat.le_of_ble_eq_true rfl, Nat.le_of_ble_eq_true rfl⟩ rfl rfl (Nat.le_of_ble_eq_true rfl) dX4_isStream_25) 28 rfl (fun r5 M6 hw => ?_)
      refine q_if_eq hC 35 dX4_isStream_28 (by decide) 31 rfl hw (fun hw => ?_) (fun hw => ?_)
      · exact XX.sub [] rfl (B35 M6 hw)
      · refine q_iconst (v := 1) hC dX4_isStream_31 rfl 32 rfl ?_
        refine q_goto hC 36 dX4_isStream_32 (by decide) ?_
        exact r_iret hR dX4_isStream_36 ⟨nb_1, hw⟩
set_option maxRecDepth 20000 in
theorem inX4_stream_X4 : ∀ w ∈ u_ws RX4 TX4 12, w ∈ wsX4_stream := by decide +kernel
set_option maxRecDepth 100000 in
set_option maxHeartbeats 4000000 in
theorem ctX4_stream (l : Launch) (g : GG) (M : MM) (v1 : Int32) (v2 : Int32) (v3 : Int32) (v4 : Int32) (v5 : Int32) (Q : Int32 → MM → Prop) (hF : full g) (hw : wX4_stream Q M v1 v2 v3 v4 v5) : MI g l yX4_stream wsX4_stream (rmOf 3 75) [.ref (gA g 0), .int v1, .int v2, .int v3, .int v4, .int v5] M Q := by
  refine mk_MI (cc := cX4_stream) (maxL := 6) (by decide) rfl (Nat.le_of_ble_eq_true rfl) ?_
  intro z Qf hC hR
  show XX z g Qf 6 0 [(0, .ref (gA g 0)), (1, .int v1), (2, .int v2), (3, .int v3), (4, .int v4), (5, .int v5)] [] M
  have B52 : ∀ (M : MM) (p0 : Int32) (p1 : Int32) (p2 : Int32) (p3 : Int32) (p4 : Int32), wX4_stream_52 Q v1 v2 v3 v4 v5 M p0 p1 p2 p3 p4 → XX z g Qf 6 52 [] [.int p0, .int p1, .int p2, .int p3, .int p4, .ref (gA g 1)] M := by
    intro M p0 p1 p2 p3 p4 hw
    refine r_callI hC (go_V (q := (RX2, TX2, 14)) (As := [.int p4, .int p3, .int p2, .int p1, .int p0]) (rest := []) hC (ctX2_streamed (zl z) g M 1 p4 p3 p2 p1 p0 _ (hF.tp (b := 1) (Or.inl rfl)) hw) 5 gX4_stream_X2_streamed rfl ⟨rfl, rfl⟩ (by decide +kernel) ⟨Nat.le_of_ble_eq_true rfl, Nat.le_of_ble_eq_true rfl⟩ (hF.tp (b := 1) (Or.inl rfl)).ob rfl rfl rfl (Nat.le_of_ble_eq_true rfl) dX4_stream_52) 55 rfl (fun r7 M8 hw => ?_)
    exact r_iret hR dX4_stream_55 hw
  refine q_iload_n hC dX4_stream_0 1 rfl 1 rfl ?_
  refine q_iload_n hC dX4_stream_1 2 rfl 2 rfl ?_
  refine q_iload_n hC dX4_stream_2 3 rfl 3 rfl ?_
  refine r_callI hC (go_T (As := [.int v1, .int v2, .int v3]) (rest := []) hC (ctX4_isStream (zl z) g M v1 v2 v3 _ hw) 3 gX4_stream_X4_isStream rfl ⟨rfl, rfl⟩ (by decide +kernel) ⟨Nat.le_of_ble_eq_true rfl, Nat.le_of_ble_eq_true rfl⟩ rfl rfl (Nat.le_of_ble_eq_true rfl) dX4_stream_3) 6 rfl (fun r1 M2 hw => ?_)
  refine q_if_eq hC 30 dX4_stream_6 (by decide) 9 rfl hw (fun hw => ?_) (fun hw => ?_)
  · refine q_iconst (v := (-1)) hC dX4_stream_30 rfl 31 rfl ?_
    exact r_iret hR dX4_stream_31 hw
  · refine q_iload hC dX4_stream_9 4 rfl 11 rfl ?_
    refine q_iconst (v := 1) hC dX4_stream_11 rfl 12 rfl ?_
    refine q_bipush (v := 99) hC dX4_stream_12 (by decide) 14 rfl ?_
    refine r_callI hC (go_T (As := [.int v4, .int 1, .int 99]) (rest := []) hC (ctX4_isBetween (zl z) g M2 v4 1 99 _ hw) 3 gX4_stream_X4_isBetween rfl ⟨rfl, rfl⟩ (by decide +kernel) ⟨Nat.le_of_ble_eq_true rfl, Nat.le_of_ble_eq_true rfl⟩ rfl rfl (Nat.le_of_ble_eq_true rfl) dX4_stream_14) 17 rfl (fun r3 M4 hw => ?_)
    refine q_if_eq hC 30 dX4_stream_17 (by decide) 20 rfl hw (fun hw => ?_) (fun hw => ?_)
    · refine q_iconst (v := (-1)) hC dX4_stream_30 rfl 31 rfl ?_
      exact r_iret hR dX4_stream_31 hw
    · refine q_iload hC dX4_stream_20 5 rfl 22 rfl ?_
      refine q_iconst (v := 0) hC dX4_stream_22 rfl 23 rfl ?_
      refine q_iconst (v := 1) hC dX4_stream_23 rfl 24 rfl ?_
      refine r_callI hC (go_T (As := [.int v5, .int 0, .int 1]) (rest := []) hC (ctX4_isBetween (zl z) g M4 v5 0 1 _ hw) 3 gX4_stream_X4_isBetween rfl ⟨rfl, rfl⟩ (by decide +kernel) ⟨Nat.le_of_ble_eq_true rfl, Nat.le_of_ble_eq_true rfl⟩ rfl rfl (Nat.le_of_ble_eq_true rfl) dX4_stream_24) 27 rfl (fun r5 M6 hw => ?_)
      refine q_if_ne hC 32 dX4_stream_27 (by decide) 30 rfl hw (fun hw => ?_) (fun hw => ?_)
      · refine q_aload_n hC dX4_stream_32 0 rfl 33 rfl ?_
        refine q_getR (C := RX4) (T := TX4) (N := 12) (ci := 4) hC inX4_stream_X4 (hF.ob 0 (by decide) (fun _ => rfl)) rfl 0 (by decide) (List.mem_of_getElem? (i := 1) (by decide +kernel)) rfl 1 (fun _ => rfl) dX4_stream_33 36 rfl ?_
        refine q_iload_n hC dX4_stream_36 1 rfl 37 rfl ?_
        refine q_iload_n hC dX4_stream_37 2 rfl 38 rfl ?_
        refine q_iload_n hC dX4_stream_38 3 rfl 39 rfl ?_
        refine q_iload hC dX4_stream_39 4 rfl 41 rfl ?_
        refine q_iload hC dX4_stream_41 5 rfl 43 rfl ?_
        refine q_iconst (v := 1) hC dX4_stream_43 rfl 44 rfl ?_
        refine q_icmp_ne hC 51 dX4_stream_44 (by decide) 47 rfl hw (fun hw => ?_) (fun hw => ?_)
        · refine q_iconst (v := 0) hC dX4_stream_51 rfl 52 rfl ?_
          exact XX.sub [] rfl (B52 M6 0 v4 v3 v2 v1 hw)
        · refine q_iconst (v := 1) hC dX4_stream_47 rfl 48 rfl ?_
          refine q_goto hC 52 dX4_stream_48 (by decide) ?_
          exact XX.sub [] rfl (B52 M6 1 v4 v3 v2 v1 hw)
      · refine q_iconst (v := (-1)) hC dX4_stream_30 rfl 31 rfl ?_
        exact r_iret hR dX4_stream_31 hw
set_option maxRecDepth 20000 in
theorem inX4_buffer_X4 : ∀ w ∈ u_ws RX4 TX4 12, w ∈ wsX4_buffer := by decide +kernel
set_option maxRecDepth 100000 in
set_option maxHeartbeats 4000000 in
theorem ctX4_buffer (l : Launch) (g : GG) (M : MM) (v1 : Int32) (v2 : Int32) (v3 : Int32) (v4 : Int32) (Q : Int32 → MM → Prop) (hF : full g) (hw : wX4_buffer Q M v1 v2 v3 v4) : MI g l yX4_buffer wsX4_buffer (rmOf 3 75) [.ref (gA g 0), .int v1, .int v2, .int v3, .int v4] M Q := by
  refine mk_MI (cc := cX4_buffer) (maxL := 9) (by decide) rfl (Nat.le_of_ble_eq_true rfl) ?_
  intro z Qf hC hR
  show XX z g Qf 9 0 [(0, .ref (gA g 0)), (1, .int v1), (2, .int v2), (3, .int v3), (4, .int v4)] [] M
  have B77 : ∀ (K41 : MM → Int32 → Int32 → Int32 → Prop) (hK41 : ∀ (M : MM) (v5 : Int32) (v6 : Int32) (v7 : Int32) , K41 M v5 v6 v7 → XX z g Qf 9 41 [(0, .ref (gA g 0)), (1, .int v1), (2, .int v2), (3, .int v3), (4, .int v4), (5, .int v5), (6, .int v6), (7, .int v7)] [] M) (M : MM) (v5 : Int32) (v6 : Int32) (v7 : Int32), wX4_buffer_77 Q K41 v1 v2 v3 v4 M v5 v6 v7 → XX z g Qf 9 77 [(0, .ref (gA g 0)), (1, .int v1), (2, .int v2), (3, .int v3), (4, .int v4), (5, .int v5), (6, .int v6), (7, .int v7)] [] M := by
    intro K41 hK41 M v5 v6 v7 hw
    refine q_iinc (v := v7 + 1) (L' := [(7, .int (v7 + 1)), (0, .ref (gA g 0)), (1, .int v1), (2, .int v2), (3, .int v3), (4, .int v4), (5, .int v5), (6, .int v6)]) hC dX4_buffer_77 7 rfl rfl (by decide) rfl 80 rfl ?_
    refine q_goto hC 41 dX4_buffer_80 (by decide) ?_
    exact XX.sub [1, 2, 3, 4, 5, 6, 7, 0] rfl (hK41 M v5 v6 (v7 + 1) hw)
  have B41 : ∀ (n : Nat) (M : MM) (v5 : Int32) (v6 : Int32) (v7 : Int32) , wX4_buffer_41 Q v1 v2 v3 v4 n M v5 v6 v7 → XX z g Qf 9 41 [(0, .ref (gA g 0)), (1, .int v1), (2, .int v2), (3, .int v3), (4, .int v4), (5, .int v5), (6, .int v6), (7, .int v7)] [] M := by
    intro n
    induction n with
    | zero =>
      intro M v5 v6 v7 hw
      exact hw.elim
    | succ n ih =>
      intro M v5 v6 v7 hw
      refine q_iload hC dX4_buffer_41 7 rfl 43 rfl ?_
      refine q_iload_n hC dX4_buffer_43 1 rfl 44 rfl ?_
      refine q_icmp_gt hC 83 dX4_buffer_44 (by decide) 47 rfl hw (fun hw => ?_) (fun hw => ?_)
      · refine q_iload hC dX4_buffer_83 4 rfl 85 rfl ?_
        refine q_if_ne hC 93 dX4_buffer_85 (by decide) 88 rfl hw (fun hw => ?_) (fun hw => ?_)
        · refine q_iload hC dX4_buffer_93 6 rfl 95 rfl ?_
          exact r_iret hR dX4_buffer_95 hw
        · refine q_iload hC dX4_buffer_88 5 rfl 90 rfl ?_
          refine q_goto hC 95 dX4_buffer_90 (by decide) ?_
          exact r_iret hR dX4_buffer_95 hw
      · refine q_aload_n hC dX4_buffer_47 0 rfl 48 rfl ?_
        refine q_getR (C := RX4) (T := TX4) (N := 12) (ci := 4) hC inX4_buffer_X4 (hF.ob 0 (by decide) (fun _ => rfl)) rfl 0 (by decide) (List.mem_of_getElem? (i := 1) (by decide +kernel)) rfl 1 (fun _ => rfl) dX4_buffer_48 51 rfl ?_
        refine q_iload_n hC dX4_buffer_51 1 rfl 52 rfl ?_
        refine q_iload_n hC dX4_buffer_52 2 rfl 53 rfl ?_
        refine q_iload_n hC dX4_buffer_53 3 rfl 54 rfl ?_
        refine q_iload hC dX4_buffer_54 7 rfl 56 rfl ?_
        refine q_iconst (v := 0) hC dX4_buffer_56 rfl 57 rfl ?_
        refine r_callI hC (go_V (q := (RX2, TX2, 14)) (As := [.int v1, .int v2, .int v3, .int v7, .int 0]) (rest := []) hC (ctX2_streamed (zl z) g M 1 v1 v2 v3 v7 0 _ (hF.tp (b := 1) (Or.inl rfl)) hw) 5 gX4_buffer_X2_streamed rfl ⟨rfl, rfl⟩ (by decide +kernel) ⟨Nat.le_of_ble_eq_true rfl, Nat.le_of_ble_eq_true rfl⟩ (hF.tp (b := 1) (Or.inl rfl)).ob rfl rfl rfl (Nat.le_of_ble_eq_true rfl) dX4_buffer_57) 60 rfl (fun r7 M8 hw => ?_)
        refine q_istore (L' := [(8, .int r7), (0, .ref (gA g 0)), (1, .int v1), (2, .int v2), (3, .int v3), (4, .int v4), (5, .int v5), (6, .int v6), (7, .int v7)]) hC dX4_buffer_60 (by decide) rfl 62 rfl ?_
        refine q_iload hC dX4_buffer_62 0 rfl 64 rfl ?_
        refine q_iload hC dX4_buffer_64 7 rfl 66 rfl ?_
        refine q_icmp_ge hC 77 dX4_buffer_66 (by decide) 69 rfl hw (fun hw => ?_) (fun hw => ?_)
        · exact XX.sub [1, 2, 3, 4, 5, 6, 7, 8] rfl (B77 _ (fun M v5 v6 v7 hw => ih M v5 v6 v7 hw) M8 v5 v6 v7 hw)
        · refine q_iload hC dX4_buffer_69 0 rfl 71 rfl ?_
          refine q_istore (L' := [(6, .int r7), (8, .int r7), (0, .ref (gA g 0)), (1, .int v1), (2, .int v2), (3, .int v3), (4, .int v4), (5, .int v5), (7, .int v7)]) hC dX4_buffer_71 (by decide) rfl 73 rfl ?_
          refine q_iload hC dX4_buffer_73 8 rfl 75 rfl ?_
          refine q_istore (L' := [(5, .int v7), (6, .int r7), (8, .int r7), (0, .ref (gA g 0)), (1, .int v1), (2, .int v2), (3, .int v3), (4, .int v4), (7, .int v7)]) hC dX4_buffer_75 (by decide) rfl 77 rfl ?_
          exact XX.sub [3, 4, 5, 6, 7, 0, 1, 8] rfl (B77 _ (fun M v5 v6 v7 hw => ih M v5 v6 v7 hw) M8 v7 r7 v7 hw)
  refine q_iload_n hC dX4_buffer_0 1 rfl 1 rfl ?_
  refine q_iload_n hC dX4_buffer_1 2 rfl 2 rfl ?_
  refine q_iload_n hC dX4_buffer_2 3 rfl 3 rfl ?_
  refine r_callI hC (go_T (As := [.int v1, .int v2, .int v3]) (rest := []) hC (ctX4_isStream (zl z) g M v1 v2 v3 _ hw) 3 gX4_buffer_X4_isStream rfl ⟨rfl, rfl⟩ (by decide +kernel) ⟨Nat.le_of_ble_eq_true rfl, Nat.le_of_ble_eq_true rfl⟩ rfl rfl (Nat.le_of_ble_eq_true rfl) dX4_buffer_3) 6 rfl (fun r1 M2 hw => ?_)
  refine q_if_eq hC 19 dX4_buffer_6 (by decide) 9 rfl hw (fun hw => ?_) (fun hw => ?_)
  · refine q_iconst (v := (-1)) hC dX4_buffer_19 rfl 20 rfl ?_
    exact r_iret hR dX4_buffer_20 hw
  · refine q_iload hC dX4_buffer_9 4 rfl 11 rfl ?_
    refine q_iconst (v := 0) hC dX4_buffer_11 rfl 12 rfl ?_
    refine q_iconst (v := 1) hC dX4_buffer_12 rfl 13 rfl ?_
    refine r_callI hC (go_T (As := [.int v4, .int 0, .int 1]) (rest := []) hC (ctX4_isBetween (zl z) g M2 v4 0 1 _ hw) 3 gX4_buffer_X4_isBetween rfl ⟨rfl, rfl⟩ (by decide +kernel) ⟨Nat.le_of_ble_eq_true rfl, Nat.le_of_ble_eq_true rfl⟩ rfl rfl (Nat.le_of_ble_eq_true rfl) dX4_buffer_13) 16 rfl (fun r3 M4 hw => ?_)
    refine q_if_ne hC 21 dX4_buffer_16 (by decide) 19 rfl hw (fun hw => ?_) (fun hw => ?_)
    · refine q_iconst (v := 1) hC dX4_buffer_21 rfl 22 rfl ?_
      refine q_istore (L' := [(5, .int 1), (0, .ref (gA g 0)), (1, .int v1), (2, .int v2), (3, .int v3), (4, .int v4)]) hC dX4_buffer_22 (by decide) rfl 24 rfl ?_
      refine q_aload_n hC dX4_buffer_24 1 rfl 25 rfl ?_
      refine q_getR (C := RX4) (T := TX4) (N := 12) (ci := 4) hC inX4_buffer_X4 (hF.ob 0 (by decide) (fun _ => rfl)) rfl 0 (by decide) (List.mem_of_getElem? (i := 1) (by decide +kernel)) rfl 1 (fun _ => rfl) dX4_buffer_25 28 rfl ?_
      refine q_iload_n hC dX4_buffer_28 2 rfl 29 rfl ?_
      refine q_iload_n hC dX4_buffer_29 3 rfl 30 rfl ?_
      refine q_iload_n hC dX4_buffer_30 4 rfl 31 rfl ?_
      refine q_iconst (v := 1) hC dX4_buffer_31 rfl 32 rfl ?_
      refine q_iconst (v := 0) hC dX4_buffer_32 rfl 33 rfl ?_
      refine r_callI hC (go_V (q := (RX2, TX2, 14)) (As := [.int v1, .int v2, .int v3, .int 1, .int 0]) (rest := []) hC (ctX2_streamed (zl z) g M4 1 v1 v2 v3 1 0 _ (hF.tp (b := 1) (Or.inl rfl)) hw) 5 gX4_buffer_X2_streamed rfl ⟨rfl, rfl⟩ (by decide +kernel) ⟨Nat.le_of_ble_eq_true rfl, Nat.le_of_ble_eq_true rfl⟩ (hF.tp (b := 1) (Or.inl rfl)).ob rfl rfl rfl (Nat.le_of_ble_eq_true rfl) dX4_buffer_33) 36 rfl (fun r5 M6 hw => ?_)
      refine q_istore (L' := [(6, .int r5), (5, .int 1), (0, .ref (gA g 0)), (1, .int v1), (2, .int v2), (3, .int v3), (4, .int v4)]) hC dX4_buffer_36 (by decide) rfl 38 rfl ?_
      refine q_iconst (v := 2) hC dX4_buffer_38 rfl 39 rfl ?_
      refine q_istore (L' := [(7, .int 2), (6, .int r5), (5, .int 1), (0, .ref (gA g 0)), (1, .int v1), (2, .int v2), (3, .int v3), (4, .int v4)]) hC dX4_buffer_39 (by decide) rfl 41 rfl ?_
      obtain ⟨n0, hw⟩ := hw
      exact XX.sub [3, 4, 5, 6, 7, 2, 1, 0] rfl (B41 n0 M6 1 r5 2 hw)
    · refine q_iconst (v := (-1)) hC dX4_buffer_19 rfl 20 rfl ?_
      exact r_iret hR dX4_buffer_20 hw
set_option maxRecDepth 20000 in
theorem inX4_saw_X2 : ∀ w ∈ u_ws RX2 TX2 14, w ∈ wsX4_saw := by decide +kernel
set_option maxRecDepth 20000 in
theorem inX4_saw_X4 : ∀ w ∈ u_ws RX4 TX4 12, w ∈ wsX4_saw := by decide +kernel
set_option maxRecDepth 100000 in
set_option maxHeartbeats 4000000 in
theorem ctX4_saw (l : Launch) (g : GG) (M : MM) (v1 : Int32) (v2 : Int32) (Q : Int32 → MM → Prop) (hF : full g) (hw : wX4_saw Q M v1 v2) : MI g l yX4_saw wsX4_saw (rmOf 2 44) [.ref (gA g 0), .int v1, .int v2] M Q := by
  refine mk_MI (cc := cX4_saw) (maxL := 3) (by decide) rfl (Nat.le_of_ble_eq_true rfl) ?_
  intro z Qf hC hR
  show XX z g Qf 3 0 [(0, .ref (gA g 0)), (1, .int v1), (2, .int v2)] [] M
  refine q_iload_n hC dX4_saw_0 1 rfl 1 rfl ?_
  refine q_iconst (v := 0) hC dX4_saw_1 rfl 2 rfl ?_
  refine q_sipush (v := 999) hC dX4_saw_2 (by decide) 5 rfl ?_
  refine r_callI hC (go_T (As := [.int v1, .int 0, .int 999]) (rest := []) hC (ctX4_isBetween (zl z) g M v1 0 999 _ hw) 3 gX4_saw_X4_isBetween rfl ⟨rfl, rfl⟩ (by decide +kernel) ⟨Nat.le_of_ble_eq_true rfl, Nat.le_of_ble_eq_true rfl⟩ rfl rfl (Nat.le_of_ble_eq_true rfl) dX4_saw_5) 8 rfl (fun r1 M2 hw => ?_)
  refine q_if_eq hC 22 dX4_saw_8 (by decide) 11 rfl hw (fun hw => ?_) (fun hw => ?_)
  · refine q_iconst (v := (-1)) hC dX4_saw_22 rfl 23 rfl ?_
    exact r_iret hR dX4_saw_23 hw
  · refine q_iload_n hC dX4_saw_11 2 rfl 12 rfl ?_
    refine q_iconst (v := 0) hC dX4_saw_12 rfl 13 rfl ?_
    refine q_sipush (v := 9999) hC dX4_saw_13 (by decide) 16 rfl ?_
    refine r_callI hC (go_T (As := [.int v2, .int 0, .int 9999]) (rest := []) hC (ctX4_isBetween (zl z) g M2 v2 0 9999 _ hw) 3 gX4_saw_X4_isBetween rfl ⟨rfl, rfl⟩ (by decide +kernel) ⟨Nat.le_of_ble_eq_true rfl, Nat.le_of_ble_eq_true rfl⟩ rfl rfl (Nat.le_of_ble_eq_true rfl) dX4_saw_16) 19 rfl (fun r3 M4 hw => ?_)
    refine q_if_ne hC 24 dX4_saw_19 (by decide) 22 rfl hw (fun hw => ?_) (fun hw => ?_)
    · refine q_aload_n hC dX4_saw_24 0 rfl 25 rfl ?_
      refine q_getR (C := RX4) (T := TX4) (N := 12) (ci := 4) hC inX4_saw_X4 (hF.ob 0 (by decide) (fun _ => rfl)) rfl 0 (by decide) (List.mem_of_getElem? (i := 1) (by decide +kernel)) rfl 1 (fun _ => rfl) dX4_saw_25 28 rfl ?_
      refine q_getI (C := RX2) (T := TX2) (N := 14) (ci := 2) hC inX4_saw_X2 (hF.tp (b := 1) (Or.inl rfl)).ob rfl 13 (by decide) (List.mem_of_getElem? (i := 2) (by decide +kernel)) rfl (fun _ => rfl) dX4_saw_28 31 rfl ?_
      refine q_bipush (v := 12) hC dX4_saw_31 (by decide) 33 rfl ?_
      refine q_icmp_lt hC 39 dX4_saw_33 (by decide) 36 rfl hw (fun hw => ?_) (fun hw => ?_)
      · refine q_aload_n hC dX4_saw_39 0 rfl 40 rfl ?_
        refine q_getR (C := RX4) (T := TX4) (N := 12) (ci := 4) hC inX4_saw_X4 (hF.ob 0 (by decide) (fun _ => rfl)) rfl 0 (by decide) (List.mem_of_getElem? (i := 1) (by decide +kernel)) rfl 1 (fun _ => rfl) dX4_saw_40 43 rfl ?_
        refine q_iload_n hC dX4_saw_43 1 rfl 44 rfl ?_
        refine q_iload_n hC dX4_saw_44 2 rfl 45 rfl ?_
        refine r_callI hC (go_V (q := (RX2, TX2, 14)) (As := [.int v1, .int v2]) (rest := []) hC (ctX2_addSeen (zl z) g M4 1 v1 v2 _ (hF.tp (b := 1) (Or.inl rfl)) hw) 2 gX4_saw_X2_addSeen rfl ⟨rfl, rfl⟩ (by decide +kernel) ⟨Nat.le_of_ble_eq_true rfl, Nat.le_of_ble_eq_true rfl⟩ (hF.tp (b := 1) (Or.inl rfl)).ob rfl rfl rfl (Nat.le_of_ble_eq_true rfl) dX4_saw_45) 48 rfl (fun r5 M6 hw => ?_)
        exact r_iret hR dX4_saw_48 hw
      · refine q_bipush (v := (-3)) hC dX4_saw_36 (by decide) 38 rfl ?_
        exact r_iret hR dX4_saw_38 hw
    · refine q_iconst (v := (-1)) hC dX4_saw_22 rfl 23 rfl ?_
      exact r_iret hR dX4_saw_23 hw
set_option maxRecDepth 20000 in
theorem inX4_forget_X2 : ∀ w ∈ u_ws RX2 TX2 14, w ∈ wsX4_forget := by decide +kernel
set_option maxRecDepth 20000 in
theorem inX4_forget_X4 : ∀ w ∈ u_ws RX4 TX4 12, w ∈ wsX4_forget := by decide +kernel
set_option maxRecDepth 100000 in
set_option maxHeartbeats 4000000 in
theorem ctX4_forget (l : Launch) (g : GG) (M : MM)  (Q : Int32 → MM → Prop) (hF : full g) (hw : wX4_forget Q M ) : MI g l yX4_forget wsX4_forget (rmOf 0 0) [.ref (gA g 0)] M Q := by
  refine mk_MI (cc := cX4_forget) (maxL := 2) (by decide) rfl (Nat.le_of_ble_eq_true rfl) ?_
  intro z Qf hC hR
  show XX z g Qf 2 0 [(0, .ref (gA g 0))] [] M
  refine q_aload_n hC dX4_forget_0 0 rfl 1 rfl ?_
  refine q_getR (C := RX4) (T := TX4) (N := 12) (ci := 4) hC inX4_forget_X4 (hF.ob 0 (by decide) (fun _ => rfl)) rfl 0 (by decide) (List.mem_of_getElem? (i := 1) (by decide +kernel)) rfl 1 (fun _ => rfl) dX4_forget_1 4 rfl ?_
  refine q_getI (C := RX2) (T := TX2) (N := 14) (ci := 2) hC inX4_forget_X2 (hF.tp (b := 1) (Or.inl rfl)).ob rfl 13 (by decide) (List.mem_of_getElem? (i := 2) (by decide +kernel)) rfl (fun _ => rfl) dX4_forget_4 7 rfl ?_
  refine q_istore_n (L' := [(1, .int (M 1 13)), (0, .ref (gA g 0))]) hC dX4_forget_7 (by decide) rfl 8 rfl ?_
  refine q_aload_n hC dX4_forget_8 1 rfl 9 rfl ?_
  refine q_getR (C := RX4) (T := TX4) (N := 12) (ci := 4) hC inX4_forget_X4 (hF.ob 0 (by decide) (fun _ => rfl)) rfl 0 (by decide) (List.mem_of_getElem? (i := 1) (by decide +kernel)) rfl 1 (fun _ => rfl) dX4_forget_9 12 rfl ?_
  refine q_iconst (v := 0) hC dX4_forget_12 rfl 13 rfl ?_
  refine q_putI (C := RX2) (T := TX2) (N := 14) (ci := 2) hC inX4_forget_X2 tyX2 tyX2_ok nmX2 (hF.tp (b := 1) (Or.inl rfl)).ob rfl 13 (by decide) (List.mem_of_getElem? (i := 2) (by decide +kernel)) rfl rfl rfl (fun _ => Nat.le_of_ble_eq_true rfl) (fun _ => rfl) dX4_forget_13 16 rfl (fun M1 eM1 => ?_)
  have hw := hw M1 eM1
  refine q_iload_n hC dX4_forget_16 0 rfl 17 rfl ?_
  exact r_iret hR dX4_forget_17 hw
set_option maxRecDepth 20000 in
theorem inX4_fits_X4 : ∀ w ∈ u_ws RX4 TX4 12, w ∈ wsX4_fits := by decide +kernel
set_option maxRecDepth 100000 in
set_option maxHeartbeats 4000000 in
theorem ctX4_fits (l : Launch) (g : GG) (M : MM) (v1 : Int32) (Q : Int32 → MM → Prop) (hF : full g) (hw : wX4_fits Q M v1) : MI g l yX4_fits wsX4_fits (rmOf 2 47) [.ref (gA g 0), .int v1] M Q := by
  refine mk_MI (cc := cX4_fits) (maxL := 5) (by decide) rfl (Nat.le_of_ble_eq_true rfl) ?_
  intro z Qf hC hR
  show XX z g Qf 5 0 [(0, .ref (gA g 0)), (1, .int v1)] [] M
  have B79 : ∀ (K19 : MM → Int32 → Int32 → Prop) (hK19 : ∀ (M : MM) (v2 : Int32) (v3 : Int32) , K19 M v2 v3 → XX z g Qf 5 19 [(0, .ref (gA g 0)), (1, .int v1), (2, .int v2), (3, .int v3)] [] M) (K35 : MM → Int32 → Int32 → Int32 → Prop) (hK35 : ∀ (M : MM) (v2 : Int32) (v3 : Int32) (v4 : Int32) , K35 M v2 v3 v4 → XX z g Qf 5 35 [(0, .ref (gA g 0)), (1, .int v1), (2, .int v2), (3, .int v3), (4, .int v4)] [] M) (M : MM) (v2 : Int32) (v3 : Int32) (v4 : Int32), wX4_fits_79 Q K19 K35 v1 M v2 v3 v4 → XX z g Qf 5 79 [(0, .ref (gA g 0)), (1, .int v1), (2, .int v2), (3, .int v3), (4, .int v4)] [] M := by
    intro K19 hK19 K35 hK35 M v2 v3 v4 hw
    refine q_iinc (v := v4 + 1) (L' := [(4, .int (v4 + 1)), (0, .ref (gA g 0)), (1, .int v1), (2, .int v2), (3, .int v3)]) hC dX4_fits_79 4 rfl rfl (by decide) rfl 82 rfl ?_
    refine q_goto hC 35 dX4_fits_82 (by decide) ?_
    exact XX.sub [1, 2, 3, 4, 0] rfl (hK35 M v2 v3 (v4 + 1) hw)
  have B35 : ∀ (K19 : MM → Int32 → Int32 → Prop) (hK19 : ∀ (M : MM) (v2 : Int32) (v3 : Int32) , K19 M v2 v3 → XX z g Qf 5 19 [(0, .ref (gA g 0)), (1, .int v1), (2, .int v2), (3, .int v3)] [] M) (n : Nat) (M : MM) (v2 : Int32) (v3 : Int32) (v4 : Int32) , wX4_fits_35 Q K19 v1 n M v2 v3 v4 → XX z g Qf 5 35 [(0, .ref (gA g 0)), (1, .int v1), (2, .int v2), (3, .int v3), (4, .int v4)] [] M := by
    intro K19 hK19 n
    induction n with
    | zero =>
      intro M v2 v3 v4 hw
      exact hw.elim
    | succ n ih =>
      intro M v2 v3 v4 hw
      refine q_iload hC dX4_fits_35 4 rfl 37 rfl ?_
      refine q_gets hC 1 (by decide) (List.mem_of_getElem? (i := 2) (by decide +kernel)) dX4_fits_37 40 rfl ?_
      refine q_iconst (v := 2) hC dX4_fits_40 rfl 41 rfl ?_
      obtain ⟨hin, hw⟩ := hw
      refine q_ti hC 1 (by decide) hin dX4_fits_41 42 rfl ?_
      refine q_icmp_gt hC 85 dX4_fits_42 (by decide) 45 rfl hw (fun hw => ?_) (fun hw => ?_)
      · refine q_iinc (v := v3 + 1) (L' := [(3, .int (v3 + 1)), (0, .ref (gA g 0)), (1, .int v1), (2, .int v2), (4, .int v4)]) hC dX4_fits_85 3 rfl rfl (by decide) rfl 88 rfl ?_
        refine q_goto hC 19 dX4_fits_88 (by decide) ?_
        exact XX.sub [1, 2, 3, 0] rfl (hK19 M v2 (v3 + 1) hw)
      · refine q_aload_n hC dX4_fits_45 0 rfl 46 rfl ?_
        refine q_getR (C := RX4) (T := TX4) (N := 12) (ci := 4) hC inX4_fits_X4 (hF.ob 0 (by decide) (fun _ => rfl)) rfl 0 (by decide) (List.mem_of_getElem? (i := 3) (by decide +kernel)) rfl 1 (fun _ => rfl) dX4_fits_46 49 rfl ?_
        refine q_iload_n hC dX4_fits_49 3 rfl 50 rfl ?_
        refine q_iload hC dX4_fits_50 4 rfl 52 rfl ?_
        refine r_callI hC (go_V (q := (RX2, TX2, 14)) (As := [.int v3, .int v4]) (rest := []) hC (ctX2_canBe (zl z) g M 1 v3 v4 _ (hF.tp (b := 1) (Or.inl rfl)) hw) 2 gX4_fits_X2_canBe rfl ⟨rfl, rfl⟩ (by decide +kernel) ⟨Nat.le_of_ble_eq_true rfl, Nat.le_of_ble_eq_true rfl⟩ (hF.tp (b := 1) (Or.inl rfl)).ob rfl rfl rfl (Nat.le_of_ble_eq_true rfl) dX4_fits_52) 55 rfl (fun r5 M6 hw => ?_)
        refine q_if_ne hC 61 dX4_fits_55 (by decide) 58 rfl hw (fun hw => ?_) (fun hw => ?_)
        · refine q_iload_n hC dX4_fits_61 1 rfl 62 rfl ?_
          refine q_iconst (v := 1) hC dX4_fits_62 rfl 63 rfl ?_
          refine q_icmp_ne hC 68 dX4_fits_63 (by decide) 66 rfl hw (fun hw => ?_) (fun hw => ?_)
          · refine q_iload_n hC dX4_fits_68 1 rfl 69 rfl ?_
            refine q_iconst (v := 2) hC dX4_fits_69 rfl 70 rfl ?_
            refine q_icmp_ne hC 76 dX4_fits_70 (by decide) 73 rfl hw (fun hw => ?_) (fun hw => ?_)
            · refine q_iinc (v := v2 + 1) (L' := [(2, .int (v2 + 1)), (0, .ref (gA g 0)), (1, .int v1), (3, .int v3), (4, .int v4)]) hC dX4_fits_76 2 rfl rfl (by decide) rfl 79 rfl ?_
              exact XX.sub [1, 2, 0, 3, 4] rfl (B79 _ hK19 _ (fun M v2 v3 v4 hw => ih M v2 v3 v4 hw) M6 (v2 + 1) v3 v4 hw)
            · refine q_iload hC dX4_fits_73 4 rfl 75 rfl ?_
              exact r_iret hR dX4_fits_75 hw
          · refine q_iload_n hC dX4_fits_66 3 rfl 67 rfl ?_
            exact r_iret hR dX4_fits_67 hw
        · refine q_goto hC 79 dX4_fits_58 (by decide) ?_
          exact XX.sub [0, 1, 2, 3, 4] rfl (B79 _ hK19 _ (fun M v2 v3 v4 hw => ih M v2 v3 v4 hw) M6 v2 v3 v4 hw)
  have B19 : ∀ (n : Nat) (M : MM) (v2 : Int32) (v3 : Int32) , wX4_fits_19 Q v1 n M v2 v3 → XX z g Qf 5 19 [(0, .ref (gA g 0)), (1, .int v1), (2, .int v2), (3, .int v3)] [] M := by
    intro n
    induction n with
    | zero =>
      intro M v2 v3 hw
      exact hw.elim
    | succ n ih =>
      intro M v2 v3 hw
      refine q_iload_n hC dX4_fits_19 3 rfl 20 rfl ?_
      refine q_gets hC 1 (by decide) (List.mem_of_getElem? (i := 2) (by decide +kernel)) dX4_fits_20 23 rfl ?_
      refine q_iconst (v := 1) hC dX4_fits_23 rfl 24 rfl ?_
      obtain ⟨hin, hw⟩ := hw
      refine q_ti hC 1 (by decide) hin dX4_fits_24 25 rfl ?_
      refine q_icmp_gt hC 91 dX4_fits_25 (by decide) 28 rfl hw (fun hw => ?_) (fun hw => ?_)
      · refine q_iload_n hC dX4_fits_91 1 rfl 92 rfl ?_
        refine q_if_ne hC 99 dX4_fits_92 (by decide) 95 rfl hw (fun hw => ?_) (fun hw => ?_)
        · refine q_bipush (v := (-4)) hC dX4_fits_99 (by decide) 101 rfl ?_
          exact r_iret hR dX4_fits_101 hw
        · refine q_iload_n hC dX4_fits_95 2 rfl 96 rfl ?_
          refine q_goto hC 101 dX4_fits_96 (by decide) ?_
          exact r_iret hR dX4_fits_101 hw
      · refine q_gets hC 0 (by decide) (List.mem_of_getElem? (i := 1) (by decide +kernel)) dX4_fits_28 31 rfl ?_
        refine q_iconst (v := 2) hC dX4_fits_31 rfl 32 rfl ?_
        obtain ⟨hin, hw⟩ := hw
        refine q_ti hC 0 (by decide) hin dX4_fits_32 33 rfl ?_
        refine q_nameI (fun x4 ex4 => ?_)
        have hw := hw x4 ex4
        refine q_istore (L' := [(4, .int x4), (0, .ref (gA g 0)), (1, .int v1), (2, .int v2), (3, .int v3)]) hC dX4_fits_33 (by decide) rfl 35 rfl ?_
        obtain ⟨n0, hw⟩ := hw
        exact XX.sub [1, 2, 3, 4, 0] rfl (B35 _ (fun M v2 v3 hw => ih M v2 v3 hw) n0 M v2 v3 x4 hw)
  refine q_iload_n hC dX4_fits_0 1 rfl 1 rfl ?_
  refine q_iconst (v := 0) hC dX4_fits_1 rfl 2 rfl ?_
  refine q_iconst (v := 2) hC dX4_fits_2 rfl 3 rfl ?_
  refine r_callI hC (go_T (As := [.int v1, .int 0, .int 2]) (rest := []) hC (ctX4_isBetween (zl z) g M v1 0 2 _ hw) 3 gX4_fits_X4_isBetween rfl ⟨rfl, rfl⟩ (by decide +kernel) ⟨Nat.le_of_ble_eq_true rfl, Nat.le_of_ble_eq_true rfl⟩ rfl rfl (Nat.le_of_ble_eq_true rfl) dX4_fits_3) 6 rfl (fun r1 M2 hw => ?_)
  refine q_if_ne hC 11 dX4_fits_6 (by decide) 9 rfl hw (fun hw => ?_) (fun hw => ?_)
  · refine q_iconst (v := 0) hC dX4_fits_11 rfl 12 rfl ?_
    refine q_istore_n (L' := [(2, .int 0), (0, .ref (gA g 0)), (1, .int v1)]) hC dX4_fits_12 (by decide) rfl 13 rfl ?_
    refine q_gets hC 0 (by decide) (List.mem_of_getElem? (i := 1) (by decide +kernel)) dX4_fits_13 16 rfl ?_
    refine q_iconst (v := 1) hC dX4_fits_16 rfl 17 rfl ?_
    obtain ⟨hin, hw⟩ := hw
    refine q_ti hC 0 (by decide) hin dX4_fits_17 18 rfl ?_
    refine q_nameI (fun x3 ex3 => ?_)
    have hw := hw x3 ex3
    refine q_istore_n (L' := [(3, .int x3), (2, .int 0), (0, .ref (gA g 0)), (1, .int v1)]) hC dX4_fits_18 (by decide) rfl 19 rfl ?_
    obtain ⟨n0, hw⟩ := hw
    exact XX.sub [2, 3, 1, 0] rfl (B19 n0 M2 0 x3 hw)
  · refine q_iconst (v := (-1)) hC dX4_fits_9 rfl 10 rfl ?_
    exact r_iret hR dX4_fits_10 hw
set_option maxRecDepth 20000 in
theorem inX4_imageNumbered_X4 : ∀ w ∈ u_ws RX4 TX4 12, w ∈ wsX4_imageNumbered := by decide +kernel
set_option maxRecDepth 100000 in
set_option maxHeartbeats 4000000 in
theorem ctX4_imageNumbered (l : Launch) (g : GG) (M : MM) (v1 : Int32) (Q : Nat → MM → Prop) (hF : full g) (hw : wX4_imageNumbered Q M v1) : MR g l yX4_imageNumbered wsX4_imageNumbered (rmOf 0 0) [.ref (gA g 0), .int v1] M Q := by
  refine mk_MR (cc := cX4_imageNumbered) (maxL := 2) (by decide) rfl (Nat.le_of_ble_eq_true rfl) ?_
  intro z Qf hC hR
  show XX z g Qf 2 0 [(0, .ref (gA g 0)), (1, .int v1)] [] M
  refine q_iload_n hC dX4_imageNumbered_0 1 rfl 1 rfl ?_
  refine q_if_ne hC 11 dX4_imageNumbered_1 (by decide) 4 rfl hw (fun hw => ?_) (fun hw => ?_)
  · refine q_aload_n hC dX4_imageNumbered_11 0 rfl 12 rfl ?_
    refine q_getR (C := RX4) (T := TX4) (N := 12) (ci := 4) hC inX4_imageNumbered_X4 (hF.ob 0 (by decide) (fun _ => rfl)) rfl 4 (by decide) (List.mem_of_getElem? (i := 2) (by decide +kernel)) rfl 19 (fun _ => rfl) dX4_imageNumbered_12 15 rfl ?_
    exact r_aret hR dX4_imageNumbered_15 hw
  · refine q_aload_n hC dX4_imageNumbered_4 0 rfl 5 rfl ?_
    refine q_getR (C := RX4) (T := TX4) (N := 12) (ci := 4) hC inX4_imageNumbered_X4 (hF.ob 0 (by decide) (fun _ => rfl)) rfl 3 (by decide) (List.mem_of_getElem? (i := 1) (by decide +kernel)) rfl 10 (fun _ => rfl) dX4_imageNumbered_5 8 rfl ?_
    refine q_goto hC 15 dX4_imageNumbered_8 (by decide) ?_
    exact r_aret hR dX4_imageNumbered_15 hw
set_option maxRecDepth 20000 in
theorem inX4_keep_X4 : ∀ w ∈ u_ws RX4 TX4 12, w ∈ wsX4_keep := by decide +kernel
set_option maxRecDepth 100000 in
set_option maxHeartbeats 4000000 in
theorem ctX4_keep (l : Launch) (g : GG) (M : MM) (v1 : Int32) (Q : Int32 → MM → Prop) (hF : full g) (hw : wX4_keep Q M v1) : MI g l yX4_keep wsX4_keep (rmOf 3 102) [.ref (gA g 0), .int v1] M Q := by
  refine mk_MI (cc := cX4_keep) (maxL := 3) (by decide) rfl (Nat.le_of_ble_eq_true rfl) ?_
  intro z Qf hC hR
  show XX z g Qf 3 0 [(0, .ref (gA g 0)), (1, .int v1)] [] M
  refine q_iload_n hC dX4_keep_0 1 rfl 1 rfl ?_
  refine q_iconst (v := 0) hC dX4_keep_1 rfl 2 rfl ?_
  refine q_iconst (v := 1) hC dX4_keep_2 rfl 3 rfl ?_
  refine r_callI hC (go_T (As := [.int v1, .int 0, .int 1]) (rest := []) hC (ctX4_isBetween (zl z) g M v1 0 1 _ hw) 3 gX4_keep_X4_isBetween rfl ⟨rfl, rfl⟩ (by decide +kernel) ⟨Nat.le_of_ble_eq_true rfl, Nat.le_of_ble_eq_true rfl⟩ rfl rfl (Nat.le_of_ble_eq_true rfl) dX4_keep_3) 6 rfl (fun r1 M2 hw => ?_)
  refine q_if_ne hC 11 dX4_keep_6 (by decide) 9 rfl hw (fun hw => ?_) (fun hw => ?_)
  · refine q_aload_n hC dX4_keep_11 0 rfl 12 rfl ?_
    refine q_getI (C := RX4) (T := TX4) (N := 12) (ci := 4) hC inX4_keep_X4 (hF.ob 0 (by decide) (fun _ => rfl)) rfl 11 (by decide) (List.mem_of_getElem? (i := 1) (by decide +kernel)) rfl (fun _ => rfl) dX4_keep_12 15 rfl ?_
    refine q_iload_n hC dX4_keep_15 1 rfl 16 rfl ?_
    refine q_ishr hC dX4_keep_16 17 rfl ?_
    refine q_iconst (v := 1) hC dX4_keep_17 rfl 18 rfl ?_
    refine q_iand hC dX4_keep_18 19 rfl ?_
    refine q_nameI (fun x3 ex3 => ?_)
    have hw := hw x3 ex3
    refine q_istore_n (L' := [(2, .int x3), (0, .ref (gA g 0)), (1, .int v1)]) hC dX4_keep_19 (by decide) rfl 20 rfl ?_
    refine q_aload_n hC dX4_keep_20 1 rfl 21 rfl ?_
    refine q_iload_n hC dX4_keep_21 2 rfl 22 rfl ?_
    refine r_callR hC (go_V (q := (RX4, TX4, 12)) (As := [.int v1]) (rest := []) hC (ctX4_imageNumbered (zl z) g M2 v1 _ hF hw) 1 gX4_keep_X4_imageNumbered rfl ⟨rfl, rfl⟩ (by decide +kernel) ⟨Nat.le_of_ble_eq_true rfl, Nat.le_of_ble_eq_true rfl⟩ (hF.ob 0 (by decide) (fun _ => rfl)) rfl rfl rfl (Nat.le_of_ble_eq_true rfl) dX4_keep_22) 25 rfl (fun r4 M5 hw => ?_)
    obtain ⟨hq, hw⟩ := hw
    have hr4 := hF.tp hq
    refine q_aload_n hC dX4_keep_25 1 rfl 26 rfl ?_
    refine q_getR (C := RX4) (T := TX4) (N := 12) (ci := 4) hC inX4_keep_X4 (hF.ob 0 (by decide) (fun _ => rfl)) rfl 0 (by decide) (List.mem_of_getElem? (i := 2) (by decide +kernel)) rfl 1 (fun _ => rfl) dX4_keep_26 29 rfl ?_
    refine r_callV hC (go_V (q := (RX2, TX2, 14)) (As := [.ref (gA g 1)]) (rest := []) hC (ctX2_becomes (zl z) g M5 r4 1 _ hr4 (hF.tp (b := 1) (Or.inl rfl)) hw) 1 gX4_keep_X2_becomes rfl ⟨rfl, rfl⟩ (by decide +kernel) ⟨Nat.le_of_ble_eq_true rfl, Nat.le_of_ble_eq_true rfl⟩ hr4.ob rfl rfl rfl (Nat.le_of_ble_eq_true rfl) dX4_keep_29) 32 rfl (fun M6 hw => ?_)
    refine q_aload_n hC dX4_keep_32 1 rfl 33 rfl ?_
    refine q_dup hC dX4_keep_33 rfl 34 rfl ?_
    refine q_getI (C := RX4) (T := TX4) (N := 12) (ci := 4) hC inX4_keep_X4 (hF.ob 0 (by decide) (fun _ => rfl)) rfl 11 (by decide) (List.mem_of_getElem? (i := 1) (by decide +kernel)) rfl (fun _ => rfl) dX4_keep_34 37 rfl ?_
    refine q_iconst (v := 1) hC dX4_keep_37 rfl 38 rfl ?_
    refine q_iload_n hC dX4_keep_38 2 rfl 39 rfl ?_
    refine q_ishl hC dX4_keep_39 40 rfl ?_
    refine q_ior hC dX4_keep_40 41 rfl ?_
    refine q_putI (C := RX4) (T := TX4) (N := 12) (ci := 4) hC inX4_keep_X4 tyX4 tyX4_ok nmX4 (hF.ob 0 (by decide) (fun _ => rfl)) rfl 11 (by decide) (List.mem_of_getElem? (i := 1) (by decide +kernel)) rfl rfl rfl (fun _ => Nat.le_of_ble_eq_true rfl) (fun _ => rfl) dX4_keep_41 44 rfl (fun M7 eM7 => ?_)
    have hw := hw M7 eM7
    refine q_iload_n hC dX4_keep_44 0 rfl 45 rfl ?_
    exact r_iret hR dX4_keep_45 hw
  · refine q_iconst (v := (-1)) hC dX4_keep_9 rfl 10 rfl ?_
    exact r_iret hR dX4_keep_10 hw
set_option maxRecDepth 20000 in
theorem inX4_back_X2 : ∀ w ∈ u_ws RX2 TX2 14, w ∈ wsX4_back := by decide +kernel
set_option maxRecDepth 20000 in
theorem inX4_back_X4 : ∀ w ∈ u_ws RX4 TX4 12, w ∈ wsX4_back := by decide +kernel
set_option maxRecDepth 100000 in
set_option maxHeartbeats 4000000 in
theorem ctX4_back (l : Launch) (g : GG) (M : MM) (v1 : Int32) (Q : Int32 → MM → Prop) (hF : full g) (hw : wX4_back Q M v1) : MI g l yX4_back wsX4_back (rmOf 3 102) [.ref (gA g 0), .int v1] M Q := by
  refine mk_MI (cc := cX4_back) (maxL := 2) (by decide) rfl (Nat.le_of_ble_eq_true rfl) ?_
  intro z Qf hC hR
  show XX z g Qf 2 0 [(0, .ref (gA g 0)), (1, .int v1)] [] M
  refine q_iload_n hC dX4_back_0 1 rfl 1 rfl ?_
  refine q_iconst (v := 0) hC dX4_back_1 rfl 2 rfl ?_
  refine q_iconst (v := 1) hC dX4_back_2 rfl 3 rfl ?_
  refine r_callI hC (go_T (As := [.int v1, .int 0, .int 1]) (rest := []) hC (ctX4_isBetween (zl z) g M v1 0 1 _ hw) 3 gX4_back_X4_isBetween rfl ⟨rfl, rfl⟩ (by decide +kernel) ⟨Nat.le_of_ble_eq_true rfl, Nat.le_of_ble_eq_true rfl⟩ rfl rfl (Nat.le_of_ble_eq_true rfl) dX4_back_3) 6 rfl (fun r1 M2 hw => ?_)
  refine q_if_ne hC 11 dX4_back_6 (by decide) 9 rfl hw (fun hw => ?_) (fun hw => ?_)
  · refine q_aload_n hC dX4_back_11 0 rfl 12 rfl ?_
    refine q_getI (C := RX4) (T := TX4) (N := 12) (ci := 4) hC inX4_back_X4 (hF.ob 0 (by decide) (fun _ => rfl)) rfl 11 (by decide) (List.mem_of_getElem? (i := 1) (by decide +kernel)) rfl (fun _ => rfl) dX4_back_12 15 rfl ?_
    refine q_iload_n hC dX4_back_15 1 rfl 16 rfl ?_
    refine q_ishr hC dX4_back_16 17 rfl ?_
    refine q_iconst (v := 1) hC dX4_back_17 rfl 18 rfl ?_
    refine q_iand hC dX4_back_18 19 rfl ?_
    refine q_if_ne hC 25 dX4_back_19 (by decide) 22 rfl hw (fun hw => ?_) (fun hw => ?_)
    · refine q_aload_n hC dX4_back_25 0 rfl 26 rfl ?_
      refine q_getR (C := RX4) (T := TX4) (N := 12) (ci := 4) hC inX4_back_X4 (hF.ob 0 (by decide) (fun _ => rfl)) rfl 0 (by decide) (List.mem_of_getElem? (i := 2) (by decide +kernel)) rfl 1 (fun _ => rfl) dX4_back_26 29 rfl ?_
      refine q_aload_n hC dX4_back_29 0 rfl 30 rfl ?_
      refine q_iload_n hC dX4_back_30 1 rfl 31 rfl ?_
      refine r_callR hC (go_V (q := (RX4, TX4, 12)) (As := [.int v1]) (rest := [.ref (gA g 1)]) hC (ctX4_imageNumbered (zl z) g M2 v1 _ hF hw) 1 gX4_back_X4_imageNumbered rfl ⟨rfl, rfl⟩ (by decide +kernel) ⟨Nat.le_of_ble_eq_true rfl, Nat.le_of_ble_eq_true rfl⟩ (hF.ob 0 (by decide) (fun _ => rfl)) rfl rfl rfl (Nat.le_of_ble_eq_true rfl) dX4_back_31) 34 rfl (fun r3 M4 hw => ?_)
      obtain ⟨hq, hw⟩ := hw
      have hr3 := hF.tp hq
      refine r_callV hC (go_V (q := (RX2, TX2, 14)) (As := [.ref (gA g r3)]) (rest := []) hC (ctX2_becomes (zl z) g M4 1 r3 _ (hF.tp (b := 1) (Or.inl rfl)) hr3 hw) 1 gX4_back_X2_becomes rfl ⟨rfl, rfl⟩ (by decide +kernel) ⟨Nat.le_of_ble_eq_true rfl, Nat.le_of_ble_eq_true rfl⟩ (hF.tp (b := 1) (Or.inl rfl)).ob rfl rfl rfl (Nat.le_of_ble_eq_true rfl) dX4_back_34) 37 rfl (fun M5 hw => ?_)
      refine q_aload_n hC dX4_back_37 0 rfl 38 rfl ?_
      refine q_getR (C := RX4) (T := TX4) (N := 12) (ci := 4) hC inX4_back_X4 (hF.ob 0 (by decide) (fun _ => rfl)) rfl 0 (by decide) (List.mem_of_getElem? (i := 2) (by decide +kernel)) rfl 1 (fun _ => rfl) dX4_back_38 41 rfl ?_
      refine q_getI (C := RX2) (T := TX2) (N := 14) (ci := 2) hC inX4_back_X2 (hF.tp (b := 1) (Or.inl rfl)).ob rfl 8 (by decide) (List.mem_of_getElem? (i := 3) (by decide +kernel)) rfl (fun _ => rfl) dX4_back_41 44 rfl ?_
      exact r_iret hR dX4_back_44 hw
    · refine q_bipush (v := (-2)) hC dX4_back_22 (by decide) 24 rfl ?_
      exact r_iret hR dX4_back_24 hw
  · refine q_iconst (v := (-1)) hC dX4_back_9 rfl 10 rfl ?_
    exact r_iret hR dX4_back_10 hw
set_option maxRecDepth 20000 in
theorem inX4_sheetNumbered_X4 : ∀ w ∈ u_ws RX4 TX4 12, w ∈ wsX4_sheetNumbered := by decide +kernel
set_option maxRecDepth 100000 in
set_option maxHeartbeats 4000000 in
theorem ctX4_sheetNumbered (l : Launch) (g : GG) (M : MM) (v1 : Int32) (Q : Nat → MM → Prop) (hF : full g) (hw : wX4_sheetNumbered Q M v1) : MR g l yX4_sheetNumbered wsX4_sheetNumbered (rmOf 0 0) [.ref (gA g 0), .int v1] M Q := by
  refine mk_MR (cc := cX4_sheetNumbered) (maxL := 2) (by decide) rfl (Nat.le_of_ble_eq_true rfl) ?_
  intro z Qf hC hR
  show XX z g Qf 2 0 [(0, .ref (gA g 0)), (1, .int v1)] [] M
  refine q_iload_n hC dX4_sheetNumbered_0 1 rfl 1 rfl ?_
  by_cases c0 : v1 = 0
  · have hw := hw.1 c0
    refine q_tabIn hC 28 dX4_sheetNumbered_1 (by rw [c0]; decide) (by rw [c0]; decide) (by rw [c0]; rfl) (by decide) ?_
    refine q_aload_n hC dX4_sheetNumbered_28 0 rfl 29 rfl ?_
    refine q_getR (C := RX4) (T := TX4) (N := 12) (ci := 4) hC inX4_sheetNumbered_X4 (hF.ob 0 (by decide) (fun _ => rfl)) rfl 5 (by decide) (List.mem_of_getElem? (i := 1) (by decide +kernel)) rfl 44 (fun _ => rfl) dX4_sheetNumbered_29 32 rfl ?_
    exact r_aret hR dX4_sheetNumbered_32 hw
  · have hw := hw.2 c0
    by_cases c1 : v1 = 1
    · have hw := hw.1 c1
      refine q_tabIn hC 33 dX4_sheetNumbered_1 (by rw [c1]; decide) (by rw [c1]; decide) (by rw [c1]; rfl) (by decide) ?_
      refine q_aload_n hC dX4_sheetNumbered_33 0 rfl 34 rfl ?_
      refine q_getR (C := RX4) (T := TX4) (N := 12) (ci := 4) hC inX4_sheetNumbered_X4 (hF.ob 0 (by decide) (fun _ => rfl)) rfl 6 (by decide) (List.mem_of_getElem? (i := 2) (by decide +kernel)) rfl 46 (fun _ => rfl) dX4_sheetNumbered_34 37 rfl ?_
      exact r_aret hR dX4_sheetNumbered_37 hw
    · have hw := hw.2 c1
      by_cases c2 : v1 = 2
      · have hw := hw.1 c2
        refine q_tabIn hC 38 dX4_sheetNumbered_1 (by rw [c2]; decide) (by rw [c2]; decide) (by rw [c2]; rfl) (by decide) ?_
        refine q_aload_n hC dX4_sheetNumbered_38 0 rfl 39 rfl ?_
        refine q_getR (C := RX4) (T := TX4) (N := 12) (ci := 4) hC inX4_sheetNumbered_X4 (hF.ob 0 (by decide) (fun _ => rfl)) rfl 7 (by decide) (List.mem_of_getElem? (i := 3) (by decide +kernel)) rfl 48 (fun _ => rfl) dX4_sheetNumbered_39 42 rfl ?_
        exact r_aret hR dX4_sheetNumbered_42 hw
      · have hw := hw.2 c2
        refine q_tabOut hC 43 dX4_sheetNumbered_1 (tab_out2 c0 c1 c2) (by decide) ?_
        refine q_aload_n hC dX4_sheetNumbered_43 0 rfl 44 rfl ?_
        refine q_getR (C := RX4) (T := TX4) (N := 12) (ci := 4) hC inX4_sheetNumbered_X4 (hF.ob 0 (by decide) (fun _ => rfl)) rfl 8 (by decide) (List.mem_of_getElem? (i := 4) (by decide +kernel)) rfl 50 (fun _ => rfl) dX4_sheetNumbered_44 47 rfl ?_
        exact r_aret hR dX4_sheetNumbered_47 hw
set_option maxRecDepth 100000 in
set_option maxHeartbeats 4000000 in
theorem ctX4_sheet (l : Launch) (g : GG) (M : MM) (v1 : Int32) (v2 : Int32) (v3 : Int32) (Q : Int32 → MM → Prop) (hF : full g) (hw : wX4_sheet Q M v1 v2 v3) : MI g l yX4_sheet wsX4_sheet (rmOf 2 45) [.ref (gA g 0), .int v1, .int v2, .int v3] M Q := by
  refine mk_MI (cc := cX4_sheet) (maxL := 4) (by decide) rfl (Nat.le_of_ble_eq_true rfl) ?_
  intro z Qf hC hR
  show XX z g Qf 4 0 [(0, .ref (gA g 0)), (1, .int v1), (2, .int v2), (3, .int v3)] [] M
  refine q_iload_n hC dX4_sheet_0 1 rfl 1 rfl ?_
  refine q_iconst (v := 0) hC dX4_sheet_1 rfl 2 rfl ?_
  refine q_iconst (v := 3) hC dX4_sheet_2 rfl 3 rfl ?_
  refine r_callI hC (go_T (As := [.int v1, .int 0, .int 3]) (rest := []) hC (ctX4_isBetween (zl z) g M v1 0 3 _ hw) 3 gX4_sheet_X4_isBetween rfl ⟨rfl, rfl⟩ (by decide +kernel) ⟨Nat.le_of_ble_eq_true rfl, Nat.le_of_ble_eq_true rfl⟩ rfl rfl (Nat.le_of_ble_eq_true rfl) dX4_sheet_3) 6 rfl (fun r1 M2 hw => ?_)
  refine q_if_eq hC 24 dX4_sheet_6 (by decide) 9 rfl hw (fun hw => ?_) (fun hw => ?_)
  · refine q_iconst (v := (-1)) hC dX4_sheet_24 rfl 25 rfl ?_
    exact r_iret hR dX4_sheet_25 hw
  · refine q_iload_n hC dX4_sheet_9 2 rfl 10 rfl ?_
    refine q_iconst (v := 0) hC dX4_sheet_10 rfl 11 rfl ?_
    refine q_iconst (v := 2) hC dX4_sheet_11 rfl 12 rfl ?_
    refine r_callI hC (go_T (As := [.int v2, .int 0, .int 2]) (rest := []) hC (ctX4_isBetween (zl z) g M2 v2 0 2 _ hw) 3 gX4_sheet_X4_isBetween rfl ⟨rfl, rfl⟩ (by decide +kernel) ⟨Nat.le_of_ble_eq_true rfl, Nat.le_of_ble_eq_true rfl⟩ rfl rfl (Nat.le_of_ble_eq_true rfl) dX4_sheet_12) 15 rfl (fun r3 M4 hw => ?_)
    refine q_if_eq hC 24 dX4_sheet_15 (by decide) 18 rfl hw (fun hw => ?_) (fun hw => ?_)
    · refine q_iconst (v := (-1)) hC dX4_sheet_24 rfl 25 rfl ?_
      exact r_iret hR dX4_sheet_25 hw
    · refine q_iload_n hC dX4_sheet_18 3 rfl 19 rfl ?_
      refine q_bipush (v := 40) hC dX4_sheet_19 (by decide) 21 rfl ?_
      refine q_icmp_le hC 26 dX4_sheet_21 (by decide) 24 rfl hw (fun hw => ?_) (fun hw => ?_)
      · refine q_iload_n hC dX4_sheet_26 3 rfl 27 rfl ?_
        refine q_if_ge hC 33 dX4_sheet_27 (by decide) 30 rfl hw (fun hw => ?_) (fun hw => ?_)
        · refine q_aload_n hC dX4_sheet_33 0 rfl 34 rfl ?_
          refine q_iload_n hC dX4_sheet_34 1 rfl 35 rfl ?_
          refine r_callR hC (go_V (q := (RX4, TX4, 12)) (As := [.int v1]) (rest := []) hC (ctX4_sheetNumbered (zl z) g M4 v1 _ hF hw) 1 gX4_sheet_X4_sheetNumbered rfl ⟨rfl, rfl⟩ (by decide +kernel) ⟨Nat.le_of_ble_eq_true rfl, Nat.le_of_ble_eq_true rfl⟩ (hF.ob 0 (by decide) (fun _ => rfl)) rfl rfl rfl (Nat.le_of_ble_eq_true rfl) dX4_sheet_35) 38 rfl (fun r5 M6 hw => ?_)
          obtain ⟨hq, hw⟩ := hw
          have hr5 := hF.sh hq
          refine q_iload_n hC dX4_sheet_38 2 rfl 39 rfl ?_
          refine q_iload_n hC dX4_sheet_39 3 rfl 40 rfl ?_
          refine r_callV hC (go_V (q := (RX1, TX1, 3)) (As := [.int v2, .int v3]) (rest := []) hC (ctX1_makeNew (zl z) g M6 r5 v2 v3 _ hr5 hw) 2 gX4_sheet_X1_makeNew rfl ⟨rfl, rfl⟩ (by decide +kernel) ⟨Nat.le_of_ble_eq_true rfl, Nat.le_of_ble_eq_true rfl⟩ hr5.ob rfl rfl rfl (Nat.le_of_ble_eq_true rfl) dX4_sheet_40) 43 rfl (fun M7 hw => ?_)
          refine q_iconst (v := 1) hC dX4_sheet_43 rfl 44 rfl ?_
          exact r_iret hR dX4_sheet_44 hw
        · refine q_bipush (v := (-14)) hC dX4_sheet_30 (by decide) 32 rfl ?_
          exact r_iret hR dX4_sheet_32 hw
      · refine q_iconst (v := (-1)) hC dX4_sheet_24 rfl 25 rfl ?_
        exact r_iret hR dX4_sheet_25 hw
set_option maxRecDepth 20000 in
theorem inX4_lay_X1 : ∀ w ∈ u_ws RX1 TX1 3, w ∈ wsX4_lay := by decide +kernel
set_option maxRecDepth 100000 in
set_option maxHeartbeats 4000000 in
theorem ctX4_lay (l : Launch) (g : GG) (M : MM) (v1 : Int32) (v2 : Int32) (v3 : Int32) (Q : Int32 → MM → Prop) (hF : full g) (hw : wX4_lay Q M v1 v2 v3) : MI g l yX4_lay wsX4_lay (rmOf 2 45) [.ref (gA g 0), .int v1, .int v2, .int v3] M Q := by
  refine mk_MI (cc := cX4_lay) (maxL := 6) (by decide) rfl (Nat.le_of_ble_eq_true rfl) ?_
  intro z Qf hC hR
  show XX z g Qf 6 0 [(0, .ref (gA g 0)), (1, .int v1), (2, .int v2), (3, .int v3)] [] M
  refine q_iload_n hC dX4_lay_0 1 rfl 1 rfl ?_
  refine q_iconst (v := 0) hC dX4_lay_1 rfl 2 rfl ?_
  refine q_iconst (v := 3) hC dX4_lay_2 rfl 3 rfl ?_
  refine r_callI hC (go_T (As := [.int v1, .int 0, .int 3]) (rest := []) hC (ctX4_isBetween (zl z) g M v1 0 3 _ hw) 3 gX4_lay_X4_isBetween rfl ⟨rfl, rfl⟩ (by decide +kernel) ⟨Nat.le_of_ble_eq_true rfl, Nat.le_of_ble_eq_true rfl⟩ rfl rfl (Nat.le_of_ble_eq_true rfl) dX4_lay_3) 6 rfl (fun r1 M2 hw => ?_)
  refine q_if_ne hC 11 dX4_lay_6 (by decide) 9 rfl hw (fun hw => ?_) (fun hw => ?_)
  · refine q_aload_n hC dX4_lay_11 0 rfl 12 rfl ?_
    refine q_iload_n hC dX4_lay_12 1 rfl 13 rfl ?_
    refine r_callR hC (go_V (q := (RX4, TX4, 12)) (As := [.int v1]) (rest := []) hC (ctX4_sheetNumbered (zl z) g M2 v1 _ hF hw) 1 gX4_lay_X4_sheetNumbered rfl ⟨rfl, rfl⟩ (by decide +kernel) ⟨Nat.le_of_ble_eq_true rfl, Nat.le_of_ble_eq_true rfl⟩ (hF.ob 0 (by decide) (fun _ => rfl)) rfl rfl rfl (Nat.le_of_ble_eq_true rfl) dX4_lay_13) 16 rfl (fun r3 M4 hw => ?_)
    obtain ⟨hq, hw⟩ := hw
    have hr3 := hF.sh hq
    refine q_astore (L' := [(4, .ref (gA g r3)), (0, .ref (gA g 0)), (1, .int v1), (2, .int v2), (3, .int v3)]) hC dX4_lay_16 (by decide) rfl 18 rfl ?_
    refine q_aload hC dX4_lay_18 0 rfl 20 rfl ?_
    refine q_aload hC dX4_lay_20 0 rfl 22 rfl ?_
    refine q_getI (C := RX1) (T := TX1) (N := 3) (ci := 1) hC inX4_lay_X1 hr3.ob rfl 1 (by decide) (List.mem_of_getElem? (i := 1) (by decide +kernel)) rfl (fun _ => rfl) dX4_lay_22 25 rfl ?_
    refine q_iload_n hC dX4_lay_25 3 rfl 26 rfl ?_
    refine r_callI hC (go_V (q := (RX1, TX1, 3)) (As := [.int (M4 r3 1), .int v2]) (rest := []) hC (ctX1_faultOf (zl z) g M4 r3 (M4 r3 1) v2 _ hr3 hw) 2 gX4_lay_X1_faultOf rfl ⟨rfl, rfl⟩ (by decide +kernel) ⟨Nat.le_of_ble_eq_true rfl, Nat.le_of_ble_eq_true rfl⟩ hr3.ob rfl rfl rfl (Nat.le_of_ble_eq_true rfl) dX4_lay_26) 29 rfl (fun r5 M6 hw => ?_)
    refine q_istore (L' := [(5, .int r5), (4, .ref (gA g r3)), (0, .ref (gA g 0)), (1, .int v1), (2, .int v2), (3, .int v3)]) hC dX4_lay_29 (by decide) rfl 31 rfl ?_
    refine q_iload hC dX4_lay_31 0 rfl 33 rfl ?_
    refine q_if_eq hC 42 dX4_lay_33 (by decide) 36 rfl hw (fun hw => ?_) (fun hw => ?_)
    · refine q_aload hC dX4_lay_42 1 rfl 44 rfl ?_
      refine q_iload_n hC dX4_lay_44 4 rfl 45 rfl ?_
      refine q_iload_n hC dX4_lay_45 5 rfl 46 rfl ?_
      refine r_callV hC (go_V (q := (RX1, TX1, 3)) (As := [.int v2, .int v3]) (rest := []) hC (ctX1_put (zl z) g M6 r3 v2 v3 _ hr3 hw) 2 gX4_lay_X1_put rfl ⟨rfl, rfl⟩ (by decide +kernel) ⟨Nat.le_of_ble_eq_true rfl, Nat.le_of_ble_eq_true rfl⟩ hr3.ob rfl rfl rfl (Nat.le_of_ble_eq_true rfl) dX4_lay_46) 49 rfl (fun M7 hw => ?_)
      refine q_iconst (v := 1) hC dX4_lay_49 rfl 50 rfl ?_
      exact r_iret hR dX4_lay_50 hw
    · refine q_bipush (v := (-10)) hC dX4_lay_36 (by decide) 38 rfl ?_
      refine q_iload hC dX4_lay_38 0 rfl 40 rfl ?_
      refine q_isub hC dX4_lay_40 41 rfl ?_
      exact r_iret hR dX4_lay_41 hw
  · refine q_iconst (v := (-1)) hC dX4_lay_9 rfl 10 rfl ?_
    exact r_iret hR dX4_lay_10 hw
set_option maxRecDepth 20000 in
theorem inX4_read_X2 : ∀ w ∈ u_ws RX2 TX2 14, w ∈ wsX4_read := by decide +kernel
set_option maxRecDepth 20000 in
theorem inX4_read_X4 : ∀ w ∈ u_ws RX4 TX4 12, w ∈ wsX4_read := by decide +kernel
set_option maxRecDepth 100000 in
set_option maxHeartbeats 4000000 in
theorem ctX4_read (l : Launch) (g : GG) (M : MM) (v1 : Int32) (v2 : Int32) (v3 : Int32) (v4 : Int32) (Q : Int32 → MM → Prop) (hF : full g) (hw : wX4_read Q M v1 v2 v3 v4) : MI g l yX4_read wsX4_read (rmOf 2 44) [.ref (gA g 0), .int v1, .int v2, .int v3, .int v4] M Q := by
  refine mk_MI (cc := cX4_read) (maxL := 11) (by decide) rfl (Nat.le_of_ble_eq_true rfl) ?_
  intro z Qf hC hR
  show XX z g Qf 11 0 [(0, .ref (gA g 0)), (1, .int v1), (2, .int v2), (3, .int v3), (4, .int v4)] [] M
  have B122 : ∀ (M : MM) (v6 : Int32) (v7 : Int32) (v10 : Int32), wX4_read_122 Q v1 v2 v3 v4 M v6 v7 v10 → XX z g Qf 11 122 [(0, .ref (gA g 0)), (6, .int v6), (7, .int v7), (10, .int v10)] [] M := by
    intro M v6 v7 v10 hw
    refine q_aload_n hC dX4_read_122 0 rfl 123 rfl ?_
    refine q_getR (C := RX4) (T := TX4) (N := 12) (ci := 4) hC inX4_read_X4 (hF.ob 0 (by decide) (fun _ => rfl)) rfl 0 (by decide) (List.mem_of_getElem? (i := 1) (by decide +kernel)) rfl 1 (fun _ => rfl) dX4_read_123 126 rfl ?_
    refine q_iload hC dX4_read_126 1 rfl 128 rfl ?_
    refine q_putI (C := RX2) (T := TX2) (N := 14) (ci := 2) hC inX4_read_X2 tyX2 tyX2_ok nmX2 (hF.tp (b := 1) (Or.inl rfl)).ob rfl 11 (by decide) (List.mem_of_getElem? (i := 2) (by decide +kernel)) rfl rfl rfl (fun _ => Nat.le_of_ble_eq_true rfl) (fun _ => rfl) dX4_read_128 131 rfl (fun M19 eM19 => ?_)
    have hw := hw M19 eM19
    refine q_iload hC dX4_read_131 3 rfl 133 rfl ?_
    refine q_if_eq hC 141 dX4_read_133 (by decide) 136 rfl hw (fun hw => ?_) (fun hw => ?_)
    · refine q_bipush (v := (-20)) hC dX4_read_141 (by decide) 143 rfl ?_
      refine q_iload hC dX4_read_143 2 rfl 145 rfl ?_
      refine q_isub hC dX4_read_145 146 rfl ?_
      exact r_iret hR dX4_read_146 hw
    · refine q_bipush (v := (-3)) hC dX4_read_136 (by decide) 138 rfl ?_
      refine q_goto hC 146 dX4_read_138 (by decide) ?_
      exact r_iret hR dX4_read_146 hw
  have B50 : ∀ (n : Nat) (M : MM) (o5 : Nat) (v6 : Int32) (v7 : Int32) (ho5 : shl g o5), wX4_read_50 Q v1 v2 v3 v4 n M o5 v6 v7 → XX z g Qf 11 50 [(0, .ref (gA g 0)), (2, .int v2), (3, .int v3), (4, .int v4), (5, .ref (gA g o5)), (6, .int v6), (7, .int v7)] [] M := by
    intro n
    induction n with
    | zero =>
      intro M o5 v6 v7 ho5 hw
      exact hw.elim
    | succ n ih =>
      intro M o5 v6 v7 ho5 hw
      refine q_iload hC dX4_read_50 6 rfl 52 rfl ?_
      refine q_iload hC dX4_read_52 3 rfl 54 rfl ?_
      refine q_icmp_ge hC 163 dX4_read_54 (by decide) 57 rfl hw (fun hw => ?_) (fun hw => ?_)
      · refine q_aload_n hC dX4_read_163 0 rfl 164 rfl ?_
        refine q_iconst (v := 0) hC dX4_read_164 rfl 165 rfl ?_
        refine q_putI (C := RX4) (T := TX4) (N := 12) (ci := 4) hC inX4_read_X4 tyX4 tyX4_ok nmX4 (hF.ob 0 (by decide) (fun _ => rfl)) rfl 10 (by decide) (List.mem_of_getElem? (i := 3) (by decide +kernel)) rfl rfl rfl (fun _ => Nat.le_of_ble_eq_true rfl) (fun _ => rfl) dX4_read_165 168 rfl (fun M9 eM9 => ?_)
        have hw := hw M9 eM9
        refine q_iload hC dX4_read_168 3 rfl 170 rfl ?_
        exact r_iret hR dX4_read_170 hw
      · refine q_aload hC dX4_read_57 4 rfl 59 rfl ?_
        refine q_iload_n hC dX4_read_59 1 rfl 60 rfl ?_
        refine q_iload_n hC dX4_read_60 2 rfl 61 rfl ?_
        refine q_iload hC dX4_read_61 6 rfl 63 rfl ?_
        refine q_iadd hC dX4_read_63 64 rfl ?_
        refine r_callI hC (go_V (q := (RX1, TX1, 3)) (As := [.int v2, .int (v3 + v7)]) (rest := []) hC (ctX1_faultOf (zl z) g M o5 v2 (v3 + v7) _ ho5 hw) 2 gX4_read_X1_faultOf rfl ⟨rfl, rfl⟩ (by decide +kernel) ⟨Nat.le_of_ble_eq_true rfl, Nat.le_of_ble_eq_true rfl⟩ ho5.ob rfl rfl rfl (Nat.le_of_ble_eq_true rfl) dX4_read_64) 67 rfl (fun r10 M11 hw => ?_)
        refine q_istore (L' := [(8, .int r10), (0, .ref (gA g 0)), (2, .int v2), (3, .int v3), (4, .int v4), (5, .ref (gA g o5)), (6, .int v6), (7, .int v7)]) hC dX4_read_67 (by decide) rfl 69 rfl ?_
        refine q_iload hC dX4_read_69 0 rfl 71 rfl ?_
        refine q_if_eq hC 83 dX4_read_71 (by decide) 74 rfl hw (fun hw => ?_) (fun hw => ?_)
        · refine q_aload hC dX4_read_83 5 rfl 85 rfl ?_
          refine q_iload_n hC dX4_read_85 3 rfl 86 rfl ?_
          refine q_iload hC dX4_read_86 7 rfl 88 rfl ?_
          refine q_iadd hC dX4_read_88 89 rfl ?_
          refine r_callI hC (go_V (q := (RX1, TX1, 3)) (As := [.int (v3 + v7)]) (rest := []) hC (ctX1_cellAt (zl z) g M11 o5 (v3 + v7) _ ho5 hw) 1 gX4_read_X1_cellAt rfl ⟨rfl, rfl⟩ (by decide +kernel) ⟨Nat.le_of_ble_eq_true rfl, Nat.le_of_ble_eq_true rfl⟩ ho5.ob rfl rfl rfl (Nat.le_of_ble_eq_true rfl) dX4_read_89) 92 rfl (fun r12 M13 hw => ?_)
          refine q_istore (L' := [(9, .int r12), (8, .int r10), (0, .ref (gA g 0)), (2, .int v2), (3, .int v3), (4, .int v4), (5, .ref (gA g o5)), (6, .int v6), (7, .int v7)]) hC dX4_read_92 (by decide) rfl 94 rfl ?_
          refine q_iload hC dX4_read_94 0 rfl 96 rfl ?_
          refine q_iconst (v := 0) hC dX4_read_96 rfl 97 rfl ?_
          refine q_sipush (v := 255) hC dX4_read_97 (by decide) 100 rfl ?_
          refine r_callI hC (go_T (As := [.int r12, .int 0, .int 255]) (rest := []) hC (ctX4_isBetween (zl z) g M13 r12 0 255 _ hw) 3 gX4_read_X4_isBetween rfl ⟨rfl, rfl⟩ (by decide +kernel) ⟨Nat.le_of_ble_eq_true rfl, Nat.le_of_ble_eq_true rfl⟩ rfl rfl (Nat.le_of_ble_eq_true rfl) dX4_read_100) 103 rfl (fun r14 M15 hw => ?_)
          refine q_istore (L' := [(10, .int r14), (9, .int r12), (8, .int r10), (0, .ref (gA g 0)), (2, .int v2), (3, .int v3), (4, .int v4), (5, .ref (gA g o5)), (6, .int v6), (7, .int v7)]) hC dX4_read_103 (by decide) rfl 105 rfl ?_
          refine q_iload hC dX4_read_105 0 rfl 107 rfl ?_
          refine q_if_eq hC 122 dX4_read_107 (by decide) 110 rfl hw (fun hw => ?_) (fun hw => ?_)
          · exact XX.sub [3, 8, 9, 0] rfl (B122 M15 v6 v7 r14 hw)
          · refine q_aload_n hC dX4_read_110 3 rfl 111 rfl ?_
            refine q_getR (C := RX4) (T := TX4) (N := 12) (ci := 4) hC inX4_read_X4 (hF.ob 0 (by decide) (fun _ => rfl)) rfl 0 (by decide) (List.mem_of_getElem? (i := 1) (by decide +kernel)) rfl 1 (fun _ => rfl) dX4_read_111 114 rfl ?_
            refine q_getI (C := RX2) (T := TX2) (N := 14) (ci := 2) hC inX4_read_X2 (hF.tp (b := 1) (Or.inl rfl)).ob rfl 11 (by decide) (List.mem_of_getElem? (i := 2) (by decide +kernel)) rfl (fun _ => rfl) dX4_read_114 117 rfl ?_
            refine q_bipush (v := 12) hC dX4_read_117 (by decide) 119 rfl ?_
            refine q_icmp_lt hC 147 dX4_read_119 (by decide) 122 rfl hw (fun hw => ?_) (fun hw => ?_)
            · refine q_aload_n hC dX4_read_147 3 rfl 148 rfl ?_
              refine q_getR (C := RX4) (T := TX4) (N := 12) (ci := 4) hC inX4_read_X4 (hF.ob 0 (by decide) (fun _ => rfl)) rfl 0 (by decide) (List.mem_of_getElem? (i := 1) (by decide +kernel)) rfl 1 (fun _ => rfl) dX4_read_148 151 rfl ?_
              refine q_iload hC dX4_read_151 1 rfl 153 rfl ?_
              refine r_callI hC (go_V (q := (RX2, TX2, 14)) (As := [.int r12]) (rest := []) hC (ctX2_typeOne (zl z) g M15 1 r12 _ (hF.tp (b := 1) (Or.inl rfl)) hw) 1 gX4_read_X2_typeOne rfl ⟨rfl, rfl⟩ (by decide +kernel) ⟨Nat.le_of_ble_eq_true rfl, Nat.le_of_ble_eq_true rfl⟩ (hF.tp (b := 1) (Or.inl rfl)).ob rfl rfl rfl (Nat.le_of_ble_eq_true rfl) dX4_read_153) 156 rfl (fun r16 M17 hw => ?_)
              refine q_pop hC dX4_read_156 rfl 157 rfl ?_
              refine q_iinc (v := v7 + 1) (L' := [(7, .int (v7 + 1)), (10, .int r14), (9, .int r12), (8, .int r10), (0, .ref (gA g 0)), (2, .int v2), (3, .int v3), (4, .int v4), (5, .ref (gA g o5)), (6, .int v6)]) hC dX4_read_157 9 rfl rfl (by decide) rfl 160 rfl ?_
              refine q_goto hC 50 dX4_read_160 (by decide) ?_
              exact XX.sub [4, 5, 6, 7, 8, 9, 0] rfl (ih M17 o5 v6 (v7 + 1) ho5 hw)
            · exact XX.sub [3, 8, 9, 0] rfl (B122 M15 v6 v7 r14 hw)
        · refine q_aload_n hC dX4_read_74 1 rfl 75 rfl ?_
          refine q_iload hC dX4_read_75 0 rfl 77 rfl ?_
          refine q_putI (C := RX4) (T := TX4) (N := 12) (ci := 4) hC inX4_read_X4 tyX4 tyX4_ok nmX4 (hF.ob 0 (by decide) (fun _ => rfl)) rfl 10 (by decide) (List.mem_of_getElem? (i := 3) (by decide +kernel)) rfl rfl rfl (fun _ => Nat.le_of_ble_eq_true rfl) (fun _ => rfl) dX4_read_77 80 rfl (fun M18 eM18 => ?_)
          have hw := hw M18 eM18
          refine q_iload hC dX4_read_80 7 rfl 82 rfl ?_
          exact r_iret hR dX4_read_82 hw
  refine q_iload_n hC dX4_read_0 1 rfl 1 rfl ?_
  refine q_iconst (v := 0) hC dX4_read_1 rfl 2 rfl ?_
  refine q_iconst (v := 3) hC dX4_read_2 rfl 3 rfl ?_
  refine r_callI hC (go_T (As := [.int v1, .int 0, .int 3]) (rest := []) hC (ctX4_isBetween (zl z) g M v1 0 3 _ hw) 3 gX4_read_X4_isBetween rfl ⟨rfl, rfl⟩ (by decide +kernel) ⟨Nat.le_of_ble_eq_true rfl, Nat.le_of_ble_eq_true rfl⟩ rfl rfl (Nat.le_of_ble_eq_true rfl) dX4_read_3) 6 rfl (fun r1 M2 hw => ?_)
  refine q_if_eq hC 29 dX4_read_6 (by decide) 9 rfl hw (fun hw => ?_) (fun hw => ?_)
  · refine q_iconst (v := (-1)) hC dX4_read_29 rfl 30 rfl ?_
    exact r_iret hR dX4_read_30 hw
  · refine q_iload_n hC dX4_read_9 2 rfl 10 rfl ?_
    refine q_iconst (v := 0) hC dX4_read_10 rfl 11 rfl ?_
    refine q_iconst (v := 2) hC dX4_read_11 rfl 12 rfl ?_
    refine r_callI hC (go_T (As := [.int v2, .int 0, .int 2]) (rest := []) hC (ctX4_isBetween (zl z) g M2 v2 0 2 _ hw) 3 gX4_read_X4_isBetween rfl ⟨rfl, rfl⟩ (by decide +kernel) ⟨Nat.le_of_ble_eq_true rfl, Nat.le_of_ble_eq_true rfl⟩ rfl rfl (Nat.le_of_ble_eq_true rfl) dX4_read_12) 15 rfl (fun r3 M4 hw => ?_)
    refine q_if_eq hC 29 dX4_read_15 (by decide) 18 rfl hw (fun hw => ?_) (fun hw => ?_)
    · refine q_iconst (v := (-1)) hC dX4_read_29 rfl 30 rfl ?_
      exact r_iret hR dX4_read_30 hw
    · refine q_iload hC dX4_read_18 4 rfl 20 rfl ?_
      refine q_iconst (v := 0) hC dX4_read_20 rfl 21 rfl ?_
      refine q_bipush (v := 12) hC dX4_read_21 (by decide) 23 rfl ?_
      refine r_callI hC (go_T (As := [.int v4, .int 0, .int 12]) (rest := []) hC (ctX4_isBetween (zl z) g M4 v4 0 12 _ hw) 3 gX4_read_X4_isBetween rfl ⟨rfl, rfl⟩ (by decide +kernel) ⟨Nat.le_of_ble_eq_true rfl, Nat.le_of_ble_eq_true rfl⟩ rfl rfl (Nat.le_of_ble_eq_true rfl) dX4_read_23) 26 rfl (fun r5 M6 hw => ?_)
      refine q_if_ne hC 31 dX4_read_26 (by decide) 29 rfl hw (fun hw => ?_) (fun hw => ?_)
      · refine q_aload_n hC dX4_read_31 0 rfl 32 rfl ?_
        refine q_iload_n hC dX4_read_32 1 rfl 33 rfl ?_
        refine r_callR hC (go_V (q := (RX4, TX4, 12)) (As := [.int v1]) (rest := []) hC (ctX4_sheetNumbered (zl z) g M6 v1 _ hF hw) 1 gX4_read_X4_sheetNumbered rfl ⟨rfl, rfl⟩ (by decide +kernel) ⟨Nat.le_of_ble_eq_true rfl, Nat.le_of_ble_eq_true rfl⟩ (hF.ob 0 (by decide) (fun _ => rfl)) rfl rfl rfl (Nat.le_of_ble_eq_true rfl) dX4_read_33) 36 rfl (fun r7 M8 hw => ?_)
        obtain ⟨hq, hw⟩ := hw
        have hr7 := hF.sh hq
        refine q_astore (L' := [(5, .ref (gA g r7)), (0, .ref (gA g 0)), (1, .int v1), (2, .int v2), (3, .int v3), (4, .int v4)]) hC dX4_read_36 (by decide) rfl 38 rfl ?_
        refine q_aload_n hC dX4_read_38 1 rfl 39 rfl ?_
        refine q_getR (C := RX4) (T := TX4) (N := 12) (ci := 4) hC inX4_read_X4 (hF.ob 0 (by decide) (fun _ => rfl)) rfl 0 (by decide) (List.mem_of_getElem? (i := 1) (by decide +kernel)) rfl 1 (fun _ => rfl) dX4_read_39 42 rfl ?_
        refine q_getI (C := RX2) (T := TX2) (N := 14) (ci := 2) hC inX4_read_X2 (hF.tp (b := 1) (Or.inl rfl)).ob rfl 11 (by decide) (List.mem_of_getElem? (i := 2) (by decide +kernel)) rfl (fun _ => rfl) dX4_read_42 45 rfl ?_
        refine q_istore (L' := [(6, .int (M8 1 11)), (5, .ref (gA g r7)), (0, .ref (gA g 0)), (1, .int v1), (2, .int v2), (3, .int v3), (4, .int v4)]) hC dX4_read_45 (by decide) rfl 47 rfl ?_
        refine q_iconst (v := 0) hC dX4_read_47 rfl 48 rfl ?_
        refine q_istore (L' := [(7, .int 0), (6, .int (M8 1 11)), (5, .ref (gA g r7)), (0, .ref (gA g 0)), (1, .int v1), (2, .int v2), (3, .int v3), (4, .int v4)]) hC dX4_read_48 (by decide) rfl 50 rfl ?_
        obtain ⟨n0, hw⟩ := hw
        exact XX.sub [3, 5, 6, 7, 2, 1, 0] rfl (B50 n0 M8 r7 (M8 1 11) 0 hr7 hw)
      · refine q_iconst (v := (-1)) hC dX4_read_29 rfl 30 rfl ?_
        exact r_iret hR dX4_read_30 hw
set_option maxRecDepth 20000 in
theorem inX4_torn_X4 : ∀ w ∈ u_ws RX4 TX4 12, w ∈ wsX4_torn := by decide +kernel
set_option maxRecDepth 100000 in
set_option maxHeartbeats 4000000 in
theorem ctX4_torn (l : Launch) (g : GG) (M : MM)  (Q : Int32 → MM → Prop) (hF : full g) (hw : wX4_torn Q M ) : MI g l yX4_torn wsX4_torn (rmOf 0 0) [.ref (gA g 0)] M Q := by
  refine mk_MI (cc := cX4_torn) (maxL := 1) (by decide) rfl (Nat.le_of_ble_eq_true rfl) ?_
  intro z Qf hC hR
  show XX z g Qf 1 0 [(0, .ref (gA g 0))] [] M
  refine q_aload_n hC dX4_torn_0 0 rfl 1 rfl ?_
  refine q_getI (C := RX4) (T := TX4) (N := 12) (ci := 4) hC inX4_torn_X4 (hF.ob 0 (by decide) (fun _ => rfl)) rfl 10 (by decide) (List.mem_of_getElem? (i := 1) (by decide +kernel)) rfl (fun _ => rfl) dX4_torn_1 4 rfl ?_
  exact r_iret hR dX4_torn_4 hw
set_option maxRecDepth 20000 in
theorem inX4_count_X1 : ∀ w ∈ u_ws RX1 TX1 3, w ∈ wsX4_count := by decide +kernel
set_option maxRecDepth 20000 in
theorem inX4_count_X2 : ∀ w ∈ u_ws RX2 TX2 14, w ∈ wsX4_count := by decide +kernel
set_option maxRecDepth 20000 in
theorem inX4_count_X3 : ∀ w ∈ u_ws RX3 TX3 10, w ∈ wsX4_count := by decide +kernel
set_option maxRecDepth 20000 in
theorem inX4_count_X4 : ∀ w ∈ u_ws RX4 TX4 12, w ∈ wsX4_count := by decide +kernel
set_option maxRecDepth 100000 in
set_option maxHeartbeats 4000000 in
theorem ctX4_count (l : Launch) (g : GG) (M : MM) (v1 : Int32) (Q : Int32 → MM → Prop) (hF : full g) (hw : wX4_count Q M v1) : MI g l yX4_count wsX4_count (rmOf 4 85) [.ref (gA g 0), .int v1] M Q := by
  refine mk_MI (cc := cX4_count) (maxL := 2) (by decide) rfl (Nat.le_of_ble_eq_true rfl) ?_
  intro z Qf hC hR
  show XX z g Qf 2 0 [(0, .ref (gA g 0)), (1, .int v1)] [] M
  refine q_iload_n hC dX4_count_0 1 rfl 1 rfl ?_
  by_cases c0 : v1 = 0
  · have hw := hw.1 c0
    refine q_tabIn hC 44 dX4_count_1 (by rw [c0]; decide) (by rw [c0]; decide) (by rw [c0]; rfl) (by decide) ?_
    refine q_aload_n hC dX4_count_44 0 rfl 45 rfl ?_
    refine q_getR (C := RX4) (T := TX4) (N := 12) (ci := 4) hC inX4_count_X4 (hF.ob 0 (by decide) (fun _ => rfl)) rfl 0 (by decide) (List.mem_of_getElem? (i := 1) (by decide +kernel)) rfl 1 (fun _ => rfl) dX4_count_45 48 rfl ?_
    refine q_getI (C := RX2) (T := TX2) (N := 14) (ci := 2) hC inX4_count_X2 (hF.tp (b := 1) (Or.inl rfl)).ob rfl 8 (by decide) (List.mem_of_getElem? (i := 2) (by decide +kernel)) rfl (fun _ => rfl) dX4_count_48 51 rfl ?_
    exact r_iret hR dX4_count_51 hw
  · have hw := hw.2 c0
    by_cases c1 : v1 = 1
    · have hw := hw.1 c1
      refine q_tabIn hC 52 dX4_count_1 (by rw [c1]; decide) (by rw [c1]; decide) (by rw [c1]; rfl) (by decide) ?_
      refine q_aload_n hC dX4_count_52 0 rfl 53 rfl ?_
      refine q_getR (C := RX4) (T := TX4) (N := 12) (ci := 4) hC inX4_count_X4 (hF.ob 0 (by decide) (fun _ => rfl)) rfl 0 (by decide) (List.mem_of_getElem? (i := 1) (by decide +kernel)) rfl 1 (fun _ => rfl) dX4_count_53 56 rfl ?_
      refine r_callI hC (go_V (q := (RX2, TX2, 14)) (As := []) (rest := []) hC (ctX2_markCount (zl z) g M 1 _ (hF.tp (b := 1) (Or.inl rfl)) hw) 0 gX4_count_X2_markCount rfl ⟨rfl, rfl⟩ (by decide +kernel) ⟨Nat.le_of_ble_eq_true rfl, Nat.le_of_ble_eq_true rfl⟩ (hF.tp (b := 1) (Or.inl rfl)).ob rfl rfl rfl (Nat.le_of_ble_eq_true rfl) dX4_count_56) 59 rfl (fun r1 M2 hw => ?_)
      exact r_iret hR dX4_count_59 hw
    · have hw := hw.2 c1
      by_cases c2 : v1 = 2
      · have hw := hw.1 c2
        refine q_tabIn hC 60 dX4_count_1 (by rw [c2]; decide) (by rw [c2]; decide) (by rw [c2]; rfl) (by decide) ?_
        refine q_aload_n hC dX4_count_60 0 rfl 61 rfl ?_
        refine q_getR (C := RX4) (T := TX4) (N := 12) (ci := 4) hC inX4_count_X4 (hF.ob 0 (by decide) (fun _ => rfl)) rfl 0 (by decide) (List.mem_of_getElem? (i := 1) (by decide +kernel)) rfl 1 (fun _ => rfl) dX4_count_61 64 rfl ?_
        refine r_callI hC (go_V (q := (RX2, TX2, 14)) (As := []) (rest := []) hC (ctX2_byteCount (zl z) g M 1 _ (hF.tp (b := 1) (Or.inl rfl)) hw) 0 gX4_count_X2_byteCount rfl ⟨rfl, rfl⟩ (by decide +kernel) ⟨Nat.le_of_ble_eq_true rfl, Nat.le_of_ble_eq_true rfl⟩ (hF.tp (b := 1) (Or.inl rfl)).ob rfl rfl rfl (Nat.le_of_ble_eq_true rfl) dX4_count_64) 67 rfl (fun r3 M4 hw => ?_)
        exact r_iret hR dX4_count_67 hw
      · have hw := hw.2 c2
        by_cases c3 : v1 = 3
        · have hw := hw.1 c3
          refine q_tabIn hC 68 dX4_count_1 (by rw [c3]; decide) (by rw [c3]; decide) (by rw [c3]; rfl) (by decide) ?_
          refine q_aload_n hC dX4_count_68 0 rfl 69 rfl ?_
          refine q_getR (C := RX4) (T := TX4) (N := 12) (ci := 4) hC inX4_count_X4 (hF.ob 0 (by decide) (fun _ => rfl)) rfl 0 (by decide) (List.mem_of_getElem? (i := 1) (by decide +kernel)) rfl 1 (fun _ => rfl) dX4_count_69 72 rfl ?_
          refine q_getI (C := RX2) (T := TX2) (N := 14) (ci := 2) hC inX4_count_X2 (hF.tp (b := 1) (Or.inl rfl)).ob rfl 13 (by decide) (List.mem_of_getElem? (i := 3) (by decide +kernel)) rfl (fun _ => rfl) dX4_count_72 75 rfl ?_
          exact r_iret hR dX4_count_75 hw
        · have hw := hw.2 c3
          by_cases c4 : v1 = 4
          · have hw := hw.1 c4
            refine q_tabIn hC 76 dX4_count_1 (by rw [c4]; decide) (by rw [c4]; decide) (by rw [c4]; rfl) (by decide) ?_
            refine q_aload_n hC dX4_count_76 0 rfl 77 rfl ?_
            refine q_getI (C := RX4) (T := TX4) (N := 12) (ci := 4) hC inX4_count_X4 (hF.ob 0 (by decide) (fun _ => rfl)) rfl 11 (by decide) (List.mem_of_getElem? (i := 4) (by decide +kernel)) rfl (fun _ => rfl) dX4_count_77 80 rfl ?_
            refine r_callI hC (go_T (As := [.int (M 0 11)]) (rest := []) hC (ctJ6_bitCount_0f7a4 (zl z) g M (M 0 11) _ hw) 1 gX4_count_J6_bitCount_0f7a4 rfl ⟨rfl, rfl⟩ (by decide +kernel) ⟨Nat.le_of_ble_eq_true rfl, Nat.le_of_ble_eq_true rfl⟩ rfl rfl (Nat.le_of_ble_eq_true rfl) dX4_count_80) 83 rfl (fun r5 M6 hw => ?_)
            exact r_iret hR dX4_count_83 hw
          · have hw := hw.2 c4
            by_cases c5 : v1 = 5
            · have hw := hw.1 c5
              refine q_tabIn hC 84 dX4_count_1 (by rw [c5]; decide) (by rw [c5]; decide) (by rw [c5]; rfl) (by decide) ?_
              refine q_aload_n hC dX4_count_84 0 rfl 85 rfl ?_
              refine q_getR (C := RX4) (T := TX4) (N := 12) (ci := 4) hC inX4_count_X4 (hF.ob 0 (by decide) (fun _ => rfl)) rfl 1 (by decide) (List.mem_of_getElem? (i := 5) (by decide +kernel)) rfl 37 (fun _ => rfl) dX4_count_85 88 rfl ?_
              refine q_getI (C := RX3) (T := TX3) (N := 10) (ci := 3) hC inX4_count_X3 (hF.ob 37 (by decide) (fun _ => rfl)) rfl 2 (by decide) (List.mem_of_getElem? (i := 6) (by decide +kernel)) rfl (fun _ => rfl) dX4_count_88 91 rfl ?_
              exact r_iret hR dX4_count_91 hw
            · have hw := hw.2 c5
              by_cases c6 : v1 = 6
              · have hw := hw.1 c6
                refine q_tabIn hC 92 dX4_count_1 (by rw [c6]; decide) (by rw [c6]; decide) (by rw [c6]; rfl) (by decide) ?_
                refine q_aload_n hC dX4_count_92 0 rfl 93 rfl ?_
                refine q_getR (C := RX4) (T := TX4) (N := 12) (ci := 4) hC inX4_count_X4 (hF.ob 0 (by decide) (fun _ => rfl)) rfl 5 (by decide) (List.mem_of_getElem? (i := 7) (by decide +kernel)) rfl 44 (fun _ => rfl) dX4_count_93 96 rfl ?_
                refine r_callI hC (go_V (q := (RX1, TX1, 3)) (As := []) (rest := []) hC (ctX1_isNothing (zl z) g M 44 _ (hF.sh (b := 44) (Or.inl rfl)) hw) 0 gX4_count_X1_isNothing rfl ⟨rfl, rfl⟩ (by decide +kernel) ⟨Nat.le_of_ble_eq_true rfl, Nat.le_of_ble_eq_true rfl⟩ (hF.sh (b := 44) (Or.inl rfl)).ob rfl rfl rfl (Nat.le_of_ble_eq_true rfl) dX4_count_96) 99 rfl (fun r7 M8 hw => ?_)
                refine q_if_eq hC 107 dX4_count_99 (by decide) 102 rfl hw (fun hw => ?_) (fun hw => ?_)
                · refine q_aload_n hC dX4_count_107 0 rfl 108 rfl ?_
                  refine q_getR (C := RX4) (T := TX4) (N := 12) (ci := 4) hC inX4_count_X4 (hF.ob 0 (by decide) (fun _ => rfl)) rfl 5 (by decide) (List.mem_of_getElem? (i := 7) (by decide +kernel)) rfl 44 (fun _ => rfl) dX4_count_108 111 rfl ?_
                  refine q_getI (C := RX1) (T := TX1) (N := 3) (ci := 1) hC inX4_count_X1 (hF.sh (b := 44) (Or.inl rfl)).ob rfl 2 (by decide) (List.mem_of_getElem? (i := 8) (by decide +kernel)) rfl (fun _ => rfl) dX4_count_111 114 rfl ?_
                  exact r_iret hR dX4_count_114 hw
                · refine q_bipush (v := (-4)) hC dX4_count_102 (by decide) 104 rfl ?_
                  refine q_goto hC 114 dX4_count_104 (by decide) ?_
                  exact r_iret hR dX4_count_114 hw
              · have hw := hw.2 c6
                refine q_tabOut hC 115 dX4_count_1 (tab_out6 c0 c1 c2 c3 c4 c5 c6) (by decide) ?_
                refine q_iconst (v := (-1)) hC dX4_count_115 rfl 116 rfl ?_
                exact r_iret hR dX4_count_116 hw
