theorem hdV_X5_reading : yX5_reading.cls = RX5 ∧ yX5_reading.cls ≠ "java/lang/invoke/MethodHandle" ∧ yX5_reading.cls ≠ "java/lang/invoke/VarHandle" ∧ (parseMethodDescriptor yX5_reading.desc).map (fun d => d.parameters.length) = some 2 := by decide +kernel
theorem inX5_check_X5 : ∀ w ∈ u_ws RX5 TX5 26, w ∈ wsX5_check := uX5_check__wsX50
set_option maxRecDepth 100000 in
set_option maxHeartbeats 4000000 in
theorem ctX5_check (l : Launch) (g : GG) (M : MM) (v1 : Int32) (Q : Int32 → MM → Prop) (hF : ful5 g) (hw : wX5_check Q M v1) : MI g l yX5_check wsX5_check (rmOf 3 72) [.ref (gA g 52), .int v1] M Q := by
  refine mk_MI (cc := cX5_check) (maxL := 2) (by decide) rfl (Nat.le_of_ble_eq_true rfl) ?_
  intro z Qf hC hR
  show XX z g Qf 2 0 [(0, .ref (gA g 52)), (1, .int v1)] [] M
  refine q_aload_n hC dX5_check_0 0 rfl 1 rfl ?_
  refine q_iload_n hC dX5_check_1 1 rfl 2 rfl ?_
  refine r_callI hC (go_V (q := (RX5, TX5, 26)) (As := [.int v1]) (rest := []) hC (ctX5_isBlock (zl z) g M v1 _ hF hw) 1 gX5_check_X5_isBlock rfl ⟨rfl, rfl⟩ hdV_X5_isBlock ⟨Nat.le_of_ble_eq_true rfl, Nat.le_of_ble_eq_true rfl⟩ (obF52 hF) rfl rfl rfl (Nat.le_of_ble_eq_true rfl) dX5_check_2) 5 rfl (fun r1 M2 hw => ?_)
  refine q_if_eq hC 24 dX5_check_5 (by decide) 8 rfl hw (fun hw => ?_) (fun hw => ?_)
  · refine q_iconst (v := (-1)) hC dX5_check_24 rfl 25 rfl ?_
    exact r_iret hR dX5_check_25 hw
  · refine q_aload_n hC dX5_check_8 0 rfl 9 rfl ?_
    refine q_iload_n hC dX5_check_9 1 rfl 10 rfl ?_
    refine q_aload_n hC dX5_check_10 0 rfl 11 rfl ?_
    refine q_getR (C := RX5) (T := TX5) (N := 26) (ci := 5) hC inX5_check_X5 (obF52 hF) rfl 0 (by decide) (uX5_check__X5_isBlock _ (List.mem_of_getElem? (l := owX5_isBlock) (i := 1) rfl)) rfl 53 (fun _ => rfl) dX5_check_11 14 rfl ?_
    refine q_sipush (v := 340) hC dX5_check_14 (by decide) 17 rfl ?_
    refine q_ialdL hC (arF53 hF) 340 (by decide +kernel) (by decide +kernel) dX5_check_17 18 rfl ?_
    refine r_callI hC (go_V (q := (RX5, TX5, 26)) (As := [.int v1, .int (M2 53 340)]) (rest := []) hC (ctX5_reading (zl z) g M2 v1 (M2 53 340) _ hF hw) 2 gX5_check_X5_reading rfl ⟨rfl, rfl⟩ hdV_X5_reading ⟨Nat.le_of_ble_eq_true rfl, Nat.le_of_ble_eq_true rfl⟩ (obF52 hF) rfl rfl rfl (Nat.le_of_ble_eq_true rfl) dX5_check_18) 21 rfl (fun r3 M4 hw => ?_)
    refine q_goto hC 25 dX5_check_21 (by decide) ?_
    exact r_iret hR dX5_check_25 hw
theorem inX5_got_X5 : ∀ w ∈ u_ws RX5 TX5 26, w ∈ wsX5_got := uX5_got__wsX50
set_option maxRecDepth 100000 in
set_option maxHeartbeats 4000000 in
theorem ctX5_got (l : Launch) (g : GG) (M : MM) (v1 : Int32) (v2 : Int32) (Q : Int32 → MM → Prop) (hF : ful5 g) (hw : wX5_got Q M v1 v2) : MI g l yX5_got wsX5_got (rmOf 3 72) [.ref (gA g 52), .int v1, .int v2] M Q := by
  refine mk_MI (cc := cX5_got) (maxL := 3) (by decide) rfl (Nat.le_of_ble_eq_true rfl) ?_
  intro z Qf hC hR
  show XX z g Qf 3 0 [(0, .ref (gA g 52)), (1, .int v1), (2, .int v2)] [] M
  refine q_aload_n hC dX5_got_0 0 rfl 1 rfl ?_
  refine q_iload_n hC dX5_got_1 1 rfl 2 rfl ?_
  refine r_callI hC (go_V (q := (RX5, TX5, 26)) (As := [.int v1]) (rest := []) hC (ctX5_isBlock (zl z) g M v1 _ hF hw) 1 gX5_got_X5_isBlock rfl ⟨rfl, rfl⟩ hdV_X5_isBlock ⟨Nat.le_of_ble_eq_true rfl, Nat.le_of_ble_eq_true rfl⟩ (obF52 hF) rfl rfl rfl (Nat.le_of_ble_eq_true rfl) dX5_got_2) 5 rfl (fun r1 M2 hw => ?_)
  refine q_if_eq hC 29 dX5_got_5 (by decide) 8 rfl hw (fun hw => ?_) (fun hw => ?_)
  · refine q_iconst (v := (-1)) hC dX5_got_29 rfl 30 rfl ?_
    exact r_iret hR dX5_got_30 hw
  · refine q_iload_n hC dX5_got_8 2 rfl 9 rfl ?_
    refine q_i2l hC dX5_got_9 10 rfl ?_
    refine q_lconst (v := 0) hC dX5_got_10 rfl 11 rfl ?_
    refine q_aload_n hC dX5_got_11 0 rfl 12 rfl ?_
    refine q_getR (C := RX5) (T := TX5) (N := 26) (ci := 5) hC inX5_got_X5 (obF52 hF) rfl 0 (by decide) (uX5_got__X5_isBlock _ (List.mem_of_getElem? (l := owX5_isBlock) (i := 1) rfl)) rfl 53 (fun _ => rfl) dX5_got_12 15 rfl ?_
    refine q_bipush (v := 13) hC dX5_got_15 (by decide) 17 rfl ?_
    refine q_iload_n hC dX5_got_17 1 rfl 18 rfl ?_
    refine q_iadd hC dX5_got_18 19 rfl ?_
    obtain ⟨hin, hw⟩ := hw
    refine q_iald hC (arF53 hF) hin dX5_got_19 20 rfl ?_
    refine q_iconst (v := 1) hC dX5_got_20 rfl 21 rfl ?_
    refine q_isub hC dX5_got_21 22 rfl ?_
    refine q_i2l hC dX5_got_22 23 rfl ?_
    refine r_callI hC (go_T (As := [.long (v2.toInt64), .long 0, .long (((M2 53 ((13 : Int32) + v1).toNatClampNeg) - (1 : Int32)).toInt64)]) (rest := []) hC (ctX5_in (zl z) g M2 (v2.toInt64) 0 (((M2 53 ((13 : Int32) + v1).toNatClampNeg) - (1 : Int32)).toInt64) _ hw) 3 gX5_got_X5_in rfl ⟨rfl, rfl⟩ hdT_X5_in ⟨Nat.le_of_ble_eq_true rfl, Nat.le_of_ble_eq_true rfl⟩ rfl rfl (Nat.le_of_ble_eq_true rfl) dX5_got_23) 26 rfl (fun r3 M4 hw => ?_)
    refine q_if_ne hC 31 dX5_got_26 (by decide) 29 rfl hw (fun hw => ?_) (fun hw => ?_)
    · refine q_aload_n hC dX5_got_31 0 rfl 32 rfl ?_
      refine q_iload_n hC dX5_got_32 1 rfl 33 rfl ?_
      refine q_aload_n hC dX5_got_33 0 rfl 34 rfl ?_
      refine q_getR (C := RX5) (T := TX5) (N := 26) (ci := 5) hC inX5_got_X5 (obF52 hF) rfl 0 (by decide) (uX5_got__X5_isBlock _ (List.mem_of_getElem? (l := owX5_isBlock) (i := 1) rfl)) rfl 53 (fun _ => rfl) dX5_got_34 37 rfl ?_
      refine q_sipush (v := 340) hC dX5_got_37 (by decide) 40 rfl ?_
      refine q_ialdL hC (arF53 hF) 340 (by decide +kernel) (by decide +kernel) dX5_got_40 41 rfl ?_
      refine r_callI hC (go_V (q := (RX5, TX5, 26)) (As := [.int v1, .int (M4 53 340)]) (rest := []) hC (ctX5_reading (zl z) g M4 v1 (M4 53 340) _ hF hw) 2 gX5_got_X5_reading rfl ⟨rfl, rfl⟩ hdV_X5_reading ⟨Nat.le_of_ble_eq_true rfl, Nat.le_of_ble_eq_true rfl⟩ (obF52 hF) rfl rfl rfl (Nat.le_of_ble_eq_true rfl) dX5_got_41) 44 rfl (fun r5 M6 hw => ?_)
      refine q_iconst (v := 3) hC dX5_got_44 rfl 45 rfl ?_
      refine q_icmp_ne hC 53 dX5_got_45 (by decide) 48 rfl hw (fun hw => ?_) (fun hw => ?_)
      · refine q_aload_n hC dX5_got_53 0 rfl 54 rfl ?_
        refine q_getR (C := RX5) (T := TX5) (N := 26) (ci := 5) hC inX5_got_X5 (obF52 hF) rfl 17 (by decide) (uX5_got__X5_reading _ (List.mem_of_getElem? (l := owX5_reading) (i := 1) rfl)) rfl 61 (fun _ => rfl) dX5_got_54 57 rfl ?_
        refine q_iload_n hC dX5_got_57 2 rfl 58 rfl ?_
        obtain ⟨hin, hw⟩ := hw
        refine q_iald hC (arF61 hF) hin dX5_got_58 59 rfl ?_
        refine q_sipush (v := 255) hC dX5_got_59 (by decide) 62 rfl ?_
        refine q_iand hC dX5_got_62 63 rfl ?_
        exact r_iret hR dX5_got_63 hw
      · refine q_bipush (v := (-4)) hC dX5_got_48 (by decide) 50 rfl ?_
        refine q_goto hC 63 dX5_got_50 (by decide) ?_
        exact r_iret hR dX5_got_63 hw
    · refine q_iconst (v := (-1)) hC dX5_got_29 rfl 30 rfl ?_
      exact r_iret hR dX5_got_30 hw
set_option maxRecDepth 100000 in
set_option maxHeartbeats 4000000 in
theorem ctX5_column (l : Launch) (g : GG) (M : MM) (v1 : Int32) (v2 : Int32) (Q : Int32 → MM → Prop) (hF : ful5 g) (hw : wX5_column Q M v1 v2) : MI g l yX5_column wsX5_column (rmOf 3 68) [.ref (gA g 52), .int v1, .int v2] M Q := by
  refine mk_MI (cc := cX5_column) (maxL := 3) (by decide) rfl (Nat.le_of_ble_eq_true rfl) ?_
  intro z Qf hC hR
  show XX z g Qf 3 0 [(0, .ref (gA g 52)), (1, .int v1), (2, .int v2)] [] M
  refine q_aload_n hC dX5_column_0 0 rfl 1 rfl ?_
  refine q_iload_n hC dX5_column_1 1 rfl 2 rfl ?_
  refine q_iload_n hC dX5_column_2 2 rfl 3 rfl ?_
  refine r_callI hC (go_V (q := (RX5, TX5, 26)) (As := [.int v1, .int v2]) (rest := []) hC (ctX5_isColumn (zl z) g M v1 v2 _ hF hw) 2 gX5_column_X5_isColumn rfl ⟨rfl, rfl⟩ hdV_X5_isColumn ⟨Nat.le_of_ble_eq_true rfl, Nat.le_of_ble_eq_true rfl⟩ (obF52 hF) rfl rfl rfl (Nat.le_of_ble_eq_true rfl) dX5_column_3) 6 rfl (fun r1 M2 hw => ?_)
  refine q_if_eq hC 18 dX5_column_6 (by decide) 9 rfl hw (fun hw => ?_) (fun hw => ?_)
  · refine q_iconst (v := (-1)) hC dX5_column_18 rfl 19 rfl ?_
    exact r_iret hR dX5_column_19 hw
  · refine q_aload_n hC dX5_column_9 0 rfl 10 rfl ?_
    refine q_iload_n hC dX5_column_10 1 rfl 11 rfl ?_
    refine q_iload_n hC dX5_column_11 2 rfl 12 rfl ?_
    refine r_callI hC (go_V (q := (RX5, TX5, 26)) (As := [.int v1, .int v2]) (rest := []) hC (ctX5_columnOf (zl z) g M2 v1 v2 _ hF hw) 2 gX5_column_X5_columnOf rfl ⟨rfl, rfl⟩ hdV_X5_columnOf ⟨Nat.le_of_ble_eq_true rfl, Nat.le_of_ble_eq_true rfl⟩ (obF52 hF) rfl rfl rfl (Nat.le_of_ble_eq_true rfl) dX5_column_12) 15 rfl (fun r3 M4 hw => ?_)
    refine q_goto hC 19 dX5_column_15 (by decide) ?_
    exact r_iret hR dX5_column_19 hw
theorem inX5_isFooled_X5 : ∀ w ∈ u_ws RX5 TX5 26, w ∈ wsX5_isFooled := uX5_isFooled__wsX50
set_option maxRecDepth 100000 in
set_option maxHeartbeats 4000000 in
theorem ctX5_isFooled (l : Launch) (g : GG) (M : MM) (v1 : Int32) (Q : Int32 → MM → Prop) (hF : ful5 g) (hw : wX5_isFooled Q M v1) : MI g l yX5_isFooled wsX5_isFooled (rmOf 3 72) [.ref (gA g 52), .int v1] M Q := by
  refine mk_MZ (cc := cX5_isFooled) (maxL := 5) (by decide) rfl (Nat.le_of_ble_eq_true rfl) ?_
  intro z Qf hC hR
  show XX z g Qf 5 0 [(0, .ref (gA g 52)), (1, .int v1)] [] M
  have B100 : ∀ (M : MM), wX5_isFooled_100 Q v1 M → XX z g Qf 5 100 [] [] M := by
    intro M hw
    refine q_iconst (v := 0) hC dX5_isFooled_100 rfl 101 rfl ?_
    exact r_iret hR dX5_isFooled_101 ⟨nb_0, hw⟩
  have B81 : ∀ (K28 : MM → Int32 → Int32 → Int32 → Prop) (hK28 : ∀ (M : MM) (v2 : Int32) (v3 : Int32) (v4 : Int32) , K28 M v2 v3 v4 → XX z g Qf 5 28 [(0, .ref (gA g 52)), (1, .int v1), (2, .int v2), (3, .int v3), (4, .int v4)] [] M) (M : MM) (v3 : Int32) (v4 : Int32) (p0 : Int32), wX5_isFooled_81 Q K28 v1 M v3 v4 p0 → XX z g Qf 5 81 [(0, .ref (gA g 52)), (1, .int v1), (3, .int v3), (4, .int v4)] [.int p0] M := by
    intro K28 hK28 M v3 v4 p0 hw
    refine q_istore_n (L' := [(2, .int p0), (0, .ref (gA g 52)), (1, .int v1), (3, .int v3), (4, .int v4)]) hC dX5_isFooled_81 (by decide) rfl 82 rfl ?_
    refine q_iinc (v := v4 + 1) (L' := [(4, .int (v4 + 1)), (2, .int p0), (0, .ref (gA g 52)), (1, .int v1), (3, .int v3)]) hC dX5_isFooled_82 4 rfl rfl (by decide) rfl 85 rfl ?_
    refine q_goto hC 28 dX5_isFooled_85 (by decide) ?_
    exact XX.sub [2, 3, 1, 4, 0] rfl (hK28 M p0 v3 (v4 + 1) hw)
  have B76 : ∀ (K28 : MM → Int32 → Int32 → Int32 → Prop) (hK28 : ∀ (M : MM) (v2 : Int32) (v3 : Int32) (v4 : Int32) , K28 M v2 v3 v4 → XX z g Qf 5 28 [(0, .ref (gA g 52)), (1, .int v1), (2, .int v2), (3, .int v3), (4, .int v4)] [] M) (M : MM) (v3 : Int32) (v4 : Int32), wX5_isFooled_76 Q K28 v1 M v3 v4 → XX z g Qf 5 76 [(0, .ref (gA g 52)), (1, .int v1), (3, .int v3), (4, .int v4)] [] M := by
    intro K28 hK28 M v3 v4 hw
    refine q_iconst (v := 1) hC dX5_isFooled_76 rfl 77 rfl ?_
    refine q_goto hC 81 dX5_isFooled_77 (by decide) ?_
    exact XX.sub [0, 1, 2, 3] rfl (B81 _ hK28 M v3 v4 1 hw)
  have B28 : ∀ (n : Nat) (M : MM) (v2 : Int32) (v3 : Int32) (v4 : Int32) , wX5_isFooled_28 Q v1 n M v2 v3 v4 → XX z g Qf 5 28 [(0, .ref (gA g 52)), (1, .int v1), (2, .int v2), (3, .int v3), (4, .int v4)] [] M := by
    intro n
    induction n with
    | zero =>
      intro M v2 v3 v4 hw
      exact hw.elim
    | succ n ih =>
      intro M v2 v3 v4 hw
      refine q_iload hC dX5_isFooled_28 4 rfl 30 rfl ?_
      refine q_aload_n hC dX5_isFooled_30 0 rfl 31 rfl ?_
      refine q_getR (C := RX5) (T := TX5) (N := 26) (ci := 5) hC inX5_isFooled_X5 (obF52 hF) rfl 0 (by decide) (uX5_isFooled__X5_columnOf _ (List.mem_of_getElem? (l := owX5_columnOf) (i := 1) rfl)) rfl 53 (fun _ => rfl) dX5_isFooled_31 34 rfl ?_
      refine q_bipush (v := 13) hC dX5_isFooled_34 (by decide) 36 rfl ?_
      refine q_iload_n hC dX5_isFooled_36 1 rfl 37 rfl ?_
      refine q_iadd hC dX5_isFooled_37 38 rfl ?_
      obtain ⟨hin, hw⟩ := hw
      refine q_iald hC (arF53 hF) hin dX5_isFooled_38 39 rfl ?_
      refine q_icmp_ge hC 88 dX5_isFooled_39 (by decide) 42 rfl hw (fun hw => ?_) (fun hw => ?_)
      · refine q_iload_n hC dX5_isFooled_88 2 rfl 89 rfl ?_
        refine q_if_eq hC 100 dX5_isFooled_89 (by decide) 92 rfl hw (fun hw => ?_) (fun hw => ?_)
        · exact XX.sub [] rfl (B100 M hw)
        · refine q_iload_n hC dX5_isFooled_92 3 rfl 93 rfl ?_
          refine q_if_ne hC 100 dX5_isFooled_93 (by decide) 96 rfl hw (fun hw => ?_) (fun hw => ?_)
          · exact XX.sub [] rfl (B100 M hw)
          · refine q_iconst (v := 1) hC dX5_isFooled_96 rfl 97 rfl ?_
            refine q_goto hC 101 dX5_isFooled_97 (by decide) ?_
            exact r_iret hR dX5_isFooled_101 ⟨nb_1, hw⟩
      · refine q_iload_n hC dX5_isFooled_42 2 rfl 43 rfl ?_
        refine q_if_ne hC 76 dX5_isFooled_43 (by decide) 46 rfl hw (fun hw => ?_) (fun hw => ?_)
        · exact XX.sub [0, 1, 3, 4] rfl (B76 _ (fun M v2 v3 v4 hw => ih M v2 v3 v4 hw) M v3 v4 hw)
        · refine q_aload_n hC dX5_isFooled_46 0 rfl 47 rfl ?_
          refine q_getR (C := RX5) (T := TX5) (N := 26) (ci := 5) hC inX5_isFooled_X5 (obF52 hF) rfl 17 (by decide) (uX5_isFooled__X5_reading _ (List.mem_of_getElem? (l := owX5_reading) (i := 1) rfl)) rfl 61 (fun _ => rfl) dX5_isFooled_47 50 rfl ?_
          refine q_iload hC dX5_isFooled_50 4 rfl 52 rfl ?_
          obtain ⟨hin, hw⟩ := hw
          refine q_iald hC (arF61 hF) hin dX5_isFooled_52 53 rfl ?_
          refine q_sipush (v := 255) hC dX5_isFooled_53 (by decide) 56 rfl ?_
          refine q_iand hC dX5_isFooled_56 57 rfl ?_
          refine q_aload_n hC dX5_isFooled_57 0 rfl 58 rfl ?_
          refine q_getR (C := RX5) (T := TX5) (N := 26) (ci := 5) hC inX5_isFooled_X5 (obF52 hF) rfl 0 (by decide) (uX5_isFooled__X5_columnOf _ (List.mem_of_getElem? (l := owX5_columnOf) (i := 1) rfl)) rfl 53 (fun _ => rfl) dX5_isFooled_58 61 rfl ?_
          refine q_sipush (v := 181) hC dX5_isFooled_61 (by decide) 64 rfl ?_
          refine q_bipush (v := 12) hC dX5_isFooled_64 (by decide) 66 rfl ?_
          refine q_iload_n hC dX5_isFooled_66 1 rfl 67 rfl ?_
          refine q_imul hC dX5_isFooled_67 68 rfl ?_
          refine q_iadd hC dX5_isFooled_68 69 rfl ?_
          refine q_iload hC dX5_isFooled_69 4 rfl 71 rfl ?_
          refine q_iadd hC dX5_isFooled_71 72 rfl ?_
          obtain ⟨hin, hw⟩ := hw
          refine q_iald hC (arF53 hF) hin dX5_isFooled_72 73 rfl ?_
          refine q_icmp_eq hC 80 dX5_isFooled_73 (by decide) 76 rfl hw (fun hw => ?_) (fun hw => ?_)
          · refine q_iconst (v := 0) hC dX5_isFooled_80 rfl 81 rfl ?_
            exact XX.sub [0, 1, 3, 4] rfl (B81 _ (fun M v2 v3 v4 hw => ih M v2 v3 v4 hw) M v3 v4 0 hw)
          · exact XX.sub [0, 1, 3, 4] rfl (B76 _ (fun M v2 v3 v4 hw => ih M v2 v3 v4 hw) M v3 v4 hw)
  have B24 : ∀ (M : MM) (v2 : Int32) (p0 : Int32), wX5_isFooled_24 Q v1 M v2 p0 → XX z g Qf 5 24 [(0, .ref (gA g 52)), (1, .int v1), (2, .int v2)] [.int p0] M := by
    intro M v2 p0 hw
    refine q_istore_n (L' := [(3, .int p0), (0, .ref (gA g 52)), (1, .int v1), (2, .int v2)]) hC dX5_isFooled_24 (by decide) rfl 25 rfl ?_
    refine q_iconst (v := 0) hC dX5_isFooled_25 rfl 26 rfl ?_
    refine q_istore (L' := [(4, .int 0), (3, .int p0), (0, .ref (gA g 52)), (1, .int v1), (2, .int v2)]) hC dX5_isFooled_26 (by decide) rfl 28 rfl ?_
    obtain ⟨n0, hw⟩ := hw
    exact XX.sub [2, 3, 4, 1, 0] rfl (B28 n0 M v2 p0 0 hw)
  refine q_iconst (v := 0) hC dX5_isFooled_0 rfl 1 rfl ?_
  refine q_istore_n (L' := [(2, .int 0), (0, .ref (gA g 52)), (1, .int v1)]) hC dX5_isFooled_1 (by decide) rfl 2 rfl ?_
  refine q_aload_n hC dX5_isFooled_2 1 rfl 3 rfl ?_
  refine q_iload_n hC dX5_isFooled_3 2 rfl 4 rfl ?_
  refine q_aload_n hC dX5_isFooled_4 1 rfl 5 rfl ?_
  refine q_getR (C := RX5) (T := TX5) (N := 26) (ci := 5) hC inX5_isFooled_X5 (obF52 hF) rfl 0 (by decide) (uX5_isFooled__X5_columnOf _ (List.mem_of_getElem? (l := owX5_columnOf) (i := 1) rfl)) rfl 53 (fun _ => rfl) dX5_isFooled_5 8 rfl ?_
  refine q_sipush (v := 340) hC dX5_isFooled_8 (by decide) 11 rfl ?_
  refine q_ialdL hC (arF53 hF) 340 (by decide +kernel) (by decide +kernel) dX5_isFooled_11 12 rfl ?_
  refine r_callI hC (go_V (q := (RX5, TX5, 26)) (As := [.int v1, .int (M 53 340)]) (rest := []) hC (ctX5_reading (zl z) g M v1 (M 53 340) _ hF hw) 2 gX5_isFooled_X5_reading rfl ⟨rfl, rfl⟩ hdV_X5_reading ⟨Nat.le_of_ble_eq_true rfl, Nat.le_of_ble_eq_true rfl⟩ (obF52 hF) rfl rfl rfl (Nat.le_of_ble_eq_true rfl) dX5_isFooled_12) 15 rfl (fun r1 M2 hw => ?_)
  refine q_iconst (v := 3) hC dX5_isFooled_15 rfl 16 rfl ?_
  refine q_icmp_ne hC 23 dX5_isFooled_16 (by decide) 19 rfl hw (fun hw => ?_) (fun hw => ?_)
  · refine q_iconst (v := 0) hC dX5_isFooled_23 rfl 24 rfl ?_
    exact XX.sub [1, 2, 0] rfl (B24 M2 0 0 hw)
  · refine q_iconst (v := 1) hC dX5_isFooled_19 rfl 20 rfl ?_
    refine q_goto hC 24 dX5_isFooled_20 (by decide) ?_
    exact XX.sub [1, 2, 0] rfl (B24 M2 0 1 hw)
theorem hdV_X5_isFooled : yX5_isFooled.cls = RX5 ∧ yX5_isFooled.cls ≠ "java/lang/invoke/MethodHandle" ∧ yX5_isFooled.cls ≠ "java/lang/invoke/VarHandle" ∧ (parseMethodDescriptor yX5_isFooled.desc).map (fun d => d.parameters.length) = some 1 := by decide +kernel
theorem inX5_state_X5 : ∀ w ∈ u_ws RX5 TX5 26, w ∈ wsX5_state := uX5_state__wsX50
set_option maxRecDepth 100000 in
set_option maxHeartbeats 4000000 in
theorem ctX5_state (l : Launch) (g : GG) (M : MM) (v1 : Int32) (Q : Int32 → MM → Prop) (hF : ful5 g) (hw : wX5_state Q M v1) : MI g l yX5_state wsX5_state (rmOf 4 96) [.ref (gA g 52), .int v1] M Q := by
  refine mk_MI (cc := cX5_state) (maxL := 6) (by decide) rfl (Nat.le_of_ble_eq_true rfl) ?_
  intro z Qf hC hR
  show XX z g Qf 6 0 [(0, .ref (gA g 52)), (1, .int v1)] [] M
  have B106 : ∀ (K18 : MM → Int32 → Int32 → Prop) (hK18 : ∀ (M : MM) (v2 : Int32) (v3 : Int32) , K18 M v2 v3 → XX z g Qf 6 18 [(0, .ref (gA g 52)), (1, .int v1), (2, .int v2), (3, .int v3)] [] M) (M : MM) (v3 : Int32) (p0 : Int32) (p1 : Int32), wX5_state_106 Q K18 v1 M v3 p0 p1 → XX z g Qf 6 106 [(0, .ref (gA g 52)), (1, .int v1), (3, .int v3)] [.int p0, .int p1] M := by
    intro K18 hK18 M v3 p0 p1 hw
    refine q_ior hC dX5_state_106 107 rfl ?_
    refine q_istore_n (L' := [(2, .int (p1 ||| p0)), (0, .ref (gA g 52)), (1, .int v1), (3, .int v3)]) hC dX5_state_107 (by decide) rfl 108 rfl ?_
    refine q_iinc (v := v3 + 1) (L' := [(3, .int (v3 + 1)), (2, .int (p1 ||| p0)), (0, .ref (gA g 52)), (1, .int v1)]) hC dX5_state_108 3 rfl rfl (by decide) rfl 111 rfl ?_
    refine q_goto hC 18 dX5_state_111 (by decide) ?_
    exact XX.sub [2, 3, 1, 0] rfl (hK18 M (p1 ||| p0) (v3 + 1) hw)
  have B91 : ∀ (K18 : MM → Int32 → Int32 → Prop) (hK18 : ∀ (M : MM) (v2 : Int32) (v3 : Int32) , K18 M v2 v3 → XX z g Qf 6 18 [(0, .ref (gA g 52)), (1, .int v1), (2, .int v2), (3, .int v3)] [] M) (M : MM) (v2 : Int32) (v3 : Int32) (p0 : Int32), wX5_state_91 Q K18 v1 M v2 v3 p0 → XX z g Qf 6 91 [(0, .ref (gA g 52)), (1, .int v1), (2, .int v2), (3, .int v3)] [.int p0] M := by
    intro K18 hK18 M v2 v3 p0 hw
    refine q_istore (L' := [(5, .int p0), (0, .ref (gA g 52)), (1, .int v1), (2, .int v2), (3, .int v3)]) hC dX5_state_91 (by decide) rfl 93 rfl ?_
    refine q_iload_n hC dX5_state_93 3 rfl 94 rfl ?_
    refine q_iload hC dX5_state_94 0 rfl 96 rfl ?_
    refine q_if_eq hC 105 dX5_state_96 (by decide) 99 rfl hw (fun hw => ?_) (fun hw => ?_)
    · refine q_iconst (v := 0) hC dX5_state_105 rfl 106 rfl ?_
      exact XX.sub [1, 2, 4] rfl (B106 _ hK18 M v3 0 v2 hw)
    · refine q_iconst (v := 1) hC dX5_state_99 rfl 100 rfl ?_
      refine q_iload_n hC dX5_state_100 4 rfl 101 rfl ?_
      refine q_ishl hC dX5_state_101 102 rfl ?_
      refine q_goto hC 106 dX5_state_102 (by decide) ?_
      exact XX.sub [1, 2, 4] rfl (B106 _ hK18 M v3 ((1 : Int32) <<< (v3 &&& 31)) v2 hw)
  have B86 : ∀ (K18 : MM → Int32 → Int32 → Prop) (hK18 : ∀ (M : MM) (v2 : Int32) (v3 : Int32) , K18 M v2 v3 → XX z g Qf 6 18 [(0, .ref (gA g 52)), (1, .int v1), (2, .int v2), (3, .int v3)] [] M) (M : MM) (v2 : Int32) (v3 : Int32), wX5_state_86 Q K18 v1 M v2 v3 → XX z g Qf 6 86 [(0, .ref (gA g 52)), (1, .int v1), (2, .int v2), (3, .int v3)] [] M := by
    intro K18 hK18 M v2 v3 hw
    refine q_iconst (v := 1) hC dX5_state_86 rfl 87 rfl ?_
    refine q_goto hC 91 dX5_state_87 (by decide) ?_
    exact XX.sub [0, 1, 2, 3] rfl (B91 _ hK18 M v2 v3 1 hw)
  have B18 : ∀ (n : Nat) (M : MM) (v2 : Int32) (v3 : Int32) , wX5_state_18 Q v1 n M v2 v3 → XX z g Qf 6 18 [(0, .ref (gA g 52)), (1, .int v1), (2, .int v2), (3, .int v3)] [] M := by
    intro n
    induction n with
    | zero =>
      intro M v2 v3 hw
      exact hw.elim
    | succ n ih =>
      intro M v2 v3 hw
      refine q_iload_n hC dX5_state_18 3 rfl 19 rfl ?_
      refine q_aload_n hC dX5_state_19 0 rfl 20 rfl ?_
      refine q_getR (C := RX5) (T := TX5) (N := 26) (ci := 5) hC inX5_state_X5 (obF52 hF) rfl 0 (by decide) (uX5_state__X5_columnOf _ (List.mem_of_getElem? (l := owX5_columnOf) (i := 1) rfl)) rfl 53 (fun _ => rfl) dX5_state_20 23 rfl ?_
      refine q_iconst (v := 0) hC dX5_state_23 rfl 24 rfl ?_
      refine q_ialdL hC (arF53 hF) 0 (by decide +kernel) (by decide +kernel) dX5_state_24 25 rfl ?_
      refine q_icmp_ge hC 114 dX5_state_25 (by decide) 28 rfl hw (fun hw => ?_) (fun hw => ?_)
      · refine q_iload_n hC dX5_state_114 2 rfl 115 rfl ?_
        exact r_iret hR dX5_state_115 hw
      · refine q_aload_n hC dX5_state_28 0 rfl 29 rfl ?_
        refine q_iload_n hC dX5_state_29 3 rfl 30 rfl ?_
        refine q_aload_n hC dX5_state_30 0 rfl 31 rfl ?_
        refine q_getR (C := RX5) (T := TX5) (N := 26) (ci := 5) hC inX5_state_X5 (obF52 hF) rfl 0 (by decide) (uX5_state__X5_columnOf _ (List.mem_of_getElem? (l := owX5_columnOf) (i := 1) rfl)) rfl 53 (fun _ => rfl) dX5_state_31 34 rfl ?_
        refine q_sipush (v := 340) hC dX5_state_34 (by decide) 37 rfl ?_
        refine q_ialdL hC (arF53 hF) 340 (by decide +kernel) (by decide +kernel) dX5_state_37 38 rfl ?_
        refine r_callI hC (go_V (q := (RX5, TX5, 26)) (As := [.int v3, .int (M 53 340)]) (rest := []) hC (ctX5_reading (zl z) g M v3 (M 53 340) _ hF hw) 2 gX5_state_X5_reading rfl ⟨rfl, rfl⟩ hdV_X5_reading ⟨Nat.le_of_ble_eq_true rfl, Nat.le_of_ble_eq_true rfl⟩ (obF52 hF) rfl rfl rfl (Nat.le_of_ble_eq_true rfl) dX5_state_38) 41 rfl (fun r3 M4 hw => ?_)
        refine q_istore (L' := [(4, .int r3), (0, .ref (gA g 52)), (1, .int v1), (2, .int v2), (3, .int v3)]) hC dX5_state_41 (by decide) rfl 43 rfl ?_
        refine q_iload_n hC dX5_state_43 2 rfl 44 rfl ?_
        refine q_if_ne hC 61 dX5_state_44 (by decide) 47 rfl hw (fun hw => ?_) (fun hw => ?_)
        · refine q_iload_n hC dX5_state_61 2 rfl 62 rfl ?_
          refine q_iconst (v := 1) hC dX5_state_62 rfl 63 rfl ?_
          refine q_icmp_ne hC 74 dX5_state_63 (by decide) 66 rfl hw (fun hw => ?_) (fun hw => ?_)
          · refine q_iload hC dX5_state_74 0 rfl 76 rfl ?_
            refine q_iconst (v := 1) hC dX5_state_76 rfl 77 rfl ?_
            refine q_icmp_eq hC 86 dX5_state_77 (by decide) 80 rfl hw (fun hw => ?_) (fun hw => ?_)
            · exact XX.sub [1, 2, 3, 4] rfl (B86 _ (fun M v2 v3 hw => ih M v2 v3 hw) M4 v2 v3 hw)
            · refine q_iload hC dX5_state_80 0 rfl 82 rfl ?_
              refine q_iconst (v := 2) hC dX5_state_82 rfl 83 rfl ?_
              refine q_icmp_ne hC 90 dX5_state_83 (by decide) 86 rfl hw (fun hw => ?_) (fun hw => ?_)
              · refine q_iconst (v := 0) hC dX5_state_90 rfl 91 rfl ?_
                exact XX.sub [1, 2, 3, 4] rfl (B91 _ (fun M v2 v3 hw => ih M v2 v3 hw) M4 v2 v3 0 hw)
              · exact XX.sub [1, 2, 3, 4] rfl (B86 _ (fun M v2 v3 hw => ih M v2 v3 hw) M4 v2 v3 hw)
          · refine q_aload_n hC dX5_state_66 1 rfl 67 rfl ?_
            refine q_iload_n hC dX5_state_67 4 rfl 68 rfl ?_
            refine r_callI hC (go_V (q := (RX5, TX5, 26)) (As := [.int v3]) (rest := []) hC (ctX5_isFooled (zl z) g M4 v3 _ hF hw) 1 gX5_state_X5_isFooled rfl ⟨rfl, rfl⟩ hdV_X5_isFooled ⟨Nat.le_of_ble_eq_true rfl, Nat.le_of_ble_eq_true rfl⟩ (obF52 hF) rfl rfl rfl (Nat.le_of_ble_eq_true rfl) dX5_state_68) 71 rfl (fun r5 M6 hw => ?_)
            refine q_goto hC 91 dX5_state_71 (by decide) ?_
            exact XX.sub [1, 2, 3, 4] rfl (B91 _ (fun M v2 v3 hw => ih M v2 v3 hw) M6 v2 v3 r5 hw)
        · refine q_iload hC dX5_state_47 0 rfl 49 rfl ?_
          refine q_iconst (v := 3) hC dX5_state_49 rfl 50 rfl ?_
          refine q_icmp_ne hC 57 dX5_state_50 (by decide) 53 rfl hw (fun hw => ?_) (fun hw => ?_)
          · refine q_iconst (v := 0) hC dX5_state_57 rfl 58 rfl ?_
            refine q_goto hC 91 dX5_state_58 (by decide) ?_
            exact XX.sub [1, 2, 3, 4] rfl (B91 _ (fun M v2 v3 hw => ih M v2 v3 hw) M4 v2 v3 0 hw)
          · refine q_iconst (v := 1) hC dX5_state_53 rfl 54 rfl ?_
            refine q_goto hC 91 dX5_state_54 (by decide) ?_
            exact XX.sub [1, 2, 3, 4] rfl (B91 _ (fun M v2 v3 hw => ih M v2 v3 hw) M4 v2 v3 1 hw)
  refine q_iload_n hC dX5_state_0 1 rfl 1 rfl ?_
  refine q_i2l hC dX5_state_1 2 rfl ?_
  refine q_lconst (v := 0) hC dX5_state_2 rfl 3 rfl ?_
  refine q_ldc2 (v := 2) hC (uX5_state__o _ (List.mem_of_getElem? (l := owX5_state) (i := 1) rfl)) dX5_state_3 6 rfl ?_
  refine r_callI hC (go_T (As := [.long (v1.toInt64), .long 0, .long 2]) (rest := []) hC (ctX5_in (zl z) g M (v1.toInt64) 0 2 _ hw) 3 gX5_state_X5_in rfl ⟨rfl, rfl⟩ hdT_X5_in ⟨Nat.le_of_ble_eq_true rfl, Nat.le_of_ble_eq_true rfl⟩ rfl rfl (Nat.le_of_ble_eq_true rfl) dX5_state_6) 9 rfl (fun r1 M2 hw => ?_)
  refine q_if_ne hC 14 dX5_state_9 (by decide) 12 rfl hw (fun hw => ?_) (fun hw => ?_)
  · refine q_iconst (v := 0) hC dX5_state_14 rfl 15 rfl ?_
    refine q_istore_n (L' := [(2, .int 0), (0, .ref (gA g 52)), (1, .int v1)]) hC dX5_state_15 (by decide) rfl 16 rfl ?_
    refine q_iconst (v := 0) hC dX5_state_16 rfl 17 rfl ?_
    refine q_istore_n (L' := [(3, .int 0), (2, .int 0), (0, .ref (gA g 52)), (1, .int v1)]) hC dX5_state_17 (by decide) rfl 18 rfl ?_
    obtain ⟨n0, hw⟩ := hw
    exact XX.sub [2, 3, 1, 0] rfl (B18 n0 M2 0 0 hw)
  · refine q_iconst (v := (-1)) hC dX5_state_12 rfl 13 rfl ?_
    exact r_iret hR dX5_state_13 hw
theorem hdT_X5_flag : yX5_flag.cls ≠ "java/lang/invoke/MethodHandle" ∧ yX5_flag.cls ≠ "java/lang/invoke/VarHandle" ∧ (parseMethodDescriptor yX5_flag.desc).map (fun d => d.parameters.length) = some 1 := by decide +kernel
theorem inX5_best_X5 : ∀ w ∈ u_ws RX5 TX5 26, w ∈ wsX5_best := uX5_best__wsX50
set_option maxRecDepth 100000 in
set_option maxHeartbeats 4000000 in
theorem ctX5_best (l : Launch) (g : GG) (M : MM) (v1 : Int32) (Q : Int32 → MM → Prop) (hF : ful5 g) (hw : wX5_best Q M v1) : MI g l yX5_best wsX5_best (rmOf 3 72) [.ref (gA g 52), .int v1] M Q := by
  refine mk_MI (cc := cX5_best) (maxL := 7) (by decide) rfl (Nat.le_of_ble_eq_true rfl) ?_
  intro z Qf hC hR
  show XX z g Qf 7 0 [(0, .ref (gA g 52)), (1, .int v1)] [] M
  have B117 : ∀ (K20 : MM → Int32 → Int32 → Int32 → Prop) (hK20 : ∀ (M : MM) (v2 : Int32) (v3 : Int32) (v4 : Int32) , K20 M v2 v3 v4 → XX z g Qf 7 20 [(0, .ref (gA g 52)), (1, .int v1), (2, .int v2), (3, .int v3), (4, .int v4)] [] M) (M : MM) (v2 : Int32) (v4 : Int32) (p0 : Int32), wX5_best_117 Q K20 v1 M v2 v4 p0 → XX z g Qf 7 117 [(0, .ref (gA g 52)), (1, .int v1), (2, .int v2), (4, .int v4)] [.int p0] M := by
    intro K20 hK20 M v2 v4 p0 hw
    refine q_istore_n (L' := [(3, .int p0), (0, .ref (gA g 52)), (1, .int v1), (2, .int v2), (4, .int v4)]) hC dX5_best_117 (by decide) rfl 118 rfl ?_
    refine q_iinc (v := v4 + 1) (L' := [(4, .int (v4 + 1)), (3, .int p0), (0, .ref (gA g 52)), (1, .int v1), (2, .int v2)]) hC dX5_best_118 4 rfl rfl (by decide) rfl 121 rfl ?_
    refine q_goto hC 20 dX5_best_121 (by decide) ?_
    exact XX.sub [2, 3, 4, 1, 0] rfl (hK20 M v2 p0 (v4 + 1) hw)
  have B105 : ∀ (K20 : MM → Int32 → Int32 → Int32 → Prop) (hK20 : ∀ (M : MM) (v2 : Int32) (v3 : Int32) (v4 : Int32) , K20 M v2 v3 v4 → XX z g Qf 7 20 [(0, .ref (gA g 52)), (1, .int v1), (2, .int v2), (3, .int v3), (4, .int v4)] [] M) (M : MM) (v3 : Int32) (v4 : Int32) (v5 : Int32) (v6 : Int32) (p0 : Int32), wX5_best_105 Q K20 v1 M v3 v4 v5 v6 p0 → XX z g Qf 7 105 [(0, .ref (gA g 52)), (1, .int v1), (3, .int v3), (4, .int v4), (5, .int v5), (6, .int v6)] [.int p0] M := by
    intro K20 hK20 M v3 v4 v5 v6 p0 hw
    refine q_istore_n (L' := [(2, .int p0), (0, .ref (gA g 52)), (1, .int v1), (3, .int v3), (4, .int v4), (5, .int v5), (6, .int v6)]) hC dX5_best_105 (by decide) rfl 106 rfl ?_
    refine q_iload hC dX5_best_106 6 rfl 108 rfl ?_
    refine q_if_eq hC 116 dX5_best_108 (by decide) 111 rfl hw (fun hw => ?_) (fun hw => ?_)
    · refine q_iload_n hC dX5_best_116 3 rfl 117 rfl ?_
      exact XX.sub [1, 2, 0, 4] rfl (B117 _ hK20 M p0 v4 v3 hw)
    · refine q_iload hC dX5_best_111 5 rfl 113 rfl ?_
      refine q_goto hC 117 dX5_best_113 (by decide) ?_
      exact XX.sub [1, 2, 0, 4] rfl (B117 _ hK20 M p0 v4 v5 hw)
  have B92 : ∀ (K20 : MM → Int32 → Int32 → Int32 → Prop) (hK20 : ∀ (M : MM) (v2 : Int32) (v3 : Int32) (v4 : Int32) , K20 M v2 v3 v4 → XX z g Qf 7 20 [(0, .ref (gA g 52)), (1, .int v1), (2, .int v2), (3, .int v3), (4, .int v4)] [] M) (M : MM) (v2 : Int32) (v3 : Int32) (v4 : Int32) (v5 : Int32) (p0 : Int32), wX5_best_92 Q K20 v1 M v2 v3 v4 v5 p0 → XX z g Qf 7 92 [(0, .ref (gA g 52)), (1, .int v1), (2, .int v2), (3, .int v3), (4, .int v4), (5, .int v5)] [.int p0] M := by
    intro K20 hK20 M v2 v3 v4 v5 p0 hw
    refine q_istore (L' := [(6, .int p0), (0, .ref (gA g 52)), (1, .int v1), (2, .int v2), (3, .int v3), (4, .int v4), (5, .int v5)]) hC dX5_best_92 (by decide) rfl 94 rfl ?_
    refine q_iload hC dX5_best_94 0 rfl 96 rfl ?_
    refine q_if_eq hC 104 dX5_best_96 (by decide) 99 rfl hw (fun hw => ?_) (fun hw => ?_)
    · refine q_iload_n hC dX5_best_104 3 rfl 105 rfl ?_
      exact XX.sub [1, 2, 4, 5, 6, 0] rfl (B105 _ hK20 M v3 v4 v5 p0 v2 hw)
    · refine q_iload hC dX5_best_99 5 rfl 101 rfl ?_
      refine q_goto hC 105 dX5_best_101 (by decide) ?_
      exact XX.sub [1, 2, 4, 5, 6, 0] rfl (B105 _ hK20 M v3 v4 v5 p0 v4 hw)
  have B87 : ∀ (K20 : MM → Int32 → Int32 → Int32 → Prop) (hK20 : ∀ (M : MM) (v2 : Int32) (v3 : Int32) (v4 : Int32) , K20 M v2 v3 v4 → XX z g Qf 7 20 [(0, .ref (gA g 52)), (1, .int v1), (2, .int v2), (3, .int v3), (4, .int v4)] [] M) (M : MM) (v2 : Int32) (v3 : Int32) (v4 : Int32) (v5 : Int32), wX5_best_87 Q K20 v1 M v2 v3 v4 v5 → XX z g Qf 7 87 [(0, .ref (gA g 52)), (1, .int v1), (2, .int v2), (3, .int v3), (4, .int v4), (5, .int v5)] [] M := by
    intro K20 hK20 M v2 v3 v4 v5 hw
    refine q_iconst (v := 1) hC dX5_best_87 rfl 88 rfl ?_
    refine q_goto hC 92 dX5_best_88 (by decide) ?_
    exact XX.sub [0, 1, 2, 3, 4, 5] rfl (B92 _ hK20 M v2 v3 v4 v5 1 hw)
  have B63 : ∀ (K20 : MM → Int32 → Int32 → Int32 → Prop) (hK20 : ∀ (M : MM) (v2 : Int32) (v3 : Int32) (v4 : Int32) , K20 M v2 v3 v4 → XX z g Qf 7 20 [(0, .ref (gA g 52)), (1, .int v1), (2, .int v2), (3, .int v3), (4, .int v4)] [] M) (K33 : MM → Int32 → Int32 → Int32 → Int32 → Int32 → Prop) (hK33 : ∀ (M : MM) (v2 : Int32) (v3 : Int32) (v4 : Int32) (v5 : Int32) (v6 : Int32) , K33 M v2 v3 v4 v5 v6 → XX z g Qf 7 33 [(0, .ref (gA g 52)), (1, .int v1), (2, .int v2), (3, .int v3), (4, .int v4), (5, .int v5), (6, .int v6)] [] M) (M : MM) (v2 : Int32) (v3 : Int32) (v4 : Int32) (v6 : Int32) (p0 : Int32) (p1 : Int32), wX5_best_63 Q K20 K33 v1 M v2 v3 v4 v6 p0 p1 → XX z g Qf 7 63 [(0, .ref (gA g 52)), (1, .int v1), (2, .int v2), (3, .int v3), (4, .int v4), (6, .int v6)] [.int p0, .int p1] M := by
    intro K20 hK20 K33 hK33 M v2 v3 v4 v6 p0 p1 hw
    refine r_callI hC (go_T (As := [.int p0]) (rest := [.int p1]) hC (ctX5_flag (zl z) g M p0 _ hw) 1 gX5_best_X5_flag rfl ⟨rfl, rfl⟩ hdT_X5_flag ⟨Nat.le_of_ble_eq_true rfl, Nat.le_of_ble_eq_true rfl⟩ rfl rfl (Nat.le_of_ble_eq_true rfl) dX5_best_63) 66 rfl (fun r5 M6 hw => ?_)
    refine q_iadd hC dX5_best_66 67 rfl ?_
    refine q_istore (L' := [(5, .int (p1 + r5)), (0, .ref (gA g 52)), (1, .int v1), (2, .int v2), (3, .int v3), (4, .int v4), (6, .int v6)]) hC dX5_best_67 (by decide) rfl 69 rfl ?_
    refine q_iinc (v := v6 + 1) (L' := [(6, .int (v6 + 1)), (5, .int (p1 + r5)), (0, .ref (gA g 52)), (1, .int v1), (2, .int v2), (3, .int v3), (4, .int v4)]) hC dX5_best_69 6 rfl rfl (by decide) rfl 72 rfl ?_
    refine q_goto hC 33 dX5_best_72 (by decide) ?_
    exact XX.sub [2, 3, 4, 5, 6, 1, 0] rfl (hK33 M6 v2 v3 v4 (p1 + r5) (v6 + 1) hw)
  have B33 : ∀ (K20 : MM → Int32 → Int32 → Int32 → Prop) (hK20 : ∀ (M : MM) (v2 : Int32) (v3 : Int32) (v4 : Int32) , K20 M v2 v3 v4 → XX z g Qf 7 20 [(0, .ref (gA g 52)), (1, .int v1), (2, .int v2), (3, .int v3), (4, .int v4)] [] M) (n : Nat) (M : MM) (v2 : Int32) (v3 : Int32) (v4 : Int32) (v5 : Int32) (v6 : Int32) , wX5_best_33 Q K20 v1 n M v2 v3 v4 v5 v6 → XX z g Qf 7 33 [(0, .ref (gA g 52)), (1, .int v1), (2, .int v2), (3, .int v3), (4, .int v4), (5, .int v5), (6, .int v6)] [] M := by
    intro K20 hK20 n
    induction n with
    | zero =>
      intro M v2 v3 v4 v5 v6 hw
      exact hw.elim
    | succ n ih =>
      intro M v2 v3 v4 v5 v6 hw
      refine q_iload hC dX5_best_33 6 rfl 35 rfl ?_
      refine q_aload_n hC dX5_best_35 0 rfl 36 rfl ?_
      refine q_getR (C := RX5) (T := TX5) (N := 26) (ci := 5) hC inX5_best_X5 (obF52 hF) rfl 0 (by decide) (uX5_best__X5_columnOf _ (List.mem_of_getElem? (l := owX5_columnOf) (i := 1) rfl)) rfl 53 (fun _ => rfl) dX5_best_36 39 rfl ?_
      refine q_iconst (v := 0) hC dX5_best_39 rfl 40 rfl ?_
      refine q_ialdL hC (arF53 hF) 0 (by decide +kernel) (by decide +kernel) dX5_best_40 41 rfl ?_
      refine q_icmp_ge hC 75 dX5_best_41 (by decide) 44 rfl hw (fun hw => ?_) (fun hw => ?_)
      · refine q_iload_n hC dX5_best_75 2 rfl 76 rfl ?_
        refine q_bipush (v := (-4)) hC dX5_best_76 (by decide) 78 rfl ?_
        refine q_icmp_eq hC 87 dX5_best_78 (by decide) 81 rfl hw (fun hw => ?_) (fun hw => ?_)
        · exact XX.sub [0, 1, 2, 3, 4, 5] rfl (B87 _ hK20 M v2 v3 v4 v5 hw)
        · refine q_iload hC dX5_best_81 5 rfl 83 rfl ?_
          refine q_iload_n hC dX5_best_83 3 rfl 84 rfl ?_
          refine q_icmp_ge hC 91 dX5_best_84 (by decide) 87 rfl hw (fun hw => ?_) (fun hw => ?_)
          · refine q_iconst (v := 0) hC dX5_best_91 rfl 92 rfl ?_
            exact XX.sub [0, 1, 2, 3, 4, 5] rfl (B92 _ hK20 M v2 v3 v4 v5 0 hw)
          · exact XX.sub [0, 1, 2, 3, 4, 5] rfl (B87 _ hK20 M v2 v3 v4 v5 hw)
      · refine q_iload hC dX5_best_44 5 rfl 46 rfl ?_
        refine q_aload_n hC dX5_best_46 0 rfl 47 rfl ?_
        refine q_iload hC dX5_best_47 6 rfl 49 rfl ?_
        refine q_iload hC dX5_best_49 4 rfl 51 rfl ?_
        refine r_callI hC (go_V (q := (RX5, TX5, 26)) (As := [.int v6, .int v4]) (rest := [.int v5]) hC (ctX5_reading (zl z) g M v6 v4 _ hF hw) 2 gX5_best_X5_reading rfl ⟨rfl, rfl⟩ hdV_X5_reading ⟨Nat.le_of_ble_eq_true rfl, Nat.le_of_ble_eq_true rfl⟩ (obF52 hF) rfl rfl rfl (Nat.le_of_ble_eq_true rfl) dX5_best_51) 54 rfl (fun r3 M4 hw => ?_)
        refine q_iconst (v := 3) hC dX5_best_54 rfl 55 rfl ?_
        refine q_icmp_ne hC 62 dX5_best_55 (by decide) 58 rfl hw (fun hw => ?_) (fun hw => ?_)
        · refine q_iconst (v := 0) hC dX5_best_62 rfl 63 rfl ?_
          exact XX.sub [0, 1, 2, 3, 4, 6] rfl (B63 _ hK20 _ (fun M v2 v3 v4 v5 v6 hw => ih M v2 v3 v4 v5 v6 hw) M4 v2 v3 v4 v6 0 v5 hw)
        · refine q_iconst (v := 1) hC dX5_best_58 rfl 59 rfl ?_
          refine q_goto hC 63 dX5_best_59 (by decide) ?_
          exact XX.sub [0, 1, 2, 3, 4, 6] rfl (B63 _ hK20 _ (fun M v2 v3 v4 v5 v6 hw => ih M v2 v3 v4 v5 v6 hw) M4 v2 v3 v4 v6 1 v5 hw)
  have B20 : ∀ (n : Nat) (M : MM) (v2 : Int32) (v3 : Int32) (v4 : Int32) , wX5_best_20 Q v1 n M v2 v3 v4 → XX z g Qf 7 20 [(0, .ref (gA g 52)), (1, .int v1), (2, .int v2), (3, .int v3), (4, .int v4)] [] M := by
    intro n
    induction n with
    | zero =>
      intro M v2 v3 v4 hw
      exact hw.elim
    | succ n ih =>
      intro M v2 v3 v4 hw
      refine q_iload hC dX5_best_20 4 rfl 22 rfl ?_
      refine q_bipush (v := 9) hC dX5_best_22 (by decide) 24 rfl ?_
      refine q_icmp_ge hC 124 dX5_best_24 (by decide) 27 rfl hw (fun hw => ?_) (fun hw => ?_)
      · refine q_iload_n hC dX5_best_124 1 rfl 125 rfl ?_
        refine q_if_ne hC 132 dX5_best_125 (by decide) 128 rfl hw (fun hw => ?_) (fun hw => ?_)
        · refine q_iload_n hC dX5_best_132 3 rfl 133 rfl ?_
          exact r_iret hR dX5_best_133 hw
        · refine q_iload_n hC dX5_best_128 2 rfl 129 rfl ?_
          refine q_goto hC 133 dX5_best_129 (by decide) ?_
          exact r_iret hR dX5_best_133 hw
      · refine q_iconst (v := 0) hC dX5_best_27 rfl 28 rfl ?_
        refine q_istore (L' := [(5, .int 0), (0, .ref (gA g 52)), (1, .int v1), (2, .int v2), (3, .int v3), (4, .int v4)]) hC dX5_best_28 (by decide) rfl 30 rfl ?_
        refine q_iconst (v := 0) hC dX5_best_30 rfl 31 rfl ?_
        refine q_istore (L' := [(6, .int 0), (5, .int 0), (0, .ref (gA g 52)), (1, .int v1), (2, .int v2), (3, .int v3), (4, .int v4)]) hC dX5_best_31 (by decide) rfl 33 rfl ?_
        obtain ⟨n0, hw⟩ := hw
        exact XX.sub [2, 3, 4, 5, 6, 1, 0] rfl (B33 _ (fun M v2 v3 v4 hw => ih M v2 v3 v4 hw) n0 M v2 v3 v4 0 0 hw)
  refine q_iload_n hC dX5_best_0 1 rfl 1 rfl ?_
  refine q_i2l hC dX5_best_1 2 rfl ?_
  refine q_lconst (v := 0) hC dX5_best_2 rfl 3 rfl ?_
  refine q_lconst (v := 1) hC dX5_best_3 rfl 4 rfl ?_
  refine r_callI hC (go_T (As := [.long (v1.toInt64), .long 0, .long 1]) (rest := []) hC (ctX5_in (zl z) g M (v1.toInt64) 0 1 _ hw) 3 gX5_best_X5_in rfl ⟨rfl, rfl⟩ hdT_X5_in ⟨Nat.le_of_ble_eq_true rfl, Nat.le_of_ble_eq_true rfl⟩ rfl rfl (Nat.le_of_ble_eq_true rfl) dX5_best_4) 7 rfl (fun r1 M2 hw => ?_)
  refine q_if_ne hC 12 dX5_best_7 (by decide) 10 rfl hw (fun hw => ?_) (fun hw => ?_)
  · refine q_bipush (v := (-4)) hC dX5_best_12 (by decide) 14 rfl ?_
    refine q_istore_n (L' := [(2, .int (-4)), (0, .ref (gA g 52)), (1, .int v1)]) hC dX5_best_14 (by decide) rfl 15 rfl ?_
    refine q_iconst (v := 0) hC dX5_best_15 rfl 16 rfl ?_
    refine q_istore_n (L' := [(3, .int 0), (2, .int (-4)), (0, .ref (gA g 52)), (1, .int v1)]) hC dX5_best_16 (by decide) rfl 17 rfl ?_
    refine q_iconst (v := 0) hC dX5_best_17 rfl 18 rfl ?_
    refine q_istore (L' := [(4, .int 0), (3, .int 0), (2, .int (-4)), (0, .ref (gA g 52)), (1, .int v1)]) hC dX5_best_18 (by decide) rfl 20 rfl ?_
    obtain ⟨n0, hw⟩ := hw
    exact XX.sub [3, 4, 2, 1, 0] rfl (B20 n0 M2 (-4) 0 0 hw)
  · refine q_iconst (v := (-1)) hC dX5_best_10 rfl 11 rfl ?_
    exact r_iret hR dX5_best_11 hw
theorem inX5_takes_X5 : ∀ w ∈ u_ws RX5 TX5 26, w ∈ wsX5_takes := uX5_takes__wsX50
set_option maxRecDepth 100000 in
set_option maxHeartbeats 4000000 in
theorem ctX5_takes (l : Launch) (g : GG) (M : MM) (v1 : Int32) (v2 : Int32) (Q : Int32 → MM → Prop) (hF : ful5 g) (hw : wX5_takes Q M v1 v2) : MI g l yX5_takes wsX5_takes (rmOf 4 90) [.ref (gA g 52), .int v1, .int v2] M Q := by
  refine mk_MI (cc := cX5_takes) (maxL := 4) (by decide) rfl (Nat.le_of_ble_eq_true rfl) ?_
  intro z Qf hC hR
  show XX z g Qf 4 0 [(0, .ref (gA g 52)), (1, .int v1), (2, .int v2)] [] M
  have B27 : ∀ (M : MM) (p0 : Int32), wX5_takes_27 Q v1 v2 M p0 → XX z g Qf 4 27 [(0, .ref (gA g 52)), (2, .int v2)] [.int p0] M := by
    intro M p0 hw
    refine q_istore_n (L' := [(3, .int p0), (0, .ref (gA g 52)), (2, .int v2)]) hC dX5_takes_27 (by decide) rfl 28 rfl ?_
    refine q_aload_n hC dX5_takes_28 1 rfl 29 rfl ?_
    refine q_iload_n hC dX5_takes_29 0 rfl 30 rfl ?_
    refine q_aload_n hC dX5_takes_30 1 rfl 31 rfl ?_
    refine q_getR (C := RX5) (T := TX5) (N := 26) (ci := 5) hC inX5_takes_X5 (obF52 hF) rfl 0 (by decide) (uX5_takes__X5_endOf _ (List.mem_of_getElem? (l := owX5_endOf) (i := 1) rfl)) rfl 53 (fun _ => rfl) dX5_takes_31 34 rfl ?_
    refine q_iconst (v := 1) hC dX5_takes_34 rfl 35 rfl ?_
    refine q_aload_n hC dX5_takes_35 1 rfl 36 rfl ?_
    refine q_getR (C := RX5) (T := TX5) (N := 26) (ci := 5) hC inX5_takes_X5 (obF52 hF) rfl 19 (by decide) (uX5_takes__o _ (List.mem_of_getElem? (l := owX5_takes) (i := 1) rfl)) rfl 63 (fun _ => rfl) dX5_takes_36 39 rfl ?_
    refine q_iload_n hC dX5_takes_39 2 rfl 40 rfl ?_
    obtain ⟨hin, hw⟩ := hw
    refine q_iald hC (arF63 hF) hin dX5_takes_40 41 rfl ?_
    refine q_iadd hC dX5_takes_41 42 rfl ?_
    obtain ⟨hin, hw⟩ := hw
    refine q_iald hC (arF53 hF) hin dX5_takes_42 43 rfl ?_
    refine r_callI hC (go_V (q := (RX5, TX5, 26)) (As := [.int p0, .int (M 53 ((1 : Int32) + (M 63 v2.toNatClampNeg)).toNatClampNeg)]) (rest := []) hC (ctX5_sooner (zl z) g M p0 (M 53 ((1 : Int32) + (M 63 v2.toNatClampNeg)).toNatClampNeg) _ hF hw) 2 gX5_takes_X5_sooner rfl ⟨rfl, rfl⟩ hdV_X5_sooner ⟨Nat.le_of_ble_eq_true rfl, Nat.le_of_ble_eq_true rfl⟩ (obF52 hF) rfl rfl rfl (Nat.le_of_ble_eq_true rfl) dX5_takes_43) 46 rfl (fun r3 M4 hw => ?_)
    refine q_aload_n hC dX5_takes_46 1 rfl 47 rfl ?_
    refine q_getR (C := RX5) (T := TX5) (N := 26) (ci := 5) hC inX5_takes_X5 (obF52 hF) rfl 2 (by decide) (uX5_takes__X5_longOf _ (List.mem_of_getElem? (l := owX5_longOf) (i := 1) rfl)) rfl 55 (fun _ => rfl) dX5_takes_47 50 rfl ?_
    refine q_iconst (v := 3) hC dX5_takes_50 rfl 51 rfl ?_
    refine q_ialdL hC (arF55 hF) 3 (by decide +kernel) (by decide +kernel) dX5_takes_51 52 rfl ?_
    refine q_aload_n hC dX5_takes_52 1 rfl 53 rfl ?_
    refine q_aload_n hC dX5_takes_53 1 rfl 54 rfl ?_
    refine q_getR (C := RX5) (T := TX5) (N := 26) (ci := 5) hC inX5_takes_X5 (obF52 hF) rfl 0 (by decide) (uX5_takes__X5_endOf _ (List.mem_of_getElem? (l := owX5_endOf) (i := 1) rfl)) rfl 53 (fun _ => rfl) dX5_takes_54 57 rfl ?_
    refine q_bipush (v := 13) hC dX5_takes_57 (by decide) 59 rfl ?_
    refine q_aload_n hC dX5_takes_59 1 rfl 60 rfl ?_
    refine q_getR (C := RX5) (T := TX5) (N := 26) (ci := 5) hC inX5_takes_X5 (obF52 hF) rfl 19 (by decide) (uX5_takes__o _ (List.mem_of_getElem? (l := owX5_takes) (i := 1) rfl)) rfl 63 (fun _ => rfl) dX5_takes_60 63 rfl ?_
    refine q_iload_n hC dX5_takes_63 2 rfl 64 rfl ?_
    obtain ⟨hin, hw⟩ := hw
    refine q_iald hC (arF63 hF) hin dX5_takes_64 65 rfl ?_
    refine q_iadd hC dX5_takes_65 66 rfl ?_
    obtain ⟨hin, hw⟩ := hw
    refine q_iald hC (arF53 hF) hin dX5_takes_66 67 rfl ?_
    refine r_callI hC (go_V (q := (RX5, TX5, 26)) (As := [.int (M4 53 ((13 : Int32) + (M4 63 v2.toNatClampNeg)).toNatClampNeg)]) (rest := [.int (M4 55 3), .int r3]) hC (ctX5_longOf (zl z) g M4 (M4 53 ((13 : Int32) + (M4 63 v2.toNatClampNeg)).toNatClampNeg) _ hF hw) 1 gX5_takes_X5_longOf rfl ⟨rfl, rfl⟩ hdV_X5_longOf ⟨Nat.le_of_ble_eq_true rfl, Nat.le_of_ble_eq_true rfl⟩ (obF52 hF) rfl rfl rfl (Nat.le_of_ble_eq_true rfl) dX5_takes_67) 70 rfl (fun r5 M6 hw => ?_)
    refine q_imul hC dX5_takes_70 71 rfl ?_
    refine q_iadd hC dX5_takes_71 72 rfl ?_
    exact r_iret hR dX5_takes_72 hw
  refine q_iload_n hC dX5_takes_0 1 rfl 1 rfl ?_
  refine q_bipush (v := 8) hC dX5_takes_1 (by decide) 3 rfl ?_
  refine q_icmp_ne hC 17 dX5_takes_3 (by decide) 6 rfl hw (fun hw => ?_) (fun hw => ?_)
  · refine q_aload_n hC dX5_takes_17 0 rfl 18 rfl ?_
    refine q_aload_n hC dX5_takes_18 0 rfl 19 rfl ?_
    refine q_getR (C := RX5) (T := TX5) (N := 26) (ci := 5) hC inX5_takes_X5 (obF52 hF) rfl 19 (by decide) (uX5_takes__o _ (List.mem_of_getElem? (l := owX5_takes) (i := 1) rfl)) rfl 63 (fun _ => rfl) dX5_takes_19 22 rfl ?_
    refine q_iload_n hC dX5_takes_22 1 rfl 23 rfl ?_
    obtain ⟨hin, hw⟩ := hw
    refine q_iald hC (arF63 hF) hin dX5_takes_23 24 rfl ?_
    refine r_callI hC (go_V (q := (RX5, TX5, 26)) (As := [.int (M 63 v1.toNatClampNeg)]) (rest := []) hC (ctX5_endOf (zl z) g M (M 63 v1.toNatClampNeg) _ hF hw) 1 gX5_takes_X5_endOf rfl ⟨rfl, rfl⟩ hdV_X5_endOf ⟨Nat.le_of_ble_eq_true rfl, Nat.le_of_ble_eq_true rfl⟩ (obF52 hF) rfl rfl rfl (Nat.le_of_ble_eq_true rfl) dX5_takes_24) 27 rfl (fun r1 M2 hw => ?_)
    exact XX.sub [0, 2] rfl (B27 M2 r1 hw)
  · refine q_aload_n hC dX5_takes_6 0 rfl 7 rfl ?_
    refine q_getR (C := RX5) (T := TX5) (N := 26) (ci := 5) hC inX5_takes_X5 (obF52 hF) rfl 0 (by decide) (uX5_takes__X5_endOf _ (List.mem_of_getElem? (l := owX5_endOf) (i := 1) rfl)) rfl 53 (fun _ => rfl) dX5_takes_7 10 rfl ?_
    refine q_sipush (v := 325) hC dX5_takes_10 (by decide) 13 rfl ?_
    refine q_ialdL hC (arF53 hF) 325 (by decide +kernel) (by decide +kernel) dX5_takes_13 14 rfl ?_
    refine q_goto hC 27 dX5_takes_14 (by decide) ?_
    exact XX.sub [0, 2] rfl (B27 M (M 53 325) hw)
