theorem hdV_X5_writes : yX5_writes.cls = RX5 ∧ yX5_writes.cls ≠ "java/lang/invoke/MethodHandle" ∧ yX5_writes.cls ≠ "java/lang/invoke/VarHandle" ∧ (parseMethodDescriptor yX5_writes.desc).map (fun d => d.parameters.length) = some 2 := by decide +kernel
theorem inX5_write_X5 : ∀ w ∈ u_ws RX5 TX5 26, w ∈ wsX5_write := uX5_write__wsX50
set_option maxRecDepth 100000 in
set_option maxHeartbeats 4000000 in
theorem ctX5_write (l : Launch) (g : GG) (M : MM) (v1 : Int32) (Q : Int32 → MM → Prop) (hF : ful5 g) (hw : wX5_write Q M v1) : MI g l yX5_write wsX5_write (rmOf 6 135) [.ref (gA g 52), .int v1] M Q := by
  refine mk_MI (cc := cX5_write) (maxL := 3) (by decide) rfl (Nat.le_of_ble_eq_true rfl) ?_
  intro z Qf hC hR
  show XX z g Qf 3 0 [(0, .ref (gA g 52)), (1, .int v1)] [] M
  have B105 : ∀ (M : MM) (v2 : Int32) (p0 : Int32) (p1 : Int32), wX5_write_105 Q v1 M v2 p0 p1 → XX z g Qf 3 105 [(2, .int v2)] [.int p0, .int p1, .ref (gA g 53)] M := by
    intro M v2 p0 p1 hw
    obtain ⟨hin, hw⟩ := hw
    refine q_iast hC (arF53 hF) hin dX5_write_105 106 rfl (fun M6 eM6 => ?_)
    have hw := hw M6 eM6
    refine q_iload_n hC dX5_write_106 0 rfl 107 rfl ?_
    exact r_iret hR dX5_write_107 hw
  have B34 : ∀ (n : Nat) (M : MM) (v2 : Int32) , wX5_write_34 Q v1 n M v2 → XX z g Qf 3 34 [(0, .ref (gA g 52)), (1, .int v1), (2, .int v2)] [] M := by
    intro n
    induction n with
    | zero =>
      intro M v2 hw
      exact hw.elim
    | succ n ih =>
      intro M v2 hw
      refine q_iload_n hC dX5_write_34 2 rfl 35 rfl ?_
      refine q_aload_n hC dX5_write_35 0 rfl 36 rfl ?_
      refine q_getR (C := RX5) (T := TX5) (N := 26) (ci := 5) hC inX5_write_X5 (obF52 hF) rfl 0 (by decide) (uX5_write__X5_endOf _ (List.mem_of_getElem? (l := owX5_endOf) (i := 1) rfl)) rfl 53 (fun _ => rfl) dX5_write_36 39 rfl ?_
      refine q_sipush (v := 327) hC dX5_write_39 (by decide) 42 rfl ?_
      refine q_ialdL hC (arF53 hF) 327 (by decide +kernel) (by decide +kernel) dX5_write_42 43 rfl ?_
      refine q_icmp_ge hC 68 dX5_write_43 (by decide) 46 rfl hw (fun hw => ?_) (fun hw => ?_)
      · refine q_aload_n hC dX5_write_68 0 rfl 69 rfl ?_
        refine q_iload_n hC dX5_write_69 1 rfl 70 rfl ?_
        refine q_aload_n hC dX5_write_70 0 rfl 71 rfl ?_
        refine q_getR (C := RX5) (T := TX5) (N := 26) (ci := 5) hC inX5_write_X5 (obF52 hF) rfl 0 (by decide) (uX5_write__X5_endOf _ (List.mem_of_getElem? (l := owX5_endOf) (i := 1) rfl)) rfl 53 (fun _ => rfl) dX5_write_71 74 rfl ?_
        refine q_sipush (v := 327) hC dX5_write_74 (by decide) 77 rfl ?_
        refine q_ialdL hC (arF53 hF) 327 (by decide +kernel) (by decide +kernel) dX5_write_77 78 rfl ?_
        refine r_callI hC (go_V (q := (RX5, TX5, 26)) (As := [.int v1, .int (M 53 327)]) (rest := []) hC (ctX5_writes (zl z) g M v1 (M 53 327) _ hF hw) 2 gX5_write_X5_writes rfl ⟨rfl, rfl⟩ hdV_X5_writes ⟨Nat.le_of_ble_eq_true rfl, Nat.le_of_ble_eq_true rfl⟩ (obF52 hF) rfl rfl rfl (Nat.le_of_ble_eq_true rfl) dX5_write_78) 81 rfl (fun r3 M4 hw => ?_)
        refine q_istore_n (L' := [(2, .int r3), (0, .ref (gA g 52)), (1, .int v1)]) hC dX5_write_81 (by decide) rfl 82 rfl ?_
        refine q_aload_n hC dX5_write_82 1 rfl 83 rfl ?_
        refine q_getR (C := RX5) (T := TX5) (N := 26) (ci := 5) hC inX5_write_X5 (obF52 hF) rfl 0 (by decide) (uX5_write__X5_endOf _ (List.mem_of_getElem? (l := owX5_endOf) (i := 1) rfl)) rfl 53 (fun _ => rfl) dX5_write_83 86 rfl ?_
        refine q_sipush (v := 327) hC dX5_write_86 (by decide) 89 rfl ?_
        refine q_iload_n hC dX5_write_89 0 rfl 90 rfl ?_
        refine q_if_ge hC 104 dX5_write_90 (by decide) 93 rfl hw (fun hw => ?_) (fun hw => ?_)
        · refine q_iconst (v := 0) hC dX5_write_104 rfl 105 rfl ?_
          exact XX.sub [0] rfl (B105 M4 r3 0 327 hw)
        · refine q_aload_n hC dX5_write_93 1 rfl 94 rfl ?_
          refine q_getR (C := RX5) (T := TX5) (N := 26) (ci := 5) hC inX5_write_X5 (obF52 hF) rfl 0 (by decide) (uX5_write__X5_endOf _ (List.mem_of_getElem? (l := owX5_endOf) (i := 1) rfl)) rfl 53 (fun _ => rfl) dX5_write_94 97 rfl ?_
          refine q_sipush (v := 327) hC dX5_write_97 (by decide) 100 rfl ?_
          refine q_ialdL hC (arF53 hF) 327 (by decide +kernel) (by decide +kernel) dX5_write_100 101 rfl ?_
          refine q_goto hC 105 dX5_write_101 (by decide) ?_
          exact XX.sub [0] rfl (B105 M4 r3 (M4 53 327) 327 hw)
      · refine q_aload_n hC dX5_write_46 0 rfl 47 rfl ?_
        refine q_getR (C := RX5) (T := TX5) (N := 26) (ci := 5) hC inX5_write_X5 (obF52 hF) rfl 16 (by decide) (uX5_write__X5_lays _ (List.mem_of_getElem? (l := owX5_lays) (i := 1) rfl)) rfl 60 (fun _ => rfl) dX5_write_47 50 rfl ?_
        refine q_iload_n hC dX5_write_50 2 rfl 51 rfl ?_
        refine q_aload_n hC dX5_write_51 0 rfl 52 rfl ?_
        refine q_getR (C := RX5) (T := TX5) (N := 26) (ci := 5) hC inX5_write_X5 (obF52 hF) rfl 0 (by decide) (uX5_write__X5_endOf _ (List.mem_of_getElem? (l := owX5_endOf) (i := 1) rfl)) rfl 53 (fun _ => rfl) dX5_write_52 55 rfl ?_
        refine q_sipush (v := 328) hC dX5_write_55 (by decide) 58 rfl ?_
        refine q_iload_n hC dX5_write_58 2 rfl 59 rfl ?_
        refine q_iadd hC dX5_write_59 60 rfl ?_
        obtain ⟨hin, hw⟩ := hw
        refine q_iald hC (arF53 hF) hin dX5_write_60 61 rfl ?_
        obtain ⟨hin, hw⟩ := hw
        refine q_iast hC (arF60 hF) hin dX5_write_61 62 rfl (fun M5 eM5 => ?_)
        have hw := hw M5 eM5
        refine q_iinc (v := v2 + 1) (L' := [(2, .int (v2 + 1)), (0, .ref (gA g 52)), (1, .int v1)]) hC dX5_write_62 2 rfl rfl (by decide) rfl 65 rfl ?_
        refine q_goto hC 34 dX5_write_65 (by decide) ?_
        exact XX.sub [1, 2, 0] rfl (ih M5 (v2 + 1) hw)
  refine q_iload_n hC dX5_write_0 1 rfl 1 rfl ?_
  refine q_i2l hC dX5_write_1 2 rfl ?_
  refine q_lconst (v := 0) hC dX5_write_2 rfl 3 rfl ?_
  refine q_aload_n hC dX5_write_3 0 rfl 4 rfl ?_
  refine q_getR (C := RX5) (T := TX5) (N := 26) (ci := 5) hC inX5_write_X5 (obF52 hF) rfl 0 (by decide) (uX5_write__X5_endOf _ (List.mem_of_getElem? (l := owX5_endOf) (i := 1) rfl)) rfl 53 (fun _ => rfl) dX5_write_4 7 rfl ?_
  refine q_iconst (v := 0) hC dX5_write_7 rfl 8 rfl ?_
  refine q_ialdL hC (arF53 hF) 0 (by decide +kernel) (by decide +kernel) dX5_write_8 9 rfl ?_
  refine q_i2l hC dX5_write_9 10 rfl ?_
  refine r_callI hC (go_T (As := [.long (v1.toInt64), .long 0, .long ((M 53 0).toInt64)]) (rest := []) hC (ctX5_in (zl z) g M (v1.toInt64) 0 ((M 53 0).toInt64) _ hw) 3 gX5_write_X5_in rfl ⟨rfl, rfl⟩ hdT_X5_in ⟨Nat.le_of_ble_eq_true rfl, Nat.le_of_ble_eq_true rfl⟩ rfl rfl (Nat.le_of_ble_eq_true rfl) dX5_write_10) 13 rfl (fun r1 M2 hw => ?_)
  refine q_if_ne hC 18 dX5_write_13 (by decide) 16 rfl hw (fun hw => ?_) (fun hw => ?_)
  · refine q_aload_n hC dX5_write_18 0 rfl 19 rfl ?_
    refine q_getR (C := RX5) (T := TX5) (N := 26) (ci := 5) hC inX5_write_X5 (obF52 hF) rfl 0 (by decide) (uX5_write__X5_endOf _ (List.mem_of_getElem? (l := owX5_endOf) (i := 1) rfl)) rfl 53 (fun _ => rfl) dX5_write_19 22 rfl ?_
    refine q_sipush (v := 327) hC dX5_write_22 (by decide) 25 rfl ?_
    refine q_ialdL hC (arF53 hF) 327 (by decide +kernel) (by decide +kernel) dX5_write_25 26 rfl ?_
    refine q_if_ne hC 32 dX5_write_26 (by decide) 29 rfl hw (fun hw => ?_) (fun hw => ?_)
    · refine q_iconst (v := 0) hC dX5_write_32 rfl 33 rfl ?_
      refine q_istore_n (L' := [(2, .int 0), (0, .ref (gA g 52)), (1, .int v1)]) hC dX5_write_33 (by decide) rfl 34 rfl ?_
      obtain ⟨n0, hw⟩ := hw
      exact XX.sub [1, 2, 0] rfl (B34 n0 M2 0 hw)
    · refine q_bipush (v := (-2)) hC dX5_write_29 (by decide) 31 rfl ?_
      exact r_iret hR dX5_write_31 hw
  · refine q_iconst (v := (-1)) hC dX5_write_16 rfl 17 rfl ?_
    exact r_iret hR dX5_write_17 hw
theorem inX5_mark_X5 : ∀ w ∈ u_ws RX5 TX5 26, w ∈ wsX5_mark := uX5_mark__wsX50
set_option maxRecDepth 100000 in
set_option maxHeartbeats 4000000 in
theorem ctX5_mark (l : Launch) (g : GG) (M : MM) (v1 : Int32) (Q : Int32 → MM → Prop) (hF : ful5 g) (hw : wX5_mark Q M v1) : MI g l yX5_mark wsX5_mark (rmOf 6 135) [.ref (gA g 52), .int v1] M Q := by
  refine mk_MI (cc := cX5_mark) (maxL := 2) (by decide) rfl (Nat.le_of_ble_eq_true rfl) ?_
  intro z Qf hC hR
  show XX z g Qf 2 0 [(0, .ref (gA g 52)), (1, .int v1)] [] M
  refine q_iload_n hC dX5_mark_0 1 rfl 1 rfl ?_
  refine q_i2l hC dX5_mark_1 2 rfl ?_
  refine q_lconst (v := 0) hC dX5_mark_2 rfl 3 rfl ?_
  refine q_aload_n hC dX5_mark_3 0 rfl 4 rfl ?_
  refine q_getR (C := RX5) (T := TX5) (N := 26) (ci := 5) hC inX5_mark_X5 (obF52 hF) rfl 0 (by decide) (uX5_mark__X5_endOf _ (List.mem_of_getElem? (l := owX5_endOf) (i := 1) rfl)) rfl 53 (fun _ => rfl) dX5_mark_4 7 rfl ?_
  refine q_iconst (v := 0) hC dX5_mark_7 rfl 8 rfl ?_
  refine q_ialdL hC (arF53 hF) 0 (by decide +kernel) (by decide +kernel) dX5_mark_8 9 rfl ?_
  refine q_i2l hC dX5_mark_9 10 rfl ?_
  refine r_callI hC (go_T (As := [.long (v1.toInt64), .long 0, .long ((M 53 0).toInt64)]) (rest := []) hC (ctX5_in (zl z) g M (v1.toInt64) 0 ((M 53 0).toInt64) _ hw) 3 gX5_mark_X5_in rfl ⟨rfl, rfl⟩ hdT_X5_in ⟨Nat.le_of_ble_eq_true rfl, Nat.le_of_ble_eq_true rfl⟩ rfl rfl (Nat.le_of_ble_eq_true rfl) dX5_mark_10) 13 rfl (fun r1 M2 hw => ?_)
  refine q_if_eq hC 25 dX5_mark_13 (by decide) 16 rfl hw (fun hw => ?_) (fun hw => ?_)
  · refine q_iconst (v := (-1)) hC dX5_mark_25 rfl 26 rfl ?_
    exact r_iret hR dX5_mark_26 hw
  · refine q_aload_n hC dX5_mark_16 0 rfl 17 rfl ?_
    refine q_iload_n hC dX5_mark_17 1 rfl 18 rfl ?_
    refine q_iconst (v := 0) hC dX5_mark_18 rfl 19 rfl ?_
    refine r_callI hC (go_V (q := (RX5, TX5, 26)) (As := [.int v1, .int 0]) (rest := []) hC (ctX5_writes (zl z) g M2 v1 0 _ hF hw) 2 gX5_mark_X5_writes rfl ⟨rfl, rfl⟩ hdV_X5_writes ⟨Nat.le_of_ble_eq_true rfl, Nat.le_of_ble_eq_true rfl⟩ (obF52 hF) rfl rfl rfl (Nat.le_of_ble_eq_true rfl) dX5_mark_19) 22 rfl (fun r3 M4 hw => ?_)
    refine q_goto hC 26 dX5_mark_22 (by decide) ?_
    exact r_iret hR dX5_mark_26 hw
set_option maxRecDepth 100000 in
set_option maxHeartbeats 4000000 in
theorem ctX5_isTrack (l : Launch) (g : GG) (M : MM) (v0 : Int32) (Q : Int32 → MM → Prop)  (hw : wX5_isTrack Q M v0) : MI g l yX5_isTrack wsX5_isTrack (rmOf 1 25) [.int v0] M Q := by
  refine mk_MZ (cc := cX5_isTrack) (maxL := 1) (by decide) rfl (Nat.le_of_ble_eq_true rfl) ?_
  intro z Qf hC hR
  show XX z g Qf 1 0 [(0, .int v0)] [] M
  refine q_iload_n hC dX5_isTrack_0 0 rfl 1 rfl ?_
  refine q_i2l hC dX5_isTrack_1 2 rfl ?_
  refine q_lconst (v := 0) hC dX5_isTrack_2 rfl 3 rfl ?_
  refine q_ldc2 (v := 8) hC (uX5_isTrack__o _ (List.mem_of_getElem? (l := owX5_isTrack) (i := 1) rfl)) dX5_isTrack_3 6 rfl ?_
  refine r_callI hC (go_T (As := [.long (v0.toInt64), .long 0, .long 8]) (rest := []) hC (ctX5_in (zl z) g M (v0.toInt64) 0 8 _ hw) 3 gX5_isTrack_X5_in rfl ⟨rfl, rfl⟩ hdT_X5_in ⟨Nat.le_of_ble_eq_true rfl, Nat.le_of_ble_eq_true rfl⟩ rfl rfl (Nat.le_of_ble_eq_true rfl) dX5_isTrack_6) 9 rfl (fun r1 M2 hw => ?_)
  exact r_iret hR dX5_isTrack_9 hw
theorem inX5_isColumn_X5 : ∀ w ∈ u_ws RX5 TX5 26, w ∈ wsX5_isColumn := uX5_isColumn__wsX50
set_option maxRecDepth 100000 in
set_option maxHeartbeats 4000000 in
theorem ctX5_isColumn (l : Launch) (g : GG) (M : MM) (v1 : Int32) (v2 : Int32) (Q : Int32 → MM → Prop) (hF : ful5 g) (hw : wX5_isColumn Q M v1 v2) : MI g l yX5_isColumn wsX5_isColumn (rmOf 2 46) [.ref (gA g 52), .int v1, .int v2] M Q := by
  refine mk_MZ (cc := cX5_isColumn) (maxL := 3) (by decide) rfl (Nat.le_of_ble_eq_true rfl) ?_
  intro z Qf hC hR
  show XX z g Qf 3 0 [(0, .ref (gA g 52)), (1, .int v1), (2, .int v2)] [] M
  have B43 : ∀ (M : MM), wX5_isColumn_43 Q v1 v2 M → XX z g Qf 3 43 [] [] M := by
    intro M hw
    refine q_iconst (v := 0) hC dX5_isColumn_43 rfl 44 rfl ?_
    exact r_iret hR dX5_isColumn_44 ⟨nb_0, hw⟩
  refine q_aload_n hC dX5_isColumn_0 0 rfl 1 rfl ?_
  refine q_iload_n hC dX5_isColumn_1 1 rfl 2 rfl ?_
  refine r_callI hC (go_V (q := (RX5, TX5, 26)) (As := [.int v1]) (rest := []) hC (ctX5_isBlock (zl z) g M v1 _ hF hw) 1 gX5_isColumn_X5_isBlock rfl ⟨rfl, rfl⟩ hdV_X5_isBlock ⟨Nat.le_of_ble_eq_true rfl, Nat.le_of_ble_eq_true rfl⟩ (obF52 hF) rfl rfl rfl (Nat.le_of_ble_eq_true rfl) dX5_isColumn_2) 5 rfl (fun r1 M2 hw => ?_)
  refine q_if_eq hC 43 dX5_isColumn_5 (by decide) 8 rfl hw (fun hw => ?_) (fun hw => ?_)
  · exact XX.sub [] rfl (B43 M2 hw)
  · refine q_aload_n hC dX5_isColumn_8 0 rfl 9 rfl ?_
    refine q_getR (C := RX5) (T := TX5) (N := 26) (ci := 5) hC inX5_isColumn_X5 (obF52 hF) rfl 0 (by decide) (uX5_isColumn__X5_isBlock _ (List.mem_of_getElem? (l := owX5_isBlock) (i := 1) rfl)) rfl 53 (fun _ => rfl) dX5_isColumn_9 12 rfl ?_
    refine q_bipush (v := 13) hC dX5_isColumn_12 (by decide) 14 rfl ?_
    refine q_iload_n hC dX5_isColumn_14 1 rfl 15 rfl ?_
    refine q_iadd hC dX5_isColumn_15 16 rfl ?_
    obtain ⟨hin, hw⟩ := hw
    refine q_iald hC (arF53 hF) hin dX5_isColumn_16 17 rfl ?_
    refine q_if_le hC 43 dX5_isColumn_17 (by decide) 20 rfl hw (fun hw => ?_) (fun hw => ?_)
    · exact XX.sub [] rfl (B43 M2 hw)
    · refine q_iload_n hC dX5_isColumn_20 2 rfl 21 rfl ?_
      refine q_i2l hC dX5_isColumn_21 22 rfl ?_
      refine q_lconst (v := 0) hC dX5_isColumn_22 rfl 23 rfl ?_
      refine q_aload_n hC dX5_isColumn_23 0 rfl 24 rfl ?_
      refine q_getR (C := RX5) (T := TX5) (N := 26) (ci := 5) hC inX5_isColumn_X5 (obF52 hF) rfl 0 (by decide) (uX5_isColumn__X5_isBlock _ (List.mem_of_getElem? (l := owX5_isBlock) (i := 1) rfl)) rfl 53 (fun _ => rfl) dX5_isColumn_24 27 rfl ?_
      refine q_bipush (v := 13) hC dX5_isColumn_27 (by decide) 29 rfl ?_
      refine q_iload_n hC dX5_isColumn_29 1 rfl 30 rfl ?_
      refine q_iadd hC dX5_isColumn_30 31 rfl ?_
      obtain ⟨hin, hw⟩ := hw
      refine q_iald hC (arF53 hF) hin dX5_isColumn_31 32 rfl ?_
      refine q_i2l hC dX5_isColumn_32 33 rfl ?_
      refine r_callI hC (go_T (As := [.long (v2.toInt64), .long 0, .long ((M2 53 ((13 : Int32) + v1).toNatClampNeg).toInt64)]) (rest := []) hC (ctX5_in (zl z) g M2 (v2.toInt64) 0 ((M2 53 ((13 : Int32) + v1).toNatClampNeg).toInt64) _ hw) 3 gX5_isColumn_X5_in rfl ⟨rfl, rfl⟩ hdT_X5_in ⟨Nat.le_of_ble_eq_true rfl, Nat.le_of_ble_eq_true rfl⟩ rfl rfl (Nat.le_of_ble_eq_true rfl) dX5_isColumn_33) 36 rfl (fun r3 M4 hw => ?_)
      refine q_if_eq hC 43 dX5_isColumn_36 (by decide) 39 rfl hw (fun hw => ?_) (fun hw => ?_)
      · exact XX.sub [] rfl (B43 M4 hw)
      · refine q_iconst (v := 1) hC dX5_isColumn_39 rfl 40 rfl ?_
        refine q_goto hC 44 dX5_isColumn_40 (by decide) ?_
        exact r_iret hR dX5_isColumn_44 ⟨nb_1, hw⟩
theorem hdV_X5_isColumn : yX5_isColumn.cls = RX5 ∧ yX5_isColumn.cls ≠ "java/lang/invoke/MethodHandle" ∧ yX5_isColumn.cls ≠ "java/lang/invoke/VarHandle" ∧ (parseMethodDescriptor yX5_isColumn.desc).map (fun d => d.parameters.length) = some 2 := by decide +kernel
theorem hdT_X5_isTrack : yX5_isTrack.cls ≠ "java/lang/invoke/MethodHandle" ∧ yX5_isTrack.cls ≠ "java/lang/invoke/VarHandle" ∧ (parseMethodDescriptor yX5_isTrack.desc).map (fun d => d.parameters.length) = some 1 := by decide +kernel
theorem inX5_spoil_X5 : ∀ w ∈ u_ws RX5 TX5 26, w ∈ wsX5_spoil := uX5_spoil__wsX50
set_option maxRecDepth 100000 in
set_option maxHeartbeats 4000000 in
theorem ctX5_spoil (l : Launch) (g : GG) (M : MM) (v1 : Int32) (v2 : Int32) (v3 : Int32) (Q : Int32 → MM → Prop) (hF : ful5 g) (hw : wX5_spoil Q M v1 v2 v3) : MI g l yX5_spoil wsX5_spoil (rmOf 3 68) [.ref (gA g 52), .int v1, .int v2, .int v3] M Q := by
  refine mk_MI (cc := cX5_spoil) (maxL := 4) (by decide) rfl (Nat.le_of_ble_eq_true rfl) ?_
  intro z Qf hC hR
  show XX z g Qf 4 0 [(0, .ref (gA g 52)), (1, .int v1), (2, .int v2), (3, .int v3)] [] M
  refine q_aload_n hC dX5_spoil_0 0 rfl 1 rfl ?_
  refine q_iload_n hC dX5_spoil_1 1 rfl 2 rfl ?_
  refine q_iload_n hC dX5_spoil_2 2 rfl 3 rfl ?_
  refine r_callI hC (go_V (q := (RX5, TX5, 26)) (As := [.int v1, .int v2]) (rest := []) hC (ctX5_isColumn (zl z) g M v1 v2 _ hF hw) 2 gX5_spoil_X5_isColumn rfl ⟨rfl, rfl⟩ hdV_X5_isColumn ⟨Nat.le_of_ble_eq_true rfl, Nat.le_of_ble_eq_true rfl⟩ (obF52 hF) rfl rfl rfl (Nat.le_of_ble_eq_true rfl) dX5_spoil_3) 6 rfl (fun r1 M2 hw => ?_)
  refine q_if_eq hC 16 dX5_spoil_6 (by decide) 9 rfl hw (fun hw => ?_) (fun hw => ?_)
  · refine q_iconst (v := (-1)) hC dX5_spoil_16 rfl 17 rfl ?_
    exact r_iret hR dX5_spoil_17 hw
  · refine q_iload_n hC dX5_spoil_9 3 rfl 10 rfl ?_
    refine r_callI hC (go_T (As := [.int v3]) (rest := []) hC (ctX5_isTrack (zl z) g M2 v3 _ hw) 1 gX5_spoil_X5_isTrack rfl ⟨rfl, rfl⟩ hdT_X5_isTrack ⟨Nat.le_of_ble_eq_true rfl, Nat.le_of_ble_eq_true rfl⟩ rfl rfl (Nat.le_of_ble_eq_true rfl) dX5_spoil_10) 13 rfl (fun r3 M4 hw => ?_)
    refine q_if_ne hC 18 dX5_spoil_13 (by decide) 16 rfl hw (fun hw => ?_) (fun hw => ?_)
    · refine q_aload_n hC dX5_spoil_18 0 rfl 19 rfl ?_
      refine q_getR (C := RX5) (T := TX5) (N := 26) (ci := 5) hC inX5_spoil_X5 (obF52 hF) rfl 0 (by decide) (uX5_spoil__X5_isBlock _ (List.mem_of_getElem? (l := owX5_isBlock) (i := 1) rfl)) rfl 53 (fun _ => rfl) dX5_spoil_19 22 rfl ?_
      refine q_bipush (v := 25) hC dX5_spoil_22 (by decide) 24 rfl ?_
      refine q_bipush (v := 13) hC dX5_spoil_24 (by decide) 26 rfl ?_
      refine q_iload_n hC dX5_spoil_26 1 rfl 27 rfl ?_
      refine q_imul hC dX5_spoil_27 28 rfl ?_
      refine q_iadd hC dX5_spoil_28 29 rfl ?_
      refine q_iload_n hC dX5_spoil_29 2 rfl 30 rfl ?_
      refine q_iadd hC dX5_spoil_30 31 rfl ?_
      refine q_dup2 hC dX5_spoil_31 rfl rfl 32 rfl ?_
      obtain ⟨hin, hw⟩ := hw
      refine q_iald hC (arF53 hF) hin dX5_spoil_32 33 rfl ?_
      refine q_iconst (v := 1) hC dX5_spoil_33 rfl 34 rfl ?_
      refine q_iload_n hC dX5_spoil_34 3 rfl 35 rfl ?_
      refine q_ishl hC dX5_spoil_35 36 rfl ?_
      refine q_ixor hC dX5_spoil_36 37 rfl ?_
      obtain ⟨hin, hw⟩ := hw
      refine q_iast hC (arF53 hF) hin dX5_spoil_37 38 rfl (fun M5 eM5 => ?_)
      have hw := hw M5 eM5
      refine q_aload_n hC dX5_spoil_38 0 rfl 39 rfl ?_
      refine q_iload_n hC dX5_spoil_39 1 rfl 40 rfl ?_
      refine q_iload_n hC dX5_spoil_40 2 rfl 41 rfl ?_
      refine r_callI hC (go_V (q := (RX5, TX5, 26)) (As := [.int v1, .int v2]) (rest := []) hC (ctX5_columnOf (zl z) g M5 v1 v2 _ hF hw) 2 gX5_spoil_X5_columnOf rfl ⟨rfl, rfl⟩ hdV_X5_columnOf ⟨Nat.le_of_ble_eq_true rfl, Nat.le_of_ble_eq_true rfl⟩ (obF52 hF) rfl rfl rfl (Nat.le_of_ble_eq_true rfl) dX5_spoil_41) 44 rfl (fun r6 M7 hw => ?_)
      exact r_iret hR dX5_spoil_44 hw
    · refine q_iconst (v := (-1)) hC dX5_spoil_16 rfl 17 rfl ?_
      exact r_iret hR dX5_spoil_17 hw
theorem inX5_dead_X5 : ∀ w ∈ u_ws RX5 TX5 26, w ∈ wsX5_dead := uX5_dead__wsX50
set_option maxRecDepth 100000 in
set_option maxHeartbeats 4000000 in
theorem ctX5_dead (l : Launch) (g : GG) (M : MM) (v1 : Int32) (Q : Int32 → MM → Prop) (hF : ful5 g) (hw : wX5_dead Q M v1) : MI g l yX5_dead wsX5_dead (rmOf 2 45) [.ref (gA g 52), .int v1] M Q := by
  refine mk_MI (cc := cX5_dead) (maxL := 3) (by decide) rfl (Nat.le_of_ble_eq_true rfl) ?_
  intro z Qf hC hR
  show XX z g Qf 3 0 [(0, .ref (gA g 52)), (1, .int v1)] [] M
  have B15 : ∀ (M : MM), wX5_dead_15 Q v1 M → XX z g Qf 3 15 [(0, .ref (gA g 52)), (1, .int v1)] [] M := by
    intro M hw
    refine q_aload_n hC dX5_dead_15 0 rfl 16 rfl ?_
    refine q_getR (C := RX5) (T := TX5) (N := 26) (ci := 5) hC inX5_dead_X5 (obF52 hF) rfl 0 (by decide) (uX5_dead__o _ (List.mem_of_getElem? (l := owX5_dead) (i := 1) rfl)) rfl 53 (fun _ => rfl) dX5_dead_16 19 rfl ?_
    refine q_sipush (v := 340) hC dX5_dead_19 (by decide) 22 rfl ?_
    refine q_ialdL hC (arF53 hF) 340 (by decide +kernel) (by decide +kernel) dX5_dead_22 23 rfl ?_
    refine q_istore_n (L' := [(2, .int (M 53 340)), (0, .ref (gA g 52)), (1, .int v1)]) hC dX5_dead_23 (by decide) rfl 24 rfl ?_
    refine q_aload_n hC dX5_dead_24 1 rfl 25 rfl ?_
    refine q_getR (C := RX5) (T := TX5) (N := 26) (ci := 5) hC inX5_dead_X5 (obF52 hF) rfl 0 (by decide) (uX5_dead__o _ (List.mem_of_getElem? (l := owX5_dead) (i := 1) rfl)) rfl 53 (fun _ => rfl) dX5_dead_25 28 rfl ?_
    refine q_sipush (v := 340) hC dX5_dead_28 (by decide) 31 rfl ?_
    refine q_iload_n hC dX5_dead_31 2 rfl 32 rfl ?_
    refine q_iastL hC (arF53 hF) 340 (by decide +kernel) (by decide +kernel) dX5_dead_32 33 rfl (fun M3 eM3 => ?_)
    have hw := hw M3 eM3
    refine q_iload_n hC dX5_dead_33 0 rfl 34 rfl ?_
    exact r_iret hR dX5_dead_34 hw
  refine q_iload_n hC dX5_dead_0 1 rfl 1 rfl ?_
  refine q_bipush (v := (-4)) hC dX5_dead_1 (by decide) 3 rfl ?_
  refine q_icmp_eq hC 15 dX5_dead_3 (by decide) 6 rfl hw (fun hw => ?_) (fun hw => ?_)
  · exact XX.sub [0, 1] rfl (B15 M hw)
  · refine q_iload_n hC dX5_dead_6 1 rfl 7 rfl ?_
    refine r_callI hC (go_T (As := [.int v1]) (rest := []) hC (ctX5_isTrack (zl z) g M v1 _ hw) 1 gX5_dead_X5_isTrack rfl ⟨rfl, rfl⟩ hdT_X5_isTrack ⟨Nat.le_of_ble_eq_true rfl, Nat.le_of_ble_eq_true rfl⟩ rfl rfl (Nat.le_of_ble_eq_true rfl) dX5_dead_7) 10 rfl (fun r1 M2 hw => ?_)
    refine q_if_ne hC 15 dX5_dead_10 (by decide) 13 rfl hw (fun hw => ?_) (fun hw => ?_)
    · exact XX.sub [0, 1] rfl (B15 M2 hw)
    · refine q_iconst (v := (-1)) hC dX5_dead_13 rfl 14 rfl ?_
      exact r_iret hR dX5_dead_14 hw
theorem inX5_across_X5 : ∀ w ∈ u_ws RX5 TX5 26, w ∈ wsX5_across := uX5_across__wsX50
set_option maxRecDepth 100000 in
set_option maxHeartbeats 4000000 in
theorem ctX5_across (l : Launch) (g : GG) (M : MM) (v1 : Int32) (Q : Int32 → MM → Prop) (hF : ful5 g) (hw : wX5_across Q M v1) : MI g l yX5_across wsX5_across (rmOf 1 22) [.ref (gA g 52), .int v1] M Q := by
  refine mk_MI (cc := cX5_across) (maxL := 4) (by decide) rfl (Nat.le_of_ble_eq_true rfl) ?_
  intro z Qf hC hR
  show XX z g Qf 4 0 [(0, .ref (gA g 52)), (1, .int v1)] [] M
  have B4 : ∀ (n : Nat) (M : MM) (v2 : Int32) (v3 : Int32) , wX5_across_4 Q v1 n M v2 v3 → XX z g Qf 4 4 [(0, .ref (gA g 52)), (1, .int v1), (2, .int v2), (3, .int v3)] [] M := by
    intro n
    induction n with
    | zero =>
      intro M v2 v3 hw
      exact hw.elim
    | succ n ih =>
      intro M v2 v3 hw
      refine q_iload_n hC dX5_across_4 3 rfl 5 rfl ?_
      refine q_aload_n hC dX5_across_5 0 rfl 6 rfl ?_
      refine q_getR (C := RX5) (T := TX5) (N := 26) (ci := 5) hC inX5_across_X5 (obF52 hF) rfl 0 (by decide) (uX5_across__X5_columnOf _ (List.mem_of_getElem? (l := owX5_columnOf) (i := 1) rfl)) rfl 53 (fun _ => rfl) dX5_across_6 9 rfl ?_
      refine q_bipush (v := 13) hC dX5_across_9 (by decide) 11 rfl ?_
      refine q_iload_n hC dX5_across_11 1 rfl 12 rfl ?_
      refine q_iadd hC dX5_across_12 13 rfl ?_
      obtain ⟨hin, hw⟩ := hw
      refine q_iald hC (arF53 hF) hin dX5_across_13 14 rfl ?_
      refine q_icmp_gt hC 32 dX5_across_14 (by decide) 17 rfl hw (fun hw => ?_) (fun hw => ?_)
      · refine q_iload_n hC dX5_across_32 2 rfl 33 rfl ?_
        exact r_iret hR dX5_across_33 hw
      · refine q_iload_n hC dX5_across_17 2 rfl 18 rfl ?_
        refine q_aload_n hC dX5_across_18 0 rfl 19 rfl ?_
        refine q_iload_n hC dX5_across_19 1 rfl 20 rfl ?_
        refine q_iload_n hC dX5_across_20 3 rfl 21 rfl ?_
        refine r_callI hC (go_V (q := (RX5, TX5, 26)) (As := [.int v1, .int v3]) (rest := [.int v2]) hC (ctX5_columnOf (zl z) g M v1 v3 _ hF hw) 2 gX5_across_X5_columnOf rfl ⟨rfl, rfl⟩ hdV_X5_columnOf ⟨Nat.le_of_ble_eq_true rfl, Nat.le_of_ble_eq_true rfl⟩ (obF52 hF) rfl rfl rfl (Nat.le_of_ble_eq_true rfl) dX5_across_21) 24 rfl (fun r1 M2 hw => ?_)
        refine q_ixor hC dX5_across_24 25 rfl ?_
        refine q_istore_n (L' := [(2, .int (v2 ^^^ r1)), (0, .ref (gA g 52)), (1, .int v1), (3, .int v3)]) hC dX5_across_25 (by decide) rfl 26 rfl ?_
        refine q_iinc (v := v3 + 1) (L' := [(3, .int (v3 + 1)), (2, .int (v2 ^^^ r1)), (0, .ref (gA g 52)), (1, .int v1)]) hC dX5_across_26 3 rfl rfl (by decide) rfl 29 rfl ?_
        refine q_goto hC 4 dX5_across_29 (by decide) ?_
        exact XX.sub [2, 3, 1, 0] rfl (ih M2 (v2 ^^^ r1) (v3 + 1) hw)
  refine q_iconst (v := 0) hC dX5_across_0 rfl 1 rfl ?_
  refine q_istore_n (L' := [(2, .int 0), (0, .ref (gA g 52)), (1, .int v1)]) hC dX5_across_1 (by decide) rfl 2 rfl ?_
  refine q_iconst (v := 0) hC dX5_across_2 rfl 3 rfl ?_
  refine q_istore_n (L' := [(3, .int 0), (2, .int 0), (0, .ref (gA g 52)), (1, .int v1)]) hC dX5_across_3 (by decide) rfl 4 rfl ?_
  obtain ⟨n0, hw⟩ := hw
  exact XX.sub [2, 3, 1, 0] rfl (B4 n0 M 0 0 hw)
set_option maxRecDepth 100000 in
set_option maxHeartbeats 4000000 in
theorem ctX5_onesOf (l : Launch) (g : GG) (M : MM) (v0 : Int32) (Q : Int32 → MM → Prop)  (hw : wX5_onesOf Q M v0) : MI g l yX5_onesOf wsX5_onesOf (rmOf 0 0) [.int v0] M Q := by
  refine mk_MI (cc := cX5_onesOf) (maxL := 3) (by decide) rfl (Nat.le_of_ble_eq_true rfl) ?_
  intro z Qf hC hR
  show XX z g Qf 3 0 [(0, .int v0)] [] M
  have B4 : ∀ (n : Nat) (M : MM) (v1 : Int32) (v2 : Int32) , wX5_onesOf_4 Q v0 n M v1 v2 → XX z g Qf 3 4 [(0, .int v0), (1, .int v1), (2, .int v2)] [] M := by
    intro n
    induction n with
    | zero =>
      intro M v1 v2 hw
      exact hw.elim
    | succ n ih =>
      intro M v1 v2 hw
      refine q_iload_n hC dX5_onesOf_4 2 rfl 5 rfl ?_
      refine q_bipush (v := 9) hC dX5_onesOf_5 (by decide) 7 rfl ?_
      refine q_icmp_ge hC 24 dX5_onesOf_7 (by decide) 10 rfl hw (fun hw => ?_) (fun hw => ?_)
      · refine q_iload_n hC dX5_onesOf_24 1 rfl 25 rfl ?_
        exact r_iret hR dX5_onesOf_25 hw
      · refine q_iload_n hC dX5_onesOf_10 1 rfl 11 rfl ?_
        refine q_iload_n hC dX5_onesOf_11 0 rfl 12 rfl ?_
        refine q_iload_n hC dX5_onesOf_12 2 rfl 13 rfl ?_
        refine q_ishr hC dX5_onesOf_13 14 rfl ?_
        refine q_iconst (v := 1) hC dX5_onesOf_14 rfl 15 rfl ?_
        refine q_iand hC dX5_onesOf_15 16 rfl ?_
        refine q_iadd hC dX5_onesOf_16 17 rfl ?_
        refine q_nameI (fun x1 ex1 => ?_)
        have hw := hw x1 ex1
        refine q_istore_n (L' := [(1, .int x1), (0, .int v0), (2, .int v2)]) hC dX5_onesOf_17 (by decide) rfl 18 rfl ?_
        refine q_iinc (v := v2 + 1) (L' := [(2, .int (v2 + 1)), (1, .int x1), (0, .int v0)]) hC dX5_onesOf_18 2 rfl rfl (by decide) rfl 21 rfl ?_
        refine q_goto hC 4 dX5_onesOf_21 (by decide) ?_
        exact XX.sub [2, 1, 0] rfl (ih M x1 (v2 + 1) hw)
  refine q_iconst (v := 0) hC dX5_onesOf_0 rfl 1 rfl ?_
  refine q_istore_n (L' := [(1, .int 0), (0, .int v0)]) hC dX5_onesOf_1 (by decide) rfl 2 rfl ?_
  refine q_iconst (v := 0) hC dX5_onesOf_2 rfl 3 rfl ?_
  refine q_istore_n (L' := [(2, .int 0), (1, .int 0), (0, .int v0)]) hC dX5_onesOf_3 (by decide) rfl 4 rfl ?_
  obtain ⟨n0, hw⟩ := hw
  exact XX.sub [2, 1, 0] rfl (B4 n0 M 0 0 hw)
theorem hdV_X5_across : yX5_across.cls = RX5 ∧ yX5_across.cls ≠ "java/lang/invoke/MethodHandle" ∧ yX5_across.cls ≠ "java/lang/invoke/VarHandle" ∧ (parseMethodDescriptor yX5_across.desc).map (fun d => d.parameters.length) = some 1 := by decide +kernel
theorem hdT_X5_onesOf : yX5_onesOf.cls ≠ "java/lang/invoke/MethodHandle" ∧ yX5_onesOf.cls ≠ "java/lang/invoke/VarHandle" ∧ (parseMethodDescriptor yX5_onesOf.desc).map (fun d => d.parameters.length) = some 1 := by decide +kernel
theorem inX5_reading_X5 : ∀ w ∈ u_ws RX5 TX5 26, w ∈ wsX5_reading := uX5_reading__wsX50
set_option maxRecDepth 100000 in
set_option maxHeartbeats 4000000 in
theorem ctX5_reading (l : Launch) (g : GG) (M : MM) (v1 : Int32) (v2 : Int32) (Q : Int32 → MM → Prop) (hF : ful5 g) (hw : wX5_reading Q M v1 v2) : MI g l yX5_reading wsX5_reading (rmOf 2 45) [.ref (gA g 52), .int v1, .int v2] M Q := by
  refine mk_MI (cc := cX5_reading) (maxL := 8) (by decide) rfl (Nat.le_of_ble_eq_true rfl) ?_
  intro z Qf hC hR
  show XX z g Qf 8 0 [(0, .ref (gA g 52)), (1, .int v1), (2, .int v2)] [] M
  have B161 : ∀ (M : MM) (p0 : Int32) (p1 : Int32), wX5_reading_161 Q v1 v2 M p0 p1 → XX z g Qf 8 161 [] [.int p0, .int p1] M := by
    intro M p0 p1 hw
    refine q_icmp_ne hC 168 dX5_reading_161 (by decide) 164 rfl hw (fun hw => ?_) (fun hw => ?_)
    · refine q_iconst (v := 3) hC dX5_reading_168 rfl 169 rfl ?_
      exact r_iret hR dX5_reading_169 hw
    · refine q_iconst (v := 2) hC dX5_reading_164 rfl 165 rfl ?_
      refine q_goto hC 169 dX5_reading_165 (by decide) ?_
      exact r_iret hR dX5_reading_169 hw
  have B136 : ∀ (K102 : MM → Int32 → Int32 → Int32 → Int32 → Prop) (hK102 : ∀ (M : MM) (v3 : Int32) (v4 : Int32) (v5 : Int32) (v7 : Int32) , K102 M v3 v4 v5 v7 → XX z g Qf 8 102 [(0, .ref (gA g 52)), (2, .int v2), (3, .int v3), (4, .int v4), (5, .int v5), (7, .int v7)] [] M) (M : MM) (v3 : Int32) (v4 : Int32) (v5 : Int32) (v7 : Int32) (p0 : Int32) (p1 : Int32) (p2 : Int32), wX5_reading_136 Q K102 v1 v2 M v3 v4 v5 v7 p0 p1 p2 → XX z g Qf 8 136 [(0, .ref (gA g 52)), (2, .int v2), (3, .int v3), (4, .int v4), (5, .int v5), (7, .int v7)] [.int p0, .int p1, .int p2, .ref (gA g 61)] M := by
    intro K102 hK102 M v3 v4 v5 v7 p0 p1 p2 hw
    refine q_ixor hC dX5_reading_136 137 rfl ?_
    obtain ⟨hin, hw⟩ := hw
    refine q_iast hC (arF61 hF) hin dX5_reading_137 138 rfl (fun M14 eM14 => ?_)
    have hw := hw M14 eM14
    refine q_iinc (v := v7 + 1) (L' := [(7, .int (v7 + 1)), (0, .ref (gA g 52)), (2, .int v2), (3, .int v3), (4, .int v4), (5, .int v5)]) hC dX5_reading_138 5 rfl rfl (by decide) rfl 141 rfl ?_
    refine q_goto hC 102 dX5_reading_141 (by decide) ?_
    exact XX.sub [1, 2, 3, 4, 5, 0] rfl (hK102 M14 v3 v4 v5 (v7 + 1) hw)
  have B102 : ∀ (n : Nat) (M : MM) (v3 : Int32) (v4 : Int32) (v5 : Int32) (v7 : Int32) , wX5_reading_102 Q v1 v2 n M v3 v4 v5 v7 → XX z g Qf 8 102 [(0, .ref (gA g 52)), (2, .int v2), (3, .int v3), (4, .int v4), (5, .int v5), (7, .int v7)] [] M := by
    intro n
    induction n with
    | zero =>
      intro M v3 v4 v5 v7 hw
      exact hw.elim
    | succ n ih =>
      intro M v3 v4 v5 v7 hw
      refine q_iload hC dX5_reading_102 5 rfl 104 rfl ?_
      refine q_iload_n hC dX5_reading_104 2 rfl 105 rfl ?_
      refine q_icmp_ge hC 144 dX5_reading_105 (by decide) 108 rfl hw (fun hw => ?_) (fun hw => ?_)
      · refine q_iload hC dX5_reading_144 3 rfl 146 rfl ?_
        refine q_iload hC dX5_reading_146 4 rfl 148 rfl ?_
        refine q_iconst (v := 2) hC dX5_reading_148 rfl 149 rfl ?_
        refine q_irem hC dX5_reading_149 (by decide) 150 rfl ?_
        refine q_iconst (v := 1) hC dX5_reading_150 rfl 151 rfl ?_
        refine q_icmp_ne hC 160 dX5_reading_151 (by decide) 154 rfl hw (fun hw => ?_) (fun hw => ?_)
        · refine q_iconst (v := 0) hC dX5_reading_160 rfl 161 rfl ?_
          exact XX.sub [] rfl (B161 M 0 v4 hw)
        · refine q_iconst (v := 1) hC dX5_reading_154 rfl 155 rfl ?_
          refine q_iload_n hC dX5_reading_155 1 rfl 156 rfl ?_
          refine q_ishl hC dX5_reading_156 157 rfl ?_
          refine q_goto hC 161 dX5_reading_157 (by decide) ?_
          exact XX.sub [] rfl (B161 M ((1 : Int32) <<< (v2 &&& 31)) v4 hw)
      · refine q_aload_n hC dX5_reading_108 0 rfl 109 rfl ?_
        refine q_getR (C := RX5) (T := TX5) (N := 26) (ci := 5) hC inX5_reading_X5 (obF52 hF) rfl 17 (by decide) (uX5_reading__o _ (List.mem_of_getElem? (l := owX5_reading) (i := 1) rfl)) rfl 61 (fun _ => rfl) dX5_reading_109 112 rfl ?_
        refine q_iload hC dX5_reading_112 5 rfl 114 rfl ?_
        refine q_dup2 hC dX5_reading_114 rfl rfl 115 rfl ?_
        obtain ⟨hin, hw⟩ := hw
        refine q_iald hC (arF61 hF) hin dX5_reading_115 116 rfl ?_
        refine q_aload_n hC dX5_reading_116 0 rfl 117 rfl ?_
        refine q_getR (C := RX5) (T := TX5) (N := 26) (ci := 5) hC inX5_reading_X5 (obF52 hF) rfl 17 (by decide) (uX5_reading__o _ (List.mem_of_getElem? (l := owX5_reading) (i := 1) rfl)) rfl 61 (fun _ => rfl) dX5_reading_117 120 rfl ?_
        refine q_iload hC dX5_reading_120 5 rfl 122 rfl ?_
        obtain ⟨hin, hw⟩ := hw
        refine q_iald hC (arF61 hF) hin dX5_reading_122 123 rfl ?_
        refine r_callI hC (go_T (As := [.int (M 61 v7.toNatClampNeg)]) (rest := [.int (M 61 v7.toNatClampNeg), .int v7, .ref (gA g 61)]) hC (ctX5_odd (zl z) g M (M 61 v7.toNatClampNeg) _ hw) 1 gX5_reading_X5_odd rfl ⟨rfl, rfl⟩ hdT_X5_odd ⟨Nat.le_of_ble_eq_true rfl, Nat.le_of_ble_eq_true rfl⟩ rfl rfl (Nat.le_of_ble_eq_true rfl) dX5_reading_123) 126 rfl (fun r12 M13 hw => ?_)
        refine q_if_ne hC 135 dX5_reading_126 (by decide) 129 rfl hw (fun hw => ?_) (fun hw => ?_)
        · refine q_iconst (v := 0) hC dX5_reading_135 rfl 136 rfl ?_
          exact XX.sub [0, 1, 2, 3, 4, 5] rfl (B136 _ (fun M v3 v4 v5 v7 hw => ih M v3 v4 v5 v7 hw) M13 v3 v4 v5 v7 0 (M 61 v7.toNatClampNeg) v7 hw)
        · refine q_iconst (v := 1) hC dX5_reading_129 rfl 130 rfl ?_
          refine q_iload_n hC dX5_reading_130 1 rfl 131 rfl ?_
          refine q_ishl hC dX5_reading_131 132 rfl ?_
          refine q_goto hC 136 dX5_reading_132 (by decide) ?_
          exact XX.sub [0, 1, 2, 3, 4, 5] rfl (B136 _ (fun M v3 v4 v5 v7 hw => ih M v3 v4 v5 v7 hw) M13 v3 v4 v5 v7 ((1 : Int32) <<< (v2 &&& 31)) (M 61 v7.toNatClampNeg) v7 hw)
  have B93 : ∀ (M : MM) (v3 : Int32) (v4 : Int32) (v5 : Int32) (v6 : Int32), wX5_reading_93 Q v1 v2 M v3 v4 v5 v6 → XX z g Qf 8 93 [(0, .ref (gA g 52)), (2, .int v2), (3, .int v3), (4, .int v4), (5, .int v5), (6, .int v6)] [] M := by
    intro M v3 v4 v5 v6 hw
    refine q_iload_n hC dX5_reading_93 1 rfl 94 rfl ?_
    refine q_bipush (v := (-4)) hC dX5_reading_94 (by decide) 96 rfl ?_
    refine q_icmp_eq hC 170 dX5_reading_96 (by decide) 99 rfl hw (fun hw => ?_) (fun hw => ?_)
    · refine q_iload hC dX5_reading_170 3 rfl 172 rfl ?_
      refine r_callI hC (go_T (As := [.int v4]) (rest := []) hC (ctX5_onesOf (zl z) g M v4 _ hw) 1 gX5_reading_X5_onesOf rfl ⟨rfl, rfl⟩ hdT_X5_onesOf ⟨Nat.le_of_ble_eq_true rfl, Nat.le_of_ble_eq_true rfl⟩ rfl rfl (Nat.le_of_ble_eq_true rfl) dX5_reading_172) 175 rfl (fun r9 M10 hw => ?_)
      refine q_iconst (v := 1) hC dX5_reading_175 rfl 176 rfl ?_
      refine q_icmp_ne hC 185 dX5_reading_176 (by decide) 179 rfl hw (fun hw => ?_) (fun hw => ?_)
      · refine q_iconst (v := 3) hC dX5_reading_185 rfl 186 rfl ?_
        exact r_iret hR dX5_reading_186 hw
      · refine q_iload hC dX5_reading_179 4 rfl 181 rfl ?_
        refine q_iconst (v := 1) hC dX5_reading_181 rfl 182 rfl ?_
        refine q_icmp_le hC 187 dX5_reading_182 (by decide) 185 rfl hw (fun hw => ?_) (fun hw => ?_)
        · refine q_iload hC dX5_reading_187 4 rfl 189 rfl ?_
          refine q_iconst (v := 1) hC dX5_reading_189 rfl 190 rfl ?_
          refine q_icmp_ne hC 205 dX5_reading_190 (by decide) 193 rfl hw (fun hw => ?_) (fun hw => ?_)
          · refine q_iconst (v := 1) hC dX5_reading_205 rfl 206 rfl ?_
            exact r_iret hR dX5_reading_206 hw
          · refine q_aload_n hC dX5_reading_193 0 rfl 194 rfl ?_
            refine q_getR (C := RX5) (T := TX5) (N := 26) (ci := 5) hC inX5_reading_X5 (obF52 hF) rfl 17 (by decide) (uX5_reading__o _ (List.mem_of_getElem? (l := owX5_reading) (i := 1) rfl)) rfl 61 (fun _ => rfl) dX5_reading_194 197 rfl ?_
            refine q_iload hC dX5_reading_197 5 rfl 199 rfl ?_
            refine q_dup2 hC dX5_reading_199 rfl rfl 200 rfl ?_
            obtain ⟨hin, hw⟩ := hw
            refine q_iald hC (arF61 hF) hin dX5_reading_200 201 rfl ?_
            refine q_iload hC dX5_reading_201 3 rfl 203 rfl ?_
            refine q_ixor hC dX5_reading_203 204 rfl ?_
            obtain ⟨hin, hw⟩ := hw
            refine q_iast hC (arF61 hF) hin dX5_reading_204 205 rfl (fun M11 eM11 => ?_)
            have hw := hw M11 eM11
            refine q_iconst (v := 1) hC dX5_reading_205 rfl 206 rfl ?_
            exact r_iret hR dX5_reading_206 hw
        · refine q_iconst (v := 3) hC dX5_reading_185 rfl 186 rfl ?_
          exact r_iret hR dX5_reading_186 hw
    · refine q_iconst (v := 0) hC dX5_reading_99 rfl 100 rfl ?_
      refine q_istore (L' := [(7, .int 0), (0, .ref (gA g 52)), (2, .int v2), (3, .int v3), (4, .int v4), (5, .int v5), (6, .int v6)]) hC dX5_reading_100 (by decide) rfl 102 rfl ?_
      obtain ⟨n0, hw⟩ := hw
      exact XX.sub [1, 2, 3, 4, 5, 0] rfl (B102 n0 M v3 v4 v5 0 hw)
  have B75 : ∀ (K35 : MM → Int32 → Int32 → Int32 → Int32 → Int32 → Prop) (hK35 : ∀ (M : MM) (v3 : Int32) (v4 : Int32) (v5 : Int32) (v6 : Int32) (v7 : Int32) , K35 M v3 v4 v5 v6 v7 → XX z g Qf 8 35 [(0, .ref (gA g 52)), (1, .int v1), (2, .int v2), (3, .int v3), (4, .int v4), (5, .int v5), (6, .int v6), (7, .int v7)] [] M) (M : MM) (v3 : Int32) (v4 : Int32) (v5 : Int32) (v6 : Int32) (v7 : Int32), wX5_reading_75 Q K35 v1 v2 M v3 v4 v5 v6 v7 → XX z g Qf 8 75 [(0, .ref (gA g 52)), (1, .int v1), (2, .int v2), (3, .int v3), (4, .int v4), (5, .int v5), (6, .int v6), (7, .int v7)] [] M := by
    intro K35 hK35 M v3 v4 v5 v6 v7 hw
    refine q_iinc (v := v7 + 1) (L' := [(7, .int (v7 + 1)), (0, .ref (gA g 52)), (1, .int v1), (2, .int v2), (3, .int v3), (4, .int v4), (5, .int v5), (6, .int v6)]) hC dX5_reading_75 7 rfl rfl (by decide) rfl 78 rfl ?_
    refine q_goto hC 35 dX5_reading_78 (by decide) ?_
    exact XX.sub [1, 2, 3, 4, 5, 6, 7, 0] rfl (hK35 M v3 v4 v5 v6 (v7 + 1) hw)
  have B35 : ∀ (n : Nat) (M : MM) (v3 : Int32) (v4 : Int32) (v5 : Int32) (v6 : Int32) (v7 : Int32) , wX5_reading_35 Q v1 v2 n M v3 v4 v5 v6 v7 → XX z g Qf 8 35 [(0, .ref (gA g 52)), (1, .int v1), (2, .int v2), (3, .int v3), (4, .int v4), (5, .int v5), (6, .int v6), (7, .int v7)] [] M := by
    intro n
    induction n with
    | zero =>
      intro M v3 v4 v5 v6 v7 hw
      exact hw.elim
    | succ n ih =>
      intro M v3 v4 v5 v6 v7 hw
      refine q_iload hC dX5_reading_35 7 rfl 37 rfl ?_
      refine q_iload_n hC dX5_reading_37 3 rfl 38 rfl ?_
      refine q_icmp_ge hC 81 dX5_reading_38 (by decide) 41 rfl hw (fun hw => ?_) (fun hw => ?_)
      · refine q_iload hC dX5_reading_81 5 rfl 83 rfl ?_
        refine q_if_ne hC 93 dX5_reading_83 (by decide) 86 rfl hw (fun hw => ?_) (fun hw => ?_)
        · exact XX.sub [0, 2, 3, 4, 5, 6] rfl (B93 M v3 v4 v5 v6 hw)
        · refine q_iload hC dX5_reading_86 4 rfl 88 rfl ?_
          refine q_if_ne hC 93 dX5_reading_88 (by decide) 91 rfl hw (fun hw => ?_) (fun hw => ?_)
          · exact XX.sub [0, 2, 3, 4, 5, 6] rfl (B93 M v3 v4 v5 v6 hw)
          · refine q_iconst (v := 0) hC dX5_reading_91 rfl 92 rfl ?_
            exact r_iret hR dX5_reading_92 hw
      · refine q_aload_n hC dX5_reading_41 0 rfl 42 rfl ?_
        refine q_getR (C := RX5) (T := TX5) (N := 26) (ci := 5) hC inX5_reading_X5 (obF52 hF) rfl 17 (by decide) (uX5_reading__o _ (List.mem_of_getElem? (l := owX5_reading) (i := 1) rfl)) rfl 61 (fun _ => rfl) dX5_reading_42 45 rfl ?_
        refine q_iload hC dX5_reading_45 7 rfl 47 rfl ?_
        refine q_aload_n hC dX5_reading_47 0 rfl 48 rfl ?_
        refine q_iload_n hC dX5_reading_48 1 rfl 49 rfl ?_
        refine q_iload hC dX5_reading_49 7 rfl 51 rfl ?_
        refine r_callI hC (go_V (q := (RX5, TX5, 26)) (As := [.int v1, .int v7]) (rest := [.int v7, .ref (gA g 61)]) hC (ctX5_columnOf (zl z) g M v1 v7 _ hF hw) 2 gX5_reading_X5_columnOf rfl ⟨rfl, rfl⟩ hdV_X5_columnOf ⟨Nat.le_of_ble_eq_true rfl, Nat.le_of_ble_eq_true rfl⟩ (obF52 hF) rfl rfl rfl (Nat.le_of_ble_eq_true rfl) dX5_reading_51) 54 rfl (fun r4 M5 hw => ?_)
        obtain ⟨hin, hw⟩ := hw
        refine q_iast hC (arF61 hF) hin dX5_reading_54 55 rfl (fun M6 eM6 => ?_)
        have hw := hw M6 eM6
        refine q_aload_n hC dX5_reading_55 0 rfl 56 rfl ?_
        refine q_getR (C := RX5) (T := TX5) (N := 26) (ci := 5) hC inX5_reading_X5 (obF52 hF) rfl 17 (by decide) (uX5_reading__o _ (List.mem_of_getElem? (l := owX5_reading) (i := 1) rfl)) rfl 61 (fun _ => rfl) dX5_reading_56 59 rfl ?_
        refine q_iload hC dX5_reading_59 7 rfl 61 rfl ?_
        obtain ⟨hin, hw⟩ := hw
        refine q_iald hC (arF61 hF) hin dX5_reading_61 62 rfl ?_
        refine r_callI hC (go_T (As := [.int (M6 61 v7.toNatClampNeg)]) (rest := []) hC (ctX5_odd (zl z) g M6 (M6 61 v7.toNatClampNeg) _ hw) 1 gX5_reading_X5_odd rfl ⟨rfl, rfl⟩ hdT_X5_odd ⟨Nat.le_of_ble_eq_true rfl, Nat.le_of_ble_eq_true rfl⟩ rfl rfl (Nat.le_of_ble_eq_true rfl) dX5_reading_62) 65 rfl (fun r7 M8 hw => ?_)
        refine q_if_ne hC 75 dX5_reading_65 (by decide) 68 rfl hw (fun hw => ?_) (fun hw => ?_)
        · exact XX.sub [0, 1, 2, 3, 4, 5, 6, 7] rfl (B75 _ (fun M v3 v4 v5 v6 v7 hw => ih M v3 v4 v5 v6 v7 hw) M8 v3 v4 v5 v6 v7 hw)
        · refine q_iinc (v := v5 + 1) (L' := [(5, .int (v5 + 1)), (0, .ref (gA g 52)), (1, .int v1), (2, .int v2), (3, .int v3), (4, .int v4), (6, .int v6), (7, .int v7)]) hC dX5_reading_68 5 rfl rfl (by decide) rfl 71 rfl ?_
          refine q_iload hC dX5_reading_71 7 rfl 73 rfl ?_
          refine q_istore (L' := [(6, .int v7), (5, .int (v5 + 1)), (0, .ref (gA g 52)), (1, .int v1), (2, .int v2), (3, .int v3), (4, .int v4), (7, .int v7)]) hC dX5_reading_73 (by decide) rfl 75 rfl ?_
          exact XX.sub [2, 3, 4, 5, 6, 1, 0, 7] rfl (B75 _ (fun M v3 v4 v5 v6 v7 hw => ih M v3 v4 v5 v6 v7 hw) M8 v3 v4 (v5 + 1) v7 v7 hw)
  have B23 : ∀ (M : MM) (v3 : Int32) (p0 : Int32), wX5_reading_23 Q v1 v2 M v3 p0 → XX z g Qf 8 23 [(0, .ref (gA g 52)), (1, .int v1), (2, .int v2), (3, .int v3)] [.int p0] M := by
    intro M v3 p0 hw
    refine q_istore (L' := [(4, .int p0), (0, .ref (gA g 52)), (1, .int v1), (2, .int v2), (3, .int v3)]) hC dX5_reading_23 (by decide) rfl 25 rfl ?_
    refine q_iconst (v := 0) hC dX5_reading_25 rfl 26 rfl ?_
    refine q_istore (L' := [(5, .int 0), (4, .int p0), (0, .ref (gA g 52)), (1, .int v1), (2, .int v2), (3, .int v3)]) hC dX5_reading_26 (by decide) rfl 28 rfl ?_
    refine q_bipush (v := (-4)) hC dX5_reading_28 (by decide) 30 rfl ?_
    refine q_istore (L' := [(6, .int (-4)), (5, .int 0), (4, .int p0), (0, .ref (gA g 52)), (1, .int v1), (2, .int v2), (3, .int v3)]) hC dX5_reading_30 (by decide) rfl 32 rfl ?_
    refine q_iconst (v := 0) hC dX5_reading_32 rfl 33 rfl ?_
    refine q_istore (L' := [(7, .int 0), (6, .int (-4)), (5, .int 0), (4, .int p0), (0, .ref (gA g 52)), (1, .int v1), (2, .int v2), (3, .int v3)]) hC dX5_reading_33 (by decide) rfl 35 rfl ?_
    obtain ⟨n0, hw⟩ := hw
    exact XX.sub [4, 5, 6, 7, 3, 2, 1, 0] rfl (B35 n0 M v3 p0 0 (-4) 0 hw)
  refine q_aload_n hC dX5_reading_0 0 rfl 1 rfl ?_
  refine q_getR (C := RX5) (T := TX5) (N := 26) (ci := 5) hC inX5_reading_X5 (obF52 hF) rfl 0 (by decide) (uX5_reading__X5_columnOf _ (List.mem_of_getElem? (l := owX5_columnOf) (i := 1) rfl)) rfl 53 (fun _ => rfl) dX5_reading_1 4 rfl ?_
  refine q_bipush (v := 13) hC dX5_reading_4 (by decide) 6 rfl ?_
  refine q_iload_n hC dX5_reading_6 1 rfl 7 rfl ?_
  refine q_iadd hC dX5_reading_7 8 rfl ?_
  obtain ⟨hin, hw⟩ := hw
  refine q_iald hC (arF53 hF) hin dX5_reading_8 9 rfl ?_
  refine q_nameI (fun x1 ex1 => ?_)
  have hw := hw x1 ex1
  refine q_istore_n (L' := [(3, .int x1), (0, .ref (gA g 52)), (1, .int v1), (2, .int v2)]) hC dX5_reading_9 (by decide) rfl 10 rfl ?_
  refine q_iload_n hC dX5_reading_10 0 rfl 11 rfl ?_
  refine q_if_ne hC 18 dX5_reading_11 (by decide) 14 rfl hw (fun hw => ?_) (fun hw => ?_)
  · refine q_aload_n hC dX5_reading_18 1 rfl 19 rfl ?_
    refine q_iload_n hC dX5_reading_19 2 rfl 20 rfl ?_
    refine r_callI hC (go_V (q := (RX5, TX5, 26)) (As := [.int v1]) (rest := []) hC (ctX5_across (zl z) g M v1 _ hF hw) 1 gX5_reading_X5_across rfl ⟨rfl, rfl⟩ hdV_X5_across ⟨Nat.le_of_ble_eq_true rfl, Nat.le_of_ble_eq_true rfl⟩ (obF52 hF) rfl rfl rfl (Nat.le_of_ble_eq_true rfl) dX5_reading_20) 23 rfl (fun r2 M3 hw => ?_)
    exact XX.sub [1, 2, 3, 0] rfl (B23 M3 x1 r2 hw)
  · refine q_iconst (v := 0) hC dX5_reading_14 rfl 15 rfl ?_
    refine q_goto hC 23 dX5_reading_15 (by decide) ?_
    exact XX.sub [1, 2, 3, 0] rfl (B23 M x1 0 hw)
