theorem inX5_copies_X5 : ∀ w ∈ u_ws RX5 TX5 26, w ∈ wsX5_copies := uX5_copies__wsX50
set_option maxRecDepth 100000 in
set_option maxHeartbeats 4000000 in
theorem ctX5_copies (l : Launch) (g : GG) (M : MM) (v1 : Int32) (v2 : Int32) (Q : MM → Prop) (hF : ful5 g) (hw : wX5_copies Q M v1 v2) : MV g l yX5_copies wsX5_copies (rmOf 0 0) [.ref (gA g 52), .int v1, .int v2] M Q := by
  refine mk_MV (cc := cX5_copies) (maxL := 4) (by decide) rfl (Nat.le_of_ble_eq_true rfl) ?_
  intro z Qf hC hR
  show XX z g Qf 4 0 [(0, .ref (gA g 52)), (1, .int v1), (2, .int v2)] [] M
  have B2 : ∀ (n : Nat) (M : MM) (v3 : Int32) , wX5_copies_2 Q v1 v2 n M v3 → XX z g Qf 4 2 [(0, .ref (gA g 52)), (1, .int v1), (2, .int v2), (3, .int v3)] [] M := by
    intro n
    induction n with
    | zero =>
      intro M v3 hw
      exact hw.elim
    | succ n ih =>
      intro M v3 hw
      refine q_iload_n hC dX5_copies_2 3 rfl 3 rfl ?_
      refine q_sipush (v := 400) hC dX5_copies_3 (by decide) 6 rfl ?_
      refine q_icmp_ge hC 31 dX5_copies_6 (by decide) 9 rfl hw (fun hw => ?_) (fun hw => ?_)
      · exact r_vret hR dX5_copies_31 hw
      · refine q_aload_n hC dX5_copies_9 0 rfl 10 rfl ?_
        refine q_getR (C := RX5) (T := TX5) (N := 26) (ci := 5) hC inX5_copies_X5 (obF52 hF) rfl 0 (by decide) (uX5_copies__o _ (List.mem_of_getElem? (l := owX5_copies) (i := 1) rfl)) rfl 53 (fun _ => rfl) dX5_copies_10 13 rfl ?_
        refine q_iload_n hC dX5_copies_13 1 rfl 14 rfl ?_
        refine q_iload_n hC dX5_copies_14 3 rfl 15 rfl ?_
        refine q_iadd hC dX5_copies_15 16 rfl ?_
        refine q_aload_n hC dX5_copies_16 0 rfl 17 rfl ?_
        refine q_getR (C := RX5) (T := TX5) (N := 26) (ci := 5) hC inX5_copies_X5 (obF52 hF) rfl 0 (by decide) (uX5_copies__o _ (List.mem_of_getElem? (l := owX5_copies) (i := 1) rfl)) rfl 53 (fun _ => rfl) dX5_copies_17 20 rfl ?_
        refine q_iload_n hC dX5_copies_20 2 rfl 21 rfl ?_
        refine q_iload_n hC dX5_copies_21 3 rfl 22 rfl ?_
        refine q_iadd hC dX5_copies_22 23 rfl ?_
        obtain ⟨hin, hw⟩ := hw
        refine q_iald hC (arF53 hF) hin dX5_copies_23 24 rfl ?_
        obtain ⟨hin, hw⟩ := hw
        refine q_iast hC (arF53 hF) hin dX5_copies_24 25 rfl (fun M1 eM1 => ?_)
        have hw := hw M1 eM1
        refine q_iinc (v := v3 + 1) (L' := [(3, .int (v3 + 1)), (0, .ref (gA g 52)), (1, .int v1), (2, .int v2)]) hC dX5_copies_25 3 rfl rfl (by decide) rfl 28 rfl ?_
        refine q_goto hC 2 dX5_copies_28 (by decide) ?_
        exact XX.sub [1, 2, 3, 0] rfl (ih M1 (v3 + 1) hw)
  refine q_iconst (v := 0) hC dX5_copies_0 rfl 1 rfl ?_
  refine q_istore_n (L' := [(3, .int 0), (0, .ref (gA g 52)), (1, .int v1), (2, .int v2)]) hC dX5_copies_1 (by decide) rfl 2 rfl ?_
  obtain ⟨n0, hw⟩ := hw
  exact XX.sub [1, 2, 3, 0] rfl (B2 n0 M 0 hw)
theorem hdV_X5_copies : yX5_copies.cls = RX5 ∧ yX5_copies.cls ≠ "java/lang/invoke/MethodHandle" ∧ yX5_copies.cls ≠ "java/lang/invoke/VarHandle" ∧ (parseMethodDescriptor yX5_copies.desc).map (fun d => d.parameters.length) = some 2 := by decide +kernel
theorem inX5_keep_X5 : ∀ w ∈ u_ws RX5 TX5 26, w ∈ wsX5_keep := uX5_keep__wsX50
set_option maxRecDepth 100000 in
set_option maxHeartbeats 4000000 in
theorem ctX5_keep (l : Launch) (g : GG) (M : MM) (v1 : Int32) (Q : Int32 → MM → Prop) (hF : ful5 g) (hw : wX5_keep Q M v1) : MI g l yX5_keep wsX5_keep (rmOf 1 25) [.ref (gA g 52), .int v1] M Q := by
  refine mk_MI (cc := cX5_keep) (maxL := 3) (by decide) rfl (Nat.le_of_ble_eq_true rfl) ?_
  intro z Qf hC hR
  show XX z g Qf 3 0 [(0, .ref (gA g 52)), (1, .int v1)] [] M
  refine q_iload_n hC dX5_keep_0 1 rfl 1 rfl ?_
  refine q_i2l hC dX5_keep_1 2 rfl ?_
  refine q_lconst (v := 0) hC dX5_keep_2 rfl 3 rfl ?_
  refine q_lconst (v := 1) hC dX5_keep_3 rfl 4 rfl ?_
  refine r_callI hC (go_T (As := [.long (v1.toInt64), .long 0, .long 1]) (rest := []) hC (ctX5_in (zl z) g M (v1.toInt64) 0 1 _ hw) 3 gX5_keep_X5_in rfl ⟨rfl, rfl⟩ hdT_X5_in ⟨Nat.le_of_ble_eq_true rfl, Nat.le_of_ble_eq_true rfl⟩ rfl rfl (Nat.le_of_ble_eq_true rfl) dX5_keep_4) 7 rfl (fun r1 M2 hw => ?_)
  refine q_if_ne hC 12 dX5_keep_7 (by decide) 10 rfl hw (fun hw => ?_) (fun hw => ?_)
  · refine q_aload_n hC dX5_keep_12 0 rfl 13 rfl ?_
    refine q_getR (C := RX5) (T := TX5) (N := 26) (ci := 5) hC inX5_keep_X5 (obF52 hF) rfl 1 (by decide) (uX5_keep__o _ (List.mem_of_getElem? (l := owX5_keep) (i := 1) rfl)) rfl 54 (fun _ => rfl) dX5_keep_13 16 rfl ?_
    refine q_iload_n hC dX5_keep_16 1 rfl 17 rfl ?_
    obtain ⟨hin, hw⟩ := hw
    refine q_zald hC (arF54 hF) hin dX5_keep_17 18 rfl ?_
    refine r_callI hC (go_T (As := [.int (M2 54 v1.toNatClampNeg)]) (rest := []) hC (ctX5_flag (zl z) g M2 (M2 54 v1.toNatClampNeg) _ hw) 1 gX5_keep_X5_flag rfl ⟨rfl, rfl⟩ hdT_X5_flag ⟨Nat.le_of_ble_eq_true rfl, Nat.le_of_ble_eq_true rfl⟩ rfl rfl (Nat.le_of_ble_eq_true rfl) dX5_keep_18) 21 rfl (fun r3 M4 hw => ?_)
    refine q_istore_n (L' := [(2, .int r3), (0, .ref (gA g 52)), (1, .int v1)]) hC dX5_keep_21 (by decide) rfl 22 rfl ?_
    refine q_aload_n hC dX5_keep_22 1 rfl 23 rfl ?_
    refine q_getR (C := RX5) (T := TX5) (N := 26) (ci := 5) hC inX5_keep_X5 (obF52 hF) rfl 1 (by decide) (uX5_keep__o _ (List.mem_of_getElem? (l := owX5_keep) (i := 1) rfl)) rfl 54 (fun _ => rfl) dX5_keep_23 26 rfl ?_
    refine q_iload_n hC dX5_keep_26 2 rfl 27 rfl ?_
    refine q_iconst (v := 1) hC dX5_keep_27 rfl 28 rfl ?_
    obtain ⟨hin, hw⟩ := hw
    refine q_zast hC (arF54 hF) hin dX5_keep_28 29 rfl (fun M5 eM5 => ?_)
    have hw := hw M5 eM5
    refine q_aload_n hC dX5_keep_29 1 rfl 30 rfl ?_
    refine q_sipush (v := 400) hC dX5_keep_30 (by decide) 33 rfl ?_
    refine q_iload_n hC dX5_keep_33 2 rfl 34 rfl ?_
    refine q_iconst (v := 1) hC dX5_keep_34 rfl 35 rfl ?_
    refine q_iadd hC dX5_keep_35 36 rfl ?_
    refine q_imul hC dX5_keep_36 37 rfl ?_
    refine q_iconst (v := 0) hC dX5_keep_37 rfl 38 rfl ?_
    refine r_callV hC (go_V (q := (RX5, TX5, 26)) (As := [.int ((400 : Int32) * (v1 + (1 : Int32))), .int 0]) (rest := []) hC (ctX5_copies (zl z) g M5 ((400 : Int32) * (v1 + (1 : Int32))) 0 _ hF hw) 2 gX5_keep_X5_copies rfl ⟨rfl, rfl⟩ hdV_X5_copies ⟨Nat.le_of_ble_eq_true rfl, Nat.le_of_ble_eq_true rfl⟩ (obF52 hF) rfl rfl rfl (Nat.le_of_ble_eq_true rfl) dX5_keep_38) 41 rfl (fun M6 hw => ?_)
    refine q_iload_n hC dX5_keep_41 0 rfl 42 rfl ?_
    exact r_iret hR dX5_keep_42 hw
  · refine q_iconst (v := (-1)) hC dX5_keep_10 rfl 11 rfl ?_
    exact r_iret hR dX5_keep_11 hw
theorem inX5_back_X5 : ∀ w ∈ u_ws RX5 TX5 26, w ∈ wsX5_back := uX5_back__wsX50
set_option maxRecDepth 100000 in
set_option maxHeartbeats 4000000 in
theorem ctX5_back (l : Launch) (g : GG) (M : MM) (v1 : Int32) (Q : Int32 → MM → Prop) (hF : ful5 g) (hw : wX5_back Q M v1) : MI g l yX5_back wsX5_back (rmOf 1 25) [.ref (gA g 52), .int v1] M Q := by
  refine mk_MI (cc := cX5_back) (maxL := 2) (by decide) rfl (Nat.le_of_ble_eq_true rfl) ?_
  intro z Qf hC hR
  show XX z g Qf 2 0 [(0, .ref (gA g 52)), (1, .int v1)] [] M
  refine q_iload_n hC dX5_back_0 1 rfl 1 rfl ?_
  refine q_i2l hC dX5_back_1 2 rfl ?_
  refine q_lconst (v := 0) hC dX5_back_2 rfl 3 rfl ?_
  refine q_lconst (v := 1) hC dX5_back_3 rfl 4 rfl ?_
  refine r_callI hC (go_T (As := [.long (v1.toInt64), .long 0, .long 1]) (rest := []) hC (ctX5_in (zl z) g M (v1.toInt64) 0 1 _ hw) 3 gX5_back_X5_in rfl ⟨rfl, rfl⟩ hdT_X5_in ⟨Nat.le_of_ble_eq_true rfl, Nat.le_of_ble_eq_true rfl⟩ rfl rfl (Nat.le_of_ble_eq_true rfl) dX5_back_4) 7 rfl (fun r1 M2 hw => ?_)
  refine q_if_ne hC 12 dX5_back_7 (by decide) 10 rfl hw (fun hw => ?_) (fun hw => ?_)
  · refine q_aload_n hC dX5_back_12 0 rfl 13 rfl ?_
    refine q_getR (C := RX5) (T := TX5) (N := 26) (ci := 5) hC inX5_back_X5 (obF52 hF) rfl 1 (by decide) (uX5_back__o _ (List.mem_of_getElem? (l := owX5_back) (i := 1) rfl)) rfl 54 (fun _ => rfl) dX5_back_13 16 rfl ?_
    refine q_iload_n hC dX5_back_16 1 rfl 17 rfl ?_
    obtain ⟨hin, hw⟩ := hw
    refine q_zald hC (arF54 hF) hin dX5_back_17 18 rfl ?_
    refine q_if_ne hC 24 dX5_back_18 (by decide) 21 rfl hw (fun hw => ?_) (fun hw => ?_)
    · refine q_aload_n hC dX5_back_24 0 rfl 25 rfl ?_
      refine q_iconst (v := 0) hC dX5_back_25 rfl 26 rfl ?_
      refine q_sipush (v := 400) hC dX5_back_26 (by decide) 29 rfl ?_
      refine q_iload_n hC dX5_back_29 1 rfl 30 rfl ?_
      refine q_iconst (v := 1) hC dX5_back_30 rfl 31 rfl ?_
      refine q_iadd hC dX5_back_31 32 rfl ?_
      refine q_imul hC dX5_back_32 33 rfl ?_
      refine r_callV hC (go_V (q := (RX5, TX5, 26)) (As := [.int 0, .int ((400 : Int32) * (v1 + (1 : Int32)))]) (rest := []) hC (ctX5_copies (zl z) g M2 0 ((400 : Int32) * (v1 + (1 : Int32))) _ hF hw) 2 gX5_back_X5_copies rfl ⟨rfl, rfl⟩ hdV_X5_copies ⟨Nat.le_of_ble_eq_true rfl, Nat.le_of_ble_eq_true rfl⟩ (obF52 hF) rfl rfl rfl (Nat.le_of_ble_eq_true rfl) dX5_back_33) 36 rfl (fun M3 hw => ?_)
      refine q_aload_n hC dX5_back_36 0 rfl 37 rfl ?_
      refine q_getR (C := RX5) (T := TX5) (N := 26) (ci := 5) hC inX5_back_X5 (obF52 hF) rfl 0 (by decide) (uX5_back__X5_copies _ (List.mem_of_getElem? (l := owX5_copies) (i := 1) rfl)) rfl 53 (fun _ => rfl) dX5_back_37 40 rfl ?_
      refine q_iconst (v := 0) hC dX5_back_40 rfl 41 rfl ?_
      refine q_ialdL hC (arF53 hF) 0 (by decide +kernel) (by decide +kernel) dX5_back_41 42 rfl ?_
      exact r_iret hR dX5_back_42 hw
    · refine q_bipush (v := (-2)) hC dX5_back_21 (by decide) 23 rfl ?_
      exact r_iret hR dX5_back_23 hw
  · refine q_iconst (v := (-1)) hC dX5_back_10 rfl 11 rfl ?_
    exact r_iret hR dX5_back_11 hw
set_option maxRecDepth 100000 in
set_option maxHeartbeats 4000000 in
theorem ctX5_isSheet (l : Launch) (g : GG) (M : MM) (v0 : Int32) (v1 : Int32) (Q : Int32 → MM → Prop)  (hw : wX5_isSheet Q M v0 v1) : MI g l yX5_isSheet wsX5_isSheet (rmOf 1 25) [.int v0, .int v1] M Q := by
  refine mk_MZ (cc := cX5_isSheet) (maxL := 2) (by decide) rfl (Nat.le_of_ble_eq_true rfl) ?_
  intro z Qf hC hR
  show XX z g Qf 2 0 [(0, .int v0), (1, .int v1)] [] M
  have B28 : ∀ (M : MM), wX5_isSheet_28 Q v0 v1 M → XX z g Qf 2 28 [] [] M := by
    intro M hw
    refine q_iconst (v := 0) hC dX5_isSheet_28 rfl 29 rfl ?_
    exact r_iret hR dX5_isSheet_29 ⟨nb_0, hw⟩
  refine q_iload_n hC dX5_isSheet_0 0 rfl 1 rfl ?_
  refine q_i2l hC dX5_isSheet_1 2 rfl ?_
  refine q_lconst (v := 0) hC dX5_isSheet_2 rfl 3 rfl ?_
  refine q_ldc2 (v := 3) hC (uX5_isSheet__o _ (List.mem_of_getElem? (l := owX5_isSheet) (i := 1) rfl)) dX5_isSheet_3 6 rfl ?_
  refine r_callI hC (go_T (As := [.long (v0.toInt64), .long 0, .long 3]) (rest := []) hC (ctX5_in (zl z) g M (v0.toInt64) 0 3 _ hw) 3 gX5_isSheet_X5_in rfl ⟨rfl, rfl⟩ hdT_X5_in ⟨Nat.le_of_ble_eq_true rfl, Nat.le_of_ble_eq_true rfl⟩ rfl rfl (Nat.le_of_ble_eq_true rfl) dX5_isSheet_6) 9 rfl (fun r1 M2 hw => ?_)
  refine q_if_eq hC 28 dX5_isSheet_9 (by decide) 12 rfl hw (fun hw => ?_) (fun hw => ?_)
  · exact XX.sub [] rfl (B28 M2 hw)
  · refine q_iload_n hC dX5_isSheet_12 1 rfl 13 rfl ?_
    refine q_i2l hC dX5_isSheet_13 14 rfl ?_
    refine q_lconst (v := 0) hC dX5_isSheet_14 rfl 15 rfl ?_
    refine q_ldc2 (v := 2) hC (uX5_isSheet__o _ (List.mem_of_getElem? (l := owX5_isSheet) (i := 2) rfl)) dX5_isSheet_15 18 rfl ?_
    refine r_callI hC (go_T (As := [.long (v1.toInt64), .long 0, .long 2]) (rest := []) hC (ctX5_in (zl z) g M2 (v1.toInt64) 0 2 _ hw) 3 gX5_isSheet_X5_in rfl ⟨rfl, rfl⟩ hdT_X5_in ⟨Nat.le_of_ble_eq_true rfl, Nat.le_of_ble_eq_true rfl⟩ rfl rfl (Nat.le_of_ble_eq_true rfl) dX5_isSheet_18) 21 rfl (fun r3 M4 hw => ?_)
    refine q_if_eq hC 28 dX5_isSheet_21 (by decide) 24 rfl hw (fun hw => ?_) (fun hw => ?_)
    · exact XX.sub [] rfl (B28 M4 hw)
    · refine q_iconst (v := 1) hC dX5_isSheet_24 rfl 25 rfl ?_
      refine q_goto hC 29 dX5_isSheet_25 (by decide) ?_
      exact r_iret hR dX5_isSheet_29 ⟨nb_1, hw⟩
theorem hdT_X5_isSheet : yX5_isSheet.cls ≠ "java/lang/invoke/MethodHandle" ∧ yX5_isSheet.cls ≠ "java/lang/invoke/VarHandle" ∧ (parseMethodDescriptor yX5_isSheet.desc).map (fun d => d.parameters.length) = some 2 := by decide +kernel
theorem inX5_sheet_X5 : ∀ w ∈ u_ws RX5 TX5 26, w ∈ wsX5_sheet := uX5_sheet__wsX50
set_option maxRecDepth 100000 in
set_option maxHeartbeats 4000000 in
theorem ctX5_sheet (l : Launch) (g : GG) (M : MM) (v1 : Int32) (v2 : Int32) (v3 : Int32) (Q : Int32 → MM → Prop) (hF : ful5 g) (hw : wX5_sheet Q M v1 v2 v3) : MI g l yX5_sheet wsX5_sheet (rmOf 2 46) [.ref (gA g 52), .int v1, .int v2, .int v3] M Q := by
  refine mk_MI (cc := cX5_sheet) (maxL := 5) (by decide) rfl (Nat.le_of_ble_eq_true rfl) ?_
  intro z Qf hC hR
  show XX z g Qf 5 0 [(0, .ref (gA g 52)), (1, .int v1), (2, .int v2), (3, .int v3)] [] M
  have B40 : ∀ (n : Nat) (M : MM) (v4 : Int32) , wX5_sheet_40 Q v1 v2 v3 n M v4 → XX z g Qf 5 40 [(0, .ref (gA g 52)), (1, .int v1), (4, .int v4)] [] M := by
    intro n
    induction n with
    | zero =>
      intro M v4 hw
      exact hw.elim
    | succ n ih =>
      intro M v4 hw
      refine q_iload hC dX5_sheet_40 2 rfl 42 rfl ?_
      refine q_bipush (v := 40) hC dX5_sheet_42 (by decide) 44 rfl ?_
      refine q_icmp_ge hC 66 dX5_sheet_44 (by decide) 47 rfl hw (fun hw => ?_) (fun hw => ?_)
      · refine q_iconst (v := 1) hC dX5_sheet_66 rfl 67 rfl ?_
        exact r_iret hR dX5_sheet_67 hw
      · refine q_aload_n hC dX5_sheet_47 0 rfl 48 rfl ?_
        refine q_getR (C := RX5) (T := TX5) (N := 26) (ci := 5) hC inX5_sheet_X5 (obF52 hF) rfl 24 (by decide) (uX5_sheet__o _ (List.mem_of_getElem? (l := owX5_sheet) (i := 3) rfl)) rfl 66 (fun _ => rfl) dX5_sheet_48 51 rfl ?_
        refine q_bipush (v := 40) hC dX5_sheet_51 (by decide) 53 rfl ?_
        refine q_iload_n hC dX5_sheet_53 1 rfl 54 rfl ?_
        refine q_imul hC dX5_sheet_54 55 rfl ?_
        refine q_iload hC dX5_sheet_55 2 rfl 57 rfl ?_
        refine q_iadd hC dX5_sheet_57 58 rfl ?_
        refine q_iconst (v := 0) hC dX5_sheet_58 rfl 59 rfl ?_
        obtain ⟨hin, hw⟩ := hw
        refine q_iast hC (arF66 hF) hin dX5_sheet_59 60 rfl (fun M5 eM5 => ?_)
        have hw := hw M5 eM5
        refine q_iinc (v := v4 + 1) (L' := [(4, .int (v4 + 1)), (0, .ref (gA g 52)), (1, .int v1)]) hC dX5_sheet_60 2 rfl rfl (by decide) rfl 63 rfl ?_
        refine q_goto hC 40 dX5_sheet_63 (by decide) ?_
        exact XX.sub [1, 2, 0] rfl (ih M5 (v4 + 1) hw)
  refine q_iload_n hC dX5_sheet_0 1 rfl 1 rfl ?_
  refine q_iload_n hC dX5_sheet_1 2 rfl 2 rfl ?_
  refine r_callI hC (go_T (As := [.int v1, .int v2]) (rest := []) hC (ctX5_isSheet (zl z) g M v1 v2 _ hw) 2 gX5_sheet_X5_isSheet rfl ⟨rfl, rfl⟩ hdT_X5_isSheet ⟨Nat.le_of_ble_eq_true rfl, Nat.le_of_ble_eq_true rfl⟩ rfl rfl (Nat.le_of_ble_eq_true rfl) dX5_sheet_2) 5 rfl (fun r1 M2 hw => ?_)
  refine q_if_eq hC 14 dX5_sheet_5 (by decide) 8 rfl hw (fun hw => ?_) (fun hw => ?_)
  · refine q_iconst (v := (-1)) hC dX5_sheet_14 rfl 15 rfl ?_
    exact r_iret hR dX5_sheet_15 hw
  · refine q_iload_n hC dX5_sheet_8 3 rfl 9 rfl ?_
    refine q_bipush (v := 40) hC dX5_sheet_9 (by decide) 11 rfl ?_
    refine q_icmp_le hC 16 dX5_sheet_11 (by decide) 14 rfl hw (fun hw => ?_) (fun hw => ?_)
    · refine q_iload_n hC dX5_sheet_16 3 rfl 17 rfl ?_
      refine q_if_ge hC 23 dX5_sheet_17 (by decide) 20 rfl hw (fun hw => ?_) (fun hw => ?_)
      · refine q_aload_n hC dX5_sheet_23 0 rfl 24 rfl ?_
        refine q_getR (C := RX5) (T := TX5) (N := 26) (ci := 5) hC inX5_sheet_X5 (obF52 hF) rfl 22 (by decide) (uX5_sheet__o _ (List.mem_of_getElem? (l := owX5_sheet) (i := 1) rfl)) rfl 64 (fun _ => rfl) dX5_sheet_24 27 rfl ?_
        refine q_iload_n hC dX5_sheet_27 1 rfl 28 rfl ?_
        refine q_iload_n hC dX5_sheet_28 2 rfl 29 rfl ?_
        obtain ⟨hin, hw⟩ := hw
        refine q_iast hC (arF64 hF) hin dX5_sheet_29 30 rfl (fun M3 eM3 => ?_)
        have hw := hw M3 eM3
        refine q_aload_n hC dX5_sheet_30 0 rfl 31 rfl ?_
        refine q_getR (C := RX5) (T := TX5) (N := 26) (ci := 5) hC inX5_sheet_X5 (obF52 hF) rfl 23 (by decide) (uX5_sheet__o _ (List.mem_of_getElem? (l := owX5_sheet) (i := 2) rfl)) rfl 65 (fun _ => rfl) dX5_sheet_31 34 rfl ?_
        refine q_iload_n hC dX5_sheet_34 1 rfl 35 rfl ?_
        refine q_iload_n hC dX5_sheet_35 3 rfl 36 rfl ?_
        obtain ⟨hin, hw⟩ := hw
        refine q_iast hC (arF65 hF) hin dX5_sheet_36 37 rfl (fun M4 eM4 => ?_)
        have hw := hw M4 eM4
        refine q_iconst (v := 0) hC dX5_sheet_37 rfl 38 rfl ?_
        refine q_istore (L' := [(4, .int 0), (0, .ref (gA g 52)), (1, .int v1), (2, .int v2), (3, .int v3)]) hC dX5_sheet_38 (by decide) rfl 40 rfl ?_
        obtain ⟨n0, hw⟩ := hw
        exact XX.sub [1, 2, 0] rfl (B40 n0 M4 0 hw)
      · refine q_bipush (v := (-14)) hC dX5_sheet_20 (by decide) 22 rfl ?_
        exact r_iret hR dX5_sheet_22 hw
    · refine q_iconst (v := (-1)) hC dX5_sheet_14 rfl 15 rfl ?_
      exact r_iret hR dX5_sheet_15 hw
theorem inX5_lay_X5 : ∀ w ∈ u_ws RX5 TX5 26, w ∈ wsX5_lay := uX5_lay__wsX50
set_option maxRecDepth 100000 in
set_option maxHeartbeats 4000000 in
theorem ctX5_lay (l : Launch) (g : GG) (M : MM) (v1 : Int32) (v2 : Int32) (v3 : Int32) (Q : Int32 → MM → Prop) (hF : ful5 g) (hw : wX5_lay Q M v1 v2 v3) : MI g l yX5_lay wsX5_lay (rmOf 2 46) [.ref (gA g 52), .int v1, .int v2, .int v3] M Q := by
  refine mk_MI (cc := cX5_lay) (maxL := 4) (by decide) rfl (Nat.le_of_ble_eq_true rfl) ?_
  intro z Qf hC hR
  show XX z g Qf 4 0 [(0, .ref (gA g 52)), (1, .int v1), (2, .int v2), (3, .int v3)] [] M
  have B85 : ∀ (M : MM) (p0 : Int32) (p1 : Int32), wX5_lay_85 Q v1 v2 v3 M p0 p1 → XX z g Qf 4 85 [] [.int p0, .int p1, .ref (gA g 66)] M := by
    intro M p0 p1 hw
    obtain ⟨hin, hw⟩ := hw
    refine q_iast hC (arF66 hF) hin dX5_lay_85 86 rfl (fun M5 eM5 => ?_)
    have hw := hw M5 eM5
    refine q_iconst (v := 1) hC dX5_lay_86 rfl 87 rfl ?_
    exact r_iret hR dX5_lay_87 hw
  refine q_iload_n hC dX5_lay_0 1 rfl 1 rfl ?_
  refine q_iconst (v := 0) hC dX5_lay_1 rfl 2 rfl ?_
  refine r_callI hC (go_T (As := [.int v1, .int 0]) (rest := []) hC (ctX5_isSheet (zl z) g M v1 0 _ hw) 2 gX5_lay_X5_isSheet rfl ⟨rfl, rfl⟩ hdT_X5_isSheet ⟨Nat.le_of_ble_eq_true rfl, Nat.le_of_ble_eq_true rfl⟩ rfl rfl (Nat.le_of_ble_eq_true rfl) dX5_lay_2) 5 rfl (fun r1 M2 hw => ?_)
  refine q_if_ne hC 10 dX5_lay_5 (by decide) 8 rfl hw (fun hw => ?_) (fun hw => ?_)
  · refine q_aload_n hC dX5_lay_10 0 rfl 11 rfl ?_
    refine q_getR (C := RX5) (T := TX5) (N := 26) (ci := 5) hC inX5_lay_X5 (obF52 hF) rfl 22 (by decide) (uX5_lay__o _ (List.mem_of_getElem? (l := owX5_lay) (i := 1) rfl)) rfl 64 (fun _ => rfl) dX5_lay_11 14 rfl ?_
    refine q_iload_n hC dX5_lay_14 1 rfl 15 rfl ?_
    obtain ⟨hin, hw⟩ := hw
    refine q_iald hC (arF64 hF) hin dX5_lay_15 16 rfl ?_
    refine q_bipush (v := (-4)) hC dX5_lay_16 (by decide) 18 rfl ?_
    refine q_icmp_ne hC 24 dX5_lay_18 (by decide) 21 rfl hw (fun hw => ?_) (fun hw => ?_)
    · refine q_iload_n hC dX5_lay_24 2 rfl 25 rfl ?_
      refine q_i2l hC dX5_lay_25 26 rfl ?_
      refine q_lconst (v := 0) hC dX5_lay_26 rfl 27 rfl ?_
      refine q_aload_n hC dX5_lay_27 0 rfl 28 rfl ?_
      refine q_getR (C := RX5) (T := TX5) (N := 26) (ci := 5) hC inX5_lay_X5 (obF52 hF) rfl 23 (by decide) (uX5_lay__o _ (List.mem_of_getElem? (l := owX5_lay) (i := 2) rfl)) rfl 65 (fun _ => rfl) dX5_lay_28 31 rfl ?_
      refine q_iload_n hC dX5_lay_31 1 rfl 32 rfl ?_
      obtain ⟨hin, hw⟩ := hw
      refine q_iald hC (arF65 hF) hin dX5_lay_32 33 rfl ?_
      refine q_iconst (v := 1) hC dX5_lay_33 rfl 34 rfl ?_
      refine q_isub hC dX5_lay_34 35 rfl ?_
      refine q_i2l hC dX5_lay_35 36 rfl ?_
      refine r_callI hC (go_T (As := [.long (v2.toInt64), .long 0, .long (((M2 65 v1.toNatClampNeg) - (1 : Int32)).toInt64)]) (rest := []) hC (ctX5_in (zl z) g M2 (v2.toInt64) 0 (((M2 65 v1.toNatClampNeg) - (1 : Int32)).toInt64) _ hw) 3 gX5_lay_X5_in rfl ⟨rfl, rfl⟩ hdT_X5_in ⟨Nat.le_of_ble_eq_true rfl, Nat.le_of_ble_eq_true rfl⟩ rfl rfl (Nat.le_of_ble_eq_true rfl) dX5_lay_36) 39 rfl (fun r3 M4 hw => ?_)
      refine q_if_ne hC 45 dX5_lay_39 (by decide) 42 rfl hw (fun hw => ?_) (fun hw => ?_)
      · refine q_aload_n hC dX5_lay_45 0 rfl 46 rfl ?_
        refine q_getR (C := RX5) (T := TX5) (N := 26) (ci := 5) hC inX5_lay_X5 (obF52 hF) rfl 24 (by decide) (uX5_lay__o _ (List.mem_of_getElem? (l := owX5_lay) (i := 3) rfl)) rfl 66 (fun _ => rfl) dX5_lay_46 49 rfl ?_
        refine q_bipush (v := 40) hC dX5_lay_49 (by decide) 51 rfl ?_
        refine q_iload_n hC dX5_lay_51 1 rfl 52 rfl ?_
        refine q_imul hC dX5_lay_52 53 rfl ?_
        refine q_iload_n hC dX5_lay_53 2 rfl 54 rfl ?_
        refine q_iadd hC dX5_lay_54 55 rfl ?_
        refine q_aload_n hC dX5_lay_55 0 rfl 56 rfl ?_
        refine q_getR (C := RX5) (T := TX5) (N := 26) (ci := 5) hC inX5_lay_X5 (obF52 hF) rfl 22 (by decide) (uX5_lay__o _ (List.mem_of_getElem? (l := owX5_lay) (i := 1) rfl)) rfl 64 (fun _ => rfl) dX5_lay_56 59 rfl ?_
        refine q_iload_n hC dX5_lay_59 1 rfl 60 rfl ?_
        obtain ⟨hin, hw⟩ := hw
        refine q_iald hC (arF64 hF) hin dX5_lay_60 61 rfl ?_
        refine q_if_ne hC 69 dX5_lay_61 (by decide) 64 rfl hw (fun hw => ?_) (fun hw => ?_)
        · refine q_aload_n hC dX5_lay_69 0 rfl 70 rfl ?_
          refine q_getR (C := RX5) (T := TX5) (N := 26) (ci := 5) hC inX5_lay_X5 (obF52 hF) rfl 22 (by decide) (uX5_lay__o _ (List.mem_of_getElem? (l := owX5_lay) (i := 1) rfl)) rfl 64 (fun _ => rfl) dX5_lay_70 73 rfl ?_
          refine q_iload_n hC dX5_lay_73 1 rfl 74 rfl ?_
          obtain ⟨hin, hw⟩ := hw
          refine q_iald hC (arF64 hF) hin dX5_lay_74 75 rfl ?_
          refine q_iconst (v := 1) hC dX5_lay_75 rfl 76 rfl ?_
          refine q_icmp_ne hC 84 dX5_lay_76 (by decide) 79 rfl hw (fun hw => ?_) (fun hw => ?_)
          · refine q_iload_n hC dX5_lay_84 3 rfl 85 rfl ?_
            exact XX.sub [] rfl (B85 M4 v3 (((40 : Int32) * v1) + v2) hw)
          · refine q_iload_n hC dX5_lay_79 3 rfl 80 rfl ?_
            refine q_i2s hC dX5_lay_80 81 rfl ?_
            refine q_goto hC 85 dX5_lay_81 (by decide) ?_
            exact XX.sub [] rfl (B85 M4 (v3.toInt16.toInt32) (((40 : Int32) * v1) + v2) hw)
        · refine q_iload_n hC dX5_lay_64 3 rfl 65 rfl ?_
          refine q_i2b hC dX5_lay_65 66 rfl ?_
          refine q_goto hC 85 dX5_lay_66 (by decide) ?_
          exact XX.sub [] rfl (B85 M4 (v3.toInt8.toInt32) (((40 : Int32) * v1) + v2) hw)
      · refine q_bipush (v := (-12)) hC dX5_lay_42 (by decide) 44 rfl ?_
        exact r_iret hR dX5_lay_44 hw
    · refine q_bipush (v := (-11)) hC dX5_lay_21 (by decide) 23 rfl ?_
      exact r_iret hR dX5_lay_23 hw
  · refine q_iconst (v := (-1)) hC dX5_lay_8 rfl 9 rfl ?_
    exact r_iret hR dX5_lay_9 hw
theorem hdV_X5_type : yX5_type.cls = RX5 ∧ yX5_type.cls ≠ "java/lang/invoke/MethodHandle" ∧ yX5_type.cls ≠ "java/lang/invoke/VarHandle" ∧ (parseMethodDescriptor yX5_type.desc).map (fun d => d.parameters.length) = some 1 := by decide +kernel
theorem inX5_read_X5 : ∀ w ∈ u_ws RX5 TX5 26, w ∈ wsX5_read := uX5_read__wsX50
set_option maxRecDepth 100000 in
set_option maxHeartbeats 4000000 in
theorem ctX5_read (l : Launch) (g : GG) (M : MM) (v1 : Int32) (v2 : Int32) (v3 : Int32) (v4 : Int32) (Q : Int32 → MM → Prop) (hF : ful5 g) (hw : wX5_read Q M v1 v2 v3 v4) : MI g l yX5_read wsX5_read (rmOf 2 46) [.ref (gA g 52), .int v1, .int v2, .int v3, .int v4] M Q := by
  refine mk_MI (cc := cX5_read) (maxL := 10) (by decide) rfl (Nat.le_of_ble_eq_true rfl) ?_
  intro z Qf hC hR
  show XX z g Qf 10 0 [(0, .ref (gA g 52)), (1, .int v1), (2, .int v2), (3, .int v3), (4, .int v4)] [] M
  have B181 : ∀ (n : Nat) (M : MM) (v6 : Int32) (v7 : Int32) , wX5_read_181 Q v1 v2 v3 v4 n M v6 v7 → XX z g Qf 10 181 [(0, .ref (gA g 52)), (1, .int v1), (3, .int v3), (6, .int v6), (7, .int v7)] [] M := by
    intro n
    induction n with
    | zero =>
      intro M v6 v7 hw
      exact hw.elim
    | succ n ih =>
      intro M v6 v7 hw
      refine q_iload hC dX5_read_181 4 rfl 183 rfl ?_
      refine q_iload hC dX5_read_183 3 rfl 185 rfl ?_
      refine q_icmp_ge hC 213 dX5_read_185 (by decide) 188 rfl hw (fun hw => ?_) (fun hw => ?_)
      · refine q_iload hC dX5_read_213 3 rfl 215 rfl ?_
        exact r_iret hR dX5_read_215 hw
      · refine q_aload_n hC dX5_read_188 0 rfl 189 rfl ?_
        refine q_aload_n hC dX5_read_189 0 rfl 190 rfl ?_
        refine q_getR (C := RX5) (T := TX5) (N := 26) (ci := 5) hC inX5_read_X5 (obF52 hF) rfl 24 (by decide) (uX5_read__o _ (List.mem_of_getElem? (l := owX5_read) (i := 4) rfl)) rfl 66 (fun _ => rfl) dX5_read_190 193 rfl ?_
        refine q_bipush (v := 40) hC dX5_read_193 (by decide) 195 rfl ?_
        refine q_iload_n hC dX5_read_195 1 rfl 196 rfl ?_
        refine q_imul hC dX5_read_196 197 rfl ?_
        refine q_iload_n hC dX5_read_197 2 rfl 198 rfl ?_
        refine q_iadd hC dX5_read_198 199 rfl ?_
        refine q_iload hC dX5_read_199 4 rfl 201 rfl ?_
        refine q_iadd hC dX5_read_201 202 rfl ?_
        obtain ⟨hin, hw⟩ := hw
        refine q_iald hC (arF66 hF) hin dX5_read_202 203 rfl ?_
        refine r_callI hC (go_V (q := (RX5, TX5, 26)) (As := [.int (M 66 ((((40 : Int32) * v1) + v3) + v7).toNatClampNeg)]) (rest := []) hC (ctX5_type (zl z) g M (M 66 ((((40 : Int32) * v1) + v3) + v7).toNatClampNeg) _ hF hw) 1 gX5_read_X5_type rfl ⟨rfl, rfl⟩ hdV_X5_type ⟨Nat.le_of_ble_eq_true rfl, Nat.le_of_ble_eq_true rfl⟩ (obF52 hF) rfl rfl rfl (Nat.le_of_ble_eq_true rfl) dX5_read_203) 206 rfl (fun r9 M10 hw => ?_)
        refine q_pop hC dX5_read_206 rfl 207 rfl ?_
        refine q_iinc (v := v7 + 1) (L' := [(7, .int (v7 + 1)), (0, .ref (gA g 52)), (1, .int v1), (3, .int v3), (6, .int v6)]) hC dX5_read_207 4 rfl rfl (by decide) rfl 210 rfl ?_
        refine q_goto hC 181 dX5_read_210 (by decide) ?_
        exact XX.sub [1, 2, 3, 4, 0] rfl (ih M10 v6 (v7 + 1) hw)
  have B172 : ∀ (M : MM) (v5 : Int32) (v6 : Int32), wX5_read_172 Q v1 v2 v3 v4 M v5 v6 → XX z g Qf 10 172 [(0, .ref (gA g 52)), (1, .int v1), (3, .int v3), (5, .int v5), (6, .int v6)] [] M := by
    intro M v5 v6 hw
    refine q_aload_n hC dX5_read_172 0 rfl 173 rfl ?_
    refine q_iload hC dX5_read_173 3 rfl 175 rfl ?_
    refine q_putI (C := RX5) (T := TX5) (N := 26) (ci := 5) hC inX5_read_X5 tyX5 tyX5_ok nmX5 (obF52 hF) rfl 25 (by decide) (uX5_read__o _ (List.mem_of_getElem? (l := owX5_read) (i := 5) rfl)) rfl rfl rfl (fun _ => Nat.le_of_ble_eq_true rfl) (fun _ => rfl) dX5_read_175 178 rfl (fun M8 eM8 => ?_)
    have hw := hw M8 eM8
    refine q_iconst (v := 0) hC dX5_read_178 rfl 179 rfl ?_
    refine q_istore (L' := [(7, .int 0), (0, .ref (gA g 52)), (1, .int v1), (3, .int v3), (5, .int v5), (6, .int v6)]) hC dX5_read_179 (by decide) rfl 181 rfl ?_
    obtain ⟨n0, hw⟩ := hw
    exact XX.sub [1, 2, 3, 5, 0] rfl (B181 n0 M8 v6 0 hw)
  have B166 : ∀ (K32 : MM → Int32 → Int32 → Int32 → Prop) (hK32 : ∀ (M : MM) (v5 : Int32) (v6 : Int32) (v7 : Int32) , K32 M v5 v6 v7 → XX z g Qf 10 32 [(0, .ref (gA g 52)), (1, .int v1), (2, .int v2), (3, .int v3), (4, .int v4), (5, .int v5), (6, .int v6), (7, .int v7)] [] M) (M : MM) (v5 : Int32) (v6 : Int32) (v7 : Int32), wX5_read_166 Q K32 v1 v2 v3 v4 M v5 v6 v7 → XX z g Qf 10 166 [(0, .ref (gA g 52)), (1, .int v1), (2, .int v2), (3, .int v3), (4, .int v4), (5, .int v5), (6, .int v6), (7, .int v7)] [] M := by
    intro K32 hK32 M v5 v6 v7 hw
    refine q_iinc (v := v7 + 1) (L' := [(7, .int (v7 + 1)), (0, .ref (gA g 52)), (1, .int v1), (2, .int v2), (3, .int v3), (4, .int v4), (5, .int v5), (6, .int v6)]) hC dX5_read_166 7 rfl rfl (by decide) rfl 169 rfl ?_
    refine q_goto hC 32 dX5_read_169 (by decide) ?_
    exact XX.sub [1, 2, 3, 4, 5, 6, 7, 0] rfl (hK32 M v5 v6 (v7 + 1) hw)
  have B106 : ∀ (K32 : MM → Int32 → Int32 → Int32 → Prop) (hK32 : ∀ (M : MM) (v5 : Int32) (v6 : Int32) (v7 : Int32) , K32 M v5 v6 v7 → XX z g Qf 10 32 [(0, .ref (gA g 52)), (1, .int v1), (2, .int v2), (3, .int v3), (4, .int v4), (5, .int v5), (6, .int v6), (7, .int v7)] [] M) (M : MM) (v6 : Int32) (v7 : Int32) (p0 : Int32), wX5_read_106 Q K32 v1 v2 v3 v4 M v6 v7 p0 → XX z g Qf 10 106 [(0, .ref (gA g 52)), (1, .int v1), (2, .int v2), (3, .int v3), (4, .int v4), (6, .int v6), (7, .int v7)] [.int p0] M := by
    intro K32 hK32 M v6 v7 p0 hw
    refine q_istore (L' := [(5, .int p0), (0, .ref (gA g 52)), (1, .int v1), (2, .int v2), (3, .int v3), (4, .int v4), (6, .int v6), (7, .int v7)]) hC dX5_read_106 (by decide) rfl 108 rfl ?_
    refine q_iload hC dX5_read_108 0 rfl 110 rfl ?_
    refine q_if_ne hC 166 dX5_read_110 (by decide) 113 rfl hw (fun hw => ?_) (fun hw => ?_)
    · exact XX.sub [1, 2, 3, 4, 5, 0, 6, 7] rfl (B166 _ hK32 M p0 v6 v7 hw)
    · refine q_aload_n hC dX5_read_113 1 rfl 114 rfl ?_
      refine q_getR (C := RX5) (T := TX5) (N := 26) (ci := 5) hC inX5_read_X5 (obF52 hF) rfl 24 (by decide) (uX5_read__o _ (List.mem_of_getElem? (l := owX5_read) (i := 4) rfl)) rfl 66 (fun _ => rfl) dX5_read_114 117 rfl ?_
      refine q_bipush (v := 40) hC dX5_read_117 (by decide) 119 rfl ?_
      refine q_iload_n hC dX5_read_119 2 rfl 120 rfl ?_
      refine q_imul hC dX5_read_120 121 rfl ?_
      refine q_iload_n hC dX5_read_121 4 rfl 122 rfl ?_
      refine q_iadd hC dX5_read_122 123 rfl ?_
      refine q_iload hC dX5_read_123 7 rfl 125 rfl ?_
      refine q_iadd hC dX5_read_125 126 rfl ?_
      obtain ⟨hin, hw⟩ := hw
      refine q_iald hC (arF66 hF) hin dX5_read_126 127 rfl ?_
      refine q_i2l hC dX5_read_127 128 rfl ?_
      refine q_lconst (v := 0) hC dX5_read_128 rfl 129 rfl ?_
      refine q_ldc2 (v := 255) hC (uX5_read__X5_type _ (List.mem_of_getElem? (l := owX5_type) (i := 1) rfl)) dX5_read_129 132 rfl ?_
      refine r_callI hC (go_T (As := [.long ((M 66 ((((40 : Int32) * v1) + v3) + v7).toNatClampNeg).toInt64), .long 0, .long 255]) (rest := []) hC (ctX5_in (zl z) g M ((M 66 ((((40 : Int32) * v1) + v3) + v7).toNatClampNeg).toInt64) 0 255 _ hw) 3 gX5_read_X5_in rfl ⟨rfl, rfl⟩ hdT_X5_in ⟨Nat.le_of_ble_eq_true rfl, Nat.le_of_ble_eq_true rfl⟩ rfl rfl (Nat.le_of_ble_eq_true rfl) dX5_read_132) 135 rfl (fun r6 M7 hw => ?_)
      refine q_if_ne hC 144 dX5_read_135 (by decide) 138 rfl hw (fun hw => ?_) (fun hw => ?_)
      · refine q_aload_n hC dX5_read_144 1 rfl 145 rfl ?_
        refine q_getR (C := RX5) (T := TX5) (N := 26) (ci := 5) hC inX5_read_X5 (obF52 hF) rfl 0 (by decide) (uX5_read__X5_type _ (List.mem_of_getElem? (l := owX5_type) (i := 2) rfl)) rfl 53 (fun _ => rfl) dX5_read_145 148 rfl ?_
        refine q_sipush (v := 327) hC dX5_read_148 (by decide) 151 rfl ?_
        refine q_ialdL hC (arF53 hF) 327 (by decide +kernel) (by decide +kernel) dX5_read_151 152 rfl ?_
        refine q_iload hC dX5_read_152 6 rfl 154 rfl ?_
        refine q_iadd hC dX5_read_154 155 rfl ?_
        refine q_bipush (v := 12) hC dX5_read_155 (by decide) 157 rfl ?_
        refine q_icmp_ne hC 163 dX5_read_157 (by decide) 160 rfl hw (fun hw => ?_) (fun hw => ?_)
        · refine q_iinc (v := v6 + 1) (L' := [(6, .int (v6 + 1)), (5, .int p0), (0, .ref (gA g 52)), (1, .int v1), (2, .int v2), (3, .int v3), (4, .int v4), (7, .int v7)]) hC dX5_read_163 6 rfl rfl (by decide) rfl 166 rfl ?_
          exact XX.sub [2, 3, 4, 5, 6, 1, 0, 7] rfl (B166 _ hK32 M7 p0 (v6 + 1) v7 hw)
        · refine q_bipush (v := (-3)) hC dX5_read_160 (by decide) 162 rfl ?_
          exact r_iret hR dX5_read_162 hw
      · refine q_bipush (v := (-20)) hC dX5_read_138 (by decide) 140 rfl ?_
        refine q_iload hC dX5_read_140 7 rfl 142 rfl ?_
        refine q_isub hC dX5_read_142 143 rfl ?_
        exact r_iret hR dX5_read_143 hw
  have B101 : ∀ (K32 : MM → Int32 → Int32 → Int32 → Prop) (hK32 : ∀ (M : MM) (v5 : Int32) (v6 : Int32) (v7 : Int32) , K32 M v5 v6 v7 → XX z g Qf 10 32 [(0, .ref (gA g 52)), (1, .int v1), (2, .int v2), (3, .int v3), (4, .int v4), (5, .int v5), (6, .int v6), (7, .int v7)] [] M) (M : MM) (v6 : Int32) (v7 : Int32), wX5_read_101 Q K32 v1 v2 v3 v4 M v6 v7 → XX z g Qf 10 101 [(0, .ref (gA g 52)), (1, .int v1), (2, .int v2), (3, .int v3), (4, .int v4), (6, .int v6), (7, .int v7)] [] M := by
    intro K32 hK32 M v6 v7 hw
    refine q_iconst (v := 2) hC dX5_read_101 rfl 102 rfl ?_
    refine q_goto hC 106 dX5_read_102 (by decide) ?_
    exact XX.sub [0, 1, 2, 3, 4, 5, 6] rfl (B106 _ hK32 M v6 v7 2 hw)
  have B32 : ∀ (n : Nat) (M : MM) (v5 : Int32) (v6 : Int32) (v7 : Int32) , wX5_read_32 Q v1 v2 v3 v4 n M v5 v6 v7 → XX z g Qf 10 32 [(0, .ref (gA g 52)), (1, .int v1), (2, .int v2), (3, .int v3), (4, .int v4), (5, .int v5), (6, .int v6), (7, .int v7)] [] M := by
    intro n
    induction n with
    | zero =>
      intro M v5 v6 v7 hw
      exact hw.elim
    | succ n ih =>
      intro M v5 v6 v7 hw
      refine q_iload hC dX5_read_32 7 rfl 34 rfl ?_
      refine q_iload hC dX5_read_34 4 rfl 36 rfl ?_
      refine q_icmp_ge hC 172 dX5_read_36 (by decide) 39 rfl hw (fun hw => ?_) (fun hw => ?_)
      · exact XX.sub [0, 1, 3, 5, 6] rfl (B172 M v5 v6 hw)
      · refine q_iload hC dX5_read_39 5 rfl 41 rfl ?_
        refine q_if_ne hC 172 dX5_read_41 (by decide) 44 rfl hw (fun hw => ?_) (fun hw => ?_)
        · exact XX.sub [0, 1, 3, 5, 6] rfl (B172 M v5 v6 hw)
        · refine q_iload_n hC dX5_read_44 3 rfl 45 rfl ?_
          refine q_i2l hC dX5_read_45 46 rfl ?_
          refine q_iload hC dX5_read_46 7 rfl 48 rfl ?_
          refine q_i2l hC dX5_read_48 49 rfl ?_
          refine q_ladd hC dX5_read_49 50 rfl ?_
          refine q_nameJ (fun x5 ex5 => ?_)
          have hw := hw x5 ex5
          refine q_lstore (L' := [(8, .long x5), (0, .ref (gA g 52)), (1, .int v1), (2, .int v2), (3, .int v3), (4, .int v4), (5, .int v5), (6, .int v6), (7, .int v7)]) hC dX5_read_50 (by decide) rfl 52 rfl ?_
          refine q_aload_n hC dX5_read_52 1 rfl 53 rfl ?_
          refine q_getR (C := RX5) (T := TX5) (N := 26) (ci := 5) hC inX5_read_X5 (obF52 hF) rfl 22 (by decide) (uX5_read__o _ (List.mem_of_getElem? (l := owX5_read) (i := 2) rfl)) rfl 64 (fun _ => rfl) dX5_read_53 56 rfl ?_
          refine q_iload_n hC dX5_read_56 2 rfl 57 rfl ?_
          obtain ⟨hin, hw⟩ := hw
          refine q_iald hC (arF64 hF) hin dX5_read_57 58 rfl ?_
          refine q_bipush (v := (-4)) hC dX5_read_58 (by decide) 60 rfl ?_
          refine q_icmp_ne hC 67 dX5_read_60 (by decide) 63 rfl hw (fun hw => ?_) (fun hw => ?_)
          · refine q_aload_n hC dX5_read_67 1 rfl 68 rfl ?_
            refine q_getR (C := RX5) (T := TX5) (N := 26) (ci := 5) hC inX5_read_X5 (obF52 hF) rfl 22 (by decide) (uX5_read__o _ (List.mem_of_getElem? (l := owX5_read) (i := 2) rfl)) rfl 64 (fun _ => rfl) dX5_read_68 71 rfl ?_
            refine q_iload_n hC dX5_read_71 2 rfl 72 rfl ?_
            obtain ⟨hin, hw⟩ := hw
            refine q_iald hC (arF64 hF) hin dX5_read_72 73 rfl ?_
            refine q_iload_n hC dX5_read_73 3 rfl 74 rfl ?_
            refine q_icmp_eq hC 81 dX5_read_74 (by decide) 77 rfl hw (fun hw => ?_) (fun hw => ?_)
            · refine q_lload hC dX5_read_81 0 rfl 83 rfl ?_
              refine q_lconst (v := 0) hC dX5_read_83 rfl 84 rfl ?_
              refine q_lcmp hC dX5_read_84 85 rfl ?_
              refine q_if_lt hC 101 dX5_read_85 (by decide) 88 rfl hw (fun hw => ?_) (fun hw => ?_)
              · exact XX.sub [1, 2, 3, 4, 5, 7, 8] rfl (B101 _ (fun M v5 v6 v7 hw => ih M v5 v6 v7 hw) M v6 v7 hw)
              · refine q_lload hC dX5_read_88 0 rfl 90 rfl ?_
                refine q_aload_n hC dX5_read_90 1 rfl 91 rfl ?_
                refine q_getR (C := RX5) (T := TX5) (N := 26) (ci := 5) hC inX5_read_X5 (obF52 hF) rfl 23 (by decide) (uX5_read__o _ (List.mem_of_getElem? (l := owX5_read) (i := 3) rfl)) rfl 65 (fun _ => rfl) dX5_read_91 94 rfl ?_
                refine q_iload_n hC dX5_read_94 2 rfl 95 rfl ?_
                obtain ⟨hin, hw⟩ := hw
                refine q_iald hC (arF65 hF) hin dX5_read_95 96 rfl ?_
                refine q_i2l hC dX5_read_96 97 rfl ?_
                refine q_lcmp hC dX5_read_97 98 rfl ?_
                refine q_if_lt hC 105 dX5_read_98 (by decide) 101 rfl hw (fun hw => ?_) (fun hw => ?_)
                · refine q_iconst (v := 0) hC dX5_read_105 rfl 106 rfl ?_
                  exact XX.sub [1, 2, 3, 4, 5, 7, 8] rfl (B106 _ (fun M v5 v6 v7 hw => ih M v5 v6 v7 hw) M v6 v7 0 hw)
                · exact XX.sub [1, 2, 3, 4, 5, 7, 8] rfl (B101 _ (fun M v5 v6 v7 hw => ih M v5 v6 v7 hw) M v6 v7 hw)
            · refine q_iconst (v := 3) hC dX5_read_77 rfl 78 rfl ?_
              refine q_goto hC 106 dX5_read_78 (by decide) ?_
              exact XX.sub [1, 2, 3, 4, 5, 7, 8] rfl (B106 _ (fun M v5 v6 v7 hw => ih M v5 v6 v7 hw) M v6 v7 3 hw)
          · refine q_iconst (v := 1) hC dX5_read_63 rfl 64 rfl ?_
            refine q_goto hC 106 dX5_read_64 (by decide) ?_
            exact XX.sub [1, 2, 3, 4, 5, 7, 8] rfl (B106 _ (fun M v5 v6 v7 hw => ih M v5 v6 v7 hw) M v6 v7 1 hw)
  refine q_iload_n hC dX5_read_0 1 rfl 1 rfl ?_
  refine q_iload_n hC dX5_read_1 2 rfl 2 rfl ?_
  refine r_callI hC (go_T (As := [.int v1, .int v2]) (rest := []) hC (ctX5_isSheet (zl z) g M v1 v2 _ hw) 2 gX5_read_X5_isSheet rfl ⟨rfl, rfl⟩ hdT_X5_isSheet ⟨Nat.le_of_ble_eq_true rfl, Nat.le_of_ble_eq_true rfl⟩ rfl rfl (Nat.le_of_ble_eq_true rfl) dX5_read_2) 5 rfl (fun r1 M2 hw => ?_)
  refine q_if_eq hC 21 dX5_read_5 (by decide) 8 rfl hw (fun hw => ?_) (fun hw => ?_)
  · refine q_iconst (v := (-1)) hC dX5_read_21 rfl 22 rfl ?_
    exact r_iret hR dX5_read_22 hw
  · refine q_iload hC dX5_read_8 4 rfl 10 rfl ?_
    refine q_i2l hC dX5_read_10 11 rfl ?_
    refine q_lconst (v := 0) hC dX5_read_11 rfl 12 rfl ?_
    refine q_ldc2 (v := 12) hC (uX5_read__o _ (List.mem_of_getElem? (l := owX5_read) (i := 1) rfl)) dX5_read_12 15 rfl ?_
    refine r_callI hC (go_T (As := [.long (v4.toInt64), .long 0, .long 12]) (rest := []) hC (ctX5_in (zl z) g M2 (v4.toInt64) 0 12 _ hw) 3 gX5_read_X5_in rfl ⟨rfl, rfl⟩ hdT_X5_in ⟨Nat.le_of_ble_eq_true rfl, Nat.le_of_ble_eq_true rfl⟩ rfl rfl (Nat.le_of_ble_eq_true rfl) dX5_read_15) 18 rfl (fun r3 M4 hw => ?_)
    refine q_if_ne hC 23 dX5_read_18 (by decide) 21 rfl hw (fun hw => ?_) (fun hw => ?_)
    · refine q_iconst (v := 0) hC dX5_read_23 rfl 24 rfl ?_
      refine q_istore (L' := [(5, .int 0), (0, .ref (gA g 52)), (1, .int v1), (2, .int v2), (3, .int v3), (4, .int v4)]) hC dX5_read_24 (by decide) rfl 26 rfl ?_
      refine q_iconst (v := 0) hC dX5_read_26 rfl 27 rfl ?_
      refine q_istore (L' := [(6, .int 0), (5, .int 0), (0, .ref (gA g 52)), (1, .int v1), (2, .int v2), (3, .int v3), (4, .int v4)]) hC dX5_read_27 (by decide) rfl 29 rfl ?_
      refine q_iconst (v := 0) hC dX5_read_29 rfl 30 rfl ?_
      refine q_istore (L' := [(7, .int 0), (6, .int 0), (5, .int 0), (0, .ref (gA g 52)), (1, .int v1), (2, .int v2), (3, .int v3), (4, .int v4)]) hC dX5_read_30 (by decide) rfl 32 rfl ?_
      obtain ⟨n0, hw⟩ := hw
      exact XX.sub [3, 4, 5, 6, 7, 2, 1, 0] rfl (B32 n0 M4 0 0 0 hw)
    · refine q_iconst (v := (-1)) hC dX5_read_21 rfl 22 rfl ?_
      exact r_iret hR dX5_read_22 hw
