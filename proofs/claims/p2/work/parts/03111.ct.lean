theorem inX4_sheetNumbered_X4 : ∀ w ∈ u_ws RX4 TX4 12, w ∈ wsX4_sheetNumbered := uX4_sheetNumbered__wsX40
set_option maxRecDepth 100000 in
set_option maxHeartbeats 4000000 in
theorem ctX4_sheetNumbered (l : Launch) (g : GG) (M : MM) (v1 : Int32) (Q : Nat → MM → Prop) (hF : full g) (hw : wX4_sheetNumbered Q M v1) : MR g l yX4_sheetNumbered wsX4_sheetNumbered (rmOf 0 0) [.ref (gA g 0), .int v1] M Q := by
  refine mk_MR (cc := cX4_sheetNumbered) (maxL := 2) (by decide) rfl (Nat.le_of_ble_eq_true rfl) ?_
  intro z Qf hC hR
  show XX z g Qf 2 0 [(0, .ref (gA g 0)), (1, .int v1)] [] M
  refine q_iload_n hC dX4_sheetNumbered_0 1 rfl 1 rfl ?_
  by_cases c0 : v1 = 0
  · have hw := hw.1 c0
    refine q_tabIn hC 28 dX4_sheetNumbered_1 (by rw [c0]; decide) (by rw [c0]; decide) (by rw [c0]; rfl) (by decide) ?_
    refine q_aload_n hC dX4_sheetNumbered_28 0 rfl 29 rfl ?_
    refine q_getR (C := RX4) (T := TX4) (N := 12) (ci := 4) hC inX4_sheetNumbered_X4 (obF0 hF) rfl 5 (by decide) (uX4_sheetNumbered__o _ (List.mem_of_getElem? (l := owX4_sheetNumbered) (i := 1) rfl)) rfl 44 (fun _ => rfl) dX4_sheetNumbered_29 32 rfl ?_
    exact r_aret hR dX4_sheetNumbered_32 hw
  · have hw := hw.2 c0
    by_cases c1 : v1 = 1
    · have hw := hw.1 c1
      refine q_tabIn hC 33 dX4_sheetNumbered_1 (by rw [c1]; decide) (by rw [c1]; decide) (by rw [c1]; rfl) (by decide) ?_
      refine q_aload_n hC dX4_sheetNumbered_33 0 rfl 34 rfl ?_
      refine q_getR (C := RX4) (T := TX4) (N := 12) (ci := 4) hC inX4_sheetNumbered_X4 (obF0 hF) rfl 6 (by decide) (uX4_sheetNumbered__o _ (List.mem_of_getElem? (l := owX4_sheetNumbered) (i := 2) rfl)) rfl 46 (fun _ => rfl) dX4_sheetNumbered_34 37 rfl ?_
      exact r_aret hR dX4_sheetNumbered_37 hw
    · have hw := hw.2 c1
      by_cases c2 : v1 = 2
      · have hw := hw.1 c2
        refine q_tabIn hC 38 dX4_sheetNumbered_1 (by rw [c2]; decide) (by rw [c2]; decide) (by rw [c2]; rfl) (by decide) ?_
        refine q_aload_n hC dX4_sheetNumbered_38 0 rfl 39 rfl ?_
        refine q_getR (C := RX4) (T := TX4) (N := 12) (ci := 4) hC inX4_sheetNumbered_X4 (obF0 hF) rfl 7 (by decide) (uX4_sheetNumbered__o _ (List.mem_of_getElem? (l := owX4_sheetNumbered) (i := 3) rfl)) rfl 48 (fun _ => rfl) dX4_sheetNumbered_39 42 rfl ?_
        exact r_aret hR dX4_sheetNumbered_42 hw
      · have hw := hw.2 c2
        refine q_tabOut hC 43 dX4_sheetNumbered_1 (tab_out2 c0 c1 c2) (by decide) ?_
        refine q_aload_n hC dX4_sheetNumbered_43 0 rfl 44 rfl ?_
        refine q_getR (C := RX4) (T := TX4) (N := 12) (ci := 4) hC inX4_sheetNumbered_X4 (obF0 hF) rfl 8 (by decide) (uX4_sheetNumbered__o _ (List.mem_of_getElem? (l := owX4_sheetNumbered) (i := 4) rfl)) rfl 50 (fun _ => rfl) dX4_sheetNumbered_44 47 rfl ?_
        exact r_aret hR dX4_sheetNumbered_47 hw
theorem hdV_X4_sheetNumbered : yX4_sheetNumbered.cls = RX4 ∧ yX4_sheetNumbered.cls ≠ "java/lang/invoke/MethodHandle" ∧ yX4_sheetNumbered.cls ≠ "java/lang/invoke/VarHandle" ∧ (parseMethodDescriptor yX4_sheetNumbered.desc).map (fun d => d.parameters.length) = some 1 := by decide +kernel
theorem hdV_X1_makeNew : yX1_makeNew.cls = RX1 ∧ yX1_makeNew.cls ≠ "java/lang/invoke/MethodHandle" ∧ yX1_makeNew.cls ≠ "java/lang/invoke/VarHandle" ∧ (parseMethodDescriptor yX1_makeNew.desc).map (fun d => d.parameters.length) = some 2 := by decide +kernel
set_option maxRecDepth 100000 in
set_option maxHeartbeats 4000000 in
theorem ctX4_sheet (l : Launch) (g : GG) (M : MM) (v1 : Int32) (v2 : Int32) (v3 : Int32) (Q : Int32 → MM → Prop) (hF : full g) (hw : wX4_sheet Q M v1 v2 v3) : MI g l yX4_sheet wsX4_sheet (rmOf 2 45) [.ref (gA g 0), .int v1, .int v2, .int v3] M Q := by
  refine mk_MI (cc := cX4_sheet) (maxL := 4) (by decide) rfl (Nat.le_of_ble_eq_true rfl) ?_
  intro z Qf hC hR
  show XX z g Qf 4 0 [(0, .ref (gA g 0)), (1, .int v1), (2, .int v2), (3, .int v3)] [] M
  refine q_iload_n hC dX4_sheet_0 1 rfl 1 rfl ?_
  refine q_iconst (v := 0) hC dX4_sheet_1 rfl 2 rfl ?_
  refine q_iconst (v := 3) hC dX4_sheet_2 rfl 3 rfl ?_
  refine r_callI hC (go_T (As := [.int v1, .int 0, .int 3]) (rest := []) hC (ctX4_isBetween (zl z) g M v1 0 3 _ hw) 3 gX4_sheet_X4_isBetween rfl ⟨rfl, rfl⟩ hdT_X4_isBetween ⟨Nat.le_of_ble_eq_true rfl, Nat.le_of_ble_eq_true rfl⟩ rfl rfl (Nat.le_of_ble_eq_true rfl) dX4_sheet_3) 6 rfl (fun r1 M2 hw => ?_)
  refine q_if_eq hC 24 dX4_sheet_6 (by decide) 9 rfl hw (fun hw => ?_) (fun hw => ?_)
  · refine q_iconst (v := (-1)) hC dX4_sheet_24 rfl 25 rfl ?_
    exact r_iret hR dX4_sheet_25 hw
  · refine q_iload_n hC dX4_sheet_9 2 rfl 10 rfl ?_
    refine q_iconst (v := 0) hC dX4_sheet_10 rfl 11 rfl ?_
    refine q_iconst (v := 2) hC dX4_sheet_11 rfl 12 rfl ?_
    refine r_callI hC (go_T (As := [.int v2, .int 0, .int 2]) (rest := []) hC (ctX4_isBetween (zl z) g M2 v2 0 2 _ hw) 3 gX4_sheet_X4_isBetween rfl ⟨rfl, rfl⟩ hdT_X4_isBetween ⟨Nat.le_of_ble_eq_true rfl, Nat.le_of_ble_eq_true rfl⟩ rfl rfl (Nat.le_of_ble_eq_true rfl) dX4_sheet_12) 15 rfl (fun r3 M4 hw => ?_)
    refine q_if_eq hC 24 dX4_sheet_15 (by decide) 18 rfl hw (fun hw => ?_) (fun hw => ?_)
    · refine q_iconst (v := (-1)) hC dX4_sheet_24 rfl 25 rfl ?_
      exact r_iret hR dX4_sheet_25 hw
    · refine q_iload_n hC dX4_sheet_18 3 rfl 19 rfl ?_
      refine q_bipush (v := 40) hC dX4_sheet_19 (by decide) 21 rfl ?_
      refine q_icmp_le hC 26 dX4_sheet_21 (by decide) 24 rfl hw (fun hw => ?_) (fun hw => ?_)
      · refine q_iload_n hC dX4_sheet_26 3 rfl 27 rfl ?_
        refine q_if_ge hC 33 dX4_sheet_27 (by decide) 30 rfl hw (fun hw => ?_) (fun hw => ?_)
        · refine q_aload_n hC dX4_sheet_33 0 rfl 34 rfl ?_
          refine q_iload_n hC dX4_sheet_34 1 rfl 35 rfl ?_
          refine r_callR hC (go_V (q := (RX4, TX4, 12)) (As := [.int v1]) (rest := []) hC (ctX4_sheetNumbered (zl z) g M4 v1 _ hF hw) 1 gX4_sheet_X4_sheetNumbered rfl ⟨rfl, rfl⟩ hdV_X4_sheetNumbered ⟨Nat.le_of_ble_eq_true rfl, Nat.le_of_ble_eq_true rfl⟩ (obF0 hF) rfl rfl rfl (Nat.le_of_ble_eq_true rfl) dX4_sheet_35) 38 rfl (fun r5 M6 hw => ?_)
          obtain ⟨hq, hw⟩ := hw
          have hr5 := hF.sh hq
          refine q_iload_n hC dX4_sheet_38 2 rfl 39 rfl ?_
          refine q_iload_n hC dX4_sheet_39 3 rfl 40 rfl ?_
          refine r_callV hC (go_V (q := (RX1, TX1, 3)) (As := [.int v2, .int v3]) (rest := []) hC (ctX1_makeNew (zl z) g M6 r5 v2 v3 _ hr5 hw) 2 gX4_sheet_X1_makeNew rfl ⟨rfl, rfl⟩ hdV_X1_makeNew ⟨Nat.le_of_ble_eq_true rfl, Nat.le_of_ble_eq_true rfl⟩ hr5.ob rfl rfl rfl (Nat.le_of_ble_eq_true rfl) dX4_sheet_40) 43 rfl (fun M7 hw => ?_)
          refine q_iconst (v := 1) hC dX4_sheet_43 rfl 44 rfl ?_
          exact r_iret hR dX4_sheet_44 hw
        · refine q_bipush (v := (-14)) hC dX4_sheet_30 (by decide) 32 rfl ?_
          exact r_iret hR dX4_sheet_32 hw
      · refine q_iconst (v := (-1)) hC dX4_sheet_24 rfl 25 rfl ?_
        exact r_iret hR dX4_sheet_25 hw
theorem hdV_X1_faultOf : yX1_faultOf.cls = RX1 ∧ yX1_faultOf.cls ≠ "java/lang/invoke/MethodHandle" ∧ yX1_faultOf.cls ≠ "java/lang/invoke/VarHandle" ∧ (parseMethodDescriptor yX1_faultOf.desc).map (fun d => d.parameters.length) = some 2 := by decide +kernel
theorem hdV_X1_put : yX1_put.cls = RX1 ∧ yX1_put.cls ≠ "java/lang/invoke/MethodHandle" ∧ yX1_put.cls ≠ "java/lang/invoke/VarHandle" ∧ (parseMethodDescriptor yX1_put.desc).map (fun d => d.parameters.length) = some 2 := by decide +kernel
theorem inX4_lay_X1 : ∀ w ∈ u_ws RX1 TX1 3, w ∈ wsX4_lay := uX4_lay__wsX10
set_option maxRecDepth 100000 in
set_option maxHeartbeats 4000000 in
theorem ctX4_lay (l : Launch) (g : GG) (M : MM) (v1 : Int32) (v2 : Int32) (v3 : Int32) (Q : Int32 → MM → Prop) (hF : full g) (hw : wX4_lay Q M v1 v2 v3) : MI g l yX4_lay wsX4_lay (rmOf 2 45) [.ref (gA g 0), .int v1, .int v2, .int v3] M Q := by
  refine mk_MI (cc := cX4_lay) (maxL := 6) (by decide) rfl (Nat.le_of_ble_eq_true rfl) ?_
  intro z Qf hC hR
  show XX z g Qf 6 0 [(0, .ref (gA g 0)), (1, .int v1), (2, .int v2), (3, .int v3)] [] M
  refine q_iload_n hC dX4_lay_0 1 rfl 1 rfl ?_
  refine q_iconst (v := 0) hC dX4_lay_1 rfl 2 rfl ?_
  refine q_iconst (v := 3) hC dX4_lay_2 rfl 3 rfl ?_
  refine r_callI hC (go_T (As := [.int v1, .int 0, .int 3]) (rest := []) hC (ctX4_isBetween (zl z) g M v1 0 3 _ hw) 3 gX4_lay_X4_isBetween rfl ⟨rfl, rfl⟩ hdT_X4_isBetween ⟨Nat.le_of_ble_eq_true rfl, Nat.le_of_ble_eq_true rfl⟩ rfl rfl (Nat.le_of_ble_eq_true rfl) dX4_lay_3) 6 rfl (fun r1 M2 hw => ?_)
  refine q_if_ne hC 11 dX4_lay_6 (by decide) 9 rfl hw (fun hw => ?_) (fun hw => ?_)
  · refine q_aload_n hC dX4_lay_11 0 rfl 12 rfl ?_
    refine q_iload_n hC dX4_lay_12 1 rfl 13 rfl ?_
    refine r_callR hC (go_V (q := (RX4, TX4, 12)) (As := [.int v1]) (rest := []) hC (ctX4_sheetNumbered (zl z) g M2 v1 _ hF hw) 1 gX4_lay_X4_sheetNumbered rfl ⟨rfl, rfl⟩ hdV_X4_sheetNumbered ⟨Nat.le_of_ble_eq_true rfl, Nat.le_of_ble_eq_true rfl⟩ (obF0 hF) rfl rfl rfl (Nat.le_of_ble_eq_true rfl) dX4_lay_13) 16 rfl (fun r3 M4 hw => ?_)
    obtain ⟨hq, hw⟩ := hw
    have hr3 := hF.sh hq
    refine q_astore (L' := [(4, .ref (gA g r3)), (0, .ref (gA g 0)), (1, .int v1), (2, .int v2), (3, .int v3)]) hC dX4_lay_16 (by decide) rfl 18 rfl ?_
    refine q_aload hC dX4_lay_18 0 rfl 20 rfl ?_
    refine q_aload hC dX4_lay_20 0 rfl 22 rfl ?_
    refine q_getI (C := RX1) (T := TX1) (N := 3) (ci := 1) hC inX4_lay_X1 hr3.ob rfl 1 (by decide) (uX4_lay__o _ (List.mem_of_getElem? (l := owX4_lay) (i := 1) rfl)) rfl (fun _ => rfl) dX4_lay_22 25 rfl ?_
    refine q_iload_n hC dX4_lay_25 3 rfl 26 rfl ?_
    refine r_callI hC (go_V (q := (RX1, TX1, 3)) (As := [.int (M4 r3 1), .int v2]) (rest := []) hC (ctX1_faultOf (zl z) g M4 r3 (M4 r3 1) v2 _ hr3 hw) 2 gX4_lay_X1_faultOf rfl ⟨rfl, rfl⟩ hdV_X1_faultOf ⟨Nat.le_of_ble_eq_true rfl, Nat.le_of_ble_eq_true rfl⟩ hr3.ob rfl rfl rfl (Nat.le_of_ble_eq_true rfl) dX4_lay_26) 29 rfl (fun r5 M6 hw => ?_)
    refine q_istore (L' := [(5, .int r5), (4, .ref (gA g r3)), (0, .ref (gA g 0)), (1, .int v1), (2, .int v2), (3, .int v3)]) hC dX4_lay_29 (by decide) rfl 31 rfl ?_
    refine q_iload hC dX4_lay_31 0 rfl 33 rfl ?_
    refine q_if_eq hC 42 dX4_lay_33 (by decide) 36 rfl hw (fun hw => ?_) (fun hw => ?_)
    · refine q_aload hC dX4_lay_42 1 rfl 44 rfl ?_
      refine q_iload_n hC dX4_lay_44 4 rfl 45 rfl ?_
      refine q_iload_n hC dX4_lay_45 5 rfl 46 rfl ?_
      refine r_callV hC (go_V (q := (RX1, TX1, 3)) (As := [.int v2, .int v3]) (rest := []) hC (ctX1_put (zl z) g M6 r3 v2 v3 _ hr3 hw) 2 gX4_lay_X1_put rfl ⟨rfl, rfl⟩ hdV_X1_put ⟨Nat.le_of_ble_eq_true rfl, Nat.le_of_ble_eq_true rfl⟩ hr3.ob rfl rfl rfl (Nat.le_of_ble_eq_true rfl) dX4_lay_46) 49 rfl (fun M7 hw => ?_)
      refine q_iconst (v := 1) hC dX4_lay_49 rfl 50 rfl ?_
      exact r_iret hR dX4_lay_50 hw
    · refine q_bipush (v := (-10)) hC dX4_lay_36 (by decide) 38 rfl ?_
      refine q_iload hC dX4_lay_38 0 rfl 40 rfl ?_
      refine q_isub hC dX4_lay_40 41 rfl ?_
      exact r_iret hR dX4_lay_41 hw
  · refine q_iconst (v := (-1)) hC dX4_lay_9 rfl 10 rfl ?_
    exact r_iret hR dX4_lay_10 hw
theorem hdV_X1_cellAt : yX1_cellAt.cls = RX1 ∧ yX1_cellAt.cls ≠ "java/lang/invoke/MethodHandle" ∧ yX1_cellAt.cls ≠ "java/lang/invoke/VarHandle" ∧ (parseMethodDescriptor yX1_cellAt.desc).map (fun d => d.parameters.length) = some 1 := by decide +kernel
theorem inX4_read_X2 : ∀ w ∈ u_ws RX2 TX2 14, w ∈ wsX4_read := uX4_read__wsX20
theorem inX4_read_X4 : ∀ w ∈ u_ws RX4 TX4 12, w ∈ wsX4_read := uX4_read__wsX40
set_option maxRecDepth 100000 in
set_option maxHeartbeats 4000000 in
theorem ctX4_read (l : Launch) (g : GG) (M : MM) (v1 : Int32) (v2 : Int32) (v3 : Int32) (v4 : Int32) (Q : Int32 → MM → Prop) (hF : full g) (hw : wX4_read Q M v1 v2 v3 v4) : MI g l yX4_read wsX4_read (rmOf 2 44) [.ref (gA g 0), .int v1, .int v2, .int v3, .int v4] M Q := by
  refine mk_MI (cc := cX4_read) (maxL := 11) (by decide) rfl (Nat.le_of_ble_eq_true rfl) ?_
  intro z Qf hC hR
  show XX z g Qf 11 0 [(0, .ref (gA g 0)), (1, .int v1), (2, .int v2), (3, .int v3), (4, .int v4)] [] M
  have B122 : ∀ (M : MM) (v6 : Int32) (v7 : Int32) (v10 : Int32), wX4_read_122 Q v1 v2 v3 v4 M v6 v7 v10 → XX z g Qf 11 122 [(0, .ref (gA g 0)), (6, .int v6), (7, .int v7), (10, .int v10)] [] M := by
    intro M v6 v7 v10 hw
    refine q_aload_n hC dX4_read_122 0 rfl 123 rfl ?_
    refine q_getR (C := RX4) (T := TX4) (N := 12) (ci := 4) hC inX4_read_X4 (obF0 hF) rfl 0 (by decide) (uX4_read__o _ (List.mem_of_getElem? (l := owX4_read) (i := 1) rfl)) rfl 1 (fun _ => rfl) dX4_read_123 126 rfl ?_
    refine q_iload hC dX4_read_126 1 rfl 128 rfl ?_
    refine q_putI (C := RX2) (T := TX2) (N := 14) (ci := 2) hC inX4_read_X2 tyX2 tyX2_ok nmX2 (hF.tp (b := 1) (Or.inl rfl)).ob rfl 11 (by decide) (uX4_read__o _ (List.mem_of_getElem? (l := owX4_read) (i := 2) rfl)) rfl rfl rfl (fun _ => Nat.le_of_ble_eq_true rfl) (fun _ => rfl) dX4_read_128 131 rfl (fun M19 eM19 => ?_)
    have hw := hw M19 eM19
    refine q_iload hC dX4_read_131 3 rfl 133 rfl ?_
    refine q_if_eq hC 141 dX4_read_133 (by decide) 136 rfl hw (fun hw => ?_) (fun hw => ?_)
    · refine q_bipush (v := (-20)) hC dX4_read_141 (by decide) 143 rfl ?_
      refine q_iload hC dX4_read_143 2 rfl 145 rfl ?_
      refine q_isub hC dX4_read_145 146 rfl ?_
      exact r_iret hR dX4_read_146 hw
    · refine q_bipush (v := (-3)) hC dX4_read_136 (by decide) 138 rfl ?_
      refine q_goto hC 146 dX4_read_138 (by decide) ?_
      exact r_iret hR dX4_read_146 hw
  have B50 : ∀ (n : Nat) (M : MM) (o5 : Nat) (v6 : Int32) (v7 : Int32) (ho5 : shl g o5), wX4_read_50 Q v1 v2 v3 v4 n M o5 v6 v7 → XX z g Qf 11 50 [(0, .ref (gA g 0)), (2, .int v2), (3, .int v3), (4, .int v4), (5, .ref (gA g o5)), (6, .int v6), (7, .int v7)] [] M := by
    intro n
    induction n with
    | zero =>
      intro M o5 v6 v7 ho5 hw
      exact hw.elim
    | succ n ih =>
      intro M o5 v6 v7 ho5 hw
      refine q_iload hC dX4_read_50 6 rfl 52 rfl ?_
      refine q_iload hC dX4_read_52 3 rfl 54 rfl ?_
      refine q_icmp_ge hC 163 dX4_read_54 (by decide) 57 rfl hw (fun hw => ?_) (fun hw => ?_)
      · refine q_aload_n hC dX4_read_163 0 rfl 164 rfl ?_
        refine q_iconst (v := 0) hC dX4_read_164 rfl 165 rfl ?_
        refine q_putI (C := RX4) (T := TX4) (N := 12) (ci := 4) hC inX4_read_X4 tyX4 tyX4_ok nmX4 (obF0 hF) rfl 10 (by decide) (uX4_read__o _ (List.mem_of_getElem? (l := owX4_read) (i := 3) rfl)) rfl rfl rfl (fun _ => Nat.le_of_ble_eq_true rfl) (fun _ => rfl) dX4_read_165 168 rfl (fun M9 eM9 => ?_)
        have hw := hw M9 eM9
        refine q_iload hC dX4_read_168 3 rfl 170 rfl ?_
        exact r_iret hR dX4_read_170 hw
      · refine q_aload hC dX4_read_57 4 rfl 59 rfl ?_
        refine q_iload_n hC dX4_read_59 1 rfl 60 rfl ?_
        refine q_iload_n hC dX4_read_60 2 rfl 61 rfl ?_
        refine q_iload hC dX4_read_61 6 rfl 63 rfl ?_
        refine q_iadd hC dX4_read_63 64 rfl ?_
        refine r_callI hC (go_V (q := (RX1, TX1, 3)) (As := [.int v2, .int (v3 + v7)]) (rest := []) hC (ctX1_faultOf (zl z) g M o5 v2 (v3 + v7) _ ho5 hw) 2 gX4_read_X1_faultOf rfl ⟨rfl, rfl⟩ hdV_X1_faultOf ⟨Nat.le_of_ble_eq_true rfl, Nat.le_of_ble_eq_true rfl⟩ ho5.ob rfl rfl rfl (Nat.le_of_ble_eq_true rfl) dX4_read_64) 67 rfl (fun r10 M11 hw => ?_)
        refine q_istore (L' := [(8, .int r10), (0, .ref (gA g 0)), (2, .int v2), (3, .int v3), (4, .int v4), (5, .ref (gA g o5)), (6, .int v6), (7, .int v7)]) hC dX4_read_67 (by decide) rfl 69 rfl ?_
        refine q_iload hC dX4_read_69 0 rfl 71 rfl ?_
        refine q_if_eq hC 83 dX4_read_71 (by decide) 74 rfl hw (fun hw => ?_) (fun hw => ?_)
        · refine q_aload hC dX4_read_83 5 rfl 85 rfl ?_
          refine q_iload_n hC dX4_read_85 3 rfl 86 rfl ?_
          refine q_iload hC dX4_read_86 7 rfl 88 rfl ?_
          refine q_iadd hC dX4_read_88 89 rfl ?_
          refine r_callI hC (go_V (q := (RX1, TX1, 3)) (As := [.int (v3 + v7)]) (rest := []) hC (ctX1_cellAt (zl z) g M11 o5 (v3 + v7) _ ho5 hw) 1 gX4_read_X1_cellAt rfl ⟨rfl, rfl⟩ hdV_X1_cellAt ⟨Nat.le_of_ble_eq_true rfl, Nat.le_of_ble_eq_true rfl⟩ ho5.ob rfl rfl rfl (Nat.le_of_ble_eq_true rfl) dX4_read_89) 92 rfl (fun r12 M13 hw => ?_)
          refine q_istore (L' := [(9, .int r12), (8, .int r10), (0, .ref (gA g 0)), (2, .int v2), (3, .int v3), (4, .int v4), (5, .ref (gA g o5)), (6, .int v6), (7, .int v7)]) hC dX4_read_92 (by decide) rfl 94 rfl ?_
          refine q_iload hC dX4_read_94 0 rfl 96 rfl ?_
          refine q_iconst (v := 0) hC dX4_read_96 rfl 97 rfl ?_
          refine q_sipush (v := 255) hC dX4_read_97 (by decide) 100 rfl ?_
          refine r_callI hC (go_T (As := [.int r12, .int 0, .int 255]) (rest := []) hC (ctX4_isBetween (zl z) g M13 r12 0 255 _ hw) 3 gX4_read_X4_isBetween rfl ⟨rfl, rfl⟩ hdT_X4_isBetween ⟨Nat.le_of_ble_eq_true rfl, Nat.le_of_ble_eq_true rfl⟩ rfl rfl (Nat.le_of_ble_eq_true rfl) dX4_read_100) 103 rfl (fun r14 M15 hw => ?_)
          refine q_istore (L' := [(10, .int r14), (9, .int r12), (8, .int r10), (0, .ref (gA g 0)), (2, .int v2), (3, .int v3), (4, .int v4), (5, .ref (gA g o5)), (6, .int v6), (7, .int v7)]) hC dX4_read_103 (by decide) rfl 105 rfl ?_
          refine q_iload hC dX4_read_105 0 rfl 107 rfl ?_
          refine q_if_eq hC 122 dX4_read_107 (by decide) 110 rfl hw (fun hw => ?_) (fun hw => ?_)
          · exact XX.sub [3, 8, 9, 0] rfl (B122 M15 v6 v7 r14 hw)
          · refine q_aload_n hC dX4_read_110 3 rfl 111 rfl ?_
            refine q_getR (C := RX4) (T := TX4) (N := 12) (ci := 4) hC inX4_read_X4 (obF0 hF) rfl 0 (by decide) (uX4_read__o _ (List.mem_of_getElem? (l := owX4_read) (i := 1) rfl)) rfl 1 (fun _ => rfl) dX4_read_111 114 rfl ?_
            refine q_getI (C := RX2) (T := TX2) (N := 14) (ci := 2) hC inX4_read_X2 (hF.tp (b := 1) (Or.inl rfl)).ob rfl 11 (by decide) (uX4_read__o _ (List.mem_of_getElem? (l := owX4_read) (i := 2) rfl)) rfl (fun _ => rfl) dX4_read_114 117 rfl ?_
            refine q_bipush (v := 12) hC dX4_read_117 (by decide) 119 rfl ?_
            refine q_icmp_lt hC 147 dX4_read_119 (by decide) 122 rfl hw (fun hw => ?_) (fun hw => ?_)
            · refine q_aload_n hC dX4_read_147 3 rfl 148 rfl ?_
              refine q_getR (C := RX4) (T := TX4) (N := 12) (ci := 4) hC inX4_read_X4 (obF0 hF) rfl 0 (by decide) (uX4_read__o _ (List.mem_of_getElem? (l := owX4_read) (i := 1) rfl)) rfl 1 (fun _ => rfl) dX4_read_148 151 rfl ?_
              refine q_iload hC dX4_read_151 1 rfl 153 rfl ?_
              refine r_callI hC (go_V (q := (RX2, TX2, 14)) (As := [.int r12]) (rest := []) hC (ctX2_typeOne (zl z) g M15 1 r12 _ (hF.tp (b := 1) (Or.inl rfl)) hw) 1 gX4_read_X2_typeOne rfl ⟨rfl, rfl⟩ hdV_X2_typeOne ⟨Nat.le_of_ble_eq_true rfl, Nat.le_of_ble_eq_true rfl⟩ (hF.tp (b := 1) (Or.inl rfl)).ob rfl rfl rfl (Nat.le_of_ble_eq_true rfl) dX4_read_153) 156 rfl (fun r16 M17 hw => ?_)
              refine q_pop hC dX4_read_156 rfl 157 rfl ?_
              refine q_iinc (v := v7 + 1) (L' := [(7, .int (v7 + 1)), (10, .int r14), (9, .int r12), (8, .int r10), (0, .ref (gA g 0)), (2, .int v2), (3, .int v3), (4, .int v4), (5, .ref (gA g o5)), (6, .int v6)]) hC dX4_read_157 9 rfl rfl (by decide) rfl 160 rfl ?_
              refine q_goto hC 50 dX4_read_160 (by decide) ?_
              exact XX.sub [4, 5, 6, 7, 8, 9, 0] rfl (ih M17 o5 v6 (v7 + 1) ho5 hw)
            · exact XX.sub [3, 8, 9, 0] rfl (B122 M15 v6 v7 r14 hw)
        · refine q_aload_n hC dX4_read_74 1 rfl 75 rfl ?_
          refine q_iload hC dX4_read_75 0 rfl 77 rfl ?_
          refine q_putI (C := RX4) (T := TX4) (N := 12) (ci := 4) hC inX4_read_X4 tyX4 tyX4_ok nmX4 (obF0 hF) rfl 10 (by decide) (uX4_read__o _ (List.mem_of_getElem? (l := owX4_read) (i := 3) rfl)) rfl rfl rfl (fun _ => Nat.le_of_ble_eq_true rfl) (fun _ => rfl) dX4_read_77 80 rfl (fun M18 eM18 => ?_)
          have hw := hw M18 eM18
          refine q_iload hC dX4_read_80 7 rfl 82 rfl ?_
          exact r_iret hR dX4_read_82 hw
  refine q_iload_n hC dX4_read_0 1 rfl 1 rfl ?_
  refine q_iconst (v := 0) hC dX4_read_1 rfl 2 rfl ?_
  refine q_iconst (v := 3) hC dX4_read_2 rfl 3 rfl ?_
  refine r_callI hC (go_T (As := [.int v1, .int 0, .int 3]) (rest := []) hC (ctX4_isBetween (zl z) g M v1 0 3 _ hw) 3 gX4_read_X4_isBetween rfl ⟨rfl, rfl⟩ hdT_X4_isBetween ⟨Nat.le_of_ble_eq_true rfl, Nat.le_of_ble_eq_true rfl⟩ rfl rfl (Nat.le_of_ble_eq_true rfl) dX4_read_3) 6 rfl (fun r1 M2 hw => ?_)
  refine q_if_eq hC 29 dX4_read_6 (by decide) 9 rfl hw (fun hw => ?_) (fun hw => ?_)
  · refine q_iconst (v := (-1)) hC dX4_read_29 rfl 30 rfl ?_
    exact r_iret hR dX4_read_30 hw
  · refine q_iload_n hC dX4_read_9 2 rfl 10 rfl ?_
    refine q_iconst (v := 0) hC dX4_read_10 rfl 11 rfl ?_
    refine q_iconst (v := 2) hC dX4_read_11 rfl 12 rfl ?_
    refine r_callI hC (go_T (As := [.int v2, .int 0, .int 2]) (rest := []) hC (ctX4_isBetween (zl z) g M2 v2 0 2 _ hw) 3 gX4_read_X4_isBetween rfl ⟨rfl, rfl⟩ hdT_X4_isBetween ⟨Nat.le_of_ble_eq_true rfl, Nat.le_of_ble_eq_true rfl⟩ rfl rfl (Nat.le_of_ble_eq_true rfl) dX4_read_12) 15 rfl (fun r3 M4 hw => ?_)
    refine q_if_eq hC 29 dX4_read_15 (by decide) 18 rfl hw (fun hw => ?_) (fun hw => ?_)
    · refine q_iconst (v := (-1)) hC dX4_read_29 rfl 30 rfl ?_
      exact r_iret hR dX4_read_30 hw
    · refine q_iload hC dX4_read_18 4 rfl 20 rfl ?_
      refine q_iconst (v := 0) hC dX4_read_20 rfl 21 rfl ?_
      refine q_bipush (v := 12) hC dX4_read_21 (by decide) 23 rfl ?_
      refine r_callI hC (go_T (As := [.int v4, .int 0, .int 12]) (rest := []) hC (ctX4_isBetween (zl z) g M4 v4 0 12 _ hw) 3 gX4_read_X4_isBetween rfl ⟨rfl, rfl⟩ hdT_X4_isBetween ⟨Nat.le_of_ble_eq_true rfl, Nat.le_of_ble_eq_true rfl⟩ rfl rfl (Nat.le_of_ble_eq_true rfl) dX4_read_23) 26 rfl (fun r5 M6 hw => ?_)
      refine q_if_ne hC 31 dX4_read_26 (by decide) 29 rfl hw (fun hw => ?_) (fun hw => ?_)
      · refine q_aload_n hC dX4_read_31 0 rfl 32 rfl ?_
        refine q_iload_n hC dX4_read_32 1 rfl 33 rfl ?_
        refine r_callR hC (go_V (q := (RX4, TX4, 12)) (As := [.int v1]) (rest := []) hC (ctX4_sheetNumbered (zl z) g M6 v1 _ hF hw) 1 gX4_read_X4_sheetNumbered rfl ⟨rfl, rfl⟩ hdV_X4_sheetNumbered ⟨Nat.le_of_ble_eq_true rfl, Nat.le_of_ble_eq_true rfl⟩ (obF0 hF) rfl rfl rfl (Nat.le_of_ble_eq_true rfl) dX4_read_33) 36 rfl (fun r7 M8 hw => ?_)
        obtain ⟨hq, hw⟩ := hw
        have hr7 := hF.sh hq
        refine q_astore (L' := [(5, .ref (gA g r7)), (0, .ref (gA g 0)), (1, .int v1), (2, .int v2), (3, .int v3), (4, .int v4)]) hC dX4_read_36 (by decide) rfl 38 rfl ?_
        refine q_aload_n hC dX4_read_38 1 rfl 39 rfl ?_
        refine q_getR (C := RX4) (T := TX4) (N := 12) (ci := 4) hC inX4_read_X4 (obF0 hF) rfl 0 (by decide) (uX4_read__o _ (List.mem_of_getElem? (l := owX4_read) (i := 1) rfl)) rfl 1 (fun _ => rfl) dX4_read_39 42 rfl ?_
        refine q_getI (C := RX2) (T := TX2) (N := 14) (ci := 2) hC inX4_read_X2 (hF.tp (b := 1) (Or.inl rfl)).ob rfl 11 (by decide) (uX4_read__o _ (List.mem_of_getElem? (l := owX4_read) (i := 2) rfl)) rfl (fun _ => rfl) dX4_read_42 45 rfl ?_
        refine q_istore (L' := [(6, .int (M8 1 11)), (5, .ref (gA g r7)), (0, .ref (gA g 0)), (1, .int v1), (2, .int v2), (3, .int v3), (4, .int v4)]) hC dX4_read_45 (by decide) rfl 47 rfl ?_
        refine q_iconst (v := 0) hC dX4_read_47 rfl 48 rfl ?_
        refine q_istore (L' := [(7, .int 0), (6, .int (M8 1 11)), (5, .ref (gA g r7)), (0, .ref (gA g 0)), (1, .int v1), (2, .int v2), (3, .int v3), (4, .int v4)]) hC dX4_read_48 (by decide) rfl 50 rfl ?_
        obtain ⟨n0, hw⟩ := hw
        exact XX.sub [3, 5, 6, 7, 2, 1, 0] rfl (B50 n0 M8 r7 (M8 1 11) 0 hr7 hw)
      · refine q_iconst (v := (-1)) hC dX4_read_29 rfl 30 rfl ?_
        exact r_iret hR dX4_read_30 hw
theorem inX4_torn_X4 : ∀ w ∈ u_ws RX4 TX4 12, w ∈ wsX4_torn := uX4_torn__wsX40
set_option maxRecDepth 100000 in
set_option maxHeartbeats 4000000 in
theorem ctX4_torn (l : Launch) (g : GG) (M : MM)  (Q : Int32 → MM → Prop) (hF : full g) (hw : wX4_torn Q M ) : MI g l yX4_torn wsX4_torn (rmOf 0 0) [.ref (gA g 0)] M Q := by
  refine mk_MI (cc := cX4_torn) (maxL := 1) (by decide) rfl (Nat.le_of_ble_eq_true rfl) ?_
  intro z Qf hC hR
  show XX z g Qf 1 0 [(0, .ref (gA g 0))] [] M
  refine q_aload_n hC dX4_torn_0 0 rfl 1 rfl ?_
  refine q_getI (C := RX4) (T := TX4) (N := 12) (ci := 4) hC inX4_torn_X4 (obF0 hF) rfl 10 (by decide) (uX4_torn__o _ (List.mem_of_getElem? (l := owX4_torn) (i := 1) rfl)) rfl (fun _ => rfl) dX4_torn_1 4 rfl ?_
  exact r_iret hR dX4_torn_4 hw
theorem hdV_X2_markCount : yX2_markCount.cls = RX2 ∧ yX2_markCount.cls ≠ "java/lang/invoke/MethodHandle" ∧ yX2_markCount.cls ≠ "java/lang/invoke/VarHandle" ∧ (parseMethodDescriptor yX2_markCount.desc).map (fun d => d.parameters.length) = some 0 := by decide +kernel
theorem hdV_X2_byteCount : yX2_byteCount.cls = RX2 ∧ yX2_byteCount.cls ≠ "java/lang/invoke/MethodHandle" ∧ yX2_byteCount.cls ≠ "java/lang/invoke/VarHandle" ∧ (parseMethodDescriptor yX2_byteCount.desc).map (fun d => d.parameters.length) = some 0 := by decide +kernel
theorem inX4_count_X1 : ∀ w ∈ u_ws RX1 TX1 3, w ∈ wsX4_count := uX4_count__wsX10
theorem inX4_count_X2 : ∀ w ∈ u_ws RX2 TX2 14, w ∈ wsX4_count := uX4_count__wsX20
theorem inX4_count_X3 : ∀ w ∈ u_ws RX3 TX3 10, w ∈ wsX4_count := uX4_count__wsX30
theorem inX4_count_X4 : ∀ w ∈ u_ws RX4 TX4 12, w ∈ wsX4_count := uX4_count__wsX40
set_option maxRecDepth 100000 in
set_option maxHeartbeats 4000000 in
theorem ctX4_count (l : Launch) (g : GG) (M : MM) (v1 : Int32) (Q : Int32 → MM → Prop) (hF : full g) (hw : wX4_count Q M v1) : MI g l yX4_count wsX4_count (rmOf 4 85) [.ref (gA g 0), .int v1] M Q := by
  refine mk_MI (cc := cX4_count) (maxL := 2) (by decide) rfl (Nat.le_of_ble_eq_true rfl) ?_
  intro z Qf hC hR
  show XX z g Qf 2 0 [(0, .ref (gA g 0)), (1, .int v1)] [] M
  refine q_iload_n hC dX4_count_0 1 rfl 1 rfl ?_
  by_cases c0 : v1 = 0
  · have hw := hw.1 c0
    refine q_tabIn hC 44 dX4_count_1 (by rw [c0]; decide) (by rw [c0]; decide) (by rw [c0]; rfl) (by decide) ?_
    refine q_aload_n hC dX4_count_44 0 rfl 45 rfl ?_
    refine q_getR (C := RX4) (T := TX4) (N := 12) (ci := 4) hC inX4_count_X4 (obF0 hF) rfl 0 (by decide) (uX4_count__o _ (List.mem_of_getElem? (l := owX4_count) (i := 1) rfl)) rfl 1 (fun _ => rfl) dX4_count_45 48 rfl ?_
    refine q_getI (C := RX2) (T := TX2) (N := 14) (ci := 2) hC inX4_count_X2 (hF.tp (b := 1) (Or.inl rfl)).ob rfl 8 (by decide) (uX4_count__o _ (List.mem_of_getElem? (l := owX4_count) (i := 2) rfl)) rfl (fun _ => rfl) dX4_count_48 51 rfl ?_
    exact r_iret hR dX4_count_51 hw
  · have hw := hw.2 c0
    by_cases c1 : v1 = 1
    · have hw := hw.1 c1
      refine q_tabIn hC 52 dX4_count_1 (by rw [c1]; decide) (by rw [c1]; decide) (by rw [c1]; rfl) (by decide) ?_
      refine q_aload_n hC dX4_count_52 0 rfl 53 rfl ?_
      refine q_getR (C := RX4) (T := TX4) (N := 12) (ci := 4) hC inX4_count_X4 (obF0 hF) rfl 0 (by decide) (uX4_count__o _ (List.mem_of_getElem? (l := owX4_count) (i := 1) rfl)) rfl 1 (fun _ => rfl) dX4_count_53 56 rfl ?_
      refine r_callI hC (go_V (q := (RX2, TX2, 14)) (As := []) (rest := []) hC (ctX2_markCount (zl z) g M 1 _ (hF.tp (b := 1) (Or.inl rfl)) hw) 0 gX4_count_X2_markCount rfl ⟨rfl, rfl⟩ hdV_X2_markCount ⟨Nat.le_of_ble_eq_true rfl, Nat.le_of_ble_eq_true rfl⟩ (hF.tp (b := 1) (Or.inl rfl)).ob rfl rfl rfl (Nat.le_of_ble_eq_true rfl) dX4_count_56) 59 rfl (fun r1 M2 hw => ?_)
      exact r_iret hR dX4_count_59 hw
    · have hw := hw.2 c1
      by_cases c2 : v1 = 2
      · have hw := hw.1 c2
        refine q_tabIn hC 60 dX4_count_1 (by rw [c2]; decide) (by rw [c2]; decide) (by rw [c2]; rfl) (by decide) ?_
        refine q_aload_n hC dX4_count_60 0 rfl 61 rfl ?_
        refine q_getR (C := RX4) (T := TX4) (N := 12) (ci := 4) hC inX4_count_X4 (obF0 hF) rfl 0 (by decide) (uX4_count__o _ (List.mem_of_getElem? (l := owX4_count) (i := 1) rfl)) rfl 1 (fun _ => rfl) dX4_count_61 64 rfl ?_
        refine r_callI hC (go_V (q := (RX2, TX2, 14)) (As := []) (rest := []) hC (ctX2_byteCount (zl z) g M 1 _ (hF.tp (b := 1) (Or.inl rfl)) hw) 0 gX4_count_X2_byteCount rfl ⟨rfl, rfl⟩ hdV_X2_byteCount ⟨Nat.le_of_ble_eq_true rfl, Nat.le_of_ble_eq_true rfl⟩ (hF.tp (b := 1) (Or.inl rfl)).ob rfl rfl rfl (Nat.le_of_ble_eq_true rfl) dX4_count_64) 67 rfl (fun r3 M4 hw => ?_)
        exact r_iret hR dX4_count_67 hw
      · have hw := hw.2 c2
        by_cases c3 : v1 = 3
        · have hw := hw.1 c3
          refine q_tabIn hC 68 dX4_count_1 (by rw [c3]; decide) (by rw [c3]; decide) (by rw [c3]; rfl) (by decide) ?_
          refine q_aload_n hC dX4_count_68 0 rfl 69 rfl ?_
          refine q_getR (C := RX4) (T := TX4) (N := 12) (ci := 4) hC inX4_count_X4 (obF0 hF) rfl 0 (by decide) (uX4_count__o _ (List.mem_of_getElem? (l := owX4_count) (i := 1) rfl)) rfl 1 (fun _ => rfl) dX4_count_69 72 rfl ?_
          refine q_getI (C := RX2) (T := TX2) (N := 14) (ci := 2) hC inX4_count_X2 (hF.tp (b := 1) (Or.inl rfl)).ob rfl 13 (by decide) (uX4_count__o _ (List.mem_of_getElem? (l := owX4_count) (i := 3) rfl)) rfl (fun _ => rfl) dX4_count_72 75 rfl ?_
          exact r_iret hR dX4_count_75 hw
        · have hw := hw.2 c3
          by_cases c4 : v1 = 4
          · have hw := hw.1 c4
            refine q_tabIn hC 76 dX4_count_1 (by rw [c4]; decide) (by rw [c4]; decide) (by rw [c4]; rfl) (by decide) ?_
            refine q_aload_n hC dX4_count_76 0 rfl 77 rfl ?_
            refine q_getI (C := RX4) (T := TX4) (N := 12) (ci := 4) hC inX4_count_X4 (obF0 hF) rfl 11 (by decide) (uX4_count__o _ (List.mem_of_getElem? (l := owX4_count) (i := 4) rfl)) rfl (fun _ => rfl) dX4_count_77 80 rfl ?_
            refine r_callI hC (go_T (As := [.int (M 0 11)]) (rest := []) hC (ctJ6_bitCount_0f7a4 (zl z) g M (M 0 11) _ hw) 1 gX4_count_J6_bitCount_0f7a4 rfl ⟨rfl, rfl⟩ hdT_J6_bitCount_0f7a4 ⟨Nat.le_of_ble_eq_true rfl, Nat.le_of_ble_eq_true rfl⟩ rfl rfl (Nat.le_of_ble_eq_true rfl) dX4_count_80) 83 rfl (fun r5 M6 hw => ?_)
            exact r_iret hR dX4_count_83 hw
          · have hw := hw.2 c4
            by_cases c5 : v1 = 5
            · have hw := hw.1 c5
              refine q_tabIn hC 84 dX4_count_1 (by rw [c5]; decide) (by rw [c5]; decide) (by rw [c5]; rfl) (by decide) ?_
              refine q_aload_n hC dX4_count_84 0 rfl 85 rfl ?_
              refine q_getR (C := RX4) (T := TX4) (N := 12) (ci := 4) hC inX4_count_X4 (obF0 hF) rfl 1 (by decide) (uX4_count__o _ (List.mem_of_getElem? (l := owX4_count) (i := 5) rfl)) rfl 37 (fun _ => rfl) dX4_count_85 88 rfl ?_
              refine q_getI (C := RX3) (T := TX3) (N := 10) (ci := 3) hC inX4_count_X3 (obF37 hF) rfl 2 (by decide) (uX4_count__o _ (List.mem_of_getElem? (l := owX4_count) (i := 6) rfl)) rfl (fun _ => rfl) dX4_count_88 91 rfl ?_
              exact r_iret hR dX4_count_91 hw
            · have hw := hw.2 c5
              by_cases c6 : v1 = 6
              · have hw := hw.1 c6
                refine q_tabIn hC 92 dX4_count_1 (by rw [c6]; decide) (by rw [c6]; decide) (by rw [c6]; rfl) (by decide) ?_
                refine q_aload_n hC dX4_count_92 0 rfl 93 rfl ?_
                refine q_getR (C := RX4) (T := TX4) (N := 12) (ci := 4) hC inX4_count_X4 (obF0 hF) rfl 5 (by decide) (uX4_count__o _ (List.mem_of_getElem? (l := owX4_count) (i := 7) rfl)) rfl 44 (fun _ => rfl) dX4_count_93 96 rfl ?_
                refine r_callI hC (go_V (q := (RX1, TX1, 3)) (As := []) (rest := []) hC (ctX1_isNothing (zl z) g M 44 _ (hF.sh (b := 44) (Or.inl rfl)) hw) 0 gX4_count_X1_isNothing rfl ⟨rfl, rfl⟩ hdV_X1_isNothing ⟨Nat.le_of_ble_eq_true rfl, Nat.le_of_ble_eq_true rfl⟩ (hF.sh (b := 44) (Or.inl rfl)).ob rfl rfl rfl (Nat.le_of_ble_eq_true rfl) dX4_count_96) 99 rfl (fun r7 M8 hw => ?_)
                refine q_if_eq hC 107 dX4_count_99 (by decide) 102 rfl hw (fun hw => ?_) (fun hw => ?_)
                · refine q_aload_n hC dX4_count_107 0 rfl 108 rfl ?_
                  refine q_getR (C := RX4) (T := TX4) (N := 12) (ci := 4) hC inX4_count_X4 (obF0 hF) rfl 5 (by decide) (uX4_count__o _ (List.mem_of_getElem? (l := owX4_count) (i := 7) rfl)) rfl 44 (fun _ => rfl) dX4_count_108 111 rfl ?_
                  refine q_getI (C := RX1) (T := TX1) (N := 3) (ci := 1) hC inX4_count_X1 (hF.sh (b := 44) (Or.inl rfl)).ob rfl 2 (by decide) (uX4_count__o _ (List.mem_of_getElem? (l := owX4_count) (i := 8) rfl)) rfl (fun _ => rfl) dX4_count_111 114 rfl ?_
                  exact r_iret hR dX4_count_114 hw
                · refine q_bipush (v := (-4)) hC dX4_count_102 (by decide) 104 rfl ?_
                  refine q_goto hC 114 dX4_count_104 (by decide) ?_
                  exact r_iret hR dX4_count_114 hw
              · have hw := hw.2 c6
                refine q_tabOut hC 115 dX4_count_1 (tab_out6 c0 c1 c2 c3 c4 c5 c6) (by decide) ?_
                refine q_iconst (v := (-1)) hC dX4_count_115 rfl 116 rfl ?_
                exact r_iret hR dX4_count_116 hw
