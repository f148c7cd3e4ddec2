theorem hdV_X2_roomFor : yX2_roomFor.cls = RX2 ∧ yX2_roomFor.cls ≠ "java/lang/invoke/MethodHandle" ∧ yX2_roomFor.cls ≠ "java/lang/invoke/VarHandle" ∧ (parseMethodDescriptor yX2_roomFor.desc).map (fun d => d.parameters.length) = some 1 := by decide +kernel
theorem inX4_holds_X4 : ∀ w ∈ u_ws RX4 TX4 12, w ∈ wsX4_holds := uX4_holds__wsX40
set_option maxRecDepth 100000 in
set_option maxHeartbeats 4000000 in
theorem ctX4_holds (l : Launch) (g : GG) (M : MM) (v1 : Int32) (Q : Int32 → MM → Prop) (hF : full g) (hw : wX4_holds Q M v1) : MI g l yX4_holds wsX4_holds (rmOf 3 64) [.ref (gA g 0), .int v1] M Q := by
  refine mk_MI (cc := cX4_holds) (maxL := 2) (by decide) rfl (Nat.le_of_ble_eq_true rfl) ?_
  intro z Qf hC hR
  show XX z g Qf 2 0 [(0, .ref (gA g 0)), (1, .int v1)] [] M
  refine q_iload_n hC dX4_holds_0 1 rfl 1 rfl ?_
  refine q_iconst (v := 1) hC dX4_holds_1 rfl 2 rfl ?_
  refine q_bipush (v := 99) hC dX4_holds_2 (by decide) 4 rfl ?_
  refine r_callI hC (go_T (As := [.int v1, .int 1, .int 99]) (rest := []) hC (ctX4_isBetween (zl z) g M v1 1 99 _ hw) 3 gX4_holds_X4_isBetween rfl ⟨rfl, rfl⟩ hdT_X4_isBetween ⟨Nat.le_of_ble_eq_true rfl, Nat.le_of_ble_eq_true rfl⟩ rfl rfl (Nat.le_of_ble_eq_true rfl) dX4_holds_4) 7 rfl (fun r1 M2 hw => ?_)
  refine q_if_eq hC 21 dX4_holds_7 (by decide) 10 rfl hw (fun hw => ?_) (fun hw => ?_)
  · refine q_iconst (v := (-1)) hC dX4_holds_21 rfl 22 rfl ?_
    exact r_iret hR dX4_holds_22 hw
  · refine q_aload_n hC dX4_holds_10 0 rfl 11 rfl ?_
    refine q_getR (C := RX4) (T := TX4) (N := 12) (ci := 4) hC inX4_holds_X4 (obF0 hF) rfl 0 (by decide) (uX4_holds__o _ (List.mem_of_getElem? (l := owX4_holds) (i := 1) rfl)) rfl 1 (fun _ => rfl) dX4_holds_11 14 rfl ?_
    refine q_iload_n hC dX4_holds_14 1 rfl 15 rfl ?_
    refine r_callI hC (go_V (q := (RX2, TX2, 14)) (As := [.int v1]) (rest := []) hC (ctX2_roomFor (zl z) g M2 1 v1 _ (hF.tp (b := 1) (Or.inl rfl)) hw) 1 gX4_holds_X2_roomFor rfl ⟨rfl, rfl⟩ hdV_X2_roomFor ⟨Nat.le_of_ble_eq_true rfl, Nat.le_of_ble_eq_true rfl⟩ (hF.tp (b := 1) (Or.inl rfl)).ob rfl rfl rfl (Nat.le_of_ble_eq_true rfl) dX4_holds_15) 18 rfl (fun r3 M4 hw => ?_)
    refine q_goto hC 22 dX4_holds_18 (by decide) ?_
    exact r_iret hR dX4_holds_22 hw
theorem inX4_most_X4 : ∀ w ∈ u_ws RX4 TX4 12, w ∈ wsX4_most := uX4_most__wsX40
set_option maxRecDepth 100000 in
set_option maxHeartbeats 4000000 in
theorem ctX4_most (l : Launch) (g : GG) (M : MM) (v1 : Int32) (Q : Int32 → MM → Prop) (hF : full g) (hw : wX4_most Q M v1) : MI g l yX4_most wsX4_most (rmOf 3 64) [.ref (gA g 0), .int v1] M Q := by
  refine mk_MI (cc := cX4_most) (maxL := 6) (by decide) rfl (Nat.le_of_ble_eq_true rfl) ?_
  intro z Qf hC hR
  show XX z g Qf 6 0 [(0, .ref (gA g 0)), (1, .int v1)] [] M
  have B58 : ∀ (K25 : MM → Int32 → Int32 → Int32 → Prop) (hK25 : ∀ (M : MM) (v2 : Int32) (v3 : Int32) (v4 : Int32) , K25 M v2 v3 v4 → XX z g Qf 6 25 [(0, .ref (gA g 0)), (1, .int v1), (2, .int v2), (3, .int v3), (4, .int v4)] [] M) (M : MM) (v2 : Int32) (v3 : Int32) (v4 : Int32), wX4_most_58 Q K25 v1 M v2 v3 v4 → XX z g Qf 6 58 [(0, .ref (gA g 0)), (1, .int v1), (2, .int v2), (3, .int v3), (4, .int v4)] [] M := by
    intro K25 hK25 M v2 v3 v4 hw
    refine q_iinc (v := v4 + 1) (L' := [(4, .int (v4 + 1)), (0, .ref (gA g 0)), (1, .int v1), (2, .int v2), (3, .int v3)]) hC dX4_most_58 4 rfl rfl (by decide) rfl 61 rfl ?_
    refine q_goto hC 25 dX4_most_61 (by decide) ?_
    exact XX.sub [1, 2, 3, 4, 0] rfl (hK25 M v2 v3 (v4 + 1) hw)
  have B25 : ∀ (n : Nat) (M : MM) (v2 : Int32) (v3 : Int32) (v4 : Int32) , wX4_most_25 Q v1 n M v2 v3 v4 → XX z g Qf 6 25 [(0, .ref (gA g 0)), (1, .int v1), (2, .int v2), (3, .int v3), (4, .int v4)] [] M := by
    intro n
    induction n with
    | zero =>
      intro M v2 v3 v4 hw
      exact hw.elim
    | succ n ih =>
      intro M v2 v3 v4 hw
      refine q_iload hC dX4_most_25 4 rfl 27 rfl ?_
      refine q_bipush (v := 99) hC dX4_most_27 (by decide) 29 rfl ?_
      refine q_icmp_gt hC 64 dX4_most_29 (by decide) 32 rfl hw (fun hw => ?_) (fun hw => ?_)
      · refine q_iload_n hC dX4_most_64 1 rfl 65 rfl ?_
        refine q_if_ne hC 72 dX4_most_65 (by decide) 68 rfl hw (fun hw => ?_) (fun hw => ?_)
        · refine q_iload_n hC dX4_most_72 3 rfl 73 rfl ?_
          exact r_iret hR dX4_most_73 hw
        · refine q_iload_n hC dX4_most_68 2 rfl 69 rfl ?_
          refine q_goto hC 73 dX4_most_69 (by decide) ?_
          exact r_iret hR dX4_most_73 hw
      · refine q_iload hC dX4_most_32 4 rfl 34 rfl ?_
        refine q_aload_n hC dX4_most_34 0 rfl 35 rfl ?_
        refine q_getR (C := RX4) (T := TX4) (N := 12) (ci := 4) hC inX4_most_X4 (obF0 hF) rfl 0 (by decide) (uX4_most__o _ (List.mem_of_getElem? (l := owX4_most) (i := 1) rfl)) rfl 1 (fun _ => rfl) dX4_most_35 38 rfl ?_
        refine q_iload hC dX4_most_38 4 rfl 40 rfl ?_
        refine r_callI hC (go_V (q := (RX2, TX2, 14)) (As := [.int v4]) (rest := [.int v4]) hC (ctX2_roomFor (zl z) g M 1 v4 _ (hF.tp (b := 1) (Or.inl rfl)) hw) 1 gX4_most_X2_roomFor rfl ⟨rfl, rfl⟩ hdV_X2_roomFor ⟨Nat.le_of_ble_eq_true rfl, Nat.le_of_ble_eq_true rfl⟩ (hF.tp (b := 1) (Or.inl rfl)).ob rfl rfl rfl (Nat.le_of_ble_eq_true rfl) dX4_most_40) 43 rfl (fun r5 M6 hw => ?_)
        refine q_imul hC dX4_most_43 44 rfl ?_
        refine q_istore (L' := [(5, .int (v4 * r5)), (0, .ref (gA g 0)), (1, .int v1), (2, .int v2), (3, .int v3), (4, .int v4)]) hC dX4_most_44 (by decide) rfl 46 rfl ?_
        refine q_iload hC dX4_most_46 0 rfl 48 rfl ?_
        refine q_iload_n hC dX4_most_48 4 rfl 49 rfl ?_
        refine q_icmp_le hC 58 dX4_most_49 (by decide) 52 rfl hw (fun hw => ?_) (fun hw => ?_)
        · exact XX.sub [1, 2, 3, 4, 5] rfl (B58 _ (fun M v2 v3 v4 hw => ih M v2 v3 v4 hw) M6 v2 v3 v4 hw)
        · refine q_iload hC dX4_most_52 0 rfl 54 rfl ?_
          refine q_istore_n (L' := [(3, .int (v4 * r5)), (5, .int (v4 * r5)), (0, .ref (gA g 0)), (1, .int v1), (2, .int v2), (4, .int v4)]) hC dX4_most_54 (by decide) rfl 55 rfl ?_
          refine q_iload hC dX4_most_55 5 rfl 57 rfl ?_
          refine q_istore_n (L' := [(2, .int v4), (3, .int (v4 * r5)), (5, .int (v4 * r5)), (0, .ref (gA g 0)), (1, .int v1), (4, .int v4)]) hC dX4_most_57 (by decide) rfl 58 rfl ?_
          exact XX.sub [3, 4, 0, 1, 5] rfl (B58 _ (fun M v2 v3 v4 hw => ih M v2 v3 v4 hw) M6 v4 (v4 * r5) v4 hw)
  refine q_iload_n hC dX4_most_0 1 rfl 1 rfl ?_
  refine q_iconst (v := 0) hC dX4_most_1 rfl 2 rfl ?_
  refine q_iconst (v := 1) hC dX4_most_2 rfl 3 rfl ?_
  refine r_callI hC (go_T (As := [.int v1, .int 0, .int 1]) (rest := []) hC (ctX4_isBetween (zl z) g M v1 0 1 _ hw) 3 gX4_most_X4_isBetween rfl ⟨rfl, rfl⟩ hdT_X4_isBetween ⟨Nat.le_of_ble_eq_true rfl, Nat.le_of_ble_eq_true rfl⟩ rfl rfl (Nat.le_of_ble_eq_true rfl) dX4_most_3) 6 rfl (fun r1 M2 hw => ?_)
  refine q_if_ne hC 11 dX4_most_6 (by decide) 9 rfl hw (fun hw => ?_) (fun hw => ?_)
  · refine q_iconst (v := 1) hC dX4_most_11 rfl 12 rfl ?_
    refine q_istore_n (L' := [(2, .int 1), (0, .ref (gA g 0)), (1, .int v1)]) hC dX4_most_12 (by decide) rfl 13 rfl ?_
    refine q_aload_n hC dX4_most_13 1 rfl 14 rfl ?_
    refine q_getR (C := RX4) (T := TX4) (N := 12) (ci := 4) hC inX4_most_X4 (obF0 hF) rfl 0 (by decide) (uX4_most__o _ (List.mem_of_getElem? (l := owX4_most) (i := 1) rfl)) rfl 1 (fun _ => rfl) dX4_most_14 17 rfl ?_
    refine q_iconst (v := 1) hC dX4_most_17 rfl 18 rfl ?_
    refine r_callI hC (go_V (q := (RX2, TX2, 14)) (As := [.int 1]) (rest := []) hC (ctX2_roomFor (zl z) g M2 1 1 _ (hF.tp (b := 1) (Or.inl rfl)) hw) 1 gX4_most_X2_roomFor rfl ⟨rfl, rfl⟩ hdV_X2_roomFor ⟨Nat.le_of_ble_eq_true rfl, Nat.le_of_ble_eq_true rfl⟩ (hF.tp (b := 1) (Or.inl rfl)).ob rfl rfl rfl (Nat.le_of_ble_eq_true rfl) dX4_most_18) 21 rfl (fun r3 M4 hw => ?_)
    refine q_istore_n (L' := [(3, .int r3), (2, .int 1), (0, .ref (gA g 0)), (1, .int v1)]) hC dX4_most_21 (by decide) rfl 22 rfl ?_
    refine q_iconst (v := 2) hC dX4_most_22 rfl 23 rfl ?_
    refine q_istore (L' := [(4, .int 2), (3, .int r3), (2, .int 1), (0, .ref (gA g 0)), (1, .int v1)]) hC dX4_most_23 (by decide) rfl 25 rfl ?_
    obtain ⟨n0, hw⟩ := hw
    exact XX.sub [3, 4, 2, 1, 0] rfl (B25 n0 M4 1 r3 2 hw)
  · refine q_iconst (v := (-1)) hC dX4_most_9 rfl 10 rfl ?_
    exact r_iret hR dX4_most_10 hw
set_option maxRecDepth 100000 in
set_option maxHeartbeats 4000000 in
theorem ctX4_isStream (l : Launch) (g : GG) (M : MM) (v0 : Int32) (v1 : Int32) (v2 : Int32) (Q : Int32 → MM → Prop)  (hw : wX4_isStream Q M v0 v1 v2) : MI g l yX4_isStream wsX4_isStream (rmOf 1 22) [.int v0, .int v1, .int v2] M Q := by
  refine mk_MZ (cc := cX4_isStream) (maxL := 3) (by decide) rfl (Nat.le_of_ble_eq_true rfl) ?_
  intro z Qf hC hR
  show XX z g Qf 3 0 [(0, .int v0), (1, .int v1), (2, .int v2)] [] M
  have B35 : ∀ (M : MM), wX4_isStream_35 Q v0 v1 v2 M → XX z g Qf 3 35 [] [] M := by
    intro M hw
    refine q_iconst (v := 0) hC dX4_isStream_35 rfl 36 rfl ?_
    exact r_iret hR dX4_isStream_36 ⟨nb_0, hw⟩
  refine q_iload_n hC dX4_isStream_0 0 rfl 1 rfl ?_
  refine q_iconst (v := 1) hC dX4_isStream_1 rfl 2 rfl ?_
  refine q_bipush (v := 99) hC dX4_isStream_2 (by decide) 4 rfl ?_
  refine r_callI hC (go_T (As := [.int v0, .int 1, .int 99]) (rest := []) hC (ctX4_isBetween (zl z) g M v0 1 99 _ hw) 3 gX4_isStream_X4_isBetween rfl ⟨rfl, rfl⟩ hdT_X4_isBetween ⟨Nat.le_of_ble_eq_true rfl, Nat.le_of_ble_eq_true rfl⟩ rfl rfl (Nat.le_of_ble_eq_true rfl) dX4_isStream_4) 7 rfl (fun r1 M2 hw => ?_)
  refine q_if_eq hC 35 dX4_isStream_7 (by decide) 10 rfl hw (fun hw => ?_) (fun hw => ?_)
  · exact XX.sub [] rfl (B35 M2 hw)
  · refine q_iload_n hC dX4_isStream_10 1 rfl 11 rfl ?_
    refine q_iconst (v := 1) hC dX4_isStream_11 rfl 12 rfl ?_
    refine q_bipush (v := 99) hC dX4_isStream_12 (by decide) 14 rfl ?_
    refine r_callI hC (go_T (As := [.int v1, .int 1, .int 99]) (rest := []) hC (ctX4_isBetween (zl z) g M2 v1 1 99 _ hw) 3 gX4_isStream_X4_isBetween rfl ⟨rfl, rfl⟩ hdT_X4_isBetween ⟨Nat.le_of_ble_eq_true rfl, Nat.le_of_ble_eq_true rfl⟩ rfl rfl (Nat.le_of_ble_eq_true rfl) dX4_isStream_14) 17 rfl (fun r3 M4 hw => ?_)
    refine q_if_eq hC 35 dX4_isStream_17 (by decide) 20 rfl hw (fun hw => ?_) (fun hw => ?_)
    · exact XX.sub [] rfl (B35 M4 hw)
    · refine q_iload_n hC dX4_isStream_20 2 rfl 21 rfl ?_
      refine q_iconst (v := 0) hC dX4_isStream_21 rfl 22 rfl ?_
      refine q_sipush (v := 9999) hC dX4_isStream_22 (by decide) 25 rfl ?_
      refine r_callI hC (go_T (As := [.int v2, .int 0, .int 9999]) (rest := []) hC (ctX4_isBetween (zl z) g M4 v2 0 9999 _ hw) 3 gX4_isStream_X4_isBetween rfl ⟨rfl, rfl⟩ hdT_X4_isBetween ⟨Nat.le_of_ble_eq_true rfl, Nat.le_of_ble_eq_true rfl⟩ rfl rfl (Nat.le_of_ble_eq_true rfl) dX4_isStream_25) 28 rfl (fun r5 M6 hw => ?_)
      refine q_if_eq hC 35 dX4_isStream_28 (by decide) 31 rfl hw (fun hw => ?_) (fun hw => ?_)
      · exact XX.sub [] rfl (B35 M6 hw)
      · refine q_iconst (v := 1) hC dX4_isStream_31 rfl 32 rfl ?_
        refine q_goto hC 36 dX4_isStream_32 (by decide) ?_
        exact r_iret hR dX4_isStream_36 ⟨nb_1, hw⟩
theorem hdT_X4_isStream : yX4_isStream.cls ≠ "java/lang/invoke/MethodHandle" ∧ yX4_isStream.cls ≠ "java/lang/invoke/VarHandle" ∧ (parseMethodDescriptor yX4_isStream.desc).map (fun d => d.parameters.length) = some 3 := by decide +kernel
theorem hdV_X2_streamed : yX2_streamed.cls = RX2 ∧ yX2_streamed.cls ≠ "java/lang/invoke/MethodHandle" ∧ yX2_streamed.cls ≠ "java/lang/invoke/VarHandle" ∧ (parseMethodDescriptor yX2_streamed.desc).map (fun d => d.parameters.length) = some 5 := by decide +kernel
theorem inX4_stream_X4 : ∀ w ∈ u_ws RX4 TX4 12, w ∈ wsX4_stream := uX4_stream__wsX40
set_option maxRecDepth 100000 in
set_option maxHeartbeats 4000000 in
theorem ctX4_stream (l : Launch) (g : GG) (M : MM) (v1 : Int32) (v2 : Int32) (v3 : Int32) (v4 : Int32) (v5 : Int32) (Q : Int32 → MM → Prop) (hF : full g) (hw : wX4_stream Q M v1 v2 v3 v4 v5) : MI g l yX4_stream wsX4_stream (rmOf 3 75) [.ref (gA g 0), .int v1, .int v2, .int v3, .int v4, .int v5] M Q := by
  refine mk_MI (cc := cX4_stream) (maxL := 6) (by decide) rfl (Nat.le_of_ble_eq_true rfl) ?_
  intro z Qf hC hR
  show XX z g Qf 6 0 [(0, .ref (gA g 0)), (1, .int v1), (2, .int v2), (3, .int v3), (4, .int v4), (5, .int v5)] [] M
  have B52 : ∀ (M : MM) (p0 : Int32) (p1 : Int32) (p2 : Int32) (p3 : Int32) (p4 : Int32), wX4_stream_52 Q v1 v2 v3 v4 v5 M p0 p1 p2 p3 p4 → XX z g Qf 6 52 [] [.int p0, .int p1, .int p2, .int p3, .int p4, .ref (gA g 1)] M := by
    intro M p0 p1 p2 p3 p4 hw
    refine r_callI hC (go_V (q := (RX2, TX2, 14)) (As := [.int p4, .int p3, .int p2, .int p1, .int p0]) (rest := []) hC (ctX2_streamed (zl z) g M 1 p4 p3 p2 p1 p0 _ (hF.tp (b := 1) (Or.inl rfl)) hw) 5 gX4_stream_X2_streamed rfl ⟨rfl, rfl⟩ hdV_X2_streamed ⟨Nat.le_of_ble_eq_true rfl, Nat.le_of_ble_eq_true rfl⟩ (hF.tp (b := 1) (Or.inl rfl)).ob rfl rfl rfl (Nat.le_of_ble_eq_true rfl) dX4_stream_52) 55 rfl (fun r7 M8 hw => ?_)
    exact r_iret hR dX4_stream_55 hw
  refine q_iload_n hC dX4_stream_0 1 rfl 1 rfl ?_
  refine q_iload_n hC dX4_stream_1 2 rfl 2 rfl ?_
  refine q_iload_n hC dX4_stream_2 3 rfl 3 rfl ?_
  refine r_callI hC (go_T (As := [.int v1, .int v2, .int v3]) (rest := []) hC (ctX4_isStream (zl z) g M v1 v2 v3 _ hw) 3 gX4_stream_X4_isStream rfl ⟨rfl, rfl⟩ hdT_X4_isStream ⟨Nat.le_of_ble_eq_true rfl, Nat.le_of_ble_eq_true rfl⟩ rfl rfl (Nat.le_of_ble_eq_true rfl) dX4_stream_3) 6 rfl (fun r1 M2 hw => ?_)
  refine q_if_eq hC 30 dX4_stream_6 (by decide) 9 rfl hw (fun hw => ?_) (fun hw => ?_)
  · refine q_iconst (v := (-1)) hC dX4_stream_30 rfl 31 rfl ?_
    exact r_iret hR dX4_stream_31 hw
  · refine q_iload hC dX4_stream_9 4 rfl 11 rfl ?_
    refine q_iconst (v := 1) hC dX4_stream_11 rfl 12 rfl ?_
    refine q_bipush (v := 99) hC dX4_stream_12 (by decide) 14 rfl ?_
    refine r_callI hC (go_T (As := [.int v4, .int 1, .int 99]) (rest := []) hC (ctX4_isBetween (zl z) g M2 v4 1 99 _ hw) 3 gX4_stream_X4_isBetween rfl ⟨rfl, rfl⟩ hdT_X4_isBetween ⟨Nat.le_of_ble_eq_true rfl, Nat.le_of_ble_eq_true rfl⟩ rfl rfl (Nat.le_of_ble_eq_true rfl) dX4_stream_14) 17 rfl (fun r3 M4 hw => ?_)
    refine q_if_eq hC 30 dX4_stream_17 (by decide) 20 rfl hw (fun hw => ?_) (fun hw => ?_)
    · refine q_iconst (v := (-1)) hC dX4_stream_30 rfl 31 rfl ?_
      exact r_iret hR dX4_stream_31 hw
    · refine q_iload hC dX4_stream_20 5 rfl 22 rfl ?_
      refine q_iconst (v := 0) hC dX4_stream_22 rfl 23 rfl ?_
      refine q_iconst (v := 1) hC dX4_stream_23 rfl 24 rfl ?_
      refine r_callI hC (go_T (As := [.int v5, .int 0, .int 1]) (rest := []) hC (ctX4_isBetween (zl z) g M4 v5 0 1 _ hw) 3 gX4_stream_X4_isBetween rfl ⟨rfl, rfl⟩ hdT_X4_isBetween ⟨Nat.le_of_ble_eq_true rfl, Nat.le_of_ble_eq_true rfl⟩ rfl rfl (Nat.le_of_ble_eq_true rfl) dX4_stream_24) 27 rfl (fun r5 M6 hw => ?_)
      refine q_if_ne hC 32 dX4_stream_27 (by decide) 30 rfl hw (fun hw => ?_) (fun hw => ?_)
      · refine q_aload_n hC dX4_stream_32 0 rfl 33 rfl ?_
        refine q_getR (C := RX4) (T := TX4) (N := 12) (ci := 4) hC inX4_stream_X4 (obF0 hF) rfl 0 (by decide) (uX4_stream__o _ (List.mem_of_getElem? (l := owX4_stream) (i := 1) rfl)) rfl 1 (fun _ => rfl) dX4_stream_33 36 rfl ?_
        refine q_iload_n hC dX4_stream_36 1 rfl 37 rfl ?_
        refine q_iload_n hC dX4_stream_37 2 rfl 38 rfl ?_
        refine q_iload_n hC dX4_stream_38 3 rfl 39 rfl ?_
        refine q_iload hC dX4_stream_39 4 rfl 41 rfl ?_
        refine q_iload hC dX4_stream_41 5 rfl 43 rfl ?_
        refine q_iconst (v := 1) hC dX4_stream_43 rfl 44 rfl ?_
        refine q_icmp_ne hC 51 dX4_stream_44 (by decide) 47 rfl hw (fun hw => ?_) (fun hw => ?_)
        · refine q_iconst (v := 0) hC dX4_stream_51 rfl 52 rfl ?_
          exact XX.sub [] rfl (B52 M6 0 v4 v3 v2 v1 hw)
        · refine q_iconst (v := 1) hC dX4_stream_47 rfl 48 rfl ?_
          refine q_goto hC 52 dX4_stream_48 (by decide) ?_
          exact XX.sub [] rfl (B52 M6 1 v4 v3 v2 v1 hw)
      · refine q_iconst (v := (-1)) hC dX4_stream_30 rfl 31 rfl ?_
        exact r_iret hR dX4_stream_31 hw
theorem inX4_buffer_X4 : ∀ w ∈ u_ws RX4 TX4 12, w ∈ wsX4_buffer := uX4_buffer__wsX40
set_option maxRecDepth 100000 in
set_option maxHeartbeats 4000000 in
theorem ctX4_buffer (l : Launch) (g : GG) (M : MM) (v1 : Int32) (v2 : Int32) (v3 : Int32) (v4 : Int32) (Q : Int32 → MM → Prop) (hF : full g) (hw : wX4_buffer Q M v1 v2 v3 v4) : MI g l yX4_buffer wsX4_buffer (rmOf 3 75) [.ref (gA g 0), .int v1, .int v2, .int v3, .int v4] M Q := by
  refine mk_MI (cc := cX4_buffer) (maxL := 9) (by decide) rfl (Nat.le_of_ble_eq_true rfl) ?_
  intro z Qf hC hR
  show XX z g Qf 9 0 [(0, .ref (gA g 0)), (1, .int v1), (2, .int v2), (3, .int v3), (4, .int v4)] [] M
  have B77 : ∀ (K41 : MM → Int32 → Int32 → Int32 → Prop) (hK41 : ∀ (M : MM) (v5 : Int32) (v6 : Int32) (v7 : Int32) , K41 M v5 v6 v7 → XX z g Qf 9 41 [(0, .ref (gA g 0)), (1, .int v1), (2, .int v2), (3, .int v3), (4, .int v4), (5, .int v5), (6, .int v6), (7, .int v7)] [] M) (M : MM) (v5 : Int32) (v6 : Int32) (v7 : Int32), wX4_buffer_77 Q K41 v1 v2 v3 v4 M v5 v6 v7 → XX z g Qf 9 77 [(0, .ref (gA g 0)), (1, .int v1), (2, .int v2), (3, .int v3), (4, .int v4), (5, .int v5), (6, .int v6), (7, .int v7)] [] M := by
    intro K41 hK41 M v5 v6 v7 hw
    refine q_iinc (v := v7 + 1) (L' := [(7, .int (v7 + 1)), (0, .ref (gA g 0)), (1, .int v1), (2, .int v2), (3, .int v3), (4, .int v4), (5, .int v5), (6, .int v6)]) hC dX4_buffer_77 7 rfl rfl (by decide) rfl 80 rfl ?_
    refine q_goto hC 41 dX4_buffer_80 (by decide) ?_
    exact XX.sub [1, 2, 3, 4, 5, 6, 7, 0] rfl (hK41 M v5 v6 (v7 + 1) hw)
  have B41 : ∀ (n : Nat) (M : MM) (v5 : Int32) (v6 : Int32) (v7 : Int32) , wX4_buffer_41 Q v1 v2 v3 v4 n M v5 v6 v7 → XX z g Qf 9 41 [(0, .ref (gA g 0)), (1, .int v1), (2, .int v2), (3, .int v3), (4, .int v4), (5, .int v5), (6, .int v6), (7, .int v7)] [] M := by
    intro n
    induction n with
    | zero =>
      intro M v5 v6 v7 hw
      exact hw.elim
    | succ n ih =>
      intro M v5 v6 v7 hw
      refine q_iload hC dX4_buffer_41 7 rfl 43 rfl ?_
      refine q_iload_n hC dX4_buffer_43 1 rfl 44 rfl ?_
      refine q_icmp_gt hC 83 dX4_buffer_44 (by decide) 47 rfl hw (fun hw => ?_) (fun hw => ?_)
      · refine q_iload hC dX4_buffer_83 4 rfl 85 rfl ?_
        refine q_if_ne hC 93 dX4_buffer_85 (by decide) 88 rfl hw (fun hw => ?_) (fun hw => ?_)
        · refine q_iload hC dX4_buffer_93 6 rfl 95 rfl ?_
          exact r_iret hR dX4_buffer_95 hw
        · refine q_iload hC dX4_buffer_88 5 rfl 90 rfl ?_
          refine q_goto hC 95 dX4_buffer_90 (by decide) ?_
          exact r_iret hR dX4_buffer_95 hw
      · refine q_aload_n hC dX4_buffer_47 0 rfl 48 rfl ?_
        refine q_getR (C := RX4) (T := TX4) (N := 12) (ci := 4) hC inX4_buffer_X4 (obF0 hF) rfl 0 (by decide) (uX4_buffer__o _ (List.mem_of_getElem? (l := owX4_buffer) (i := 1) rfl)) rfl 1 (fun _ => rfl) dX4_buffer_48 51 rfl ?_
        refine q_iload_n hC dX4_buffer_51 1 rfl 52 rfl ?_
        refine q_iload_n hC dX4_buffer_52 2 rfl 53 rfl ?_
        refine q_iload_n hC dX4_buffer_53 3 rfl 54 rfl ?_
        refine q_iload hC dX4_buffer_54 7 rfl 56 rfl ?_
        refine q_iconst (v := 0) hC dX4_buffer_56 rfl 57 rfl ?_
        refine r_callI hC (go_V (q := (RX2, TX2, 14)) (As := [.int v1, .int v2, .int v3, .int v7, .int 0]) (rest := []) hC (ctX2_streamed (zl z) g M 1 v1 v2 v3 v7 0 _ (hF.tp (b := 1) (Or.inl rfl)) hw) 5 gX4_buffer_X2_streamed rfl ⟨rfl, rfl⟩ hdV_X2_streamed ⟨Nat.le_of_ble_eq_true rfl, Nat.le_of_ble_eq_true rfl⟩ (hF.tp (b := 1) (Or.inl rfl)).ob rfl rfl rfl (Nat.le_of_ble_eq_true rfl) dX4_buffer_57) 60 rfl (fun r7 M8 hw => ?_)
        refine q_istore (L' := [(8, .int r7), (0, .ref (gA g 0)), (1, .int v1), (2, .int v2), (3, .int v3), (4, .int v4), (5, .int v5), (6, .int v6), (7, .int v7)]) hC dX4_buffer_60 (by decide) rfl 62 rfl ?_
        refine q_iload hC dX4_buffer_62 0 rfl 64 rfl ?_
        refine q_iload hC dX4_buffer_64 7 rfl 66 rfl ?_
        refine q_icmp_ge hC 77 dX4_buffer_66 (by decide) 69 rfl hw (fun hw => ?_) (fun hw => ?_)
        · exact XX.sub [1, 2, 3, 4, 5, 6, 7, 8] rfl (B77 _ (fun M v5 v6 v7 hw => ih M v5 v6 v7 hw) M8 v5 v6 v7 hw)
        · refine q_iload hC dX4_buffer_69 0 rfl 71 rfl ?_
          refine q_istore (L' := [(6, .int r7), (8, .int r7), (0, .ref (gA g 0)), (1, .int v1), (2, .int v2), (3, .int v3), (4, .int v4), (5, .int v5), (7, .int v7)]) hC dX4_buffer_71 (by decide) rfl 73 rfl ?_
          refine q_iload hC dX4_buffer_73 8 rfl 75 rfl ?_
          refine q_istore (L' := [(5, .int v7), (6, .int r7), (8, .int r7), (0, .ref (gA g 0)), (1, .int v1), (2, .int v2), (3, .int v3), (4, .int v4), (7, .int v7)]) hC dX4_buffer_75 (by decide) rfl 77 rfl ?_
          exact XX.sub [3, 4, 5, 6, 7, 0, 1, 8] rfl (B77 _ (fun M v5 v6 v7 hw => ih M v5 v6 v7 hw) M8 v7 r7 v7 hw)
  refine q_iload_n hC dX4_buffer_0 1 rfl 1 rfl ?_
  refine q_iload_n hC dX4_buffer_1 2 rfl 2 rfl ?_
  refine q_iload_n hC dX4_buffer_2 3 rfl 3 rfl ?_
  refine r_callI hC (go_T (As := [.int v1, .int v2, .int v3]) (rest := []) hC (ctX4_isStream (zl z) g M v1 v2 v3 _ hw) 3 gX4_buffer_X4_isStream rfl ⟨rfl, rfl⟩ hdT_X4_isStream ⟨Nat.le_of_ble_eq_true rfl, Nat.le_of_ble_eq_true rfl⟩ rfl rfl (Nat.le_of_ble_eq_true rfl) dX4_buffer_3) 6 rfl (fun r1 M2 hw => ?_)
  refine q_if_eq hC 19 dX4_buffer_6 (by decide) 9 rfl hw (fun hw => ?_) (fun hw => ?_)
  · refine q_iconst (v := (-1)) hC dX4_buffer_19 rfl 20 rfl ?_
    exact r_iret hR dX4_buffer_20 hw
  · refine q_iload hC dX4_buffer_9 4 rfl 11 rfl ?_
    refine q_iconst (v := 0) hC dX4_buffer_11 rfl 12 rfl ?_
    refine q_iconst (v := 1) hC dX4_buffer_12 rfl 13 rfl ?_
    refine r_callI hC (go_T (As := [.int v4, .int 0, .int 1]) (rest := []) hC (ctX4_isBetween (zl z) g M2 v4 0 1 _ hw) 3 gX4_buffer_X4_isBetween rfl ⟨rfl, rfl⟩ hdT_X4_isBetween ⟨Nat.le_of_ble_eq_true rfl, Nat.le_of_ble_eq_true rfl⟩ rfl rfl (Nat.le_of_ble_eq_true rfl) dX4_buffer_13) 16 rfl (fun r3 M4 hw => ?_)
    refine q_if_ne hC 21 dX4_buffer_16 (by decide) 19 rfl hw (fun hw => ?_) (fun hw => ?_)
    · refine q_iconst (v := 1) hC dX4_buffer_21 rfl 22 rfl ?_
      refine q_istore (L' := [(5, .int 1), (0, .ref (gA g 0)), (1, .int v1), (2, .int v2), (3, .int v3), (4, .int v4)]) hC dX4_buffer_22 (by decide) rfl 24 rfl ?_
      refine q_aload_n hC dX4_buffer_24 1 rfl 25 rfl ?_
      refine q_getR (C := RX4) (T := TX4) (N := 12) (ci := 4) hC inX4_buffer_X4 (obF0 hF) rfl 0 (by decide) (uX4_buffer__o _ (List.mem_of_getElem? (l := owX4_buffer) (i := 1) rfl)) rfl 1 (fun _ => rfl) dX4_buffer_25 28 rfl ?_
      refine q_iload_n hC dX4_buffer_28 2 rfl 29 rfl ?_
      refine q_iload_n hC dX4_buffer_29 3 rfl 30 rfl ?_
      refine q_iload_n hC dX4_buffer_30 4 rfl 31 rfl ?_
      refine q_iconst (v := 1) hC dX4_buffer_31 rfl 32 rfl ?_
      refine q_iconst (v := 0) hC dX4_buffer_32 rfl 33 rfl ?_
      refine r_callI hC (go_V (q := (RX2, TX2, 14)) (As := [.int v1, .int v2, .int v3, .int 1, .int 0]) (rest := []) hC (ctX2_streamed (zl z) g M4 1 v1 v2 v3 1 0 _ (hF.tp (b := 1) (Or.inl rfl)) hw) 5 gX4_buffer_X2_streamed rfl ⟨rfl, rfl⟩ hdV_X2_streamed ⟨Nat.le_of_ble_eq_true rfl, Nat.le_of_ble_eq_true rfl⟩ (hF.tp (b := 1) (Or.inl rfl)).ob rfl rfl rfl (Nat.le_of_ble_eq_true rfl) dX4_buffer_33) 36 rfl (fun r5 M6 hw => ?_)
      refine q_istore (L' := [(6, .int r5), (5, .int 1), (0, .ref (gA g 0)), (1, .int v1), (2, .int v2), (3, .int v3), (4, .int v4)]) hC dX4_buffer_36 (by decide) rfl 38 rfl ?_
      refine q_iconst (v := 2) hC dX4_buffer_38 rfl 39 rfl ?_
      refine q_istore (L' := [(7, .int 2), (6, .int r5), (5, .int 1), (0, .ref (gA g 0)), (1, .int v1), (2, .int v2), (3, .int v3), (4, .int v4)]) hC dX4_buffer_39 (by decide) rfl 41 rfl ?_
      obtain ⟨n0, hw⟩ := hw
      exact XX.sub [3, 4, 5, 6, 7, 2, 1, 0] rfl (B41 n0 M6 1 r5 2 hw)
    · refine q_iconst (v := (-1)) hC dX4_buffer_19 rfl 20 rfl ?_
      exact r_iret hR dX4_buffer_20 hw
theorem hdV_X2_addSeen : yX2_addSeen.cls = RX2 ∧ yX2_addSeen.cls ≠ "java/lang/invoke/MethodHandle" ∧ yX2_addSeen.cls ≠ "java/lang/invoke/VarHandle" ∧ (parseMethodDescriptor yX2_addSeen.desc).map (fun d => d.parameters.length) = some 2 := by decide +kernel
theorem inX4_saw_X2 : ∀ w ∈ u_ws RX2 TX2 14, w ∈ wsX4_saw := uX4_saw__wsX20
theorem inX4_saw_X4 : ∀ w ∈ u_ws RX4 TX4 12, w ∈ wsX4_saw := uX4_saw__wsX40
set_option maxRecDepth 100000 in
set_option maxHeartbeats 4000000 in
theorem ctX4_saw (l : Launch) (g : GG) (M : MM) (v1 : Int32) (v2 : Int32) (Q : Int32 → MM → Prop) (hF : full g) (hw : wX4_saw Q M v1 v2) : MI g l yX4_saw wsX4_saw (rmOf 2 44) [.ref (gA g 0), .int v1, .int v2] M Q := by
  refine mk_MI (cc := cX4_saw) (maxL := 3) (by decide) rfl (Nat.le_of_ble_eq_true rfl) ?_
  intro z Qf hC hR
  show XX z g Qf 3 0 [(0, .ref (gA g 0)), (1, .int v1), (2, .int v2)] [] M
  refine q_iload_n hC dX4_saw_0 1 rfl 1 rfl ?_
  refine q_iconst (v := 0) hC dX4_saw_1 rfl 2 rfl ?_
  refine q_sipush (v := 999) hC dX4_saw_2 (by decide) 5 rfl ?_
  refine r_callI hC (go_T (As := [.int v1, .int 0, .int 999]) (rest := []) hC (ctX4_isBetween (zl z) g M v1 0 999 _ hw) 3 gX4_saw_X4_isBetween rfl ⟨rfl, rfl⟩ hdT_X4_isBetween ⟨Nat.le_of_ble_eq_true rfl, Nat.le_of_ble_eq_true rfl⟩ rfl rfl (Nat.le_of_ble_eq_true rfl) dX4_saw_5) 8 rfl (fun r1 M2 hw => ?_)
  refine q_if_eq hC 22 dX4_saw_8 (by decide) 11 rfl hw (fun hw => ?_) (fun hw => ?_)
  · refine q_iconst (v := (-1)) hC dX4_saw_22 rfl 23 rfl ?_
    exact r_iret hR dX4_saw_23 hw
  · refine q_iload_n hC dX4_saw_11 2 rfl 12 rfl ?_
    refine q_iconst (v := 0) hC dX4_saw_12 rfl 13 rfl ?_
    refine q_sipush (v := 9999) hC dX4_saw_13 (by decide) 16 rfl ?_
    refine r_callI hC (go_T (As := [.int v2, .int 0, .int 9999]) (rest := []) hC (ctX4_isBetween (zl z) g M2 v2 0 9999 _ hw) 3 gX4_saw_X4_isBetween rfl ⟨rfl, rfl⟩ hdT_X4_isBetween ⟨Nat.le_of_ble_eq_true rfl, Nat.le_of_ble_eq_true rfl⟩ rfl rfl (Nat.le_of_ble_eq_true rfl) dX4_saw_16) 19 rfl (fun r3 M4 hw => ?_)
    refine q_if_ne hC 24 dX4_saw_19 (by decide) 22 rfl hw (fun hw => ?_) (fun hw => ?_)
    · refine q_aload_n hC dX4_saw_24 0 rfl 25 rfl ?_
      refine q_getR (C := RX4) (T := TX4) (N := 12) (ci := 4) hC inX4_saw_X4 (obF0 hF) rfl 0 (by decide) (uX4_saw__o _ (List.mem_of_getElem? (l := owX4_saw) (i := 1) rfl)) rfl 1 (fun _ => rfl) dX4_saw_25 28 rfl ?_
      refine q_getI (C := RX2) (T := TX2) (N := 14) (ci := 2) hC inX4_saw_X2 (hF.tp (b := 1) (Or.inl rfl)).ob rfl 13 (by decide) (uX4_saw__o _ (List.mem_of_getElem? (l := owX4_saw) (i := 2) rfl)) rfl (fun _ => rfl) dX4_saw_28 31 rfl ?_
      refine q_bipush (v := 12) hC dX4_saw_31 (by decide) 33 rfl ?_
      refine q_icmp_lt hC 39 dX4_saw_33 (by decide) 36 rfl hw (fun hw => ?_) (fun hw => ?_)
      · refine q_aload_n hC dX4_saw_39 0 rfl 40 rfl ?_
        refine q_getR (C := RX4) (T := TX4) (N := 12) (ci := 4) hC inX4_saw_X4 (obF0 hF) rfl 0 (by decide) (uX4_saw__o _ (List.mem_of_getElem? (l := owX4_saw) (i := 1) rfl)) rfl 1 (fun _ => rfl) dX4_saw_40 43 rfl ?_
        refine q_iload_n hC dX4_saw_43 1 rfl 44 rfl ?_
        refine q_iload_n hC dX4_saw_44 2 rfl 45 rfl ?_
        refine r_callI hC (go_V (q := (RX2, TX2, 14)) (As := [.int v1, .int v2]) (rest := []) hC (ctX2_addSeen (zl z) g M4 1 v1 v2 _ (hF.tp (b := 1) (Or.inl rfl)) hw) 2 gX4_saw_X2_addSeen rfl ⟨rfl, rfl⟩ hdV_X2_addSeen ⟨Nat.le_of_ble_eq_true rfl, Nat.le_of_ble_eq_true rfl⟩ (hF.tp (b := 1) (Or.inl rfl)).ob rfl rfl rfl (Nat.le_of_ble_eq_true rfl) dX4_saw_45) 48 rfl (fun r5 M6 hw => ?_)
        exact r_iret hR dX4_saw_48 hw
      · refine q_bipush (v := (-3)) hC dX4_saw_36 (by decide) 38 rfl ?_
        exact r_iret hR dX4_saw_38 hw
    · refine q_iconst (v := (-1)) hC dX4_saw_22 rfl 23 rfl ?_
      exact r_iret hR dX4_saw_23 hw
theorem inX4_forget_X2 : ∀ w ∈ u_ws RX2 TX2 14, w ∈ wsX4_forget := uX4_forget__wsX20
theorem inX4_forget_X4 : ∀ w ∈ u_ws RX4 TX4 12, w ∈ wsX4_forget := uX4_forget__wsX40
set_option maxRecDepth 100000 in
set_option maxHeartbeats 4000000 in
theorem ctX4_forget (l : Launch) (g : GG) (M : MM)  (Q : Int32 → MM → Prop) (hF : full g) (hw : wX4_forget Q M ) : MI g l yX4_forget wsX4_forget (rmOf 0 0) [.ref (gA g 0)] M Q := by
  refine mk_MI (cc := cX4_forget) (maxL := 2) (by decide) rfl (Nat.le_of_ble_eq_true rfl) ?_
  intro z Qf hC hR
  show XX z g Qf 2 0 [(0, .ref (gA g 0))] [] M
  refine q_aload_n hC dX4_forget_0 0 rfl 1 rfl ?_
  refine q_getR (C := RX4) (T := TX4) (N := 12) (ci := 4) hC inX4_forget_X4 (obF0 hF) rfl 0 (by decide) (uX4_forget__o _ (List.mem_of_getElem? (l := owX4_forget) (i := 1) rfl)) rfl 1 (fun _ => rfl) dX4_forget_1 4 rfl ?_
  refine q_getI (C := RX2) (T := TX2) (N := 14) (ci := 2) hC inX4_forget_X2 (hF.tp (b := 1) (Or.inl rfl)).ob rfl 13 (by decide) (uX4_forget__o _ (List.mem_of_getElem? (l := owX4_forget) (i := 2) rfl)) rfl (fun _ => rfl) dX4_forget_4 7 rfl ?_
  refine q_istore_n (L' := [(1, .int (M 1 13)), (0, .ref (gA g 0))]) hC dX4_forget_7 (by decide) rfl 8 rfl ?_
  refine q_aload_n hC dX4_forget_8 1 rfl 9 rfl ?_
  refine q_getR (C := RX4) (T := TX4) (N := 12) (ci := 4) hC inX4_forget_X4 (obF0 hF) rfl 0 (by decide) (uX4_forget__o _ (List.mem_of_getElem? (l := owX4_forget) (i := 1) rfl)) rfl 1 (fun _ => rfl) dX4_forget_9 12 rfl ?_
  refine q_iconst (v := 0) hC dX4_forget_12 rfl 13 rfl ?_
  refine q_putI (C := RX2) (T := TX2) (N := 14) (ci := 2) hC inX4_forget_X2 tyX2 tyX2_ok nmX2 (hF.tp (b := 1) (Or.inl rfl)).ob rfl 13 (by decide) (uX4_forget__o _ (List.mem_of_getElem? (l := owX4_forget) (i := 2) rfl)) rfl rfl rfl (fun _ => Nat.le_of_ble_eq_true rfl) (fun _ => rfl) dX4_forget_13 16 rfl (fun M1 eM1 => ?_)
  have hw := hw M1 eM1
  refine q_iload_n hC dX4_forget_16 0 rfl 17 rfl ?_
  exact r_iret hR dX4_forget_17 hw
theorem hdV_X2_canBe : yX2_canBe.cls = RX2 ∧ yX2_canBe.cls ≠ "java/lang/invoke/MethodHandle" ∧ yX2_canBe.cls ≠ "java/lang/invoke/VarHandle" ∧ (parseMethodDescriptor yX2_canBe.desc).map (fun d => d.parameters.length) = some 2 := by decide +kernel
theorem inX4_fits_X4 : ∀ w ∈ u_ws RX4 TX4 12, w ∈ wsX4_fits := uX4_fits__wsX40
set_option maxRecDepth 100000 in
set_option maxHeartbeats 4000000 in
theorem ctX4_fits (l : Launch) (g : GG) (M : MM) (v1 : Int32) (Q : Int32 → MM → Prop) (hF : full g) (hw : wX4_fits Q M v1) : MI g l yX4_fits wsX4_fits (rmOf 2 47) [.ref (gA g 0), .int v1] M Q := by
  refine mk_MI (cc := cX4_fits) (maxL := 5) (by decide) rfl (Nat.le_of_ble_eq_true rfl) ?_
  intro z Qf hC hR
  show XX z g Qf 5 0 [(0, .ref (gA g 0)), (1, .int v1)] [] M
  have B87 : ∀ (K21 : MM → Int32 → Int32 → Prop) (hK21 : ∀ (M : MM) (v2 : Int32) (v3 : Int32) , K21 M v2 v3 → XX z g Qf 5 21 [(0, .ref (gA g 0)), (1, .int v1), (2, .int v2), (3, .int v3)] [] M) (K41 : MM → Int32 → Int32 → Int32 → Prop) (hK41 : ∀ (M : MM) (v2 : Int32) (v3 : Int32) (v4 : Int32) , K41 M v2 v3 v4 → XX z g Qf 5 41 [(0, .ref (gA g 0)), (1, .int v1), (2, .int v2), (3, .int v3), (4, .int v4)] [] M) (M : MM) (v2 : Int32) (v3 : Int32) (v4 : Int32), wX4_fits_87 Q K21 K41 v1 M v2 v3 v4 → XX z g Qf 5 87 [(0, .ref (gA g 0)), (1, .int v1), (2, .int v2), (3, .int v3), (4, .int v4)] [] M := by
    intro K21 hK21 K41 hK41 M v2 v3 v4 hw
    refine q_iinc (v := v4 + 1) (L' := [(4, .int (v4 + 1)), (0, .ref (gA g 0)), (1, .int v1), (2, .int v2), (3, .int v3)]) hC dX4_fits_87 4 rfl rfl (by decide) rfl 90 rfl ?_
    refine q_goto hC 41 dX4_fits_90 (by decide) ?_
    exact XX.sub [1, 2, 3, 4, 0] rfl (hK41 M v2 v3 (v4 + 1) hw)
  have B41 : ∀ (K21 : MM → Int32 → Int32 → Prop) (hK21 : ∀ (M : MM) (v2 : Int32) (v3 : Int32) , K21 M v2 v3 → XX z g Qf 5 21 [(0, .ref (gA g 0)), (1, .int v1), (2, .int v2), (3, .int v3)] [] M) (n : Nat) (M : MM) (v2 : Int32) (v3 : Int32) (v4 : Int32) , wX4_fits_41 Q K21 v1 n M v2 v3 v4 → XX z g Qf 5 41 [(0, .ref (gA g 0)), (1, .int v1), (2, .int v2), (3, .int v3), (4, .int v4)] [] M := by
    intro K21 hK21 n
    induction n with
    | zero =>
      intro M v2 v3 v4 hw
      exact hw.elim
    | succ n ih =>
      intro M v2 v3 v4 hw
      refine q_iload hC dX4_fits_41 4 rfl 43 rfl ?_
      refine q_gets hC 1 (by decide) (uX4_fits__o _ (List.mem_of_getElem? (l := owX4_fits) (i := 2) rfl)) dX4_fits_43 46 rfl ?_
      refine q_iconst (v := 2) hC dX4_fits_46 rfl 47 rfl ?_
      refine r_callI hC (go_T (As := [.ref (gS g 1), .int 2]) (rest := [.int v4]) hC (ctX4_cell_s (zl z) g M 1 2 _ (by decide) hw) 2 gX4_fits_X4_cell rfl ⟨rfl, rfl⟩ hdT_X4_cell ⟨Nat.le_of_ble_eq_true rfl, Nat.le_of_ble_eq_true rfl⟩ rfl rfl (Nat.le_of_ble_eq_true rfl) dX4_fits_47) 50 rfl (fun r9 M10 hw => ?_)
      refine q_icmp_gt hC 93 dX4_fits_50 (by decide) 53 rfl hw (fun hw => ?_) (fun hw => ?_)
      · refine q_iinc (v := v3 + 1) (L' := [(3, .int (v3 + 1)), (0, .ref (gA g 0)), (1, .int v1), (2, .int v2), (4, .int v4)]) hC dX4_fits_93 3 rfl rfl (by decide) rfl 96 rfl ?_
        refine q_goto hC 21 dX4_fits_96 (by decide) ?_
        exact XX.sub [1, 2, 3, 0] rfl (hK21 M10 v2 (v3 + 1) hw)
      · refine q_aload_n hC dX4_fits_53 0 rfl 54 rfl ?_
        refine q_getR (C := RX4) (T := TX4) (N := 12) (ci := 4) hC inX4_fits_X4 (obF0 hF) rfl 0 (by decide) (uX4_fits__o _ (List.mem_of_getElem? (l := owX4_fits) (i := 3) rfl)) rfl 1 (fun _ => rfl) dX4_fits_54 57 rfl ?_
        refine q_iload_n hC dX4_fits_57 3 rfl 58 rfl ?_
        refine q_iload hC dX4_fits_58 4 rfl 60 rfl ?_
        refine r_callI hC (go_V (q := (RX2, TX2, 14)) (As := [.int v3, .int v4]) (rest := []) hC (ctX2_canBe (zl z) g M10 1 v3 v4 _ (hF.tp (b := 1) (Or.inl rfl)) hw) 2 gX4_fits_X2_canBe rfl ⟨rfl, rfl⟩ hdV_X2_canBe ⟨Nat.le_of_ble_eq_true rfl, Nat.le_of_ble_eq_true rfl⟩ (hF.tp (b := 1) (Or.inl rfl)).ob rfl rfl rfl (Nat.le_of_ble_eq_true rfl) dX4_fits_60) 63 rfl (fun r11 M12 hw => ?_)
        refine q_if_ne hC 69 dX4_fits_63 (by decide) 66 rfl hw (fun hw => ?_) (fun hw => ?_)
        · refine q_iload_n hC dX4_fits_69 1 rfl 70 rfl ?_
          refine q_iconst (v := 1) hC dX4_fits_70 rfl 71 rfl ?_
          refine q_icmp_ne hC 76 dX4_fits_71 (by decide) 74 rfl hw (fun hw => ?_) (fun hw => ?_)
          · refine q_iload_n hC dX4_fits_76 1 rfl 77 rfl ?_
            refine q_iconst (v := 2) hC dX4_fits_77 rfl 78 rfl ?_
            refine q_icmp_ne hC 84 dX4_fits_78 (by decide) 81 rfl hw (fun hw => ?_) (fun hw => ?_)
            · refine q_iinc (v := v2 + 1) (L' := [(2, .int (v2 + 1)), (0, .ref (gA g 0)), (1, .int v1), (3, .int v3), (4, .int v4)]) hC dX4_fits_84 2 rfl rfl (by decide) rfl 87 rfl ?_
              exact XX.sub [1, 2, 0, 3, 4] rfl (B87 _ hK21 _ (fun M v2 v3 v4 hw => ih M v2 v3 v4 hw) M12 (v2 + 1) v3 v4 hw)
            · refine q_iload hC dX4_fits_81 4 rfl 83 rfl ?_
              exact r_iret hR dX4_fits_83 hw
          · refine q_iload_n hC dX4_fits_74 3 rfl 75 rfl ?_
            exact r_iret hR dX4_fits_75 hw
        · refine q_goto hC 87 dX4_fits_66 (by decide) ?_
          exact XX.sub [0, 1, 2, 3, 4] rfl (B87 _ hK21 _ (fun M v2 v3 v4 hw => ih M v2 v3 v4 hw) M12 v2 v3 v4 hw)
  have B21 : ∀ (n : Nat) (M : MM) (v2 : Int32) (v3 : Int32) , wX4_fits_21 Q v1 n M v2 v3 → XX z g Qf 5 21 [(0, .ref (gA g 0)), (1, .int v1), (2, .int v2), (3, .int v3)] [] M := by
    intro n
    induction n with
    | zero =>
      intro M v2 v3 hw
      exact hw.elim
    | succ n ih =>
      intro M v2 v3 hw
      refine q_iload_n hC dX4_fits_21 3 rfl 22 rfl ?_
      refine q_gets hC 1 (by decide) (uX4_fits__o _ (List.mem_of_getElem? (l := owX4_fits) (i := 2) rfl)) dX4_fits_22 25 rfl ?_
      refine q_iconst (v := 1) hC dX4_fits_25 rfl 26 rfl ?_
      refine r_callI hC (go_T (As := [.ref (gS g 1), .int 1]) (rest := [.int v3]) hC (ctX4_cell_s (zl z) g M 1 1 _ (by decide) hw) 2 gX4_fits_X4_cell rfl ⟨rfl, rfl⟩ hdT_X4_cell ⟨Nat.le_of_ble_eq_true rfl, Nat.le_of_ble_eq_true rfl⟩ rfl rfl (Nat.le_of_ble_eq_true rfl) dX4_fits_26) 29 rfl (fun r5 M6 hw => ?_)
      refine q_icmp_gt hC 99 dX4_fits_29 (by decide) 32 rfl hw (fun hw => ?_) (fun hw => ?_)
      · refine q_iload_n hC dX4_fits_99 1 rfl 100 rfl ?_
        refine q_if_ne hC 107 dX4_fits_100 (by decide) 103 rfl hw (fun hw => ?_) (fun hw => ?_)
        · refine q_bipush (v := (-4)) hC dX4_fits_107 (by decide) 109 rfl ?_
          exact r_iret hR dX4_fits_109 hw
        · refine q_iload_n hC dX4_fits_103 2 rfl 104 rfl ?_
          refine q_goto hC 109 dX4_fits_104 (by decide) ?_
          exact r_iret hR dX4_fits_109 hw
      · refine q_gets hC 0 (by decide) (uX4_fits__o _ (List.mem_of_getElem? (l := owX4_fits) (i := 1) rfl)) dX4_fits_32 35 rfl ?_
        refine q_iconst (v := 2) hC dX4_fits_35 rfl 36 rfl ?_
        refine r_callI hC (go_T (As := [.ref (gS g 0), .int 2]) (rest := []) hC (ctX4_cell_s (zl z) g M6 0 2 _ (by decide) hw) 2 gX4_fits_X4_cell rfl ⟨rfl, rfl⟩ hdT_X4_cell ⟨Nat.le_of_ble_eq_true rfl, Nat.le_of_ble_eq_true rfl⟩ rfl rfl (Nat.le_of_ble_eq_true rfl) dX4_fits_36) 39 rfl (fun r7 M8 hw => ?_)
        refine q_istore (L' := [(4, .int r7), (0, .ref (gA g 0)), (1, .int v1), (2, .int v2), (3, .int v3)]) hC dX4_fits_39 (by decide) rfl 41 rfl ?_
        obtain ⟨n0, hw⟩ := hw
        exact XX.sub [1, 2, 3, 4, 0] rfl (B41 _ (fun M v2 v3 hw => ih M v2 v3 hw) n0 M8 v2 v3 r7 hw)
  refine q_iload_n hC dX4_fits_0 1 rfl 1 rfl ?_
  refine q_iconst (v := 0) hC dX4_fits_1 rfl 2 rfl ?_
  refine q_iconst (v := 2) hC dX4_fits_2 rfl 3 rfl ?_
  refine r_callI hC (go_T (As := [.int v1, .int 0, .int 2]) (rest := []) hC (ctX4_isBetween (zl z) g M v1 0 2 _ hw) 3 gX4_fits_X4_isBetween rfl ⟨rfl, rfl⟩ hdT_X4_isBetween ⟨Nat.le_of_ble_eq_true rfl, Nat.le_of_ble_eq_true rfl⟩ rfl rfl (Nat.le_of_ble_eq_true rfl) dX4_fits_3) 6 rfl (fun r1 M2 hw => ?_)
  refine q_if_ne hC 11 dX4_fits_6 (by decide) 9 rfl hw (fun hw => ?_) (fun hw => ?_)
  · refine q_iconst (v := 0) hC dX4_fits_11 rfl 12 rfl ?_
    refine q_istore_n (L' := [(2, .int 0), (0, .ref (gA g 0)), (1, .int v1)]) hC dX4_fits_12 (by decide) rfl 13 rfl ?_
    refine q_gets hC 0 (by decide) (uX4_fits__o _ (List.mem_of_getElem? (l := owX4_fits) (i := 1) rfl)) dX4_fits_13 16 rfl ?_
    refine q_iconst (v := 1) hC dX4_fits_16 rfl 17 rfl ?_
    refine r_callI hC (go_T (As := [.ref (gS g 0), .int 1]) (rest := []) hC (ctX4_cell_s (zl z) g M2 0 1 _ (by decide) hw) 2 gX4_fits_X4_cell rfl ⟨rfl, rfl⟩ hdT_X4_cell ⟨Nat.le_of_ble_eq_true rfl, Nat.le_of_ble_eq_true rfl⟩ rfl rfl (Nat.le_of_ble_eq_true rfl) dX4_fits_17) 20 rfl (fun r3 M4 hw => ?_)
    refine q_istore_n (L' := [(3, .int r3), (2, .int 0), (0, .ref (gA g 0)), (1, .int v1)]) hC dX4_fits_20 (by decide) rfl 21 rfl ?_
    obtain ⟨n0, hw⟩ := hw
    exact XX.sub [2, 3, 1, 0] rfl (B21 n0 M4 0 r3 hw)
  · refine q_iconst (v := (-1)) hC dX4_fits_9 rfl 10 rfl ?_
    exact r_iret hR dX4_fits_10 hw
theorem inX4_imageNumbered_X4 : ∀ w ∈ u_ws RX4 TX4 12, w ∈ wsX4_imageNumbered := uX4_imageNumbered__wsX40
set_option maxRecDepth 100000 in
set_option maxHeartbeats 4000000 in
theorem ctX4_imageNumbered (l : Launch) (g : GG) (M : MM) (v1 : Int32) (Q : Nat → MM → Prop) (hF : full g) (hw : wX4_imageNumbered Q M v1) : MR g l yX4_imageNumbered wsX4_imageNumbered (rmOf 0 0) [.ref (gA g 0), .int v1] M Q := by
  refine mk_MR (cc := cX4_imageNumbered) (maxL := 2) (by decide) rfl (Nat.le_of_ble_eq_true rfl) ?_
  intro z Qf hC hR
  show XX z g Qf 2 0 [(0, .ref (gA g 0)), (1, .int v1)] [] M
  refine q_iload_n hC dX4_imageNumbered_0 1 rfl 1 rfl ?_
  refine q_if_ne hC 11 dX4_imageNumbered_1 (by decide) 4 rfl hw (fun hw => ?_) (fun hw => ?_)
  · refine q_aload_n hC dX4_imageNumbered_11 0 rfl 12 rfl ?_
    refine q_getR (C := RX4) (T := TX4) (N := 12) (ci := 4) hC inX4_imageNumbered_X4 (obF0 hF) rfl 4 (by decide) (uX4_imageNumbered__o _ (List.mem_of_getElem? (l := owX4_imageNumbered) (i := 2) rfl)) rfl 19 (fun _ => rfl) dX4_imageNumbered_12 15 rfl ?_
    exact r_aret hR dX4_imageNumbered_15 hw
  · refine q_aload_n hC dX4_imageNumbered_4 0 rfl 5 rfl ?_
    refine q_getR (C := RX4) (T := TX4) (N := 12) (ci := 4) hC inX4_imageNumbered_X4 (obF0 hF) rfl 3 (by decide) (uX4_imageNumbered__o _ (List.mem_of_getElem? (l := owX4_imageNumbered) (i := 1) rfl)) rfl 10 (fun _ => rfl) dX4_imageNumbered_5 8 rfl ?_
    refine q_goto hC 15 dX4_imageNumbered_8 (by decide) ?_
    exact r_aret hR dX4_imageNumbered_15 hw
theorem hdV_X4_imageNumbered : yX4_imageNumbered.cls = RX4 ∧ yX4_imageNumbered.cls ≠ "java/lang/invoke/MethodHandle" ∧ yX4_imageNumbered.cls ≠ "java/lang/invoke/VarHandle" ∧ (parseMethodDescriptor yX4_imageNumbered.desc).map (fun d => d.parameters.length) = some 1 := by decide +kernel
theorem inX4_keep_X4 : ∀ w ∈ u_ws RX4 TX4 12, w ∈ wsX4_keep := uX4_keep__wsX40
set_option maxRecDepth 100000 in
set_option maxHeartbeats 4000000 in
theorem ctX4_keep (l : Launch) (g : GG) (M : MM) (v1 : Int32) (Q : Int32 → MM → Prop) (hF : full g) (hw : wX4_keep Q M v1) : MI g l yX4_keep wsX4_keep (rmOf 3 102) [.ref (gA g 0), .int v1] M Q := by
  refine mk_MI (cc := cX4_keep) (maxL := 3) (by decide) rfl (Nat.le_of_ble_eq_true rfl) ?_
  intro z Qf hC hR
  show XX z g Qf 3 0 [(0, .ref (gA g 0)), (1, .int v1)] [] M
  refine q_iload_n hC dX4_keep_0 1 rfl 1 rfl ?_
  refine q_iconst (v := 0) hC dX4_keep_1 rfl 2 rfl ?_
  refine q_iconst (v := 1) hC dX4_keep_2 rfl 3 rfl ?_
  refine r_callI hC (go_T (As := [.int v1, .int 0, .int 1]) (rest := []) hC (ctX4_isBetween (zl z) g M v1 0 1 _ hw) 3 gX4_keep_X4_isBetween rfl ⟨rfl, rfl⟩ hdT_X4_isBetween ⟨Nat.le_of_ble_eq_true rfl, Nat.le_of_ble_eq_true rfl⟩ rfl rfl (Nat.le_of_ble_eq_true rfl) dX4_keep_3) 6 rfl (fun r1 M2 hw => ?_)
  refine q_if_ne hC 11 dX4_keep_6 (by decide) 9 rfl hw (fun hw => ?_) (fun hw => ?_)
  · refine q_aload_n hC dX4_keep_11 0 rfl 12 rfl ?_
    refine q_getI (C := RX4) (T := TX4) (N := 12) (ci := 4) hC inX4_keep_X4 (obF0 hF) rfl 11 (by decide) (uX4_keep__o _ (List.mem_of_getElem? (l := owX4_keep) (i := 1) rfl)) rfl (fun _ => rfl) dX4_keep_12 15 rfl ?_
    refine q_iload_n hC dX4_keep_15 1 rfl 16 rfl ?_
    refine q_ishr hC dX4_keep_16 17 rfl ?_
    refine q_iconst (v := 1) hC dX4_keep_17 rfl 18 rfl ?_
    refine q_iand hC dX4_keep_18 19 rfl ?_
    refine q_nameI (fun x3 ex3 => ?_)
    have hw := hw x3 ex3
    refine q_istore_n (L' := [(2, .int x3), (0, .ref (gA g 0)), (1, .int v1)]) hC dX4_keep_19 (by decide) rfl 20 rfl ?_
    refine q_aload_n hC dX4_keep_20 1 rfl 21 rfl ?_
    refine q_iload_n hC dX4_keep_21 2 rfl 22 rfl ?_
    refine r_callR hC (go_V (q := (RX4, TX4, 12)) (As := [.int v1]) (rest := []) hC (ctX4_imageNumbered (zl z) g M2 v1 _ hF hw) 1 gX4_keep_X4_imageNumbered rfl ⟨rfl, rfl⟩ hdV_X4_imageNumbered ⟨Nat.le_of_ble_eq_true rfl, Nat.le_of_ble_eq_true rfl⟩ (obF0 hF) rfl rfl rfl (Nat.le_of_ble_eq_true rfl) dX4_keep_22) 25 rfl (fun r4 M5 hw => ?_)
    obtain ⟨hq, hw⟩ := hw
    have hr4 := hF.tp hq
    refine q_aload_n hC dX4_keep_25 1 rfl 26 rfl ?_
    refine q_getR (C := RX4) (T := TX4) (N := 12) (ci := 4) hC inX4_keep_X4 (obF0 hF) rfl 0 (by decide) (uX4_keep__o _ (List.mem_of_getElem? (l := owX4_keep) (i := 2) rfl)) rfl 1 (fun _ => rfl) dX4_keep_26 29 rfl ?_
    refine r_callV hC (go_V (q := (RX2, TX2, 14)) (As := [.ref (gA g 1)]) (rest := []) hC (ctX2_becomes (zl z) g M5 r4 1 _ hr4 (hF.tp (b := 1) (Or.inl rfl)) hw) 1 gX4_keep_X2_becomes rfl ⟨rfl, rfl⟩ hdV_X2_becomes ⟨Nat.le_of_ble_eq_true rfl, Nat.le_of_ble_eq_true rfl⟩ hr4.ob rfl rfl rfl (Nat.le_of_ble_eq_true rfl) dX4_keep_29) 32 rfl (fun M6 hw => ?_)
    refine q_aload_n hC dX4_keep_32 1 rfl 33 rfl ?_
    refine q_dup hC dX4_keep_33 rfl 34 rfl ?_
    refine q_getI (C := RX4) (T := TX4) (N := 12) (ci := 4) hC inX4_keep_X4 (obF0 hF) rfl 11 (by decide) (uX4_keep__o _ (List.mem_of_getElem? (l := owX4_keep) (i := 1) rfl)) rfl (fun _ => rfl) dX4_keep_34 37 rfl ?_
    refine q_iconst (v := 1) hC dX4_keep_37 rfl 38 rfl ?_
    refine q_iload_n hC dX4_keep_38 2 rfl 39 rfl ?_
    refine q_ishl hC dX4_keep_39 40 rfl ?_
    refine q_ior hC dX4_keep_40 41 rfl ?_
    refine q_putI (C := RX4) (T := TX4) (N := 12) (ci := 4) hC inX4_keep_X4 tyX4 tyX4_ok nmX4 (obF0 hF) rfl 11 (by decide) (uX4_keep__o _ (List.mem_of_getElem? (l := owX4_keep) (i := 1) rfl)) rfl rfl rfl (fun _ => Nat.le_of_ble_eq_true rfl) (fun _ => rfl) dX4_keep_41 44 rfl (fun M7 eM7 => ?_)
    have hw := hw M7 eM7
    refine q_iload_n hC dX4_keep_44 0 rfl 45 rfl ?_
    exact r_iret hR dX4_keep_45 hw
  · refine q_iconst (v := (-1)) hC dX4_keep_9 rfl 10 rfl ?_
    exact r_iret hR dX4_keep_10 hw
theorem inX4_back_X2 : ∀ w ∈ u_ws RX2 TX2 14, w ∈ wsX4_back := uX4_back__wsX20
theorem inX4_back_X4 : ∀ w ∈ u_ws RX4 TX4 12, w ∈ wsX4_back := uX4_back__wsX40
set_option maxRecDepth 100000 in
set_option maxHeartbeats 4000000 in
theorem ctX4_back (l : Launch) (g : GG) (M : MM) (v1 : Int32) (Q : Int32 → MM → Prop) (hF : full g) (hw : wX4_back Q M v1) : MI g l yX4_back wsX4_back (rmOf 3 102) [.ref (gA g 0), .int v1] M Q := by
  refine mk_MI (cc := cX4_back) (maxL := 2) (by decide) rfl (Nat.le_of_ble_eq_true rfl) ?_
  intro z Qf hC hR
  show XX z g Qf 2 0 [(0, .ref (gA g 0)), (1, .int v1)] [] M
  refine q_iload_n hC dX4_back_0 1 rfl 1 rfl ?_
  refine q_iconst (v := 0) hC dX4_back_1 rfl 2 rfl ?_
  refine q_iconst (v := 1) hC dX4_back_2 rfl 3 rfl ?_
  refine r_callI hC (go_T (As := [.int v1, .int 0, .int 1]) (rest := []) hC (ctX4_isBetween (zl z) g M v1 0 1 _ hw) 3 gX4_back_X4_isBetween rfl ⟨rfl, rfl⟩ hdT_X4_isBetween ⟨Nat.le_of_ble_eq_true rfl, Nat.le_of_ble_eq_true rfl⟩ rfl rfl (Nat.le_of_ble_eq_true rfl) dX4_back_3) 6 rfl (fun r1 M2 hw => ?_)
  refine q_if_ne hC 11 dX4_back_6 (by decide) 9 rfl hw (fun hw => ?_) (fun hw => ?_)
  · refine q_aload_n hC dX4_back_11 0 rfl 12 rfl ?_
    refine q_getI (C := RX4) (T := TX4) (N := 12) (ci := 4) hC inX4_back_X4 (obF0 hF) rfl 11 (by decide) (uX4_back__o _ (List.mem_of_getElem? (l := owX4_back) (i := 1) rfl)) rfl (fun _ => rfl) dX4_back_12 15 rfl ?_
    refine q_iload_n hC dX4_back_15 1 rfl 16 rfl ?_
    refine q_ishr hC dX4_back_16 17 rfl ?_
    refine q_iconst (v := 1) hC dX4_back_17 rfl 18 rfl ?_
    refine q_iand hC dX4_back_18 19 rfl ?_
    refine q_if_ne hC 25 dX4_back_19 (by decide) 22 rfl hw (fun hw => ?_) (fun hw => ?_)
    · refine q_aload_n hC dX4_back_25 0 rfl 26 rfl ?_
      refine q_getR (C := RX4) (T := TX4) (N := 12) (ci := 4) hC inX4_back_X4 (obF0 hF) rfl 0 (by decide) (uX4_back__o _ (List.mem_of_getElem? (l := owX4_back) (i := 2) rfl)) rfl 1 (fun _ => rfl) dX4_back_26 29 rfl ?_
      refine q_aload_n hC dX4_back_29 0 rfl 30 rfl ?_
      refine q_iload_n hC dX4_back_30 1 rfl 31 rfl ?_
      refine r_callR hC (go_V (q := (RX4, TX4, 12)) (As := [.int v1]) (rest := [.ref (gA g 1)]) hC (ctX4_imageNumbered (zl z) g M2 v1 _ hF hw) 1 gX4_back_X4_imageNumbered rfl ⟨rfl, rfl⟩ hdV_X4_imageNumbered ⟨Nat.le_of_ble_eq_true rfl, Nat.le_of_ble_eq_true rfl⟩ (obF0 hF) rfl rfl rfl (Nat.le_of_ble_eq_true rfl) dX4_back_31) 34 rfl (fun r3 M4 hw => ?_)
      obtain ⟨hq, hw⟩ := hw
      have hr3 := hF.tp hq
      refine r_callV hC (go_V (q := (RX2, TX2, 14)) (As := [.ref (gA g r3)]) (rest := []) hC (ctX2_becomes (zl z) g M4 1 r3 _ (hF.tp (b := 1) (Or.inl rfl)) hr3 hw) 1 gX4_back_X2_becomes rfl ⟨rfl, rfl⟩ hdV_X2_becomes ⟨Nat.le_of_ble_eq_true rfl, Nat.le_of_ble_eq_true rfl⟩ (hF.tp (b := 1) (Or.inl rfl)).ob rfl rfl rfl (Nat.le_of_ble_eq_true rfl) dX4_back_34) 37 rfl (fun M5 hw => ?_)
      refine q_aload_n hC dX4_back_37 0 rfl 38 rfl ?_
      refine q_getR (C := RX4) (T := TX4) (N := 12) (ci := 4) hC inX4_back_X4 (obF0 hF) rfl 0 (by decide) (uX4_back__o _ (List.mem_of_getElem? (l := owX4_back) (i := 2) rfl)) rfl 1 (fun _ => rfl) dX4_back_38 41 rfl ?_
      refine q_getI (C := RX2) (T := TX2) (N := 14) (ci := 2) hC inX4_back_X2 (hF.tp (b := 1) (Or.inl rfl)).ob rfl 8 (by decide) (uX4_back__o _ (List.mem_of_getElem? (l := owX4_back) (i := 3) rfl)) rfl (fun _ => rfl) dX4_back_41 44 rfl ?_
      exact r_iret hR dX4_back_44 hw
    · refine q_bipush (v := (-2)) hC dX4_back_22 (by decide) 24 rfl ?_
      exact r_iret hR dX4_back_24 hw
  · refine q_iconst (v := (-1)) hC dX4_back_9 rfl 10 rfl ?_
    exact r_iret hR dX4_back_10 hw
