theorem hdV_X5_playedTo : yX5_playedTo.cls = RX5 ∧ yX5_playedTo.cls ≠ "java/lang/invoke/MethodHandle" ∧ yX5_playedTo.cls ≠ "java/lang/invoke/VarHandle" ∧ (parseMethodDescriptor yX5_playedTo.desc).map (fun d => d.parameters.length) = some 2 := by decide +kernel
theorem hdV_X5_woundTo : yX5_woundTo.cls = RX5 ∧ yX5_woundTo.cls ≠ "java/lang/invoke/MethodHandle" ∧ yX5_woundTo.cls ≠ "java/lang/invoke/VarHandle" ∧ (parseMethodDescriptor yX5_woundTo.desc).map (fun d => d.parameters.length) = some 2 := by decide +kernel
theorem hdT_X5_less : yX5_less.cls ≠ "java/lang/invoke/MethodHandle" ∧ yX5_less.cls ≠ "java/lang/invoke/VarHandle" ∧ (parseMethodDescriptor yX5_less.desc).map (fun d => d.parameters.length) = some 2 := by decide +kernel
set_option maxRecDepth 100000 in
set_option maxHeartbeats 4000000 in
theorem ctX5_sooner (l : Launch) (g : GG) (M : MM) (v1 : Int32) (v2 : Int32) (Q : Int32 → MM → Prop) (hF : full g) (hw : wX5_sooner Q M v1 v2) : MI g l yX5_sooner wsX5_sooner (rmOf 3 68) [.ref (gA g 52), .int v1, .int v2] M Q := by
  refine mk_MI (cc := cX5_sooner) (maxL := 3) (by decide) rfl (Nat.le_of_ble_eq_true rfl) ?_
  intro z Qf hC hR
  show XX z g Qf 3 0 [(0, .ref (gA g 52)), (1, .int v1), (2, .int v2)] [] M
  refine q_aload_n hC dX5_sooner_0 0 rfl 1 rfl ?_
  refine q_iload_n hC dX5_sooner_1 1 rfl 2 rfl ?_
  refine q_iload_n hC dX5_sooner_2 2 rfl 3 rfl ?_
  refine r_callI hC (go_V (q := (RX5, TX5, 26)) (As := [.int v1, .int v2]) (rest := []) hC (ctX5_playedTo (zl z) g M v1 v2 _ hF hw) 2 gX5_sooner_X5_playedTo rfl ⟨rfl, rfl⟩ hdV_X5_playedTo ⟨Nat.le_of_ble_eq_true rfl, Nat.le_of_ble_eq_true rfl⟩ (obF52 hF) rfl rfl rfl (Nat.le_of_ble_eq_true rfl) dX5_sooner_3) 6 rfl (fun r1 M2 hw => ?_)
  refine q_aload_n hC dX5_sooner_6 0 rfl 7 rfl ?_
  refine q_iload_n hC dX5_sooner_7 1 rfl 8 rfl ?_
  refine q_iload_n hC dX5_sooner_8 2 rfl 9 rfl ?_
  refine r_callI hC (go_V (q := (RX5, TX5, 26)) (As := [.int v1, .int v2]) (rest := [.int r1]) hC (ctX5_woundTo (zl z) g M2 v1 v2 _ hF hw) 2 gX5_sooner_X5_woundTo rfl ⟨rfl, rfl⟩ hdV_X5_woundTo ⟨Nat.le_of_ble_eq_true rfl, Nat.le_of_ble_eq_true rfl⟩ (obF52 hF) rfl rfl rfl (Nat.le_of_ble_eq_true rfl) dX5_sooner_9) 12 rfl (fun r3 M4 hw => ?_)
  refine r_callI hC (go_T (As := [.int r1, .int r3]) (rest := []) hC (ctX5_less (zl z) g M4 r1 r3 _ hw) 2 gX5_sooner_X5_less rfl ⟨rfl, rfl⟩ hdT_X5_less ⟨Nat.le_of_ble_eq_true rfl, Nat.le_of_ble_eq_true rfl⟩ rfl rfl (Nat.le_of_ble_eq_true rfl) dX5_sooner_12) 15 rfl (fun r5 M6 hw => ?_)
  exact r_iret hR dX5_sooner_15 hw
theorem hdV_X5_sooner : yX5_sooner.cls = RX5 ∧ yX5_sooner.cls ≠ "java/lang/invoke/MethodHandle" ∧ yX5_sooner.cls ≠ "java/lang/invoke/VarHandle" ∧ (parseMethodDescriptor yX5_sooner.desc).map (fun d => d.parameters.length) = some 2 := by decide +kernel
set_option maxRecDepth 100000 in
set_option maxHeartbeats 4000000 in
theorem ctX5_ticks (l : Launch) (g : GG) (M : MM) (v1 : Int32) (v2 : Int32) (v3 : Int32) (Q : Int32 → MM → Prop) (hF : full g) (hw : wX5_ticks Q M v1 v2 v3) : MI g l yX5_ticks wsX5_ticks (rmOf 4 90) [.ref (gA g 52), .int v1, .int v2, .int v3] M Q := by
  refine mk_MI (cc := cX5_ticks) (maxL := 4) (by decide) rfl (Nat.le_of_ble_eq_true rfl) ?_
  intro z Qf hC hR
  show XX z g Qf 4 0 [(0, .ref (gA g 52)), (1, .int v1), (2, .int v2), (3, .int v3)] [] M
  refine q_aload_n hC dX5_ticks_0 0 rfl 1 rfl ?_
  refine q_iload_n hC dX5_ticks_1 1 rfl 2 rfl ?_
  refine r_callI hC (go_V (q := (RX5, TX5, 26)) (As := [.int v1]) (rest := []) hC (ctX5_isPlace (zl z) g M v1 _ hF hw) 1 gX5_ticks_X5_isPlace rfl ⟨rfl, rfl⟩ hdV_X5_isPlace ⟨Nat.le_of_ble_eq_true rfl, Nat.le_of_ble_eq_true rfl⟩ (obF52 hF) rfl rfl rfl (Nat.le_of_ble_eq_true rfl) dX5_ticks_2) 5 rfl (fun r1 M2 hw => ?_)
  refine q_if_eq hC 28 dX5_ticks_5 (by decide) 8 rfl hw (fun hw => ?_) (fun hw => ?_)
  · refine q_iconst (v := (-1)) hC dX5_ticks_28 rfl 29 rfl ?_
    exact r_iret hR dX5_ticks_29 hw
  · refine q_aload_n hC dX5_ticks_8 0 rfl 9 rfl ?_
    refine q_iload_n hC dX5_ticks_9 2 rfl 10 rfl ?_
    refine r_callI hC (go_V (q := (RX5, TX5, 26)) (As := [.int v2]) (rest := []) hC (ctX5_isPlace (zl z) g M2 v2 _ hF hw) 1 gX5_ticks_X5_isPlace rfl ⟨rfl, rfl⟩ hdV_X5_isPlace ⟨Nat.le_of_ble_eq_true rfl, Nat.le_of_ble_eq_true rfl⟩ (obF52 hF) rfl rfl rfl (Nat.le_of_ble_eq_true rfl) dX5_ticks_10) 13 rfl (fun r3 M4 hw => ?_)
    refine q_if_eq hC 28 dX5_ticks_13 (by decide) 16 rfl hw (fun hw => ?_) (fun hw => ?_)
    · refine q_iconst (v := (-1)) hC dX5_ticks_28 rfl 29 rfl ?_
      exact r_iret hR dX5_ticks_29 hw
    · refine q_iload_n hC dX5_ticks_16 3 rfl 17 rfl ?_
      refine q_i2l hC dX5_ticks_17 18 rfl ?_
      refine q_lconst (v := 0) hC dX5_ticks_18 rfl 19 rfl ?_
      refine q_ldc2 (v := 2) hC (List.mem_of_getElem? (i := 1) (by decide +kernel)) dX5_ticks_19 22 rfl ?_
      refine r_callI hC (go_T (As := [.long (v3.toInt64), .long 0, .long 2]) (rest := []) hC (ctX5_in (zl z) g M4 (v3.toInt64) 0 2 _ hw) 3 gX5_ticks_X5_in rfl ⟨rfl, rfl⟩ hdT_X5_in ⟨Nat.le_of_ble_eq_true rfl, Nat.le_of_ble_eq_true rfl⟩ rfl rfl (Nat.le_of_ble_eq_true rfl) dX5_ticks_22) 25 rfl (fun r5 M6 hw => ?_)
      refine q_if_ne hC 30 dX5_ticks_25 (by decide) 28 rfl hw (fun hw => ?_) (fun hw => ?_)
      · refine q_iload_n hC dX5_ticks_30 3 rfl 31 rfl ?_
        refine q_if_ne hC 43 dX5_ticks_31 (by decide) 34 rfl hw (fun hw => ?_) (fun hw => ?_)
        · refine q_iload_n hC dX5_ticks_43 3 rfl 44 rfl ?_
          refine q_iconst (v := 1) hC dX5_ticks_44 rfl 45 rfl ?_
          refine q_icmp_ne hC 57 dX5_ticks_45 (by decide) 48 rfl hw (fun hw => ?_) (fun hw => ?_)
          · refine q_aload_n hC dX5_ticks_57 0 rfl 58 rfl ?_
            refine q_iload_n hC dX5_ticks_58 1 rfl 59 rfl ?_
            refine q_iload_n hC dX5_ticks_59 2 rfl 60 rfl ?_
            refine r_callI hC (go_V (q := (RX5, TX5, 26)) (As := [.int v1, .int v2]) (rest := []) hC (ctX5_sooner (zl z) g M6 v1 v2 _ hF hw) 2 gX5_ticks_X5_sooner rfl ⟨rfl, rfl⟩ hdV_X5_sooner ⟨Nat.le_of_ble_eq_true rfl, Nat.le_of_ble_eq_true rfl⟩ (obF52 hF) rfl rfl rfl (Nat.le_of_ble_eq_true rfl) dX5_ticks_60) 63 rfl (fun r7 M8 hw => ?_)
            exact r_iret hR dX5_ticks_63 hw
          · refine q_aload_n hC dX5_ticks_48 0 rfl 49 rfl ?_
            refine q_iload_n hC dX5_ticks_49 1 rfl 50 rfl ?_
            refine q_iload_n hC dX5_ticks_50 2 rfl 51 rfl ?_
            refine r_callI hC (go_V (q := (RX5, TX5, 26)) (As := [.int v1, .int v2]) (rest := []) hC (ctX5_woundTo (zl z) g M6 v1 v2 _ hF hw) 2 gX5_ticks_X5_woundTo rfl ⟨rfl, rfl⟩ hdV_X5_woundTo ⟨Nat.le_of_ble_eq_true rfl, Nat.le_of_ble_eq_true rfl⟩ (obF52 hF) rfl rfl rfl (Nat.le_of_ble_eq_true rfl) dX5_ticks_51) 54 rfl (fun r9 M10 hw => ?_)
            refine q_goto hC 63 dX5_ticks_54 (by decide) ?_
            exact r_iret hR dX5_ticks_63 hw
        · refine q_aload_n hC dX5_ticks_34 0 rfl 35 rfl ?_
          refine q_iload_n hC dX5_ticks_35 1 rfl 36 rfl ?_
          refine q_iload_n hC dX5_ticks_36 2 rfl 37 rfl ?_
          refine r_callI hC (go_V (q := (RX5, TX5, 26)) (As := [.int v1, .int v2]) (rest := []) hC (ctX5_playedTo (zl z) g M6 v1 v2 _ hF hw) 2 gX5_ticks_X5_playedTo rfl ⟨rfl, rfl⟩ hdV_X5_playedTo ⟨Nat.le_of_ble_eq_true rfl, Nat.le_of_ble_eq_true rfl⟩ (obF52 hF) rfl rfl rfl (Nat.le_of_ble_eq_true rfl) dX5_ticks_37) 40 rfl (fun r11 M12 hw => ?_)
          refine q_goto hC 63 dX5_ticks_40 (by decide) ?_
          exact r_iret hR dX5_ticks_63 hw
      · refine q_iconst (v := (-1)) hC dX5_ticks_28 rfl 29 rfl ?_
        exact r_iret hR dX5_ticks_29 hw
set_option maxRecDepth 20000 in
theorem inX5_goesTo_X5 : ∀ w ∈ u_ws RX5 TX5 26, w ∈ wsX5_goesTo := by decide +kernel
set_option maxRecDepth 100000 in
set_option maxHeartbeats 4000000 in
theorem ctX5_goesTo (l : Launch) (g : GG) (M : MM) (v1 : Int32) (Q : Int32 → MM → Prop) (hF : full g) (hw : wX5_goesTo Q M v1) : MI g l yX5_goesTo wsX5_goesTo (rmOf 4 90) [.ref (gA g 52), .int v1] M Q := by
  refine mk_MI (cc := cX5_goesTo) (maxL := 3) (by decide) rfl (Nat.le_of_ble_eq_true rfl) ?_
  intro z Qf hC hR
  show XX z g Qf 3 0 [(0, .ref (gA g 52)), (1, .int v1)] [] M
  refine q_aload_n hC dX5_goesTo_0 0 rfl 1 rfl ?_
  refine q_aload_n hC dX5_goesTo_1 0 rfl 2 rfl ?_
  refine q_getR (C := RX5) (T := TX5) (N := 26) (ci := 5) hC inX5_goesTo_X5 (obF52 hF) rfl 0 (by decide) (List.mem_of_getElem? (i := 1) (by decide +kernel)) rfl 53 (fun _ => rfl) dX5_goesTo_2 5 rfl ?_
  refine q_sipush (v := 325) hC dX5_goesTo_5 (by decide) 8 rfl ?_
  obtain ⟨hin, hw⟩ := hw
  refine q_iald hC (arF53 hF) hin dX5_goesTo_8 9 rfl ?_
  refine q_iload_n hC dX5_goesTo_9 1 rfl 10 rfl ?_
  refine r_callI hC (go_V (q := (RX5, TX5, 26)) (As := [.int (M 53 (325 : Int32).toNatClampNeg), .int v1]) (rest := []) hC (ctX5_sooner (zl z) g M (M 53 (325 : Int32).toNatClampNeg) v1 _ hF hw) 2 gX5_goesTo_X5_sooner rfl ⟨rfl, rfl⟩ hdV_X5_sooner ⟨Nat.le_of_ble_eq_true rfl, Nat.le_of_ble_eq_true rfl⟩ (obF52 hF) rfl rfl rfl (Nat.le_of_ble_eq_true rfl) dX5_goesTo_10) 13 rfl (fun r1 M2 hw => ?_)
  refine q_istore_n (L' := [(2, .int r1), (0, .ref (gA g 52)), (1, .int v1)]) hC dX5_goesTo_13 (by decide) rfl 14 rfl ?_
  refine q_aload_n hC dX5_goesTo_14 1 rfl 15 rfl ?_
  refine q_getR (C := RX5) (T := TX5) (N := 26) (ci := 5) hC inX5_goesTo_X5 (obF52 hF) rfl 0 (by decide) (List.mem_of_getElem? (i := 1) (by decide +kernel)) rfl 53 (fun _ => rfl) dX5_goesTo_15 18 rfl ?_
  refine q_sipush (v := 325) hC dX5_goesTo_18 (by decide) 21 rfl ?_
  refine q_iload_n hC dX5_goesTo_21 2 rfl 22 rfl ?_
  obtain ⟨hin, hw⟩ := hw
  refine q_iast hC (arF53 hF) hin dX5_goesTo_22 23 rfl (fun M3 eM3 => ?_)
  have hw := hw M3 eM3
  refine q_aload_n hC dX5_goesTo_23 1 rfl 24 rfl ?_
  refine q_getR (C := RX5) (T := TX5) (N := 26) (ci := 5) hC inX5_goesTo_X5 (obF52 hF) rfl 0 (by decide) (List.mem_of_getElem? (i := 1) (by decide +kernel)) rfl 53 (fun _ => rfl) dX5_goesTo_24 27 rfl ?_
  refine q_sipush (v := 326) hC dX5_goesTo_27 (by decide) 30 rfl ?_
  refine q_dup2 hC dX5_goesTo_30 rfl rfl 31 rfl ?_
  obtain ⟨hin, hw⟩ := hw
  refine q_iald hC (arF53 hF) hin dX5_goesTo_31 32 rfl ?_
  refine q_iload_n hC dX5_goesTo_32 0 rfl 33 rfl ?_
  refine q_iadd hC dX5_goesTo_33 34 rfl ?_
  obtain ⟨hin, hw⟩ := hw
  refine q_iast hC (arF53 hF) hin dX5_goesTo_34 35 rfl (fun M4 eM4 => ?_)
  have hw := hw M4 eM4
  refine q_iload_n hC dX5_goesTo_35 0 rfl 36 rfl ?_
  exact r_iret hR dX5_goesTo_36 hw
theorem hdV_X5_goesTo : yX5_goesTo.cls = RX5 ∧ yX5_goesTo.cls ≠ "java/lang/invoke/MethodHandle" ∧ yX5_goesTo.cls ≠ "java/lang/invoke/VarHandle" ∧ (parseMethodDescriptor yX5_goesTo.desc).map (fun d => d.parameters.length) = some 1 := by decide +kernel
set_option maxRecDepth 100000 in
set_option maxHeartbeats 4000000 in
theorem ctX5_go (l : Launch) (g : GG) (M : MM) (v1 : Int32) (Q : Int32 → MM → Prop) (hF : full g) (hw : wX5_go Q M v1) : MI g l yX5_go wsX5_go (rmOf 5 112) [.ref (gA g 52), .int v1] M Q := by
  refine mk_MI (cc := cX5_go) (maxL := 2) (by decide) rfl (Nat.le_of_ble_eq_true rfl) ?_
  intro z Qf hC hR
  show XX z g Qf 2 0 [(0, .ref (gA g 52)), (1, .int v1)] [] M
  refine q_aload_n hC dX5_go_0 0 rfl 1 rfl ?_
  refine q_iload_n hC dX5_go_1 1 rfl 2 rfl ?_
  refine r_callI hC (go_V (q := (RX5, TX5, 26)) (As := [.int v1]) (rest := []) hC (ctX5_isPlace (zl z) g M v1 _ hF hw) 1 gX5_go_X5_isPlace rfl ⟨rfl, rfl⟩ hdV_X5_isPlace ⟨Nat.le_of_ble_eq_true rfl, Nat.le_of_ble_eq_true rfl⟩ (obF52 hF) rfl rfl rfl (Nat.le_of_ble_eq_true rfl) dX5_go_2) 5 rfl (fun r1 M2 hw => ?_)
  refine q_if_eq hC 16 dX5_go_5 (by decide) 8 rfl hw (fun hw => ?_) (fun hw => ?_)
  · refine q_iconst (v := (-1)) hC dX5_go_16 rfl 17 rfl ?_
    exact r_iret hR dX5_go_17 hw
  · refine q_aload_n hC dX5_go_8 0 rfl 9 rfl ?_
    refine q_iload_n hC dX5_go_9 1 rfl 10 rfl ?_
    refine r_callI hC (go_V (q := (RX5, TX5, 26)) (As := [.int v1]) (rest := []) hC (ctX5_goesTo (zl z) g M2 v1 _ hF hw) 1 gX5_go_X5_goesTo rfl ⟨rfl, rfl⟩ hdV_X5_goesTo ⟨Nat.le_of_ble_eq_true rfl, Nat.le_of_ble_eq_true rfl⟩ (obF52 hF) rfl rfl rfl (Nat.le_of_ble_eq_true rfl) dX5_go_10) 13 rfl (fun r3 M4 hw => ?_)
    refine q_goto hC 17 dX5_go_13 (by decide) ?_
    exact r_iret hR dX5_go_17 hw
set_option maxRecDepth 20000 in
theorem inX5_endOfAll_X5 : ∀ w ∈ u_ws RX5 TX5 26, w ∈ wsX5_endOfAll := by decide +kernel
set_option maxRecDepth 100000 in
set_option maxHeartbeats 4000000 in
theorem ctX5_endOfAll (l : Launch) (g : GG) (M : MM)  (Q : Int32 → MM → Prop) (hF : full g) (hw : wX5_endOfAll Q M ) : MI g l yX5_endOfAll wsX5_endOfAll (rmOf 2 42) [.ref (gA g 52)] M Q := by
  refine mk_MI (cc := cX5_endOfAll) (maxL := 1) (by decide) rfl (Nat.le_of_ble_eq_true rfl) ?_
  intro z Qf hC hR
  show XX z g Qf 1 0 [(0, .ref (gA g 52))] [] M
  refine q_aload_n hC dX5_endOfAll_0 0 rfl 1 rfl ?_
  refine q_getR (C := RX5) (T := TX5) (N := 26) (ci := 5) hC inX5_endOfAll_X5 (obF52 hF) rfl 0 (by decide) (List.mem_of_getElem? (i := 1) (by decide +kernel)) rfl 53 (fun _ => rfl) dX5_endOfAll_1 4 rfl ?_
  refine q_iconst (v := 0) hC dX5_endOfAll_4 rfl 5 rfl ?_
  obtain ⟨hin, hw⟩ := hw
  refine q_iald hC (arF53 hF) hin dX5_endOfAll_5 6 rfl ?_
  refine q_if_ne hC 13 dX5_endOfAll_6 (by decide) 9 rfl hw (fun hw => ?_) (fun hw => ?_)
  · refine q_aload_n hC dX5_endOfAll_13 0 rfl 14 rfl ?_
    refine q_aload_n hC dX5_endOfAll_14 0 rfl 15 rfl ?_
    refine q_getR (C := RX5) (T := TX5) (N := 26) (ci := 5) hC inX5_endOfAll_X5 (obF52 hF) rfl 0 (by decide) (List.mem_of_getElem? (i := 1) (by decide +kernel)) rfl 53 (fun _ => rfl) dX5_endOfAll_15 18 rfl ?_
    refine q_iconst (v := 0) hC dX5_endOfAll_18 rfl 19 rfl ?_
    obtain ⟨hin, hw⟩ := hw
    refine q_iald hC (arF53 hF) hin dX5_endOfAll_19 20 rfl ?_
    refine q_iconst (v := 1) hC dX5_endOfAll_20 rfl 21 rfl ?_
    refine q_isub hC dX5_endOfAll_21 22 rfl ?_
    refine r_callI hC (go_V (q := (RX5, TX5, 26)) (As := [.int ((M 53 (0 : Int32).toNatClampNeg) - (1 : Int32))]) (rest := []) hC (ctX5_endOf (zl z) g M ((M 53 (0 : Int32).toNatClampNeg) - (1 : Int32)) _ hF hw) 1 gX5_endOfAll_X5_endOf rfl ⟨rfl, rfl⟩ hdV_X5_endOf ⟨Nat.le_of_ble_eq_true rfl, Nat.le_of_ble_eq_true rfl⟩ (obF52 hF) rfl rfl rfl (Nat.le_of_ble_eq_true rfl) dX5_endOfAll_22) 25 rfl (fun r1 M2 hw => ?_)
    exact r_iret hR dX5_endOfAll_25 hw
  · refine q_iconst (v := 0) hC dX5_endOfAll_9 rfl 10 rfl ?_
    refine q_goto hC 25 dX5_endOfAll_10 (by decide) ?_
    exact r_iret hR dX5_endOfAll_25 hw
theorem hdV_X5_endOfAll : yX5_endOfAll.cls = RX5 ∧ yX5_endOfAll.cls ≠ "java/lang/invoke/MethodHandle" ∧ yX5_endOfAll.cls ≠ "java/lang/invoke/VarHandle" ∧ (parseMethodDescriptor yX5_endOfAll.desc).map (fun d => d.parameters.length) = some 0 := by decide +kernel
set_option maxRecDepth 20000 in
theorem inX5_now_X5 : ∀ w ∈ u_ws RX5 TX5 26, w ∈ wsX5_now := by decide +kernel
set_option maxRecDepth 100000 in
set_option maxHeartbeats 4000000 in
theorem ctX5_now (l : Launch) (g : GG) (M : MM) (v1 : Int32) (Q : Int32 → MM → Prop) (hF : full g) (hw : wX5_now Q M v1) : MI g l yX5_now wsX5_now (rmOf 3 62) [.ref (gA g 52), .int v1] M Q := by
  refine mk_MI (cc := cX5_now) (maxL := 2) (by decide) rfl (Nat.le_of_ble_eq_true rfl) ?_
  intro z Qf hC hR
  show XX z g Qf 2 0 [(0, .ref (gA g 52)), (1, .int v1)] [] M
  refine q_iload_n hC dX5_now_0 1 rfl 1 rfl ?_
  by_cases c0 : v1 = 0
  · have hw := hw.1 c0
    refine q_tabIn hC 40 dX5_now_1 (by rw [c0]; decide) (by rw [c0]; decide) (by rw [c0]; rfl) (by decide) ?_
    refine q_aload_n hC dX5_now_40 0 rfl 41 rfl ?_
    refine q_getR (C := RX5) (T := TX5) (N := 26) (ci := 5) hC inX5_now_X5 (obF52 hF) rfl 0 (by decide) (List.mem_of_getElem? (i := 1) (by decide +kernel)) rfl 53 (fun _ => rfl) dX5_now_41 44 rfl ?_
    refine q_sipush (v := 325) hC dX5_now_44 (by decide) 47 rfl ?_
    obtain ⟨hin, hw⟩ := hw
    refine q_iald hC (arF53 hF) hin dX5_now_47 48 rfl ?_
    exact r_iret hR dX5_now_48 hw
  · have hw := hw.2 c0
    by_cases c1 : v1 = 1
    · have hw := hw.1 c1
      refine q_tabIn hC 49 dX5_now_1 (by rw [c1]; decide) (by rw [c1]; decide) (by rw [c1]; rfl) (by decide) ?_
      refine q_aload_n hC dX5_now_49 0 rfl 50 rfl ?_
      refine q_getR (C := RX5) (T := TX5) (N := 26) (ci := 5) hC inX5_now_X5 (obF52 hF) rfl 0 (by decide) (List.mem_of_getElem? (i := 1) (by decide +kernel)) rfl 53 (fun _ => rfl) dX5_now_50 53 rfl ?_
      refine q_sipush (v := 326) hC dX5_now_53 (by decide) 56 rfl ?_
      obtain ⟨hin, hw⟩ := hw
      refine q_iald hC (arF53 hF) hin dX5_now_56 57 rfl ?_
      exact r_iret hR dX5_now_57 hw
    · have hw := hw.2 c1
      by_cases c2 : v1 = 2
      · have hw := hw.1 c2
        refine q_tabIn hC 58 dX5_now_1 (by rw [c2]; decide) (by rw [c2]; decide) (by rw [c2]; rfl) (by decide) ?_
        refine q_aload_n hC dX5_now_58 0 rfl 59 rfl ?_
        refine q_aload_n hC dX5_now_59 0 rfl 60 rfl ?_
        refine q_getR (C := RX5) (T := TX5) (N := 26) (ci := 5) hC inX5_now_X5 (obF52 hF) rfl 0 (by decide) (List.mem_of_getElem? (i := 1) (by decide +kernel)) rfl 53 (fun _ => rfl) dX5_now_60 63 rfl ?_
        refine q_sipush (v := 325) hC dX5_now_63 (by decide) 66 rfl ?_
        obtain ⟨hin, hw⟩ := hw
        refine q_iald hC (arF53 hF) hin dX5_now_66 67 rfl ?_
        refine r_callI hC (go_V (q := (RX5, TX5, 26)) (As := [.int (M 53 (325 : Int32).toNatClampNeg)]) (rest := []) hC (ctX5_turnsAt (zl z) g M (M 53 (325 : Int32).toNatClampNeg) _ hF hw) 1 gX5_now_X5_turnsAt rfl ⟨rfl, rfl⟩ hdV_X5_turnsAt ⟨Nat.le_of_ble_eq_true rfl, Nat.le_of_ble_eq_true rfl⟩ (obF52 hF) rfl rfl rfl (Nat.le_of_ble_eq_true rfl) dX5_now_67) 70 rfl (fun r1 M2 hw => ?_)
        exact r_iret hR dX5_now_70 hw
      · have hw := hw.2 c2
        by_cases c3 : v1 = 3
        · have hw := hw.1 c3
          refine q_tabIn hC 71 dX5_now_1 (by rw [c3]; decide) (by rw [c3]; decide) (by rw [c3]; rfl) (by decide) ?_
          refine q_aload_n hC dX5_now_71 0 rfl 72 rfl ?_
          refine q_getR (C := RX5) (T := TX5) (N := 26) (ci := 5) hC inX5_now_X5 (obF52 hF) rfl 0 (by decide) (List.mem_of_getElem? (i := 1) (by decide +kernel)) rfl 53 (fun _ => rfl) dX5_now_72 75 rfl ?_
          refine q_sipush (v := 340) hC dX5_now_75 (by decide) 78 rfl ?_
          obtain ⟨hin, hw⟩ := hw
          refine q_iald hC (arF53 hF) hin dX5_now_78 79 rfl ?_
          exact r_iret hR dX5_now_79 hw
        · have hw := hw.2 c3
          by_cases c4 : v1 = 4
          · have hw := hw.1 c4
            refine q_tabIn hC 80 dX5_now_1 (by rw [c4]; decide) (by rw [c4]; decide) (by rw [c4]; rfl) (by decide) ?_
            refine q_aload_n hC dX5_now_80 0 rfl 81 rfl ?_
            refine q_getR (C := RX5) (T := TX5) (N := 26) (ci := 5) hC inX5_now_X5 (obF52 hF) rfl 0 (by decide) (List.mem_of_getElem? (i := 1) (by decide +kernel)) rfl 53 (fun _ => rfl) dX5_now_81 84 rfl ?_
            refine q_sipush (v := 327) hC dX5_now_84 (by decide) 87 rfl ?_
            obtain ⟨hin, hw⟩ := hw
            refine q_iald hC (arF53 hF) hin dX5_now_87 88 rfl ?_
            exact r_iret hR dX5_now_88 hw
          · have hw := hw.2 c4
            by_cases c5 : v1 = 5
            · have hw := hw.1 c5
              refine q_tabIn hC 89 dX5_now_1 (by rw [c5]; decide) (by rw [c5]; decide) (by rw [c5]; rfl) (by decide) ?_
              refine q_aload_n hC dX5_now_89 0 rfl 90 rfl ?_
              refine q_getR (C := RX5) (T := TX5) (N := 26) (ci := 5) hC inX5_now_X5 (obF52 hF) rfl 0 (by decide) (List.mem_of_getElem? (i := 1) (by decide +kernel)) rfl 53 (fun _ => rfl) dX5_now_90 93 rfl ?_
              refine q_sipush (v := 366) hC dX5_now_93 (by decide) 96 rfl ?_
              obtain ⟨hin, hw⟩ := hw
              refine q_iald hC (arF53 hF) hin dX5_now_96 97 rfl ?_
              refine q_aload_n hC dX5_now_97 0 rfl 98 rfl ?_
              refine r_callI hC (go_V (q := (RX5, TX5, 26)) (As := []) (rest := [.int (M 53 (366 : Int32).toNatClampNeg)]) hC (ctX5_endOfAll (zl z) g M _ hF hw) 0 gX5_now_X5_endOfAll rfl ⟨rfl, rfl⟩ hdV_X5_endOfAll ⟨Nat.le_of_ble_eq_true rfl, Nat.le_of_ble_eq_true rfl⟩ (obF52 hF) rfl rfl rfl (Nat.le_of_ble_eq_true rfl) dX5_now_98) 101 rfl (fun r3 M4 hw => ?_)
              refine q_isub hC dX5_now_101 102 rfl ?_
              exact r_iret hR dX5_now_102 hw
            · have hw := hw.2 c5
              refine q_tabOut hC 103 dX5_now_1 (tab_out5 c0 c1 c2 c3 c4 c5) (by decide) ?_
              refine q_iconst (v := (-1)) hC dX5_now_103 rfl 104 rfl ?_
              exact r_iret hR dX5_now_104 hw
set_option maxRecDepth 20000 in
theorem inX5_within_X5 : ∀ w ∈ u_ws RX5 TX5 26, w ∈ wsX5_within := by decide +kernel
set_option maxRecDepth 100000 in
set_option maxHeartbeats 4000000 in
theorem ctX5_within (l : Launch) (g : GG) (M : MM) (v1 : Int32) (v2 : Int32) (Q : Int32 → MM → Prop) (hF : full g) (hw : wX5_within Q M v1 v2) : MI g l yX5_within wsX5_within (rmOf 4 90) [.ref (gA g 52), .int v1, .int v2] M Q := by
  refine mk_MI (cc := cX5_within) (maxL := 5) (by decide) rfl (Nat.le_of_ble_eq_true rfl) ?_
  intro z Qf hC hR
  show XX z g Qf 5 0 [(0, .ref (gA g 52)), (1, .int v1), (2, .int v2)] [] M
  have B124 : ∀ (K83 : MM → Int32 → Int32 → Prop) (hK83 : ∀ (M : MM) (v3 : Int32) (v4 : Int32) , K83 M v3 v4 → XX z g Qf 5 83 [(0, .ref (gA g 52)), (1, .int v1), (2, .int v2), (3, .int v3), (4, .int v4)] [] M) (M : MM) (v4 : Int32) (p0 : Int32), wX5_within_124 Q K83 v1 v2 M v4 p0 → XX z g Qf 5 124 [(0, .ref (gA g 52)), (1, .int v1), (2, .int v2), (4, .int v4)] [.int p0] M := by
    intro K83 hK83 M v4 p0 hw
    refine q_istore_n (L' := [(3, .int p0), (0, .ref (gA g 52)), (1, .int v1), (2, .int v2), (4, .int v4)]) hC dX5_within_124 (by decide) rfl 125 rfl ?_
    refine q_iinc (v := v4 + 1) (L' := [(4, .int (v4 + 1)), (3, .int p0), (0, .ref (gA g 52)), (1, .int v1), (2, .int v2)]) hC dX5_within_125 4 rfl rfl (by decide) rfl 128 rfl ?_
    refine q_goto hC 83 dX5_within_128 (by decide) ?_
    exact XX.sub [2, 3, 4, 1, 0] rfl (hK83 M p0 (v4 + 1) hw)
  have B83 : ∀ (n : Nat) (M : MM) (v3 : Int32) (v4 : Int32) , wX5_within_83 Q v1 v2 n M v3 v4 → XX z g Qf 5 83 [(0, .ref (gA g 52)), (1, .int v1), (2, .int v2), (3, .int v3), (4, .int v4)] [] M := by
    intro n
    induction n with
    | zero =>
      intro M v3 v4 hw
      exact hw.elim
    | succ n ih =>
      intro M v3 v4 hw
      refine q_iload hC dX5_within_83 4 rfl 85 rfl ?_
      refine q_aload_n hC dX5_within_85 0 rfl 86 rfl ?_
      refine q_getR (C := RX5) (T := TX5) (N := 26) (ci := 5) hC inX5_within_X5 (obF52 hF) rfl 0 (by decide) (List.mem_of_getElem? (i := 2) (by decide +kernel)) rfl 53 (fun _ => rfl) dX5_within_86 89 rfl ?_
      refine q_sipush (v := 366) hC dX5_within_89 (by decide) 92 rfl ?_
      obtain ⟨hin, hw⟩ := hw
      refine q_iald hC (arF53 hF) hin dX5_within_92 93 rfl ?_
      refine q_icmp_gt hC 131 dX5_within_93 (by decide) 96 rfl hw (fun hw => ?_) (fun hw => ?_)
      · refine q_iload_n hC dX5_within_131 3 rfl 132 rfl ?_
        exact r_iret hR dX5_within_132 hw
      · refine q_iload_n hC dX5_within_96 2 rfl 97 rfl ?_
        refine q_if_ne hC 131 dX5_within_97 (by decide) 100 rfl hw (fun hw => ?_) (fun hw => ?_)
        · refine q_iload_n hC dX5_within_131 3 rfl 132 rfl ?_
          exact r_iret hR dX5_within_132 hw
        · refine q_aload_n hC dX5_within_100 0 rfl 101 rfl ?_
          refine q_aload_n hC dX5_within_101 0 rfl 102 rfl ?_
          refine q_getR (C := RX5) (T := TX5) (N := 26) (ci := 5) hC inX5_within_X5 (obF52 hF) rfl 0 (by decide) (List.mem_of_getElem? (i := 2) (by decide +kernel)) rfl 53 (fun _ => rfl) dX5_within_102 105 rfl ?_
          refine q_sipush (v := 325) hC dX5_within_105 (by decide) 108 rfl ?_
          obtain ⟨hin, hw⟩ := hw
          refine q_iald hC (arF53 hF) hin dX5_within_108 109 rfl ?_
          refine q_iload hC dX5_within_109 4 rfl 111 rfl ?_
          refine r_callI hC (go_V (q := (RX5, TX5, 26)) (As := [.int (M 53 (325 : Int32).toNatClampNeg), .int v4]) (rest := []) hC (ctX5_sooner (zl z) g M (M 53 (325 : Int32).toNatClampNeg) v4 _ hF hw) 2 gX5_within_X5_sooner rfl ⟨rfl, rfl⟩ hdV_X5_sooner ⟨Nat.le_of_ble_eq_true rfl, Nat.le_of_ble_eq_true rfl⟩ (obF52 hF) rfl rfl rfl (Nat.le_of_ble_eq_true rfl) dX5_within_111) 114 rfl (fun r8 M9 hw => ?_)
          refine q_iload_n hC dX5_within_114 1 rfl 115 rfl ?_
          refine q_icmp_gt hC 123 dX5_within_115 (by decide) 118 rfl hw (fun hw => ?_) (fun hw => ?_)
          · refine q_iload_n hC dX5_within_123 3 rfl 124 rfl ?_
            exact XX.sub [0, 1, 2, 4] rfl (B124 _ (fun M v3 v4 hw => ih M v3 v4 hw) M9 v4 v3 hw)
          · refine q_iload hC dX5_within_118 4 rfl 120 rfl ?_
            refine q_goto hC 124 dX5_within_120 (by decide) ?_
            exact XX.sub [0, 1, 2, 4] rfl (B124 _ (fun M v3 v4 hw => ih M v3 v4 hw) M9 v4 v4 hw)
  have B73 : ∀ (M : MM) (v3 : Int32), wX5_within_73 Q v1 v2 M v3 → XX z g Qf 5 73 [(0, .ref (gA g 52)), (1, .int v1), (2, .int v2), (3, .int v3)] [] M := by
    intro M v3 hw
    refine q_aload_n hC dX5_within_73 0 rfl 74 rfl ?_
    refine q_getR (C := RX5) (T := TX5) (N := 26) (ci := 5) hC inX5_within_X5 (obF52 hF) rfl 0 (by decide) (List.mem_of_getElem? (i := 2) (by decide +kernel)) rfl 53 (fun _ => rfl) dX5_within_74 77 rfl ?_
    refine q_sipush (v := 325) hC dX5_within_77 (by decide) 80 rfl ?_
    obtain ⟨hin, hw⟩ := hw
    refine q_iald hC (arF53 hF) hin dX5_within_80 81 rfl ?_
    refine q_nameI (fun x7 ex7 => ?_)
    have hw := hw x7 ex7
    refine q_istore (L' := [(4, .int x7), (0, .ref (gA g 52)), (1, .int v1), (2, .int v2), (3, .int v3)]) hC dX5_within_81 (by decide) rfl 83 rfl ?_
    obtain ⟨n0, hw⟩ := hw
    exact XX.sub [1, 2, 3, 4, 0] rfl (B83 n0 M v3 x7 hw)
  have B66 : ∀ (K33 : MM → Int32 → Int32 → Prop) (hK33 : ∀ (M : MM) (v3 : Int32) (v4 : Int32) , K33 M v3 v4 → XX z g Qf 5 33 [(0, .ref (gA g 52)), (1, .int v1), (2, .int v2), (3, .int v3), (4, .int v4)] [] M) (M : MM) (v4 : Int32) (p0 : Int32), wX5_within_66 Q K33 v1 v2 M v4 p0 → XX z g Qf 5 66 [(0, .ref (gA g 52)), (1, .int v1), (2, .int v2), (4, .int v4)] [.int p0] M := by
    intro K33 hK33 M v4 p0 hw
    refine q_istore_n (L' := [(3, .int p0), (0, .ref (gA g 52)), (1, .int v1), (2, .int v2), (4, .int v4)]) hC dX5_within_66 (by decide) rfl 67 rfl ?_
    refine q_iinc (v := v4 + (-1)) (L' := [(4, .int (v4 + (-1))), (3, .int p0), (0, .ref (gA g 52)), (1, .int v1), (2, .int v2)]) hC dX5_within_67 4 rfl rfl (by decide) rfl 70 rfl ?_
    refine q_goto hC 33 dX5_within_70 (by decide) ?_
    exact XX.sub [2, 3, 4, 1, 0] rfl (hK33 M p0 (v4 + (-1)) hw)
  have B33 : ∀ (n : Nat) (M : MM) (v3 : Int32) (v4 : Int32) , wX5_within_33 Q v1 v2 n M v3 v4 → XX z g Qf 5 33 [(0, .ref (gA g 52)), (1, .int v1), (2, .int v2), (3, .int v3), (4, .int v4)] [] M := by
    intro n
    induction n with
    | zero =>
      intro M v3 v4 hw
      exact hw.elim
    | succ n ih =>
      intro M v3 v4 hw
      refine q_iload hC dX5_within_33 4 rfl 35 rfl ?_
      refine q_if_lt hC 73 dX5_within_35 (by decide) 38 rfl hw (fun hw => ?_) (fun hw => ?_)
      · exact XX.sub [0, 1, 2, 3] rfl (B73 M v3 hw)
      · refine q_iload_n hC dX5_within_38 2 rfl 39 rfl ?_
        refine q_if_eq hC 73 dX5_within_39 (by decide) 42 rfl hw (fun hw => ?_) (fun hw => ?_)
        · exact XX.sub [0, 1, 2, 3] rfl (B73 M v3 hw)
        · refine q_aload_n hC dX5_within_42 0 rfl 43 rfl ?_
          refine q_aload_n hC dX5_within_43 0 rfl 44 rfl ?_
          refine q_getR (C := RX5) (T := TX5) (N := 26) (ci := 5) hC inX5_within_X5 (obF52 hF) rfl 0 (by decide) (List.mem_of_getElem? (i := 2) (by decide +kernel)) rfl 53 (fun _ => rfl) dX5_within_44 47 rfl ?_
          refine q_sipush (v := 325) hC dX5_within_47 (by decide) 50 rfl ?_
          obtain ⟨hin, hw⟩ := hw
          refine q_iald hC (arF53 hF) hin dX5_within_50 51 rfl ?_
          refine q_iload hC dX5_within_51 4 rfl 53 rfl ?_
          refine r_callI hC (go_V (q := (RX5, TX5, 26)) (As := [.int (M 53 (325 : Int32).toNatClampNeg), .int v4]) (rest := []) hC (ctX5_sooner (zl z) g M (M 53 (325 : Int32).toNatClampNeg) v4 _ hF hw) 2 gX5_within_X5_sooner rfl ⟨rfl, rfl⟩ hdV_X5_sooner ⟨Nat.le_of_ble_eq_true rfl, Nat.le_of_ble_eq_true rfl⟩ (obF52 hF) rfl rfl rfl (Nat.le_of_ble_eq_true rfl) dX5_within_53) 56 rfl (fun r5 M6 hw => ?_)
          refine q_iload_n hC dX5_within_56 1 rfl 57 rfl ?_
          refine q_icmp_gt hC 65 dX5_within_57 (by decide) 60 rfl hw (fun hw => ?_) (fun hw => ?_)
          · refine q_iload_n hC dX5_within_65 3 rfl 66 rfl ?_
            exact XX.sub [0, 1, 2, 4] rfl (B66 _ (fun M v3 v4 hw => ih M v3 v4 hw) M6 v4 v3 hw)
          · refine q_iload hC dX5_within_60 4 rfl 62 rfl ?_
            refine q_goto hC 66 dX5_within_62 (by decide) ?_
            exact XX.sub [0, 1, 2, 4] rfl (B66 _ (fun M v3 v4 hw => ih M v3 v4 hw) M6 v4 v4 hw)
  refine q_iload_n hC dX5_within_0 1 rfl 1 rfl ?_
  refine q_i2l hC dX5_within_1 2 rfl ?_
  refine q_lconst (v := 0) hC dX5_within_2 rfl 3 rfl ?_
  refine q_ldc2 (v := 999999) hC (List.mem_of_getElem? (i := 1) (by decide +kernel)) dX5_within_3 6 rfl ?_
  refine r_callI hC (go_T (As := [.long (v1.toInt64), .long 0, .long 999999]) (rest := []) hC (ctX5_in (zl z) g M (v1.toInt64) 0 999999 _ hw) 3 gX5_within_X5_in rfl ⟨rfl, rfl⟩ hdT_X5_in ⟨Nat.le_of_ble_eq_true rfl, Nat.le_of_ble_eq_true rfl⟩ rfl rfl (Nat.le_of_ble_eq_true rfl) dX5_within_6) 9 rfl (fun r1 M2 hw => ?_)
  refine q_if_ne hC 14 dX5_within_9 (by decide) 12 rfl hw (fun hw => ?_) (fun hw => ?_)
  · refine q_aload_n hC dX5_within_14 0 rfl 15 rfl ?_
    refine q_getR (C := RX5) (T := TX5) (N := 26) (ci := 5) hC inX5_within_X5 (obF52 hF) rfl 0 (by decide) (List.mem_of_getElem? (i := 2) (by decide +kernel)) rfl 53 (fun _ => rfl) dX5_within_15 18 rfl ?_
    refine q_sipush (v := 325) hC dX5_within_18 (by decide) 21 rfl ?_
    obtain ⟨hin, hw⟩ := hw
    refine q_iald hC (arF53 hF) hin dX5_within_21 22 rfl ?_
    refine q_nameI (fun x3 ex3 => ?_)
    have hw := hw x3 ex3
    refine q_istore_n (L' := [(3, .int x3), (0, .ref (gA g 52)), (1, .int v1), (2, .int v2)]) hC dX5_within_22 (by decide) rfl 23 rfl ?_
    refine q_aload_n hC dX5_within_23 1 rfl 24 rfl ?_
    refine q_getR (C := RX5) (T := TX5) (N := 26) (ci := 5) hC inX5_within_X5 (obF52 hF) rfl 0 (by decide) (List.mem_of_getElem? (i := 2) (by decide +kernel)) rfl 53 (fun _ => rfl) dX5_within_24 27 rfl ?_
    refine q_sipush (v := 325) hC dX5_within_27 (by decide) 30 rfl ?_
    obtain ⟨hin, hw⟩ := hw
    refine q_iald hC (arF53 hF) hin dX5_within_30 31 rfl ?_
    refine q_nameI (fun x4 ex4 => ?_)
    have hw := hw x4 ex4
    refine q_istore (L' := [(4, .int x4), (3, .int x3), (0, .ref (gA g 52)), (1, .int v1), (2, .int v2)]) hC dX5_within_31 (by decide) rfl 33 rfl ?_
    obtain ⟨n0, hw⟩ := hw
    exact XX.sub [2, 3, 4, 1, 0] rfl (B33 n0 M2 x3 x4 hw)
  · refine q_iconst (v := (-1)) hC dX5_within_12 rfl 13 rfl ?_
    exact r_iret hR dX5_within_13 hw
set_option maxRecDepth 20000 in
theorem inX5_isBlock_X5 : ∀ w ∈ u_ws RX5 TX5 26, w ∈ wsX5_isBlock := by decide +kernel
set_option maxRecDepth 100000 in
set_option maxHeartbeats 4000000 in
theorem ctX5_isBlock (l : Launch) (g : GG) (M : MM) (v1 : Int32) (Q : Int32 → MM → Prop) (hF : full g) (hw : wX5_isBlock Q M v1) : MI g l yX5_isBlock wsX5_isBlock (rmOf 1 25) [.ref (gA g 52), .int v1] M Q := by
  refine mk_MZ (cc := cX5_isBlock) (maxL := 2) (by decide) rfl (Nat.le_of_ble_eq_true rfl) ?_
  intro z Qf hC hR
  show XX z g Qf 2 0 [(0, .ref (gA g 52)), (1, .int v1)] [] M
  refine q_iload_n hC dX5_isBlock_0 1 rfl 1 rfl ?_
  refine q_i2l hC dX5_isBlock_1 2 rfl ?_
  refine q_lconst (v := 0) hC dX5_isBlock_2 rfl 3 rfl ?_
  refine q_aload_n hC dX5_isBlock_3 0 rfl 4 rfl ?_
  refine q_getR (C := RX5) (T := TX5) (N := 26) (ci := 5) hC inX5_isBlock_X5 (obF52 hF) rfl 0 (by decide) (List.mem_of_getElem? (i := 1) (by decide +kernel)) rfl 53 (fun _ => rfl) dX5_isBlock_4 7 rfl ?_
  refine q_iconst (v := 0) hC dX5_isBlock_7 rfl 8 rfl ?_
  obtain ⟨hin, hw⟩ := hw
  refine q_iald hC (arF53 hF) hin dX5_isBlock_8 9 rfl ?_
  refine q_iconst (v := 1) hC dX5_isBlock_9 rfl 10 rfl ?_
  refine q_isub hC dX5_isBlock_10 11 rfl ?_
  refine q_i2l hC dX5_isBlock_11 12 rfl ?_
  refine r_callI hC (go_T (As := [.long (v1.toInt64), .long 0, .long (((M 53 (0 : Int32).toNatClampNeg) - (1 : Int32)).toInt64)]) (rest := []) hC (ctX5_in (zl z) g M (v1.toInt64) 0 (((M 53 (0 : Int32).toNatClampNeg) - (1 : Int32)).toInt64) _ hw) 3 gX5_isBlock_X5_in rfl ⟨rfl, rfl⟩ hdT_X5_in ⟨Nat.le_of_ble_eq_true rfl, Nat.le_of_ble_eq_true rfl⟩ rfl rfl (Nat.le_of_ble_eq_true rfl) dX5_isBlock_12) 15 rfl (fun r1 M2 hw => ?_)
  exact r_iret hR dX5_isBlock_15 hw
set_option maxRecDepth 20000 in
theorem inX5_columnOf_X5 : ∀ w ∈ u_ws RX5 TX5 26, w ∈ wsX5_columnOf := by decide +kernel
set_option maxRecDepth 100000 in
set_option maxHeartbeats 4000000 in
theorem ctX5_columnOf (l : Launch) (g : GG) (M : MM) (v1 : Int32) (v2 : Int32) (Q : Int32 → MM → Prop) (hF : full g) (hw : wX5_columnOf Q M v1 v2) : MI g l yX5_columnOf wsX5_columnOf (rmOf 0 0) [.ref (gA g 52), .int v1, .int v2] M Q := by
  refine mk_MI (cc := cX5_columnOf) (maxL := 3) (by decide) rfl (Nat.le_of_ble_eq_true rfl) ?_
  intro z Qf hC hR
  show XX z g Qf 3 0 [(0, .ref (gA g 52)), (1, .int v1), (2, .int v2)] [] M
  refine q_aload_n hC dX5_columnOf_0 0 rfl 1 rfl ?_
  refine q_getR (C := RX5) (T := TX5) (N := 26) (ci := 5) hC inX5_columnOf_X5 (obF52 hF) rfl 0 (by decide) (List.mem_of_getElem? (i := 1) (by decide +kernel)) rfl 53 (fun _ => rfl) dX5_columnOf_1 4 rfl ?_
  refine q_bipush (v := 25) hC dX5_columnOf_4 (by decide) 6 rfl ?_
  refine q_bipush (v := 13) hC dX5_columnOf_6 (by decide) 8 rfl ?_
  refine q_iload_n hC dX5_columnOf_8 1 rfl 9 rfl ?_
  refine q_imul hC dX5_columnOf_9 10 rfl ?_
  refine q_iadd hC dX5_columnOf_10 11 rfl ?_
  refine q_iload_n hC dX5_columnOf_11 2 rfl 12 rfl ?_
  refine q_iadd hC dX5_columnOf_12 13 rfl ?_
  obtain ⟨hin, hw⟩ := hw
  refine q_iald hC (arF53 hF) hin dX5_columnOf_13 14 rfl ?_
  exact r_iret hR dX5_columnOf_14 hw
theorem hdV_X5_isBlock : yX5_isBlock.cls = RX5 ∧ yX5_isBlock.cls ≠ "java/lang/invoke/MethodHandle" ∧ yX5_isBlock.cls ≠ "java/lang/invoke/VarHandle" ∧ (parseMethodDescriptor yX5_isBlock.desc).map (fun d => d.parameters.length) = some 1 := by decide +kernel
theorem hdV_X5_columnOf : yX5_columnOf.cls = RX5 ∧ yX5_columnOf.cls ≠ "java/lang/invoke/MethodHandle" ∧ yX5_columnOf.cls ≠ "java/lang/invoke/VarHandle" ∧ (parseMethodDescriptor yX5_columnOf.desc).map (fun d => d.parameters.length) = some 2 := by decide +kernel
set_option maxRecDepth 20000 in
theorem inX5_block_X5 : ∀ w ∈ u_ws RX5 TX5 26, w ∈ wsX5_block := by decide +kernel
set_option maxRecDepth 100000 in
set_option maxHeartbeats 4000000 in
theorem ctX5_block (l : Launch) (g : GG) (M : MM) (v1 : Int32) (v2 : Int32) (Q : Int32 → MM → Prop) (hF : full g) (hw : wX5_block Q M v1 v2) : MI g l yX5_block wsX5_block (rmOf 2 46) [.ref (gA g 52), .int v1, .int v2] M Q := by
  refine mk_MI (cc := cX5_block) (maxL := 4) (by decide) rfl (Nat.le_of_ble_eq_true rfl) ?_
  intro z Qf hC hR
  show XX z g Qf 4 0 [(0, .ref (gA g 52)), (1, .int v1), (2, .int v2)] [] M
  refine q_aload_n hC dX5_block_0 0 rfl 1 rfl ?_
  refine q_iload_n hC dX5_block_1 1 rfl 2 rfl ?_
  refine r_callI hC (go_V (q := (RX5, TX5, 26)) (As := [.int v1]) (rest := []) hC (ctX5_isBlock (zl z) g M v1 _ hF hw) 1 gX5_block_X5_isBlock rfl ⟨rfl, rfl⟩ hdV_X5_isBlock ⟨Nat.le_of_ble_eq_true rfl, Nat.le_of_ble_eq_true rfl⟩ (obF52 hF) rfl rfl rfl (Nat.le_of_ble_eq_true rfl) dX5_block_2) 5 rfl (fun r1 M2 hw => ?_)
  refine q_if_ne hC 10 dX5_block_5 (by decide) 8 rfl hw (fun hw => ?_) (fun hw => ?_)
  · refine q_aload_n hC dX5_block_10 0 rfl 11 rfl ?_
    refine q_getR (C := RX5) (T := TX5) (N := 26) (ci := 5) hC inX5_block_X5 (obF52 hF) rfl 0 (by decide) (List.mem_of_getElem? (i := 1) (by decide +kernel)) rfl 53 (fun _ => rfl) dX5_block_11 14 rfl ?_
    refine q_bipush (v := 13) hC dX5_block_14 (by decide) 16 rfl ?_
    refine q_iload_n hC dX5_block_16 1 rfl 17 rfl ?_
    refine q_iadd hC dX5_block_17 18 rfl ?_
    obtain ⟨hin, hw⟩ := hw
    refine q_iald hC (arF53 hF) hin dX5_block_18 19 rfl ?_
    refine q_nameI (fun x3 ex3 => ?_)
    have hw := hw x3 ex3
    refine q_istore_n (L' := [(3, .int x3), (0, .ref (gA g 52)), (1, .int v1), (2, .int v2)]) hC dX5_block_19 (by decide) rfl 20 rfl ?_
    refine q_iload_n hC dX5_block_20 3 rfl 21 rfl ?_
    by_cases c0 : v2 = 0
    · have hw := hw.1 c0
      refine q_tabIn hC 56 dX5_block_21 (by rw [c0]; decide) (by rw [c0]; decide) (by rw [c0]; rfl) (by decide) ?_
      refine q_aload_n hC dX5_block_56 1 rfl 57 rfl ?_
      refine q_getR (C := RX5) (T := TX5) (N := 26) (ci := 5) hC inX5_block_X5 (obF52 hF) rfl 0 (by decide) (List.mem_of_getElem? (i := 1) (by decide +kernel)) rfl 53 (fun _ => rfl) dX5_block_57 60 rfl ?_
      refine q_iconst (v := 1) hC dX5_block_60 rfl 61 rfl ?_
      refine q_iload_n hC dX5_block_61 2 rfl 62 rfl ?_
      refine q_iadd hC dX5_block_62 63 rfl ?_
      obtain ⟨hin, hw⟩ := hw
      refine q_iald hC (arF53 hF) hin dX5_block_63 64 rfl ?_
      exact r_iret hR dX5_block_64 hw
    · have hw := hw.2 c0
      by_cases c1 : v2 = 1
      · have hw := hw.1 c1
        refine q_tabIn hC 65 dX5_block_21 (by rw [c1]; decide) (by rw [c1]; decide) (by rw [c1]; rfl) (by decide) ?_
        refine q_aload_n hC dX5_block_65 1 rfl 66 rfl ?_
        refine q_iload_n hC dX5_block_66 0 rfl 67 rfl ?_
        refine r_callI hC (go_V (q := (RX5, TX5, 26)) (As := [.int x3]) (rest := []) hC (ctX5_longOf (zl z) g M2 x3 _ hF hw) 1 gX5_block_X5_longOf rfl ⟨rfl, rfl⟩ hdV_X5_longOf ⟨Nat.le_of_ble_eq_true rfl, Nat.le_of_ble_eq_true rfl⟩ (obF52 hF) rfl rfl rfl (Nat.le_of_ble_eq_true rfl) dX5_block_67) 70 rfl (fun r4 M5 hw => ?_)
        exact r_iret hR dX5_block_70 hw
      · have hw := hw.2 c1
        by_cases c2 : v2 = 2
        · have hw := hw.1 c2
          refine q_tabIn hC 71 dX5_block_21 (by rw [c2]; decide) (by rw [c2]; decide) (by rw [c2]; rfl) (by decide) ?_
          refine q_iload_n hC dX5_block_71 0 rfl 72 rfl ?_
          exact r_iret hR dX5_block_72 hw
        · have hw := hw.2 c2
          by_cases c3 : v2 = 3
          · have hw := hw.1 c3
            refine q_tabIn hC 73 dX5_block_21 (by rw [c3]; decide) (by rw [c3]; decide) (by rw [c3]; rfl) (by decide) ?_
            refine q_iload_n hC dX5_block_73 0 rfl 74 rfl ?_
            refine q_if_ne hC 81 dX5_block_74 (by decide) 77 rfl hw (fun hw => ?_) (fun hw => ?_)
            · refine q_aload_n hC dX5_block_81 1 rfl 82 rfl ?_
              refine q_iload_n hC dX5_block_82 2 rfl 83 rfl ?_
              refine q_iload_n hC dX5_block_83 0 rfl 84 rfl ?_
              refine r_callI hC (go_V (q := (RX5, TX5, 26)) (As := [.int v1, .int x3]) (rest := []) hC (ctX5_columnOf (zl z) g M2 v1 x3 _ hF hw) 2 gX5_block_X5_columnOf rfl ⟨rfl, rfl⟩ hdV_X5_columnOf ⟨Nat.le_of_ble_eq_true rfl, Nat.le_of_ble_eq_true rfl⟩ (obF52 hF) rfl rfl rfl (Nat.le_of_ble_eq_true rfl) dX5_block_84) 87 rfl (fun r6 M7 hw => ?_)
              exact r_iret hR dX5_block_87 hw
            · refine q_iconst (v := 0) hC dX5_block_77 rfl 78 rfl ?_
              refine q_goto hC 87 dX5_block_78 (by decide) ?_
              exact r_iret hR dX5_block_87 hw
          · have hw := hw.2 c3
            by_cases c4 : v2 = 4
            · have hw := hw.1 c4
              refine q_tabIn hC 88 dX5_block_21 (by rw [c4]; decide) (by rw [c4]; decide) (by rw [c4]; rfl) (by decide) ?_
              refine q_aload_n hC dX5_block_88 1 rfl 89 rfl ?_
              refine q_iload_n hC dX5_block_89 2 rfl 90 rfl ?_
              refine r_callI hC (go_V (q := (RX5, TX5, 26)) (As := [.int v1]) (rest := []) hC (ctX5_endOf (zl z) g M2 v1 _ hF hw) 1 gX5_block_X5_endOf rfl ⟨rfl, rfl⟩ hdV_X5_endOf ⟨Nat.le_of_ble_eq_true rfl, Nat.le_of_ble_eq_true rfl⟩ (obF52 hF) rfl rfl rfl (Nat.le_of_ble_eq_true rfl) dX5_block_90) 93 rfl (fun r8 M9 hw => ?_)
              exact r_iret hR dX5_block_93 hw
            · have hw := hw.2 c4
              refine q_tabOut hC 94 dX5_block_21 (tab_out4 c0 c1 c2 c3 c4) (by decide) ?_
              refine q_iconst (v := (-1)) hC dX5_block_94 rfl 95 rfl ?_
              exact r_iret hR dX5_block_95 hw
  · refine q_iconst (v := (-1)) hC dX5_block_8 rfl 9 rfl ?_
    exact r_iret hR dX5_block_9 hw
