theorem hdV_X2_playedThrough : yX2_playedThrough.cls = RX2 ∧ yX2_playedThrough.cls ≠ "java/lang/invoke/MethodHandle" ∧ yX2_playedThrough.cls ≠ "java/lang/invoke/VarHandle" ∧ (parseMethodDescriptor yX2_playedThrough.desc).map (fun d => d.parameters.length) = some 1 := by decide +kernel
set_option maxRecDepth 100000 in
set_option maxHeartbeats 4000000 in
theorem ctX2_played (l : Launch) (g : GG) (M : MM) (b : Nat) (v1 : Int32) (v2 : Int32) (Q : Int32 → MM → Prop) (hb : tpl g b) (hw : wX2_played Q M b v1 v2) : MI g l yX2_played wsX2_played (rmOf 2 42) [.ref (gA g b), .int v1, .int v2] M Q := by
  refine mk_MI (cc := cX2_played) (maxL := 3) (by decide) rfl (Nat.le_of_ble_eq_true rfl) ?_
  intro z Qf hC hR
  show XX z g Qf 3 0 [(0, .ref (gA g b)), (1, .int v1), (2, .int v2)] [] M
  refine q_iload_n hC dX2_played_0 1 rfl 1 rfl ?_
  refine q_iload_n hC dX2_played_1 2 rfl 2 rfl ?_
  refine q_icmp_ne hC 9 dX2_played_2 (by decide) 5 rfl hw (fun hw => ?_) (fun hw => ?_)
  · refine q_aload_n hC dX2_played_9 0 rfl 10 rfl ?_
    refine q_iconst (v := 5) hC dX2_played_10 rfl 11 rfl ?_
    refine r_callI hC (go_V (q := (RX2, TX2, 14)) (As := [.int 5]) (rest := []) hC (ctX2_ruled (zl z) g M b 5 _ hb hw) 1 gX2_played_X2_ruled rfl ⟨rfl, rfl⟩ hdV_X2_ruled ⟨Nat.le_of_ble_eq_true rfl, Nat.le_of_ble_eq_true rfl⟩ hb.ob rfl rfl rfl (Nat.le_of_ble_eq_true rfl) dX2_played_11) 14 rfl (fun r1 M2 hw => ?_)
    refine q_aload_n hC dX2_played_14 0 rfl 15 rfl ?_
    refine q_iload_n hC dX2_played_15 2 rfl 16 rfl ?_
    refine q_iload_n hC dX2_played_16 1 rfl 17 rfl ?_
    refine q_isub hC dX2_played_17 18 rfl ?_
    refine q_mabs hC (uX2_played__o _ (List.mem_of_getElem? (l := owX2_played) (i := 1) rfl)) (uX2_played__o _ (List.mem_of_getElem? (l := owX2_played) (i := 2) rfl)) (uX2_played__o _ (List.mem_of_getElem? (l := owX2_played) (i := 3) rfl)) (uX2_played__o _ (List.mem_of_getElem? (l := owX2_played) (i := 4) rfl)) (by decide) (Nat.le_of_ble_eq_true rfl) dX2_played_18 21 rfl ?_
    refine r_callI hC (go_V (q := (RX2, TX2, 14)) (As := [.int (if 0 ≤ (v2 - v1) then (v2 - v1) else 0 - (v2 - v1))]) (rest := [.int r1]) hC (ctX2_playedThrough (zl z) g M2 b (if 0 ≤ (v2 - v1) then (v2 - v1) else 0 - (v2 - v1)) _ hb hw) 1 gX2_played_X2_playedThrough rfl ⟨rfl, rfl⟩ hdV_X2_playedThrough ⟨Nat.le_of_ble_eq_true rfl, Nat.le_of_ble_eq_true rfl⟩ hb.ob rfl rfl rfl (Nat.le_of_ble_eq_true rfl) dX2_played_21) 24 rfl (fun r3 M4 hw => ?_)
    refine q_iadd hC dX2_played_24 25 rfl ?_
    exact r_iret hR dX2_played_25 hw
  · refine q_iconst (v := 0) hC dX2_played_5 rfl 6 rfl ?_
    refine q_goto hC 25 dX2_played_6 (by decide) ?_
    exact r_iret hR dX2_played_25 hw
set_option maxRecDepth 100000 in
set_option maxHeartbeats 4000000 in
theorem ctX2_wound (l : Launch) (g : GG) (M : MM) (b : Nat) (v1 : Int32) (v2 : Int32) (Q : Int32 → MM → Prop) (hb : tpl g b) (hw : wX2_wound Q M b v1 v2) : MI g l yX2_wound wsX2_wound (rmOf 2 47) [.ref (gA g b), .int v1, .int v2] M Q := by
  refine mk_MI (cc := cX2_wound) (maxL := 5) (by decide) rfl (Nat.le_of_ble_eq_true rfl) ?_
  intro z Qf hC hR
  show XX z g Qf 5 0 [(0, .ref (gA g b)), (1, .int v1), (2, .int v2)] [] M
  have B47 : ∀ (M : MM) (p0 : Int32), wX2_wound_47 Q b v1 v2 M p0 → XX z g Qf 5 47 [(0, .ref (gA g b))] [.int p0] M := by
    intro M p0 hw
    refine q_istore (L' := [(4, .int p0), (0, .ref (gA g b))]) hC dX2_wound_47 (by decide) rfl 49 rfl ?_
    refine q_iconst (v := 2) hC dX2_wound_49 rfl 50 rfl ?_
    refine q_aload_n hC dX2_wound_50 1 rfl 51 rfl ?_
    refine q_iconst (v := 5) hC dX2_wound_51 rfl 52 rfl ?_
    refine r_callI hC (go_V (q := (RX2, TX2, 14)) (As := [.int 5]) (rest := [.int 2]) hC (ctX2_ruled (zl z) g M b 5 _ hb hw) 1 gX2_wound_X2_ruled rfl ⟨rfl, rfl⟩ hdV_X2_ruled ⟨Nat.le_of_ble_eq_true rfl, Nat.le_of_ble_eq_true rfl⟩ hb.ob rfl rfl rfl (Nat.le_of_ble_eq_true rfl) dX2_wound_52) 55 rfl (fun r11 M12 hw => ?_)
    refine q_imul hC dX2_wound_55 56 rfl ?_
    refine q_aload_n hC dX2_wound_56 1 rfl 57 rfl ?_
    refine q_iconst (v := 4) hC dX2_wound_57 rfl 58 rfl ?_
    refine r_callI hC (go_V (q := (RX2, TX2, 14)) (As := [.int 4]) (rest := [.int ((2 : Int32) * r11)]) hC (ctX2_ruled (zl z) g M12 b 4 _ hb hw) 1 gX2_wound_X2_ruled rfl ⟨rfl, rfl⟩ hdV_X2_ruled ⟨Nat.le_of_ble_eq_true rfl, Nat.le_of_ble_eq_true rfl⟩ hb.ob rfl rfl rfl (Nat.le_of_ble_eq_true rfl) dX2_wound_58) 61 rfl (fun r13 M14 hw => ?_)
    refine q_iload hC dX2_wound_61 0 rfl 63 rfl ?_
    refine q_imul hC dX2_wound_63 64 rfl ?_
    refine q_iadd hC dX2_wound_64 65 rfl ?_
    exact r_iret hR dX2_wound_65 hw
  refine q_iload_n hC dX2_wound_0 1 rfl 1 rfl ?_
  refine q_iload_n hC dX2_wound_1 2 rfl 2 rfl ?_
  refine q_icmp_ne hC 7 dX2_wound_2 (by decide) 5 rfl hw (fun hw => ?_) (fun hw => ?_)
  · refine q_aload_n hC dX2_wound_7 0 rfl 8 rfl ?_
    refine q_iconst (v := 0) hC dX2_wound_8 rfl 9 rfl ?_
    refine r_callI hC (go_V (q := (RX2, TX2, 14)) (As := [.int 0]) (rest := []) hC (ctX2_ruled (zl z) g M b 0 _ hb hw) 1 gX2_wound_X2_ruled rfl ⟨rfl, rfl⟩ hdV_X2_ruled ⟨Nat.le_of_ble_eq_true rfl, Nat.le_of_ble_eq_true rfl⟩ hb.ob rfl rfl rfl (Nat.le_of_ble_eq_true rfl) dX2_wound_9) 12 rfl (fun r1 M2 hw => ?_)
    refine q_istore_n (L' := [(3, .int r1), (0, .ref (gA g b)), (1, .int v1), (2, .int v2)]) hC dX2_wound_12 (by decide) rfl 13 rfl ?_
    refine q_iload_n hC dX2_wound_13 3 rfl 14 rfl ?_
    refine q_iload_n hC dX2_wound_14 2 rfl 15 rfl ?_
    refine q_icmp_le hC 32 dX2_wound_15 (by decide) 18 rfl hw (fun hw => ?_) (fun hw => ?_)
    · refine q_aload_n hC dX2_wound_32 1 rfl 33 rfl ?_
      refine q_iload_n hC dX2_wound_33 0 rfl 34 rfl ?_
      refine q_iload_n hC dX2_wound_34 3 rfl 35 rfl ?_
      refine q_isub hC dX2_wound_35 36 rfl ?_
      refine r_callI hC (go_V (q := (RX2, TX2, 14)) (As := [.int (r1 - v2)]) (rest := []) hC (ctX2_turnsOf (zl z) g M2 b (r1 - v2) _ hb hw) 1 gX2_wound_X2_turnsOf rfl ⟨rfl, rfl⟩ hdV_X2_turnsOf ⟨Nat.le_of_ble_eq_true rfl, Nat.le_of_ble_eq_true rfl⟩ hb.ob rfl rfl rfl (Nat.le_of_ble_eq_true rfl) dX2_wound_36) 39 rfl (fun r3 M4 hw => ?_)
      refine q_aload_n hC dX2_wound_39 1 rfl 40 rfl ?_
      refine q_iload_n hC dX2_wound_40 0 rfl 41 rfl ?_
      refine q_iload_n hC dX2_wound_41 2 rfl 42 rfl ?_
      refine q_isub hC dX2_wound_42 43 rfl ?_
      refine r_callI hC (go_V (q := (RX2, TX2, 14)) (As := [.int (r1 - v1)]) (rest := [.int r3]) hC (ctX2_turnsOf (zl z) g M4 b (r1 - v1) _ hb hw) 1 gX2_wound_X2_turnsOf rfl ⟨rfl, rfl⟩ hdV_X2_turnsOf ⟨Nat.le_of_ble_eq_true rfl, Nat.le_of_ble_eq_true rfl⟩ hb.ob rfl rfl rfl (Nat.le_of_ble_eq_true rfl) dX2_wound_43) 46 rfl (fun r5 M6 hw => ?_)
      refine q_isub hC dX2_wound_46 47 rfl ?_
      exact XX.sub [1] rfl (B47 M6 (r3 - r5) hw)
    · refine q_aload_n hC dX2_wound_18 1 rfl 19 rfl ?_
      refine q_iload_n hC dX2_wound_19 3 rfl 20 rfl ?_
      refine r_callI hC (go_V (q := (RX2, TX2, 14)) (As := [.int v2]) (rest := []) hC (ctX2_turnsOf (zl z) g M2 b v2 _ hb hw) 1 gX2_wound_X2_turnsOf rfl ⟨rfl, rfl⟩ hdV_X2_turnsOf ⟨Nat.le_of_ble_eq_true rfl, Nat.le_of_ble_eq_true rfl⟩ hb.ob rfl rfl rfl (Nat.le_of_ble_eq_true rfl) dX2_wound_20) 23 rfl (fun r7 M8 hw => ?_)
      refine q_aload_n hC dX2_wound_23 1 rfl 24 rfl ?_
      refine q_iload_n hC dX2_wound_24 2 rfl 25 rfl ?_
      refine r_callI hC (go_V (q := (RX2, TX2, 14)) (As := [.int v1]) (rest := [.int r7]) hC (ctX2_turnsOf (zl z) g M8 b v1 _ hb hw) 1 gX2_wound_X2_turnsOf rfl ⟨rfl, rfl⟩ hdV_X2_turnsOf ⟨Nat.le_of_ble_eq_true rfl, Nat.le_of_ble_eq_true rfl⟩ hb.ob rfl rfl rfl (Nat.le_of_ble_eq_true rfl) dX2_wound_25) 28 rfl (fun r9 M10 hw => ?_)
      refine q_isub hC dX2_wound_28 29 rfl ?_
      refine q_goto hC 47 dX2_wound_29 (by decide) ?_
      exact XX.sub [1] rfl (B47 M10 (r7 - r9) hw)
  · refine q_iconst (v := 0) hC dX2_wound_5 rfl 6 rfl ?_
    exact r_iret hR dX2_wound_6 hw
theorem hdV_X2_played : yX2_played.cls = RX2 ∧ yX2_played.cls ≠ "java/lang/invoke/MethodHandle" ∧ yX2_played.cls ≠ "java/lang/invoke/VarHandle" ∧ (parseMethodDescriptor yX2_played.desc).map (fun d => d.parameters.length) = some 2 := by decide +kernel
theorem hdV_X2_wound : yX2_wound.cls = RX2 ∧ yX2_wound.cls ≠ "java/lang/invoke/MethodHandle" ∧ yX2_wound.cls ≠ "java/lang/invoke/VarHandle" ∧ (parseMethodDescriptor yX2_wound.desc).map (fun d => d.parameters.length) = some 2 := by decide +kernel
set_option maxRecDepth 100000 in
set_option maxHeartbeats 4000000 in
theorem ctX2_sooner (l : Launch) (g : GG) (M : MM) (b : Nat) (v1 : Int32) (v2 : Int32) (Q : Int32 → MM → Prop) (hb : tpl g b) (hw : wX2_sooner Q M b v1 v2) : MI g l yX2_sooner wsX2_sooner (rmOf 3 71) [.ref (gA g b), .int v1, .int v2] M Q := by
  refine mk_MI (cc := cX2_sooner) (maxL := 3) (by decide) rfl (Nat.le_of_ble_eq_true rfl) ?_
  intro z Qf hC hR
  show XX z g Qf 3 0 [(0, .ref (gA g b)), (1, .int v1), (2, .int v2)] [] M
  refine q_aload_n hC dX2_sooner_0 0 rfl 1 rfl ?_
  refine q_iload_n hC dX2_sooner_1 1 rfl 2 rfl ?_
  refine q_iload_n hC dX2_sooner_2 2 rfl 3 rfl ?_
  refine r_callI hC (go_V (q := (RX2, TX2, 14)) (As := [.int v1, .int v2]) (rest := []) hC (ctX2_played (zl z) g M b v1 v2 _ hb hw) 2 gX2_sooner_X2_played rfl ⟨rfl, rfl⟩ hdV_X2_played ⟨Nat.le_of_ble_eq_true rfl, Nat.le_of_ble_eq_true rfl⟩ hb.ob rfl rfl rfl (Nat.le_of_ble_eq_true rfl) dX2_sooner_3) 6 rfl (fun r1 M2 hw => ?_)
  refine q_aload_n hC dX2_sooner_6 0 rfl 7 rfl ?_
  refine q_iload_n hC dX2_sooner_7 1 rfl 8 rfl ?_
  refine q_iload_n hC dX2_sooner_8 2 rfl 9 rfl ?_
  refine r_callI hC (go_V (q := (RX2, TX2, 14)) (As := [.int v1, .int v2]) (rest := [.int r1]) hC (ctX2_wound (zl z) g M2 b v1 v2 _ hb hw) 2 gX2_sooner_X2_wound rfl ⟨rfl, rfl⟩ hdV_X2_wound ⟨Nat.le_of_ble_eq_true rfl, Nat.le_of_ble_eq_true rfl⟩ hb.ob rfl rfl rfl (Nat.le_of_ble_eq_true rfl) dX2_sooner_9) 12 rfl (fun r3 M4 hw => ?_)
  refine q_mmin hC (uX2_sooner__o _ (List.mem_of_getElem? (l := owX2_sooner) (i := 1) rfl)) (uX2_sooner__o _ (List.mem_of_getElem? (l := owX2_sooner) (i := 2) rfl)) (uX2_sooner__X2_played _ (List.mem_of_getElem? (l := owX2_played) (i := 3) rfl)) (uX2_sooner__o _ (List.mem_of_getElem? (l := owX2_sooner) (i := 3) rfl)) (by decide) (Nat.le_of_ble_eq_true rfl) dX2_sooner_12 15 rfl ?_
  exact r_iret hR dX2_sooner_15 hw
theorem hdV_X2_sooner : yX2_sooner.cls = RX2 ∧ yX2_sooner.cls ≠ "java/lang/invoke/MethodHandle" ∧ yX2_sooner.cls ≠ "java/lang/invoke/VarHandle" ∧ (parseMethodDescriptor yX2_sooner.desc).map (fun d => d.parameters.length) = some 2 := by decide +kernel
theorem inX2_goTo_X2 : ∀ w ∈ u_ws RX2 TX2 14, w ∈ wsX2_goTo := uX2_goTo__wsX20
set_option maxRecDepth 100000 in
set_option maxHeartbeats 4000000 in
theorem ctX2_goTo (l : Launch) (g : GG) (M : MM) (b : Nat) (v1 : Int32) (Q : Int32 → MM → Prop) (hb : tpl g b) (hw : wX2_goTo Q M b v1) : MI g l yX2_goTo wsX2_goTo (rmOf 4 93) [.ref (gA g b), .int v1] M Q := by
  refine mk_MI (cc := cX2_goTo) (maxL := 3) (by decide) rfl (Nat.le_of_ble_eq_true rfl) ?_
  intro z Qf hC hR
  show XX z g Qf 3 0 [(0, .ref (gA g b)), (1, .int v1)] [] M
  refine q_aload_n hC dX2_goTo_0 0 rfl 1 rfl ?_
  refine q_aload_n hC dX2_goTo_1 0 rfl 2 rfl ?_
  refine q_getI (C := RX2) (T := TX2) (N := 14) (ci := 2) hC inX2_goTo_X2 hb.ob rfl 9 (by decide) (uX2_goTo__o _ (List.mem_of_getElem? (l := owX2_goTo) (i := 1) rfl)) rfl (fun _ => rfl) dX2_goTo_2 5 rfl ?_
  refine q_iload_n hC dX2_goTo_5 1 rfl 6 rfl ?_
  refine r_callI hC (go_V (q := (RX2, TX2, 14)) (As := [.int (M b 9), .int v1]) (rest := []) hC (ctX2_sooner (zl z) g M b (M b 9) v1 _ hb hw) 2 gX2_goTo_X2_sooner rfl ⟨rfl, rfl⟩ hdV_X2_sooner ⟨Nat.le_of_ble_eq_true rfl, Nat.le_of_ble_eq_true rfl⟩ hb.ob rfl rfl rfl (Nat.le_of_ble_eq_true rfl) dX2_goTo_6) 9 rfl (fun r1 M2 hw => ?_)
  refine q_istore_n (L' := [(2, .int r1), (0, .ref (gA g b)), (1, .int v1)]) hC dX2_goTo_9 (by decide) rfl 10 rfl ?_
  refine q_aload_n hC dX2_goTo_10 1 rfl 11 rfl ?_
  refine q_iload_n hC dX2_goTo_11 2 rfl 12 rfl ?_
  refine q_putI (C := RX2) (T := TX2) (N := 14) (ci := 2) hC inX2_goTo_X2 tyX2 tyX2_ok nmX2 hb.ob rfl 9 (by decide) (uX2_goTo__o _ (List.mem_of_getElem? (l := owX2_goTo) (i := 1) rfl)) rfl rfl rfl (fun _ => Nat.le_of_ble_eq_true rfl) (fun _ => rfl) dX2_goTo_12 15 rfl (fun M3 eM3 => ?_)
  have hw := hw M3 eM3
  refine q_aload_n hC dX2_goTo_15 1 rfl 16 rfl ?_
  refine q_dup hC dX2_goTo_16 rfl 17 rfl ?_
  refine q_getI (C := RX2) (T := TX2) (N := 14) (ci := 2) hC inX2_goTo_X2 hb.ob rfl 10 (by decide) (uX2_goTo__o _ (List.mem_of_getElem? (l := owX2_goTo) (i := 2) rfl)) rfl (fun _ => rfl) dX2_goTo_17 20 rfl ?_
  refine q_iload_n hC dX2_goTo_20 0 rfl 21 rfl ?_
  refine q_iadd hC dX2_goTo_21 22 rfl ?_
  refine q_putI (C := RX2) (T := TX2) (N := 14) (ci := 2) hC inX2_goTo_X2 tyX2 tyX2_ok nmX2 hb.ob rfl 10 (by decide) (uX2_goTo__o _ (List.mem_of_getElem? (l := owX2_goTo) (i := 2) rfl)) rfl rfl rfl (fun _ => Nat.le_of_ble_eq_true rfl) (fun _ => rfl) dX2_goTo_22 25 rfl (fun M4 eM4 => ?_)
  have hw := hw M4 eM4
  refine q_iload_n hC dX2_goTo_25 0 rfl 26 rfl ?_
  exact r_iret hR dX2_goTo_26 hw
theorem inX2_reach_X2 : ∀ w ∈ u_ws RX2 TX2 14, w ∈ wsX2_reach := uX2_reach__wsX20
set_option maxRecDepth 100000 in
set_option maxHeartbeats 4000000 in
theorem ctX2_reach (l : Launch) (g : GG) (M : MM) (b : Nat) (v1 : Int32) (v2 : Int32) (v3 : Int32) (Q : Int32 → MM → Prop) (hb : tpl g b) (hw : wX2_reach Q M b v1 v2 v3) : MI g l yX2_reach wsX2_reach (rmOf 4 93) [.ref (gA g b), .int v1, .int v2, .int v3] M Q := by
  refine mk_MI (cc := cX2_reach) (maxL := 8) (by decide) rfl (Nat.le_of_ble_eq_true rfl) ?_
  intro z Qf hC hR
  show XX z g Qf 8 0 [(0, .ref (gA g b)), (1, .int v1), (2, .int v2), (3, .int v3)] [] M
  have B68 : ∀ (K9 : MM → Int32 → Int32 → Int32 → Prop) (hK9 : ∀ (M : MM) (v4 : Int32) (v5 : Int32) (v6 : Int32) , K9 M v4 v5 v6 → XX z g Qf 8 9 [(0, .ref (gA g b)), (1, .int v1), (3, .int v3), (4, .int v4), (5, .int v5), (6, .int v6)] [] M) (M : MM) (v4 : Int32) (v5 : Int32) (v6 : Int32), wX2_reach_68 Q K9 b v1 v2 v3 M v4 v5 v6 → XX z g Qf 8 68 [(0, .ref (gA g b)), (1, .int v1), (3, .int v3), (4, .int v4), (5, .int v5), (6, .int v6)] [] M := by
    intro K9 hK9 M v4 v5 v6 hw
    refine q_iinc (v := v6 + 1) (L' := [(6, .int (v6 + 1)), (0, .ref (gA g b)), (1, .int v1), (3, .int v3), (4, .int v4), (5, .int v5)]) hC dX2_reach_68 5 rfl rfl (by decide) rfl 71 rfl ?_
    refine q_goto hC 9 dX2_reach_71 (by decide) ?_
    exact XX.sub [1, 2, 3, 4, 5, 0] rfl (hK9 M v4 v5 (v6 + 1) hw)
  have B9 : ∀ (n : Nat) (M : MM) (v4 : Int32) (v5 : Int32) (v6 : Int32) , wX2_reach_9 Q b v1 v2 v3 n M v4 v5 v6 → XX z g Qf 8 9 [(0, .ref (gA g b)), (1, .int v1), (3, .int v3), (4, .int v4), (5, .int v5), (6, .int v6)] [] M := by
    intro n
    induction n with
    | zero =>
      intro M v4 v5 v6 hw
      exact hw.elim
    | succ n ih =>
      intro M v4 v5 v6 hw
      refine q_iload hC dX2_reach_9 5 rfl 11 rfl ?_
      refine q_bipush (v := 32) hC dX2_reach_11 (by decide) 13 rfl ?_
      refine q_icmp_ge hC 74 dX2_reach_13 (by decide) 16 rfl hw (fun hw => ?_) (fun hw => ?_)
      · refine q_iload hC dX2_reach_74 3 rfl 76 rfl ?_
        exact r_iret hR dX2_reach_76 hw
      · refine q_iload hC dX2_reach_16 3 rfl 18 rfl ?_
        refine q_iload hC dX2_reach_18 4 rfl 20 rfl ?_
        refine q_icmp_ge hC 74 dX2_reach_20 (by decide) 23 rfl hw (fun hw => ?_) (fun hw => ?_)
        · refine q_iload hC dX2_reach_74 3 rfl 76 rfl ?_
          exact r_iret hR dX2_reach_76 hw
        · refine q_iload hC dX2_reach_23 3 rfl 25 rfl ?_
          refine q_iload hC dX2_reach_25 4 rfl 27 rfl ?_
          refine q_iadd hC dX2_reach_27 28 rfl ?_
          refine q_iconst (v := 1) hC dX2_reach_28 rfl 29 rfl ?_
          refine q_iadd hC dX2_reach_29 30 rfl ?_
          refine q_iconst (v := 2) hC dX2_reach_30 rfl 31 rfl ?_
          refine q_idiv hC dX2_reach_31 (by decide) 32 rfl ?_
          refine q_nameI (fun x1 ex1 => ?_)
          have hw := hw x1 ex1
          refine q_istore (L' := [(7, .int x1), (0, .ref (gA g b)), (1, .int v1), (3, .int v3), (4, .int v4), (5, .int v5), (6, .int v6)]) hC dX2_reach_32 (by decide) rfl 34 rfl ?_
          refine q_aload_n hC dX2_reach_34 1 rfl 35 rfl ?_
          refine q_aload_n hC dX2_reach_35 1 rfl 36 rfl ?_
          refine q_getI (C := RX2) (T := TX2) (N := 14) (ci := 2) hC inX2_reach_X2 hb.ob rfl 9 (by decide) (uX2_reach__o _ (List.mem_of_getElem? (l := owX2_reach) (i := 1) rfl)) rfl (fun _ => rfl) dX2_reach_36 39 rfl ?_
          refine q_aload_n hC dX2_reach_39 1 rfl 40 rfl ?_
          refine q_getI (C := RX2) (T := TX2) (N := 14) (ci := 2) hC inX2_reach_X2 hb.ob rfl 9 (by decide) (uX2_reach__o _ (List.mem_of_getElem? (l := owX2_reach) (i := 1) rfl)) rfl (fun _ => rfl) dX2_reach_40 43 rfl ?_
          refine q_iload_n hC dX2_reach_43 3 rfl 44 rfl ?_
          refine q_iload hC dX2_reach_44 0 rfl 46 rfl ?_
          refine q_imul hC dX2_reach_46 47 rfl ?_
          refine q_iadd hC dX2_reach_47 48 rfl ?_
          refine r_callI hC (go_V (q := (RX2, TX2, 14)) (As := [.int (M b 9), .int ((M b 9) + (v3 * x1))]) (rest := []) hC (ctX2_sooner (zl z) g M b (M b 9) ((M b 9) + (v3 * x1)) _ hb hw) 2 gX2_reach_X2_sooner rfl ⟨rfl, rfl⟩ hdV_X2_sooner ⟨Nat.le_of_ble_eq_true rfl, Nat.le_of_ble_eq_true rfl⟩ hb.ob rfl rfl rfl (Nat.le_of_ble_eq_true rfl) dX2_reach_48) 51 rfl (fun r2 M3 hw => ?_)
          refine q_iload_n hC dX2_reach_51 2 rfl 52 rfl ?_
          refine q_icmp_gt hC 62 dX2_reach_52 (by decide) 55 rfl hw (fun hw => ?_) (fun hw => ?_)
          · refine q_iload hC dX2_reach_62 0 rfl 64 rfl ?_
            refine q_iconst (v := 1) hC dX2_reach_64 rfl 65 rfl ?_
            refine q_isub hC dX2_reach_65 66 rfl ?_
            refine q_nameI (fun x4 ex4 => ?_)
            have hw := hw x4 ex4
            refine q_istore (L' := [(5, .int x4), (7, .int x1), (0, .ref (gA g b)), (1, .int v1), (3, .int v3), (4, .int v4), (6, .int v6)]) hC dX2_reach_66 (by decide) rfl 68 rfl ?_
            exact XX.sub [2, 3, 4, 5, 0, 6] rfl (B68 _ (fun M v4 v5 v6 hw => ih M v4 v5 v6 hw) M3 v4 x4 v6 hw)
          · refine q_iload hC dX2_reach_55 0 rfl 57 rfl ?_
            refine q_istore (L' := [(4, .int x1), (7, .int x1), (0, .ref (gA g b)), (1, .int v1), (3, .int v3), (5, .int v5), (6, .int v6)]) hC dX2_reach_57 (by decide) rfl 59 rfl ?_
            refine q_goto hC 68 dX2_reach_59 (by decide) ?_
            exact XX.sub [2, 3, 4, 0, 5, 6] rfl (B68 _ (fun M v4 v5 v6 hw => ih M v4 v5 v6 hw) M3 x1 v5 v6 hw)
  refine q_iconst (v := 0) hC dX2_reach_0 rfl 1 rfl ?_
  refine q_istore (L' := [(4, .int 0), (0, .ref (gA g b)), (1, .int v1), (2, .int v2), (3, .int v3)]) hC dX2_reach_1 (by decide) rfl 3 rfl ?_
  refine q_iload_n hC dX2_reach_3 3 rfl 4 rfl ?_
  refine q_istore (L' := [(5, .int v2), (4, .int 0), (0, .ref (gA g b)), (1, .int v1), (2, .int v2), (3, .int v3)]) hC dX2_reach_4 (by decide) rfl 6 rfl ?_
  refine q_iconst (v := 0) hC dX2_reach_6 rfl 7 rfl ?_
  refine q_istore (L' := [(6, .int 0), (5, .int v2), (4, .int 0), (0, .ref (gA g b)), (1, .int v1), (2, .int v2), (3, .int v3)]) hC dX2_reach_7 (by decide) rfl 9 rfl ?_
  obtain ⟨n0, hw⟩ := hw
  exact XX.sub [3, 4, 6, 2, 1, 0] rfl (B9 n0 M 0 v2 0 hw)
theorem inX2_hasBlock_X2 : ∀ w ∈ u_ws RX2 TX2 14, w ∈ wsX2_hasBlock := uX2_hasBlock__wsX20
set_option maxRecDepth 100000 in
set_option maxHeartbeats 4000000 in
theorem ctX2_hasBlock (l : Launch) (g : GG) (M : MM) (b : Nat) (v1 : Int32) (Q : Int32 → MM → Prop) (hb : tpl g b) (hw : wX2_hasBlock Q M b v1) : MI g l yX2_hasBlock wsX2_hasBlock (rmOf 1 22) [.ref (gA g b), .int v1] M Q := by
  refine mk_MZ (cc := cX2_hasBlock) (maxL := 2) (by decide) rfl (Nat.le_of_ble_eq_true rfl) ?_
  intro z Qf hC hR
  show XX z g Qf 2 0 [(0, .ref (gA g b)), (1, .int v1)] [] M
  refine q_iload_n hC dX2_hasBlock_0 1 rfl 1 rfl ?_
  refine q_iconst (v := 0) hC dX2_hasBlock_1 rfl 2 rfl ?_
  refine q_aload_n hC dX2_hasBlock_2 0 rfl 3 rfl ?_
  refine q_getI (C := RX2) (T := TX2) (N := 14) (ci := 2) hC inX2_hasBlock_X2 hb.ob rfl 8 (by decide) (uX2_hasBlock__o _ (List.mem_of_getElem? (l := owX2_hasBlock) (i := 1) rfl)) rfl (fun _ => rfl) dX2_hasBlock_3 6 rfl ?_
  refine q_iconst (v := 1) hC dX2_hasBlock_6 rfl 7 rfl ?_
  refine q_isub hC dX2_hasBlock_7 8 rfl ?_
  refine r_callI hC (go_N (As := [.int v1, .int 0, .int ((M b 8) - (1 : Int32))]) (rest := []) hC (ctX4_isBetween (zl z) g M v1 0 ((M b 8) - (1 : Int32)) _ hw) 3 gX2_hasBlock_X4_isBetween_n69 rfl ⟨rfl, rfl⟩ 9 rfl (uX2_hasBlock__o _ (List.mem_of_getElem? (l := owX2_hasBlock) (i := 3) rfl)) (uX2_hasBlock__o _ (List.mem_of_getElem? (l := owX2_hasBlock) (i := 2) rfl)) hdT_X4_isBetween ⟨Nat.le_of_ble_eq_true rfl, Nat.le_of_ble_eq_true rfl⟩ rfl rfl (Nat.le_of_ble_eq_true rfl) dX2_hasBlock_8) 11 rfl (fun r1 M2 hw => ?_)
  exact r_iret hR dX2_hasBlock_11 hw
theorem inX2_hasAllOf_X2 : ∀ w ∈ u_ws RX2 TX2 14, w ∈ wsX2_hasAllOf := uX2_hasAllOf__wsX20
set_option maxRecDepth 100000 in
set_option maxHeartbeats 4000000 in
theorem ctX2_hasAllOf (l : Launch) (g : GG) (M : MM) (b : Nat) (v1 : Int32) (Q : Int32 → MM → Prop) (hb : tpl g b) (hw : wX2_hasAllOf Q M b v1) : MI g l yX2_hasAllOf wsX2_hasAllOf (rmOf 0 0) [.ref (gA g b), .int v1] M Q := by
  refine mk_MZ (cc := cX2_hasAllOf) (maxL := 2) (by decide) rfl (Nat.le_of_ble_eq_true rfl) ?_
  intro z Qf hC hR
  show XX z g Qf 2 0 [(0, .ref (gA g b)), (1, .int v1)] [] M
  refine q_iload_n hC dX2_hasAllOf_0 1 rfl 1 rfl ?_
  refine q_aload_n hC dX2_hasAllOf_1 0 rfl 2 rfl ?_
  refine q_getI (C := RX2) (T := TX2) (N := 14) (ci := 2) hC inX2_hasAllOf_X2 hb.ob rfl 8 (by decide) (uX2_hasAllOf__o _ (List.mem_of_getElem? (l := owX2_hasAllOf) (i := 1) rfl)) rfl (fun _ => rfl) dX2_hasAllOf_2 5 rfl ?_
  refine q_iushr hC dX2_hasAllOf_5 6 rfl ?_
  refine q_if_ne hC 13 dX2_hasAllOf_6 (by decide) 9 rfl hw (fun hw => ?_) (fun hw => ?_)
  · refine q_iconst (v := 0) hC dX2_hasAllOf_13 rfl 14 rfl ?_
    exact r_iret hR dX2_hasAllOf_14 ⟨nb_0, hw⟩
  · refine q_iconst (v := 1) hC dX2_hasAllOf_9 rfl 10 rfl ?_
    refine q_goto hC 14 dX2_hasAllOf_10 (by decide) ?_
    exact r_iret hR dX2_hasAllOf_14 ⟨nb_1, hw⟩
set_option maxRecDepth 100000 in
set_option maxHeartbeats 4000000 in
theorem ctX4_cell (l : Launch) (g : GG) (M : MM) (k0 : Nat) (v1 : Int32) (Q : Int32 → MM → Prop) (hk0 : isI g k0) (hw : wX4_cell Q M k0 v1) : MI g l yX4_cell wsX4_cell (rmOf 0 0) [.ref (gA g k0), .int v1] M Q := by
  refine mk_MI (cc := cX4_cell) (maxL := 2) (by decide) rfl (Nat.le_of_ble_eq_true rfl) ?_
  intro z Qf hC hR
  show XX z g Qf 2 0 [(0, .ref (gA g k0)), (1, .int v1)] [] M
  have B20 : ∀ (M : MM), wX4_cell_20 Q k0 v1 M → XX z g Qf 2 20 [] [] M := by
    intro M hw
    refine q_iconst (v := 0) hC dX4_cell_20 rfl 21 rfl ?_
    exact r_iret hR dX4_cell_21 hw
  refine q_aload_n hC dX4_cell_0 0 rfl 1 rfl ?_
  refine q_ifnull hC dX4_cell_1 4 rfl ?_
  refine q_iload_n hC dX4_cell_4 1 rfl 5 rfl ?_
  refine q_if_lt hC 20 dX4_cell_5 (by decide) 8 rfl hw (fun hw => ?_) (fun hw => ?_)
  · exact XX.sub [] rfl (B20 M hw)
  · refine q_iload_n hC dX4_cell_8 1 rfl 9 rfl ?_
    refine q_aload_n hC dX4_cell_9 0 rfl 10 rfl ?_
    refine q_alen hC hk0 dX4_cell_10 11 rfl ?_
    refine q_icmp_ge hC 20 dX4_cell_11 (by decide) 14 rfl hw (fun hw => ?_) (fun hw => ?_)
    · exact XX.sub [] rfl (B20 M hw)
    · refine q_aload_n hC dX4_cell_14 0 rfl 15 rfl ?_
      refine q_iload_n hC dX4_cell_15 1 rfl 16 rfl ?_
      obtain ⟨hin, hw⟩ := hw
      refine q_iald hC hk0 hin dX4_cell_16 17 rfl ?_
      refine q_goto hC 21 dX4_cell_17 (by decide) ?_
      exact r_iret hR dX4_cell_21 hw
set_option maxRecDepth 100000 in
set_option maxHeartbeats 4000000 in
theorem ctX4_cell_s (l : Launch) (g : GG) (M : MM) (k0 : Nat) (v1 : Int32) (Q : Int32 → MM → Prop) (hk0 : k0 < 3) (hw : wX4_cell_s Q M k0 v1) : MI g l yX4_cell wsX4_cell (rmOf 0 0) [.ref (gS g k0), .int v1] M Q := by
  refine mk_MI (cc := cX4_cell) (maxL := 2) (by decide) rfl (Nat.le_of_ble_eq_true rfl) ?_
  intro z Qf hC hR
  show XX z g Qf 2 0 [(0, .ref (gS g k0)), (1, .int v1)] [] M
  have B20 : ∀ (M : MM), wX4_cell_s_20 Q k0 v1 M → XX z g Qf 2 20 [] [] M := by
    intro M hw
    refine q_iconst (v := 0) hC dX4_cell_20 rfl 21 rfl ?_
    exact r_iret hR dX4_cell_21 hw
  refine q_aload_n hC dX4_cell_0 0 rfl 1 rfl ?_
  refine q_ifnull hC dX4_cell_1 4 rfl ?_
  refine q_iload_n hC dX4_cell_4 1 rfl 5 rfl ?_
  refine q_if_lt hC 20 dX4_cell_5 (by decide) 8 rfl hw (fun hw => ?_) (fun hw => ?_)
  · exact XX.sub [] rfl (B20 M hw)
  · refine q_iload_n hC dX4_cell_8 1 rfl 9 rfl ?_
    refine q_aload_n hC dX4_cell_9 0 rfl 10 rfl ?_
    refine q_tlen hC k0 hk0 dX4_cell_10 11 rfl ?_
    refine q_icmp_ge hC 20 dX4_cell_11 (by decide) 14 rfl hw (fun hw => ?_) (fun hw => ?_)
    · exact XX.sub [] rfl (B20 M hw)
    · refine q_aload_n hC dX4_cell_14 0 rfl 15 rfl ?_
      refine q_iload_n hC dX4_cell_15 1 rfl 16 rfl ?_
      obtain ⟨hin, hw⟩ := hw
      refine q_ti hC k0 hk0 hin dX4_cell_16 17 rfl ?_
      refine q_goto hC 21 dX4_cell_17 (by decide) ?_
      exact r_iret hR dX4_cell_21 hw
theorem hdT_X4_cell : yX4_cell.cls ≠ "java/lang/invoke/MethodHandle" ∧ yX4_cell.cls ≠ "java/lang/invoke/VarHandle" ∧ (parseMethodDescriptor yX4_cell.desc).map (fun d => d.parameters.length) = some 2 := by decide +kernel
theorem inX2_beginOf_X2 : ∀ w ∈ u_ws RX2 TX2 14, w ∈ wsX2_beginOf := uX2_beginOf__wsX20
set_option maxRecDepth 100000 in
set_option maxHeartbeats 4000000 in
theorem ctX2_beginOf (l : Launch) (g : GG) (M : MM) (b : Nat) (v1 : Int32) (Q : Int32 → MM → Prop) (hb : tpl g b) (hw : wX2_beginOf Q M b v1) : MI g l yX2_beginOf wsX2_beginOf (rmOf 1 21) [.ref (gA g b), .int v1] M Q := by
  refine mk_MI (cc := cX2_beginOf) (maxL := 2) (by decide) rfl (Nat.le_of_ble_eq_true rfl) ?_
  intro z Qf hC hR
  show XX z g Qf 2 0 [(0, .ref (gA g b)), (1, .int v1)] [] M
  refine q_aload_n hC dX2_beginOf_0 0 rfl 1 rfl ?_
  refine q_getR (C := RX2) (T := TX2) (N := 14) (ci := 2) hC inX2_beginOf_X2 hb.ob rfl 1 (by decide) (uX2_beginOf__o _ (List.mem_of_getElem? (l := owX2_beginOf) (i := 1) rfl)) rfl (b + 2) (fun _ => rfl) dX2_beginOf_1 4 rfl ?_
  refine q_iload_n hC dX2_beginOf_4 1 rfl 5 rfl ?_
  refine r_callI hC (go_N (As := [.ref (gA g (b + 2)), .int v1]) (rest := []) hC (ctX4_cell (zl z) g M (b + 2) v1 _ (hb.ar 2 (by decide) (by decide)) hw) 2 gX2_beginOf_X4_cell_n114 rfl ⟨rfl, rfl⟩ 5 rfl (uX2_beginOf__o _ (List.mem_of_getElem? (l := owX2_beginOf) (i := 3) rfl)) (uX2_beginOf__o _ (List.mem_of_getElem? (l := owX2_beginOf) (i := 2) rfl)) hdT_X4_cell ⟨Nat.le_of_ble_eq_true rfl, Nat.le_of_ble_eq_true rfl⟩ rfl rfl (Nat.le_of_ble_eq_true rfl) dX2_beginOf_5) 8 rfl (fun r1 M2 hw => ?_)
  exact r_iret hR dX2_beginOf_8 hw
theorem inX2_sizeOf_X2 : ∀ w ∈ u_ws RX2 TX2 14, w ∈ wsX2_sizeOf := uX2_sizeOf__wsX20
set_option maxRecDepth 100000 in
set_option maxHeartbeats 4000000 in
theorem ctX2_sizeOf (l : Launch) (g : GG) (M : MM) (b : Nat) (v1 : Int32) (Q : Int32 → MM → Prop) (hb : tpl g b) (hw : wX2_sizeOf Q M b v1) : MI g l yX2_sizeOf wsX2_sizeOf (rmOf 1 21) [.ref (gA g b), .int v1] M Q := by
  refine mk_MI (cc := cX2_sizeOf) (maxL := 2) (by decide) rfl (Nat.le_of_ble_eq_true rfl) ?_
  intro z Qf hC hR
  show XX z g Qf 2 0 [(0, .ref (gA g b)), (1, .int v1)] [] M
  refine q_aload_n hC dX2_sizeOf_0 0 rfl 1 rfl ?_
  refine q_getR (C := RX2) (T := TX2) (N := 14) (ci := 2) hC inX2_sizeOf_X2 hb.ob rfl 2 (by decide) (uX2_sizeOf__o _ (List.mem_of_getElem? (l := owX2_sizeOf) (i := 1) rfl)) rfl (b + 3) (fun _ => rfl) dX2_sizeOf_1 4 rfl ?_
  refine q_iload_n hC dX2_sizeOf_4 1 rfl 5 rfl ?_
  refine r_callI hC (go_N (As := [.ref (gA g (b + 3)), .int v1]) (rest := []) hC (ctX4_cell (zl z) g M (b + 3) v1 _ (hb.ar 3 (by decide) (by decide)) hw) 2 gX2_sizeOf_X4_cell_n114 rfl ⟨rfl, rfl⟩ 5 rfl (uX2_sizeOf__o _ (List.mem_of_getElem? (l := owX2_sizeOf) (i := 3) rfl)) (uX2_sizeOf__o _ (List.mem_of_getElem? (l := owX2_sizeOf) (i := 2) rfl)) hdT_X4_cell ⟨Nat.le_of_ble_eq_true rfl, Nat.le_of_ble_eq_true rfl⟩ rfl rfl (Nat.le_of_ble_eq_true rfl) dX2_sizeOf_5) 8 rfl (fun r1 M2 hw => ?_)
  exact r_iret hR dX2_sizeOf_8 hw
theorem hdV_X2_sizeOf : yX2_sizeOf.cls = RX2 ∧ yX2_sizeOf.cls ≠ "java/lang/invoke/MethodHandle" ∧ yX2_sizeOf.cls ≠ "java/lang/invoke/VarHandle" ∧ (parseMethodDescriptor yX2_sizeOf.desc).map (fun d => d.parameters.length) = some 1 := by decide +kernel
set_option maxRecDepth 100000 in
set_option maxHeartbeats 4000000 in
theorem ctX2_isMark (l : Launch) (g : GG) (M : MM) (b : Nat) (v1 : Int32) (Q : Int32 → MM → Prop) (hb : tpl g b) (hw : wX2_isMark Q M b v1) : MI g l yX2_isMark wsX2_isMark (rmOf 2 42) [.ref (gA g b), .int v1] M Q := by
  refine mk_MZ (cc := cX2_isMark) (maxL := 2) (by decide) rfl (Nat.le_of_ble_eq_true rfl) ?_
  intro z Qf hC hR
  show XX z g Qf 2 0 [(0, .ref (gA g b)), (1, .int v1)] [] M
  refine q_aload_n hC dX2_isMark_0 0 rfl 1 rfl ?_
  refine q_iload_n hC dX2_isMark_1 1 rfl 2 rfl ?_
  refine r_callI hC (go_V (q := (RX2, TX2, 14)) (As := [.int v1]) (rest := []) hC (ctX2_sizeOf (zl z) g M b v1 _ hb hw) 1 gX2_isMark_X2_sizeOf rfl ⟨rfl, rfl⟩ hdV_X2_sizeOf ⟨Nat.le_of_ble_eq_true rfl, Nat.le_of_ble_eq_true rfl⟩ hb.ob rfl rfl rfl (Nat.le_of_ble_eq_true rfl) dX2_isMark_2) 5 rfl (fun r1 M2 hw => ?_)
  refine q_if_ne hC 12 dX2_isMark_5 (by decide) 8 rfl hw (fun hw => ?_) (fun hw => ?_)
  · refine q_iconst (v := 0) hC dX2_isMark_12 rfl 13 rfl ?_
    exact r_iret hR dX2_isMark_13 ⟨nb_0, hw⟩
  · refine q_iconst (v := 1) hC dX2_isMark_8 rfl 9 rfl ?_
    refine q_goto hC 13 dX2_isMark_9 (by decide) ?_
    exact r_iret hR dX2_isMark_13 ⟨nb_1, hw⟩
set_option maxRecDepth 100000 in
set_option maxHeartbeats 4000000 in
theorem ctX4_dividedUp (l : Launch) (g : GG) (M : MM) (v0 : Int32) (v1 : Int32) (Q : Int32 → MM → Prop)  (hw : wX4_dividedUp Q M v0 v1) : MI g l yX4_dividedUp wsX4_dividedUp (rmOf 0 0) [.int v0, .int v1] M Q := by
  refine mk_MI (cc := cX4_dividedUp) (maxL := 2) (by decide) rfl (Nat.le_of_ble_eq_true rfl) ?_
  intro z Qf hC hR
  show XX z g Qf 2 0 [(0, .int v0), (1, .int v1)] [] M
  refine q_iload_n hC dX4_dividedUp_0 1 rfl 1 rfl ?_
  refine q_iconst (v := 1) hC dX4_dividedUp_1 rfl 2 rfl ?_
  refine q_icmp_ge hC 9 dX4_dividedUp_2 (by decide) 5 rfl hw (fun hw => ?_) (fun hw => ?_)
  · refine q_iload_n hC dX4_dividedUp_9 0 rfl 10 rfl ?_
    refine q_iload_n hC dX4_dividedUp_10 1 rfl 11 rfl ?_
    refine q_iadd hC dX4_dividedUp_11 12 rfl ?_
    refine q_iconst (v := 1) hC dX4_dividedUp_12 rfl 13 rfl ?_
    refine q_isub hC dX4_dividedUp_13 14 rfl ?_
    refine q_iload_n hC dX4_dividedUp_14 1 rfl 15 rfl ?_
    obtain ⟨hne, hw⟩ := hw
    refine q_idiv hC dX4_dividedUp_15 hne 16 rfl ?_
    exact r_iret hR dX4_dividedUp_16 hw
  · refine q_iconst (v := 0) hC dX4_dividedUp_5 rfl 6 rfl ?_
    refine q_goto hC 16 dX4_dividedUp_6 (by decide) ?_
    exact r_iret hR dX4_dividedUp_16 hw
theorem hdT_X4_dividedUp : yX4_dividedUp.cls ≠ "java/lang/invoke/MethodHandle" ∧ yX4_dividedUp.cls ≠ "java/lang/invoke/VarHandle" ∧ (parseMethodDescriptor yX4_dividedUp.desc).map (fun d => d.parameters.length) = some 2 := by decide +kernel
set_option maxRecDepth 100000 in
set_option maxHeartbeats 4000000 in
theorem ctX2_longWith (l : Launch) (g : GG) (M : MM) (b : Nat) (v1 : Int32) (Q : Int32 → MM → Prop) (hb : tpl g b) (hw : wX2_longWith Q M b v1) : MI g l yX2_longWith wsX2_longWith (rmOf 1 21) [.ref (gA g b), .int v1] M Q := by
  refine mk_MI (cc := cX2_longWith) (maxL := 2) (by decide) rfl (Nat.le_of_ble_eq_true rfl) ?_
  intro z Qf hC hR
  show XX z g Qf 2 0 [(0, .ref (gA g b)), (1, .int v1)] [] M
  refine q_iload_n hC dX2_longWith_0 1 rfl 1 rfl ?_
  refine q_if_ne hC 8 dX2_longWith_1 (by decide) 4 rfl hw (fun hw => ?_) (fun hw => ?_)
  · refine q_iload_n hC dX2_longWith_8 1 rfl 9 rfl ?_
    refine q_iconst (v := 1) hC dX2_longWith_9 rfl 10 rfl ?_
    refine q_iadd hC dX2_longWith_10 11 rfl ?_
    refine q_aload_n hC dX2_longWith_11 0 rfl 12 rfl ?_
    refine q_bipush (v := 7) hC dX2_longWith_12 (by decide) 14 rfl ?_
    refine r_callI hC (go_V (q := (RX2, TX2, 14)) (As := [.int 7]) (rest := [.int (v1 + (1 : Int32))]) hC (ctX2_ruled (zl z) g M b 7 _ hb hw) 1 gX2_longWith_X2_ruled rfl ⟨rfl, rfl⟩ hdV_X2_ruled ⟨Nat.le_of_ble_eq_true rfl, Nat.le_of_ble_eq_true rfl⟩ hb.ob rfl rfl rfl (Nat.le_of_ble_eq_true rfl) dX2_longWith_14) 17 rfl (fun r1 M2 hw => ?_)
    refine r_callI hC (go_N (As := [.int (v1 + (1 : Int32)), .int r1]) (rest := []) hC (ctX4_dividedUp (zl z) g M2 (v1 + (1 : Int32)) r1 _ hw) 2 gX2_longWith_X4_dividedUp_n121 rfl ⟨rfl, rfl⟩ 6 rfl (uX2_longWith__o _ (List.mem_of_getElem? (l := owX2_longWith) (i := 6) rfl)) (uX2_longWith__o _ (List.mem_of_getElem? (l := owX2_longWith) (i := 5) rfl)) hdT_X4_dividedUp ⟨Nat.le_of_ble_eq_true rfl, Nat.le_of_ble_eq_true rfl⟩ rfl rfl (Nat.le_of_ble_eq_true rfl) dX2_longWith_17) 20 rfl (fun r3 M4 hw => ?_)
    exact r_iret hR dX2_longWith_20 hw
  · refine q_iconst (v := 1) hC dX2_longWith_4 rfl 5 rfl ?_
    refine q_goto hC 20 dX2_longWith_5 (by decide) ?_
    exact r_iret hR dX2_longWith_20 hw
theorem hdV_X2_longWith : yX2_longWith.cls = RX2 ∧ yX2_longWith.cls ≠ "java/lang/invoke/MethodHandle" ∧ yX2_longWith.cls ≠ "java/lang/invoke/VarHandle" ∧ (parseMethodDescriptor yX2_longWith.desc).map (fun d => d.parameters.length) = some 1 := by decide +kernel
set_option maxRecDepth 100000 in
set_option maxHeartbeats 4000000 in
theorem ctX2_longOf (l : Launch) (g : GG) (M : MM) (b : Nat) (v1 : Int32) (Q : Int32 → MM → Prop) (hb : tpl g b) (hw : wX2_longOf Q M b v1) : MI g l yX2_longOf wsX2_longOf (rmOf 2 42) [.ref (gA g b), .int v1] M Q := by
  refine mk_MI (cc := cX2_longOf) (maxL := 2) (by decide) rfl (Nat.le_of_ble_eq_true rfl) ?_
  intro z Qf hC hR
  show XX z g Qf 2 0 [(0, .ref (gA g b)), (1, .int v1)] [] M
  refine q_aload_n hC dX2_longOf_0 0 rfl 1 rfl ?_
  refine q_aload_n hC dX2_longOf_1 0 rfl 2 rfl ?_
  refine q_iload_n hC dX2_longOf_2 1 rfl 3 rfl ?_
  refine r_callI hC (go_V (q := (RX2, TX2, 14)) (As := [.int v1]) (rest := [.ref (gA g b)]) hC (ctX2_sizeOf (zl z) g M b v1 _ hb hw) 1 gX2_longOf_X2_sizeOf rfl ⟨rfl, rfl⟩ hdV_X2_sizeOf ⟨Nat.le_of_ble_eq_true rfl, Nat.le_of_ble_eq_true rfl⟩ hb.ob rfl rfl rfl (Nat.le_of_ble_eq_true rfl) dX2_longOf_3) 6 rfl (fun r1 M2 hw => ?_)
  refine r_callI hC (go_V (q := (RX2, TX2, 14)) (As := [.int r1]) (rest := []) hC (ctX2_longWith (zl z) g M2 b r1 _ hb hw) 1 gX2_longOf_X2_longWith rfl ⟨rfl, rfl⟩ hdV_X2_longWith ⟨Nat.le_of_ble_eq_true rfl, Nat.le_of_ble_eq_true rfl⟩ hb.ob rfl rfl rfl (Nat.le_of_ble_eq_true rfl) dX2_longOf_6) 9 rfl (fun r3 M4 hw => ?_)
  exact r_iret hR dX2_longOf_9 hw
theorem hdV_X2_hasBlock : yX2_hasBlock.cls = RX2 ∧ yX2_hasBlock.cls ≠ "java/lang/invoke/MethodHandle" ∧ yX2_hasBlock.cls ≠ "java/lang/invoke/VarHandle" ∧ (parseMethodDescriptor yX2_hasBlock.desc).map (fun d => d.parameters.length) = some 1 := by decide +kernel
theorem hdV_X2_beginOf : yX2_beginOf.cls = RX2 ∧ yX2_beginOf.cls ≠ "java/lang/invoke/MethodHandle" ∧ yX2_beginOf.cls ≠ "java/lang/invoke/VarHandle" ∧ (parseMethodDescriptor yX2_beginOf.desc).map (fun d => d.parameters.length) = some 1 := by decide +kernel
set_option maxRecDepth 100000 in
set_option maxHeartbeats 4000000 in
theorem ctX2_endOf (l : Launch) (g : GG) (M : MM) (b : Nat) (v1 : Int32) (Q : Int32 → MM → Prop) (hb : tpl g b) (hw : wX2_endOf Q M b v1) : MI g l yX2_endOf wsX2_endOf (rmOf 2 43) [.ref (gA g b), .int v1] M Q := by
  refine mk_MI (cc := cX2_endOf) (maxL := 2) (by decide) rfl (Nat.le_of_ble_eq_true rfl) ?_
  intro z Qf hC hR
  show XX z g Qf 2 0 [(0, .ref (gA g b)), (1, .int v1)] [] M
  refine q_aload_n hC dX2_endOf_0 0 rfl 1 rfl ?_
  refine q_iload_n hC dX2_endOf_1 1 rfl 2 rfl ?_
  refine r_callI hC (go_V (q := (RX2, TX2, 14)) (As := [.int v1]) (rest := []) hC (ctX2_hasBlock (zl z) g M b v1 _ hb hw) 1 gX2_endOf_X2_hasBlock rfl ⟨rfl, rfl⟩ hdV_X2_hasBlock ⟨Nat.le_of_ble_eq_true rfl, Nat.le_of_ble_eq_true rfl⟩ hb.ob rfl rfl rfl (Nat.le_of_ble_eq_true rfl) dX2_endOf_2) 5 rfl (fun r1 M2 hw => ?_)
  refine q_if_eq hC 26 dX2_endOf_5 (by decide) 8 rfl hw (fun hw => ?_) (fun hw => ?_)
  · refine q_iconst (v := 0) hC dX2_endOf_26 rfl 27 rfl ?_
    exact r_iret hR dX2_endOf_27 hw
  · refine q_aload_n hC dX2_endOf_8 0 rfl 9 rfl ?_
    refine q_iload_n hC dX2_endOf_9 1 rfl 10 rfl ?_
    refine r_callI hC (go_V (q := (RX2, TX2, 14)) (As := [.int v1]) (rest := []) hC (ctX2_beginOf (zl z) g M2 b v1 _ hb hw) 1 gX2_endOf_X2_beginOf rfl ⟨rfl, rfl⟩ hdV_X2_beginOf ⟨Nat.le_of_ble_eq_true rfl, Nat.le_of_ble_eq_true rfl⟩ hb.ob rfl rfl rfl (Nat.le_of_ble_eq_true rfl) dX2_endOf_10) 13 rfl (fun r3 M4 hw => ?_)
    refine q_aload_n hC dX2_endOf_13 0 rfl 14 rfl ?_
    refine q_aload_n hC dX2_endOf_14 0 rfl 15 rfl ?_
    refine q_iload_n hC dX2_endOf_15 1 rfl 16 rfl ?_
    refine r_callI hC (go_V (q := (RX2, TX2, 14)) (As := [.int v1]) (rest := [.ref (gA g b), .int r3]) hC (ctX2_sizeOf (zl z) g M4 b v1 _ hb hw) 1 gX2_endOf_X2_sizeOf rfl ⟨rfl, rfl⟩ hdV_X2_sizeOf ⟨Nat.le_of_ble_eq_true rfl, Nat.le_of_ble_eq_true rfl⟩ hb.ob rfl rfl rfl (Nat.le_of_ble_eq_true rfl) dX2_endOf_16) 19 rfl (fun r5 M6 hw => ?_)
    refine r_callI hC (go_V (q := (RX2, TX2, 14)) (As := [.int r5]) (rest := [.int r3]) hC (ctX2_longWith (zl z) g M6 b r5 _ hb hw) 1 gX2_endOf_X2_longWith rfl ⟨rfl, rfl⟩ hdV_X2_longWith ⟨Nat.le_of_ble_eq_true rfl, Nat.le_of_ble_eq_true rfl⟩ hb.ob rfl rfl rfl (Nat.le_of_ble_eq_true rfl) dX2_endOf_19) 22 rfl (fun r7 M8 hw => ?_)
    refine q_iadd hC dX2_endOf_22 23 rfl ?_
    refine q_goto hC 27 dX2_endOf_23 (by decide) ?_
    exact r_iret hR dX2_endOf_27 hw
theorem hdV_X2_endOf : yX2_endOf.cls = RX2 ∧ yX2_endOf.cls ≠ "java/lang/invoke/MethodHandle" ∧ yX2_endOf.cls ≠ "java/lang/invoke/VarHandle" ∧ (parseMethodDescriptor yX2_endOf.desc).map (fun d => d.parameters.length) = some 1 := by decide +kernel
theorem inX2_blockWith_X2 : ∀ w ∈ u_ws RX2 TX2 14, w ∈ wsX2_blockWith := uX2_blockWith__wsX20
set_option maxRecDepth 100000 in
set_option maxHeartbeats 4000000 in
theorem ctX2_blockWith (l : Launch) (g : GG) (M : MM) (b : Nat) (v1 : Int32) (Q : Int32 → MM → Prop) (hb : tpl g b) (hw : wX2_blockWith Q M b v1) : MI g l yX2_blockWith wsX2_blockWith (rmOf 3 64) [.ref (gA g b), .int v1] M Q := by
  refine mk_MI (cc := cX2_blockWith) (maxL := 3) (by decide) rfl (Nat.le_of_ble_eq_true rfl) ?_
  intro z Qf hC hR
  show XX z g Qf 3 0 [(0, .ref (gA g b)), (1, .int v1)] [] M
  have B2 : ∀ (n : Nat) (M : MM) (v2 : Int32) , wX2_blockWith_2 Q b v1 n M v2 → XX z g Qf 3 2 [(0, .ref (gA g b)), (1, .int v1), (2, .int v2)] [] M := by
    intro n
    induction n with
    | zero =>
      intro M v2 hw
      exact hw.elim
    | succ n ih =>
      intro M v2 hw
      refine q_iload_n hC dX2_blockWith_2 2 rfl 3 rfl ?_
      refine q_aload_n hC dX2_blockWith_3 0 rfl 4 rfl ?_
      refine q_getI (C := RX2) (T := TX2) (N := 14) (ci := 2) hC inX2_blockWith_X2 hb.ob rfl 8 (by decide) (uX2_blockWith__X2_hasBlock _ (List.mem_of_getElem? (l := owX2_hasBlock) (i := 1) rfl)) rfl (fun _ => rfl) dX2_blockWith_4 7 rfl ?_
      refine q_icmp_ge hC 37 dX2_blockWith_7 (by decide) 10 rfl hw (fun hw => ?_) (fun hw => ?_)
      · refine q_bipush (v := (-4)) hC dX2_blockWith_37 (by decide) 39 rfl ?_
        exact r_iret hR dX2_blockWith_39 hw
      · refine q_iload_n hC dX2_blockWith_10 1 rfl 11 rfl ?_
        refine q_aload_n hC dX2_blockWith_11 0 rfl 12 rfl ?_
        refine q_iload_n hC dX2_blockWith_12 2 rfl 13 rfl ?_
        refine r_callI hC (go_V (q := (RX2, TX2, 14)) (As := [.int v2]) (rest := [.int v1]) hC (ctX2_beginOf (zl z) g M b v2 _ hb hw) 1 gX2_blockWith_X2_beginOf rfl ⟨rfl, rfl⟩ hdV_X2_beginOf ⟨Nat.le_of_ble_eq_true rfl, Nat.le_of_ble_eq_true rfl⟩ hb.ob rfl rfl rfl (Nat.le_of_ble_eq_true rfl) dX2_blockWith_13) 16 rfl (fun r1 M2 hw => ?_)
        refine q_aload_n hC dX2_blockWith_16 0 rfl 17 rfl ?_
        refine q_iload_n hC dX2_blockWith_17 2 rfl 18 rfl ?_
        refine r_callI hC (go_V (q := (RX2, TX2, 14)) (As := [.int v2]) (rest := [.int r1, .int v1]) hC (ctX2_endOf (zl z) g M2 b v2 _ hb hw) 1 gX2_blockWith_X2_endOf rfl ⟨rfl, rfl⟩ hdV_X2_endOf ⟨Nat.le_of_ble_eq_true rfl, Nat.le_of_ble_eq_true rfl⟩ hb.ob rfl rfl rfl (Nat.le_of_ble_eq_true rfl) dX2_blockWith_18) 21 rfl (fun r3 M4 hw => ?_)
        refine q_iconst (v := 1) hC dX2_blockWith_21 rfl 22 rfl ?_
        refine q_isub hC dX2_blockWith_22 23 rfl ?_
        refine r_callI hC (go_N (As := [.int v1, .int r1, .int (r3 - (1 : Int32))]) (rest := []) hC (ctX4_isBetween (zl z) g M4 v1 r1 (r3 - (1 : Int32)) _ hw) 3 gX2_blockWith_X4_isBetween_n69 rfl ⟨rfl, rfl⟩ 9 rfl (uX2_blockWith__X2_beginOf _ (List.mem_of_getElem? (l := owX2_beginOf) (i := 3) rfl)) (uX2_blockWith__X2_hasBlock _ (List.mem_of_getElem? (l := owX2_hasBlock) (i := 2) rfl)) hdT_X4_isBetween ⟨Nat.le_of_ble_eq_true rfl, Nat.le_of_ble_eq_true rfl⟩ rfl rfl (Nat.le_of_ble_eq_true rfl) dX2_blockWith_23) 26 rfl (fun r5 M6 hw => ?_)
        refine q_if_eq hC 31 dX2_blockWith_26 (by decide) 29 rfl hw (fun hw => ?_) (fun hw => ?_)
        · refine q_iinc (v := v2 + 1) (L' := [(2, .int (v2 + 1)), (0, .ref (gA g b)), (1, .int v1)]) hC dX2_blockWith_31 2 rfl rfl (by decide) rfl 34 rfl ?_
          refine q_goto hC 2 dX2_blockWith_34 (by decide) ?_
          exact XX.sub [1, 2, 0] rfl (ih M6 (v2 + 1) hw)
        · refine q_iload_n hC dX2_blockWith_29 2 rfl 30 rfl ?_
          exact r_iret hR dX2_blockWith_30 hw
  refine q_iconst (v := 0) hC dX2_blockWith_0 rfl 1 rfl ?_
  refine q_istore_n (L' := [(2, .int 0), (0, .ref (gA g b)), (1, .int v1)]) hC dX2_blockWith_1 (by decide) rfl 2 rfl ?_
  obtain ⟨n0, hw⟩ := hw
  exact XX.sub [1, 2, 0] rfl (B2 n0 M 0 hw)
theorem hdV_X2_isMark : yX2_isMark.cls = RX2 ∧ yX2_isMark.cls ≠ "java/lang/invoke/MethodHandle" ∧ yX2_isMark.cls ≠ "java/lang/invoke/VarHandle" ∧ (parseMethodDescriptor yX2_isMark.desc).map (fun d => d.parameters.length) = some 1 := by decide +kernel
theorem inX2_markCount_X2 : ∀ w ∈ u_ws RX2 TX2 14, w ∈ wsX2_markCount := uX2_markCount__wsX20
set_option maxRecDepth 100000 in
set_option maxHeartbeats 4000000 in
theorem ctX2_markCount (l : Launch) (g : GG) (M : MM) (b : Nat) (Q : Int32 → MM → Prop) (hb : tpl g b) (hw : wX2_markCount Q M b) : MI g l yX2_markCount wsX2_markCount (rmOf 3 63) [.ref (gA g b)] M Q := by
  refine mk_MI (cc := cX2_markCount) (maxL := 3) (by decide) rfl (Nat.le_of_ble_eq_true rfl) ?_
  intro z Qf hC hR
  show XX z g Qf 3 0 [(0, .ref (gA g b))] [] M
  have B23 : ∀ (K4 : MM → Int32 → Int32 → Prop) (hK4 : ∀ (M : MM) (v1 : Int32) (v2 : Int32) , K4 M v1 v2 → XX z g Qf 3 4 [(0, .ref (gA g b)), (1, .int v1), (2, .int v2)] [] M) (M : MM) (v1 : Int32) (v2 : Int32), wX2_markCount_23 Q K4 b M v1 v2 → XX z g Qf 3 23 [(0, .ref (gA g b)), (1, .int v1), (2, .int v2)] [] M := by
    intro K4 hK4 M v1 v2 hw
    refine q_iinc (v := v2 + 1) (L' := [(2, .int (v2 + 1)), (0, .ref (gA g b)), (1, .int v1)]) hC dX2_markCount_23 2 rfl rfl (by decide) rfl 26 rfl ?_
    refine q_goto hC 4 dX2_markCount_26 (by decide) ?_
    exact XX.sub [1, 2, 0] rfl (hK4 M v1 (v2 + 1) hw)
  have B4 : ∀ (n : Nat) (M : MM) (v1 : Int32) (v2 : Int32) , wX2_markCount_4 Q b n M v1 v2 → XX z g Qf 3 4 [(0, .ref (gA g b)), (1, .int v1), (2, .int v2)] [] M := by
    intro n
    induction n with
    | zero =>
      intro M v1 v2 hw
      exact hw.elim
    | succ n ih =>
      intro M v1 v2 hw
      refine q_iload_n hC dX2_markCount_4 2 rfl 5 rfl ?_
      refine q_aload_n hC dX2_markCount_5 0 rfl 6 rfl ?_
      refine q_getI (C := RX2) (T := TX2) (N := 14) (ci := 2) hC inX2_markCount_X2 hb.ob rfl 8 (by decide) (uX2_markCount__o _ (List.mem_of_getElem? (l := owX2_markCount) (i := 1) rfl)) rfl (fun _ => rfl) dX2_markCount_6 9 rfl ?_
      refine q_icmp_ge hC 29 dX2_markCount_9 (by decide) 12 rfl hw (fun hw => ?_) (fun hw => ?_)
      · refine q_iload_n hC dX2_markCount_29 1 rfl 30 rfl ?_
        exact r_iret hR dX2_markCount_30 hw
      · refine q_aload_n hC dX2_markCount_12 0 rfl 13 rfl ?_
        refine q_iload_n hC dX2_markCount_13 2 rfl 14 rfl ?_
        refine r_callI hC (go_V (q := (RX2, TX2, 14)) (As := [.int v2]) (rest := []) hC (ctX2_isMark (zl z) g M b v2 _ hb hw) 1 gX2_markCount_X2_isMark rfl ⟨rfl, rfl⟩ hdV_X2_isMark ⟨Nat.le_of_ble_eq_true rfl, Nat.le_of_ble_eq_true rfl⟩ hb.ob rfl rfl rfl (Nat.le_of_ble_eq_true rfl) dX2_markCount_14) 17 rfl (fun r1 M2 hw => ?_)
        refine q_if_eq hC 23 dX2_markCount_17 (by decide) 20 rfl hw (fun hw => ?_) (fun hw => ?_)
        · exact XX.sub [0, 1, 2] rfl (B23 _ (fun M v1 v2 hw => ih M v1 v2 hw) M2 v1 v2 hw)
        · refine q_iinc (v := v1 + 1) (L' := [(1, .int (v1 + 1)), (0, .ref (gA g b)), (2, .int v2)]) hC dX2_markCount_20 1 rfl rfl (by decide) rfl 23 rfl ?_
          exact XX.sub [1, 0, 2] rfl (B23 _ (fun M v1 v2 hw => ih M v1 v2 hw) M2 (v1 + 1) v2 hw)
  refine q_iconst (v := 0) hC dX2_markCount_0 rfl 1 rfl ?_
  refine q_istore_n (L' := [(1, .int 0), (0, .ref (gA g b))]) hC dX2_markCount_1 (by decide) rfl 2 rfl ?_
  refine q_iconst (v := 0) hC dX2_markCount_2 rfl 3 rfl ?_
  refine q_istore_n (L' := [(2, .int 0), (1, .int 0), (0, .ref (gA g b))]) hC dX2_markCount_3 (by decide) rfl 4 rfl ?_
  obtain ⟨n0, hw⟩ := hw
  exact XX.sub [2, 1, 0] rfl (B4 n0 M 0 0 hw)
