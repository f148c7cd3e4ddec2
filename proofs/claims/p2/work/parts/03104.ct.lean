theorem hdV_X2_isReadAsWritten : yX2_isReadAsWritten.cls = RX2 ∧ yX2_isReadAsWritten.cls ≠ "java/lang/invoke/MethodHandle" ∧ yX2_isReadAsWritten.cls ≠ "java/lang/invoke/VarHandle" ∧ (parseMethodDescriptor yX2_isReadAsWritten.desc).map (fun d => d.parameters.length) = some 1 := by decide +kernel
theorem inX2_fooledBlocks_X2 : ∀ w ∈ u_ws RX2 TX2 14, w ∈ wsX2_fooledBlocks := uX2_fooledBlocks__wsX20
set_option maxRecDepth 100000 in
set_option maxHeartbeats 4000000 in
theorem ctX2_fooledBlocks (l : Launch) (g : GG) (M : MM) (b : Nat) (Q : Int32 → MM → Prop) (hb : tpl g b) (hw : wX2_fooledBlocks Q M b) : MI g l yX2_fooledBlocks wsX2_fooledBlocks (rmOf 5 113) [.ref (gA g b)] M Q := by
  refine mk_MI (cc := cX2_fooledBlocks) (maxL := 3) (by decide) rfl (Nat.le_of_ble_eq_true rfl) ?_
  intro z Qf hC hR
  show XX z g Qf 3 0 [(0, .ref (gA g b))] [] M
  have B39 : ∀ (K4 : MM → Int32 → Int32 → Prop) (hK4 : ∀ (M : MM) (v1 : Int32) (v2 : Int32) , K4 M v1 v2 → XX z g Qf 3 4 [(0, .ref (gA g b)), (1, .int v1), (2, .int v2)] [] M) (M : MM) (v1 : Int32) (v2 : Int32), wX2_fooledBlocks_39 Q K4 b M v1 v2 → XX z g Qf 3 39 [(0, .ref (gA g b)), (1, .int v1), (2, .int v2)] [] M := by
    intro K4 hK4 M v1 v2 hw
    refine q_iinc (v := v2 + 1) (L' := [(2, .int (v2 + 1)), (0, .ref (gA g b)), (1, .int v1)]) hC dX2_fooledBlocks_39 2 rfl rfl (by decide) rfl 42 rfl ?_
    refine q_goto hC 4 dX2_fooledBlocks_42 (by decide) ?_
    exact XX.sub [1, 2, 0] rfl (hK4 M v1 (v2 + 1) hw)
  have B4 : ∀ (n : Nat) (M : MM) (v1 : Int32) (v2 : Int32) , wX2_fooledBlocks_4 Q b n M v1 v2 → XX z g Qf 3 4 [(0, .ref (gA g b)), (1, .int v1), (2, .int v2)] [] M := by
    intro n
    induction n with
    | zero =>
      intro M v1 v2 hw
      exact hw.elim
    | succ n ih =>
      intro M v1 v2 hw
      refine q_iload_n hC dX2_fooledBlocks_4 2 rfl 5 rfl ?_
      refine q_aload_n hC dX2_fooledBlocks_5 0 rfl 6 rfl ?_
      refine q_getI (C := RX2) (T := TX2) (N := 14) (ci := 2) hC inX2_fooledBlocks_X2 hb.ob rfl 8 (by decide) (uX2_fooledBlocks__o _ (List.mem_of_getElem? (l := owX2_fooledBlocks) (i := 1) rfl)) rfl (fun _ => rfl) dX2_fooledBlocks_6 9 rfl ?_
      refine q_icmp_ge hC 45 dX2_fooledBlocks_9 (by decide) 12 rfl hw (fun hw => ?_) (fun hw => ?_)
      · refine q_iload_n hC dX2_fooledBlocks_45 1 rfl 46 rfl ?_
        exact r_iret hR dX2_fooledBlocks_46 hw
      · refine q_aload_n hC dX2_fooledBlocks_12 0 rfl 13 rfl ?_
        refine q_iload_n hC dX2_fooledBlocks_13 2 rfl 14 rfl ?_
        refine q_aload_n hC dX2_fooledBlocks_14 0 rfl 15 rfl ?_
        refine q_getI (C := RX2) (T := TX2) (N := 14) (ci := 2) hC inX2_fooledBlocks_X2 hb.ob rfl 12 (by decide) (uX2_fooledBlocks__X2_byteAsRead _ (List.mem_of_getElem? (l := owX2_byteAsRead) (i := 1) rfl)) rfl (fun _ => rfl) dX2_fooledBlocks_15 18 rfl ?_
        refine r_callI hC (go_V (q := (RX2, TX2, 14)) (As := [.int v2, .int (M b 12)]) (rest := []) hC (ctX2_readingOf (zl z) g M b v2 (M b 12) _ hb hw) 2 gX2_fooledBlocks_X2_readingOf rfl ⟨rfl, rfl⟩ hdV_X2_readingOf ⟨Nat.le_of_ble_eq_true rfl, Nat.le_of_ble_eq_true rfl⟩ hb.ob rfl rfl rfl (Nat.le_of_ble_eq_true rfl) dX2_fooledBlocks_18) 21 rfl (fun r1 M2 hw => ?_)
        refine q_iconst (v := 3) hC dX2_fooledBlocks_21 rfl 22 rfl ?_
        refine q_icmp_eq hC 39 dX2_fooledBlocks_22 (by decide) 25 rfl hw (fun hw => ?_) (fun hw => ?_)
        · exact XX.sub [0, 1, 2] rfl (B39 _ (fun M v1 v2 hw => ih M v1 v2 hw) M2 v1 v2 hw)
        · refine q_aload_n hC dX2_fooledBlocks_25 0 rfl 26 rfl ?_
          refine q_iload_n hC dX2_fooledBlocks_26 2 rfl 27 rfl ?_
          refine r_callI hC (go_V (q := (RX2, TX2, 14)) (As := [.int v2]) (rest := []) hC (ctX2_isReadAsWritten (zl z) g M2 b v2 _ hb hw) 1 gX2_fooledBlocks_X2_isReadAsWritten rfl ⟨rfl, rfl⟩ hdV_X2_isReadAsWritten ⟨Nat.le_of_ble_eq_true rfl, Nat.le_of_ble_eq_true rfl⟩ hb.ob rfl rfl rfl (Nat.le_of_ble_eq_true rfl) dX2_fooledBlocks_27) 30 rfl (fun r3 M4 hw => ?_)
          refine q_if_ne hC 39 dX2_fooledBlocks_30 (by decide) 33 rfl hw (fun hw => ?_) (fun hw => ?_)
          · exact XX.sub [0, 1, 2] rfl (B39 _ (fun M v1 v2 hw => ih M v1 v2 hw) M4 v1 v2 hw)
          · refine q_iload_n hC dX2_fooledBlocks_33 1 rfl 34 rfl ?_
            refine q_iconst (v := 1) hC dX2_fooledBlocks_34 rfl 35 rfl ?_
            refine q_iload_n hC dX2_fooledBlocks_35 2 rfl 36 rfl ?_
            refine q_ishl hC dX2_fooledBlocks_36 37 rfl ?_
            refine q_ior hC dX2_fooledBlocks_37 38 rfl ?_
            refine q_nameI (fun x5 ex5 => ?_)
            have hw := hw x5 ex5
            refine q_istore_n (L' := [(1, .int x5), (0, .ref (gA g b)), (2, .int v2)]) hC dX2_fooledBlocks_38 (by decide) rfl 39 rfl ?_
            exact XX.sub [1, 0, 2] rfl (B39 _ (fun M v1 v2 hw => ih M v1 v2 hw) M4 x5 v2 hw)
  refine q_iconst (v := 0) hC dX2_fooledBlocks_0 rfl 1 rfl ?_
  refine q_istore_n (L' := [(1, .int 0), (0, .ref (gA g b))]) hC dX2_fooledBlocks_1 (by decide) rfl 2 rfl ?_
  refine q_iconst (v := 0) hC dX2_fooledBlocks_2 rfl 3 rfl ?_
  refine q_istore_n (L' := [(2, .int 0), (1, .int 0), (0, .ref (gA g b))]) hC dX2_fooledBlocks_3 (by decide) rfl 4 rfl ?_
  obtain ⟨n0, hw⟩ := hw
  exact XX.sub [2, 1, 0] rfl (B4 n0 M 0 0 hw)
theorem inX2_mendedBlocks_X2 : ∀ w ∈ u_ws RX2 TX2 14, w ∈ wsX2_mendedBlocks := uX2_mendedBlocks__wsX20
set_option maxRecDepth 100000 in
set_option maxHeartbeats 4000000 in
theorem ctX2_mendedBlocks (l : Launch) (g : GG) (M : MM) (b : Nat) (Q : Int32 → MM → Prop) (hb : tpl g b) (hw : wX2_mendedBlocks Q M b) : MI g l yX2_mendedBlocks wsX2_mendedBlocks (rmOf 5 113) [.ref (gA g b)] M Q := by
  refine mk_MI (cc := cX2_mendedBlocks) (maxL := 4) (by decide) rfl (Nat.le_of_ble_eq_true rfl) ?_
  intro z Qf hC hR
  show XX z g Qf 4 0 [(0, .ref (gA g b))] [] M
  have B38 : ∀ (K4 : MM → Int32 → Int32 → Prop) (hK4 : ∀ (M : MM) (v1 : Int32) (v2 : Int32) , K4 M v1 v2 → XX z g Qf 4 4 [(0, .ref (gA g b)), (1, .int v1), (2, .int v2)] [] M) (M : MM) (v1 : Int32) (v2 : Int32), wX2_mendedBlocks_38 Q K4 b M v1 v2 → XX z g Qf 4 38 [(0, .ref (gA g b)), (1, .int v1), (2, .int v2)] [] M := by
    intro K4 hK4 M v1 v2 hw
    refine q_iinc (v := v2 + 1) (L' := [(2, .int (v2 + 1)), (0, .ref (gA g b)), (1, .int v1)]) hC dX2_mendedBlocks_38 2 rfl rfl (by decide) rfl 41 rfl ?_
    refine q_goto hC 4 dX2_mendedBlocks_41 (by decide) ?_
    exact XX.sub [1, 2, 0] rfl (hK4 M v1 (v2 + 1) hw)
  have B32 : ∀ (K4 : MM → Int32 → Int32 → Prop) (hK4 : ∀ (M : MM) (v1 : Int32) (v2 : Int32) , K4 M v1 v2 → XX z g Qf 4 4 [(0, .ref (gA g b)), (1, .int v1), (2, .int v2)] [] M) (M : MM) (v1 : Int32) (v2 : Int32), wX2_mendedBlocks_32 Q K4 b M v1 v2 → XX z g Qf 4 32 [(0, .ref (gA g b)), (1, .int v1), (2, .int v2)] [] M := by
    intro K4 hK4 M v1 v2 hw
    refine q_iload_n hC dX2_mendedBlocks_32 1 rfl 33 rfl ?_
    refine q_iconst (v := 1) hC dX2_mendedBlocks_33 rfl 34 rfl ?_
    refine q_iload_n hC dX2_mendedBlocks_34 2 rfl 35 rfl ?_
    refine q_ishl hC dX2_mendedBlocks_35 36 rfl ?_
    refine q_ior hC dX2_mendedBlocks_36 37 rfl ?_
    refine q_nameI (fun x3 ex3 => ?_)
    have hw := hw x3 ex3
    refine q_istore_n (L' := [(1, .int x3), (0, .ref (gA g b)), (2, .int v2)]) hC dX2_mendedBlocks_37 (by decide) rfl 38 rfl ?_
    exact XX.sub [1, 0, 2] rfl (B38 _ hK4 M x3 v2 hw)
  have B4 : ∀ (n : Nat) (M : MM) (v1 : Int32) (v2 : Int32) , wX2_mendedBlocks_4 Q b n M v1 v2 → XX z g Qf 4 4 [(0, .ref (gA g b)), (1, .int v1), (2, .int v2)] [] M := by
    intro n
    induction n with
    | zero =>
      intro M v1 v2 hw
      exact hw.elim
    | succ n ih =>
      intro M v1 v2 hw
      refine q_iload_n hC dX2_mendedBlocks_4 2 rfl 5 rfl ?_
      refine q_aload_n hC dX2_mendedBlocks_5 0 rfl 6 rfl ?_
      refine q_getI (C := RX2) (T := TX2) (N := 14) (ci := 2) hC inX2_mendedBlocks_X2 hb.ob rfl 8 (by decide) (uX2_mendedBlocks__o _ (List.mem_of_getElem? (l := owX2_mendedBlocks) (i := 1) rfl)) rfl (fun _ => rfl) dX2_mendedBlocks_6 9 rfl ?_
      refine q_icmp_ge hC 44 dX2_mendedBlocks_9 (by decide) 12 rfl hw (fun hw => ?_) (fun hw => ?_)
      · refine q_iload_n hC dX2_mendedBlocks_44 1 rfl 45 rfl ?_
        exact r_iret hR dX2_mendedBlocks_45 hw
      · refine q_aload_n hC dX2_mendedBlocks_12 0 rfl 13 rfl ?_
        refine q_iload_n hC dX2_mendedBlocks_13 2 rfl 14 rfl ?_
        refine q_aload_n hC dX2_mendedBlocks_14 0 rfl 15 rfl ?_
        refine q_getI (C := RX2) (T := TX2) (N := 14) (ci := 2) hC inX2_mendedBlocks_X2 hb.ob rfl 12 (by decide) (uX2_mendedBlocks__o _ (List.mem_of_getElem? (l := owX2_mendedBlocks) (i := 2) rfl)) rfl (fun _ => rfl) dX2_mendedBlocks_15 18 rfl ?_
        refine r_callI hC (go_V (q := (RX2, TX2, 14)) (As := [.int v2, .int (M b 12)]) (rest := []) hC (ctX2_readingOf (zl z) g M b v2 (M b 12) _ hb hw) 2 gX2_mendedBlocks_X2_readingOf rfl ⟨rfl, rfl⟩ hdV_X2_readingOf ⟨Nat.le_of_ble_eq_true rfl, Nat.le_of_ble_eq_true rfl⟩ hb.ob rfl rfl rfl (Nat.le_of_ble_eq_true rfl) dX2_mendedBlocks_18) 21 rfl (fun r1 M2 hw => ?_)
        refine q_istore_n (L' := [(3, .int r1), (0, .ref (gA g b)), (1, .int v1), (2, .int v2)]) hC dX2_mendedBlocks_21 (by decide) rfl 22 rfl ?_
        refine q_iload_n hC dX2_mendedBlocks_22 0 rfl 23 rfl ?_
        refine q_iconst (v := 1) hC dX2_mendedBlocks_23 rfl 24 rfl ?_
        refine q_icmp_eq hC 32 dX2_mendedBlocks_24 (by decide) 27 rfl hw (fun hw => ?_) (fun hw => ?_)
        · exact XX.sub [1, 2, 3] rfl (B32 _ (fun M v1 v2 hw => ih M v1 v2 hw) M2 v1 v2 hw)
        · refine q_iload_n hC dX2_mendedBlocks_27 0 rfl 28 rfl ?_
          refine q_iconst (v := 2) hC dX2_mendedBlocks_28 rfl 29 rfl ?_
          refine q_icmp_ne hC 38 dX2_mendedBlocks_29 (by decide) 32 rfl hw (fun hw => ?_) (fun hw => ?_)
          · exact XX.sub [1, 2, 3] rfl (B38 _ (fun M v1 v2 hw => ih M v1 v2 hw) M2 v1 v2 hw)
          · exact XX.sub [1, 2, 3] rfl (B32 _ (fun M v1 v2 hw => ih M v1 v2 hw) M2 v1 v2 hw)
  refine q_iconst (v := 0) hC dX2_mendedBlocks_0 rfl 1 rfl ?_
  refine q_istore_n (L' := [(1, .int 0), (0, .ref (gA g b))]) hC dX2_mendedBlocks_1 (by decide) rfl 2 rfl ?_
  refine q_iconst (v := 0) hC dX2_mendedBlocks_2 rfl 3 rfl ?_
  refine q_istore_n (L' := [(2, .int 0), (1, .int 0), (0, .ref (gA g b))]) hC dX2_mendedBlocks_3 (by decide) rfl 4 rfl ?_
  obtain ⟨n0, hw⟩ := hw
  exact XX.sub [2, 1, 0] rfl (B4 n0 M 0 0 hw)
set_option maxRecDepth 100000 in
set_option maxHeartbeats 4000000 in
theorem ctX2_roomFor (l : Launch) (g : GG) (M : MM) (b : Nat) (v1 : Int32) (Q : Int32 → MM → Prop) (hb : tpl g b) (hw : wX2_roomFor Q M b v1) : MI g l yX2_roomFor wsX2_roomFor (rmOf 2 42) [.ref (gA g b), .int v1] M Q := by
  refine mk_MI (cc := cX2_roomFor) (maxL := 3) (by decide) rfl (Nat.le_of_ble_eq_true rfl) ?_
  intro z Qf hC hR
  show XX z g Qf 3 0 [(0, .ref (gA g b)), (1, .int v1)] [] M
  refine q_aload_n hC dX2_roomFor_0 0 rfl 1 rfl ?_
  refine q_bipush (v := 6) hC dX2_roomFor_1 (by decide) 3 rfl ?_
  refine r_callI hC (go_V (q := (RX2, TX2, 14)) (As := [.int 6]) (rest := []) hC (ctX2_ruled (zl z) g M b 6 _ hb hw) 1 gX2_roomFor_X2_ruled rfl ⟨rfl, rfl⟩ hdV_X2_ruled ⟨Nat.le_of_ble_eq_true rfl, Nat.le_of_ble_eq_true rfl⟩ hb.ob rfl rfl rfl (Nat.le_of_ble_eq_true rfl) dX2_roomFor_3) 6 rfl (fun r1 M2 hw => ?_)
  refine q_aload_n hC dX2_roomFor_6 0 rfl 7 rfl ?_
  refine q_iload_n hC dX2_roomFor_7 1 rfl 8 rfl ?_
  refine r_callI hC (go_V (q := (RX2, TX2, 14)) (As := [.int v1]) (rest := [.int r1]) hC (ctX2_longWith (zl z) g M2 b v1 _ hb hw) 1 gX2_roomFor_X2_longWith rfl ⟨rfl, rfl⟩ hdV_X2_longWith ⟨Nat.le_of_ble_eq_true rfl, Nat.le_of_ble_eq_true rfl⟩ hb.ob rfl rfl rfl (Nat.le_of_ble_eq_true rfl) dX2_roomFor_8) 11 rfl (fun r3 M4 hw => ?_)
  refine q_iadd hC dX2_roomFor_11 12 rfl ?_
  refine q_istore_n (L' := [(2, .int (r1 + r3)), (0, .ref (gA g b)), (1, .int v1)]) hC dX2_roomFor_12 (by decide) rfl 13 rfl ?_
  refine q_iload_n hC dX2_roomFor_13 0 rfl 14 rfl ?_
  refine q_iconst (v := 1) hC dX2_roomFor_14 rfl 15 rfl ?_
  refine q_icmp_ge hC 22 dX2_roomFor_15 (by decide) 18 rfl hw (fun hw => ?_) (fun hw => ?_)
  · refine q_aload_n hC dX2_roomFor_22 1 rfl 23 rfl ?_
    refine q_iconst (v := 0) hC dX2_roomFor_23 rfl 24 rfl ?_
    refine r_callI hC (go_V (q := (RX2, TX2, 14)) (As := [.int 0]) (rest := []) hC (ctX2_ruled (zl z) g M4 b 0 _ hb hw) 1 gX2_roomFor_X2_ruled rfl ⟨rfl, rfl⟩ hdV_X2_ruled ⟨Nat.le_of_ble_eq_true rfl, Nat.le_of_ble_eq_true rfl⟩ hb.ob rfl rfl rfl (Nat.le_of_ble_eq_true rfl) dX2_roomFor_24) 27 rfl (fun r5 M6 hw => ?_)
    refine q_iload_n hC dX2_roomFor_27 0 rfl 28 rfl ?_
    obtain ⟨hne, hw⟩ := hw
    refine q_idiv hC dX2_roomFor_28 hne 29 rfl ?_
    exact r_iret hR dX2_roomFor_29 hw
  · refine q_iconst (v := 0) hC dX2_roomFor_18 rfl 19 rfl ?_
    refine q_goto hC 29 dX2_roomFor_19 (by decide) ?_
    exact r_iret hR dX2_roomFor_29 hw
set_option maxRecDepth 100000 in
set_option maxHeartbeats 4000000 in
theorem ctX2_timeWhenFilled (l : Launch) (g : GG) (M : MM) (v0 : Int32) (v1 : Int32) (v2 : Int32) (v3 : Int32) (v4 : Int32) (Q : Int32 → MM → Prop)  (hw : wX2_timeWhenFilled Q M v0 v1 v2 v3 v4) : MI g l yX2_timeWhenFilled wsX2_timeWhenFilled (rmOf 1 21) [.int v0, .int v1, .int v2, .int v3, .int v4] M Q := by
  refine mk_MI (cc := cX2_timeWhenFilled) (maxL := 6) (by decide) rfl (Nat.le_of_ble_eq_true rfl) ?_
  intro z Qf hC hR
  show XX z g Qf 6 0 [(0, .int v0), (1, .int v1), (2, .int v2), (3, .int v3), (4, .int v4)] [] M
  refine q_iload_n hC dX2_timeWhenFilled_0 1 rfl 1 rfl ?_
  refine q_iload hC dX2_timeWhenFilled_1 4 rfl 3 rfl ?_
  refine q_iadd hC dX2_timeWhenFilled_3 4 rfl ?_
  refine q_iload_n hC dX2_timeWhenFilled_4 2 rfl 5 rfl ?_
  refine q_mmin hC (uX2_timeWhenFilled__o _ (List.mem_of_getElem? (l := owX2_timeWhenFilled) (i := 1) rfl)) (uX2_timeWhenFilled__o _ (List.mem_of_getElem? (l := owX2_timeWhenFilled) (i := 2) rfl)) (uX2_timeWhenFilled__o _ (List.mem_of_getElem? (l := owX2_timeWhenFilled) (i := 3) rfl)) (uX2_timeWhenFilled__o _ (List.mem_of_getElem? (l := owX2_timeWhenFilled) (i := 4) rfl)) (by decide) (Nat.le_of_ble_eq_true rfl) dX2_timeWhenFilled_5 8 rfl ?_
  refine q_iconst (v := 1) hC dX2_timeWhenFilled_8 rfl 9 rfl ?_
  refine q_isub hC dX2_timeWhenFilled_9 10 rfl ?_
  refine q_nameI (fun x1 ex1 => ?_)
  have hw := hw x1 ex1
  refine q_istore (L' := [(5, .int x1), (0, .int v0), (1, .int v1), (2, .int v2), (3, .int v3), (4, .int v4)]) hC dX2_timeWhenFilled_10 (by decide) rfl 12 rfl ?_
  refine q_iload_n hC dX2_timeWhenFilled_12 1 rfl 13 rfl ?_
  refine q_iload hC dX2_timeWhenFilled_13 0 rfl 15 rfl ?_
  refine q_iload_n hC dX2_timeWhenFilled_15 4 rfl 16 rfl ?_
  refine q_imul hC dX2_timeWhenFilled_16 17 rfl ?_
  refine q_mmax hC (uX2_timeWhenFilled__o _ (List.mem_of_getElem? (l := owX2_timeWhenFilled) (i := 5) rfl)) (uX2_timeWhenFilled__o _ (List.mem_of_getElem? (l := owX2_timeWhenFilled) (i := 6) rfl)) (uX2_timeWhenFilled__o _ (List.mem_of_getElem? (l := owX2_timeWhenFilled) (i := 3) rfl)) (uX2_timeWhenFilled__o _ (List.mem_of_getElem? (l := owX2_timeWhenFilled) (i := 7) rfl)) (by decide) (Nat.le_of_ble_eq_true rfl) dX2_timeWhenFilled_17 20 rfl ?_
  exact r_iret hR dX2_timeWhenFilled_20 hw
theorem hdT_X2_timeWhenFilled : yX2_timeWhenFilled.cls ≠ "java/lang/invoke/MethodHandle" ∧ yX2_timeWhenFilled.cls ≠ "java/lang/invoke/VarHandle" ∧ (parseMethodDescriptor yX2_timeWhenFilled.desc).map (fun d => d.parameters.length) = some 5 := by decide +kernel
set_option maxRecDepth 100000 in
set_option maxHeartbeats 4000000 in
theorem ctX2_streamed (l : Launch) (g : GG) (M : MM) (b : Nat) (v1 : Int32) (v2 : Int32) (v3 : Int32) (v4 : Int32) (v5 : Int32) (Q : Int32 → MM → Prop) (hb : tpl g b) (hw : wX2_streamed Q M b v1 v2 v3 v4 v5) : MI g l yX2_streamed wsX2_streamed (rmOf 2 46) [.ref (gA g b), .int v1, .int v2, .int v3, .int v4, .int v5] M Q := by
  refine mk_MI (cc := cX2_streamed) (maxL := 10) (by decide) rfl (Nat.le_of_ble_eq_true rfl) ?_
  intro z Qf hC hR
  show XX z g Qf 10 0 [(0, .ref (gA g b)), (1, .int v1), (2, .int v2), (3, .int v3), (4, .int v4), (5, .int v5)] [] M
  have B69 : ∀ (K31 : MM → Int32 → Int32 → Int32 → Int32 → Prop) (hK31 : ∀ (M : MM) (v6 : Int32) (v7 : Int32) (v8 : Int32) (v9 : Int32) , K31 M v6 v7 v8 v9 → XX z g Qf 10 31 [(0, .ref (gA g b)), (1, .int v1), (3, .int v3), (4, .int v4), (5, .int v5), (6, .int v6), (7, .int v7), (8, .int v8), (9, .int v9)] [] M) (M : MM) (v6 : Int32) (v7 : Int32) (v8 : Int32) (v9 : Int32), wX2_streamed_69 Q K31 b v1 v2 v3 v4 v5 M v6 v7 v8 v9 → XX z g Qf 10 69 [(0, .ref (gA g b)), (1, .int v1), (3, .int v3), (4, .int v4), (5, .int v5), (6, .int v6), (7, .int v7), (8, .int v8), (9, .int v9)] [] M := by
    intro K31 hK31 M v6 v7 v8 v9 hw
    refine q_iload hC dX2_streamed_69 7 rfl 71 rfl ?_
    refine q_iload hC dX2_streamed_71 5 rfl 73 rfl ?_
    refine q_iadd hC dX2_streamed_73 74 rfl ?_
    refine q_istore (L' := [(8, .int (v8 + v6)), (0, .ref (gA g b)), (1, .int v1), (3, .int v3), (4, .int v4), (5, .int v5), (6, .int v6), (7, .int v7), (9, .int v9)]) hC dX2_streamed_74 (by decide) rfl 76 rfl ?_
    refine q_iinc (v := v9 + 1) (L' := [(9, .int (v9 + 1)), (8, .int (v8 + v6)), (0, .ref (gA g b)), (1, .int v1), (3, .int v3), (4, .int v4), (5, .int v5), (6, .int v6), (7, .int v7)]) hC dX2_streamed_76 8 rfl rfl (by decide) rfl 79 rfl ?_
    refine q_goto hC 31 dX2_streamed_79 (by decide) ?_
    exact XX.sub [2, 3, 4, 5, 6, 7, 8, 1, 0] rfl (hK31 M v6 v7 (v8 + v6) (v9 + 1) hw)
  have B31 : ∀ (n : Nat) (M : MM) (v6 : Int32) (v7 : Int32) (v8 : Int32) (v9 : Int32) , wX2_streamed_31 Q b v1 v2 v3 v4 v5 n M v6 v7 v8 v9 → XX z g Qf 10 31 [(0, .ref (gA g b)), (1, .int v1), (3, .int v3), (4, .int v4), (5, .int v5), (6, .int v6), (7, .int v7), (8, .int v8), (9, .int v9)] [] M := by
    intro n
    induction n with
    | zero =>
      intro M v6 v7 v8 v9 hw
      exact hw.elim
    | succ n ih =>
      intro M v6 v7 v8 v9 hw
      refine q_iload hC dX2_streamed_31 8 rfl 33 rfl ?_
      refine q_iload_n hC dX2_streamed_33 1 rfl 34 rfl ?_
      refine q_icmp_ge hC 82 dX2_streamed_34 (by decide) 37 rfl hw (fun hw => ?_) (fun hw => ?_)
      · refine q_iload hC dX2_streamed_82 4 rfl 84 rfl ?_
        refine q_if_eq hC 92 dX2_streamed_84 (by decide) 87 rfl hw (fun hw => ?_) (fun hw => ?_)
        · refine q_iload hC dX2_streamed_92 7 rfl 94 rfl ?_
          exact r_iret hR dX2_streamed_94 hw
        · refine q_iload hC dX2_streamed_87 6 rfl 89 rfl ?_
          refine q_goto hC 94 dX2_streamed_89 (by decide) ?_
          exact r_iret hR dX2_streamed_94 hw
      · refine q_iload hC dX2_streamed_37 8 rfl 39 rfl ?_
        refine q_iload_n hC dX2_streamed_39 2 rfl 40 rfl ?_
        refine q_imul hC dX2_streamed_40 41 rfl ?_
        refine q_iload hC dX2_streamed_41 7 rfl 43 rfl ?_
        refine q_icmp_le hC 69 dX2_streamed_43 (by decide) 46 rfl hw (fun hw => ?_) (fun hw => ?_)
        · exact XX.sub [0, 1, 2, 3, 4, 5, 6, 7, 8] rfl (B69 _ (fun M v6 v7 v8 v9 hw => ih M v6 v7 v8 v9 hw) M v6 v7 v8 v9 hw)
        · refine q_iinc (v := v7 + 1) (L' := [(7, .int (v7 + 1)), (0, .ref (gA g b)), (1, .int v1), (3, .int v3), (4, .int v4), (5, .int v5), (6, .int v6), (8, .int v8), (9, .int v9)]) hC dX2_streamed_46 6 rfl rfl (by decide) rfl 49 rfl ?_
          refine q_iload hC dX2_streamed_49 7 rfl 51 rfl ?_
          refine q_aload_n hC dX2_streamed_51 1 rfl 52 rfl ?_
          refine q_bipush (v := 8) hC dX2_streamed_52 (by decide) 54 rfl ?_
          refine r_callI hC (go_V (q := (RX2, TX2, 14)) (As := [.int 8]) (rest := [.int v8]) hC (ctX2_ruled (zl z) g M b 8 _ hb hw) 1 gX2_streamed_X2_ruled rfl ⟨rfl, rfl⟩ hdV_X2_ruled ⟨Nat.le_of_ble_eq_true rfl, Nat.le_of_ble_eq_true rfl⟩ hb.ob rfl rfl rfl (Nat.le_of_ble_eq_true rfl) dX2_streamed_54) 57 rfl (fun r7 M8 hw => ?_)
          refine q_iadd hC dX2_streamed_57 58 rfl ?_
          refine q_iload hC dX2_streamed_58 8 rfl 60 rfl ?_
          refine q_iload_n hC dX2_streamed_60 2 rfl 61 rfl ?_
          refine q_iload_n hC dX2_streamed_61 3 rfl 62 rfl ?_
          refine q_iload hC dX2_streamed_62 4 rfl 64 rfl ?_
          refine r_callI hC (go_T (As := [.int (v8 + r7), .int v9, .int v1, .int v3, .int v4]) (rest := []) hC (ctX2_timeWhenFilled (zl z) g M8 (v8 + r7) v9 v1 v3 v4 _ hw) 5 gX2_streamed_X2_timeWhenFilled rfl ⟨rfl, rfl⟩ hdT_X2_timeWhenFilled ⟨Nat.le_of_ble_eq_true rfl, Nat.le_of_ble_eq_true rfl⟩ rfl rfl (Nat.le_of_ble_eq_true rfl) dX2_streamed_64) 67 rfl (fun r9 M10 hw => ?_)
          refine q_istore (L' := [(8, .int r9), (7, .int (v7 + 1)), (0, .ref (gA g b)), (1, .int v1), (3, .int v3), (4, .int v4), (5, .int v5), (6, .int v6), (9, .int v9)]) hC dX2_streamed_67 (by decide) rfl 69 rfl ?_
          exact XX.sub [2, 3, 4, 5, 6, 7, 1, 0, 8] rfl (B69 _ (fun M v6 v7 v8 v9 hw => ih M v6 v7 v8 v9 hw) M10 v6 (v7 + 1) r9 v9 hw)
  refine q_aload_n hC dX2_streamed_0 0 rfl 1 rfl ?_
  refine q_iload_n hC dX2_streamed_1 2 rfl 2 rfl ?_
  refine q_aload_n hC dX2_streamed_2 0 rfl 3 rfl ?_
  refine q_bipush (v := 6) hC dX2_streamed_3 (by decide) 5 rfl ?_
  refine r_callI hC (go_V (q := (RX2, TX2, 14)) (As := [.int 6]) (rest := [.int v2, .ref (gA g b)]) hC (ctX2_ruled (zl z) g M b 6 _ hb hw) 1 gX2_streamed_X2_ruled rfl ⟨rfl, rfl⟩ hdV_X2_ruled ⟨Nat.le_of_ble_eq_true rfl, Nat.le_of_ble_eq_true rfl⟩ hb.ob rfl rfl rfl (Nat.le_of_ble_eq_true rfl) dX2_streamed_5) 8 rfl (fun r1 M2 hw => ?_)
  refine q_iadd hC dX2_streamed_8 9 rfl ?_
  refine r_callI hC (go_V (q := (RX2, TX2, 14)) (As := [.int (v2 + r1)]) (rest := []) hC (ctX2_playedThrough (zl z) g M2 b (v2 + r1) _ hb hw) 1 gX2_streamed_X2_playedThrough rfl ⟨rfl, rfl⟩ hdV_X2_playedThrough ⟨Nat.le_of_ble_eq_true rfl, Nat.le_of_ble_eq_true rfl⟩ hb.ob rfl rfl rfl (Nat.le_of_ble_eq_true rfl) dX2_streamed_9) 12 rfl (fun r3 M4 hw => ?_)
  refine q_istore (L' := [(6, .int r3), (0, .ref (gA g b)), (1, .int v1), (2, .int v2), (3, .int v3), (4, .int v4), (5, .int v5)]) hC dX2_streamed_12 (by decide) rfl 14 rfl ?_
  refine q_iconst (v := 0) hC dX2_streamed_14 rfl 15 rfl ?_
  refine q_istore (L' := [(7, .int 0), (6, .int r3), (0, .ref (gA g b)), (1, .int v1), (2, .int v2), (3, .int v3), (4, .int v4), (5, .int v5)]) hC dX2_streamed_15 (by decide) rfl 17 rfl ?_
  refine q_iconst (v := 0) hC dX2_streamed_17 rfl 18 rfl ?_
  refine q_iconst (v := 0) hC dX2_streamed_18 rfl 19 rfl ?_
  refine q_iload_n hC dX2_streamed_19 3 rfl 20 rfl ?_
  refine q_iload_n hC dX2_streamed_20 5 rfl 21 rfl ?_
  refine q_iload hC dX2_streamed_21 6 rfl 23 rfl ?_
  refine r_callI hC (go_T (As := [.int 0, .int 0, .int v1, .int v3, .int v4]) (rest := []) hC (ctX2_timeWhenFilled (zl z) g M4 0 0 v1 v3 v4 _ hw) 5 gX2_streamed_X2_timeWhenFilled rfl ⟨rfl, rfl⟩ hdT_X2_timeWhenFilled ⟨Nat.le_of_ble_eq_true rfl, Nat.le_of_ble_eq_true rfl⟩ rfl rfl (Nat.le_of_ble_eq_true rfl) dX2_streamed_23) 26 rfl (fun r5 M6 hw => ?_)
  refine q_istore (L' := [(8, .int r5), (7, .int 0), (6, .int r3), (0, .ref (gA g b)), (1, .int v1), (2, .int v2), (3, .int v3), (4, .int v4), (5, .int v5)]) hC dX2_streamed_26 (by decide) rfl 28 rfl ?_
  refine q_iconst (v := 0) hC dX2_streamed_28 rfl 29 rfl ?_
  refine q_istore (L' := [(9, .int 0), (8, .int r5), (7, .int 0), (6, .int r3), (0, .ref (gA g b)), (1, .int v1), (2, .int v2), (3, .int v3), (4, .int v4), (5, .int v5)]) hC dX2_streamed_29 (by decide) rfl 31 rfl ?_
  obtain ⟨n0, hw⟩ := hw
  exact XX.sub [4, 5, 7, 8, 9, 3, 2, 1, 0] rfl (B31 n0 M6 r3 0 r5 0 hw)
theorem inX2_addSeen_X2 : ∀ w ∈ u_ws RX2 TX2 14, w ∈ wsX2_addSeen := uX2_addSeen__wsX20
set_option maxRecDepth 100000 in
set_option maxHeartbeats 4000000 in
theorem ctX2_addSeen (l : Launch) (g : GG) (M : MM) (b : Nat) (v1 : Int32) (v2 : Int32) (Q : Int32 → MM → Prop) (hb : tpl g b) (hw : wX2_addSeen Q M b v1 v2) : MI g l yX2_addSeen wsX2_addSeen (rmOf 1 22) [.ref (gA g b), .int v1, .int v2] M Q := by
  refine mk_MI (cc := cX2_addSeen) (maxL := 3) (by decide) rfl (Nat.le_of_ble_eq_true rfl) ?_
  intro z Qf hC hR
  show XX z g Qf 3 0 [(0, .ref (gA g b)), (1, .int v1), (2, .int v2)] [] M
  refine q_aload_n hC dX2_addSeen_0 0 rfl 1 rfl ?_
  refine q_getR (C := RX2) (T := TX2) (N := 14) (ci := 2) hC inX2_addSeen_X2 hb.ob rfl 6 (by decide) (uX2_addSeen__o _ (List.mem_of_getElem? (l := owX2_addSeen) (i := 1) rfl)) rfl (b + 7) (fun _ => rfl) dX2_addSeen_1 4 rfl ?_
  refine q_aload_n hC dX2_addSeen_4 0 rfl 5 rfl ?_
  refine q_getI (C := RX2) (T := TX2) (N := 14) (ci := 2) hC inX2_addSeen_X2 hb.ob rfl 13 (by decide) (uX2_addSeen__o _ (List.mem_of_getElem? (l := owX2_addSeen) (i := 2) rfl)) rfl (fun _ => rfl) dX2_addSeen_5 8 rfl ?_
  refine q_iload_n hC dX2_addSeen_8 1 rfl 9 rfl ?_
  refine r_callV hC (go_N (As := [.ref (gA g (b + 7)), .int (M b 13), .int v1]) (rest := []) hC (ctX4_setCell (zl z) g M (b + 7) (M b 13) v1 _ (hb.ar 7 (by decide) (by decide)) hw) 3 gX2_addSeen_X4_setCell_n139 rfl ⟨rfl, rfl⟩ 7 rfl (uX2_addSeen__o _ (List.mem_of_getElem? (l := owX2_addSeen) (i := 5) rfl)) (uX2_addSeen__o _ (List.mem_of_getElem? (l := owX2_addSeen) (i := 4) rfl)) hdT_X4_setCell ⟨Nat.le_of_ble_eq_true rfl, Nat.le_of_ble_eq_true rfl⟩ rfl rfl (Nat.le_of_ble_eq_true rfl) dX2_addSeen_9) 12 rfl (fun M1 hw => ?_)
  refine q_aload_n hC dX2_addSeen_12 0 rfl 13 rfl ?_
  refine q_getR (C := RX2) (T := TX2) (N := 14) (ci := 2) hC inX2_addSeen_X2 hb.ob rfl 7 (by decide) (uX2_addSeen__o _ (List.mem_of_getElem? (l := owX2_addSeen) (i := 3) rfl)) rfl (b + 8) (fun _ => rfl) dX2_addSeen_13 16 rfl ?_
  refine q_aload_n hC dX2_addSeen_16 0 rfl 17 rfl ?_
  refine q_getI (C := RX2) (T := TX2) (N := 14) (ci := 2) hC inX2_addSeen_X2 hb.ob rfl 13 (by decide) (uX2_addSeen__o _ (List.mem_of_getElem? (l := owX2_addSeen) (i := 2) rfl)) rfl (fun _ => rfl) dX2_addSeen_17 20 rfl ?_
  refine q_iload_n hC dX2_addSeen_20 2 rfl 21 rfl ?_
  refine r_callV hC (go_N (As := [.ref (gA g (b + 8)), .int (M1 b 13), .int v2]) (rest := []) hC (ctX4_setCell (zl z) g M1 (b + 8) (M1 b 13) v2 _ (hb.ar 8 (by decide) (by decide)) hw) 3 gX2_addSeen_X4_setCell_n139 rfl ⟨rfl, rfl⟩ 7 rfl (uX2_addSeen__o _ (List.mem_of_getElem? (l := owX2_addSeen) (i := 5) rfl)) (uX2_addSeen__o _ (List.mem_of_getElem? (l := owX2_addSeen) (i := 4) rfl)) hdT_X4_setCell ⟨Nat.le_of_ble_eq_true rfl, Nat.le_of_ble_eq_true rfl⟩ rfl rfl (Nat.le_of_ble_eq_true rfl) dX2_addSeen_21) 24 rfl (fun M2 hw => ?_)
  refine q_aload_n hC dX2_addSeen_24 0 rfl 25 rfl ?_
  refine q_dup hC dX2_addSeen_25 rfl 26 rfl ?_
  refine q_getI (C := RX2) (T := TX2) (N := 14) (ci := 2) hC inX2_addSeen_X2 hb.ob rfl 13 (by decide) (uX2_addSeen__o _ (List.mem_of_getElem? (l := owX2_addSeen) (i := 2) rfl)) rfl (fun _ => rfl) dX2_addSeen_26 29 rfl ?_
  refine q_iconst (v := 1) hC dX2_addSeen_29 rfl 30 rfl ?_
  refine q_iadd hC dX2_addSeen_30 31 rfl ?_
  refine q_putI (C := RX2) (T := TX2) (N := 14) (ci := 2) hC inX2_addSeen_X2 tyX2 tyX2_ok nmX2 hb.ob rfl 13 (by decide) (uX2_addSeen__o _ (List.mem_of_getElem? (l := owX2_addSeen) (i := 2) rfl)) rfl rfl rfl (fun _ => Nat.le_of_ble_eq_true rfl) (fun _ => rfl) dX2_addSeen_31 34 rfl (fun M3 eM3 => ?_)
  have hw := hw M3 eM3
  refine q_aload_n hC dX2_addSeen_34 0 rfl 35 rfl ?_
  refine q_getI (C := RX2) (T := TX2) (N := 14) (ci := 2) hC inX2_addSeen_X2 hb.ob rfl 13 (by decide) (uX2_addSeen__o _ (List.mem_of_getElem? (l := owX2_addSeen) (i := 2) rfl)) rfl (fun _ => rfl) dX2_addSeen_35 38 rfl ?_
  exact r_iret hR dX2_addSeen_38 hw
theorem inX2_canBe_X2 : ∀ w ∈ u_ws RX2 TX2 14, w ∈ wsX2_canBe := uX2_canBe__wsX20
set_option maxRecDepth 100000 in
set_option maxHeartbeats 4000000 in
theorem ctX2_canBe (l : Launch) (g : GG) (M : MM) (b : Nat) (v1 : Int32) (v2 : Int32) (Q : Int32 → MM → Prop) (hb : tpl g b) (hw : wX2_canBe Q M b v1 v2) : MI g l yX2_canBe wsX2_canBe (rmOf 1 22) [.ref (gA g b), .int v1, .int v2] M Q := by
  refine mk_MZ (cc := cX2_canBe) (maxL := 6) (by decide) rfl (Nat.le_of_ble_eq_true rfl) ?_
  intro z Qf hC hR
  show XX z g Qf 6 0 [(0, .ref (gA g b)), (1, .int v1), (2, .int v2)] [] M
  have B2 : ∀ (n : Nat) (M : MM) (v3 : Int32) , wX2_canBe_2 Q b v1 v2 n M v3 → XX z g Qf 6 2 [(0, .ref (gA g b)), (1, .int v1), (2, .int v2), (3, .int v3)] [] M := by
    intro n
    induction n with
    | zero =>
      intro M v3 hw
      exact hw.elim
    | succ n ih =>
      intro M v3 hw
      refine q_iload_n hC dX2_canBe_2 3 rfl 3 rfl ?_
      refine q_aload_n hC dX2_canBe_3 0 rfl 4 rfl ?_
      refine q_getI (C := RX2) (T := TX2) (N := 14) (ci := 2) hC inX2_canBe_X2 hb.ob rfl 13 (by decide) (uX2_canBe__o _ (List.mem_of_getElem? (l := owX2_canBe) (i := 1) rfl)) rfl (fun _ => rfl) dX2_canBe_4 7 rfl ?_
      refine q_icmp_ge hC 64 dX2_canBe_7 (by decide) 10 rfl hw (fun hw => ?_) (fun hw => ?_)
      · refine q_iconst (v := 1) hC dX2_canBe_64 rfl 65 rfl ?_
        exact r_iret hR dX2_canBe_65 ⟨nb_1, hw⟩
      · refine q_aload_n hC dX2_canBe_10 0 rfl 11 rfl ?_
        refine q_getR (C := RX2) (T := TX2) (N := 14) (ci := 2) hC inX2_canBe_X2 hb.ob rfl 6 (by decide) (uX2_canBe__o _ (List.mem_of_getElem? (l := owX2_canBe) (i := 2) rfl)) rfl (b + 7) (fun _ => rfl) dX2_canBe_11 14 rfl ?_
        refine q_iload_n hC dX2_canBe_14 3 rfl 15 rfl ?_
        refine r_callI hC (go_N (As := [.ref (gA g (b + 7)), .int v3]) (rest := []) hC (ctX4_cell (zl z) g M (b + 7) v3 _ (hb.ar 7 (by decide) (by decide)) hw) 2 gX2_canBe_X4_cell_n114 rfl ⟨rfl, rfl⟩ 5 rfl (uX2_canBe__o _ (List.mem_of_getElem? (l := owX2_canBe) (i := 5) rfl)) (uX2_canBe__o _ (List.mem_of_getElem? (l := owX2_canBe) (i := 4) rfl)) hdT_X4_cell ⟨Nat.le_of_ble_eq_true rfl, Nat.le_of_ble_eq_true rfl⟩ rfl rfl (Nat.le_of_ble_eq_true rfl) dX2_canBe_15) 18 rfl (fun r1 M2 hw => ?_)
        refine q_istore (L' := [(4, .int r1), (0, .ref (gA g b)), (1, .int v1), (2, .int v2), (3, .int v3)]) hC dX2_canBe_18 (by decide) rfl 20 rfl ?_
        refine q_aload_n hC dX2_canBe_20 1 rfl 21 rfl ?_
        refine q_getR (C := RX2) (T := TX2) (N := 14) (ci := 2) hC inX2_canBe_X2 hb.ob rfl 7 (by decide) (uX2_canBe__o _ (List.mem_of_getElem? (l := owX2_canBe) (i := 3) rfl)) rfl (b + 8) (fun _ => rfl) dX2_canBe_21 24 rfl ?_
        refine q_iload_n hC dX2_canBe_24 4 rfl 25 rfl ?_
        refine r_callI hC (go_N (As := [.ref (gA g (b + 8)), .int v3]) (rest := []) hC (ctX4_cell (zl z) g M2 (b + 8) v3 _ (hb.ar 8 (by decide) (by decide)) hw) 2 gX2_canBe_X4_cell_n114 rfl ⟨rfl, rfl⟩ 5 rfl (uX2_canBe__o _ (List.mem_of_getElem? (l := owX2_canBe) (i := 5) rfl)) (uX2_canBe__o _ (List.mem_of_getElem? (l := owX2_canBe) (i := 4) rfl)) hdT_X4_cell ⟨Nat.le_of_ble_eq_true rfl, Nat.le_of_ble_eq_true rfl⟩ rfl rfl (Nat.le_of_ble_eq_true rfl) dX2_canBe_25) 28 rfl (fun r3 M4 hw => ?_)
        refine q_istore (L' := [(5, .int r3), (4, .int r1), (0, .ref (gA g b)), (1, .int v1), (2, .int v2), (3, .int v3)]) hC dX2_canBe_28 (by decide) rfl 30 rfl ?_
        refine q_iload hC dX2_canBe_30 0 rfl 32 rfl ?_
        refine q_iload hC dX2_canBe_32 1 rfl 34 rfl ?_
        refine q_iload_n hC dX2_canBe_34 3 rfl 35 rfl ?_
        refine q_iload_n hC dX2_canBe_35 4 rfl 36 rfl ?_
        refine r_callI hC (go_N (As := [.int r1, .int v1, .int v2]) (rest := [.int r3]) hC (ctX4_lengthOfTurns (zl z) g M4 r1 v1 v2 _ hw) 3 gX2_canBe_X4_lengthOfTurns_n73 rfl ⟨rfl, rfl⟩ 10 rfl (uX2_canBe__o _ (List.mem_of_getElem? (l := owX2_canBe) (i := 5) rfl)) (uX2_canBe__o _ (List.mem_of_getElem? (l := owX2_canBe) (i := 6) rfl)) hdT_X4_lengthOfTurns ⟨Nat.le_of_ble_eq_true rfl, Nat.le_of_ble_eq_true rfl⟩ rfl rfl (Nat.le_of_ble_eq_true rfl) dX2_canBe_36) 39 rfl (fun r5 M6 hw => ?_)
        refine q_icmp_lt hC 56 dX2_canBe_39 (by decide) 42 rfl hw (fun hw => ?_) (fun hw => ?_)
        · refine q_iconst (v := 0) hC dX2_canBe_56 rfl 57 rfl ?_
          exact r_iret hR dX2_canBe_57 ⟨nb_0, hw⟩
        · refine q_iload hC dX2_canBe_42 0 rfl 44 rfl ?_
          refine q_iload hC dX2_canBe_44 1 rfl 46 rfl ?_
          refine q_iconst (v := 1) hC dX2_canBe_46 rfl 47 rfl ?_
          refine q_iadd hC dX2_canBe_47 48 rfl ?_
          refine q_iload_n hC dX2_canBe_48 3 rfl 49 rfl ?_
          refine q_iload_n hC dX2_canBe_49 4 rfl 50 rfl ?_
          refine r_callI hC (go_N (As := [.int (r1 + (1 : Int32)), .int v1, .int v2]) (rest := [.int r3]) hC (ctX4_lengthOfTurns (zl z) g M6 (r1 + (1 : Int32)) v1 v2 _ hw) 3 gX2_canBe_X4_lengthOfTurns_n73 rfl ⟨rfl, rfl⟩ 10 rfl (uX2_canBe__o _ (List.mem_of_getElem? (l := owX2_canBe) (i := 5) rfl)) (uX2_canBe__o _ (List.mem_of_getElem? (l := owX2_canBe) (i := 6) rfl)) hdT_X4_lengthOfTurns ⟨Nat.le_of_ble_eq_true rfl, Nat.le_of_ble_eq_true rfl⟩ rfl rfl (Nat.le_of_ble_eq_true rfl) dX2_canBe_50) 53 rfl (fun r7 M8 hw => ?_)
          refine q_icmp_lt hC 58 dX2_canBe_53 (by decide) 56 rfl hw (fun hw => ?_) (fun hw => ?_)
          · refine q_iinc (v := v3 + 1) (L' := [(3, .int (v3 + 1)), (5, .int r3), (4, .int r1), (0, .ref (gA g b)), (1, .int v1), (2, .int v2)]) hC dX2_canBe_58 5 rfl rfl (by decide) rfl 61 rfl ?_
            refine q_goto hC 2 dX2_canBe_61 (by decide) ?_
            exact XX.sub [3, 4, 5, 0] rfl (ih M8 (v3 + 1) hw)
          · refine q_iconst (v := 0) hC dX2_canBe_56 rfl 57 rfl ?_
            exact r_iret hR dX2_canBe_57 ⟨nb_0, hw⟩
  refine q_iconst (v := 0) hC dX2_canBe_0 rfl 1 rfl ?_
  refine q_istore_n (L' := [(3, .int 0), (0, .ref (gA g b)), (1, .int v1), (2, .int v2)]) hC dX2_canBe_1 (by decide) rfl 2 rfl ?_
  obtain ⟨n0, hw⟩ := hw
  exact XX.sub [1, 2, 3, 0] rfl (B2 n0 M 0 hw)
theorem inX1_isNothing_X1 : ∀ w ∈ u_ws RX1 TX1 3, w ∈ wsX1_isNothing := uX1_isNothing__wsX10
set_option maxRecDepth 100000 in
set_option maxHeartbeats 4000000 in
theorem ctX1_isNothing (l : Launch) (g : GG) (M : MM) (b : Nat) (Q : Int32 → MM → Prop) (hb : shl g b) (hw : wX1_isNothing Q M b) : MI g l yX1_isNothing wsX1_isNothing (rmOf 0 0) [.ref (gA g b)] M Q := by
  refine mk_MZ (cc := cX1_isNothing) (maxL := 1) (by decide) rfl (Nat.le_of_ble_eq_true rfl) ?_
  intro z Qf hC hR
  show XX z g Qf 1 0 [(0, .ref (gA g b))] [] M
  refine q_aload_n hC dX1_isNothing_0 0 rfl 1 rfl ?_
  refine q_getI (C := RX1) (T := TX1) (N := 3) (ci := 1) hC inX1_isNothing_X1 hb.ob rfl 1 (by decide) (uX1_isNothing__o _ (List.mem_of_getElem? (l := owX1_isNothing) (i := 1) rfl)) rfl (fun _ => rfl) dX1_isNothing_1 4 rfl ?_
  refine q_iconst (v := (-1)) hC dX1_isNothing_4 rfl 5 rfl ?_
  refine q_icmp_ne hC 12 dX1_isNothing_5 (by decide) 8 rfl hw (fun hw => ?_) (fun hw => ?_)
  · refine q_iconst (v := 0) hC dX1_isNothing_12 rfl 13 rfl ?_
    exact r_iret hR dX1_isNothing_13 ⟨nb_0, hw⟩
  · refine q_iconst (v := 1) hC dX1_isNothing_8 rfl 9 rfl ?_
    refine q_goto hC 13 dX1_isNothing_9 (by decide) ?_
    exact r_iret hR dX1_isNothing_13 ⟨nb_1, hw⟩
theorem inX1_makeNew_X1 : ∀ w ∈ u_ws RX1 TX1 3, w ∈ wsX1_makeNew := uX1_makeNew__wsX10
set_option maxRecDepth 100000 in
set_option maxHeartbeats 4000000 in
theorem ctX1_makeNew (l : Launch) (g : GG) (M : MM) (b : Nat) (v1 : Int32) (v2 : Int32) (Q : MM → Prop) (hb : shl g b) (hw : wX1_makeNew Q M b v1 v2) : MV g l yX1_makeNew wsX1_makeNew (rmOf 1 22) [.ref (gA g b), .int v1, .int v2] M Q := by
  refine mk_MV (cc := cX1_makeNew) (maxL := 4) (by decide) rfl (Nat.le_of_ble_eq_true rfl) ?_
  intro z Qf hC hR
  show XX z g Qf 4 0 [(0, .ref (gA g b)), (1, .int v1), (2, .int v2)] [] M
  have B12 : ∀ (n : Nat) (M : MM) (v3 : Int32) , wX1_makeNew_12 Q b v1 v2 n M v3 → XX z g Qf 4 12 [(0, .ref (gA g b)), (3, .int v3)] [] M := by
    intro n
    induction n with
    | zero =>
      intro M v3 hw
      exact hw.elim
    | succ n ih =>
      intro M v3 hw
      refine q_iload_n hC dX1_makeNew_12 1 rfl 13 rfl ?_
      refine q_bipush (v := 40) hC dX1_makeNew_13 (by decide) 15 rfl ?_
      refine q_icmp_ge hC 33 dX1_makeNew_15 (by decide) 18 rfl hw (fun hw => ?_) (fun hw => ?_)
      · exact r_vret hR dX1_makeNew_33 hw
      · refine q_aload_n hC dX1_makeNew_18 0 rfl 19 rfl ?_
        refine q_getR (C := RX1) (T := TX1) (N := 3) (ci := 1) hC inX1_makeNew_X1 hb.ob rfl 0 (by decide) (uX1_makeNew__o _ (List.mem_of_getElem? (l := owX1_makeNew) (i := 3) rfl)) rfl (b + 1) (fun _ => rfl) dX1_makeNew_19 22 rfl ?_
        refine q_iload_n hC dX1_makeNew_22 1 rfl 23 rfl ?_
        refine q_iconst (v := 0) hC dX1_makeNew_23 rfl 24 rfl ?_
        refine r_callV hC (go_N (As := [.ref (gA g (b + 1)), .int v3, .int 0]) (rest := []) hC (ctX4_setCell (zl z) g M (b + 1) v3 0 _ hb.ar hw) 3 gX1_makeNew_X4_setCell_n22 rfl ⟨rfl, rfl⟩ 2 rfl (uX1_makeNew__o _ (List.mem_of_getElem? (l := owX1_makeNew) (i := 5) rfl)) (uX1_makeNew__o _ (List.mem_of_getElem? (l := owX1_makeNew) (i := 4) rfl)) hdT_X4_setCell ⟨Nat.le_of_ble_eq_true rfl, Nat.le_of_ble_eq_true rfl⟩ rfl rfl (Nat.le_of_ble_eq_true rfl) dX1_makeNew_24) 27 rfl (fun M3 hw => ?_)
        refine q_iinc (v := v3 + 1) (L' := [(3, .int (v3 + 1)), (0, .ref (gA g b))]) hC dX1_makeNew_27 1 rfl rfl (by decide) rfl 30 rfl ?_
        refine q_goto hC 12 dX1_makeNew_30 (by decide) ?_
        exact XX.sub [1, 0] rfl (ih M3 (v3 + 1) hw)
  refine q_aload_n hC dX1_makeNew_0 0 rfl 1 rfl ?_
  refine q_iload_n hC dX1_makeNew_1 1 rfl 2 rfl ?_
  refine q_putI (C := RX1) (T := TX1) (N := 3) (ci := 1) hC inX1_makeNew_X1 tyX1 tyX1_ok nmX1 hb.ob rfl 1 (by decide) (uX1_makeNew__o _ (List.mem_of_getElem? (l := owX1_makeNew) (i := 1) rfl)) rfl rfl rfl (fun _ => Nat.le_of_ble_eq_true rfl) (fun _ => rfl) dX1_makeNew_2 5 rfl (fun M1 eM1 => ?_)
  have hw := hw M1 eM1
  refine q_aload_n hC dX1_makeNew_5 0 rfl 6 rfl ?_
  refine q_iload_n hC dX1_makeNew_6 2 rfl 7 rfl ?_
  refine q_putI (C := RX1) (T := TX1) (N := 3) (ci := 1) hC inX1_makeNew_X1 tyX1 tyX1_ok nmX1 hb.ob rfl 2 (by decide) (uX1_makeNew__o _ (List.mem_of_getElem? (l := owX1_makeNew) (i := 2) rfl)) rfl rfl rfl (fun _ => Nat.le_of_ble_eq_true rfl) (fun _ => rfl) dX1_makeNew_7 10 rfl (fun M2 eM2 => ?_)
  have hw := hw M2 eM2
  refine q_iconst (v := 0) hC dX1_makeNew_10 rfl 11 rfl ?_
  refine q_istore_n (L' := [(3, .int 0), (0, .ref (gA g b)), (1, .int v1), (2, .int v2)]) hC dX1_makeNew_11 (by decide) rfl 12 rfl ?_
  obtain ⟨n0, hw⟩ := hw
  exact XX.sub [1, 0] rfl (B12 n0 M2 0 hw)
theorem hdV_X1_isNothing : yX1_isNothing.cls = RX1 ∧ yX1_isNothing.cls ≠ "java/lang/invoke/MethodHandle" ∧ yX1_isNothing.cls ≠ "java/lang/invoke/VarHandle" ∧ (parseMethodDescriptor yX1_isNothing.desc).map (fun d => d.parameters.length) = some 0 := by decide +kernel
theorem inX1_faultOf_X1 : ∀ w ∈ u_ws RX1 TX1 3, w ∈ wsX1_faultOf := uX1_faultOf__wsX10
set_option maxRecDepth 100000 in
set_option maxHeartbeats 4000000 in
theorem ctX1_faultOf (l : Launch) (g : GG) (M : MM) (b : Nat) (v1 : Int32) (v2 : Int32) (Q : Int32 → MM → Prop) (hb : shl g b) (hw : wX1_faultOf Q M b v1 v2) : MI g l yX1_faultOf wsX1_faultOf (rmOf 1 22) [.ref (gA g b), .int v1, .int v2] M Q := by
  refine mk_MI (cc := cX1_faultOf) (maxL := 3) (by decide) rfl (Nat.le_of_ble_eq_true rfl) ?_
  intro z Qf hC hR
  show XX z g Qf 3 0 [(0, .ref (gA g b)), (1, .int v1), (2, .int v2)] [] M
  refine q_aload_n hC dX1_faultOf_0 0 rfl 1 rfl ?_
  refine r_callI hC (go_V (q := (RX1, TX1, 3)) (As := []) (rest := []) hC (ctX1_isNothing (zl z) g M b _ hb hw) 0 gX1_faultOf_X1_isNothing rfl ⟨rfl, rfl⟩ hdV_X1_isNothing ⟨Nat.le_of_ble_eq_true rfl, Nat.le_of_ble_eq_true rfl⟩ hb.ob rfl rfl rfl (Nat.le_of_ble_eq_true rfl) dX1_faultOf_1) 4 rfl (fun r1 M2 hw => ?_)
  refine q_if_eq hC 9 dX1_faultOf_4 (by decide) 7 rfl hw (fun hw => ?_) (fun hw => ?_)
  · refine q_iload_n hC dX1_faultOf_9 1 rfl 10 rfl ?_
    refine q_aload_n hC dX1_faultOf_10 0 rfl 11 rfl ?_
    refine q_getI (C := RX1) (T := TX1) (N := 3) (ci := 1) hC inX1_faultOf_X1 hb.ob rfl 1 (by decide) (uX1_faultOf__X1_isNothing _ (List.mem_of_getElem? (l := owX1_isNothing) (i := 1) rfl)) rfl (fun _ => rfl) dX1_faultOf_11 14 rfl ?_
    refine q_icmp_eq hC 19 dX1_faultOf_14 (by decide) 17 rfl hw (fun hw => ?_) (fun hw => ?_)
    · refine q_iload_n hC dX1_faultOf_19 2 rfl 20 rfl ?_
      refine q_iconst (v := 0) hC dX1_faultOf_20 rfl 21 rfl ?_
      refine q_aload_n hC dX1_faultOf_21 0 rfl 22 rfl ?_
      refine q_getI (C := RX1) (T := TX1) (N := 3) (ci := 1) hC inX1_faultOf_X1 hb.ob rfl 2 (by decide) (uX1_faultOf__o _ (List.mem_of_getElem? (l := owX1_faultOf) (i := 1) rfl)) rfl (fun _ => rfl) dX1_faultOf_22 25 rfl ?_
      refine q_iconst (v := 1) hC dX1_faultOf_25 rfl 26 rfl ?_
      refine q_isub hC dX1_faultOf_26 27 rfl ?_
      refine r_callI hC (go_N (As := [.int v2, .int 0, .int ((M2 b 2) - (1 : Int32))]) (rest := []) hC (ctX4_isBetween (zl z) g M2 v2 0 ((M2 b 2) - (1 : Int32)) _ hw) 3 gX1_faultOf_X4_isBetween_n30 rfl ⟨rfl, rfl⟩ 3 rfl (uX1_faultOf__o _ (List.mem_of_getElem? (l := owX1_faultOf) (i := 7) rfl)) (uX1_faultOf__o _ (List.mem_of_getElem? (l := owX1_faultOf) (i := 6) rfl)) hdT_X4_isBetween ⟨Nat.le_of_ble_eq_true rfl, Nat.le_of_ble_eq_true rfl⟩ rfl rfl (Nat.le_of_ble_eq_true rfl) dX1_faultOf_27) 30 rfl (fun r3 M4 hw => ?_)
      refine q_if_eq hC 37 dX1_faultOf_30 (by decide) 33 rfl hw (fun hw => ?_) (fun hw => ?_)
      · refine q_iconst (v := 2) hC dX1_faultOf_37 rfl 38 rfl ?_
        exact r_iret hR dX1_faultOf_38 hw
      · refine q_iconst (v := 0) hC dX1_faultOf_33 rfl 34 rfl ?_
        refine q_goto hC 38 dX1_faultOf_34 (by decide) ?_
        exact r_iret hR dX1_faultOf_38 hw
    · refine q_iconst (v := 3) hC dX1_faultOf_17 rfl 18 rfl ?_
      exact r_iret hR dX1_faultOf_18 hw
  · refine q_iconst (v := 1) hC dX1_faultOf_7 rfl 8 rfl ?_
    exact r_iret hR dX1_faultOf_8 hw
theorem inX1_cellAt_X1 : ∀ w ∈ u_ws RX1 TX1 3, w ∈ wsX1_cellAt := uX1_cellAt__wsX10
set_option maxRecDepth 100000 in
set_option maxHeartbeats 4000000 in
theorem ctX1_cellAt (l : Launch) (g : GG) (M : MM) (b : Nat) (v1 : Int32) (Q : Int32 → MM → Prop) (hb : shl g b) (hw : wX1_cellAt Q M b v1) : MI g l yX1_cellAt wsX1_cellAt (rmOf 1 21) [.ref (gA g b), .int v1] M Q := by
  refine mk_MI (cc := cX1_cellAt) (maxL := 2) (by decide) rfl (Nat.le_of_ble_eq_true rfl) ?_
  intro z Qf hC hR
  show XX z g Qf 2 0 [(0, .ref (gA g b)), (1, .int v1)] [] M
  refine q_aload_n hC dX1_cellAt_0 0 rfl 1 rfl ?_
  refine q_getR (C := RX1) (T := TX1) (N := 3) (ci := 1) hC inX1_cellAt_X1 hb.ob rfl 0 (by decide) (uX1_cellAt__o _ (List.mem_of_getElem? (l := owX1_cellAt) (i := 1) rfl)) rfl (b + 1) (fun _ => rfl) dX1_cellAt_1 4 rfl ?_
  refine q_iload_n hC dX1_cellAt_4 1 rfl 5 rfl ?_
  refine r_callI hC (go_N (As := [.ref (gA g (b + 1)), .int v1]) (rest := []) hC (ctX4_cell (zl z) g M (b + 1) v1 _ hb.ar hw) 2 gX1_cellAt_X4_cell_n34 rfl ⟨rfl, rfl⟩ 4 rfl (uX1_cellAt__o _ (List.mem_of_getElem? (l := owX1_cellAt) (i := 3) rfl)) (uX1_cellAt__o _ (List.mem_of_getElem? (l := owX1_cellAt) (i := 2) rfl)) hdT_X4_cell ⟨Nat.le_of_ble_eq_true rfl, Nat.le_of_ble_eq_true rfl⟩ rfl rfl (Nat.le_of_ble_eq_true rfl) dX1_cellAt_5) 8 rfl (fun r1 M2 hw => ?_)
  exact r_iret hR dX1_cellAt_8 hw
theorem inX1_put_X1 : ∀ w ∈ u_ws RX1 TX1 3, w ∈ wsX1_put := uX1_put__wsX10
set_option maxRecDepth 100000 in
set_option maxHeartbeats 4000000 in
theorem ctX1_put (l : Launch) (g : GG) (M : MM) (b : Nat) (v1 : Int32) (v2 : Int32) (Q : MM → Prop) (hb : shl g b) (hw : wX1_put Q M b v1 v2) : MV g l yX1_put wsX1_put (rmOf 1 22) [.ref (gA g b), .int v1, .int v2] M Q := by
  refine mk_MV (cc := cX1_put) (maxL := 4) (by decide) rfl (Nat.le_of_ble_eq_true rfl) ?_
  intro z Qf hC hR
  show XX z g Qf 4 0 [(0, .ref (gA g b)), (1, .int v1), (2, .int v2)] [] M
  have B26 : ∀ (M : MM) (p0 : Int32), wX1_put_26 Q b v1 v2 M p0 → XX z g Qf 4 26 [(0, .ref (gA g b)), (1, .int v1)] [.int p0] M := by
    intro M p0 hw
    refine q_istore_n (L' := [(3, .int p0), (0, .ref (gA g b)), (1, .int v1)]) hC dX1_put_26 (by decide) rfl 27 rfl ?_
    refine q_aload_n hC dX1_put_27 1 rfl 28 rfl ?_
    refine q_getR (C := RX1) (T := TX1) (N := 3) (ci := 1) hC inX1_put_X1 hb.ob rfl 0 (by decide) (uX1_put__o _ (List.mem_of_getElem? (l := owX1_put) (i := 2) rfl)) rfl (b + 1) (fun _ => rfl) dX1_put_28 31 rfl ?_
    refine q_iload_n hC dX1_put_31 2 rfl 32 rfl ?_
    refine q_iload_n hC dX1_put_32 0 rfl 33 rfl ?_
    refine r_callV hC (go_N (As := [.ref (gA g (b + 1)), .int v1, .int p0]) (rest := []) hC (ctX4_setCell (zl z) g M (b + 1) v1 p0 _ hb.ar hw) 3 gX1_put_X4_setCell_n22 rfl ⟨rfl, rfl⟩ 2 rfl (uX1_put__o _ (List.mem_of_getElem? (l := owX1_put) (i := 4) rfl)) (uX1_put__o _ (List.mem_of_getElem? (l := owX1_put) (i := 3) rfl)) hdT_X4_setCell ⟨Nat.le_of_ble_eq_true rfl, Nat.le_of_ble_eq_true rfl⟩ rfl rfl (Nat.le_of_ble_eq_true rfl) dX1_put_33) 36 rfl (fun M1 hw => ?_)
    exact r_vret hR dX1_put_36 hw
  refine q_aload_n hC dX1_put_0 0 rfl 1 rfl ?_
  refine q_getI (C := RX1) (T := TX1) (N := 3) (ci := 1) hC inX1_put_X1 hb.ob rfl 1 (by decide) (uX1_put__o _ (List.mem_of_getElem? (l := owX1_put) (i := 1) rfl)) rfl (fun _ => rfl) dX1_put_1 4 rfl ?_
  refine q_if_ne hC 12 dX1_put_4 (by decide) 7 rfl hw (fun hw => ?_) (fun hw => ?_)
  · refine q_aload_n hC dX1_put_12 0 rfl 13 rfl ?_
    refine q_getI (C := RX1) (T := TX1) (N := 3) (ci := 1) hC inX1_put_X1 hb.ob rfl 1 (by decide) (uX1_put__o _ (List.mem_of_getElem? (l := owX1_put) (i := 1) rfl)) rfl (fun _ => rfl) dX1_put_13 16 rfl ?_
    refine q_iconst (v := 1) hC dX1_put_16 rfl 17 rfl ?_
    refine q_icmp_ne hC 25 dX1_put_17 (by decide) 20 rfl hw (fun hw => ?_) (fun hw => ?_)
    · refine q_iload_n hC dX1_put_25 2 rfl 26 rfl ?_
      exact XX.sub [0, 1] rfl (B26 M v2 hw)
    · refine q_iload_n hC dX1_put_20 2 rfl 21 rfl ?_
      refine q_i2s hC dX1_put_21 22 rfl ?_
      refine q_goto hC 26 dX1_put_22 (by decide) ?_
      exact XX.sub [0, 1] rfl (B26 M (v2.toInt16.toInt32) hw)
  · refine q_iload_n hC dX1_put_7 2 rfl 8 rfl ?_
    refine q_i2b hC dX1_put_8 9 rfl ?_
    refine q_goto hC 26 dX1_put_9 (by decide) ?_
    exact XX.sub [0, 1] rfl (B26 M (v2.toInt8.toInt32) hw)
theorem inX0_choose_X0 : ∀ w ∈ u_ws RX0 TX0 6, w ∈ wsX0_choose := uX0_choose__wsX00
set_option maxRecDepth 100000 in
set_option maxHeartbeats 4000000 in
theorem ctX0_choose (l : Launch) (g : GG) (M : MM) (v1 : Int32) (Q : MM → Prop) (hF : full g) (hw : wX0_choose Q M v1) : MV g l yX0_choose wsX0_choose (rmOf 1 22) [.ref (gA g 39), .int v1] M Q := by
  refine mk_MV (cc := cX0_choose) (maxL := 3) (by decide) rfl (Nat.le_of_ble_eq_true rfl) ?_
  intro z Qf hC hR
  show XX z g Qf 3 0 [(0, .ref (gA g 39)), (1, .int v1)] [] M
  have B53 : ∀ (K7 : MM → Int32 → Prop) (hK7 : ∀ (M : MM) (v2 : Int32) , K7 M v2 → XX z g Qf 3 7 [(0, .ref (gA g 39)), (1, .int v1), (2, .int v2)] [] M) (M : MM) (v2 : Int32), wX0_choose_53 Q K7 v1 M v2 → XX z g Qf 3 53 [(0, .ref (gA g 39)), (1, .int v1), (2, .int v2)] [] M := by
    intro K7 hK7 M v2 hw
    refine q_iinc (v := v2 + 1) (L' := [(2, .int (v2 + 1)), (0, .ref (gA g 39)), (1, .int v1)]) hC dX0_choose_53 2 rfl rfl (by decide) rfl 56 rfl ?_
    refine q_goto hC 7 dX0_choose_56 (by decide) ?_
    exact XX.sub [1, 2, 0] rfl (hK7 M (v2 + 1) hw)
  have B7 : ∀ (n : Nat) (M : MM) (v2 : Int32) , wX0_choose_7 Q v1 n M v2 → XX z g Qf 3 7 [(0, .ref (gA g 39)), (1, .int v1), (2, .int v2)] [] M := by
    intro n
    induction n with
    | zero =>
      intro M v2 hw
      exact hw.elim
    | succ n ih =>
      intro M v2 hw
      refine q_iload_n hC dX0_choose_7 2 rfl 8 rfl ?_
      refine q_bipush (v := 12) hC dX0_choose_8 (by decide) 10 rfl ?_
      refine q_icmp_ge hC 59 dX0_choose_10 (by decide) 13 rfl hw (fun hw => ?_) (fun hw => ?_)
      · exact r_vret hR dX0_choose_59 hw
      · refine q_iload_n hC dX0_choose_13 1 rfl 14 rfl ?_
        refine q_iload_n hC dX0_choose_14 2 rfl 15 rfl ?_
        refine q_ishr hC dX0_choose_15 16 rfl ?_
        refine q_iconst (v := 1) hC dX0_choose_16 rfl 17 rfl ?_
        refine q_iand hC dX0_choose_17 18 rfl ?_
        refine q_iconst (v := 1) hC dX0_choose_18 rfl 19 rfl ?_
        refine q_icmp_ne hC 53 dX0_choose_19 (by decide) 22 rfl hw (fun hw => ?_) (fun hw => ?_)
        · exact XX.sub [0, 1, 2] rfl (B53 _ (fun M v2 hw => ih M v2 hw) M v2 hw)
        · refine q_aload_n hC dX0_choose_22 0 rfl 23 rfl ?_
          refine q_getI (C := RX0) (T := TX0) (N := 6) (ci := 0) hC inX0_choose_X0 (obF39 hF) rfl 4 (by decide) (uX0_choose__o _ (List.mem_of_getElem? (l := owX0_choose) (i := 1) rfl)) rfl (fun _ => rfl) dX0_choose_23 26 rfl ?_
          refine q_bipush (v := 8) hC dX0_choose_26 (by decide) 28 rfl ?_
          refine q_icmp_ge hC 53 dX0_choose_28 (by decide) 31 rfl hw (fun hw => ?_) (fun hw => ?_)
          · exact XX.sub [0, 1, 2] rfl (B53 _ (fun M v2 hw => ih M v2 hw) M v2 hw)
          · refine q_aload_n hC dX0_choose_31 0 rfl 32 rfl ?_
            refine q_getR (C := RX0) (T := TX0) (N := 6) (ci := 0) hC inX0_choose_X0 (obF39 hF) rfl 2 (by decide) (uX0_choose__o _ (List.mem_of_getElem? (l := owX0_choose) (i := 2) rfl)) rfl 42 (fun _ => rfl) dX0_choose_32 35 rfl ?_
            refine q_aload_n hC dX0_choose_35 0 rfl 36 rfl ?_
            refine q_getI (C := RX0) (T := TX0) (N := 6) (ci := 0) hC inX0_choose_X0 (obF39 hF) rfl 4 (by decide) (uX0_choose__o _ (List.mem_of_getElem? (l := owX0_choose) (i := 1) rfl)) rfl (fun _ => rfl) dX0_choose_36 39 rfl ?_
            refine q_iload_n hC dX0_choose_39 2 rfl 40 rfl ?_
            refine r_callV hC (go_N (As := [.ref (gA g 42), .int (M 39 4), .int v2]) (rest := []) hC (ctX4_setCell (zl z) g M 42 (M 39 4) v2 _ (arF42 hF) hw) 3 gX0_choose_X4_setCell_n40 rfl ⟨rfl, rfl⟩ 0 rfl (uX0_choose__o _ (List.mem_of_getElem? (l := owX0_choose) (i := 4) rfl)) (uX0_choose__o _ (List.mem_of_getElem? (l := owX0_choose) (i := 3) rfl)) hdT_X4_setCell ⟨Nat.le_of_ble_eq_true rfl, Nat.le_of_ble_eq_true rfl⟩ rfl rfl (Nat.le_of_ble_eq_true rfl) dX0_choose_40) 43 rfl (fun M2 hw => ?_)
            refine q_aload_n hC dX0_choose_43 0 rfl 44 rfl ?_
            refine q_dup hC dX0_choose_44 rfl 45 rfl ?_
            refine q_getI (C := RX0) (T := TX0) (N := 6) (ci := 0) hC inX0_choose_X0 (obF39 hF) rfl 4 (by decide) (uX0_choose__o _ (List.mem_of_getElem? (l := owX0_choose) (i := 1) rfl)) rfl (fun _ => rfl) dX0_choose_45 48 rfl ?_
            refine q_iconst (v := 1) hC dX0_choose_48 rfl 49 rfl ?_
            refine q_iadd hC dX0_choose_49 50 rfl ?_
            refine q_putI (C := RX0) (T := TX0) (N := 6) (ci := 0) hC inX0_choose_X0 tyX0 tyX0_ok nmX0 (obF39 hF) rfl 4 (by decide) (uX0_choose__o _ (List.mem_of_getElem? (l := owX0_choose) (i := 1) rfl)) rfl rfl rfl (fun _ => Nat.le_of_ble_eq_true rfl) (fun _ => rfl) dX0_choose_50 53 rfl (fun M3 eM3 => ?_)
            have hw := hw M3 eM3
            exact XX.sub [0, 1, 2] rfl (B53 _ (fun M v2 hw => ih M v2 hw) M3 v2 hw)
  refine q_aload_n hC dX0_choose_0 0 rfl 1 rfl ?_
  refine q_iconst (v := 0) hC dX0_choose_1 rfl 2 rfl ?_
  refine q_putI (C := RX0) (T := TX0) (N := 6) (ci := 0) hC inX0_choose_X0 tyX0 tyX0_ok nmX0 (obF39 hF) rfl 4 (by decide) (uX0_choose__o _ (List.mem_of_getElem? (l := owX0_choose) (i := 1) rfl)) rfl rfl rfl (fun _ => Nat.le_of_ble_eq_true rfl) (fun _ => rfl) dX0_choose_2 5 rfl (fun M1 eM1 => ?_)
  have hw := hw M1 eM1
  refine q_iconst (v := 0) hC dX0_choose_5 rfl 6 rfl ?_
  refine q_istore_n (L' := [(2, .int 0), (0, .ref (gA g 39)), (1, .int v1)]) hC dX0_choose_6 (by decide) rfl 7 rfl ?_
  obtain ⟨n0, hw⟩ := hw
  exact XX.sub [1, 2, 0] rfl (B7 n0 M1 0 hw)
