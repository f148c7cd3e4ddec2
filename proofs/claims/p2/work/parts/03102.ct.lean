theorem inX2_byteCount_X2 : ∀ w ∈ u_ws RX2 TX2 14, w ∈ wsX2_byteCount := uX2_byteCount__wsX20
set_option maxRecDepth 100000 in
set_option maxHeartbeats 4000000 in
theorem ctX2_byteCount (l : Launch) (g : GG) (M : MM) (b : Nat) (Q : Int32 → MM → Prop) (hb : tpl g b) (hw : wX2_byteCount Q M b) : MI g l yX2_byteCount wsX2_byteCount (rmOf 2 42) [.ref (gA g b)] M Q := by
  refine mk_MI (cc := cX2_byteCount) (maxL := 3) (by decide) rfl (Nat.le_of_ble_eq_true rfl) ?_
  intro z Qf hC hR
  show XX z g Qf 3 0 [(0, .ref (gA g b))] [] M
  have B4 : ∀ (n : Nat) (M : MM) (v1 : Int32) (v2 : Int32) , wX2_byteCount_4 Q b n M v1 v2 → XX z g Qf 3 4 [(0, .ref (gA g b)), (1, .int v1), (2, .int v2)] [] M := by
    intro n
    induction n with
    | zero =>
      intro M v1 v2 hw
      exact hw.elim
    | succ n ih =>
      intro M v1 v2 hw
      refine q_iload_n hC dX2_byteCount_4 2 rfl 5 rfl ?_
      refine q_aload_n hC dX2_byteCount_5 0 rfl 6 rfl ?_
      refine q_getI (C := RX2) (T := TX2) (N := 14) (ci := 2) hC inX2_byteCount_X2 hb.ob rfl 8 (by decide) (uX2_byteCount__o _ (List.mem_of_getElem? (l := owX2_byteCount) (i := 1) rfl)) rfl (fun _ => rfl) dX2_byteCount_6 9 rfl ?_
      refine q_icmp_ge hC 26 dX2_byteCount_9 (by decide) 12 rfl hw (fun hw => ?_) (fun hw => ?_)
      · refine q_iload_n hC dX2_byteCount_26 1 rfl 27 rfl ?_
        exact r_iret hR dX2_byteCount_27 hw
      · refine q_iload_n hC dX2_byteCount_12 1 rfl 13 rfl ?_
        refine q_aload_n hC dX2_byteCount_13 0 rfl 14 rfl ?_
        refine q_iload_n hC dX2_byteCount_14 2 rfl 15 rfl ?_
        refine r_callI hC (go_V (q := (RX2, TX2, 14)) (As := [.int v2]) (rest := [.int v1]) hC (ctX2_sizeOf (zl z) g M b v2 _ hb hw) 1 gX2_byteCount_X2_sizeOf rfl ⟨rfl, rfl⟩ hdV_X2_sizeOf ⟨Nat.le_of_ble_eq_true rfl, Nat.le_of_ble_eq_true rfl⟩ hb.ob rfl rfl rfl (Nat.le_of_ble_eq_true rfl) dX2_byteCount_15) 18 rfl (fun r1 M2 hw => ?_)
        refine q_iadd hC dX2_byteCount_18 19 rfl ?_
        refine q_istore_n (L' := [(1, .int (v1 + r1)), (0, .ref (gA g b)), (2, .int v2)]) hC dX2_byteCount_19 (by decide) rfl 20 rfl ?_
        refine q_iinc (v := v2 + 1) (L' := [(2, .int (v2 + 1)), (1, .int (v1 + r1)), (0, .ref (gA g b))]) hC dX2_byteCount_20 2 rfl rfl (by decide) rfl 23 rfl ?_
        refine q_goto hC 4 dX2_byteCount_23 (by decide) ?_
        exact XX.sub [2, 1, 0] rfl (ih M2 (v1 + r1) (v2 + 1) hw)
  refine q_iconst (v := 0) hC dX2_byteCount_0 rfl 1 rfl ?_
  refine q_istore_n (L' := [(1, .int 0), (0, .ref (gA g b))]) hC dX2_byteCount_1 (by decide) rfl 2 rfl ?_
  refine q_iconst (v := 0) hC dX2_byteCount_2 rfl 3 rfl ?_
  refine q_istore_n (L' := [(2, .int 0), (1, .int 0), (0, .ref (gA g b))]) hC dX2_byteCount_3 (by decide) rfl 4 rfl ?_
  obtain ⟨n0, hw⟩ := hw
  exact XX.sub [2, 1, 0] rfl (B4 n0 M 0 0 hw)
set_option maxRecDepth 100000 in
set_option maxHeartbeats 4000000 in
theorem ctX4_setCell (l : Launch) (g : GG) (M : MM) (k0 : Nat) (v1 : Int32) (v2 : Int32) (Q : MM → Prop) (hk0 : isI g k0) (hw : wX4_setCell Q M k0 v1 v2) : MV g l yX4_setCell wsX4_setCell (rmOf 0 0) [.ref (gA g k0), .int v1, .int v2] M Q := by
  refine mk_MV (cc := cX4_setCell) (maxL := 3) (by decide) rfl (Nat.le_of_ble_eq_true rfl) ?_
  intro z Qf hC hR
  show XX z g Qf 3 0 [(0, .ref (gA g k0)), (1, .int v1), (2, .int v2)] [] M
  refine q_aload_n hC dX4_setCell_0 0 rfl 1 rfl ?_
  refine q_ifnull hC dX4_setCell_1 4 rfl ?_
  refine q_iload_n hC dX4_setCell_4 1 rfl 5 rfl ?_
  refine q_if_lt hC 18 dX4_setCell_5 (by decide) 8 rfl hw (fun hw => ?_) (fun hw => ?_)
  · exact r_vret hR dX4_setCell_18 hw
  · refine q_iload_n hC dX4_setCell_8 1 rfl 9 rfl ?_
    refine q_aload_n hC dX4_setCell_9 0 rfl 10 rfl ?_
    refine q_alen hC hk0 dX4_setCell_10 11 rfl ?_
    refine q_icmp_ge hC 18 dX4_setCell_11 (by decide) 14 rfl hw (fun hw => ?_) (fun hw => ?_)
    · exact r_vret hR dX4_setCell_18 hw
    · refine q_aload_n hC dX4_setCell_14 0 rfl 15 rfl ?_
      refine q_iload_n hC dX4_setCell_15 1 rfl 16 rfl ?_
      refine q_iload_n hC dX4_setCell_16 2 rfl 17 rfl ?_
      obtain ⟨hin, hw⟩ := hw
      refine q_iast hC hk0 hin dX4_setCell_17 18 rfl (fun M1 eM1 => ?_)
      have hw := hw M1 eM1
      exact r_vret hR dX4_setCell_18 hw
theorem hdT_X4_setCell : yX4_setCell.cls ≠ "java/lang/invoke/MethodHandle" ∧ yX4_setCell.cls ≠ "java/lang/invoke/VarHandle" ∧ (parseMethodDescriptor yX4_setCell.desc).map (fun d => d.parameters.length) = some 3 := by decide +kernel
theorem inX2_typeOne_X2 : ∀ w ∈ u_ws RX2 TX2 14, w ∈ wsX2_typeOne := uX2_typeOne__wsX20
set_option maxRecDepth 100000 in
set_option maxHeartbeats 4000000 in
theorem ctX2_typeOne (l : Launch) (g : GG) (M : MM) (b : Nat) (v1 : Int32) (Q : Int32 → MM → Prop) (hb : tpl g b) (hw : wX2_typeOne Q M b v1) : MI g l yX2_typeOne wsX2_typeOne (rmOf 1 22) [.ref (gA g b), .int v1] M Q := by
  refine mk_MI (cc := cX2_typeOne) (maxL := 2) (by decide) rfl (Nat.le_of_ble_eq_true rfl) ?_
  intro z Qf hC hR
  show XX z g Qf 2 0 [(0, .ref (gA g b)), (1, .int v1)] [] M
  refine q_aload_n hC dX2_typeOne_0 0 rfl 1 rfl ?_
  refine q_getR (C := RX2) (T := TX2) (N := 14) (ci := 2) hC inX2_typeOne_X2 hb.ob rfl 5 (by decide) (uX2_typeOne__o _ (List.mem_of_getElem? (l := owX2_typeOne) (i := 1) rfl)) rfl (b + 6) (fun _ => rfl) dX2_typeOne_1 4 rfl ?_
  refine q_aload_n hC dX2_typeOne_4 0 rfl 5 rfl ?_
  refine q_getI (C := RX2) (T := TX2) (N := 14) (ci := 2) hC inX2_typeOne_X2 hb.ob rfl 11 (by decide) (uX2_typeOne__o _ (List.mem_of_getElem? (l := owX2_typeOne) (i := 2) rfl)) rfl (fun _ => rfl) dX2_typeOne_5 8 rfl ?_
  refine q_iload_n hC dX2_typeOne_8 1 rfl 9 rfl ?_
  refine r_callV hC (go_N (As := [.ref (gA g (b + 6)), .int (M b 11), .int v1]) (rest := []) hC (ctX4_setCell (zl z) g M (b + 6) (M b 11) v1 _ (hb.ar 6 (by decide) (by decide)) hw) 3 gX2_typeOne_X4_setCell_n139 rfl ⟨rfl, rfl⟩ 7 rfl (uX2_typeOne__o _ (List.mem_of_getElem? (l := owX2_typeOne) (i := 4) rfl)) (uX2_typeOne__o _ (List.mem_of_getElem? (l := owX2_typeOne) (i := 3) rfl)) hdT_X4_setCell ⟨Nat.le_of_ble_eq_true rfl, Nat.le_of_ble_eq_true rfl⟩ rfl rfl (Nat.le_of_ble_eq_true rfl) dX2_typeOne_9) 12 rfl (fun M1 hw => ?_)
  refine q_aload_n hC dX2_typeOne_12 0 rfl 13 rfl ?_
  refine q_dup hC dX2_typeOne_13 rfl 14 rfl ?_
  refine q_getI (C := RX2) (T := TX2) (N := 14) (ci := 2) hC inX2_typeOne_X2 hb.ob rfl 11 (by decide) (uX2_typeOne__o _ (List.mem_of_getElem? (l := owX2_typeOne) (i := 2) rfl)) rfl (fun _ => rfl) dX2_typeOne_14 17 rfl ?_
  refine q_iconst (v := 1) hC dX2_typeOne_17 rfl 18 rfl ?_
  refine q_iadd hC dX2_typeOne_18 19 rfl ?_
  refine q_putI (C := RX2) (T := TX2) (N := 14) (ci := 2) hC inX2_typeOne_X2 tyX2 tyX2_ok nmX2 hb.ob rfl 11 (by decide) (uX2_typeOne__o _ (List.mem_of_getElem? (l := owX2_typeOne) (i := 2) rfl)) rfl rfl rfl (fun _ => Nat.le_of_ble_eq_true rfl) (fun _ => rfl) dX2_typeOne_19 22 rfl (fun M2 eM2 => ?_)
  have hw := hw M2 eM2
  refine q_aload_n hC dX2_typeOne_22 0 rfl 23 rfl ?_
  refine q_getI (C := RX2) (T := TX2) (N := 14) (ci := 2) hC inX2_typeOne_X2 hb.ob rfl 11 (by decide) (uX2_typeOne__o _ (List.mem_of_getElem? (l := owX2_typeOne) (i := 2) rfl)) rfl (fun _ => rfl) dX2_typeOne_23 26 rfl ?_
  exact r_iret hR dX2_typeOne_26 hw
set_option maxRecDepth 100000 in
set_option maxHeartbeats 4000000 in
theorem ctX2_beginningAt (l : Launch) (g : GG) (M : MM) (b : Nat) (v1 : Int32) (Q : Int32 → MM → Prop) (hb : tpl g b) (hw : wX2_beginningAt Q M b v1) : MI g l yX2_beginningAt wsX2_beginningAt (rmOf 3 64) [.ref (gA g b), .int v1] M Q := by
  refine mk_MI (cc := cX2_beginningAt) (maxL := 2) (by decide) rfl (Nat.le_of_ble_eq_true rfl) ?_
  intro z Qf hC hR
  show XX z g Qf 2 0 [(0, .ref (gA g b)), (1, .int v1)] [] M
  refine q_aload_n hC dX2_beginningAt_0 0 rfl 1 rfl ?_
  refine q_iload_n hC dX2_beginningAt_1 1 rfl 2 rfl ?_
  refine q_iconst (v := 1) hC dX2_beginningAt_2 rfl 3 rfl ?_
  refine q_isub hC dX2_beginningAt_3 4 rfl ?_
  refine r_callI hC (go_V (q := (RX2, TX2, 14)) (As := [.int (v1 - (1 : Int32))]) (rest := []) hC (ctX2_endOf (zl z) g M b (v1 - (1 : Int32)) _ hb hw) 1 gX2_beginningAt_X2_endOf rfl ⟨rfl, rfl⟩ hdV_X2_endOf ⟨Nat.le_of_ble_eq_true rfl, Nat.le_of_ble_eq_true rfl⟩ hb.ob rfl rfl rfl (Nat.le_of_ble_eq_true rfl) dX2_beginningAt_4) 7 rfl (fun r1 M2 hw => ?_)
  refine q_aload_n hC dX2_beginningAt_7 0 rfl 8 rfl ?_
  refine q_bipush (v := 6) hC dX2_beginningAt_8 (by decide) 10 rfl ?_
  refine r_callI hC (go_V (q := (RX2, TX2, 14)) (As := [.int 6]) (rest := [.int r1]) hC (ctX2_ruled (zl z) g M2 b 6 _ hb hw) 1 gX2_beginningAt_X2_ruled rfl ⟨rfl, rfl⟩ hdV_X2_ruled ⟨Nat.le_of_ble_eq_true rfl, Nat.le_of_ble_eq_true rfl⟩ hb.ob rfl rfl rfl (Nat.le_of_ble_eq_true rfl) dX2_beginningAt_10) 13 rfl (fun r3 M4 hw => ?_)
  refine q_iadd hC dX2_beginningAt_13 14 rfl ?_
  exact r_iret hR dX2_beginningAt_14 hw
theorem hdV_X2_beginningAt : yX2_beginningAt.cls = RX2 ∧ yX2_beginningAt.cls ≠ "java/lang/invoke/MethodHandle" ∧ yX2_beginningAt.cls ≠ "java/lang/invoke/VarHandle" ∧ (parseMethodDescriptor yX2_beginningAt.desc).map (fun d => d.parameters.length) = some 1 := by decide +kernel
set_option maxRecDepth 100000 in
set_option maxHeartbeats 4000000 in
theorem ctX2_hasRoomAt (l : Launch) (g : GG) (M : MM) (b : Nat) (v1 : Int32) (v2 : Int32) (Q : Int32 → MM → Prop) (hb : tpl g b) (hw : wX2_hasRoomAt Q M b v1 v2) : MI g l yX2_hasRoomAt wsX2_hasRoomAt (rmOf 4 85) [.ref (gA g b), .int v1, .int v2] M Q := by
  refine mk_MZ (cc := cX2_hasRoomAt) (maxL := 3) (by decide) rfl (Nat.le_of_ble_eq_true rfl) ?_
  intro z Qf hC hR
  show XX z g Qf 3 0 [(0, .ref (gA g b)), (1, .int v1), (2, .int v2)] [] M
  have B29 : ∀ (M : MM), wX2_hasRoomAt_29 Q b v1 v2 M → XX z g Qf 3 29 [] [] M := by
    intro M hw
    refine q_iconst (v := 0) hC dX2_hasRoomAt_29 rfl 30 rfl ?_
    exact r_iret hR dX2_hasRoomAt_30 ⟨nb_0, hw⟩
  refine q_iload_n hC dX2_hasRoomAt_0 1 rfl 1 rfl ?_
  refine q_bipush (v := 12) hC dX2_hasRoomAt_1 (by decide) 3 rfl ?_
  refine q_icmp_ge hC 29 dX2_hasRoomAt_3 (by decide) 6 rfl hw (fun hw => ?_) (fun hw => ?_)
  · exact XX.sub [] rfl (B29 M hw)
  · refine q_aload_n hC dX2_hasRoomAt_6 0 rfl 7 rfl ?_
    refine q_iload_n hC dX2_hasRoomAt_7 1 rfl 8 rfl ?_
    refine r_callI hC (go_V (q := (RX2, TX2, 14)) (As := [.int v1]) (rest := []) hC (ctX2_beginningAt (zl z) g M b v1 _ hb hw) 1 gX2_hasRoomAt_X2_beginningAt rfl ⟨rfl, rfl⟩ hdV_X2_beginningAt ⟨Nat.le_of_ble_eq_true rfl, Nat.le_of_ble_eq_true rfl⟩ hb.ob rfl rfl rfl (Nat.le_of_ble_eq_true rfl) dX2_hasRoomAt_8) 11 rfl (fun r1 M2 hw => ?_)
    refine q_aload_n hC dX2_hasRoomAt_11 0 rfl 12 rfl ?_
    refine q_iload_n hC dX2_hasRoomAt_12 2 rfl 13 rfl ?_
    refine r_callI hC (go_V (q := (RX2, TX2, 14)) (As := [.int v2]) (rest := [.int r1]) hC (ctX2_longWith (zl z) g M2 b v2 _ hb hw) 1 gX2_hasRoomAt_X2_longWith rfl ⟨rfl, rfl⟩ hdV_X2_longWith ⟨Nat.le_of_ble_eq_true rfl, Nat.le_of_ble_eq_true rfl⟩ hb.ob rfl rfl rfl (Nat.le_of_ble_eq_true rfl) dX2_hasRoomAt_13) 16 rfl (fun r3 M4 hw => ?_)
    refine q_iadd hC dX2_hasRoomAt_16 17 rfl ?_
    refine q_aload_n hC dX2_hasRoomAt_17 0 rfl 18 rfl ?_
    refine q_iconst (v := 0) hC dX2_hasRoomAt_18 rfl 19 rfl ?_
    refine r_callI hC (go_V (q := (RX2, TX2, 14)) (As := [.int 0]) (rest := [.int (r1 + r3)]) hC (ctX2_ruled (zl z) g M4 b 0 _ hb hw) 1 gX2_hasRoomAt_X2_ruled rfl ⟨rfl, rfl⟩ hdV_X2_ruled ⟨Nat.le_of_ble_eq_true rfl, Nat.le_of_ble_eq_true rfl⟩ hb.ob rfl rfl rfl (Nat.le_of_ble_eq_true rfl) dX2_hasRoomAt_19) 22 rfl (fun r5 M6 hw => ?_)
    refine q_icmp_gt hC 29 dX2_hasRoomAt_22 (by decide) 25 rfl hw (fun hw => ?_) (fun hw => ?_)
    · exact XX.sub [] rfl (B29 M6 hw)
    · refine q_iconst (v := 1) hC dX2_hasRoomAt_25 rfl 26 rfl ?_
      refine q_goto hC 30 dX2_hasRoomAt_26 (by decide) ?_
      exact r_iret hR dX2_hasRoomAt_30 ⟨nb_1, hw⟩
set_option maxRecDepth 100000 in
set_option maxHeartbeats 4000000 in
theorem ctJ6_bitCount_0f7a4 (l : Launch) (g : GG) (M : MM) (v0 : Int32) (Q : Int32 → MM → Prop)  (hw : wJ6_bitCount_0f7a4 Q M v0) : MI g l yJ6_bitCount_0f7a4 wsJ6_bitCount_0f7a4 (rmOf 0 0) [.int v0] M Q := by
  refine mk_MI (cc := cJ6_bitCount_0f7a4) (maxL := 1) (by decide) rfl (Nat.le_of_ble_eq_true rfl) ?_
  intro z Qf hC hR
  show XX z g Qf 1 0 [(0, .int v0)] [] M
  refine q_iload_n hC dJ6_bitCount_0f7a4_0 0 rfl 1 rfl ?_
  refine q_iload_n hC dJ6_bitCount_0f7a4_1 0 rfl 2 rfl ?_
  refine q_iconst (v := 1) hC dJ6_bitCount_0f7a4_2 rfl 3 rfl ?_
  refine q_iushr hC dJ6_bitCount_0f7a4_3 4 rfl ?_
  refine q_ldcw (v := 1431655765) hC (uJ6_bitCount_0f7a4__o _ (List.mem_of_getElem? (l := owJ6_bitCount_0f7a4) (i := 1) rfl)) dJ6_bitCount_0f7a4_4 7 rfl ?_
  refine q_iand hC dJ6_bitCount_0f7a4_7 8 rfl ?_
  refine q_isub hC dJ6_bitCount_0f7a4_8 9 rfl ?_
  refine q_nameI (fun x1 ex1 => ?_)
  have hw := hw x1 ex1
  refine q_istore_n (L' := [(0, .int x1)]) hC dJ6_bitCount_0f7a4_9 (by decide) rfl 10 rfl ?_
  refine q_iload_n hC dJ6_bitCount_0f7a4_10 0 rfl 11 rfl ?_
  refine q_ldcw (v := 858993459) hC (uJ6_bitCount_0f7a4__o _ (List.mem_of_getElem? (l := owJ6_bitCount_0f7a4) (i := 2) rfl)) dJ6_bitCount_0f7a4_11 14 rfl ?_
  refine q_iand hC dJ6_bitCount_0f7a4_14 15 rfl ?_
  refine q_iload_n hC dJ6_bitCount_0f7a4_15 0 rfl 16 rfl ?_
  refine q_iconst (v := 2) hC dJ6_bitCount_0f7a4_16 rfl 17 rfl ?_
  refine q_iushr hC dJ6_bitCount_0f7a4_17 18 rfl ?_
  refine q_ldcw (v := 858993459) hC (uJ6_bitCount_0f7a4__o _ (List.mem_of_getElem? (l := owJ6_bitCount_0f7a4) (i := 2) rfl)) dJ6_bitCount_0f7a4_18 21 rfl ?_
  refine q_iand hC dJ6_bitCount_0f7a4_21 22 rfl ?_
  refine q_iadd hC dJ6_bitCount_0f7a4_22 23 rfl ?_
  refine q_nameI (fun x2 ex2 => ?_)
  have hw := hw x2 ex2
  refine q_istore_n (L' := [(0, .int x2)]) hC dJ6_bitCount_0f7a4_23 (by decide) rfl 24 rfl ?_
  refine q_iload_n hC dJ6_bitCount_0f7a4_24 0 rfl 25 rfl ?_
  refine q_iload_n hC dJ6_bitCount_0f7a4_25 0 rfl 26 rfl ?_
  refine q_iconst (v := 4) hC dJ6_bitCount_0f7a4_26 rfl 27 rfl ?_
  refine q_iushr hC dJ6_bitCount_0f7a4_27 28 rfl ?_
  refine q_iadd hC dJ6_bitCount_0f7a4_28 29 rfl ?_
  refine q_ldcw (v := 252645135) hC (uJ6_bitCount_0f7a4__o _ (List.mem_of_getElem? (l := owJ6_bitCount_0f7a4) (i := 3) rfl)) dJ6_bitCount_0f7a4_29 32 rfl ?_
  refine q_iand hC dJ6_bitCount_0f7a4_32 33 rfl ?_
  refine q_nameI (fun x3 ex3 => ?_)
  have hw := hw x3 ex3
  refine q_istore_n (L' := [(0, .int x3)]) hC dJ6_bitCount_0f7a4_33 (by decide) rfl 34 rfl ?_
  refine q_iload_n hC dJ6_bitCount_0f7a4_34 0 rfl 35 rfl ?_
  refine q_iload_n hC dJ6_bitCount_0f7a4_35 0 rfl 36 rfl ?_
  refine q_bipush (v := 8) hC dJ6_bitCount_0f7a4_36 (by decide) 38 rfl ?_
  refine q_iushr hC dJ6_bitCount_0f7a4_38 39 rfl ?_
  refine q_iadd hC dJ6_bitCount_0f7a4_39 40 rfl ?_
  refine q_nameI (fun x4 ex4 => ?_)
  have hw := hw x4 ex4
  refine q_istore_n (L' := [(0, .int x4)]) hC dJ6_bitCount_0f7a4_40 (by decide) rfl 41 rfl ?_
  refine q_iload_n hC dJ6_bitCount_0f7a4_41 0 rfl 42 rfl ?_
  refine q_iload_n hC dJ6_bitCount_0f7a4_42 0 rfl 43 rfl ?_
  refine q_bipush (v := 16) hC dJ6_bitCount_0f7a4_43 (by decide) 45 rfl ?_
  refine q_iushr hC dJ6_bitCount_0f7a4_45 46 rfl ?_
  refine q_iadd hC dJ6_bitCount_0f7a4_46 47 rfl ?_
  refine q_nameI (fun x5 ex5 => ?_)
  have hw := hw x5 ex5
  refine q_istore_n (L' := [(0, .int x5)]) hC dJ6_bitCount_0f7a4_47 (by decide) rfl 48 rfl ?_
  refine q_iload_n hC dJ6_bitCount_0f7a4_48 0 rfl 49 rfl ?_
  refine q_bipush (v := 63) hC dJ6_bitCount_0f7a4_49 (by decide) 51 rfl ?_
  refine q_iand hC dJ6_bitCount_0f7a4_51 52 rfl ?_
  exact r_iret hR dJ6_bitCount_0f7a4_52 hw
theorem inX2_setColumn_X2 : ∀ w ∈ u_ws RX2 TX2 14, w ∈ wsX2_setColumn := uX2_setColumn__wsX20
set_option maxRecDepth 100000 in
set_option maxHeartbeats 4000000 in
theorem ctX2_setColumn (l : Launch) (g : GG) (M : MM) (b : Nat) (v1 : Int32) (v2 : Int32) (v3 : Int32) (Q : MM → Prop) (hb : tpl g b) (hw : wX2_setColumn Q M b v1 v2 v3) : MV g l yX2_setColumn wsX2_setColumn (rmOf 1 22) [.ref (gA g b), .int v1, .int v2, .int v3] M Q := by
  refine mk_MV (cc := cX2_setColumn) (maxL := 4) (by decide) rfl (Nat.le_of_ble_eq_true rfl) ?_
  intro z Qf hC hR
  show XX z g Qf 4 0 [(0, .ref (gA g b)), (1, .int v1), (2, .int v2), (3, .int v3)] [] M
  refine q_aload_n hC dX2_setColumn_0 0 rfl 1 rfl ?_
  refine q_getR (C := RX2) (T := TX2) (N := 14) (ci := 2) hC inX2_setColumn_X2 hb.ob rfl 3 (by decide) (uX2_setColumn__o _ (List.mem_of_getElem? (l := owX2_setColumn) (i := 1) rfl)) rfl (b + 4) (fun _ => rfl) dX2_setColumn_1 4 rfl ?_
  refine q_iload_n hC dX2_setColumn_4 1 rfl 5 rfl ?_
  refine q_bipush (v := 13) hC dX2_setColumn_5 (by decide) 7 rfl ?_
  refine q_imul hC dX2_setColumn_7 8 rfl ?_
  refine q_iload_n hC dX2_setColumn_8 2 rfl 9 rfl ?_
  refine q_iadd hC dX2_setColumn_9 10 rfl ?_
  refine q_iload_n hC dX2_setColumn_10 3 rfl 11 rfl ?_
  refine r_callV hC (go_N (As := [.ref (gA g (b + 4)), .int ((v1 * (13 : Int32)) + v2), .int v3]) (rest := []) hC (ctX4_setCell (zl z) g M (b + 4) ((v1 * (13 : Int32)) + v2) v3 _ (hb.ar 4 (by decide) (by decide)) hw) 3 gX2_setColumn_X4_setCell_n139 rfl ⟨rfl, rfl⟩ 7 rfl (uX2_setColumn__o _ (List.mem_of_getElem? (l := owX2_setColumn) (i := 3) rfl)) (uX2_setColumn__o _ (List.mem_of_getElem? (l := owX2_setColumn) (i := 2) rfl)) hdT_X4_setCell ⟨Nat.le_of_ble_eq_true rfl, Nat.le_of_ble_eq_true rfl⟩ rfl rfl (Nat.le_of_ble_eq_true rfl) dX2_setColumn_11) 14 rfl (fun M1 hw => ?_)
  exact r_vret hR dX2_setColumn_14 hw
theorem hdV_X2_setColumn : yX2_setColumn.cls = RX2 ∧ yX2_setColumn.cls ≠ "java/lang/invoke/MethodHandle" ∧ yX2_setColumn.cls ≠ "java/lang/invoke/VarHandle" ∧ (parseMethodDescriptor yX2_setColumn.desc).map (fun d => d.parameters.length) = some 3 := by decide +kernel
theorem hdT_J6_bitCount_0f7a4 : yJ6_bitCount_0f7a4.cls ≠ "java/lang/invoke/MethodHandle" ∧ yJ6_bitCount_0f7a4.cls ≠ "java/lang/invoke/VarHandle" ∧ (parseMethodDescriptor yJ6_bitCount_0f7a4.desc).map (fun d => d.parameters.length) = some 1 := by decide +kernel
theorem inX2_putBlock_X2 : ∀ w ∈ u_ws RX2 TX2 14, w ∈ wsX2_putBlock := uX2_putBlock__wsX20
set_option maxRecDepth 100000 in
set_option maxHeartbeats 4000000 in
theorem ctX2_putBlock (l : Launch) (g : GG) (M : MM) (b : Nat) (v1 : Int32) (v2 : Int32) (v3 : Int32) (Q : MM → Prop) (hb : tpl g b) (hw : wX2_putBlock Q M b v1 v2 v3) : MV g l yX2_putBlock wsX2_putBlock (rmOf 2 45) [.ref (gA g b), .int v1, .int v2, .int v3] M Q := by
  refine mk_MV (cc := cX2_putBlock) (maxL := 8) (by decide) rfl (Nat.le_of_ble_eq_true rfl) ?_
  intro z Qf hC hR
  show XX z g Qf 8 0 [(0, .ref (gA g b)), (1, .int v1), (2, .int v2), (3, .int v3)] [] M
  have B67 : ∀ (K31 : MM → Int32 → Int32 → Prop) (hK31 : ∀ (M : MM) (v4 : Int32) (v5 : Int32) , K31 M v4 v5 → XX z g Qf 8 31 [(0, .ref (gA g b)), (1, .int v1), (3, .int v3), (4, .int v4), (5, .int v5)] [] M) (M : MM) (v4 : Int32) (v5 : Int32) (v6 : Int32) (p0 : Int32) (p1 : Int32), wX2_putBlock_67 Q K31 b v1 v2 v3 M v4 v5 v6 p0 p1 → XX z g Qf 8 67 [(0, .ref (gA g b)), (1, .int v1), (3, .int v3), (4, .int v4), (5, .int v5), (6, .int v6)] [.int p0, .int p1] M := by
    intro K31 hK31 M v4 v5 v6 p0 p1 hw
    refine q_ior hC dX2_putBlock_67 68 rfl ?_
    refine q_istore (L' := [(7, .int (p1 ||| p0)), (0, .ref (gA g b)), (1, .int v1), (3, .int v3), (4, .int v4), (5, .int v5), (6, .int v6)]) hC dX2_putBlock_68 (by decide) rfl 70 rfl ?_
    refine q_aload_n hC dX2_putBlock_70 1 rfl 71 rfl ?_
    refine q_getR (C := RX2) (T := TX2) (N := 14) (ci := 2) hC inX2_putBlock_X2 hb.ob rfl 4 (by decide) (uX2_putBlock__o _ (List.mem_of_getElem? (l := owX2_putBlock) (i := 5) rfl)) rfl (b + 5) (fun _ => rfl) dX2_putBlock_71 74 rfl ?_
    refine q_iload_n hC dX2_putBlock_74 2 rfl 75 rfl ?_
    refine q_bipush (v := 12) hC dX2_putBlock_75 (by decide) 77 rfl ?_
    refine q_imul hC dX2_putBlock_77 78 rfl ?_
    refine q_iload hC dX2_putBlock_78 5 rfl 80 rfl ?_
    refine q_iadd hC dX2_putBlock_80 81 rfl ?_
    refine q_iload hC dX2_putBlock_81 6 rfl 83 rfl ?_
    refine r_callV hC (go_N (As := [.ref (gA g (b + 5)), .int ((v1 * (12 : Int32)) + v5), .int v6]) (rest := []) hC (ctX4_setCell (zl z) g M (b + 5) ((v1 * (12 : Int32)) + v5) v6 _ (hb.ar 5 (by decide) (by decide)) hw) 3 gX2_putBlock_X4_setCell_n139 rfl ⟨rfl, rfl⟩ 7 rfl (uX2_putBlock__X2_setColumn _ (List.mem_of_getElem? (l := owX2_setColumn) (i := 3) rfl)) (uX2_putBlock__X2_setColumn _ (List.mem_of_getElem? (l := owX2_setColumn) (i := 2) rfl)) hdT_X4_setCell ⟨Nat.le_of_ble_eq_true rfl, Nat.le_of_ble_eq_true rfl⟩ rfl rfl (Nat.le_of_ble_eq_true rfl) dX2_putBlock_83) 86 rfl (fun M9 hw => ?_)
    refine q_aload_n hC dX2_putBlock_86 1 rfl 87 rfl ?_
    refine q_iload_n hC dX2_putBlock_87 2 rfl 88 rfl ?_
    refine q_iload hC dX2_putBlock_88 5 rfl 90 rfl ?_
    refine q_iload hC dX2_putBlock_90 0 rfl 92 rfl ?_
    refine r_callV hC (go_V (q := (RX2, TX2, 14)) (As := [.int v1, .int v5, .int (p1 ||| p0)]) (rest := []) hC (ctX2_setColumn (zl z) g M9 b v1 v5 (p1 ||| p0) _ hb hw) 3 gX2_putBlock_X2_setColumn rfl ⟨rfl, rfl⟩ hdV_X2_setColumn ⟨Nat.le_of_ble_eq_true rfl, Nat.le_of_ble_eq_true rfl⟩ hb.ob rfl rfl rfl (Nat.le_of_ble_eq_true rfl) dX2_putBlock_92) 95 rfl (fun M10 hw => ?_)
    refine q_iload hC dX2_putBlock_95 4 rfl 97 rfl ?_
    refine q_iload hC dX2_putBlock_97 0 rfl 99 rfl ?_
    refine q_ixor hC dX2_putBlock_99 100 rfl ?_
    refine q_nameI (fun x11 ex11 => ?_)
    have hw := hw x11 ex11
    refine q_istore (L' := [(4, .int x11), (7, .int (p1 ||| p0)), (0, .ref (gA g b)), (1, .int v1), (3, .int v3), (5, .int v5), (6, .int v6)]) hC dX2_putBlock_100 (by decide) rfl 102 rfl ?_
    refine q_iinc (v := v5 + 1) (L' := [(5, .int (v5 + 1)), (4, .int x11), (7, .int (p1 ||| p0)), (0, .ref (gA g b)), (1, .int v1), (3, .int v3), (6, .int v6)]) hC dX2_putBlock_102 5 rfl rfl (by decide) rfl 105 rfl ?_
    refine q_goto hC 31 dX2_putBlock_105 (by decide) ?_
    exact XX.sub [3, 4, 5, 1, 0] rfl (hK31 M10 x11 (v5 + 1) hw)
  have B31 : ∀ (n : Nat) (M : MM) (v4 : Int32) (v5 : Int32) , wX2_putBlock_31 Q b v1 v2 v3 n M v4 v5 → XX z g Qf 8 31 [(0, .ref (gA g b)), (1, .int v1), (3, .int v3), (4, .int v4), (5, .int v5)] [] M := by
    intro n
    induction n with
    | zero =>
      intro M v4 v5 hw
      exact hw.elim
    | succ n ih =>
      intro M v4 v5 hw
      refine q_iload hC dX2_putBlock_31 4 rfl 33 rfl ?_
      refine q_iload_n hC dX2_putBlock_33 2 rfl 34 rfl ?_
      refine q_icmp_ge hC 108 dX2_putBlock_34 (by decide) 37 rfl hw (fun hw => ?_) (fun hw => ?_)
      · refine q_aload_n hC dX2_putBlock_108 0 rfl 109 rfl ?_
        refine q_iload_n hC dX2_putBlock_109 1 rfl 110 rfl ?_
        refine q_iload_n hC dX2_putBlock_110 2 rfl 111 rfl ?_
        refine q_iload hC dX2_putBlock_111 3 rfl 113 rfl ?_
        refine r_callV hC (go_V (q := (RX2, TX2, 14)) (As := [.int v1, .int v3, .int v4]) (rest := []) hC (ctX2_setColumn (zl z) g M b v1 v3 v4 _ hb hw) 3 gX2_putBlock_X2_setColumn rfl ⟨rfl, rfl⟩ hdV_X2_setColumn ⟨Nat.le_of_ble_eq_true rfl, Nat.le_of_ble_eq_true rfl⟩ hb.ob rfl rfl rfl (Nat.le_of_ble_eq_true rfl) dX2_putBlock_113) 116 rfl (fun M4 hw => ?_)
        exact r_vret hR dX2_putBlock_116 hw
      · refine q_aload_n hC dX2_putBlock_37 0 rfl 38 rfl ?_
        refine q_getR (C := RX2) (T := TX2) (N := 14) (ci := 2) hC inX2_putBlock_X2 hb.ob rfl 5 (by decide) (uX2_putBlock__o _ (List.mem_of_getElem? (l := owX2_putBlock) (i := 4) rfl)) rfl (b + 6) (fun _ => rfl) dX2_putBlock_38 41 rfl ?_
        refine q_iload hC dX2_putBlock_41 4 rfl 43 rfl ?_
        refine r_callI hC (go_N (As := [.ref (gA g (b + 6)), .int v5]) (rest := []) hC (ctX4_cell (zl z) g M (b + 6) v5 _ (hb.ar 6 (by decide) (by decide)) hw) 2 gX2_putBlock_X4_cell_n114 rfl ⟨rfl, rfl⟩ 5 rfl (uX2_putBlock__X2_setColumn _ (List.mem_of_getElem? (l := owX2_setColumn) (i := 3) rfl)) (uX2_putBlock__o _ (List.mem_of_getElem? (l := owX2_putBlock) (i := 6) rfl)) hdT_X4_cell ⟨Nat.le_of_ble_eq_true rfl, Nat.le_of_ble_eq_true rfl⟩ rfl rfl (Nat.le_of_ble_eq_true rfl) dX2_putBlock_43) 46 rfl (fun r5 M6 hw => ?_)
        refine q_istore (L' := [(6, .int r5), (0, .ref (gA g b)), (1, .int v1), (3, .int v3), (4, .int v4), (5, .int v5)]) hC dX2_putBlock_46 (by decide) rfl 48 rfl ?_
        refine q_iload hC dX2_putBlock_48 0 rfl 50 rfl ?_
        refine q_iload hC dX2_putBlock_50 0 rfl 52 rfl ?_
        refine r_callI hC (go_T (As := [.int r5]) (rest := [.int r5]) hC (ctJ6_bitCount_0f7a4 (zl z) g M6 r5 _ hw) 1 gX2_putBlock_J6_bitCount_0f7a4 rfl ⟨rfl, rfl⟩ hdT_J6_bitCount_0f7a4 ⟨Nat.le_of_ble_eq_true rfl, Nat.le_of_ble_eq_true rfl⟩ rfl rfl (Nat.le_of_ble_eq_true rfl) dX2_putBlock_52) 55 rfl (fun r7 M8 hw => ?_)
        refine q_iconst (v := 2) hC dX2_putBlock_55 rfl 56 rfl ?_
        refine q_irem hC dX2_putBlock_56 (by decide) 57 rfl ?_
        refine q_if_ne hC 66 dX2_putBlock_57 (by decide) 60 rfl hw (fun hw => ?_) (fun hw => ?_)
        · refine q_iconst (v := 0) hC dX2_putBlock_66 rfl 67 rfl ?_
          exact XX.sub [1, 2, 3, 4, 5, 0] rfl (B67 _ (fun M v4 v5 hw => ih M v4 v5 hw) M8 v4 v5 r5 0 r5 hw)
        · refine q_sipush (v := 256) hC dX2_putBlock_60 (by decide) 63 rfl ?_
          refine q_goto hC 67 dX2_putBlock_63 (by decide) ?_
          exact XX.sub [1, 2, 3, 4, 5, 0] rfl (B67 _ (fun M v4 v5 hw => ih M v4 v5 hw) M8 v4 v5 r5 256 r5 hw)
  refine q_aload_n hC dX2_putBlock_0 0 rfl 1 rfl ?_
  refine q_iload_n hC dX2_putBlock_1 1 rfl 2 rfl ?_
  refine q_iconst (v := 1) hC dX2_putBlock_2 rfl 3 rfl ?_
  refine q_iadd hC dX2_putBlock_3 4 rfl ?_
  refine q_putI (C := RX2) (T := TX2) (N := 14) (ci := 2) hC inX2_putBlock_X2 tyX2 tyX2_ok nmX2 hb.ob rfl 8 (by decide) (uX2_putBlock__o _ (List.mem_of_getElem? (l := owX2_putBlock) (i := 1) rfl)) rfl rfl rfl (fun _ => Nat.le_of_ble_eq_true rfl) (fun _ => rfl) dX2_putBlock_4 7 rfl (fun M1 eM1 => ?_)
  have hw := hw M1 eM1
  refine q_aload_n hC dX2_putBlock_7 0 rfl 8 rfl ?_
  refine q_getR (C := RX2) (T := TX2) (N := 14) (ci := 2) hC inX2_putBlock_X2 hb.ob rfl 1 (by decide) (uX2_putBlock__o _ (List.mem_of_getElem? (l := owX2_putBlock) (i := 2) rfl)) rfl (b + 2) (fun _ => rfl) dX2_putBlock_8 11 rfl ?_
  refine q_iload_n hC dX2_putBlock_11 1 rfl 12 rfl ?_
  refine q_iload_n hC dX2_putBlock_12 2 rfl 13 rfl ?_
  refine r_callV hC (go_N (As := [.ref (gA g (b + 2)), .int v1, .int v2]) (rest := []) hC (ctX4_setCell (zl z) g M1 (b + 2) v1 v2 _ (hb.ar 2 (by decide) (by decide)) hw) 3 gX2_putBlock_X4_setCell_n139 rfl ⟨rfl, rfl⟩ 7 rfl (uX2_putBlock__X2_setColumn _ (List.mem_of_getElem? (l := owX2_setColumn) (i := 3) rfl)) (uX2_putBlock__X2_setColumn _ (List.mem_of_getElem? (l := owX2_setColumn) (i := 2) rfl)) hdT_X4_setCell ⟨Nat.le_of_ble_eq_true rfl, Nat.le_of_ble_eq_true rfl⟩ rfl rfl (Nat.le_of_ble_eq_true rfl) dX2_putBlock_13) 16 rfl (fun M2 hw => ?_)
  refine q_aload_n hC dX2_putBlock_16 0 rfl 17 rfl ?_
  refine q_getR (C := RX2) (T := TX2) (N := 14) (ci := 2) hC inX2_putBlock_X2 hb.ob rfl 2 (by decide) (uX2_putBlock__o _ (List.mem_of_getElem? (l := owX2_putBlock) (i := 3) rfl)) rfl (b + 3) (fun _ => rfl) dX2_putBlock_17 20 rfl ?_
  refine q_iload_n hC dX2_putBlock_20 1 rfl 21 rfl ?_
  refine q_iload_n hC dX2_putBlock_21 3 rfl 22 rfl ?_
  refine r_callV hC (go_N (As := [.ref (gA g (b + 3)), .int v1, .int v3]) (rest := []) hC (ctX4_setCell (zl z) g M2 (b + 3) v1 v3 _ (hb.ar 3 (by decide) (by decide)) hw) 3 gX2_putBlock_X4_setCell_n139 rfl ⟨rfl, rfl⟩ 7 rfl (uX2_putBlock__X2_setColumn _ (List.mem_of_getElem? (l := owX2_setColumn) (i := 3) rfl)) (uX2_putBlock__X2_setColumn _ (List.mem_of_getElem? (l := owX2_setColumn) (i := 2) rfl)) hdT_X4_setCell ⟨Nat.le_of_ble_eq_true rfl, Nat.le_of_ble_eq_true rfl⟩ rfl rfl (Nat.le_of_ble_eq_true rfl) dX2_putBlock_22) 25 rfl (fun M3 hw => ?_)
  refine q_iconst (v := 0) hC dX2_putBlock_25 rfl 26 rfl ?_
  refine q_istore (L' := [(4, .int 0), (0, .ref (gA g b)), (1, .int v1), (2, .int v2), (3, .int v3)]) hC dX2_putBlock_26 (by decide) rfl 28 rfl ?_
  refine q_iconst (v := 0) hC dX2_putBlock_28 rfl 29 rfl ?_
  refine q_istore (L' := [(5, .int 0), (4, .int 0), (0, .ref (gA g b)), (1, .int v1), (2, .int v2), (3, .int v3)]) hC dX2_putBlock_29 (by decide) rfl 31 rfl ?_
  obtain ⟨n0, hw⟩ := hw
  exact XX.sub [2, 3, 5, 1, 0] rfl (B31 n0 M3 0 0 hw)
theorem hdV_X2_putBlock : yX2_putBlock.cls = RX2 ∧ yX2_putBlock.cls ≠ "java/lang/invoke/MethodHandle" ∧ yX2_putBlock.cls ≠ "java/lang/invoke/VarHandle" ∧ (parseMethodDescriptor yX2_putBlock.desc).map (fun d => d.parameters.length) = some 3 := by decide +kernel
theorem inX2_writeAt_X2 : ∀ w ∈ u_ws RX2 TX2 14, w ∈ wsX2_writeAt := uX2_writeAt__wsX20
set_option maxRecDepth 100000 in
set_option maxHeartbeats 4000000 in
theorem ctX2_writeAt (l : Launch) (g : GG) (M : MM) (b : Nat) (v1 : Int32) (v2 : Int32) (Q : Int32 → MM → Prop) (hb : tpl g b) (hw : wX2_writeAt Q M b v1 v2) : MI g l yX2_writeAt wsX2_writeAt (rmOf 4 93) [.ref (gA g b), .int v1, .int v2] M Q := by
  refine mk_MI (cc := cX2_writeAt) (maxL := 5) (by decide) rfl (Nat.le_of_ble_eq_true rfl) ?_
  intro z Qf hC hR
  show XX z g Qf 5 0 [(0, .ref (gA g b)), (1, .int v1), (2, .int v2)] [] M
  refine q_aload_n hC dX2_writeAt_0 0 rfl 1 rfl ?_
  refine q_iload_n hC dX2_writeAt_1 1 rfl 2 rfl ?_
  refine r_callI hC (go_V (q := (RX2, TX2, 14)) (As := [.int v1]) (rest := []) hC (ctX2_beginningAt (zl z) g M b v1 _ hb hw) 1 gX2_writeAt_X2_beginningAt rfl ⟨rfl, rfl⟩ hdV_X2_beginningAt ⟨Nat.le_of_ble_eq_true rfl, Nat.le_of_ble_eq_true rfl⟩ hb.ob rfl rfl rfl (Nat.le_of_ble_eq_true rfl) dX2_writeAt_2) 5 rfl (fun r1 M2 hw => ?_)
  refine q_istore_n (L' := [(3, .int r1), (0, .ref (gA g b)), (1, .int v1), (2, .int v2)]) hC dX2_writeAt_5 (by decide) rfl 6 rfl ?_
  refine q_aload_n hC dX2_writeAt_6 1 rfl 7 rfl ?_
  refine q_aload_n hC dX2_writeAt_7 1 rfl 8 rfl ?_
  refine q_getI (C := RX2) (T := TX2) (N := 14) (ci := 2) hC inX2_writeAt_X2 hb.ob rfl 9 (by decide) (uX2_writeAt__o _ (List.mem_of_getElem? (l := owX2_writeAt) (i := 1) rfl)) rfl (fun _ => rfl) dX2_writeAt_8 11 rfl ?_
  refine q_iload_n hC dX2_writeAt_11 0 rfl 12 rfl ?_
  refine r_callI hC (go_V (q := (RX2, TX2, 14)) (As := [.int (M2 b 9), .int r1]) (rest := []) hC (ctX2_sooner (zl z) g M2 b (M2 b 9) r1 _ hb hw) 2 gX2_writeAt_X2_sooner rfl ⟨rfl, rfl⟩ hdV_X2_sooner ⟨Nat.le_of_ble_eq_true rfl, Nat.le_of_ble_eq_true rfl⟩ hb.ob rfl rfl rfl (Nat.le_of_ble_eq_true rfl) dX2_writeAt_12) 15 rfl (fun r3 M4 hw => ?_)
  refine q_aload_n hC dX2_writeAt_15 1 rfl 16 rfl ?_
  refine q_aload_n hC dX2_writeAt_16 1 rfl 17 rfl ?_
  refine q_iload_n hC dX2_writeAt_17 3 rfl 18 rfl ?_
  refine r_callI hC (go_V (q := (RX2, TX2, 14)) (As := [.int v2]) (rest := [.ref (gA g b), .int r3]) hC (ctX2_longWith (zl z) g M4 b v2 _ hb hw) 1 gX2_writeAt_X2_longWith rfl ⟨rfl, rfl⟩ hdV_X2_longWith ⟨Nat.le_of_ble_eq_true rfl, Nat.le_of_ble_eq_true rfl⟩ hb.ob rfl rfl rfl (Nat.le_of_ble_eq_true rfl) dX2_writeAt_18) 21 rfl (fun r5 M6 hw => ?_)
  refine r_callI hC (go_V (q := (RX2, TX2, 14)) (As := [.int r5]) (rest := [.int r3]) hC (ctX2_playedThrough (zl z) g M6 b r5 _ hb hw) 1 gX2_writeAt_X2_playedThrough rfl ⟨rfl, rfl⟩ hdV_X2_playedThrough ⟨Nat.le_of_ble_eq_true rfl, Nat.le_of_ble_eq_true rfl⟩ hb.ob rfl rfl rfl (Nat.le_of_ble_eq_true rfl) dX2_writeAt_21) 24 rfl (fun r7 M8 hw => ?_)
  refine q_iadd hC dX2_writeAt_24 25 rfl ?_
  refine q_istore (L' := [(4, .int (r3 + r7)), (3, .int r1), (0, .ref (gA g b)), (1, .int v1), (2, .int v2)]) hC dX2_writeAt_25 (by decide) rfl 27 rfl ?_
  refine q_aload_n hC dX2_writeAt_27 2 rfl 28 rfl ?_
  refine q_iload_n hC dX2_writeAt_28 3 rfl 29 rfl ?_
  refine q_iload_n hC dX2_writeAt_29 1 rfl 30 rfl ?_
  refine q_iload_n hC dX2_writeAt_30 4 rfl 31 rfl ?_
  refine r_callV hC (go_V (q := (RX2, TX2, 14)) (As := [.int v1, .int r1, .int v2]) (rest := []) hC (ctX2_putBlock (zl z) g M8 b v1 r1 v2 _ hb hw) 3 gX2_writeAt_X2_putBlock rfl ⟨rfl, rfl⟩ hdV_X2_putBlock ⟨Nat.le_of_ble_eq_true rfl, Nat.le_of_ble_eq_true rfl⟩ hb.ob rfl rfl rfl (Nat.le_of_ble_eq_true rfl) dX2_writeAt_31) 34 rfl (fun M9 hw => ?_)
  refine q_aload_n hC dX2_writeAt_34 2 rfl 35 rfl ?_
  refine q_aload_n hC dX2_writeAt_35 2 rfl 36 rfl ?_
  refine q_iload_n hC dX2_writeAt_36 3 rfl 37 rfl ?_
  refine r_callI hC (go_V (q := (RX2, TX2, 14)) (As := [.int v1]) (rest := [.ref (gA g b)]) hC (ctX2_endOf (zl z) g M9 b v1 _ hb hw) 1 gX2_writeAt_X2_endOf rfl ⟨rfl, rfl⟩ hdV_X2_endOf ⟨Nat.le_of_ble_eq_true rfl, Nat.le_of_ble_eq_true rfl⟩ hb.ob rfl rfl rfl (Nat.le_of_ble_eq_true rfl) dX2_writeAt_37) 40 rfl (fun r10 M11 hw => ?_)
  refine q_putI (C := RX2) (T := TX2) (N := 14) (ci := 2) hC inX2_writeAt_X2 tyX2 tyX2_ok nmX2 hb.ob rfl 9 (by decide) (uX2_writeAt__o _ (List.mem_of_getElem? (l := owX2_writeAt) (i := 1) rfl)) rfl rfl rfl (fun _ => Nat.le_of_ble_eq_true rfl) (fun _ => rfl) dX2_writeAt_40 43 rfl (fun M12 eM12 => ?_)
  have hw := hw M12 eM12
  refine q_aload_n hC dX2_writeAt_43 2 rfl 44 rfl ?_
  refine q_dup hC dX2_writeAt_44 rfl 45 rfl ?_
  refine q_getI (C := RX2) (T := TX2) (N := 14) (ci := 2) hC inX2_writeAt_X2 hb.ob rfl 10 (by decide) (uX2_writeAt__o _ (List.mem_of_getElem? (l := owX2_writeAt) (i := 2) rfl)) rfl (fun _ => rfl) dX2_writeAt_45 48 rfl ?_
  refine q_iload hC dX2_writeAt_48 0 rfl 50 rfl ?_
  refine q_iadd hC dX2_writeAt_50 51 rfl ?_
  refine q_putI (C := RX2) (T := TX2) (N := 14) (ci := 2) hC inX2_writeAt_X2 tyX2 tyX2_ok nmX2 hb.ob rfl 10 (by decide) (uX2_writeAt__o _ (List.mem_of_getElem? (l := owX2_writeAt) (i := 2) rfl)) rfl rfl rfl (fun _ => Nat.le_of_ble_eq_true rfl) (fun _ => rfl) dX2_writeAt_51 54 rfl (fun M13 eM13 => ?_)
  have hw := hw M13 eM13
  refine q_iload hC dX2_writeAt_54 0 rfl 56 rfl ?_
  exact r_iret hR dX2_writeAt_56 hw
theorem inX2_layOutBlocks_X2 : ∀ w ∈ u_ws RX2 TX2 14, w ∈ wsX2_layOutBlocks := uX2_layOutBlocks__wsX20
set_option maxRecDepth 100000 in
set_option maxHeartbeats 4000000 in
theorem ctX2_layOutBlocks (l : Launch) (g : GG) (M : MM) (b : Nat) (Q : MM → Prop) (hb : tpl g b) (hw : wX2_layOutBlocks Q M b) : MV g l yX2_layOutBlocks wsX2_layOutBlocks (rmOf 4 85) [.ref (gA g b)] M Q := by
  refine mk_MV (cc := cX2_layOutBlocks) (maxL := 2) (by decide) rfl (Nat.le_of_ble_eq_true rfl) ?_
  intro z Qf hC hR
  show XX z g Qf 2 0 [(0, .ref (gA g b))] [] M
  have B2 : ∀ (n : Nat) (M : MM) (v1 : Int32) , wX2_layOutBlocks_2 Q b n M v1 → XX z g Qf 2 2 [(0, .ref (gA g b)), (1, .int v1)] [] M := by
    intro n
    induction n with
    | zero =>
      intro M v1 hw
      exact hw.elim
    | succ n ih =>
      intro M v1 hw
      refine q_iload_n hC dX2_layOutBlocks_2 1 rfl 3 rfl ?_
      refine q_aload_n hC dX2_layOutBlocks_3 0 rfl 4 rfl ?_
      refine q_getI (C := RX2) (T := TX2) (N := 14) (ci := 2) hC inX2_layOutBlocks_X2 hb.ob rfl 8 (by decide) (uX2_layOutBlocks__X2_hasBlock _ (List.mem_of_getElem? (l := owX2_hasBlock) (i := 1) rfl)) rfl (fun _ => rfl) dX2_layOutBlocks_4 7 rfl ?_
      refine q_icmp_ge hC 29 dX2_layOutBlocks_7 (by decide) 10 rfl hw (fun hw => ?_) (fun hw => ?_)
      · exact r_vret hR dX2_layOutBlocks_29 hw
      · refine q_aload_n hC dX2_layOutBlocks_10 0 rfl 11 rfl ?_
        refine q_getR (C := RX2) (T := TX2) (N := 14) (ci := 2) hC inX2_layOutBlocks_X2 hb.ob rfl 1 (by decide) (uX2_layOutBlocks__X2_beginOf _ (List.mem_of_getElem? (l := owX2_beginOf) (i := 1) rfl)) rfl (b + 2) (fun _ => rfl) dX2_layOutBlocks_11 14 rfl ?_
        refine q_iload_n hC dX2_layOutBlocks_14 1 rfl 15 rfl ?_
        refine q_aload_n hC dX2_layOutBlocks_15 0 rfl 16 rfl ?_
        refine q_iload_n hC dX2_layOutBlocks_16 1 rfl 17 rfl ?_
        refine r_callI hC (go_V (q := (RX2, TX2, 14)) (As := [.int v1]) (rest := [.int v1, .ref (gA g (b + 2))]) hC (ctX2_beginningAt (zl z) g M b v1 _ hb hw) 1 gX2_layOutBlocks_X2_beginningAt rfl ⟨rfl, rfl⟩ hdV_X2_beginningAt ⟨Nat.le_of_ble_eq_true rfl, Nat.le_of_ble_eq_true rfl⟩ hb.ob rfl rfl rfl (Nat.le_of_ble_eq_true rfl) dX2_layOutBlocks_17) 20 rfl (fun r1 M2 hw => ?_)
        refine r_callV hC (go_N (As := [.ref (gA g (b + 2)), .int v1, .int r1]) (rest := []) hC (ctX4_setCell (zl z) g M2 (b + 2) v1 r1 _ (hb.ar 2 (by decide) (by decide)) hw) 3 gX2_layOutBlocks_X4_setCell_n139 rfl ⟨rfl, rfl⟩ 7 rfl (uX2_layOutBlocks__X2_hasBlock _ (List.mem_of_getElem? (l := owX2_hasBlock) (i := 3) rfl)) (uX2_layOutBlocks__o _ (List.mem_of_getElem? (l := owX2_layOutBlocks) (i := 4) rfl)) hdT_X4_setCell ⟨Nat.le_of_ble_eq_true rfl, Nat.le_of_ble_eq_true rfl⟩ rfl rfl (Nat.le_of_ble_eq_true rfl) dX2_layOutBlocks_20) 23 rfl (fun M3 hw => ?_)
        refine q_iinc (v := v1 + 1) (L' := [(1, .int (v1 + 1)), (0, .ref (gA g b))]) hC dX2_layOutBlocks_23 1 rfl rfl (by decide) rfl 26 rfl ?_
        refine q_goto hC 2 dX2_layOutBlocks_26 (by decide) ?_
        exact XX.sub [1, 0] rfl (ih M3 (v1 + 1) hw)
  refine q_iconst (v := 0) hC dX2_layOutBlocks_0 rfl 1 rfl ?_
  refine q_istore_n (L' := [(1, .int 0), (0, .ref (gA g b))]) hC dX2_layOutBlocks_1 (by decide) rfl 2 rfl ?_
  obtain ⟨n0, hw⟩ := hw
  exact XX.sub [1, 0] rfl (B2 n0 M 0 hw)
theorem inX2_columnOf_X2 : ∀ w ∈ u_ws RX2 TX2 14, w ∈ wsX2_columnOf := uX2_columnOf__wsX20
set_option maxRecDepth 100000 in
set_option maxHeartbeats 4000000 in
theorem ctX2_columnOf (l : Launch) (g : GG) (M : MM) (b : Nat) (v1 : Int32) (v2 : Int32) (Q : Int32 → MM → Prop) (hb : tpl g b) (hw : wX2_columnOf Q M b v1 v2) : MI g l yX2_columnOf wsX2_columnOf (rmOf 1 21) [.ref (gA g b), .int v1, .int v2] M Q := by
  refine mk_MI (cc := cX2_columnOf) (maxL := 3) (by decide) rfl (Nat.le_of_ble_eq_true rfl) ?_
  intro z Qf hC hR
  show XX z g Qf 3 0 [(0, .ref (gA g b)), (1, .int v1), (2, .int v2)] [] M
  refine q_aload_n hC dX2_columnOf_0 0 rfl 1 rfl ?_
  refine q_getR (C := RX2) (T := TX2) (N := 14) (ci := 2) hC inX2_columnOf_X2 hb.ob rfl 3 (by decide) (uX2_columnOf__o _ (List.mem_of_getElem? (l := owX2_columnOf) (i := 1) rfl)) rfl (b + 4) (fun _ => rfl) dX2_columnOf_1 4 rfl ?_
  refine q_iload_n hC dX2_columnOf_4 1 rfl 5 rfl ?_
  refine q_bipush (v := 13) hC dX2_columnOf_5 (by decide) 7 rfl ?_
  refine q_imul hC dX2_columnOf_7 8 rfl ?_
  refine q_iload_n hC dX2_columnOf_8 2 rfl 9 rfl ?_
  refine q_iadd hC dX2_columnOf_9 10 rfl ?_
  refine r_callI hC (go_N (As := [.ref (gA g (b + 4)), .int ((v1 * (13 : Int32)) + v2)]) (rest := []) hC (ctX4_cell (zl z) g M (b + 4) ((v1 * (13 : Int32)) + v2) _ (hb.ar 4 (by decide) (by decide)) hw) 2 gX2_columnOf_X4_cell_n114 rfl ⟨rfl, rfl⟩ 5 rfl (uX2_columnOf__o _ (List.mem_of_getElem? (l := owX2_columnOf) (i := 3) rfl)) (uX2_columnOf__o _ (List.mem_of_getElem? (l := owX2_columnOf) (i := 2) rfl)) hdT_X4_cell ⟨Nat.le_of_ble_eq_true rfl, Nat.le_of_ble_eq_true rfl⟩ rfl rfl (Nat.le_of_ble_eq_true rfl) dX2_columnOf_10) 13 rfl (fun r1 M2 hw => ?_)
  exact r_iret hR dX2_columnOf_13 hw
theorem inX2_originalOf_X2 : ∀ w ∈ u_ws RX2 TX2 14, w ∈ wsX2_originalOf := uX2_originalOf__wsX20
set_option maxRecDepth 100000 in
set_option maxHeartbeats 4000000 in
theorem ctX2_originalOf (l : Launch) (g : GG) (M : MM) (b : Nat) (v1 : Int32) (v2 : Int32) (Q : Int32 → MM → Prop) (hb : tpl g b) (hw : wX2_originalOf Q M b v1 v2) : MI g l yX2_originalOf wsX2_originalOf (rmOf 1 21) [.ref (gA g b), .int v1, .int v2] M Q := by
  refine mk_MI (cc := cX2_originalOf) (maxL := 3) (by decide) rfl (Nat.le_of_ble_eq_true rfl) ?_
  intro z Qf hC hR
  show XX z g Qf 3 0 [(0, .ref (gA g b)), (1, .int v1), (2, .int v2)] [] M
  refine q_aload_n hC dX2_originalOf_0 0 rfl 1 rfl ?_
  refine q_getR (C := RX2) (T := TX2) (N := 14) (ci := 2) hC inX2_originalOf_X2 hb.ob rfl 4 (by decide) (uX2_originalOf__o _ (List.mem_of_getElem? (l := owX2_originalOf) (i := 1) rfl)) rfl (b + 5) (fun _ => rfl) dX2_originalOf_1 4 rfl ?_
  refine q_iload_n hC dX2_originalOf_4 1 rfl 5 rfl ?_
  refine q_bipush (v := 12) hC dX2_originalOf_5 (by decide) 7 rfl ?_
  refine q_imul hC dX2_originalOf_7 8 rfl ?_
  refine q_iload_n hC dX2_originalOf_8 2 rfl 9 rfl ?_
  refine q_iadd hC dX2_originalOf_9 10 rfl ?_
  refine r_callI hC (go_N (As := [.ref (gA g (b + 5)), .int ((v1 * (12 : Int32)) + v2)]) (rest := []) hC (ctX4_cell (zl z) g M (b + 5) ((v1 * (12 : Int32)) + v2) _ (hb.ar 5 (by decide) (by decide)) hw) 2 gX2_originalOf_X4_cell_n114 rfl ⟨rfl, rfl⟩ 5 rfl (uX2_originalOf__o _ (List.mem_of_getElem? (l := owX2_originalOf) (i := 3) rfl)) (uX2_originalOf__o _ (List.mem_of_getElem? (l := owX2_originalOf) (i := 2) rfl)) hdT_X4_cell ⟨Nat.le_of_ble_eq_true rfl, Nat.le_of_ble_eq_true rfl⟩ rfl rfl (Nat.le_of_ble_eq_true rfl) dX2_originalOf_10) 13 rfl (fun r1 M2 hw => ?_)
  exact r_iret hR dX2_originalOf_13 hw
theorem hdV_X2_columnOf : yX2_columnOf.cls = RX2 ∧ yX2_columnOf.cls ≠ "java/lang/invoke/MethodHandle" ∧ yX2_columnOf.cls ≠ "java/lang/invoke/VarHandle" ∧ (parseMethodDescriptor yX2_columnOf.desc).map (fun d => d.parameters.length) = some 2 := by decide +kernel
theorem hdV_X2_originalOf : yX2_originalOf.cls = RX2 ∧ yX2_originalOf.cls ≠ "java/lang/invoke/MethodHandle" ∧ yX2_originalOf.cls ≠ "java/lang/invoke/VarHandle" ∧ (parseMethodDescriptor yX2_originalOf.desc).map (fun d => d.parameters.length) = some 2 := by decide +kernel
theorem inX2_moveBlock_X2 : ∀ w ∈ u_ws RX2 TX2 14, w ∈ wsX2_moveBlock := uX2_moveBlock__wsX20
set_option maxRecDepth 100000 in
set_option maxHeartbeats 4000000 in
theorem ctX2_moveBlock (l : Launch) (g : GG) (M : MM) (b : Nat) (v1 : Int32) (v2 : Int32) (v3 : Int32) (Q : MM → Prop) (hb : tpl g b) (hw : wX2_moveBlock Q M b v1 v2 v3) : MV g l yX2_moveBlock wsX2_moveBlock (rmOf 2 45) [.ref (gA g b), .int v1, .int v2, .int v3] M Q := by
  refine mk_MV (cc := cX2_moveBlock) (maxL := 5) (by decide) rfl (Nat.le_of_ble_eq_true rfl) ?_
  intro z Qf hC hR
  show XX z g Qf 5 0 [(0, .ref (gA g b)), (1, .int v1), (2, .int v2), (3, .int v3)] [] M
  have B61 : ∀ (n : Nat) (M : MM) (v4 : Int32) , wX2_moveBlock_61 Q b v1 v2 v3 n M v4 → XX z g Qf 5 61 [(0, .ref (gA g b)), (1, .int v1), (2, .int v2), (4, .int v4)] [] M := by
    intro n
    induction n with
    | zero =>
      intro M v4 hw
      exact hw.elim
    | succ n ih =>
      intro M v4 hw
      refine q_iload hC dX2_moveBlock_61 3 rfl 63 rfl ?_
      refine q_bipush (v := 12) hC dX2_moveBlock_63 (by decide) 65 rfl ?_
      refine q_icmp_ge hC 95 dX2_moveBlock_65 (by decide) 68 rfl hw (fun hw => ?_) (fun hw => ?_)
      · exact r_vret hR dX2_moveBlock_95 hw
      · refine q_aload_n hC dX2_moveBlock_68 0 rfl 69 rfl ?_
        refine q_getR (C := RX2) (T := TX2) (N := 14) (ci := 2) hC inX2_moveBlock_X2 hb.ob rfl 4 (by decide) (uX2_moveBlock__X2_originalOf _ (List.mem_of_getElem? (l := owX2_originalOf) (i := 1) rfl)) rfl (b + 5) (fun _ => rfl) dX2_moveBlock_69 72 rfl ?_
        refine q_iload_n hC dX2_moveBlock_72 2 rfl 73 rfl ?_
        refine q_bipush (v := 12) hC dX2_moveBlock_73 (by decide) 75 rfl ?_
        refine q_imul hC dX2_moveBlock_75 76 rfl ?_
        refine q_iload hC dX2_moveBlock_76 3 rfl 78 rfl ?_
        refine q_iadd hC dX2_moveBlock_78 79 rfl ?_
        refine q_aload_n hC dX2_moveBlock_79 0 rfl 80 rfl ?_
        refine q_iload_n hC dX2_moveBlock_80 1 rfl 81 rfl ?_
        refine q_iload hC dX2_moveBlock_81 3 rfl 83 rfl ?_
        refine r_callI hC (go_V (q := (RX2, TX2, 14)) (As := [.int v1, .int v4]) (rest := [.int ((v2 * (12 : Int32)) + v4), .ref (gA g (b + 5))]) hC (ctX2_originalOf (zl z) g M b v1 v4 _ hb hw) 2 gX2_moveBlock_X2_originalOf rfl ⟨rfl, rfl⟩ hdV_X2_originalOf ⟨Nat.le_of_ble_eq_true rfl, Nat.le_of_ble_eq_true rfl⟩ hb.ob rfl rfl rfl (Nat.le_of_ble_eq_true rfl) dX2_moveBlock_83) 86 rfl (fun r10 M11 hw => ?_)
        refine r_callV hC (go_N (As := [.ref (gA g (b + 5)), .int ((v2 * (12 : Int32)) + v4), .int r10]) (rest := []) hC (ctX4_setCell (zl z) g M11 (b + 5) ((v2 * (12 : Int32)) + v4) r10 _ (hb.ar 5 (by decide) (by decide)) hw) 3 gX2_moveBlock_X4_setCell_n139 rfl ⟨rfl, rfl⟩ 7 rfl (uX2_moveBlock__X2_beginOf _ (List.mem_of_getElem? (l := owX2_beginOf) (i := 3) rfl)) (uX2_moveBlock__X2_setColumn _ (List.mem_of_getElem? (l := owX2_setColumn) (i := 2) rfl)) hdT_X4_setCell ⟨Nat.le_of_ble_eq_true rfl, Nat.le_of_ble_eq_true rfl⟩ rfl rfl (Nat.le_of_ble_eq_true rfl) dX2_moveBlock_86) 89 rfl (fun M12 hw => ?_)
        refine q_iinc (v := v4 + 1) (L' := [(4, .int (v4 + 1)), (0, .ref (gA g b)), (1, .int v1), (2, .int v2)]) hC dX2_moveBlock_89 3 rfl rfl (by decide) rfl 92 rfl ?_
        refine q_goto hC 61 dX2_moveBlock_92 (by decide) ?_
        exact XX.sub [1, 2, 3, 0] rfl (ih M12 (v4 + 1) hw)
  have B31 : ∀ (n : Nat) (M : MM) (v4 : Int32) , wX2_moveBlock_31 Q b v1 v2 v3 n M v4 → XX z g Qf 5 31 [(0, .ref (gA g b)), (1, .int v1), (2, .int v2), (4, .int v4)] [] M := by
    intro n
    induction n with
    | zero =>
      intro M v4 hw
      exact hw.elim
    | succ n ih =>
      intro M v4 hw
      refine q_iload hC dX2_moveBlock_31 3 rfl 33 rfl ?_
      refine q_bipush (v := 13) hC dX2_moveBlock_33 (by decide) 35 rfl ?_
      refine q_icmp_ge hC 58 dX2_moveBlock_35 (by decide) 38 rfl hw (fun hw => ?_) (fun hw => ?_)
      · refine q_iconst (v := 0) hC dX2_moveBlock_58 rfl 59 rfl ?_
        refine q_istore (L' := [(4, .int 0), (0, .ref (gA g b)), (1, .int v1), (2, .int v2)]) hC dX2_moveBlock_59 (by decide) rfl 61 rfl ?_
        obtain ⟨n0, hw⟩ := hw
        exact XX.sub [1, 2, 3, 0] rfl (B61 n0 M 0 hw)
      · refine q_aload_n hC dX2_moveBlock_38 0 rfl 39 rfl ?_
        refine q_iload_n hC dX2_moveBlock_39 2 rfl 40 rfl ?_
        refine q_iload hC dX2_moveBlock_40 3 rfl 42 rfl ?_
        refine q_aload_n hC dX2_moveBlock_42 0 rfl 43 rfl ?_
        refine q_iload_n hC dX2_moveBlock_43 1 rfl 44 rfl ?_
        refine q_iload hC dX2_moveBlock_44 3 rfl 46 rfl ?_
        refine r_callI hC (go_V (q := (RX2, TX2, 14)) (As := [.int v1, .int v4]) (rest := [.int v4, .int v2, .ref (gA g b)]) hC (ctX2_columnOf (zl z) g M b v1 v4 _ hb hw) 2 gX2_moveBlock_X2_columnOf rfl ⟨rfl, rfl⟩ hdV_X2_columnOf ⟨Nat.le_of_ble_eq_true rfl, Nat.le_of_ble_eq_true rfl⟩ hb.ob rfl rfl rfl (Nat.le_of_ble_eq_true rfl) dX2_moveBlock_46) 49 rfl (fun r7 M8 hw => ?_)
        refine r_callV hC (go_V (q := (RX2, TX2, 14)) (As := [.int v2, .int v4, .int r7]) (rest := []) hC (ctX2_setColumn (zl z) g M8 b v2 v4 r7 _ hb hw) 3 gX2_moveBlock_X2_setColumn rfl ⟨rfl, rfl⟩ hdV_X2_setColumn ⟨Nat.le_of_ble_eq_true rfl, Nat.le_of_ble_eq_true rfl⟩ hb.ob rfl rfl rfl (Nat.le_of_ble_eq_true rfl) dX2_moveBlock_49) 52 rfl (fun M9 hw => ?_)
        refine q_iinc (v := v4 + 1) (L' := [(4, .int (v4 + 1)), (0, .ref (gA g b)), (1, .int v1), (2, .int v2)]) hC dX2_moveBlock_52 3 rfl rfl (by decide) rfl 55 rfl ?_
        refine q_goto hC 31 dX2_moveBlock_55 (by decide) ?_
        exact XX.sub [1, 2, 3, 0] rfl (ih M9 (v4 + 1) hw)
  refine q_aload_n hC dX2_moveBlock_0 0 rfl 1 rfl ?_
  refine q_getR (C := RX2) (T := TX2) (N := 14) (ci := 2) hC inX2_moveBlock_X2 hb.ob rfl 1 (by decide) (uX2_moveBlock__X2_beginOf _ (List.mem_of_getElem? (l := owX2_beginOf) (i := 1) rfl)) rfl (b + 2) (fun _ => rfl) dX2_moveBlock_1 4 rfl ?_
  refine q_iload_n hC dX2_moveBlock_4 2 rfl 5 rfl ?_
  refine q_aload_n hC dX2_moveBlock_5 0 rfl 6 rfl ?_
  refine q_iload_n hC dX2_moveBlock_6 1 rfl 7 rfl ?_
  refine r_callI hC (go_V (q := (RX2, TX2, 14)) (As := [.int v1]) (rest := [.int v2, .ref (gA g (b + 2))]) hC (ctX2_beginOf (zl z) g M b v1 _ hb hw) 1 gX2_moveBlock_X2_beginOf rfl ⟨rfl, rfl⟩ hdV_X2_beginOf ⟨Nat.le_of_ble_eq_true rfl, Nat.le_of_ble_eq_true rfl⟩ hb.ob rfl rfl rfl (Nat.le_of_ble_eq_true rfl) dX2_moveBlock_7) 10 rfl (fun r1 M2 hw => ?_)
  refine q_iload_n hC dX2_moveBlock_10 3 rfl 11 rfl ?_
  refine q_isub hC dX2_moveBlock_11 12 rfl ?_
  refine r_callV hC (go_N (As := [.ref (gA g (b + 2)), .int v2, .int (r1 - v3)]) (rest := []) hC (ctX4_setCell (zl z) g M2 (b + 2) v2 (r1 - v3) _ (hb.ar 2 (by decide) (by decide)) hw) 3 gX2_moveBlock_X4_setCell_n139 rfl ⟨rfl, rfl⟩ 7 rfl (uX2_moveBlock__X2_beginOf _ (List.mem_of_getElem? (l := owX2_beginOf) (i := 3) rfl)) (uX2_moveBlock__X2_setColumn _ (List.mem_of_getElem? (l := owX2_setColumn) (i := 2) rfl)) hdT_X4_setCell ⟨Nat.le_of_ble_eq_true rfl, Nat.le_of_ble_eq_true rfl⟩ rfl rfl (Nat.le_of_ble_eq_true rfl) dX2_moveBlock_12) 15 rfl (fun M3 hw => ?_)
  refine q_aload_n hC dX2_moveBlock_15 0 rfl 16 rfl ?_
  refine q_getR (C := RX2) (T := TX2) (N := 14) (ci := 2) hC inX2_moveBlock_X2 hb.ob rfl 2 (by decide) (uX2_moveBlock__X2_sizeOf _ (List.mem_of_getElem? (l := owX2_sizeOf) (i := 1) rfl)) rfl (b + 3) (fun _ => rfl) dX2_moveBlock_16 19 rfl ?_
  refine q_iload_n hC dX2_moveBlock_19 2 rfl 20 rfl ?_
  refine q_aload_n hC dX2_moveBlock_20 0 rfl 21 rfl ?_
  refine q_iload_n hC dX2_moveBlock_21 1 rfl 22 rfl ?_
  refine r_callI hC (go_V (q := (RX2, TX2, 14)) (As := [.int v1]) (rest := [.int v2, .ref (gA g (b + 3))]) hC (ctX2_sizeOf (zl z) g M3 b v1 _ hb hw) 1 gX2_moveBlock_X2_sizeOf rfl ⟨rfl, rfl⟩ hdV_X2_sizeOf ⟨Nat.le_of_ble_eq_true rfl, Nat.le_of_ble_eq_true rfl⟩ hb.ob rfl rfl rfl (Nat.le_of_ble_eq_true rfl) dX2_moveBlock_22) 25 rfl (fun r4 M5 hw => ?_)
  refine r_callV hC (go_N (As := [.ref (gA g (b + 3)), .int v2, .int r4]) (rest := []) hC (ctX4_setCell (zl z) g M5 (b + 3) v2 r4 _ (hb.ar 3 (by decide) (by decide)) hw) 3 gX2_moveBlock_X4_setCell_n139 rfl ⟨rfl, rfl⟩ 7 rfl (uX2_moveBlock__X2_beginOf _ (List.mem_of_getElem? (l := owX2_beginOf) (i := 3) rfl)) (uX2_moveBlock__X2_setColumn _ (List.mem_of_getElem? (l := owX2_setColumn) (i := 2) rfl)) hdT_X4_setCell ⟨Nat.le_of_ble_eq_true rfl, Nat.le_of_ble_eq_true rfl⟩ rfl rfl (Nat.le_of_ble_eq_true rfl) dX2_moveBlock_25) 28 rfl (fun M6 hw => ?_)
  refine q_iconst (v := 0) hC dX2_moveBlock_28 rfl 29 rfl ?_
  refine q_istore (L' := [(4, .int 0), (0, .ref (gA g b)), (1, .int v1), (2, .int v2), (3, .int v3)]) hC dX2_moveBlock_29 (by decide) rfl 31 rfl ?_
  obtain ⟨n0, hw⟩ := hw
  exact XX.sub [1, 2, 3, 0] rfl (B31 n0 M6 0 hw)
