set_option maxRecDepth 100000 in
set_option maxHeartbeats 4000000 in
theorem ctX2_hasColumn (l : Launch) (g : GG) (M : MM) (b : Nat) (v1 : Int32) (v2 : Int32) (Q : Int32 → MM → Prop) (hb : tpl g b) (hw : wX2_hasColumn Q M b v1 v2) : MI g l yX2_hasColumn wsX2_hasColumn (rmOf 3 63) [.ref (gA g b), .int v1, .int v2] M Q := by
  refine mk_MZ (cc := cX2_hasColumn) (maxL := 3) (by decide) rfl (Nat.le_of_ble_eq_true rfl) ?_
  intro z Qf hC hR
  show XX z g Qf 3 0 [(0, .ref (gA g b)), (1, .int v1), (2, .int v2)] [] M
  have B33 : ∀ (M : MM), wX2_hasColumn_33 Q b v1 v2 M → XX z g Qf 3 33 [] [] M := by
    intro M hw
    refine q_iconst (v := 0) hC dX2_hasColumn_33 rfl 34 rfl ?_
    exact r_iret hR dX2_hasColumn_34 ⟨nb_0, hw⟩
  refine q_aload_n hC dX2_hasColumn_0 0 rfl 1 rfl ?_
  refine q_iload_n hC dX2_hasColumn_1 1 rfl 2 rfl ?_
  refine r_callI hC (go_V (q := (RX2, TX2, 14)) (As := [.int v1]) (rest := []) hC (ctX2_hasBlock (zl z) g M b v1 _ hb hw) 1 gX2_hasColumn_X2_hasBlock rfl ⟨rfl, rfl⟩ (by decide +kernel) ⟨Nat.le_of_ble_eq_true rfl, Nat.le_of_ble_eq_true rfl⟩ hb.ob rfl rfl rfl (Nat.le_of_ble_eq_true rfl) dX2_hasColumn_2) 5 rfl (fun r1 M2 hw => ?_)
  refine q_if_eq hC 33 dX2_hasColumn_5 (by decide) 8 rfl hw (fun hw => ?_) (fun hw => ?_)
  · exact XX.sub [] rfl (B33 M2 hw)
  · refine q_aload_n hC dX2_hasColumn_8 0 rfl 9 rfl ?_
    refine q_iload_n hC dX2_hasColumn_9 1 rfl 10 rfl ?_
    refine r_callI hC (go_V (q := (RX2, TX2, 14)) (As := [.int v1]) (rest := []) hC (ctX2_isMark (zl z) g M2 b v1 _ hb hw) 1 gX2_hasColumn_X2_isMark rfl ⟨rfl, rfl⟩ (by decide +kernel) ⟨Nat.le_of_ble_eq_true rfl, Nat.le_of_ble_eq_true rfl⟩ hb.ob rfl rfl rfl (Nat.le_of_ble_eq_true rfl) dX2_hasColumn_10) 13 rfl (fun r3 M4 hw => ?_)
    refine q_if_ne hC 33 dX2_hasColumn_13 (by decide) 16 rfl hw (fun hw => ?_) (fun hw => ?_)
    · exact XX.sub [] rfl (B33 M4 hw)
    · refine q_iload_n hC dX2_hasColumn_16 2 rfl 17 rfl ?_
      refine q_iconst (v := 0) hC dX2_hasColumn_17 rfl 18 rfl ?_
      refine q_aload_n hC dX2_hasColumn_18 0 rfl 19 rfl ?_
      refine q_iload_n hC dX2_hasColumn_19 1 rfl 20 rfl ?_
      refine r_callI hC (go_V (q := (RX2, TX2, 14)) (As := [.int v1]) (rest := [.int 0, .int v2]) hC (ctX2_sizeOf (zl z) g M4 b v1 _ hb hw) 1 gX2_hasColumn_X2_sizeOf rfl ⟨rfl, rfl⟩ (by decide +kernel) ⟨Nat.le_of_ble_eq_true rfl, Nat.le_of_ble_eq_true rfl⟩ hb.ob rfl rfl rfl (Nat.le_of_ble_eq_true rfl) dX2_hasColumn_20) 23 rfl (fun r5 M6 hw => ?_)
      refine r_callI hC (go_N (As := [.int v2, .int 0, .int r5]) (rest := []) hC (ctX4_isBetween (zl z) g M6 v2 0 r5 _ hw) 3 gX2_hasColumn_X4_isBetween_n69 rfl ⟨rfl, rfl⟩ 9 rfl (List.mem_of_getElem? (i := 8) (by decide +kernel)) (List.mem_of_getElem? (i := 7) (by decide +kernel)) (by decide +kernel) ⟨Nat.le_of_ble_eq_true rfl, Nat.le_of_ble_eq_true rfl⟩ rfl rfl (Nat.le_of_ble_eq_true rfl) dX2_hasColumn_23) 26 rfl (fun r7 M8 hw => ?_)
      refine q_if_eq hC 33 dX2_hasColumn_26 (by decide) 29 rfl hw (fun hw => ?_) (fun hw => ?_)
      · exact XX.sub [] rfl (B33 M8 hw)
      · refine q_iconst (v := 1) hC dX2_hasColumn_29 rfl 30 rfl ?_
        refine q_goto hC 34 dX2_hasColumn_30 (by decide) ?_
        exact r_iret hR dX2_hasColumn_34 ⟨nb_1, hw⟩
set_option maxRecDepth 100000 in
set_option maxHeartbeats 4000000 in
theorem ctX2_turnBit (l : Launch) (g : GG) (M : MM) (b : Nat) (v1 : Int32) (v2 : Int32) (v3 : Int32) (Q : Int32 → MM → Prop) (hb : tpl g b) (hw : wX2_turnBit Q M b v1 v2 v3) : MI g l yX2_turnBit wsX2_turnBit (rmOf 2 45) [.ref (gA g b), .int v1, .int v2, .int v3] M Q := by
  refine mk_MI (cc := cX2_turnBit) (maxL := 4) (by decide) rfl (Nat.le_of_ble_eq_true rfl) ?_
  intro z Qf hC hR
  show XX z g Qf 4 0 [(0, .ref (gA g b)), (1, .int v1), (2, .int v2), (3, .int v3)] [] M
  refine q_aload_n hC dX2_turnBit_0 0 rfl 1 rfl ?_
  refine q_iload_n hC dX2_turnBit_1 1 rfl 2 rfl ?_
  refine q_iload_n hC dX2_turnBit_2 2 rfl 3 rfl ?_
  refine q_aload_n hC dX2_turnBit_3 0 rfl 4 rfl ?_
  refine q_iload_n hC dX2_turnBit_4 1 rfl 5 rfl ?_
  refine q_iload_n hC dX2_turnBit_5 2 rfl 6 rfl ?_
  refine r_callI hC (go_V (q := (RX2, TX2, 14)) (As := [.int v1, .int v2]) (rest := [.int v2, .int v1, .ref (gA g b)]) hC (ctX2_columnOf (zl z) g M b v1 v2 _ hb hw) 2 gX2_turnBit_X2_columnOf rfl ⟨rfl, rfl⟩ (by decide +kernel) ⟨Nat.le_of_ble_eq_true rfl, Nat.le_of_ble_eq_true rfl⟩ hb.ob rfl rfl rfl (Nat.le_of_ble_eq_true rfl) dX2_turnBit_6) 9 rfl (fun r1 M2 hw => ?_)
  refine q_iconst (v := 1) hC dX2_turnBit_9 rfl 10 rfl ?_
  refine q_iload_n hC dX2_turnBit_10 3 rfl 11 rfl ?_
  refine q_ishl hC dX2_turnBit_11 12 rfl ?_
  refine q_ixor hC dX2_turnBit_12 13 rfl ?_
  refine r_callV hC (go_V (q := (RX2, TX2, 14)) (As := [.int v1, .int v2, .int (r1 ^^^ ((1 : Int32) <<< (v3 &&& 31)))]) (rest := []) hC (ctX2_setColumn (zl z) g M2 b v1 v2 (r1 ^^^ ((1 : Int32) <<< (v3 &&& 31))) _ hb hw) 3 gX2_turnBit_X2_setColumn rfl ⟨rfl, rfl⟩ (by decide +kernel) ⟨Nat.le_of_ble_eq_true rfl, Nat.le_of_ble_eq_true rfl⟩ hb.ob rfl rfl rfl (Nat.le_of_ble_eq_true rfl) dX2_turnBit_13) 16 rfl (fun M3 hw => ?_)
  refine q_aload_n hC dX2_turnBit_16 0 rfl 17 rfl ?_
  refine q_iload_n hC dX2_turnBit_17 1 rfl 18 rfl ?_
  refine q_iload_n hC dX2_turnBit_18 2 rfl 19 rfl ?_
  refine r_callI hC (go_V (q := (RX2, TX2, 14)) (As := [.int v1, .int v2]) (rest := []) hC (ctX2_columnOf (zl z) g M3 b v1 v2 _ hb hw) 2 gX2_turnBit_X2_columnOf rfl ⟨rfl, rfl⟩ (by decide +kernel) ⟨Nat.le_of_ble_eq_true rfl, Nat.le_of_ble_eq_true rfl⟩ hb.ob rfl rfl rfl (Nat.le_of_ble_eq_true rfl) dX2_turnBit_19) 22 rfl (fun r4 M5 hw => ?_)
  exact r_iret hR dX2_turnBit_22 hw
set_option maxRecDepth 100000 in
set_option maxHeartbeats 4000000 in
theorem ctX2_isWrongAlong (l : Launch) (g : GG) (M : MM) (b : Nat) (v1 : Int32) (v2 : Int32) (Q : Int32 → MM → Prop) (hb : tpl g b) (hw : wX2_isWrongAlong Q M b v1 v2) : MI g l yX2_isWrongAlong wsX2_isWrongAlong (rmOf 2 43) [.ref (gA g b), .int v1, .int v2] M Q := by
  refine mk_MZ (cc := cX2_isWrongAlong) (maxL := 3) (by decide) rfl (Nat.le_of_ble_eq_true rfl) ?_
  intro z Qf hC hR
  show XX z g Qf 3 0 [(0, .ref (gA g b)), (1, .int v1), (2, .int v2)] [] M
  refine q_aload_n hC dX2_isWrongAlong_0 0 rfl 1 rfl ?_
  refine q_iload_n hC dX2_isWrongAlong_1 1 rfl 2 rfl ?_
  refine q_iload_n hC dX2_isWrongAlong_2 2 rfl 3 rfl ?_
  refine r_callI hC (go_V (q := (RX2, TX2, 14)) (As := [.int v1, .int v2]) (rest := []) hC (ctX2_columnOf (zl z) g M b v1 v2 _ hb hw) 2 gX2_isWrongAlong_X2_columnOf rfl ⟨rfl, rfl⟩ (by decide +kernel) ⟨Nat.le_of_ble_eq_true rfl, Nat.le_of_ble_eq_true rfl⟩ hb.ob rfl rfl rfl (Nat.le_of_ble_eq_true rfl) dX2_isWrongAlong_3) 6 rfl (fun r1 M2 hw => ?_)
  refine r_callI hC (go_T (As := [.int r1]) (rest := []) hC (ctJ6_bitCount_0f7a4 (zl z) g M2 r1 _ hw) 1 gX2_isWrongAlong_J6_bitCount_0f7a4 rfl ⟨rfl, rfl⟩ (by decide +kernel) ⟨Nat.le_of_ble_eq_true rfl, Nat.le_of_ble_eq_true rfl⟩ rfl rfl (Nat.le_of_ble_eq_true rfl) dX2_isWrongAlong_6) 9 rfl (fun r3 M4 hw => ?_)
  refine q_iconst (v := 2) hC dX2_isWrongAlong_9 rfl 10 rfl ?_
  refine q_irem hC dX2_isWrongAlong_10 (by decide) 11 rfl ?_
  refine q_if_ne hC 18 dX2_isWrongAlong_11 (by decide) 14 rfl hw (fun hw => ?_) (fun hw => ?_)
  · refine q_iconst (v := 0) hC dX2_isWrongAlong_18 rfl 19 rfl ?_
    exact r_iret hR dX2_isWrongAlong_19 ⟨nb_0, hw⟩
  · refine q_iconst (v := 1) hC dX2_isWrongAlong_14 rfl 15 rfl ?_
    refine q_goto hC 19 dX2_isWrongAlong_15 (by decide) ?_
    exact r_iret hR dX2_isWrongAlong_19 ⟨nb_1, hw⟩
set_option maxRecDepth 100000 in
set_option maxHeartbeats 4000000 in
theorem ctX2_wrongAlongCount (l : Launch) (g : GG) (M : MM) (b : Nat) (v1 : Int32) (Q : Int32 → MM → Prop) (hb : tpl g b) (hw : wX2_wrongAlongCount Q M b v1) : MI g l yX2_wrongAlongCount wsX2_wrongAlongCount (rmOf 3 65) [.ref (gA g b), .int v1] M Q := by
  refine mk_MI (cc := cX2_wrongAlongCount) (maxL := 4) (by decide) rfl (Nat.le_of_ble_eq_true rfl) ?_
  intro z Qf hC hR
  show XX z g Qf 4 0 [(0, .ref (gA g b)), (1, .int v1)] [] M
  have B25 : ∀ (K4 : MM → Int32 → Int32 → Prop) (hK4 : ∀ (M : MM) (v2 : Int32) (v3 : Int32) , K4 M v2 v3 → XX z g Qf 4 4 [(0, .ref (gA g b)), (1, .int v1), (2, .int v2), (3, .int v3)] [] M) (M : MM) (v2 : Int32) (v3 : Int32), wX2_wrongAlongCount_25 Q K4 b v1 M v2 v3 → XX z g Qf 4 25 [(0, .ref (gA g b)), (1, .int v1), (2, .int v2), (3, .int v3)] [] M := by
    intro K4 hK4 M v2 v3 hw
    refine q_iinc (v := v3 + 1) (L' := [(3, .int (v3 + 1)), (0, .ref (gA g b)), (1, .int v1), (2, .int v2)]) hC dX2_wrongAlongCount_25 3 rfl rfl (by decide) rfl 28 rfl ?_
    refine q_goto hC 4 dX2_wrongAlongCount_28 (by decide) ?_
    exact XX.sub [1, 2, 3, 0] rfl (hK4 M v2 (v3 + 1) hw)
  have B4 : ∀ (n : Nat) (M : MM) (v2 : Int32) (v3 : Int32) , wX2_wrongAlongCount_4 Q b v1 n M v2 v3 → XX z g Qf 4 4 [(0, .ref (gA g b)), (1, .int v1), (2, .int v2), (3, .int v3)] [] M := by
    intro n
    induction n with
    | zero =>
      intro M v2 v3 hw
      exact hw.elim
    | succ n ih =>
      intro M v2 v3 hw
      refine q_iload_n hC dX2_wrongAlongCount_4 3 rfl 5 rfl ?_
      refine q_aload_n hC dX2_wrongAlongCount_5 0 rfl 6 rfl ?_
      refine q_iload_n hC dX2_wrongAlongCount_6 1 rfl 7 rfl ?_
      refine r_callI hC (go_V (q := (RX2, TX2, 14)) (As := [.int v1]) (rest := [.int v3]) hC (ctX2_sizeOf (zl z) g M b v1 _ hb hw) 1 gX2_wrongAlongCount_X2_sizeOf rfl ⟨rfl, rfl⟩ (by decide +kernel) ⟨Nat.le_of_ble_eq_true rfl, Nat.le_of_ble_eq_true rfl⟩ hb.ob rfl rfl rfl (Nat.le_of_ble_eq_true rfl) dX2_wrongAlongCount_7) 10 rfl (fun r1 M2 hw => ?_)
      refine q_icmp_ge hC 31 dX2_wrongAlongCount_10 (by decide) 13 rfl hw (fun hw => ?_) (fun hw => ?_)
      · refine q_iload_n hC dX2_wrongAlongCount_31 2 rfl 32 rfl ?_
        exact r_iret hR dX2_wrongAlongCount_32 hw
      · refine q_aload_n hC dX2_wrongAlongCount_13 0 rfl 14 rfl ?_
        refine q_iload_n hC dX2_wrongAlongCount_14 1 rfl 15 rfl ?_
        refine q_iload_n hC dX2_wrongAlongCount_15 3 rfl 16 rfl ?_
        refine r_callI hC (go_V (q := (RX2, TX2, 14)) (As := [.int v1, .int v3]) (rest := []) hC (ctX2_isWrongAlong (zl z) g M2 b v1 v3 _ hb hw) 2 gX2_wrongAlongCount_X2_isWrongAlong rfl ⟨rfl, rfl⟩ (by decide +kernel) ⟨Nat.le_of_ble_eq_true rfl, Nat.le_of_ble_eq_true rfl⟩ hb.ob rfl rfl rfl (Nat.le_of_ble_eq_true rfl) dX2_wrongAlongCount_16) 19 rfl (fun r3 M4 hw => ?_)
        refine q_if_eq hC 25 dX2_wrongAlongCount_19 (by decide) 22 rfl hw (fun hw => ?_) (fun hw => ?_)
        · exact XX.sub [0, 1, 2, 3] rfl (B25 _ (fun M v2 v3 hw => ih M v2 v3 hw) M4 v2 v3 hw)
        · refine q_iinc (v := v2 + 1) (L' := [(2, .int (v2 + 1)), (0, .ref (gA g b)), (1, .int v1), (3, .int v3)]) hC dX2_wrongAlongCount_22 2 rfl rfl (by decide) rfl 25 rfl ?_
          exact XX.sub [1, 2, 0, 3] rfl (B25 _ (fun M v2 v3 hw => ih M v2 v3 hw) M4 (v2 + 1) v3 hw)
  refine q_iconst (v := 0) hC dX2_wrongAlongCount_0 rfl 1 rfl ?_
  refine q_istore_n (L' := [(2, .int 0), (0, .ref (gA g b)), (1, .int v1)]) hC dX2_wrongAlongCount_1 (by decide) rfl 2 rfl ?_
  refine q_iconst (v := 0) hC dX2_wrongAlongCount_2 rfl 3 rfl ?_
  refine q_istore_n (L' := [(3, .int 0), (2, .int 0), (0, .ref (gA g b)), (1, .int v1)]) hC dX2_wrongAlongCount_3 (by decide) rfl 4 rfl ?_
  obtain ⟨n0, hw⟩ := hw
  exact XX.sub [2, 3, 1, 0] rfl (B4 n0 M 0 0 hw)
set_option maxRecDepth 100000 in
set_option maxHeartbeats 4000000 in
theorem ctX2_wrongAcross (l : Launch) (g : GG) (M : MM) (b : Nat) (v1 : Int32) (Q : Int32 → MM → Prop) (hb : tpl g b) (hw : wX2_wrongAcross Q M b v1) : MI g l yX2_wrongAcross wsX2_wrongAcross (rmOf 2 43) [.ref (gA g b), .int v1] M Q := by
  refine mk_MI (cc := cX2_wrongAcross) (maxL := 5) (by decide) rfl (Nat.le_of_ble_eq_true rfl) ?_
  intro z Qf hC hR
  show XX z g Qf 5 0 [(0, .ref (gA g b)), (1, .int v1)] [] M
  have B11 : ∀ (n : Nat) (M : MM) (v2 : Int32) (v3 : Int32) (v4 : Int32) , wX2_wrongAcross_11 Q b v1 n M v2 v3 v4 → XX z g Qf 5 11 [(0, .ref (gA g b)), (1, .int v1), (2, .int v2), (3, .int v3), (4, .int v4)] [] M := by
    intro n
    induction n with
    | zero =>
      intro M v2 v3 v4 hw
      exact hw.elim
    | succ n ih =>
      intro M v2 v3 v4 hw
      refine q_iload_n hC dX2_wrongAcross_11 2 rfl 12 rfl ?_
      refine q_if_le hC 37 dX2_wrongAcross_12 (by decide) 15 rfl hw (fun hw => ?_) (fun hw => ?_)
      · refine q_iload_n hC dX2_wrongAcross_37 3 rfl 38 rfl ?_
        exact r_iret hR dX2_wrongAcross_38 hw
      · refine q_iload hC dX2_wrongAcross_15 4 rfl 17 rfl ?_
        refine q_iload_n hC dX2_wrongAcross_17 2 rfl 18 rfl ?_
        refine q_icmp_gt hC 37 dX2_wrongAcross_18 (by decide) 21 rfl hw (fun hw => ?_) (fun hw => ?_)
        · refine q_iload_n hC dX2_wrongAcross_37 3 rfl 38 rfl ?_
          exact r_iret hR dX2_wrongAcross_38 hw
        · refine q_iload_n hC dX2_wrongAcross_21 3 rfl 22 rfl ?_
          refine q_aload_n hC dX2_wrongAcross_22 0 rfl 23 rfl ?_
          refine q_iload_n hC dX2_wrongAcross_23 1 rfl 24 rfl ?_
          refine q_iload hC dX2_wrongAcross_24 4 rfl 26 rfl ?_
          refine r_callI hC (go_V (q := (RX2, TX2, 14)) (As := [.int v1, .int v4]) (rest := [.int v3]) hC (ctX2_columnOf (zl z) g M b v1 v4 _ hb hw) 2 gX2_wrongAcross_X2_columnOf rfl ⟨rfl, rfl⟩ (by decide +kernel) ⟨Nat.le_of_ble_eq_true rfl, Nat.le_of_ble_eq_true rfl⟩ hb.ob rfl rfl rfl (Nat.le_of_ble_eq_true rfl) dX2_wrongAcross_26) 29 rfl (fun r3 M4 hw => ?_)
          refine q_ixor hC dX2_wrongAcross_29 30 rfl ?_
          refine q_istore_n (L' := [(3, .int (v3 ^^^ r3)), (0, .ref (gA g b)), (1, .int v1), (2, .int v2), (4, .int v4)]) hC dX2_wrongAcross_30 (by decide) rfl 31 rfl ?_
          refine q_iinc (v := v4 + 1) (L' := [(4, .int (v4 + 1)), (3, .int (v3 ^^^ r3)), (0, .ref (gA g b)), (1, .int v1), (2, .int v2)]) hC dX2_wrongAcross_31 4 rfl rfl (by decide) rfl 34 rfl ?_
          refine q_goto hC 11 dX2_wrongAcross_34 (by decide) ?_
          exact XX.sub [2, 3, 4, 1, 0] rfl (ih M4 v2 (v3 ^^^ r3) (v4 + 1) hw)
  refine q_aload_n hC dX2_wrongAcross_0 0 rfl 1 rfl ?_
  refine q_iload_n hC dX2_wrongAcross_1 1 rfl 2 rfl ?_
  refine r_callI hC (go_V (q := (RX2, TX2, 14)) (As := [.int v1]) (rest := []) hC (ctX2_sizeOf (zl z) g M b v1 _ hb hw) 1 gX2_wrongAcross_X2_sizeOf rfl ⟨rfl, rfl⟩ (by decide +kernel) ⟨Nat.le_of_ble_eq_true rfl, Nat.le_of_ble_eq_true rfl⟩ hb.ob rfl rfl rfl (Nat.le_of_ble_eq_true rfl) dX2_wrongAcross_2) 5 rfl (fun r1 M2 hw => ?_)
  refine q_istore_n (L' := [(2, .int r1), (0, .ref (gA g b)), (1, .int v1)]) hC dX2_wrongAcross_5 (by decide) rfl 6 rfl ?_
  refine q_iconst (v := 0) hC dX2_wrongAcross_6 rfl 7 rfl ?_
  refine q_istore_n (L' := [(3, .int 0), (2, .int r1), (0, .ref (gA g b)), (1, .int v1)]) hC dX2_wrongAcross_7 (by decide) rfl 8 rfl ?_
  refine q_iconst (v := 0) hC dX2_wrongAcross_8 rfl 9 rfl ?_
  refine q_istore (L' := [(4, .int 0), (3, .int 0), (2, .int r1), (0, .ref (gA g b)), (1, .int v1)]) hC dX2_wrongAcross_9 (by decide) rfl 11 rfl ?_
  obtain ⟨n0, hw⟩ := hw
  exact XX.sub [3, 4, 2, 1, 0] rfl (B11 n0 M2 r1 0 0 hw)
set_option maxRecDepth 100000 in
set_option maxHeartbeats 4000000 in
theorem ctX2_readingOf (l : Launch) (g : GG) (M : MM) (b : Nat) (v1 : Int32) (v2 : Int32) (Q : Int32 → MM → Prop) (hb : tpl g b) (hw : wX2_readingOf Q M b v1 v2) : MI g l yX2_readingOf wsX2_readingOf (rmOf 4 88) [.ref (gA g b), .int v1, .int v2] M Q := by
  refine mk_MI (cc := cX2_readingOf) (maxL := 6) (by decide) rfl (Nat.le_of_ble_eq_true rfl) ?_
  intro z Qf hC hR
  show XX z g Qf 6 0 [(0, .ref (gA g b)), (1, .int v1), (2, .int v2)] [] M
  have B78 : ∀ (M : MM), wX2_readingOf_78 Q b v1 v2 M → XX z g Qf 6 78 [] [] M := by
    intro M hw
    refine q_iconst (v := 3) hC dX2_readingOf_78 rfl 79 rfl ?_
    exact r_iret hR dX2_readingOf_79 hw
  have B47 : ∀ (M : MM) (p0 : Int32), wX2_readingOf_47 Q b v1 v2 M p0 → XX z g Qf 6 47 [] [.int p0] M := by
    intro M p0 hw
    refine q_istore (L' := [(5, .int p0)]) hC dX2_readingOf_47 (by decide) rfl 49 rfl ?_
    refine q_iload hC dX2_readingOf_49 0 rfl 51 rfl ?_
    refine q_if_ne hC 58 dX2_readingOf_51 (by decide) 54 rfl hw (fun hw => ?_) (fun hw => ?_)
    · refine q_iconst (v := 3) hC dX2_readingOf_58 rfl 59 rfl ?_
      exact r_iret hR dX2_readingOf_59 hw
    · refine q_iconst (v := 2) hC dX2_readingOf_54 rfl 55 rfl ?_
      refine q_goto hC 59 dX2_readingOf_55 (by decide) ?_
      exact r_iret hR dX2_readingOf_59 hw
  have B24 : ∀ (M : MM) (v3 : Int32) (v4 : Int32), wX2_readingOf_24 Q b v1 v2 M v3 v4 → XX z g Qf 6 24 [(2, .int v2), (3, .int v3), (4, .int v4)] [] M := by
    intro M v3 v4 hw
    refine q_iload_n hC dX2_readingOf_24 0 rfl 25 rfl ?_
    refine q_bipush (v := (-4)) hC dX2_readingOf_25 (by decide) 27 rfl ?_
    refine q_icmp_eq hC 60 dX2_readingOf_27 (by decide) 30 rfl hw (fun hw => ?_) (fun hw => ?_)
    · refine q_iload_n hC dX2_readingOf_60 1 rfl 61 rfl ?_
      refine q_iconst (v := 1) hC dX2_readingOf_61 rfl 62 rfl ?_
      refine q_icmp_gt hC 78 dX2_readingOf_62 (by decide) 65 rfl hw (fun hw => ?_) (fun hw => ?_)
      · exact XX.sub [] rfl (B78 M hw)
      · refine q_iload hC dX2_readingOf_65 2 rfl 67 rfl ?_
        refine r_callI hC (go_T (As := [.int v4]) (rest := []) hC (ctJ6_bitCount_0f7a4 (zl z) g M v4 _ hw) 1 gX2_readingOf_J6_bitCount_0f7a4 rfl ⟨rfl, rfl⟩ (by decide +kernel) ⟨Nat.le_of_ble_eq_true rfl, Nat.le_of_ble_eq_true rfl⟩ rfl rfl (Nat.le_of_ble_eq_true rfl) dX2_readingOf_67) 70 rfl (fun r5 M6 hw => ?_)
        refine q_iconst (v := 1) hC dX2_readingOf_70 rfl 71 rfl ?_
        refine q_icmp_ne hC 78 dX2_readingOf_71 (by decide) 74 rfl hw (fun hw => ?_) (fun hw => ?_)
        · exact XX.sub [] rfl (B78 M6 hw)
        · refine q_iconst (v := 1) hC dX2_readingOf_74 rfl 75 rfl ?_
          refine q_goto hC 79 dX2_readingOf_75 (by decide) ?_
          exact r_iret hR dX2_readingOf_79 hw
    · refine q_iload_n hC dX2_readingOf_30 1 rfl 31 rfl ?_
      refine q_iconst (v := 2) hC dX2_readingOf_31 rfl 32 rfl ?_
      refine q_irem hC dX2_readingOf_32 (by decide) 33 rfl ?_
      refine q_if_ne hC 41 dX2_readingOf_33 (by decide) 36 rfl hw (fun hw => ?_) (fun hw => ?_)
      · refine q_iload hC dX2_readingOf_41 2 rfl 43 rfl ?_
        refine q_iconst (v := 1) hC dX2_readingOf_43 rfl 44 rfl ?_
        refine q_iload_n hC dX2_readingOf_44 0 rfl 45 rfl ?_
        refine q_ishl hC dX2_readingOf_45 46 rfl ?_
        refine q_ixor hC dX2_readingOf_46 47 rfl ?_
        exact XX.sub [] rfl (B47 M (v4 ^^^ ((1 : Int32) <<< (v2 &&& 31))) hw)
      · refine q_iload hC dX2_readingOf_36 2 rfl 38 rfl ?_
        refine q_goto hC 47 dX2_readingOf_38 (by decide) ?_
        exact XX.sub [] rfl (B47 M v4 hw)
  refine q_aload_n hC dX2_readingOf_0 0 rfl 1 rfl ?_
  refine q_iload_n hC dX2_readingOf_1 1 rfl 2 rfl ?_
  refine r_callI hC (go_V (q := (RX2, TX2, 14)) (As := [.int v1]) (rest := []) hC (ctX2_wrongAlongCount (zl z) g M b v1 _ hb hw) 1 gX2_readingOf_X2_wrongAlongCount rfl ⟨rfl, rfl⟩ (by decide +kernel) ⟨Nat.le_of_ble_eq_true rfl, Nat.le_of_ble_eq_true rfl⟩ hb.ob rfl rfl rfl (Nat.le_of_ble_eq_true rfl) dX2_readingOf_2) 5 rfl (fun r1 M2 hw => ?_)
  refine q_istore_n (L' := [(3, .int r1), (0, .ref (gA g b)), (1, .int v1), (2, .int v2)]) hC dX2_readingOf_5 (by decide) rfl 6 rfl ?_
  refine q_aload_n hC dX2_readingOf_6 1 rfl 7 rfl ?_
  refine q_iload_n hC dX2_readingOf_7 2 rfl 8 rfl ?_
  refine r_callI hC (go_V (q := (RX2, TX2, 14)) (As := [.int v1]) (rest := []) hC (ctX2_wrongAcross (zl z) g M2 b v1 _ hb hw) 1 gX2_readingOf_X2_wrongAcross rfl ⟨rfl, rfl⟩ (by decide +kernel) ⟨Nat.le_of_ble_eq_true rfl, Nat.le_of_ble_eq_true rfl⟩ hb.ob rfl rfl rfl (Nat.le_of_ble_eq_true rfl) dX2_readingOf_8) 11 rfl (fun r3 M4 hw => ?_)
  refine q_istore (L' := [(4, .int r3), (3, .int r1), (0, .ref (gA g b)), (1, .int v1), (2, .int v2)]) hC dX2_readingOf_11 (by decide) rfl 13 rfl ?_
  refine q_iload_n hC dX2_readingOf_13 1 rfl 14 rfl ?_
  refine q_if_ne hC 24 dX2_readingOf_14 (by decide) 17 rfl hw (fun hw => ?_) (fun hw => ?_)
  · exact XX.sub [4, 1, 0] rfl (B24 M4 r1 r3 hw)
  · refine q_iload hC dX2_readingOf_17 0 rfl 19 rfl ?_
    refine q_if_ne hC 24 dX2_readingOf_19 (by decide) 22 rfl hw (fun hw => ?_) (fun hw => ?_)
    · exact XX.sub [4, 1, 0] rfl (B24 M4 r1 r3 hw)
    · refine q_iconst (v := 0) hC dX2_readingOf_22 rfl 23 rfl ?_
      exact r_iret hR dX2_readingOf_23 hw
set_option maxRecDepth 20000 in
theorem inX2_byteAsRead_X2 : ∀ w ∈ u_ws RX2 TX2 14, w ∈ wsX2_byteAsRead := by decide +kernel
set_option maxRecDepth 100000 in
set_option maxHeartbeats 4000000 in
theorem ctX2_byteAsRead (l : Launch) (g : GG) (M : MM) (b : Nat) (v1 : Int32) (v2 : Int32) (Q : Int32 → MM → Prop) (hb : tpl g b) (hw : wX2_byteAsRead Q M b v1 v2) : MI g l yX2_byteAsRead wsX2_byteAsRead (rmOf 3 67) [.ref (gA g b), .int v1, .int v2] M Q := by
  refine mk_MI (cc := cX2_byteAsRead) (maxL := 4) (by decide) rfl (Nat.le_of_ble_eq_true rfl) ?_
  intro z Qf hC hR
  show XX z g Qf 4 0 [(0, .ref (gA g b)), (1, .int v1), (2, .int v2)] [] M
  have B42 : ∀ (M : MM) (v3 : Int32), wX2_byteAsRead_42 Q b v1 v2 M v3 → XX z g Qf 4 42 [(3, .int v3)] [] M := by
    intro M v3 hw
    refine q_iload_n hC dX2_byteAsRead_42 0 rfl 43 rfl ?_
    refine q_sipush (v := 255) hC dX2_byteAsRead_43 (by decide) 46 rfl ?_
    refine q_iand hC dX2_byteAsRead_46 47 rfl ?_
    exact r_iret hR dX2_byteAsRead_47 hw
  have B40 : ∀ (M : MM) (p0 : Int32) (p1 : Int32), wX2_byteAsRead_40 Q b v1 v2 M p0 p1 → XX z g Qf 4 40 [] [.int p0, .int p1] M := by
    intro M p0 p1 hw
    refine q_ixor hC dX2_byteAsRead_40 41 rfl ?_
    refine q_istore_n (L' := [(3, .int (p1 ^^^ p0))]) hC dX2_byteAsRead_41 (by decide) rfl 42 rfl ?_
    exact XX.sub [0] rfl (B42 M (p1 ^^^ p0) hw)
  refine q_aload_n hC dX2_byteAsRead_0 0 rfl 1 rfl ?_
  refine q_iload_n hC dX2_byteAsRead_1 1 rfl 2 rfl ?_
  refine q_iload_n hC dX2_byteAsRead_2 2 rfl 3 rfl ?_
  refine r_callI hC (go_V (q := (RX2, TX2, 14)) (As := [.int v1, .int v2]) (rest := []) hC (ctX2_columnOf (zl z) g M b v1 v2 _ hb hw) 2 gX2_byteAsRead_X2_columnOf rfl ⟨rfl, rfl⟩ (by decide +kernel) ⟨Nat.le_of_ble_eq_true rfl, Nat.le_of_ble_eq_true rfl⟩ hb.ob rfl rfl rfl (Nat.le_of_ble_eq_true rfl) dX2_byteAsRead_3) 6 rfl (fun r1 M2 hw => ?_)
  refine q_istore_n (L' := [(3, .int r1), (0, .ref (gA g b)), (1, .int v1), (2, .int v2)]) hC dX2_byteAsRead_6 (by decide) rfl 7 rfl ?_
  refine q_aload_n hC dX2_byteAsRead_7 1 rfl 8 rfl ?_
  refine q_iload_n hC dX2_byteAsRead_8 2 rfl 9 rfl ?_
  refine q_iload_n hC dX2_byteAsRead_9 3 rfl 10 rfl ?_
  refine r_callI hC (go_V (q := (RX2, TX2, 14)) (As := [.int v1, .int v2]) (rest := []) hC (ctX2_isWrongAlong (zl z) g M2 b v1 v2 _ hb hw) 2 gX2_byteAsRead_X2_isWrongAlong rfl ⟨rfl, rfl⟩ (by decide +kernel) ⟨Nat.le_of_ble_eq_true rfl, Nat.le_of_ble_eq_true rfl⟩ hb.ob rfl rfl rfl (Nat.le_of_ble_eq_true rfl) dX2_byteAsRead_10) 13 rfl (fun r3 M4 hw => ?_)
  refine q_if_eq hC 42 dX2_byteAsRead_13 (by decide) 16 rfl hw (fun hw => ?_) (fun hw => ?_)
  · exact XX.sub [0] rfl (B42 M4 r1 hw)
  · refine q_iload_n hC dX2_byteAsRead_16 0 rfl 17 rfl ?_
    refine q_aload_n hC dX2_byteAsRead_17 1 rfl 18 rfl ?_
    refine q_getI (C := RX2) (T := TX2) (N := 14) (ci := 2) hC inX2_byteAsRead_X2 hb.ob rfl 12 (by decide) (List.mem_of_getElem? (i := 1) (by decide +kernel)) rfl (fun _ => rfl) dX2_byteAsRead_18 21 rfl ?_
    refine q_bipush (v := (-4)) hC dX2_byteAsRead_21 (by decide) 23 rfl ?_
    refine q_icmp_ne hC 34 dX2_byteAsRead_23 (by decide) 26 rfl hw (fun hw => ?_) (fun hw => ?_)
    · refine q_iconst (v := 1) hC dX2_byteAsRead_34 rfl 35 rfl ?_
      refine q_aload_n hC dX2_byteAsRead_35 1 rfl 36 rfl ?_
      refine q_getI (C := RX2) (T := TX2) (N := 14) (ci := 2) hC inX2_byteAsRead_X2 hb.ob rfl 12 (by decide) (List.mem_of_getElem? (i := 1) (by decide +kernel)) rfl (fun _ => rfl) dX2_byteAsRead_36 39 rfl ?_
      refine q_ishl hC dX2_byteAsRead_39 40 rfl ?_
      exact XX.sub [] rfl (B40 M4 ((1 : Int32) <<< ((M4 b 12) &&& 31)) r1 hw)
    · refine q_aload_n hC dX2_byteAsRead_26 1 rfl 27 rfl ?_
      refine q_iload_n hC dX2_byteAsRead_27 2 rfl 28 rfl ?_
      refine r_callI hC (go_V (q := (RX2, TX2, 14)) (As := [.int v1]) (rest := [.int r1]) hC (ctX2_wrongAcross (zl z) g M4 b v1 _ hb hw) 1 gX2_byteAsRead_X2_wrongAcross rfl ⟨rfl, rfl⟩ (by decide +kernel) ⟨Nat.le_of_ble_eq_true rfl, Nat.le_of_ble_eq_true rfl⟩ hb.ob rfl rfl rfl (Nat.le_of_ble_eq_true rfl) dX2_byteAsRead_28) 31 rfl (fun r5 M6 hw => ?_)
      refine q_goto hC 40 dX2_byteAsRead_31 (by decide) ?_
      exact XX.sub [] rfl (B40 M6 r5 r1 hw)
set_option maxRecDepth 100000 in
set_option maxHeartbeats 4000000 in
theorem ctX2_isReadAsWritten (l : Launch) (g : GG) (M : MM) (b : Nat) (v1 : Int32) (Q : Int32 → MM → Prop) (hb : tpl g b) (hw : wX2_isReadAsWritten Q M b v1) : MI g l yX2_isReadAsWritten wsX2_isReadAsWritten (rmOf 4 90) [.ref (gA g b), .int v1] M Q := by
  refine mk_MZ (cc := cX2_isReadAsWritten) (maxL := 3) (by decide) rfl (Nat.le_of_ble_eq_true rfl) ?_
  intro z Qf hC hR
  show XX z g Qf 3 0 [(0, .ref (gA g b)), (1, .int v1)] [] M
  have B2 : ∀ (n : Nat) (M : MM) (v2 : Int32) , wX2_isReadAsWritten_2 Q b v1 n M v2 → XX z g Qf 3 2 [(0, .ref (gA g b)), (1, .int v1), (2, .int v2)] [] M := by
    intro n
    induction n with
    | zero =>
      intro M v2 hw
      exact hw.elim
    | succ n ih =>
      intro M v2 hw
      refine q_iload_n hC dX2_isReadAsWritten_2 2 rfl 3 rfl ?_
      refine q_aload_n hC dX2_isReadAsWritten_3 0 rfl 4 rfl ?_
      refine q_iload_n hC dX2_isReadAsWritten_4 1 rfl 5 rfl ?_
      refine r_callI hC (go_V (q := (RX2, TX2, 14)) (As := [.int v1]) (rest := [.int v2]) hC (ctX2_sizeOf (zl z) g M b v1 _ hb hw) 1 gX2_isReadAsWritten_X2_sizeOf rfl ⟨rfl, rfl⟩ (by decide +kernel) ⟨Nat.le_of_ble_eq_true rfl, Nat.le_of_ble_eq_true rfl⟩ hb.ob rfl rfl rfl (Nat.le_of_ble_eq_true rfl) dX2_isReadAsWritten_5) 8 rfl (fun r1 M2 hw => ?_)
      refine q_icmp_ge hC 34 dX2_isReadAsWritten_8 (by decide) 11 rfl hw (fun hw => ?_) (fun hw => ?_)
      · refine q_iconst (v := 1) hC dX2_isReadAsWritten_34 rfl 35 rfl ?_
        exact r_iret hR dX2_isReadAsWritten_35 ⟨nb_1, hw⟩
      · refine q_aload_n hC dX2_isReadAsWritten_11 0 rfl 12 rfl ?_
        refine q_iload_n hC dX2_isReadAsWritten_12 1 rfl 13 rfl ?_
        refine q_iload_n hC dX2_isReadAsWritten_13 2 rfl 14 rfl ?_
        refine r_callI hC (go_V (q := (RX2, TX2, 14)) (As := [.int v1, .int v2]) (rest := []) hC (ctX2_byteAsRead (zl z) g M2 b v1 v2 _ hb hw) 2 gX2_isReadAsWritten_X2_byteAsRead rfl ⟨rfl, rfl⟩ (by decide +kernel) ⟨Nat.le_of_ble_eq_true rfl, Nat.le_of_ble_eq_true rfl⟩ hb.ob rfl rfl rfl (Nat.le_of_ble_eq_true rfl) dX2_isReadAsWritten_14) 17 rfl (fun r3 M4 hw => ?_)
        refine q_aload_n hC dX2_isReadAsWritten_17 0 rfl 18 rfl ?_
        refine q_iload_n hC dX2_isReadAsWritten_18 1 rfl 19 rfl ?_
        refine q_iload_n hC dX2_isReadAsWritten_19 2 rfl 20 rfl ?_
        refine r_callI hC (go_V (q := (RX2, TX2, 14)) (As := [.int v1, .int v2]) (rest := [.int r3]) hC (ctX2_originalOf (zl z) g M4 b v1 v2 _ hb hw) 2 gX2_isReadAsWritten_X2_originalOf rfl ⟨rfl, rfl⟩ (by decide +kernel) ⟨Nat.le_of_ble_eq_true rfl, Nat.le_of_ble_eq_true rfl⟩ hb.ob rfl rfl rfl (Nat.le_of_ble_eq_true rfl) dX2_isReadAsWritten_20) 23 rfl (fun r5 M6 hw => ?_)
        refine q_icmp_eq hC 28 dX2_isReadAsWritten_23 (by decide) 26 rfl hw (fun hw => ?_) (fun hw => ?_)
        · refine q_iinc (v := v2 + 1) (L' := [(2, .int (v2 + 1)), (0, .ref (gA g b)), (1, .int v1)]) hC dX2_isReadAsWritten_28 2 rfl rfl (by decide) rfl 31 rfl ?_
          refine q_goto hC 2 dX2_isReadAsWritten_31 (by decide) ?_
          exact XX.sub [1, 2, 0] rfl (ih M6 (v2 + 1) hw)
        · refine q_iconst (v := 0) hC dX2_isReadAsWritten_26 rfl 27 rfl ?_
          exact r_iret hR dX2_isReadAsWritten_27 ⟨nb_0, hw⟩
  refine q_iconst (v := 0) hC dX2_isReadAsWritten_0 rfl 1 rfl ?_
  refine q_istore_n (L' := [(2, .int 0), (0, .ref (gA g b)), (1, .int v1)]) hC dX2_isReadAsWritten_1 (by decide) rfl 2 rfl ?_
  obtain ⟨n0, hw⟩ := hw
  exact XX.sub [1, 2, 0] rfl (B2 n0 M 0 hw)
set_option maxRecDepth 20000 in
theorem inX2_lostBlocksBy_X2 : ∀ w ∈ u_ws RX2 TX2 14, w ∈ wsX2_lostBlocksBy := by decide +kernel
set_option maxRecDepth 100000 in
set_option maxHeartbeats 4000000 in
theorem ctX2_lostBlocksBy (l : Launch) (g : GG) (M : MM) (b : Nat) (v1 : Int32) (Q : Int32 → MM → Prop) (hb : tpl g b) (hw : wX2_lostBlocksBy Q M b v1) : MI g l yX2_lostBlocksBy wsX2_lostBlocksBy (rmOf 5 113) [.ref (gA g b), .int v1] M Q := by
  refine mk_MI (cc := cX2_lostBlocksBy) (maxL := 4) (by decide) rfl (Nat.le_of_ble_eq_true rfl) ?_
  intro z Qf hC hR
  show XX z g Qf 4 0 [(0, .ref (gA g b)), (1, .int v1)] [] M
  have B28 : ∀ (K4 : MM → Int32 → Int32 → Prop) (hK4 : ∀ (M : MM) (v2 : Int32) (v3 : Int32) , K4 M v2 v3 → XX z g Qf 4 4 [(0, .ref (gA g b)), (1, .int v1), (2, .int v2), (3, .int v3)] [] M) (M : MM) (v2 : Int32) (v3 : Int32), wX2_lostBlocksBy_28 Q K4 b v1 M v2 v3 → XX z g Qf 4 28 [(0, .ref (gA g b)), (1, .int v1), (2, .int v2), (3, .int v3)] [] M := by
    intro K4 hK4 M v2 v3 hw
    refine q_iinc (v := v3 + 1) (L' := [(3, .int (v3 + 1)), (0, .ref (gA g b)), (1, .int v1), (2, .int v2)]) hC dX2_lostBlocksBy_28 3 rfl rfl (by decide) rfl 31 rfl ?_
    refine q_goto hC 4 dX2_lostBlocksBy_31 (by decide) ?_
    exact XX.sub [1, 2, 3, 0] rfl (hK4 M v2 (v3 + 1) hw)
  have B4 : ∀ (n : Nat) (M : MM) (v2 : Int32) (v3 : Int32) , wX2_lostBlocksBy_4 Q b v1 n M v2 v3 → XX z g Qf 4 4 [(0, .ref (gA g b)), (1, .int v1), (2, .int v2), (3, .int v3)] [] M := by
    intro n
    induction n with
    | zero =>
      intro M v2 v3 hw
      exact hw.elim
    | succ n ih =>
      intro M v2 v3 hw
      refine q_iload_n hC dX2_lostBlocksBy_4 3 rfl 5 rfl ?_
      refine q_aload_n hC dX2_lostBlocksBy_5 0 rfl 6 rfl ?_
      refine q_getI (C := RX2) (T := TX2) (N := 14) (ci := 2) hC inX2_lostBlocksBy_X2 hb.ob rfl 8 (by decide) (List.mem_of_getElem? (i := 1) (by decide +kernel)) rfl (fun _ => rfl) dX2_lostBlocksBy_6 9 rfl ?_
      refine q_icmp_ge hC 34 dX2_lostBlocksBy_9 (by decide) 12 rfl hw (fun hw => ?_) (fun hw => ?_)
      · refine q_iload_n hC dX2_lostBlocksBy_34 2 rfl 35 rfl ?_
        exact r_iret hR dX2_lostBlocksBy_35 hw
      · refine q_aload_n hC dX2_lostBlocksBy_12 0 rfl 13 rfl ?_
        refine q_iload_n hC dX2_lostBlocksBy_13 3 rfl 14 rfl ?_
        refine q_iload_n hC dX2_lostBlocksBy_14 1 rfl 15 rfl ?_
        refine r_callI hC (go_V (q := (RX2, TX2, 14)) (As := [.int v3, .int v1]) (rest := []) hC (ctX2_readingOf (zl z) g M b v3 v1 _ hb hw) 2 gX2_lostBlocksBy_X2_readingOf rfl ⟨rfl, rfl⟩ (by decide +kernel) ⟨Nat.le_of_ble_eq_true rfl, Nat.le_of_ble_eq_true rfl⟩ hb.ob rfl rfl rfl (Nat.le_of_ble_eq_true rfl) dX2_lostBlocksBy_15) 18 rfl (fun r1 M2 hw => ?_)
        refine q_iconst (v := 3) hC dX2_lostBlocksBy_18 rfl 19 rfl ?_
        refine q_icmp_ne hC 28 dX2_lostBlocksBy_19 (by decide) 22 rfl hw (fun hw => ?_) (fun hw => ?_)
        · exact XX.sub [0, 1, 2, 3] rfl (B28 _ (fun M v2 v3 hw => ih M v2 v3 hw) M2 v2 v3 hw)
        · refine q_iload_n hC dX2_lostBlocksBy_22 2 rfl 23 rfl ?_
          refine q_iconst (v := 1) hC dX2_lostBlocksBy_23 rfl 24 rfl ?_
          refine q_iload_n hC dX2_lostBlocksBy_24 3 rfl 25 rfl ?_
          refine q_ishl hC dX2_lostBlocksBy_25 26 rfl ?_
          refine q_ior hC dX2_lostBlocksBy_26 27 rfl ?_
          refine q_nameI (fun x3 ex3 => ?_)
          have hw := hw x3 ex3
          refine q_istore_n (L' := [(2, .int x3), (0, .ref (gA g b)), (1, .int v1), (3, .int v3)]) hC dX2_lostBlocksBy_27 (by decide) rfl 28 rfl ?_
          exact XX.sub [1, 2, 0, 3] rfl (B28 _ (fun M v2 v3 hw => ih M v2 v3 hw) M2 x3 v3 hw)
  refine q_iconst (v := 0) hC dX2_lostBlocksBy_0 rfl 1 rfl ?_
  refine q_istore_n (L' := [(2, .int 0), (0, .ref (gA g b)), (1, .int v1)]) hC dX2_lostBlocksBy_1 (by decide) rfl 2 rfl ?_
  refine q_iconst (v := 0) hC dX2_lostBlocksBy_2 rfl 3 rfl ?_
  refine q_istore_n (L' := [(3, .int 0), (2, .int 0), (0, .ref (gA g b)), (1, .int v1)]) hC dX2_lostBlocksBy_3 (by decide) rfl 4 rfl ?_
  obtain ⟨n0, hw⟩ := hw
  exact XX.sub [2, 3, 1, 0] rfl (B4 n0 M 0 0 hw)
set_option maxRecDepth 20000 in
theorem inX2_fooledBlocks_X2 : ∀ w ∈ u_ws RX2 TX2 14, w ∈ wsX2_fooledBlocks := by decide +kernel
set_option maxRecDepth 100000 in
set_option maxHeartbeats 4000000 in
theorem ctX2_fooledBlocks (l : Launch) (g : GG) (M : MM) (b : Nat) (Q : Int32 → MM → Prop) (hb : tpl g b) (hw : wX2_fooledBlocks Q M b) : MI g l yX2_fooledBlocks wsX2_fooledBlocks (rmOf 5 113) [.ref (gA g b)] M Q := by
  refine mk_MI (cc := cX2_fooledBlocks) (maxL := 3) (by decide) rfl (Nat.le_of_ble_eq_true rfl) ?_
  intro z Qf hC hR
  show XX z g Qf 3 0 [(0, .ref (gA g b))] [] M
  have B39 : ∀ (K4 : MM → Int32 → Int32 → Prop) (hK4 : ∀ (M : MM) (v1 : Int32) (v2 : Int32) , K4 M v1 v2 → XX z g Qf 3 4 [(0, .ref (gA g b)), (1, .int v1), (2, .int v2)] [] M) (M : MM) (v1 : Int32) (v2 : Int32), wX2_fooledBlocks_39 Q K4 b M v1 v2 → XX z g Qf 3 39 [(0, .ref (gA g b)), (1, .int v1), (2, .int v2)] [] M := by
    intro K4 hK4 M v1 v2 hw
    refine q_iinc (v := v2 + 1) (L' := [(2, .int (v2 + 1)), (0, .ref (gA g b)), (1, .int v1)]) hC dX2_fooledBlocks_39 2 rfl rfl (by decide) rfl 42 rfl ?_
    refine q_goto hC 4 dX2_fooledBlocks_42 (by decide) ?_
    exact XX.sub [1, 2, 0] rfl (hK4 M v1 (v2 + 1) hw)
  have B4 : ∀ (n : Nat) (M : MM) (v1 : Int32) (v2 : Int32) , wX2_fooledBlocks_4 Q b n M v1 v2 → XX z g Qf 3 4 [(0, .ref (gA g b)), (1, .int v1), (2, .int v2)] [] M := by
    intro n
    induction n with
    | zero =>
      intro M v1 v2 hw
      exact hw.elim
    | succ n ih =>
      intro M v1 v2 hw
      refine q_iload_n hC dX2_fooledBlocks_4 2 rfl 5 rfl ?_
      refine q_aload_n hC dX2_fooledBlocks_5 0 rfl 6 rfl ?_
      refine q_getI (C := RX2) (T := TX2) (N := 14) (ci := 2) hC inX2_fooledBlocks_X2 hb.ob rfl 8 (by decide) (List.mem_of_getElem? (i := 1) (by decide +kernel)) rfl (fun _ => rfl) dX2_fooledBlocks_6 9 rfl ?_
      refine q_icmp_ge hC 45 dX2_fooledBlocks_9 (by decide) 12 rfl hw (fun hw => ?_) (fun hw => ?_)
      · refine q_iload_n hC dX2_fooledBlocks_45 1 rfl 46 rfl ?_
        exact r_iret hR dX2_fooledBlocks_46 hw
      · refine q_aload_n hC dX2_fooledBlocks_12 0 rfl 13 rfl ?_
        refine q_iload_n hC dX2_fooledBlocks_13 2 rfl 14 rfl ?_
        refine q_aload_n hC dX2_fooledBlocks_14 0 rfl 15 rfl ?_
        refine q_getI (C := RX2) (T := TX2) (N := 14) (ci := 2) hC inX2_fooledBlocks_X2 hb.ob rfl 12 (by decide) (List.mem_of_getElem? (i := 2) (by decide +kernel)) rfl (fun _ => rfl) dX2_fooledBlocks_15 18 rfl ?_
        refine r_callI hC (go_V (q := (RX2, TX2, 14)) (As := [.int v2, .int (M b 12)]) (rest := []) hC (ctX2_readingOf (zl z) g M b v2 (M b 12) _ hb hw) 2 gX2_fooledBlocks_X2_readingOf rfl ⟨rfl, rfl⟩ (by decide +kernel) ⟨Nat.le_of_ble_eq_true rfl, Nat.le_of_ble_eq_true rfl⟩ hb.ob rfl rfl rfl (Nat.le_of_ble_eq_true rfl) dX2_fooledBlocks_18) 21 rfl (fun r1 M2 hw => ?_)
        refine q_iconst (v := 3) hC dX2_fooledBlocks_21 rfl 22 rfl ?_
        refine q_icmp_eq hC 39 dX2_fooledBlocks_22 (by decide) 25 rfl hw (fun hw => ?_) (fun hw => ?_)
        · exact XX.sub [0, 1, 2] rfl (B39 _ (fun M v1 v2 hw => ih M v1 v2 hw) M2 v1 v2 hw)
        · refine q_aload_n hC dX2_fooledBlocks_25 0 rfl 26 rfl ?_
          refine q_iload_n hC dX2_fooledBlocks_26 2 rfl 27 rfl ?_
          refine r_callI hC (go_V (q := (RX2, TX2, 14)) (As := [.int v2]) (rest := []) hC (ctX2_isReadAsWritten (zl z) g M2 b v2 _ hb hw) 1 gX2_fooledBlocks_X2_isReadAsWritten rfl ⟨rfl, rfl⟩ (by decide +kernel) ⟨Nat.le_of_ble_eq_true rfl, Nat.le_of_ble_eq_true rfl⟩ hb.ob rfl rfl rfl (Nat.le_of_ble_eq_true rfl) dX2_fooledBlocks_27) 30 rfl (fun r3 M4 hw => ?_)
          refine q_if_ne hC 39 dX2_fooledBlocks_30 (by decide) 33 rfl hw (fun hw => ?_) (fun hw => ?_)
          · exact XX.sub [0, 1, 2] rfl (B39 _ (fun M v1 v2 hw => ih M v1 v2 hw) M4 v1 v2 hw)
          · refine q_iload_n hC dX2_fooledBlocks_33 1 rfl 34 rfl ?_
            refine q_iconst (v := 1) hC dX2_fooledBlocks_34 rfl 35 rfl ?_
            refine q_iload_n hC dX2_fooledBlocks_35 2 rfl 36 rfl ?_
            refine q_ishl hC dX2_fooledBlocks_36 37 rfl ?_
            refine q_ior hC dX2_fooledBlocks_37 38 rfl ?_
            refine q_nameI (fun x5 ex5 => ?_)
            have hw := hw x5 ex5
            refine q_istore_n (L' := [(1, .int x5), (0, .ref (gA g b)), (2, .int v2)]) hC dX2_fooledBlocks_38 (by decide) rfl 39 rfl ?_
            exact XX.sub [1, 0, 2] rfl (B39 _ (fun M v1 v2 hw => ih M v1 v2 hw) M4 x5 v2 hw)
  refine q_iconst (v := 0) hC dX2_fooledBlocks_0 rfl 1 rfl ?_
  refine q_istore_n (L' := [(1, .int 0), (0, .ref (gA g b))]) hC dX2_fooledBlocks_1 (by decide) rfl 2 rfl ?_
  refine q_iconst (v := 0) hC dX2_fooledBlocks_2 rfl 3 rfl ?_
  refine q_istore_n (L' := [(2, .int 0), (1, .int 0), (0, .ref (gA g b))]) hC dX2_fooledBlocks_3 (by decide) rfl 4 rfl ?_
  obtain ⟨n0, hw⟩ := hw
  exact XX.sub [2, 1, 0] rfl (B4 n0 M 0 0 hw)
set_option maxRecDepth 20000 in
theorem inX2_mendedBlocks_X2 : ∀ w ∈ u_ws RX2 TX2 14, w ∈ wsX2_mendedBlocks := by decide +kernel
set_option maxRecDepth 100000 in
set_option maxHeartbeats 4000000 in
theorem ctX2_mendedBlocks (l : Launch) (g : GG) (M : MM) (b : Nat) (Q : Int32 → MM → Prop) (hb : tpl g b) (hw : wX2_mendedBlocks Q M b) : MI g l yX2_mendedBlocks wsX2_mendedBlocks (rmOf 5 113) [.ref (gA g b)] M Q := by
  refine mk_MI (cc := cX2_mendedBlocks) (maxL := 4) (by decide) rfl (Nat.le_of_ble_eq_true rfl) ?_
  intro z Qf hC hR
  show XX z g Qf 4 0 [(0, .ref (gA g b))] [] M
  have B38 : ∀ (K4 : MM → Int32 → Int32 → Prop) (hK4 : ∀ (M : MM) (v1 : Int32) (v2 : Int32) , K4 M v1 v2 → XX z g Qf 4 4 [(0, .ref (gA g b)), (1, .int v1), (2, .int v2)] [] M) (M : MM) (v1 : Int32) (v2 : Int32), wX2_mendedBlocks_38 Q K4 b M v1 v2 → XX z g Qf 4 38 [(0, .ref (gA g b)), (1, .int v1), (2, .int v2)] [] M := by
    intro K4 hK4 M v1 v2 hw
    refine q_iinc (v := v2 + 1) (L' := [(2, .int (v2 + 1)), (0, .ref (gA g b)), (1, .int v1)]) hC dX2_mendedBlocks_38 2 rfl rfl (by decide) rfl 41 rfl ?_
    refine q_goto hC 4 dX2_mendedBlocks_41 (by decide) ?_
    exact XX.sub [1, 2, 0] rfl (hK4 M v1 (v2 + 1) hw)
  have B32 : ∀ (K4 : MM → Int32 → Int32 → Prop) (hK4 : ∀ (M : MM) (v1 : Int32) (v2 : Int32) , K4 M v1 v2 → XX z g Qf 4 4 [(0, .ref (gA g b)), (1, .int v1), (2, .int v2)] [] M) (M : MM) (v1 : Int32) (v2 : Int32), wX2_mendedBlocks_32 Q K4 b M v1 v2 → XX z g Qf 4 32 [(0, .ref (gA g b)), (1, .int v1), (2, .int v2)] [] M := by
    intro K4 hK4 M v1 v2 hw
    refine q_iload_n hC dX2_mendedBlocks_32 1 rfl 33 rfl ?_
    refine q_iconst (v := 1) hC dX2_mendedBlocks_33 rfl 34 rfl ?_
    refine q_iload_n hC dX2_mendedBlocks_34 2 rfl 35 rfl ?_
    refine q_ishl hC dX2_mendedBlocks_35 36 rfl ?_
    refine q_ior hC dX2_mendedBlocks_36 37 rfl ?_
    refine q_nameI (fun x3 ex3 => ?_)
    have hw := hw x3 ex3
    refine q_istore_n (L' := [(1, .int x3), (0, .ref (gA g b)), (2, .int v2)]) hC dX2_mendedBlocks_37 (by decide) rfl 38 rfl ?_
    exact XX.sub [1, 0, 2] rfl (B38 _ hK4 M x3 v2 hw)
  have B4 : ∀ (n : Nat) (M : MM) (v1 : Int32) (v2 : Int32) , wX2_mendedBlocks_4 Q b n M v1 v2 → XX z g Qf 4 4 [(0, .ref (gA g b)), (1, .int v1), (2, .int v2)] [] M := by
    intro n
    induction n with
    | zero =>
      intro M v1 v2 hw
      exact hw.elim
    | succ n ih =>
      intro M v1 v2 hw
      refine q_iload_n hC dX2_mendedBlocks_4 2 rfl 5 rfl ?_
      refine q_aload_n hC dX2_mendedBlocks_5 0 rfl 6 rfl ?_
      refine q_getI (C := RX2) (T := TX2) (N := 14) (ci := 2) hC inX2_mendedBlocks_X2 hb.ob rfl 8 (by decide) (List.mem_of_getElem? (i := 1) (by decide +kernel)) rfl (fun _ => rfl) dX2_mendedBlocks_6 9 rfl ?_
      refine q_icmp_ge hC 44 dX2_mendedBlocks_9 (by decide) 12 rfl hw (fun hw => ?_) (fun hw => ?_)
      · refine q_iload_n hC dX2_mendedBlocks_44 1 rfl 45 rfl ?_
        exact r_iret hR dX2_mendedBlocks_45 hw
      · refine q_aload_n hC dX2_mendedBlocks_12 0 rfl 13 rfl ?_
        refine q_iload_n hC dX2_mendedBlocks_13 2 rfl 14 rfl ?_
        refine q_aload_n hC dX2_mendedBlocks_14 0 rfl 15 rfl ?_
        refine q_getI (C := RX2) (T := TX2) (N := 14) (ci := 2) hC inX2_mendedBlocks_X2 hb.ob rfl 12 (by decide) (List.mem_of_getElem? (i := 2) (by decide +kernel)) rfl (fun _ => rfl) dX2_mendedBlocks_15 18 rfl ?_
        refine r_callI hC (go_V (q := (RX2, TX2, 14)) (As := [.int v2, .int (M b 12)]) (rest := []) hC (ctX2_readingOf (zl z) g M b v2 (M b 12) _ hb hw) 2 gX2_mendedBlocks_X2_readingOf rfl ⟨rfl, rfl⟩ (by decide +kernel) ⟨Nat.le_of_ble_eq_true rfl, Nat.le_of_ble_eq_true rfl⟩ hb.ob rfl rfl rfl (Nat.le_of_ble_eq_true rfl) dX2_mendedBlocks_18) 21 rfl (fun r1 M2 hw => ?_)
        refine q_istore_n (L' := [(3, .int r1), (0, .ref (gA g b)), (1, .int v1), (2, .int v2)]) hC dX2_mendedBlocks_21 (by decide) rfl 22 rfl ?_
        refine q_iload_n hC dX2_mendedBlocks_22 0 rfl 23 rfl ?_
        refine q_iconst (v := 1) hC dX2_mendedBlocks_23 rfl 24 rfl ?_
        refine q_icmp_eq hC 32 dX2_mendedBlocks_24 (by decide) 27 rfl hw (fun hw => ?_) (fun hw => ?_)
        · exact XX.sub [1, 2, 3] rfl (B32 _ (fun M v1 v2 hw => ih M v1 v2 hw) M2 v1 v2 hw)
        · refine q_iload_n hC dX2_mendedBlocks_27 0 rfl 28 rfl ?_
          refine q_iconst (v := 2) hC dX2_mendedBlocks_28 rfl 29 rfl ?_
          refine q_icmp_ne hC 38 dX2_mendedBlocks_29 (by decide) 32 rfl hw (fun hw => ?_) (fun hw => ?_)
          · exact XX.sub [1, 2, 3] rfl (B38 _ (fun M v1 v2 hw => ih M v1 v2 hw) M2 v1 v2 hw)
          · exact XX.sub [1, 2, 3] rfl (B32 _ (fun M v1 v2 hw => ih M v1 v2 hw) M2 v1 v2 hw)
  refine q_iconst (v := 0) hC dX2_mendedBlocks_0 rfl 1 rfl ?_
  refine q_istore_n (L' := [(1, .int 0), (0, .ref (gA g b))]) hC dX2_mendedBlocks_1 (by decide) rfl 2 rfl ?_
  refine q_iconst (v := 0) hC dX2_mendedBlocks_2 rfl 3 rfl ?_
  refine q_istore_n (L' := [(2, .int 0), (1, .int 0), (0, .ref (gA g b))]) hC dX2_mendedBlocks_3 (by decide) rfl 4 rfl ?_
  obtain ⟨n0, hw⟩ := hw
  exact XX.sub [2, 1, 0] rfl (B4 n0 M 0 0 hw)
set_option maxRecDepth 100000 in
set_option maxHeartbeats 4000000 in
theorem ctX2_roomFor (l : Launch) (g : GG) (M : MM) (b : Nat) (v1 : Int32) (Q : Int32 → MM → Prop) (hb : tpl g b) (hw : wX2_roomFor Q M b v1) : MI g l yX2_roomFor wsX2_roomFor (rmOf 2 42) [.ref (gA g b), .int v1] M Q := by
  refine mk_MI (cc := cX2_roomFor) (maxL := 3) (by decide) rfl (Nat.le_of_ble_eq_true rfl) ?_
  intro z Qf hC hR
  show XX z g Qf 3 0 [(0, .ref (gA g b)), (1, .int v1)] [] M
  refine q_aload_n hC dX2_roomFor_0 0 rfl 1 rfl ?_
  refine q_bipush (v := 6) hC dX2_roomFor_1 (by decide) 3 rfl ?_
  refine r_callI hC (go_V (q := (RX2, TX2, 14)) (As := [.int 6]) (rest := []) hC (ctX2_ruled (zl z) g M b 6 _ hb hw) 1 gX2_roomFor_X2_ruled rfl ⟨rfl, rfl⟩ (by decide +kernel) ⟨Nat.le_of_ble_eq_true rfl, Nat.le_of_ble_eq_true rfl⟩ hb.ob rfl rfl rfl (Nat.le_of_ble_eq_true rfl) dX2_roomFor_3) 6 rfl (fun r1 M2 hw => ?_)
  refine q_aload_n hC dX2_roomFor_6 0 rfl 7 rfl ?_
  refine q_iload_n hC dX2_roomFor_7 1 rfl 8 rfl ?_
  refine r_callI hC (go_V (q := (RX2, TX2, 14)) (As := [.int v1]) (rest := [.int r1]) hC (ctX2_longWith (zl z) g M2 b v1 _ hb hw) 1 gX2_roomFor_X2_longWith rfl ⟨rfl, rfl⟩ (by decide +kernel) ⟨Nat.le_of_ble_eq_true rfl, Nat.le_of_ble_eq_true rfl⟩ hb.ob rfl rfl rfl (Nat.le_of_ble_eq_true rfl) dX2_roomFor_8) 11 rfl (fun r3 M4 hw => ?_)
  refine q_iadd hC dX2_roomFor_11 12 rfl ?_
  refine q_istore_n (L' := [(2, .int (r1 + r3)), (0, .ref (gA g b)), (1, .int v1)]) hC dX2_roomFor_12 (by decide) rfl 13 rfl ?_
  refine q_iload_n hC dX2_roomFor_13 0 rfl 14 rfl ?_
  refine q_iconst (v := 1) hC dX2_roomFor_14 rfl 15 rfl ?_
  refine q_icmp_ge hC 22 dX2_roomFor_15 (by decide) 18 rfl hw (fun hw => ?_) (fun hw => ?_)
  · refine q_aload_n hC dX2_roomFor_22 1 rfl 23 rfl ?_
    refine q_iconst (v := 0) hC dX2_roomFor_23 rfl 24 rfl ?_
    refine r_callI hC (go_V (q := (RX2, TX2, 14)) (As := [.int 0]) (rest := []) hC (ctX2_ruled (zl z) g M4 b 0 _ hb hw) 1 gX2_roomFor_X2_ruled rfl ⟨rfl, rfl⟩ (by decide +kernel) ⟨Nat.le_of_ble_eq_true rfl, Nat.le_of_ble_eq_true rfl⟩ hb.ob rfl rfl rfl (Nat.le_of_ble_eq_true rfl) dX2_roomFor_24) 27 rfl (fun r5 M6 hw => ?_)
    refine q_iload_n hC dX2_roomFor_27 0 rfl 28 rfl ?_
    obtain ⟨hne, hw⟩ := hw
    refine q_idiv hC dX2_roomFor_28 hne 29 rfl ?_
    exact r_iret hR dX2_roomFor_29 hw
  · refine q_iconst (v := 0) hC dX2_roomFor_18 rfl 19 rfl ?_
    refine q_goto hC 29 dX2_roomFor_19 (by decide) ?_
    exact r_iret hR dX2_roomFor_29 hw
set_option maxRecDepth 100000 in
set_option maxHeartbeats 4000000 in
theorem ctX2_timeWhenFilled (l : Launch) (g : GG) (M : MM) (v0 : Int32) (v1 : Int32) (v2 : Int32) (v3 : Int32) (v4 : Int32) (Q : Int32 → MM → Prop)  (hw : wX2_timeWhenFilled Q M v0 v1 v2 v3 v4) : MI g l yX2_timeWhenFilled wsX2_timeWhenFilled (rmOf 1 21) [.int v0, .int v1, .int v2, .int v3, .int v4] M Q := by
  refine mk_MI (cc := cX2_timeWhenFilled) (maxL := 6) (by decide) rfl (Nat.le_of_ble_eq_true rfl) ?_
  intro z Qf hC hR
  show XX z g Qf 6 0 [(0, .int v0), (1, .int v1), (2, .int v2), (3, .int v3), (4, .int v4)] [] M
  refine q_iload_n hC dX2_timeWhenFilled_0 1 rfl 1 rfl ?_
  refine q_iload hC dX2_timeWhenFilled_1 4 rfl 3 rfl ?_
  refine q_iadd hC dX2_timeWhenFilled_3 4 rfl ?_
  refine q_iload_n hC dX2_timeWhenFilled_4 2 rfl 5 rfl ?_
  refine q_mmin hC (List.mem_of_getElem? (i := 1) (by decide +kernel)) (List.mem_of_getElem? (i := 2) (by decide +kernel)) (List.mem_of_getElem? (i := 3) (by decide +kernel)) (List.mem_of_getElem? (i := 4) (by decide +kernel)) (by decide) (Nat.le_of_ble_eq_true rfl) dX2_timeWhenFilled_5 8 rfl ?_
  refine q_iconst (v := 1) hC dX2_timeWhenFilled_8 rfl 9 rfl ?_
  refine q_isub hC dX2_timeWhenFilled_9 10 rfl ?_
  refine q_nameI (fun x1 ex1 => ?_)
  have hw := hw x1 ex1
  refine q_istore (L' := [(5, .int x1), (0, .int v0), (1, .int v1), (2, .int v2), (3, .int v3), (4, .int v4)]) hC dX2_timeWhenFilled_10 (by decide) rfl 12 rfl ?_
  refine q_iload_n hC dX2_timeWhenFilled_12 1 rfl 13 rfl ?_
  refine q_iload hC dX2_timeWhenFilled_13 0 rfl 15 rfl ?_
  refine q_iload_n hC dX2_timeWhenFilled_15 4 rfl 16 rfl ?_
  refine q_imul hC dX2_timeWhenFilled_16 17 rfl ?_
  refine q_mmax hC (List.mem_of_getElem? (i := 5) (by decide +kernel)) (List.mem_of_getElem? (i := 6) (by decide +kernel)) (List.mem_of_getElem? (i := 3) (by decide +kernel)) (List.mem_of_getElem? (i := 7) (by decide +kernel)) (by decide) (Nat.le_of_ble_eq_true rfl) dX2_timeWhenFilled_17 20 rfl ?_
  exact r_iret hR dX2_timeWhenFilled_20 hw
set_option maxRecDepth 100000 in
set_option maxHeartbeats 4000000 in
theorem ctX2_streamed (l : Launch) (g : GG) (M : MM) (b : Nat) (v1 : Int32) (v2 : Int32) (v3 : Int32) (v4 : Int32) (v5 : Int32) (Q : Int32 → MM → Prop) (hb : tpl g b) (hw : wX2_streamed Q M b v1 v2 v3 v4 v5) : MI g l yX2_streamed wsX2_streamed (rmOf 2 46) [.ref (gA g b), .int v1, .int v2, .int v3, .int v4, .int v5] M Q := by
  refine mk_MI (cc := cX2_streamed) (maxL := 10) (by decide) rfl (Nat.le_of_ble_eq_true rfl) ?_
  intro z Qf hC hR
  show XX z g Qf 10 0 [(0, .ref (gA g b)), (1, .int v1), (2, .int v2), (3, .int v3), (4, .int v4), (5, .int v5)] [] M
  have B69 : ∀ (K31 : MM → Int32 → Int32 → Int32 → Int32 → Prop) (hK31 : ∀ (M : MM) (v6 : Int32) (v7 : Int32) (v8 : Int32) (v9 : Int32) , K31 M v6 v7 v8 v9 → XX z g Qf 10 31 [(0, .ref (gA g b)), (1, .int v1), (3, .int v3), (4, .int v4), (5, .int v5), (6, .int v6), (7, .int v7), (8, .int v8), (9, .int v9)] [] M) (M : MM) (v6 : Int32) (v7 : Int32) (v8 : Int32) (v9 : Int32), wX2_streamed_69 Q K31 b v1 v2 v3 v4 v5 M v6 v7 v8 v9 → XX z g Qf 10 69 [(0, .ref (gA g b)), (1, .int v1), (3, .int v3), (4, .int v4), (5, .int v5), (6, .int v6), (7, .int v7), (8, .int v8), (9, .int v9)] [] M := by
    intro K31 hK31 M v6 v7 v8 v9 hw
    refine q_iload hC dX2_streamed_69 7 rfl 71 rfl ?_
    refine q_iload hC dX2_streamed_71 5 rfl 73 rfl ?_
    refine q_iadd hC dX2_streamed_73 74 rfl ?_
    refine q_istore (L' := [(8, .int (v8 + v6)), (0, .ref (gA g b)), (1, .int v1), (3, .int v3), (4, .int v4), (5, .int v5), (6, .int v6), (7, .int v7), (9, .int v9)]) hC dX2_streamed_74 (by decide) rfl 76 rfl ?_
    refine q_iinc (v := v9 + 1) (L' := [(9, .int (v9 + 1)), (8, .int (v8 + v6)), (0, .ref (gA g b)), (1, .int v1), (3, .int v3), (4, .int v4), (5, .int v5), (6, .int v6), (7, .int v7)]) hC dX2_streamed_76 8 rfl rfl (by decide) rfl 79 rfl ?_
    refine q_goto hC 31 dX2_streamed_79 (by decide) ?_
    exact XX.sub [2, 3, 4, 5, 6, 7, 8, 1, 0] rfl (hK31 M v6 v7 (v8 + v6) (v9 + 1) hw)
  have B31 : ∀ (n : Nat) (M : MM) (v6 : Int32) (v7 : Int32) (v8 : Int32) (v9 : Int32) , wX2_streamed_31 Q b v1 v2 v3 v4 v5 n M v6 v7 v8 v9 → XX z g Qf 10 31 [(0, .ref (gA g b)), (1, .int v1), (3, .int v3), (4, .int v4), (5, .int v5), (6, .int v6), (7, .int v7), (8, .int v8), (9, .int v9)] [] M := by
    intro n
    induction n with
    | zero =>
      intro M v6 v7 v8 v9 hw
      exact hw.elim
    | succ n ih =>
      intro M v6 v7 v8 v9 hw
      refine q_iload hC dX2_streamed_31 8 rfl 33 rfl ?_
      refine q_iload_n hC dX2_streamed_33 1 rfl 34 rfl ?_
      refine q_icmp_ge hC 82 dX2_streamed_34 (by decide) 37 rfl hw (fun hw => ?_) (fun hw => ?_)
      · refine q_iload hC dX2_streamed_82 4 rfl 84 rfl ?_
        refine q_if_eq hC 92 dX2_streamed_84 (by decide) 87 rfl hw (fun hw => ?_) (fun hw => ?_)
        · refine q_iload hC dX2_streamed_92 7 rfl 94 rfl ?_
          exact r_iret hR dX2_streamed_94 hw
        · refine q_iload hC dX2_streamed_87 6 rfl 89 rfl ?_
          refine q_goto hC 94 dX2_streamed_89 (by decide) ?_
          exact r_iret hR dX2_streamed_94 hw
      · refine q_iload hC dX2_streamed_37 8 rfl 39 rfl ?_
        refine q_iload_n hC dX2_streamed_39 2 rfl 40 rfl ?_
        refine q_imul hC dX2_streamed_40 41 rfl ?_
        refine q_iload hC dX2_streamed_41 7 rfl 43 rfl ?_
        refine q_icmp_le hC 69 dX2_streamed_43 (by decide) 46 rfl hw (fun hw => ?_) (fun hw => ?_)
        · exact XX.sub [0, 1, 2, 3, 4, 5, 6, 7, 8] rfl (B69 _ (fun M v6 v7 v8 v9 hw => ih M v6 v7 v8 v9 hw) M v6 v7 v8 v9 hw)
        · refine q_iinc (v := v7 + 1) (L' := [(7, .int (v7 + 1)), (0, .ref (gA g b)), (1, .int v1), (3, .int v3), (4, .int v4), (5, .int v5), (6, .int v6), (8, .int v8), (9, .int v9)]) hC dX2_streamed_46 6 rfl rfl (by decide) rfl 49 rfl ?_
          refine q_iload hC dX2_streamed_49 7 rfl 51 rfl ?_
          refine q_aload_n hC dX2_streamed_51 1 rfl 52 rfl ?_
          refine q_bipush (v := 8) hC dX2_streamed_52 (by decide) 54 rfl ?_
          refine r_callI hC (go_V (q := (RX2, TX2, 14)) (As := [.int 8]) (rest := [.int v8]) hC (ctX2_ruled (zl z) g M b 8 _ hb hw) 1 gX2_streamed_X2_ruled rfl ⟨rfl, rfl⟩ (by decide +kernel) ⟨Nat.le_of_ble_eq_true rfl, Nat.le_of_ble_eq_true rfl⟩ hb.ob rfl rfl rfl (Nat.le_of_ble_eq_true rfl) dX2_streamed_54) 57 rfl (fun r7 M8 hw => ?_)
          refine q_iadd hC dX2_streamed_57 58 rfl ?_
          refine q_iload hC dX2_streamed_58 8 rfl 60 rfl ?_
          refine q_iload_n hC dX2_streamed_60 2 rfl 61 rfl ?_
          refine q_iload_n hC dX2_streamed_61 3 rfl 62 rfl ?_
          refine q_iload hC dX2_streamed_62 4 rfl 64 rfl ?_
          refine r_callI hC (go_T (As := [.int (v8 + r7), .int v9, .int v1, .int v3, .int v4]) (rest := []) hC (ctX2_timeWhenFilled (zl z) g M8 (v8 + r7) v9 v1 v3 v4 _ hw) 5 gX2_streamed_X2_timeWhenFilled rfl ⟨rfl, rfl⟩ (by decide +kernel) ⟨Nat.le_of_ble_eq_true rfl, Nat.le_of_ble_eq_true rfl⟩ rfl rfl (Nat.le_of_ble_eq_true rfl) dX2_streamed_64) 67 rfl (fun r9 M10 hw => ?_)
          refine q_istore (L' := [(8, .int r9), (7, .int (v7 + 1)), (0, .ref (gA g b)), (1, .int v1), (3, .int v3), (4, .int v4), (5, .int v5), (6, .int v6), (9, .int v9)]) hC dX2_streamed_67 (by decide) rfl 69 rfl ?_
          exact XX.sub [2, 3, 4, 5, 6, 7, 1, 0, 8] rfl (B69 _ (fun M v6 v7 v8 v9 hw => ih M v6 v7 v8 v9 hw) M10 v6 (v7 + 1) r9 v9 hw)
  refine q_aload_n hC dX2_streamed_0 0 rfl 1 rfl ?_
  refine q_iload_n hC dX2_streamed_1 2 rfl 2 rfl ?_
  refine q_aload_n hC dX2_streamed_2 0 rfl 3 rfl ?_
  refine q_bipush (v := 6) hC dX2_streamed_3 (by decide) 5 rfl ?_
  refine r_callI hC (go_V (q := (RX2, TX2, 14)) (As := [.int 6]) (rest := [.int v2, .ref (gA g b)]) hC (ctX2_ruled (zl z) g M b 6 _ hb hw) 1 gX2_streamed_X2_ruled rfl ⟨rfl, rfl⟩ (by decide +kernel) ⟨Nat.le_of_ble_eq_true rfl, Nat.le_of_ble_eq_true rfl⟩ hb.ob rfl rfl rfl (Nat.le_of_ble_eq_true rfl) dX2_streamed_5) 8 rfl (fun r1 M2 hw => ?_)
  refine q_iadd hC dX2_streamed_8 9 rfl ?_
  refine r_callI hC (go_V (q := (RX2, TX2, 14)) (As := [.int (v2 + r1)]) (rest := []) hC (ctX2_playedThrough (zl z) g M2 b (v2 + r1) _ hb hw) 1 gX2_streamed_X2_playedThrough rfl ⟨rfl, rfl⟩ (by decide +kernel) ⟨Nat.le_of_ble_eq_true rfl, Nat.le_of_ble_eq_true rfl⟩ hb.ob rfl rfl rfl (Nat.le_of_ble_eq_true rfl) dX2_streamed_9) 12 rfl (fun r3 M4 hw => ?_)
  refine q_istore (L' := [(6, .int r3), (0, .ref (gA g b)), (1, .int v1), (2, .int v2), (3, .int v3), (4, .int v4), (5, .int v5)]) hC dX2_streamed_12 (by decide) rfl 14 rfl ?_
  refine q_iconst (v := 0) hC dX2_streamed_14 rfl 15 rfl ?_
  refine q_istore (L' := [(7, .int 0), (6, .int r3), (0, .ref (gA g b)), (1, .int v1), (2, .int v2), (3, .int v3), (4, .int v4), (5, .int v5)]) hC dX2_streamed_15 (by decide) rfl 17 rfl ?_
  refine q_iconst (v := 0) hC dX2_streamed_17 rfl 18 rfl ?_
  refine q_iconst (v := 0) hC dX2_streamed_18 rfl 19 rfl ?_
  refine q_iload_n hC dX2_streamed_19 3 rfl 20 rfl ?_
  refine q_iload_n hC dX2_streamed_20 5 rfl 21 rfl ?_
  refine q_iload hC dX2_streamed_21 6 rfl 23 rfl ?_
  refine r_callI hC (go_T (As := [.int 0, .int 0, .int v1, .int v3, .int v4]) (rest := []) hC (ctX2_timeWhenFilled (zl z) g M4 0 0 v1 v3 v4 _ hw) 5 gX2_streamed_X2_timeWhenFilled rfl ⟨rfl, rfl⟩ (by decide +kernel) ⟨Nat.le_of_ble_eq_true rfl, Nat.le_of_ble_eq_true rfl⟩ rfl rfl (Nat.le_of_ble_eq_true rfl) dX2_streamed_23) 26 rfl (fun r5 M6 hw => ?_)
  refine q_istore (L' := [(8, .int r5), (7, .int 0), (6, .int r3), (0, .ref (gA g b)), (1, .int v1), (2, .int v2), (3, .int v3), (4, .int v4), (5, .int v5)]) hC dX2_streamed_26 (by decide) rfl 28 rfl ?_
  refine q_iconst (v := 0) hC dX2_streamed_28 rfl 29 rfl ?_
  refine q_istore (L' := [(9, .int 0), (8, .int r5), (7, .int 0), (6, .int r3), (0, .ref (gA g b)), (1, .int v1), (2, .int v2), (3, .int v3), (4, .int v4), (5, .int v5)]) hC dX2_streamed_29 (by decide) rfl 31 rfl ?_
  obtain ⟨n0, hw⟩ := hw
  exact XX.sub [4, 5, 7, 8, 9, 3, 2, 1, 0] rfl (B31 n0 M6 r3 0 r5 0 hw)
set_option maxRecDepth 20000 in
theorem inX2_addSeen_X2 : ∀ w ∈ u_ws RX2 TX2 14, w ∈ wsX2_addSeen := by decide +kernel
set_option maxRecDepth 100000 in
set_option maxHeartbeats 4000000 in
theorem ctX2_addSeen (l : Launch) (g : GG) (M : MM) (b : Nat) (v1 : Int32) (v2 : Int32) (Q : Int32 → MM → Prop) (hb : tpl g b) (hw : wX2_addSeen Q M b v1 v2) : MI g l yX2_addSeen wsX2_addSeen (rmOf 1 22) [.ref (gA g b), .int v1, .int v2] M Q := by
  refine mk_MI (cc := cX2_addSeen) (maxL := 3) (by decide) rfl (Nat.le_of_ble_eq_true rfl) ?_
  intro z Qf hC hR
  show XX z g Qf 3 0 [(0, .ref (gA g b)), (1, .int v1), (2, .int v2)] [] M
  refine q_aload_n hC dX2_addSeen_0 0 rfl 1 rfl ?_
  refine q_getR (C := RX2) (T := TX2) (N := 14) (ci := 2) hC inX2_addSeen_X2 hb.ob rfl 6 (by decide) (List.mem_of_getElem? (i := 1) (by decide +kernel)) rfl (b + 7) (fun _ => rfl) dX2_addSeen_1 4 rfl ?_
  refine q_aload_n hC dX2_addSeen_4 0 rfl 5 rfl ?_
  refine q_getI (C := RX2) (T := TX2) (N := 14) (ci := 2) hC inX2_addSeen_X2 hb.ob rfl 13 (by decide) (List.mem_of_getElem? (i := 2) (by decide +kernel)) rfl (fun _ => rfl) dX2_addSeen_5 8 rfl ?_
  refine q_iload_n hC dX2_addSeen_8 1 rfl 9 rfl ?_
  refine r_callV hC (go_N (As := [.ref (gA g (b + 7)), .int (M b 13), .int v1]) (rest := []) hC (ctX4_setCell (zl z) g M (b + 7) (M b 13) v1 _ (hb.ar 7 (by decide) (by decide)) hw) 3 gX2_addSeen_X4_setCell_n139 rfl ⟨rfl, rfl⟩ 7 rfl (List.mem_of_getElem? (i := 5) (by decide +kernel)) (List.mem_of_getElem? (i := 4) (by decide +kernel)) (by decide +kernel) ⟨Nat.le_of_ble_eq_true rfl, Nat.le_of_ble_eq_true rfl⟩ rfl rfl (Nat.le_of_ble_eq_true rfl) dX2_addSeen_9) 12 rfl (fun M1 hw => ?_)
  refine q_aload_n hC dX2_addSeen_12 0 rfl 13 rfl ?_
  refine q_getR (C := RX2) (T := TX2) (N := 14) (ci := 2) hC inX2_addSeen_X2 hb.ob rfl 7 (by decide) (List.mem_of_getElem? (i := 3) (by decide +kernel)) rfl (b + 8) (fun _ => rfl) dX2_addSeen_13 16 rfl ?_
  refine q_aload_n hC dX2_addSeen_16 0 rfl 17 rfl ?_
  refine q_getI (C := RX2) (T := TX2) (N := 14) (ci := 2) hC inX2_addSeen_X2 hb.ob rfl 13 (by decide) (List.mem_of_getElem? (i := 2) (by decide +kernel)) rfl (fun _ => rfl) dX2_addSeen_17 20 rfl ?_
  refine q_iload_n hC dX2_addSeen_20 2 rfl 21 rfl ?_
  refine r_callV hC (go_N (As := [.ref (gA g (b + 8)), .int (M1 b 13), .int v2]) (rest := []) hC (ctX4_setCell (zl z) g M1 (b + 8) (M1 b 13) v2 _ (hb.ar 8 (by decide) (by decide)) hw) 3 gX2_addSeen_X4_setCell_n139 rfl ⟨rfl, rfl⟩ 7 rfl (List.mem_of_getElem? (i := 5) (by decide +kernel)) (List.mem_of_getElem? (i := 4) (by decide +kernel)) (by decide +kernel) ⟨Nat.le_of_ble_eq_true rfl, Nat.le_of_ble_eq_true rfl⟩ rfl rfl (Nat.le_of_ble_eq_true rfl) dX2_addSeen_21) 24 rfl (fun M2 hw => ?_)
  refine q_aload_n hC dX2_addSeen_24 0 rfl 25 rfl ?_
  refine q_dup hC dX2_addSeen_25 rfl 26 rfl ?_
  refine q_getI (C := RX2) (T := TX2) (N := 14) (ci := 2) hC inX2_addSeen_X2 hb.ob rfl 13 (by decide) (List.mem_of_getElem? (i := 2) (by decide +kernel)) rfl (fun _ => rfl) dX2_addSeen_26 29 rfl ?_
  refine q_iconst (v := 1) hC dX2_addSeen_29 rfl 30 rfl ?_
  refine q_iadd hC dX2_addSeen_30 31 rfl ?_
  refine q_putI (C := RX2) (T := TX2) (N := 14) (ci := 2) hC inX2_addSeen_X2 tyX2 tyX2_ok nmX2 hb.ob rfl 13 (by decide) (List.mem_of_getElem? (i := 2) (by decide +kernel)) rfl rfl rfl (fun _ => Nat.le_of_ble_eq_true rfl) (fun _ => rfl) dX2_addSeen_31 34 rfl (fun M3 eM3 => ?_)
  have hw := hw M3 eM3
  refine q_aload_n hC dX2_addSeen_34 0 rfl 35 rfl ?_
  refine q_getI (C := RX2) (T := TX2) (N := 14) (ci := 2) hC inX2_addSeen_X2 hb.ob rfl 13 (by decide) (List.mem_of_getElem? (i := 2) (by decide +kernel)) rfl (fun _ => rfl) dX2_addSeen_35 38 rfl ?_
  exact r_iret hR dX2_addSeen_38 hw
set_option maxRecDepth 20000 in
theorem inX2_canBe_X2 : ∀ w ∈ u_ws RX2 TX2 14, w ∈ wsX2_canBe := by decide +kernel
set_option maxRecDepth 100000 in
set_option maxHeartbeats 4000000 in
theorem ctX2_canBe (l : Launch) (g : GG) (M : MM) (b : Nat) (v1 : Int32) (v2 : Int32) (Q : Int32 → MM → Prop) (hb : tpl g b) (hw : wX2_canBe Q M b v1 v2) : MI g l yX2_canBe wsX2_canBe (rmOf 1 22) [.ref (gA g b), .int v1, .int v2] M Q := by
  refine mk_MZ (cc := cX2_canBe) (maxL := 6) (by decide) rfl (Nat.le_of_ble_eq_true rfl) ?_
  intro z Qf hC hR
  show XX z g Qf 6 0 [(0, .ref (gA g b)), (1, .int v1), (2, .int v2)] [] M
  have B2 : ∀ (n : Nat) (M : MM) (v3 : Int32) , wX2_canBe_2 Q b v1 v2 n M v3 → XX z g Qf 6 2 [(0, .ref (gA g b)), (1, .int v1), (2, .int v2), (3, .int v3)] [] M := by
    intro n
    induction n with
    | zero =>
      intro M v3 hw
      exact hw.elim
    | succ n ih =>
      intro M v3 hw
      refine q_iload_n hC dX2_canBe_2 3 rfl 3 rfl ?_
      refine q_aload_n hC dX2_canBe_3 0 rfl 4 rfl ?_
      refine q_getI (C := RX2) (T := TX2) (N := 14) (ci := 2) hC inX2_canBe_X2 hb.ob rfl 13 (by decide) (List.mem_of_getElem? (i := 1) (by decide +kernel)) rfl (fun _ => rfl) dX2_canBe_4 7 rfl ?_
      refine q_icmp_ge hC 64 dX2_canBe_7 (by decide) 10 rfl hw (fun hw => ?_) (fun hw => ?_)
      · refine q_iconst (v := 1) hC dX2_canBe_64 rfl 65 rfl ?_
        exact r_iret hR dX2_canBe_65 ⟨nb_1, hw⟩
      · refine q_aload_n hC dX2_canBe_10 0 rfl 11 rfl ?_
        refine q_getR (C := RX2) (T := TX2) (N := 14) (ci := 2) hC inX2_canBe_X2 hb.ob rfl 6 (by decide) (List.mem_of_getElem? (i := 2) (by decide +kernel)) rfl (b + 7) (fun _ => rfl) dX2_canBe_11 14 rfl ?_
        refine q_iload_n hC dX2_canBe_14 3 rfl 15 rfl ?_
        refine r_callI hC (go_N (As := [.ref (gA g (b + 7)), .int v3]) (rest := []) hC (ctX4_cell (zl z) g M (b + 7) v3 _ (hb.ar 7 (by decide) (by decide)) hw) 2 gX2_canBe_X4_cell_n114 rfl ⟨rfl, rfl⟩ 5 rfl (List.mem_of_getElem? (i := 5) (by decide +kernel)) (List.mem_of_getElem? (i := 4) (by decide +kernel)) (by decide +kernel) ⟨Nat.le_of_ble_eq_true rfl, Nat.le_of_ble_eq_true rfl⟩ rfl rfl (Nat.le_of_ble_eq_true rfl) dX2_canBe_15) 18 rfl (fun r1 M2 hw => ?_)
        refine q_istore (L' := [(4, .int r1), (0, .ref (gA g b)), (1, .int v1), (2, .int v2), (3, .int v3)]) hC dX2_canBe_18 (by decide) rfl 20 rfl ?_
        refine q_aload_n hC dX2_canBe_20 1 rfl 21 rfl ?_
        refine q_getR (C := RX2) (T := TX2) (N := 14) (ci := 2) hC inX2_canBe_X2 hb.ob rfl 7 (by decide) (List.mem_of_getElem? (i := 3) (by decide +kernel)) rfl (b + 8) (fun _ => rfl) dX2_canBe_21 24 rfl ?_
        refine q_iload_n hC dX2_canBe_24 4 rfl 25 rfl ?_
        refine r_callI hC (go_N (As := [.ref (gA g (b + 8)), .int v3]) (rest := []) hC (ctX4_cell (zl z) g M2 (b + 8) v3 _ (hb.ar 8 (by decide) (by decide)) hw) 2 gX2_canBe_X4_cell_n114 rfl ⟨rfl, rfl⟩ 5 rfl (List.mem_of_getElem? (i := 5) (by decide +kernel)) (List.mem_of_getElem? (i := 4) (by decide +kernel)) (by decide +kernel) ⟨Nat.le_of_ble_eq_true rfl, Nat.le_of_ble_eq_true rfl⟩ rfl rfl (Nat.le_of_ble_eq_true rfl) dX2_canBe_25) 28 rfl (fun r3 M4 hw => ?_)
        refine q_istore (L' := [(5, .int r3), (4, .int r1), (0, .ref (gA g b)), (1, .int v1), (2, .int v2), (3, .int v3)]) hC dX2_canBe_28 (by decide) rfl 30 rfl ?_
        refine q_iload hC dX2_canBe_30 0 rfl 32 rfl ?_
        refine q_iload hC dX2_canBe_32 1 rfl 34 rfl ?_
        refine q_iload_n hC dX2_canBe_34 3 rfl 35 rfl ?_
        refine q_iload_n hC dX2_canBe_35 4 rfl 36 rfl ?_
        refine r_callI hC (go_N (As := [.int r1, .int v1, .int v2]) (rest := [.int r3]) hC (ctX4_lengthOfTurns (zl z) g M4 r1 v1 v2 _ hw) 3 gX2_canBe_X4_lengthOfTurns_n73 rfl ⟨rfl, rfl⟩ 10 rfl (List.mem_of_getElem? (i := 5) (by decide +kernel)) (List.mem_of_getElem? (i := 7) (by decide +kernel)) (by decide +kernel) ⟨Nat.le_of_ble_eq_true rfl, Nat.le_of_ble_eq_true rfl⟩ rfl rfl (Nat.le_of_ble_eq_true rfl) dX2_canBe_36) 39 rfl (fun r5 M6 hw => ?_)
        refine q_icmp_lt hC 56 dX2_canBe_39 (by decide) 42 rfl hw (fun hw => ?_) (fun hw => ?_)
        · refine q_iconst (v := 0) hC dX2_canBe_56 rfl 57 rfl ?_
          exact r_iret hR dX2_canBe_57 ⟨nb_0, hw⟩
        · refine q_iload hC dX2_canBe_42 0 rfl 44 rfl ?_
          refine q_iload hC dX2_canBe_44 1 rfl 46 rfl ?_
          refine q_iconst (v := 1) hC dX2_canBe_46 rfl 47 rfl ?_
          refine q_iadd hC dX2_canBe_47 48 rfl ?_
          refine q_iload_n hC dX2_canBe_48 3 rfl 49 rfl ?_
          refine q_iload_n hC dX2_canBe_49 4 rfl 50 rfl ?_
          refine r_callI hC (go_N (As := [.int (r1 + (1 : Int32)), .int v1, .int v2]) (rest := [.int r3]) hC (ctX4_lengthOfTurns (zl z) g M6 (r1 + (1 : Int32)) v1 v2 _ hw) 3 gX2_canBe_X4_lengthOfTurns_n73 rfl ⟨rfl, rfl⟩ 10 rfl (List.mem_of_getElem? (i := 5) (by decide +kernel)) (List.mem_of_getElem? (i := 7) (by decide +kernel)) (by decide +kernel) ⟨Nat.le_of_ble_eq_true rfl, Nat.le_of_ble_eq_true rfl⟩ rfl rfl (Nat.le_of_ble_eq_true rfl) dX2_canBe_50) 53 rfl (fun r7 M8 hw => ?_)
          refine q_icmp_lt hC 58 dX2_canBe_53 (by decide) 56 rfl hw (fun hw => ?_) (fun hw => ?_)
          · refine q_iinc (v := v3 + 1) (L' := [(3, .int (v3 + 1)), (5, .int r3), (4, .int r1), (0, .ref (gA g b)), (1, .int v1), (2, .int v2)]) hC dX2_canBe_58 5 rfl rfl (by decide) rfl 61 rfl ?_
            refine q_goto hC 2 dX2_canBe_61 (by decide) ?_
            exact XX.sub [3, 4, 5, 0] rfl (ih M8 (v3 + 1) hw)
          · refine q_iconst (v := 0) hC dX2_canBe_56 rfl 57 rfl ?_
            exact r_iret hR dX2_canBe_57 ⟨nb_0, hw⟩
  refine q_iconst (v := 0) hC dX2_canBe_0 rfl 1 rfl ?_
  refine q_istore_n (L' := [(3, .int 0), (0, .ref (gA g b)), (1, .int v1), (2, .int v2)]) hC dX2_canBe_1 (by decide) rfl 2 rfl ?_
  obtain ⟨n0, hw⟩ := hw
  exact XX.sub [1, 2, 3, 0] rfl (B2 n0 M 0 hw)
set_option maxRecDepth 20000 in
theorem inX1_isNothing_X1 : ∀ w ∈ u_ws RX1 TX1 3, w ∈ wsX1_isNothing := by decide +kernel
set_option maxRecDepth 100000 in
set_option maxHeartbeats 4000000 in
theorem ctX1_isNothing (l : Launch) (g : GG) (M : MM) (b : Nat) (Q : Int32 → MM → Prop) (hb : shl g b) (hw : wX1_isNothing Q M b) : MI g l yX1_isNothing wsX1_isNothing (rmOf 0 0) [.ref (gA g b)] M Q := by
  refine mk_MZ (cc := cX1_isNothing) (maxL := 1) (by decide) rfl (Nat.le_of_ble_eq_true rfl) ?_
  intro z Qf hC hR
  show XX z g Qf 1 0 [(0, .ref (gA g b))] [] M
  refine q_aload_n hC dX1_isNothing_0 0 rfl 1 rfl ?_
  refine q_getI (C := RX1) (T := TX1) (N := 3) (ci := 1) hC inX1_isNothing_X1 hb.ob rfl 1 (by decide) (List.mem_of_getElem? (i := 1) (by decide +kernel)) rfl (fun _ => rfl) dX1_isNothing_1 4 rfl ?_
  refine q_iconst (v := (-1)) hC dX1_isNothing_4 rfl 5 rfl ?_
  refine q_icmp_ne hC 12 dX1_isNothing_5 (by decide) 8 rfl hw (fun hw => ?_) (fun hw => ?_)
  · refine q_iconst (v := 0) hC dX1_isNothing_12 rfl 13 rfl ?_
    exact r_iret hR dX1_isNothing_13 ⟨nb_0, hw⟩
  · refine q_iconst (v := 1) hC dX1_isNothing_8 rfl 9 rfl ?_
    refine q_goto hC 13 dX1_isNothing_9 (by decide) ?_
    exact r_iret hR dX1_isNothing_13 ⟨nb_1, hw⟩
set_option maxRecDepth 20000 in
theorem inX1_makeNew_X1 : ∀ w ∈ u_ws RX1 TX1 3, w ∈ wsX1_makeNew := by decide +kernel
set_option maxRecDepth 100000 in
set_option maxHeartbeats 4000000 in
theorem ctX1_makeNew (l : Launch) (g : GG) (M : MM) (b : Nat) (v1 : Int32) (v2 : Int32) (Q : MM → Prop) (hb : shl g b) (hw : wX1_makeNew Q M b v1 v2) : MV g l yX1_makeNew wsX1_makeNew (rmOf 1 22) [.ref (gA g b), .int v1, .int v2] M Q := by
  refine mk_MV (cc := cX1_makeNew) (maxL := 4) (by decide) rfl (Nat.le_of_ble_eq_true rfl) ?_
  intro z Qf hC hR
  show XX z g Qf 4 0 [(0, .ref (gA g b)), (1, .int v1), (2, .int v2)] [] M
  have B12 : ∀ (n : Nat) (M : MM) (v3 : Int32) , wX1_makeNew_12 Q b v1 v2 n M v3 → XX z g Qf 4 12 [(0, .ref (gA g b)), (3, .int v3)] [] M := by
    intro n
    induction n with
    | zero =>
      intro M v3 hw
      exact hw.elim
    | succ n ih =>
      intro M v3 hw
      refine q_iload_n hC dX1_makeNew_12 1 rfl 13 rfl ?_
      refine q_bipush (v := 40) hC dX1_makeNew_13 (by decide) 15 rfl ?_
      refine q_icmp_ge hC 33 dX1_makeNew_15 (by decide) 18 rfl hw (fun hw => ?_) (fun hw => ?_)
      · exact r_vret hR dX1_makeNew_33 hw
      · refine q_aload_n hC dX1_makeNew_18 0 rfl 19 rfl ?_
        refine q_getR (C := RX1) (T := TX1) (N := 3) (ci := 1) hC inX1_makeNew_X1 hb.ob rfl 0 (by decide) (List.mem_of_getElem? (i := 3) (by decide +kernel)) rfl (b + 1) (fun _ => rfl) dX1_makeNew_19 22 rfl ?_
        refine q_iload_n hC dX1_makeNew_22 1 rfl 23 rfl ?_
        refine q_iconst (v := 0) hC dX1_makeNew_23 rfl 24 rfl ?_
        refine r_callV hC (go_N (As := [.ref (gA g (b + 1)), .int v3, .int 0]) (rest := []) hC (ctX4_setCell (zl z) g M (b + 1) v3 0 _ hb.ar hw) 3 gX1_makeNew_X4_setCell_n22 rfl ⟨rfl, rfl⟩ 2 rfl (List.mem_of_getElem? (i := 5) (by decide +kernel)) (List.mem_of_getElem? (i := 4) (by decide +kernel)) (by decide +kernel) ⟨Nat.le_of_ble_eq_true rfl, Nat.le_of_ble_eq_true rfl⟩ rfl rfl (Nat.le_of_ble_eq_true rfl) dX1_makeNew_24) 27 rfl (fun M3 hw => ?_)
        refine q_iinc (v := v3 + 1) (L' := [(3, .int (v3 + 1)), (0, .ref (gA g b))]) hC dX1_makeNew_27 1 rfl rfl (by decide) rfl 30 rfl ?_
        refine q_goto hC 12 dX1_makeNew_30 (by decide) ?_
        exact XX.sub [1, 0] rfl (ih M3 (v3 + 1) hw)
  refine q_aload_n hC dX1_makeNew_0 0 rfl 1 rfl ?_
  refine q_iload_n hC dX1_makeNew_1 1 rfl 2 rfl ?_
  refine q_putI (C := RX1) (T := TX1) (N := 3) (ci := 1) hC inX1_makeNew_X1 tyX1 tyX1_ok nmX1 hb.ob rfl 1 (by decide) (List.mem_of_getElem? (i := 1) (by decide +kernel)) rfl rfl rfl (fun _ => Nat.le_of_ble_eq_true rfl) (fun _ => rfl) dX1_makeNew_2 5 rfl (fun M1 eM1 => ?_)
  have hw := hw M1 eM1
  refine q_aload_n hC dX1_makeNew_5 0 rfl 6 rfl ?_
  refine q_iload_n hC dX1_makeNew_6 2 rfl 7 rfl ?_
  refine q_putI (C := RX1) (T := TX1) (N := 3) (ci := 1) hC inX1_makeNew_X1 tyX1 tyX1_ok nmX1 hb.ob rfl 2 (by decide) (List.mem_of_getElem? (i := 2) (by decide +kernel)) rfl rfl rfl (fun _ => Nat.le_of_ble_eq_true rfl) (fun _ => rfl) dX1_makeNew_7 10 rfl (fun M2 eM2 => ?_)
  have hw := hw M2 eM2
  refine q_iconst (v := 0) hC dX1_makeNew_10 rfl 11 rfl ?_
  refine q_istore_n (L' := [(3, .int 0), (0, .ref (gA g b)), (1, .int v1), (2, .int v2)]) hC dX1_makeNew_11 (by decide) rfl 12 rfl ?_
  obtain ⟨n0, hw⟩ := hw
  exact XX.sub [1, 0] rfl (B12 n0 M2 0 hw)
set_option maxRecDepth 20000 in
theorem inX1_faultOf_X1 : ∀ w ∈ u_ws RX1 TX1 3, w ∈ wsX1_faultOf := by decide +kernel
set_option maxRecDepth 100000 in
set_option maxHeartbeats 4000000 in
theorem ctX1_faultOf (l : Launch) (g : GG) (M : MM) (b : Nat) (v1 : Int32) (v2 : Int32) (Q : Int32 → MM → Prop) (hb : shl g b) (hw : wX1_faultOf Q M b v1 v2) : MI g l yX1_faultOf wsX1_faultOf (rmOf 1 22) [.ref (gA g b), .int v1, .int v2] M Q := by
  refine mk_MI (cc := cX1_faultOf) (maxL := 3) (by decide) rfl (Nat.le_of_ble_eq_true rfl) ?_
  intro z Qf hC hR
  show XX z g Qf 3 0 [(0, .ref (gA g b)), (1, .int v1), (2, .int v2)] [] M
  refine q_aload_n hC dX1_faultOf_0 0 rfl 1 rfl ?_
  refine r_callI hC (go_V (q := (RX1, TX1, 3)) (As := []) (rest := []) hC (ctX1_isNothing (zl z) g M b _ hb hw) 0 gX1_faultOf_X1_isNothing rfl ⟨rfl, rfl⟩ (by decide +kernel) ⟨Nat.le_of_ble_eq_true rfl, Nat.le_of_ble_eq_true rfl⟩ hb.ob rfl rfl rfl (Nat.le_of_ble_eq_true rfl) dX1_faultOf_1) 4 rfl (fun r1 M2 hw => ?_)
  refine q_if_eq hC 9 dX1_faultOf_4 (by decide) 7 rfl hw (fun hw => ?_) (fun hw => ?_)
  · refine q_iload_n hC dX1_faultOf_9 1 rfl 10 rfl ?_
    refine q_aload_n hC dX1_faultOf_10 0 rfl 11 rfl ?_
    refine q_getI (C := RX1) (T := TX1) (N := 3) (ci := 1) hC inX1_faultOf_X1 hb.ob rfl 1 (by decide) (List.mem_of_getElem? (i := 1) (by decide +kernel)) rfl (fun _ => rfl) dX1_faultOf_11 14 rfl ?_
    refine q_icmp_eq hC 19 dX1_faultOf_14 (by decide) 17 rfl hw (fun hw => ?_) (fun hw => ?_)
    · refine q_iload_n hC dX1_faultOf_19 2 rfl 20 rfl ?_
      refine q_iconst (v := 0) hC dX1_faultOf_20 rfl 21 rfl ?_
      refine q_aload_n hC dX1_faultOf_21 0 rfl 22 rfl ?_
      refine q_getI (C := RX1) (T := TX1) (N := 3) (ci := 1) hC inX1_faultOf_X1 hb.ob rfl 2 (by decide) (List.mem_of_getElem? (i := 2) (by decide +kernel)) rfl (fun _ => rfl) dX1_faultOf_22 25 rfl ?_
      refine q_iconst (v := 1) hC dX1_faultOf_25 rfl 26 rfl ?_
      refine q_isub hC dX1_faultOf_26 27 rfl ?_
      refine r_callI hC (go_N (As := [.int v2, .int 0, .int ((M2 b 2) - (1 : Int32))]) (rest := []) hC (ctX4_isBetween (zl z) g M2 v2 0 ((M2 b 2) - (1 : Int32)) _ hw) 3 gX1_faultOf_X4_isBetween_n30 rfl ⟨rfl, rfl⟩ 3 rfl (List.mem_of_getElem? (i := 9) (by decide +kernel)) (List.mem_of_getElem? (i := 8) (by decide +kernel)) (by decide +kernel) ⟨Nat.le_of_ble_eq_true rfl, Nat.le_of_ble_eq_true rfl⟩ rfl rfl (Nat.le_of_ble_eq_true rfl) dX1_faultOf_27) 30 rfl (fun r3 M4 hw => ?_)
      refine q_if_eq hC 37 dX1_faultOf_30 (by decide) 33 rfl hw (fun hw => ?_) (fun hw => ?_)
      · refine q_iconst (v := 2) hC dX1_faultOf_37 rfl 38 rfl ?_
        exact r_iret hR dX1_faultOf_38 hw
      · refine q_iconst (v := 0) hC dX1_faultOf_33 rfl 34 rfl ?_
        refine q_goto hC 38 dX1_faultOf_34 (by decide) ?_
        exact r_iret hR dX1_faultOf_38 hw
    · refine q_iconst (v := 3) hC dX1_faultOf_17 rfl 18 rfl ?_
      exact r_iret hR dX1_faultOf_18 hw
  · refine q_iconst (v := 1) hC dX1_faultOf_7 rfl 8 rfl ?_
    exact r_iret hR dX1_faultOf_8 hw
set_option maxRecDepth 20000 in
theorem inX1_cellAt_X1 : ∀ w ∈ u_ws RX1 TX1 3, w ∈ wsX1_cellAt := by decide +kernel
set_option maxRecDepth 100000 in
set_option maxHeartbeats 4000000 in
theorem ctX1_cellAt (l : Launch) (g : GG) (M : MM) (b : Nat) (v1 : Int32) (Q : Int32 → MM → Prop) (hb : shl g b) (hw : wX1_cellAt Q M b v1) : MI g l yX1_cellAt wsX1_cellAt (rmOf 1 21) [.ref (gA g b), .int v1] M Q := by
  refine mk_MI (cc := cX1_cellAt) (maxL := 2) (by decide) rfl (Nat.le_of_ble_eq_true rfl) ?_
  intro z Qf hC hR
  show XX z g Qf 2 0 [(0, .ref (gA g b)), (1, .int v1)] [] M
  refine q_aload_n hC dX1_cellAt_0 0 rfl 1 rfl ?_
  refine q_getR (C := RX1) (T := TX1) (N := 3) (ci := 1) hC inX1_cellAt_X1 hb.ob rfl 0 (by decide) (List.mem_of_getElem? (i := 1) (by decide +kernel)) rfl (b + 1) (fun _ => rfl) dX1_cellAt_1 4 rfl ?_
  refine q_iload_n hC dX1_cellAt_4 1 rfl 5 rfl ?_
  refine r_callI hC (go_N (As := [.ref (gA g (b + 1)), .int v1]) (rest := []) hC (ctX4_cell (zl z) g M (b + 1) v1 _ hb.ar hw) 2 gX1_cellAt_X4_cell_n34 rfl ⟨rfl, rfl⟩ 4 rfl (List.mem_of_getElem? (i := 3) (by decide +kernel)) (List.mem_of_getElem? (i := 2) (by decide +kernel)) (by decide +kernel) ⟨Nat.le_of_ble_eq_true rfl, Nat.le_of_ble_eq_true rfl⟩ rfl rfl (Nat.le_of_ble_eq_true rfl) dX1_cellAt_5) 8 rfl (fun r1 M2 hw => ?_)
  exact r_iret hR dX1_cellAt_8 hw
set_option maxRecDepth 20000 in
theorem inX1_put_X1 : ∀ w ∈ u_ws RX1 TX1 3, w ∈ wsX1_put := by decide +kernel
set_option maxRecDepth 100000 in
set_option maxHeartbeats 4000000 in
theorem ctX1_put (l : Launch) (g : GG) (M : MM) (b : Nat) (v1 : Int32) (v2 : Int32) (Q : MM → Prop) (hb : shl g b) (hw : wX1_put Q M b v1 v2) : MV g l yX1_put wsX1_put (rmOf 1 22) [.ref (gA g b), .int v1, .int v2] M Q := by
  refine mk_MV (cc := cX1_put) (maxL := 4) (by decide) rfl (Nat.le_of_ble_eq_true rfl) ?_
  intro z Qf hC hR
  show XX z g Qf 4 0 [(0, .ref (gA g b)), (1, .int v1), (2, .int v2)] [] M
  have B26 : ∀ (M : MM) (p0 : Int32), wX1_put_26 Q b v1 v2 M p0 → XX z g Qf 4 26 [(0, .ref (gA g b)), (1, .int v1)] [.int p0] M := by
    intro M p0 hw
    refine q_istore_n (L' := [(3, .int p0), (0, .ref (gA g b)), (1, .int v1)]) hC dX1_put_26 (by decide) rfl 27 rfl ?_
    refine q_aload_n hC dX1_put_27 1 rfl 28 rfl ?_
    refine q_getR (C := RX1) (T := TX1) (N := 3) (ci := 1) hC inX1_put_X1 hb.ob rfl 0 (by decide) (List.mem_of_getElem? (i := 2) (by decide +kernel)) rfl (b + 1) (fun _ => rfl) dX1_put_28 31 rfl ?_
    refine q_iload_n hC dX1_put_31 2 rfl 32 rfl ?_
    refine q_iload_n hC dX1_put_32 0 rfl 33 rfl ?_
    refine r_callV hC (go_N (As := [.ref (gA g (b + 1)), .int v1, .int p0]) (rest := []) hC (ctX4_setCell (zl z) g M (b + 1) v1 p0 _ hb.ar hw) 3 gX1_put_X4_setCell_n22 rfl ⟨rfl, rfl⟩ 2 rfl (List.mem_of_getElem? (i := 4) (by decide +kernel)) (List.mem_of_getElem? (i := 3) (by decide +kernel)) (by decide +kernel) ⟨Nat.le_of_ble_eq_true rfl, Nat.le_of_ble_eq_true rfl⟩ rfl rfl (Nat.le_of_ble_eq_true rfl) dX1_put_33) 36 rfl (fun M1 hw => ?_)
    exact r_vret hR dX1_put_36 hw
  refine q_aload_n hC dX1_put_0 0 rfl 1 rfl ?_
  refine q_getI (C := RX1) (T := TX1) (N := 3) (ci := 1) hC inX1_put_X1 hb.ob rfl 1 (by decide) (List.mem_of_getElem? (i := 1) (by decide +kernel)) rfl (fun _ => rfl) dX1_put_1 4 rfl ?_
  refine q_if_ne hC 12 dX1_put_4 (by decide) 7 rfl hw (fun hw => ?_) (fun hw => ?_)
  · refine q_aload_n hC dX1_put_12 0 rfl 13 rfl ?_
    refine q_getI (C := RX1) (T := TX1) (N := 3) (ci := 1) hC inX1_put_X1 hb.ob rfl 1 (by decide) (List.mem_of_getElem? (i := 1) (by decide +kernel)) rfl (fun _ => rfl) dX1_put_13 16 rfl ?_
    refine q_iconst (v := 1) hC dX1_put_16 rfl 17 rfl ?_
    refine q_icmp_ne hC 25 dX1_put_17 (by decide) 20 rfl hw (fun hw => ?_) (fun hw => ?_)
    · refine q_iload_n hC dX1_put_25 2 rfl 26 rfl ?_
      exact XX.sub [0, 1] rfl (B26 M v2 hw)
    · refine q_iload_n hC dX1_put_20 2 rfl 21 rfl ?_
      refine q_i2s hC dX1_put_21 22 rfl ?_
      refine q_goto hC 26 dX1_put_22 (by decide) ?_
      exact XX.sub [0, 1] rfl (B26 M (v2.toInt16.toInt32) hw)
  · refine q_iload_n hC dX1_put_7 2 rfl 8 rfl ?_
    refine q_i2b hC dX1_put_8 9 rfl ?_
    refine q_goto hC 26 dX1_put_9 (by decide) ?_
    exact XX.sub [0, 1] rfl (B26 M (v2.toInt8.toInt32) hw)
set_option maxRecDepth 20000 in
theorem inX0_choose_X0 : ∀ w ∈ u_ws RX0 TX0 6, w ∈ wsX0_choose := by decide +kernel
set_option maxRecDepth 100000 in
set_option maxHeartbeats 4000000 in
theorem ctX0_choose (l : Launch) (g : GG) (M : MM) (v1 : Int32) (Q : MM → Prop) (hF : full g) (hw : wX0_choose Q M v1) : MV g l yX0_choose wsX0_choose (rmOf 1 22) [.ref (gA g 39), .int v1] M Q := by
  refine mk_MV (cc := cX0_choose) (maxL := 3) (by decide) rfl (Nat.le_of_ble_eq_true rfl) ?_
  intro z Qf hC hR
  show XX z g Qf 3 0 [(0, .ref (gA g 39)), (1, .int v1)] [] M
  have B53 : ∀ (K7 : MM → Int32 → Prop) (hK7 : ∀ (M : MM) (v2 : Int32) , K7 M v2 → XX z g Qf 3 7 [(0, .ref (gA g 39)), (1, .int v1), (2, .int v2)] [] M) (M : MM) (v2 : Int32), wX0_choose_53 Q K7 v1 M v2 → XX z g Qf 3 53 [(0, .ref (gA g 39)), (1, .int v1), (2, .int v2)] [] M := by
    intro K7 hK7 M v2 hw
    refine q_iinc (v := v2 + 1) (L' := [(2, .int (v2 + 1)), (0, .ref (gA g 39)), (1, .int v1)]) hC dX0_choose_53 2 rfl rfl (by decide) rfl 56 rfl ?_
    refine q_goto hC 7 dX0_choose_56 (by decide) ?_
    exact XX.sub [1, 2, 0] rfl (hK7 M (v2 + 1) hw)
  have B7 : ∀ (n : Nat) (M : MM) (v2 : Int32) , wX0_choose_7 Q v1 n M v2 → XX z g Qf 3 7 [(0, .ref (gA g 39)), (1, .int v1), (2, .int v2)] [] M := by
    intro n
    induction n with
    | zero =>
      intro M v2 hw
      exact hw.elim
    | succ n ih =>
      intro M v2 hw
      refine q_iload_n hC dX0_choose_7 2 rfl 8 rfl ?_
      refine q_bipush (v := 12) hC dX0_choose_8 (by decide) 10 rfl ?_
      refine q_icmp_ge hC 59 dX0_choose_10 (by decide) 13 rfl hw (fun hw => ?_) (fun hw => ?_)
      · exact r_vret hR dX0_choose_59 hw
      · refine q_iload_n hC dX0_choose_13 1 rfl 14 rfl ?_
        refine q_iload_n hC dX0_choose_14 2 rfl 15 rfl ?_
        refine q_ishr hC dX0_choose_15 16 rfl ?_
        refine q_iconst (v := 1) hC dX0_choose_16 rfl 17 rfl ?_
        refine q_iand hC dX0_choose_17 18 rfl ?_
        refine q_iconst (v := 1) hC dX0_choose_18 rfl 19 rfl ?_
        refine q_icmp_ne hC 53 dX0_choose_19 (by decide) 22 rfl hw (fun hw => ?_) (fun hw => ?_)
        · exact XX.sub [0, 1, 2] rfl (B53 _ (fun M v2 hw => ih M v2 hw) M v2 hw)
        · refine q_aload_n hC dX0_choose_22 0 rfl 23 rfl ?_
          refine q_getI (C := RX0) (T := TX0) (N := 6) (ci := 0) hC inX0_choose_X0 (hF.ob 39 (by decide) (fun _ => rfl)) rfl 4 (by decide) (List.mem_of_getElem? (i := 1) (by decide +kernel)) rfl (fun _ => rfl) dX0_choose_23 26 rfl ?_
          refine q_bipush (v := 8) hC dX0_choose_26 (by decide) 28 rfl ?_
          refine q_icmp_ge hC 53 dX0_choose_28 (by decide) 31 rfl hw (fun hw => ?_) (fun hw => ?_)
          · exact XX.sub [0, 1, 2] rfl (B53 _ (fun M v2 hw => ih M v2 hw) M v2 hw)
          · refine q_aload_n hC dX0_choose_31 0 rfl 32 rfl ?_
            refine q_getR (C := RX0) (T := TX0) (N := 6) (ci := 0) hC inX0_choose_X0 (hF.ob 39 (by decide) (fun _ => rfl)) rfl 2 (by decide) (List.mem_of_getElem? (i := 2) (by decide +kernel)) rfl 42 (fun _ => rfl) dX0_choose_32 35 rfl ?_
            refine q_aload_n hC dX0_choose_35 0 rfl 36 rfl ?_
            refine q_getI (C := RX0) (T := TX0) (N := 6) (ci := 0) hC inX0_choose_X0 (hF.ob 39 (by decide) (fun _ => rfl)) rfl 4 (by decide) (List.mem_of_getElem? (i := 1) (by decide +kernel)) rfl (fun _ => rfl) dX0_choose_36 39 rfl ?_
            refine q_iload_n hC dX0_choose_39 2 rfl 40 rfl ?_
            refine r_callV hC (go_N (As := [.ref (gA g 42), .int (M 39 4), .int v2]) (rest := []) hC (ctX4_setCell (zl z) g M 42 (M 39 4) v2 _ (hF.ar 42 (by decide) (fun _ => rfl)) hw) 3 gX0_choose_X4_setCell_n40 rfl ⟨rfl, rfl⟩ 0 rfl (List.mem_of_getElem? (i := 4) (by decide +kernel)) (List.mem_of_getElem? (i := 3) (by decide +kernel)) (by decide +kernel) ⟨Nat.le_of_ble_eq_true rfl, Nat.le_of_ble_eq_true rfl⟩ rfl rfl (Nat.le_of_ble_eq_true rfl) dX0_choose_40) 43 rfl (fun M2 hw => ?_)
            refine q_aload_n hC dX0_choose_43 0 rfl 44 rfl ?_
            refine q_dup hC dX0_choose_44 rfl 45 rfl ?_
            refine q_getI (C := RX0) (T := TX0) (N := 6) (ci := 0) hC inX0_choose_X0 (hF.ob 39 (by decide) (fun _ => rfl)) rfl 4 (by decide) (List.mem_of_getElem? (i := 1) (by decide +kernel)) rfl (fun _ => rfl) dX0_choose_45 48 rfl ?_
            refine q_iconst (v := 1) hC dX0_choose_48 rfl 49 rfl ?_
            refine q_iadd hC dX0_choose_49 50 rfl ?_
            refine q_putI (C := RX0) (T := TX0) (N := 6) (ci := 0) hC inX0_choose_X0 tyX0 tyX0_ok nmX0 (hF.ob 39 (by decide) (fun _ => rfl)) rfl 4 (by decide) (List.mem_of_getElem? (i := 1) (by decide +kernel)) rfl rfl rfl (fun _ => Nat.le_of_ble_eq_true rfl) (fun _ => rfl) dX0_choose_50 53 rfl (fun M3 eM3 => ?_)
            have hw := hw M3 eM3
            exact XX.sub [0, 1, 2] rfl (B53 _ (fun M v2 hw => ih M v2 hw) M3 v2 hw)
  refine q_aload_n hC dX0_choose_0 0 rfl 1 rfl ?_
  refine q_iconst (v := 0) hC dX0_choose_1 rfl 2 rfl ?_
  refine q_putI (C := RX0) (T := TX0) (N := 6) (ci := 0) hC inX0_choose_X0 tyX0 tyX0_ok nmX0 (hF.ob 39 (by decide) (fun _ => rfl)) rfl 4 (by decide) (List.mem_of_getElem? (i := 1) (by decide +kernel)) rfl rfl rfl (fun _ => Nat.le_of_ble_eq_true rfl) (fun _ => rfl) dX0_choose_2 5 rfl (fun M1 eM1 => ?_)
  have hw := hw M1 eM1
  refine q_iconst (v := 0) hC dX0_choose_5 rfl 6 rfl ?_
  refine q_istore_n (L' := [(2, .int 0), (0, .ref (gA g 39)), (1, .int v1)]) hC dX0_choose_6 (by decide) rfl 7 rfl ?_
  obtain ⟨n0, hw⟩ := hw
  exact XX.sub [1, 2, 0] rfl (B7 n0 M1 0 hw)
set_option maxRecDepth 20000 in
theorem inX0_measureHops_X0 : ∀ w ∈ u_ws RX0 TX0 6, w ∈ wsX0_measureHops := by decide +kernel
set_option maxRecDepth 20000 in
theorem inX0_measureHops_X2 : ∀ w ∈ u_ws RX2 TX2 14, w ∈ wsX0_measureHops := by decide +kernel
set_option maxRecDepth 100000 in
set_option maxHeartbeats 4000000 in
theorem ctX0_measureHops (l : Launch) (g : GG) (M : MM) (o1 : Nat) (Q : MM → Prop) (hF : full g) (ho1 : tpl g o1) (hw : wX0_measureHops Q M o1) : MV g l yX0_measureHops wsX0_measureHops (rmOf 4 93) [.ref (gA g 39), .ref (gA g o1)] M Q := by
  refine mk_MV (cc := cX0_measureHops) (maxL := 7) (by decide) rfl (Nat.le_of_ble_eq_true rfl) ?_
  intro z Qf hC hR
  show XX z g Qf 7 0 [(0, .ref (gA g 39)), (1, .ref (gA g o1))] [] M
  have B41 : ∀ (K2 : MM → Int32 → Prop) (hK2 : ∀ (M : MM) (v2 : Int32) , K2 M v2 → XX z g Qf 7 2 [(0, .ref (gA g 39)), (1, .ref (gA g o1)), (2, .int v2)] [] M) (n : Nat) (M : MM) (v2 : Int32) (v3 : Int32) (v4 : Int32) , wX0_measureHops_41 Q K2 o1 n M v2 v3 v4 → XX z g Qf 7 41 [(0, .ref (gA g 39)), (1, .ref (gA g o1)), (2, .int v2), (3, .int v3), (4, .int v4)] [] M := by
    intro K2 hK2 n
    induction n with
    | zero =>
      intro M v2 v3 v4 hw
      exact hw.elim
    | succ n ih =>
      intro M v2 v3 v4 hw
      refine q_iload hC dX0_measureHops_41 4 rfl 43 rfl ?_
      refine q_aload_n hC dX0_measureHops_43 0 rfl 44 rfl ?_
      refine q_getI (C := RX0) (T := TX0) (N := 6) (ci := 0) hC inX0_measureHops_X0 (hF.ob 39 (by decide) (fun _ => rfl)) rfl 4 (by decide) (List.mem_of_getElem? (i := 1) (by decide +kernel)) rfl (fun _ => rfl) dX0_measureHops_44 47 rfl ?_
      refine q_icmp_ge hC 107 dX0_measureHops_47 (by decide) 50 rfl hw (fun hw => ?_) (fun hw => ?_)
      · refine q_iinc (v := v2 + 1) (L' := [(2, .int (v2 + 1)), (0, .ref (gA g 39)), (1, .ref (gA g o1)), (3, .int v3), (4, .int v4)]) hC dX0_measureHops_107 2 rfl rfl (by decide) rfl 110 rfl ?_
        refine q_goto hC 2 dX0_measureHops_110 (by decide) ?_
        exact XX.sub [1, 2, 0] rfl (hK2 M (v2 + 1) hw)
      · refine q_aload_n hC dX0_measureHops_50 0 rfl 51 rfl ?_
        refine q_getR (C := RX0) (T := TX0) (N := 6) (ci := 0) hC inX0_measureHops_X0 (hF.ob 39 (by decide) (fun _ => rfl)) rfl 2 (by decide) (List.mem_of_getElem? (i := 3) (by decide +kernel)) rfl 42 (fun _ => rfl) dX0_measureHops_51 54 rfl ?_
        refine q_iload hC dX0_measureHops_54 4 rfl 56 rfl ?_
        refine r_callI hC (go_N (As := [.ref (gA g 42), .int v4]) (rest := []) hC (ctX4_cell (zl z) g M 42 v4 _ (hF.ar 42 (by decide) (fun _ => rfl)) hw) 2 gX0_measureHops_X4_cell_n47 rfl ⟨rfl, rfl⟩ 1 rfl (List.mem_of_getElem? (i := 6) (by decide +kernel)) (List.mem_of_getElem? (i := 5) (by decide +kernel)) (by decide +kernel) ⟨Nat.le_of_ble_eq_true rfl, Nat.le_of_ble_eq_true rfl⟩ rfl rfl (Nat.le_of_ble_eq_true rfl) dX0_measureHops_56) 59 rfl (fun r5 M6 hw => ?_)
        refine q_istore (L' := [(5, .int r5), (0, .ref (gA g 39)), (1, .ref (gA g o1)), (2, .int v2), (3, .int v3), (4, .int v4)]) hC dX0_measureHops_59 (by decide) rfl 61 rfl ?_
        refine q_aload_n hC dX0_measureHops_61 2 rfl 62 rfl ?_
        refine q_iload_n hC dX0_measureHops_62 4 rfl 63 rfl ?_
        refine q_aload_n hC dX0_measureHops_63 2 rfl 64 rfl ?_
        refine q_iload hC dX0_measureHops_64 0 rfl 66 rfl ?_
        refine r_callI hC (go_V (q := (RX2, TX2, 14)) (As := [.int r5]) (rest := [.int v3, .ref (gA g o1)]) hC (ctX2_beginOf (zl z) g M6 o1 r5 _ ho1 hw) 1 gX0_measureHops_X2_beginOf rfl ⟨rfl, rfl⟩ (by decide +kernel) ⟨Nat.le_of_ble_eq_true rfl, Nat.le_of_ble_eq_true rfl⟩ ho1.ob rfl rfl rfl (Nat.le_of_ble_eq_true rfl) dX0_measureHops_66) 69 rfl (fun r7 M8 hw => ?_)
        refine r_callI hC (go_V (q := (RX2, TX2, 14)) (As := [.int v3, .int r7]) (rest := []) hC (ctX2_sooner (zl z) g M8 o1 v3 r7 _ ho1 hw) 2 gX0_measureHops_X2_sooner rfl ⟨rfl, rfl⟩ (by decide +kernel) ⟨Nat.le_of_ble_eq_true rfl, Nat.le_of_ble_eq_true rfl⟩ ho1.ob rfl rfl rfl (Nat.le_of_ble_eq_true rfl) dX0_measureHops_69) 72 rfl (fun r9 M10 hw => ?_)
        refine q_aload_n hC dX0_measureHops_72 2 rfl 73 rfl ?_
        refine q_aload_n hC dX0_measureHops_73 2 rfl 74 rfl ?_
        refine q_iload hC dX0_measureHops_74 0 rfl 76 rfl ?_
        refine r_callI hC (go_V (q := (RX2, TX2, 14)) (As := [.int r5]) (rest := [.ref (gA g o1), .int r9]) hC (ctX2_longOf (zl z) g M10 o1 r5 _ ho1 hw) 1 gX0_measureHops_X2_longOf rfl ⟨rfl, rfl⟩ (by decide +kernel) ⟨Nat.le_of_ble_eq_true rfl, Nat.le_of_ble_eq_true rfl⟩ ho1.ob rfl rfl rfl (Nat.le_of_ble_eq_true rfl) dX0_measureHops_76) 79 rfl (fun r11 M12 hw => ?_)
        refine r_callI hC (go_V (q := (RX2, TX2, 14)) (As := [.int r11]) (rest := [.int r9]) hC (ctX2_playedThrough (zl z) g M12 o1 r11 _ ho1 hw) 1 gX0_measureHops_X2_playedThrough rfl ⟨rfl, rfl⟩ (by decide +kernel) ⟨Nat.le_of_ble_eq_true rfl, Nat.le_of_ble_eq_true rfl⟩ ho1.ob rfl rfl rfl (Nat.le_of_ble_eq_true rfl) dX0_measureHops_79) 82 rfl (fun r13 M14 hw => ?_)
        refine q_iadd hC dX0_measureHops_82 83 rfl ?_
        refine q_istore (L' := [(6, .int (r9 + r13)), (5, .int r5), (0, .ref (gA g 39)), (1, .ref (gA g o1)), (2, .int v2), (3, .int v3), (4, .int v4)]) hC dX0_measureHops_83 (by decide) rfl 85 rfl ?_
        refine q_aload_n hC dX0_measureHops_85 2 rfl 86 rfl ?_
        refine q_getR (C := RX0) (T := TX0) (N := 6) (ci := 0) hC inX0_measureHops_X0 (hF.ob 39 (by decide) (fun _ => rfl)) rfl 0 (by decide) (List.mem_of_getElem? (i := 4) (by decide +kernel)) rfl 40 (fun _ => rfl) dX0_measureHops_86 89 rfl ?_
        refine q_iload_n hC dX0_measureHops_89 4 rfl 90 rfl ?_
        refine q_bipush (v := 8) hC dX0_measureHops_90 (by decide) 92 rfl ?_
        refine q_imul hC dX0_measureHops_92 93 rfl ?_
        refine q_iload hC dX0_measureHops_93 6 rfl 95 rfl ?_
        refine q_iadd hC dX0_measureHops_95 96 rfl ?_
        refine q_iload hC dX0_measureHops_96 0 rfl 98 rfl ?_
        refine r_callV hC (go_N (As := [.ref (gA g 40), .int ((v2 * (8 : Int32)) + v4), .int (r9 + r13)]) (rest := []) hC (ctX4_setCell (zl z) g M14 40 ((v2 * (8 : Int32)) + v4) (r9 + r13) _ (hF.ar 40 (by decide) (fun _ => rfl)) hw) 3 gX0_measureHops_X4_setCell_n40 rfl ⟨rfl, rfl⟩ 0 rfl (List.mem_of_getElem? (i := 6) (by decide +kernel)) (List.mem_of_getElem? (i := 76) (by decide +kernel)) (by decide +kernel) ⟨Nat.le_of_ble_eq_true rfl, Nat.le_of_ble_eq_true rfl⟩ rfl rfl (Nat.le_of_ble_eq_true rfl) dX0_measureHops_98) 101 rfl (fun M15 hw => ?_)
        refine q_iinc (v := v4 + 1) (L' := [(4, .int (v4 + 1)), (6, .int (r9 + r13)), (5, .int r5), (0, .ref (gA g 39)), (1, .ref (gA g o1)), (2, .int v2), (3, .int v3)]) hC dX0_measureHops_101 6 rfl rfl (by decide) rfl 104 rfl ?_
        refine q_goto hC 41 dX0_measureHops_104 (by decide) ?_
        exact XX.sub [3, 4, 5, 6, 0] rfl (ih M15 v2 v3 (v4 + 1) hw)
  have B37 : ∀ (K2 : MM → Int32 → Prop) (hK2 : ∀ (M : MM) (v2 : Int32) , K2 M v2 → XX z g Qf 7 2 [(0, .ref (gA g 39)), (1, .ref (gA g o1)), (2, .int v2)] [] M) (M : MM) (v2 : Int32) (p0 : Int32), wX0_measureHops_37 Q K2 o1 M v2 p0 → XX z g Qf 7 37 [(0, .ref (gA g 39)), (1, .ref (gA g o1)), (2, .int v2)] [.int p0] M := by
    intro K2 hK2 M v2 p0 hw
    refine q_istore_n (L' := [(3, .int p0), (0, .ref (gA g 39)), (1, .ref (gA g o1)), (2, .int v2)]) hC dX0_measureHops_37 (by decide) rfl 38 rfl ?_
    refine q_iconst (v := 0) hC dX0_measureHops_38 rfl 39 rfl ?_
    refine q_istore (L' := [(4, .int 0), (3, .int p0), (0, .ref (gA g 39)), (1, .ref (gA g o1)), (2, .int v2)]) hC dX0_measureHops_39 (by decide) rfl 41 rfl ?_
    obtain ⟨n0, hw⟩ := hw
    exact XX.sub [2, 3, 4, 1, 0] rfl (B41 _ hK2 n0 M v2 p0 0 hw)
  have B2 : ∀ (n : Nat) (M : MM) (v2 : Int32) , wX0_measureHops_2 Q o1 n M v2 → XX z g Qf 7 2 [(0, .ref (gA g 39)), (1, .ref (gA g o1)), (2, .int v2)] [] M := by
    intro n
    induction n with
    | zero =>
      intro M v2 hw
      exact hw.elim
    | succ n ih =>
      intro M v2 hw
      refine q_iload_n hC dX0_measureHops_2 2 rfl 3 rfl ?_
      refine q_aload_n hC dX0_measureHops_3 0 rfl 4 rfl ?_
      refine q_getI (C := RX0) (T := TX0) (N := 6) (ci := 0) hC inX0_measureHops_X0 (hF.ob 39 (by decide) (fun _ => rfl)) rfl 4 (by decide) (List.mem_of_getElem? (i := 1) (by decide +kernel)) rfl (fun _ => rfl) dX0_measureHops_4 7 rfl ?_
      refine q_icmp_gt hC 113 dX0_measureHops_7 (by decide) 10 rfl hw (fun hw => ?_) (fun hw => ?_)
      · exact r_vret hR dX0_measureHops_113 hw
      · refine q_iload_n hC dX0_measureHops_10 2 rfl 11 rfl ?_
        refine q_aload_n hC dX0_measureHops_11 0 rfl 12 rfl ?_
        refine q_getI (C := RX0) (T := TX0) (N := 6) (ci := 0) hC inX0_measureHops_X0 (hF.ob 39 (by decide) (fun _ => rfl)) rfl 4 (by decide) (List.mem_of_getElem? (i := 1) (by decide +kernel)) rfl (fun _ => rfl) dX0_measureHops_12 15 rfl ?_
        refine q_icmp_ne hC 25 dX0_measureHops_15 (by decide) 18 rfl hw (fun hw => ?_) (fun hw => ?_)
        · refine q_aload_n hC dX0_measureHops_25 1 rfl 26 rfl ?_
          refine q_aload_n hC dX0_measureHops_26 0 rfl 27 rfl ?_
          refine q_getR (C := RX0) (T := TX0) (N := 6) (ci := 0) hC inX0_measureHops_X0 (hF.ob 39 (by decide) (fun _ => rfl)) rfl 2 (by decide) (List.mem_of_getElem? (i := 3) (by decide +kernel)) rfl 42 (fun _ => rfl) dX0_measureHops_27 30 rfl ?_
          refine q_iload_n hC dX0_measureHops_30 2 rfl 31 rfl ?_
          refine r_callI hC (go_N (As := [.ref (gA g 42), .int v2]) (rest := [.ref (gA g o1)]) hC (ctX4_cell (zl z) g M 42 v2 _ (hF.ar 42 (by decide) (fun _ => rfl)) hw) 2 gX0_measureHops_X4_cell_n47 rfl ⟨rfl, rfl⟩ 1 rfl (List.mem_of_getElem? (i := 6) (by decide +kernel)) (List.mem_of_getElem? (i := 5) (by decide +kernel)) (by decide +kernel) ⟨Nat.le_of_ble_eq_true rfl, Nat.le_of_ble_eq_true rfl⟩ rfl rfl (Nat.le_of_ble_eq_true rfl) dX0_measureHops_31) 34 rfl (fun r1 M2 hw => ?_)
          refine r_callI hC (go_V (q := (RX2, TX2, 14)) (As := [.int r1]) (rest := []) hC (ctX2_endOf (zl z) g M2 o1 r1 _ ho1 hw) 1 gX0_measureHops_X2_endOf rfl ⟨rfl, rfl⟩ (by decide +kernel) ⟨Nat.le_of_ble_eq_true rfl, Nat.le_of_ble_eq_true rfl⟩ ho1.ob rfl rfl rfl (Nat.le_of_ble_eq_true rfl) dX0_measureHops_34) 37 rfl (fun r3 M4 hw => ?_)
          exact XX.sub [0, 1, 2] rfl (B37 _ (fun M v2 hw => ih M v2 hw) M4 v2 r3 hw)
        · refine q_aload_n hC dX0_measureHops_18 1 rfl 19 rfl ?_
          refine q_getI (C := RX2) (T := TX2) (N := 14) (ci := 2) hC inX0_measureHops_X2 ho1.ob rfl 9 (by decide) (List.mem_of_getElem? (i := 2) (by decide +kernel)) rfl (fun _ => rfl) dX0_measureHops_19 22 rfl ?_
          refine q_goto hC 37 dX0_measureHops_22 (by decide) ?_
          exact XX.sub [0, 1, 2] rfl (B37 _ (fun M v2 hw => ih M v2 hw) M v2 (M o1 9) hw)
  refine q_iconst (v := 0) hC dX0_measureHops_0 rfl 1 rfl ?_
  refine q_istore_n (L' := [(2, .int 0), (0, .ref (gA g 39)), (1, .ref (gA g o1))]) hC dX0_measureHops_1 (by decide) rfl 2 rfl ?_
  obtain ⟨n0, hw⟩ := hw
  exact XX.sub [1, 2, 0] rfl (B2 n0 M 0 hw)
set_option maxRecDepth 20000 in
theorem inX0_ticksBy_X0 : ∀ w ∈ u_ws RX0 TX0 6, w ∈ wsX0_ticksBy := by decide +kernel
set_option maxRecDepth 100000 in
set_option maxHeartbeats 4000000 in
theorem ctX0_ticksBy (l : Launch) (g : GG) (M : MM) (v1 : Int32) (v2 : Int32) (v3 : Int32) (Q : Int32 → MM → Prop) (hF : full g) (hw : wX0_ticksBy Q M v1 v2 v3) : MI g l yX0_ticksBy wsX0_ticksBy (rmOf 1 21) [.ref (gA g 39), .int v1, .int v2, .int v3] M Q := by
  refine mk_MI (cc := cX0_ticksBy) (maxL := 4) (by decide) rfl (Nat.le_of_ble_eq_true rfl) ?_
  intro z Qf hC hR
  show XX z g Qf 4 0 [(0, .ref (gA g 39)), (1, .int v1), (2, .int v2), (3, .int v3)] [] M
  refine q_aload_n hC dX0_ticksBy_0 0 rfl 1 rfl ?_
  refine q_getR (C := RX0) (T := TX0) (N := 6) (ci := 0) hC inX0_ticksBy_X0 (hF.ob 39 (by decide) (fun _ => rfl)) rfl 0 (by decide) (List.mem_of_getElem? (i := 1) (by decide +kernel)) rfl 40 (fun _ => rfl) dX0_ticksBy_1 4 rfl ?_
  refine q_iload_n hC dX0_ticksBy_4 1 rfl 5 rfl ?_
  refine q_bipush (v := 8) hC dX0_ticksBy_5 (by decide) 7 rfl ?_
  refine q_imul hC dX0_ticksBy_7 8 rfl ?_
  refine q_iload_n hC dX0_ticksBy_8 2 rfl 9 rfl ?_
  refine q_iadd hC dX0_ticksBy_9 10 rfl ?_
  refine r_callI hC (go_N (As := [.ref (gA g 40), .int ((v1 * (8 : Int32)) + v2)]) (rest := []) hC (ctX4_cell (zl z) g M 40 ((v1 * (8 : Int32)) + v2) _ (hF.ar 40 (by decide) (fun _ => rfl)) hw) 2 gX0_ticksBy_X4_cell_n47 rfl ⟨rfl, rfl⟩ 1 rfl (List.mem_of_getElem? (i := 4) (by decide +kernel)) (List.mem_of_getElem? (i := 3) (by decide +kernel)) (by decide +kernel) ⟨Nat.le_of_ble_eq_true rfl, Nat.le_of_ble_eq_true rfl⟩ rfl rfl (Nat.le_of_ble_eq_true rfl) dX0_ticksBy_10) 13 rfl (fun r1 M2 hw => ?_)
  refine q_aload_n hC dX0_ticksBy_13 0 rfl 14 rfl ?_
  refine q_getR (C := RX0) (T := TX0) (N := 6) (ci := 0) hC inX0_ticksBy_X0 (hF.ob 39 (by decide) (fun _ => rfl)) rfl 1 (by decide) (List.mem_of_getElem? (i := 2) (by decide +kernel)) rfl 41 (fun _ => rfl) dX0_ticksBy_14 17 rfl ?_
  refine q_iload_n hC dX0_ticksBy_17 3 rfl 18 rfl ?_
  refine q_iconst (v := 1) hC dX0_ticksBy_18 rfl 19 rfl ?_
  refine q_iload_n hC dX0_ticksBy_19 2 rfl 20 rfl ?_
  refine q_ishl hC dX0_ticksBy_20 21 rfl ?_
  refine q_ixor hC dX0_ticksBy_21 22 rfl ?_
  refine q_bipush (v := 8) hC dX0_ticksBy_22 (by decide) 24 rfl ?_
  refine q_imul hC dX0_ticksBy_24 25 rfl ?_
  refine q_iload_n hC dX0_ticksBy_25 2 rfl 26 rfl ?_
  refine q_iadd hC dX0_ticksBy_26 27 rfl ?_
  refine r_callI hC (go_N (As := [.ref (gA g 41), .int (((v3 ^^^ ((1 : Int32) <<< (v2 &&& 31))) * (8 : Int32)) + v2)]) (rest := [.int r1]) hC (ctX4_cell (zl z) g M2 41 (((v3 ^^^ ((1 : Int32) <<< (v2 &&& 31))) * (8 : Int32)) + v2) _ (hF.ar 41 (by decide) (fun _ => rfl)) hw) 2 gX0_ticksBy_X4_cell_n47 rfl ⟨rfl, rfl⟩ 1 rfl (List.mem_of_getElem? (i := 4) (by decide +kernel)) (List.mem_of_getElem? (i := 3) (by decide +kernel)) (by decide +kernel) ⟨Nat.le_of_ble_eq_true rfl, Nat.le_of_ble_eq_true rfl⟩ rfl rfl (Nat.le_of_ble_eq_true rfl) dX0_ticksBy_27) 30 rfl (fun r3 M4 hw => ?_)
  refine q_iadd hC dX0_ticksBy_30 31 rfl ?_
  exact r_iret hR dX0_ticksBy_31 hw
set_option maxRecDepth 20000 in
theorem inX0_fewestFrom_X0 : ∀ w ∈ u_ws RX0 TX0 6, w ∈ wsX0_fewestFrom := by decide +kernel
set_option maxRecDepth 100000 in
set_option maxHeartbeats 4000000 in
theorem ctX0_fewestFrom (l : Launch) (g : GG) (M : MM) (v1 : Int32) (v2 : Int32) (Q : Int32 → MM → Prop) (hF : full g) (hw : wX0_fewestFrom Q M v1 v2) : MI g l yX0_fewestFrom wsX0_fewestFrom (rmOf 2 44) [.ref (gA g 39), .int v1, .int v2] M Q := by
  refine mk_MI (cc := cX0_fewestFrom) (maxL := 5) (by decide) rfl (Nat.le_of_ble_eq_true rfl) ?_
  intro z Qf hC hR
  show XX z g Qf 5 0 [(0, .ref (gA g 39)), (1, .int v1), (2, .int v2)] [] M
  have B38 : ∀ (K6 : MM → Int32 → Int32 → Prop) (hK6 : ∀ (M : MM) (v3 : Int32) (v4 : Int32) , K6 M v3 v4 → XX z g Qf 5 6 [(0, .ref (gA g 39)), (1, .int v1), (2, .int v2), (3, .int v3), (4, .int v4)] [] M) (M : MM) (v3 : Int32) (v4 : Int32), wX0_fewestFrom_38 Q K6 v1 v2 M v3 v4 → XX z g Qf 5 38 [(0, .ref (gA g 39)), (1, .int v1), (2, .int v2), (3, .int v3), (4, .int v4)] [] M := by
    intro K6 hK6 M v3 v4 hw
    refine q_iinc (v := v4 + 1) (L' := [(4, .int (v4 + 1)), (0, .ref (gA g 39)), (1, .int v1), (2, .int v2), (3, .int v3)]) hC dX0_fewestFrom_38 4 rfl rfl (by decide) rfl 41 rfl ?_
    refine q_goto hC 6 dX0_fewestFrom_41 (by decide) ?_
    exact XX.sub [1, 2, 3, 4, 0] rfl (hK6 M v3 (v4 + 1) hw)
  have B6 : ∀ (n : Nat) (M : MM) (v3 : Int32) (v4 : Int32) , wX0_fewestFrom_6 Q v1 v2 n M v3 v4 → XX z g Qf 5 6 [(0, .ref (gA g 39)), (1, .int v1), (2, .int v2), (3, .int v3), (4, .int v4)] [] M := by
    intro n
    induction n with
    | zero =>
      intro M v3 v4 hw
      exact hw.elim
    | succ n ih =>
      intro M v3 v4 hw
      refine q_iload hC dX0_fewestFrom_6 4 rfl 8 rfl ?_
      refine q_aload_n hC dX0_fewestFrom_8 0 rfl 9 rfl ?_
      refine q_getI (C := RX0) (T := TX0) (N := 6) (ci := 0) hC inX0_fewestFrom_X0 (hF.ob 39 (by decide) (fun _ => rfl)) rfl 4 (by decide) (List.mem_of_getElem? (i := 2) (by decide +kernel)) rfl (fun _ => rfl) dX0_fewestFrom_9 12 rfl ?_
      refine q_icmp_ge hC 44 dX0_fewestFrom_12 (by decide) 15 rfl hw (fun hw => ?_) (fun hw => ?_)
      · refine q_iload_n hC dX0_fewestFrom_44 3 rfl 45 rfl ?_
        exact r_iret hR dX0_fewestFrom_45 hw
      · refine q_iload_n hC dX0_fewestFrom_15 2 rfl 16 rfl ?_
        refine q_iload hC dX0_fewestFrom_16 4 rfl 18 rfl ?_
        refine q_ishr hC dX0_fewestFrom_18 19 rfl ?_
        refine q_iconst (v := 1) hC dX0_fewestFrom_19 rfl 20 rfl ?_
        refine q_iand hC dX0_fewestFrom_20 21 rfl ?_
        refine q_iconst (v := 1) hC dX0_fewestFrom_21 rfl 22 rfl ?_
        refine q_icmp_ne hC 38 dX0_fewestFrom_22 (by decide) 25 rfl hw (fun hw => ?_) (fun hw => ?_)
        · exact XX.sub [0, 1, 2, 3, 4] rfl (B38 _ (fun M v3 v4 hw => ih M v3 v4 hw) M v3 v4 hw)
        · refine q_iload_n hC dX0_fewestFrom_25 3 rfl 26 rfl ?_
          refine q_aload_n hC dX0_fewestFrom_26 0 rfl 27 rfl ?_
          refine q_iload_n hC dX0_fewestFrom_27 1 rfl 28 rfl ?_
          refine q_iload hC dX0_fewestFrom_28 4 rfl 30 rfl ?_
          refine q_iload_n hC dX0_fewestFrom_30 2 rfl 31 rfl ?_
          refine r_callI hC (go_V (q := (RX0, TX0, 6)) (As := [.int v1, .int v4, .int v2]) (rest := [.int v3]) hC (ctX0_ticksBy (zl z) g M v1 v4 v2 _ hF hw) 3 gX0_fewestFrom_X0_ticksBy rfl ⟨rfl, rfl⟩ (by decide +kernel) ⟨Nat.le_of_ble_eq_true rfl, Nat.le_of_ble_eq_true rfl⟩ (hF.ob 39 (by decide) (fun _ => rfl)) rfl rfl rfl (Nat.le_of_ble_eq_true rfl) dX0_fewestFrom_31) 34 rfl (fun r1 M2 hw => ?_)
          refine q_mmin hC (List.mem_of_getElem? (i := 3) (by decide +kernel)) (List.mem_of_getElem? (i := 4) (by decide +kernel)) (List.mem_of_getElem? (i := 5) (by decide +kernel)) (List.mem_of_getElem? (i := 6) (by decide +kernel)) (by decide) (Nat.le_of_ble_eq_true rfl) dX0_fewestFrom_34 37 rfl ?_
          refine q_nameI (fun x3 ex3 => ?_)
          have hw := hw x3 ex3
          refine q_istore_n (L' := [(3, .int x3), (0, .ref (gA g 39)), (1, .int v1), (2, .int v2), (4, .int v4)]) hC dX0_fewestFrom_37 (by decide) rfl 38 rfl ?_
          exact XX.sub [1, 2, 3, 0, 4] rfl (B38 _ (fun M v3 v4 hw => ih M v3 v4 hw) M2 x3 v4 hw)
  refine q_ldc (v := 2147483647) hC (List.mem_of_getElem? (i := 1) (by decide +kernel)) dX0_fewestFrom_0 2 rfl ?_
  refine q_istore_n (L' := [(3, .int 2147483647), (0, .ref (gA g 39)), (1, .int v1), (2, .int v2)]) hC dX0_fewestFrom_2 (by decide) rfl 3 rfl ?_
  refine q_iconst (v := 0) hC dX0_fewestFrom_3 rfl 4 rfl ?_
  refine q_istore (L' := [(4, .int 0), (3, .int 2147483647), (0, .ref (gA g 39)), (1, .int v1), (2, .int v2)]) hC dX0_fewestFrom_4 (by decide) rfl 6 rfl ?_
  obtain ⟨n0, hw⟩ := hw
  exact XX.sub [2, 3, 4, 1, 0] rfl (B6 n0 M 2147483647 0 hw)
set_option maxRecDepth 20000 in
theorem inX0_firstOfFewest_X0 : ∀ w ∈ u_ws RX0 TX0 6, w ∈ wsX0_firstOfFewest := by decide +kernel
set_option maxRecDepth 100000 in
set_option maxHeartbeats 4000000 in
theorem ctX0_firstOfFewest (l : Launch) (g : GG) (M : MM) (v1 : Int32) (v2 : Int32) (Q : Int32 → MM → Prop) (hF : full g) (hw : wX0_firstOfFewest Q M v1 v2) : MI g l yX0_firstOfFewest wsX0_firstOfFewest (rmOf 3 68) [.ref (gA g 39), .int v1, .int v2] M Q := by
  refine mk_MI (cc := cX0_firstOfFewest) (maxL := 5) (by decide) rfl (Nat.le_of_ble_eq_true rfl) ?_
  intro z Qf hC hR
  show XX z g Qf 5 0 [(0, .ref (gA g 39)), (1, .int v1), (2, .int v2)] [] M
  have B44 : ∀ (K10 : MM → Int32 → Int32 → Prop) (hK10 : ∀ (M : MM) (v3 : Int32) (v4 : Int32) , K10 M v3 v4 → XX z g Qf 5 10 [(0, .ref (gA g 39)), (1, .int v1), (2, .int v2), (3, .int v3), (4, .int v4)] [] M) (M : MM) (v3 : Int32) (v4 : Int32), wX0_firstOfFewest_44 Q K10 v1 v2 M v3 v4 → XX z g Qf 5 44 [(0, .ref (gA g 39)), (1, .int v1), (2, .int v2), (3, .int v3), (4, .int v4)] [] M := by
    intro K10 hK10 M v3 v4 hw
    refine q_iinc (v := v4 + 1) (L' := [(4, .int (v4 + 1)), (0, .ref (gA g 39)), (1, .int v1), (2, .int v2), (3, .int v3)]) hC dX0_firstOfFewest_44 4 rfl rfl (by decide) rfl 47 rfl ?_
    refine q_goto hC 10 dX0_firstOfFewest_47 (by decide) ?_
    exact XX.sub [1, 2, 3, 4, 0] rfl (hK10 M v3 (v4 + 1) hw)
  have B10 : ∀ (n : Nat) (M : MM) (v3 : Int32) (v4 : Int32) , wX0_firstOfFewest_10 Q v1 v2 n M v3 v4 → XX z g Qf 5 10 [(0, .ref (gA g 39)), (1, .int v1), (2, .int v2), (3, .int v3), (4, .int v4)] [] M := by
    intro n
    induction n with
    | zero =>
      intro M v3 v4 hw
      exact hw.elim
    | succ n ih =>
      intro M v3 v4 hw
      refine q_iload hC dX0_firstOfFewest_10 4 rfl 12 rfl ?_
      refine q_aload_n hC dX0_firstOfFewest_12 0 rfl 13 rfl ?_
      refine q_getI (C := RX0) (T := TX0) (N := 6) (ci := 0) hC inX0_firstOfFewest_X0 (hF.ob 39 (by decide) (fun _ => rfl)) rfl 4 (by decide) (List.mem_of_getElem? (i := 1) (by decide +kernel)) rfl (fun _ => rfl) dX0_firstOfFewest_13 16 rfl ?_
      refine q_icmp_ge hC 50 dX0_firstOfFewest_16 (by decide) 19 rfl hw (fun hw => ?_) (fun hw => ?_)
      · refine q_iconst (v := 0) hC dX0_firstOfFewest_50 rfl 51 rfl ?_
        exact r_iret hR dX0_firstOfFewest_51 hw
      · refine q_iload_n hC dX0_firstOfFewest_19 2 rfl 20 rfl ?_
        refine q_iload hC dX0_firstOfFewest_20 4 rfl 22 rfl ?_
        refine q_ishr hC dX0_firstOfFewest_22 23 rfl ?_
        refine q_iconst (v := 1) hC dX0_firstOfFewest_23 rfl 24 rfl ?_
        refine q_iand hC dX0_firstOfFewest_24 25 rfl ?_
        refine q_iconst (v := 1) hC dX0_firstOfFewest_25 rfl 26 rfl ?_
        refine q_icmp_ne hC 44 dX0_firstOfFewest_26 (by decide) 29 rfl hw (fun hw => ?_) (fun hw => ?_)
        · exact XX.sub [0, 1, 2, 3, 4] rfl (B44 _ (fun M v3 v4 hw => ih M v3 v4 hw) M v3 v4 hw)
        · refine q_aload_n hC dX0_firstOfFewest_29 0 rfl 30 rfl ?_
          refine q_iload_n hC dX0_firstOfFewest_30 1 rfl 31 rfl ?_
          refine q_iload hC dX0_firstOfFewest_31 4 rfl 33 rfl ?_
          refine q_iload_n hC dX0_firstOfFewest_33 2 rfl 34 rfl ?_
          refine r_callI hC (go_V (q := (RX0, TX0, 6)) (As := [.int v1, .int v4, .int v2]) (rest := []) hC (ctX0_ticksBy (zl z) g M v1 v4 v2 _ hF hw) 3 gX0_firstOfFewest_X0_ticksBy rfl ⟨rfl, rfl⟩ (by decide +kernel) ⟨Nat.le_of_ble_eq_true rfl, Nat.le_of_ble_eq_true rfl⟩ (hF.ob 39 (by decide) (fun _ => rfl)) rfl rfl rfl (Nat.le_of_ble_eq_true rfl) dX0_firstOfFewest_34) 37 rfl (fun r3 M4 hw => ?_)
          refine q_iload_n hC dX0_firstOfFewest_37 3 rfl 38 rfl ?_
          refine q_icmp_ne hC 44 dX0_firstOfFewest_38 (by decide) 41 rfl hw (fun hw => ?_) (fun hw => ?_)
          · exact XX.sub [0, 1, 2, 3, 4] rfl (B44 _ (fun M v3 v4 hw => ih M v3 v4 hw) M4 v3 v4 hw)
          · refine q_iload hC dX0_firstOfFewest_41 4 rfl 43 rfl ?_
            exact r_iret hR dX0_firstOfFewest_43 hw
  refine q_aload_n hC dX0_firstOfFewest_0 0 rfl 1 rfl ?_
  refine q_iload_n hC dX0_firstOfFewest_1 1 rfl 2 rfl ?_
  refine q_iload_n hC dX0_firstOfFewest_2 2 rfl 3 rfl ?_
  refine r_callI hC (go_V (q := (RX0, TX0, 6)) (As := [.int v1, .int v2]) (rest := []) hC (ctX0_fewestFrom (zl z) g M v1 v2 _ hF hw) 2 gX0_firstOfFewest_X0_fewestFrom rfl ⟨rfl, rfl⟩ (by decide +kernel) ⟨Nat.le_of_ble_eq_true rfl, Nat.le_of_ble_eq_true rfl⟩ (hF.ob 39 (by decide) (fun _ => rfl)) rfl rfl rfl (Nat.le_of_ble_eq_true rfl) dX0_firstOfFewest_3) 6 rfl (fun r1 M2 hw => ?_)
  refine q_istore_n (L' := [(3, .int r1), (0, .ref (gA g 39)), (1, .int v1), (2, .int v2)]) hC dX0_firstOfFewest_6 (by decide) rfl 7 rfl ?_
  refine q_iconst (v := 0) hC dX0_firstOfFewest_7 rfl 8 rfl ?_
  refine q_istore (L' := [(4, .int 0), (3, .int r1), (0, .ref (gA g 39)), (1, .int v1), (2, .int v2)]) hC dX0_firstOfFewest_8 (by decide) rfl 10 rfl ?_
  obtain ⟨n0, hw⟩ := hw
  exact XX.sub [2, 3, 4, 1, 0] rfl (B10 n0 M2 r1 0 hw)
set_option maxRecDepth 20000 in
theorem inX0_followFirst_X0 : ∀ w ∈ u_ws RX0 TX0 6, w ∈ wsX0_followFirst := by decide +kernel
set_option maxRecDepth 100000 in
set_option maxHeartbeats 4000000 in
theorem ctX0_followFirst (l : Launch) (g : GG) (M : MM)  (Q : MM → Prop) (hF : full g) (hw : wX0_followFirst Q M ) : MV g l yX0_followFirst wsX0_followFirst (rmOf 4 92) [.ref (gA g 39)] M Q := by
  refine mk_MV (cc := cX0_followFirst) (maxL := 5) (by decide) rfl (Nat.le_of_ble_eq_true rfl) ?_
  intro z Qf hC hR
  show XX z g Qf 5 0 [(0, .ref (gA g 39))] [] M
  have B34 : ∀ (n : Nat) (M : MM) (v1 : Int32) (v2 : Int32) (v3 : Int32) , wX0_followFirst_34 Q n M v1 v2 v3 → XX z g Qf 5 34 [(0, .ref (gA g 39)), (1, .int v1), (2, .int v2), (3, .int v3)] [] M := by
    intro n
    induction n with
    | zero =>
      intro M v1 v2 v3 hw
      exact hw.elim
    | succ n ih =>
      intro M v1 v2 v3 hw
      refine q_iload_n hC dX0_followFirst_34 3 rfl 35 rfl ?_
      refine q_aload_n hC dX0_followFirst_35 0 rfl 36 rfl ?_
      refine q_getI (C := RX0) (T := TX0) (N := 6) (ci := 0) hC inX0_followFirst_X0 (hF.ob 39 (by decide) (fun _ => rfl)) rfl 4 (by decide) (List.mem_of_getElem? (i := 1) (by decide +kernel)) rfl (fun _ => rfl) dX0_followFirst_36 39 rfl ?_
      refine q_icmp_ge hC 83 dX0_followFirst_39 (by decide) 42 rfl hw (fun hw => ?_) (fun hw => ?_)
      · exact r_vret hR dX0_followFirst_83 hw
      · refine q_aload_n hC dX0_followFirst_42 0 rfl 43 rfl ?_
        refine q_iload_n hC dX0_followFirst_43 2 rfl 44 rfl ?_
        refine q_iload_n hC dX0_followFirst_44 1 rfl 45 rfl ?_
        refine r_callI hC (go_V (q := (RX0, TX0, 6)) (As := [.int v2, .int v1]) (rest := []) hC (ctX0_firstOfFewest (zl z) g M v2 v1 _ hF hw) 2 gX0_followFirst_X0_firstOfFewest rfl ⟨rfl, rfl⟩ (by decide +kernel) ⟨Nat.le_of_ble_eq_true rfl, Nat.le_of_ble_eq_true rfl⟩ (hF.ob 39 (by decide) (fun _ => rfl)) rfl rfl rfl (Nat.le_of_ble_eq_true rfl) dX0_followFirst_45) 48 rfl (fun r5 M6 hw => ?_)
        refine q_istore (L' := [(4, .int r5), (0, .ref (gA g 39)), (1, .int v1), (2, .int v2), (3, .int v3)]) hC dX0_followFirst_48 (by decide) rfl 50 rfl ?_
        refine q_aload_n hC dX0_followFirst_50 1 rfl 51 rfl ?_
        refine q_getR (C := RX0) (T := TX0) (N := 6) (ci := 0) hC inX0_followFirst_X0 (hF.ob 39 (by decide) (fun _ => rfl)) rfl 3 (by decide) (List.mem_of_getElem? (i := 3) (by decide +kernel)) rfl 43 (fun _ => rfl) dX0_followFirst_51 54 rfl ?_
        refine q_iload_n hC dX0_followFirst_54 4 rfl 55 rfl ?_
        refine q_aload_n hC dX0_followFirst_55 1 rfl 56 rfl ?_
        refine q_getR (C := RX0) (T := TX0) (N := 6) (ci := 0) hC inX0_followFirst_X0 (hF.ob 39 (by decide) (fun _ => rfl)) rfl 2 (by decide) (List.mem_of_getElem? (i := 4) (by decide +kernel)) rfl 42 (fun _ => rfl) dX0_followFirst_56 59 rfl ?_
        refine q_iload hC dX0_followFirst_59 0 rfl 61 rfl ?_
        refine r_callI hC (go_N (As := [.ref (gA g 42), .int r5]) (rest := [.int v3, .ref (gA g 43)]) hC (ctX4_cell (zl z) g M6 42 r5 _ (hF.ar 42 (by decide) (fun _ => rfl)) hw) 2 gX0_followFirst_X4_cell_n47 rfl ⟨rfl, rfl⟩ 1 rfl (List.mem_of_getElem? (i := 22) (by decide +kernel)) (List.mem_of_getElem? (i := 21) (by decide +kernel)) (by decide +kernel) ⟨Nat.le_of_ble_eq_true rfl, Nat.le_of_ble_eq_true rfl⟩ rfl rfl (Nat.le_of_ble_eq_true rfl) dX0_followFirst_61) 64 rfl (fun r7 M8 hw => ?_)
        refine r_callV hC (go_N (As := [.ref (gA g 43), .int v3, .int r7]) (rest := []) hC (ctX4_setCell (zl z) g M8 43 v3 r7 _ (hF.ar 43 (by decide) (fun _ => rfl)) hw) 3 gX0_followFirst_X4_setCell_n40 rfl ⟨rfl, rfl⟩ 0 rfl (List.mem_of_getElem? (i := 22) (by decide +kernel)) (List.mem_of_getElem? (i := 28) (by decide +kernel)) (by decide +kernel) ⟨Nat.le_of_ble_eq_true rfl, Nat.le_of_ble_eq_true rfl⟩ rfl rfl (Nat.le_of_ble_eq_true rfl) dX0_followFirst_64) 67 rfl (fun M9 hw => ?_)
        refine q_iload_n hC dX0_followFirst_67 2 rfl 68 rfl ?_
        refine q_iconst (v := 1) hC dX0_followFirst_68 rfl 69 rfl ?_
        refine q_iload hC dX0_followFirst_69 0 rfl 71 rfl ?_
        refine q_ishl hC dX0_followFirst_71 72 rfl ?_
        refine q_ixor hC dX0_followFirst_72 73 rfl ?_
        refine q_nameI (fun x10 ex10 => ?_)
        have hw := hw x10 ex10
        refine q_istore_n (L' := [(1, .int x10), (4, .int r5), (0, .ref (gA g 39)), (2, .int v2), (3, .int v3)]) hC dX0_followFirst_73 (by decide) rfl 74 rfl ?_
        refine q_iload hC dX0_followFirst_74 1 rfl 76 rfl ?_
        refine q_istore_n (L' := [(2, .int r5), (1, .int x10), (4, .int r5), (0, .ref (gA g 39)), (3, .int v3)]) hC dX0_followFirst_76 (by decide) rfl 77 rfl ?_
        refine q_iinc (v := v3 + 1) (L' := [(3, .int (v3 + 1)), (2, .int r5), (1, .int x10), (4, .int r5), (0, .ref (gA g 39))]) hC dX0_followFirst_77 4 rfl rfl (by decide) rfl 80 rfl ?_
        refine q_goto hC 34 dX0_followFirst_80 (by decide) ?_
        exact XX.sub [4, 2, 1, 0] rfl (ih M9 x10 r5 (v3 + 1) hw)
  have B29 : ∀ (M : MM) (v1 : Int32) (v2 : Int32) (p0 : Int32), wX0_followFirst_29 Q M v1 v2 p0 → XX z g Qf 5 29 [(0, .ref (gA g 39)), (1, .int v1), (2, .int v2)] [.int p0, .ref (gA g 39)] M := by
    intro M v1 v2 p0 hw
    refine q_putI (C := RX0) (T := TX0) (N := 6) (ci := 0) hC inX0_followFirst_X0 tyX0 tyX0_ok nmX0 (hF.ob 39 (by decide) (fun _ => rfl)) rfl 5 (by decide) (List.mem_of_getElem? (i := 2) (by decide +kernel)) rfl rfl rfl (fun _ => Nat.le_of_ble_eq_true rfl) (fun _ => rfl) dX0_followFirst_29 32 rfl (fun M4 eM4 => ?_)
    have hw := hw M4 eM4
    refine q_iconst (v := 0) hC dX0_followFirst_32 rfl 33 rfl ?_
    refine q_istore_n (L' := [(3, .int 0), (0, .ref (gA g 39)), (1, .int v1), (2, .int v2)]) hC dX0_followFirst_33 (by decide) rfl 34 rfl ?_
    obtain ⟨n0, hw⟩ := hw
    exact XX.sub [1, 2, 3, 0] rfl (B34 n0 M4 v1 v2 0 hw)
  refine q_iconst (v := 1) hC dX0_followFirst_0 rfl 1 rfl ?_
  refine q_aload_n hC dX0_followFirst_1 0 rfl 2 rfl ?_
  refine q_getI (C := RX0) (T := TX0) (N := 6) (ci := 0) hC inX0_followFirst_X0 (hF.ob 39 (by decide) (fun _ => rfl)) rfl 4 (by decide) (List.mem_of_getElem? (i := 1) (by decide +kernel)) rfl (fun _ => rfl) dX0_followFirst_2 5 rfl ?_
  refine q_ishl hC dX0_followFirst_5 6 rfl ?_
  refine q_iconst (v := 1) hC dX0_followFirst_6 rfl 7 rfl ?_
  refine q_isub hC dX0_followFirst_7 8 rfl ?_
  refine q_nameI (fun x1 ex1 => ?_)
  have hw := hw x1 ex1
  refine q_istore_n (L' := [(1, .int x1), (0, .ref (gA g 39))]) hC dX0_followFirst_8 (by decide) rfl 9 rfl ?_
  refine q_aload_n hC dX0_followFirst_9 1 rfl 10 rfl ?_
  refine q_getI (C := RX0) (T := TX0) (N := 6) (ci := 0) hC inX0_followFirst_X0 (hF.ob 39 (by decide) (fun _ => rfl)) rfl 4 (by decide) (List.mem_of_getElem? (i := 1) (by decide +kernel)) rfl (fun _ => rfl) dX0_followFirst_10 13 rfl ?_
  refine q_istore_n (L' := [(2, .int (M 39 4)), (1, .int x1), (0, .ref (gA g 39))]) hC dX0_followFirst_13 (by decide) rfl 14 rfl ?_
  refine q_aload_n hC dX0_followFirst_14 2 rfl 15 rfl ?_
  refine q_iload_n hC dX0_followFirst_15 1 rfl 16 rfl ?_
  refine q_if_ne hC 23 dX0_followFirst_16 (by decide) 19 rfl hw (fun hw => ?_) (fun hw => ?_)
  · refine q_aload_n hC dX0_followFirst_23 2 rfl 24 rfl ?_
    refine q_iload_n hC dX0_followFirst_24 0 rfl 25 rfl ?_
    refine q_iload_n hC dX0_followFirst_25 1 rfl 26 rfl ?_
    refine r_callI hC (go_V (q := (RX0, TX0, 6)) (As := [.int (M 39 4), .int x1]) (rest := [.ref (gA g 39)]) hC (ctX0_fewestFrom (zl z) g M (M 39 4) x1 _ hF hw) 2 gX0_followFirst_X0_fewestFrom rfl ⟨rfl, rfl⟩ (by decide +kernel) ⟨Nat.le_of_ble_eq_true rfl, Nat.le_of_ble_eq_true rfl⟩ (hF.ob 39 (by decide) (fun _ => rfl)) rfl rfl rfl (Nat.le_of_ble_eq_true rfl) dX0_followFirst_26) 29 rfl (fun r2 M3 hw => ?_)
    exact XX.sub [2, 1, 0] rfl (B29 M3 x1 (M 39 4) r2 hw)
  · refine q_iconst (v := 0) hC dX0_followFirst_19 rfl 20 rfl ?_
    refine q_goto hC 29 dX0_followFirst_20 (by decide) ?_
    exact XX.sub [2, 1, 0] rfl (B29 M x1 (M 39 4) 0 hw)
set_option maxRecDepth 20000 in
theorem inX0_plan_X0 : ∀ w ∈ u_ws RX0 TX0 6, w ∈ wsX0_plan := by decide +kernel
set_option maxRecDepth 100000 in
set_option maxHeartbeats 4000000 in
theorem ctX0_plan (l : Launch) (g : GG) (M : MM) (o1 : Nat) (v2 : Int32) (Q : MM → Prop) (hF : full g) (ho1 : tpl g o1) (hw : wX0_plan Q M o1 v2) : MV g l yX0_plan wsX0_plan (rmOf 5 119) [.ref (gA g 39), .ref (gA g o1), .int v2] M Q := by
  refine mk_MV (cc := cX0_plan) (maxL := 5) (by decide) rfl (Nat.le_of_ble_eq_true rfl) ?_
  intro z Qf hC hR
  show XX z g Qf 5 0 [(0, .ref (gA g 39)), (1, .ref (gA g o1)), (2, .int v2)] [] M
  have B65 : ∀ (K17 : MM → Int32 → Prop) (hK17 : ∀ (M : MM) (v3 : Int32) , K17 M v3 → XX z g Qf 5 17 [(0, .ref (gA g 39)), (3, .int v3)] [] M) (K30 : MM → Int32 → Int32 → Prop) (hK30 : ∀ (M : MM) (v3 : Int32) (v4 : Int32) , K30 M v3 v4 → XX z g Qf 5 30 [(0, .ref (gA g 39)), (3, .int v3), (4, .int v4)] [] M) (M : MM) (v3 : Int32) (v4 : Int32) (p0 : Int32) (p1 : Int32), wX0_plan_65 Q K17 K30 o1 v2 M v3 v4 p0 p1 → XX z g Qf 5 65 [(0, .ref (gA g 39)), (3, .int v3), (4, .int v4)] [.int p0, .int p1, .ref (gA g 41)] M := by
    intro K17 hK17 K30 hK30 M v3 v4 p0 p1 hw
    refine r_callV hC (go_N (As := [.ref (gA g 41), .int p1, .int p0]) (rest := []) hC (ctX4_setCell (zl z) g M 41 p1 p0 _ (hF.ar 41 (by decide) (fun _ => rfl)) hw) 3 gX0_plan_X4_setCell_n40 rfl ⟨rfl, rfl⟩ 0 rfl (List.mem_of_getElem? (i := 10) (by decide +kernel)) (List.mem_of_getElem? (i := 9) (by decide +kernel)) (by decide +kernel) ⟨Nat.le_of_ble_eq_true rfl, Nat.le_of_ble_eq_true rfl⟩ rfl rfl (Nat.le_of_ble_eq_true rfl) dX0_plan_65) 68 rfl (fun M6 hw => ?_)
    refine q_iinc (v := v4 + 1) (L' := [(4, .int (v4 + 1)), (0, .ref (gA g 39)), (3, .int v3)]) hC dX0_plan_68 2 rfl rfl (by decide) rfl 71 rfl ?_
    refine q_goto hC 30 dX0_plan_71 (by decide) ?_
    exact XX.sub [1, 2, 0] rfl (hK30 M6 v3 (v4 + 1) hw)
  have B30 : ∀ (K17 : MM → Int32 → Prop) (hK17 : ∀ (M : MM) (v3 : Int32) , K17 M v3 → XX z g Qf 5 17 [(0, .ref (gA g 39)), (3, .int v3)] [] M) (n : Nat) (M : MM) (v3 : Int32) (v4 : Int32) , wX0_plan_30 Q K17 o1 v2 n M v3 v4 → XX z g Qf 5 30 [(0, .ref (gA g 39)), (3, .int v3), (4, .int v4)] [] M := by
    intro K17 hK17 n
    induction n with
    | zero =>
      intro M v3 v4 hw
      exact hw.elim
    | succ n ih =>
      intro M v3 v4 hw
      refine q_iload hC dX0_plan_30 2 rfl 32 rfl ?_
      refine q_aload_n hC dX0_plan_32 0 rfl 33 rfl ?_
      refine q_getI (C := RX0) (T := TX0) (N := 6) (ci := 0) hC inX0_plan_X0 (hF.ob 39 (by decide) (fun _ => rfl)) rfl 4 (by decide) (List.mem_of_getElem? (i := 1) (by decide +kernel)) rfl (fun _ => rfl) dX0_plan_33 36 rfl ?_
      refine q_icmp_ge hC 74 dX0_plan_36 (by decide) 39 rfl hw (fun hw => ?_) (fun hw => ?_)
      · refine q_iinc (v := v3 + 1) (L' := [(3, .int (v3 + 1)), (0, .ref (gA g 39)), (4, .int v4)]) hC dX0_plan_74 1 rfl rfl (by decide) rfl 77 rfl ?_
        refine q_goto hC 17 dX0_plan_77 (by decide) ?_
        exact XX.sub [1, 0] rfl (hK17 M (v3 + 1) hw)
      · refine q_aload_n hC dX0_plan_39 0 rfl 40 rfl ?_
        refine q_getR (C := RX0) (T := TX0) (N := 6) (ci := 0) hC inX0_plan_X0 (hF.ob 39 (by decide) (fun _ => rfl)) rfl 1 (by decide) (List.mem_of_getElem? (i := 2) (by decide +kernel)) rfl 41 (fun _ => rfl) dX0_plan_40 43 rfl ?_
        refine q_iload_n hC dX0_plan_43 1 rfl 44 rfl ?_
        refine q_bipush (v := 8) hC dX0_plan_44 (by decide) 46 rfl ?_
        refine q_imul hC dX0_plan_46 47 rfl ?_
        refine q_iload hC dX0_plan_47 2 rfl 49 rfl ?_
        refine q_iadd hC dX0_plan_49 50 rfl ?_
        refine q_iload_n hC dX0_plan_50 1 rfl 51 rfl ?_
        refine q_if_ne hC 58 dX0_plan_51 (by decide) 54 rfl hw (fun hw => ?_) (fun hw => ?_)
        · refine q_aload_n hC dX0_plan_58 0 rfl 59 rfl ?_
          refine q_iload hC dX0_plan_59 2 rfl 61 rfl ?_
          refine q_iload_n hC dX0_plan_61 1 rfl 62 rfl ?_
          refine r_callI hC (go_V (q := (RX0, TX0, 6)) (As := [.int v4, .int v3]) (rest := [.int ((v3 * (8 : Int32)) + v4), .ref (gA g 41)]) hC (ctX0_fewestFrom (zl z) g M v4 v3 _ hF hw) 2 gX0_plan_X0_fewestFrom rfl ⟨rfl, rfl⟩ (by decide +kernel) ⟨Nat.le_of_ble_eq_true rfl, Nat.le_of_ble_eq_true rfl⟩ (hF.ob 39 (by decide) (fun _ => rfl)) rfl rfl rfl (Nat.le_of_ble_eq_true rfl) dX0_plan_62) 65 rfl (fun r4 M5 hw => ?_)
          exact XX.sub [0, 1, 2] rfl (B65 _ hK17 _ (fun M v3 v4 hw => ih M v3 v4 hw) M5 v3 v4 r4 ((v3 * (8 : Int32)) + v4) hw)
        · refine q_iconst (v := 0) hC dX0_plan_54 rfl 55 rfl ?_
          refine q_goto hC 65 dX0_plan_55 (by decide) ?_
          exact XX.sub [0, 1, 2] rfl (B65 _ hK17 _ (fun M v3 v4 hw => ih M v3 v4 hw) M v3 v4 0 ((v3 * (8 : Int32)) + v4) hw)
  have B17 : ∀ (n : Nat) (M : MM) (v3 : Int32) , wX0_plan_17 Q o1 v2 n M v3 → XX z g Qf 5 17 [(0, .ref (gA g 39)), (3, .int v3)] [] M := by
    intro n
    induction n with
    | zero =>
      intro M v3 hw
      exact hw.elim
    | succ n ih =>
      intro M v3 hw
      refine q_iload_n hC dX0_plan_17 1 rfl 18 rfl ?_
      refine q_iconst (v := 1) hC dX0_plan_18 rfl 19 rfl ?_
      refine q_aload_n hC dX0_plan_19 0 rfl 20 rfl ?_
      refine q_getI (C := RX0) (T := TX0) (N := 6) (ci := 0) hC inX0_plan_X0 (hF.ob 39 (by decide) (fun _ => rfl)) rfl 4 (by decide) (List.mem_of_getElem? (i := 1) (by decide +kernel)) rfl (fun _ => rfl) dX0_plan_20 23 rfl ?_
      refine q_ishl hC dX0_plan_23 24 rfl ?_
      refine q_icmp_ge hC 80 dX0_plan_24 (by decide) 27 rfl hw (fun hw => ?_) (fun hw => ?_)
      · refine q_aload_n hC dX0_plan_80 0 rfl 81 rfl ?_
        refine r_callV hC (go_V (q := (RX0, TX0, 6)) (As := []) (rest := []) hC (ctX0_followFirst (zl z) g M _ hF hw) 0 gX0_plan_X0_followFirst rfl ⟨rfl, rfl⟩ (by decide +kernel) ⟨Nat.le_of_ble_eq_true rfl, Nat.le_of_ble_eq_true rfl⟩ (hF.ob 39 (by decide) (fun _ => rfl)) rfl rfl rfl (Nat.le_of_ble_eq_true rfl) dX0_plan_81) 84 rfl (fun M3 hw => ?_)
        exact r_vret hR dX0_plan_84 hw
      · refine q_iconst (v := 0) hC dX0_plan_27 rfl 28 rfl ?_
        refine q_istore (L' := [(4, .int 0), (0, .ref (gA g 39)), (3, .int v3)]) hC dX0_plan_28 (by decide) rfl 30 rfl ?_
        obtain ⟨n0, hw⟩ := hw
        exact XX.sub [1, 2, 0] rfl (B30 _ (fun M v3 hw => ih M v3 hw) n0 M v3 0 hw)
  refine q_aload_n hC dX0_plan_0 1 rfl 1 rfl ?_
  refine q_ifnonnull hC 5 dX0_plan_1 (by decide) ?_
  refine q_aload_n hC dX0_plan_5 0 rfl 6 rfl ?_
  refine q_iload_n hC dX0_plan_6 2 rfl 7 rfl ?_
  refine r_callV hC (go_V (q := (RX0, TX0, 6)) (As := [.int v2]) (rest := []) hC (ctX0_choose (zl z) g M v2 _ hF hw) 1 gX0_plan_X0_choose rfl ⟨rfl, rfl⟩ (by decide +kernel) ⟨Nat.le_of_ble_eq_true rfl, Nat.le_of_ble_eq_true rfl⟩ (hF.ob 39 (by decide) (fun _ => rfl)) rfl rfl rfl (Nat.le_of_ble_eq_true rfl) dX0_plan_7) 10 rfl (fun M1 hw => ?_)
  refine q_aload_n hC dX0_plan_10 0 rfl 11 rfl ?_
  refine q_aload_n hC dX0_plan_11 1 rfl 12 rfl ?_
  refine r_callV hC (go_V (q := (RX0, TX0, 6)) (As := [.ref (gA g o1)]) (rest := []) hC (ctX0_measureHops (zl z) g M1 o1 _ hF ho1 hw) 1 gX0_plan_X0_measureHops rfl ⟨rfl, rfl⟩ (by decide +kernel) ⟨Nat.le_of_ble_eq_true rfl, Nat.le_of_ble_eq_true rfl⟩ (hF.ob 39 (by decide) (fun _ => rfl)) rfl rfl rfl (Nat.le_of_ble_eq_true rfl) dX0_plan_12) 15 rfl (fun M2 hw => ?_)
  refine q_iconst (v := 0) hC dX0_plan_15 rfl 16 rfl ?_
  refine q_istore_n (L' := [(3, .int 0), (0, .ref (gA g 39)), (1, .ref (gA g o1)), (2, .int v2)]) hC dX0_plan_16 (by decide) rfl 17 rfl ?_
  obtain ⟨n0, hw⟩ := hw
  exact XX.sub [1, 0] rfl (B17 n0 M2 0 hw)
set_option maxRecDepth 20000 in
theorem inX0_stopAt_X0 : ∀ w ∈ u_ws RX0 TX0 6, w ∈ wsX0_stopAt := by decide +kernel
set_option maxRecDepth 100000 in
set_option maxHeartbeats 4000000 in
theorem ctX0_stopAt (l : Launch) (g : GG) (M : MM) (v1 : Int32) (Q : Int32 → MM → Prop) (hF : full g) (hw : wX0_stopAt Q M v1) : MI g l yX0_stopAt wsX0_stopAt (rmOf 1 21) [.ref (gA g 39), .int v1] M Q := by
  refine mk_MI (cc := cX0_stopAt) (maxL := 2) (by decide) rfl (Nat.le_of_ble_eq_true rfl) ?_
  intro z Qf hC hR
  show XX z g Qf 2 0 [(0, .ref (gA g 39)), (1, .int v1)] [] M
  refine q_aload_n hC dX0_stopAt_0 0 rfl 1 rfl ?_
  refine q_getR (C := RX0) (T := TX0) (N := 6) (ci := 0) hC inX0_stopAt_X0 (hF.ob 39 (by decide) (fun _ => rfl)) rfl 3 (by decide) (List.mem_of_getElem? (i := 1) (by decide +kernel)) rfl 43 (fun _ => rfl) dX0_stopAt_1 4 rfl ?_
  refine q_iload_n hC dX0_stopAt_4 1 rfl 5 rfl ?_
  refine r_callI hC (go_N (As := [.ref (gA g 43), .int v1]) (rest := []) hC (ctX4_cell (zl z) g M 43 v1 _ (hF.ar 43 (by decide) (fun _ => rfl)) hw) 2 gX0_stopAt_X4_cell_n47 rfl ⟨rfl, rfl⟩ 1 rfl (List.mem_of_getElem? (i := 3) (by decide +kernel)) (List.mem_of_getElem? (i := 2) (by decide +kernel)) (by decide +kernel) ⟨Nat.le_of_ble_eq_true rfl, Nat.le_of_ble_eq_true rfl⟩ rfl rfl (Nat.le_of_ble_eq_true rfl) dX0_stopAt_5) 8 rfl (fun r1 M2 hw => ?_)
  exact r_iret hR dX0_stopAt_8 hw
set_option maxRecDepth 20000 in
theorem inX3_addLetter_X3 : ∀ w ∈ u_ws RX3 TX3 10, w ∈ wsX3_addLetter := by decide +kernel
set_option maxRecDepth 100000 in
set_option maxHeartbeats 4000000 in
theorem ctX3_addLetter (l : Launch) (g : GG) (M : MM) (v1 : Int32) (Q : MM → Prop) (hF : full g) (hw : wX3_addLetter Q M v1) : MV g l yX3_addLetter wsX3_addLetter (rmOf 0 0) [.ref (gA g 37), .int v1] M Q := by
  refine mk_MV (cc := cX3_addLetter) (maxL := 2) (by decide) rfl (Nat.le_of_ble_eq_true rfl) ?_
  intro z Qf hC hR
  show XX z g Qf 2 0 [(0, .ref (gA g 37)), (1, .int v1)] [] M
  have B29 : ∀ (M : MM), wX3_addLetter_29 Q v1 M → XX z g Qf 2 29 [(0, .ref (gA g 37))] [] M := by
    intro M hw
    refine q_aload_n hC dX3_addLetter_29 0 rfl 30 rfl ?_
    refine q_dup hC dX3_addLetter_30 rfl 31 rfl ?_
    refine q_getI (C := RX3) (T := TX3) (N := 10) (ci := 3) hC inX3_addLetter_X3 (hF.ob 37 (by decide) (fun _ => rfl)) rfl 2 (by decide) (List.mem_of_getElem? (i := 1) (by decide +kernel)) rfl (fun _ => rfl) dX3_addLetter_31 34 rfl ?_
    refine q_iconst (v := 1) hC dX3_addLetter_34 rfl 35 rfl ?_
    refine q_iadd hC dX3_addLetter_35 36 rfl ?_
    refine q_putI (C := RX3) (T := TX3) (N := 10) (ci := 3) hC inX3_addLetter_X3 tyX3 tyX3_ok nmX3 (hF.ob 37 (by decide) (fun _ => rfl)) rfl 2 (by decide) (List.mem_of_getElem? (i := 1) (by decide +kernel)) rfl rfl rfl (fun _ => Nat.le_of_ble_eq_true rfl) (fun _ => rfl) dX3_addLetter_36 39 rfl (fun M2 eM2 => ?_)
    have hw := hw M2 eM2
    exact r_vret hR dX3_addLetter_39 hw
  refine q_aload_n hC dX3_addLetter_0 0 rfl 1 rfl ?_
  refine q_getI (C := RX3) (T := TX3) (N := 10) (ci := 3) hC inX3_addLetter_X3 (hF.ob 37 (by decide) (fun _ => rfl)) rfl 2 (by decide) (List.mem_of_getElem? (i := 1) (by decide +kernel)) rfl (fun _ => rfl) dX3_addLetter_1 4 rfl ?_
  refine q_if_lt hC 29 dX3_addLetter_4 (by decide) 7 rfl hw (fun hw => ?_) (fun hw => ?_)
  · exact XX.sub [0] rfl (B29 M hw)
  · refine q_aload_n hC dX3_addLetter_7 0 rfl 8 rfl ?_
    refine q_getI (C := RX3) (T := TX3) (N := 10) (ci := 3) hC inX3_addLetter_X3 (hF.ob 37 (by decide) (fun _ => rfl)) rfl 2 (by decide) (List.mem_of_getElem? (i := 1) (by decide +kernel)) rfl (fun _ => rfl) dX3_addLetter_8 11 rfl ?_
    refine q_aload_n hC dX3_addLetter_11 0 rfl 12 rfl ?_
    refine q_getR (C := RX3) (T := TX3) (N := 10) (ci := 3) hC inX3_addLetter_X3 (hF.ob 37 (by decide) (fun _ => rfl)) rfl 0 (by decide) (List.mem_of_getElem? (i := 2) (by decide +kernel)) rfl 38 (fun _ => rfl) dX3_addLetter_12 15 rfl ?_
    refine q_alenB hC (hF.ar 38 (by decide) (fun _ => rfl)) dX3_addLetter_15 16 rfl ?_
    refine q_icmp_ge hC 29 dX3_addLetter_16 (by decide) 19 rfl hw (fun hw => ?_) (fun hw => ?_)
    · exact XX.sub [0] rfl (B29 M hw)
    · refine q_aload_n hC dX3_addLetter_19 0 rfl 20 rfl ?_
      refine q_getR (C := RX3) (T := TX3) (N := 10) (ci := 3) hC inX3_addLetter_X3 (hF.ob 37 (by decide) (fun _ => rfl)) rfl 0 (by decide) (List.mem_of_getElem? (i := 2) (by decide +kernel)) rfl 38 (fun _ => rfl) dX3_addLetter_20 23 rfl ?_
      refine q_aload_n hC dX3_addLetter_23 0 rfl 24 rfl ?_
      refine q_getI (C := RX3) (T := TX3) (N := 10) (ci := 3) hC inX3_addLetter_X3 (hF.ob 37 (by decide) (fun _ => rfl)) rfl 2 (by decide) (List.mem_of_getElem? (i := 1) (by decide +kernel)) rfl (fun _ => rfl) dX3_addLetter_24 27 rfl ?_
      refine q_iload_n hC dX3_addLetter_27 1 rfl 28 rfl ?_
      obtain ⟨hin, hw⟩ := hw
      refine q_bast hC (hF.ar 38 (by decide) (fun _ => rfl)) hin dX3_addLetter_28 29 rfl (fun M1 eM1 => ?_)
      have hw := hw M1 eM1
      exact XX.sub [0] rfl (B29 M1 hw)
set_option maxRecDepth 20000 in
theorem inX3_letterAt_X3 : ∀ w ∈ u_ws RX3 TX3 10, w ∈ wsX3_letterAt := by decide +kernel
set_option maxRecDepth 100000 in
set_option maxHeartbeats 4000000 in
theorem ctX3_letterAt (l : Launch) (g : GG) (M : MM) (v1 : Int32) (Q : Int32 → MM → Prop) (hF : full g) (hw : wX3_letterAt Q M v1) : MI g l yX3_letterAt wsX3_letterAt (rmOf 0 0) [.ref (gA g 37), .int v1] M Q := by
  refine mk_MI (cc := cX3_letterAt) (maxL := 2) (by decide) rfl (Nat.le_of_ble_eq_true rfl) ?_
  intro z Qf hC hR
  show XX z g Qf 2 0 [(0, .ref (gA g 37)), (1, .int v1)] [] M
  have B34 : ∀ (M : MM), wX3_letterAt_34 Q v1 M → XX z g Qf 2 34 [] [] M := by
    intro M hw
    refine q_iconst (v := (-1)) hC dX3_letterAt_34 rfl 35 rfl ?_
    exact r_iret hR dX3_letterAt_35 hw
  refine q_iload_n hC dX3_letterAt_0 1 rfl 1 rfl ?_
  refine q_if_lt hC 34 dX3_letterAt_1 (by decide) 4 rfl hw (fun hw => ?_) (fun hw => ?_)
  · exact XX.sub [] rfl (B34 M hw)
  · refine q_iload_n hC dX3_letterAt_4 1 rfl 5 rfl ?_
    refine q_aload_n hC dX3_letterAt_5 0 rfl 6 rfl ?_
    refine q_getI (C := RX3) (T := TX3) (N := 10) (ci := 3) hC inX3_letterAt_X3 (hF.ob 37 (by decide) (fun _ => rfl)) rfl 2 (by decide) (List.mem_of_getElem? (i := 1) (by decide +kernel)) rfl (fun _ => rfl) dX3_letterAt_6 9 rfl ?_
    refine q_icmp_ge hC 34 dX3_letterAt_9 (by decide) 12 rfl hw (fun hw => ?_) (fun hw => ?_)
    · exact XX.sub [] rfl (B34 M hw)
    · refine q_iload_n hC dX3_letterAt_12 1 rfl 13 rfl ?_
      refine q_aload_n hC dX3_letterAt_13 0 rfl 14 rfl ?_
      refine q_getR (C := RX3) (T := TX3) (N := 10) (ci := 3) hC inX3_letterAt_X3 (hF.ob 37 (by decide) (fun _ => rfl)) rfl 0 (by decide) (List.mem_of_getElem? (i := 2) (by decide +kernel)) rfl 38 (fun _ => rfl) dX3_letterAt_14 17 rfl ?_
      refine q_alenB hC (hF.ar 38 (by decide) (fun _ => rfl)) dX3_letterAt_17 18 rfl ?_
      refine q_icmp_ge hC 34 dX3_letterAt_18 (by decide) 21 rfl hw (fun hw => ?_) (fun hw => ?_)
      · exact XX.sub [] rfl (B34 M hw)
      · refine q_aload_n hC dX3_letterAt_21 0 rfl 22 rfl ?_
        refine q_getR (C := RX3) (T := TX3) (N := 10) (ci := 3) hC inX3_letterAt_X3 (hF.ob 37 (by decide) (fun _ => rfl)) rfl 0 (by decide) (List.mem_of_getElem? (i := 2) (by decide +kernel)) rfl 38 (fun _ => rfl) dX3_letterAt_22 25 rfl ?_
        refine q_iload_n hC dX3_letterAt_25 1 rfl 26 rfl ?_
        obtain ⟨hin, hw⟩ := hw
        refine q_bald hC (hF.ar 38 (by decide) (fun _ => rfl)) hin dX3_letterAt_26 27 rfl ?_
        refine q_sipush (v := 255) hC dX3_letterAt_27 (by decide) 30 rfl ?_
        refine q_iand hC dX3_letterAt_30 31 rfl ?_
        refine q_goto hC 35 dX3_letterAt_31 (by decide) ?_
        exact r_iret hR dX3_letterAt_35 hw
set_option maxRecDepth 100000 in
set_option maxHeartbeats 4000000 in
theorem ctX3_isSmallLetter (l : Launch) (g : GG) (M : MM) (v0 : Int32) (Q : Int32 → MM → Prop)  (hw : wX3_isSmallLetter Q M v0) : MI g l yX3_isSmallLetter wsX3_isSmallLetter (rmOf 0 0) [.int v0] M Q := by
  refine mk_MZ (cc := cX3_isSmallLetter) (maxL := 1) (by decide) rfl (Nat.le_of_ble_eq_true rfl) ?_
  intro z Qf hC hR
  show XX z g Qf 1 0 [(0, .int v0)] [] M
  have B16 : ∀ (M : MM), wX3_isSmallLetter_16 Q v0 M → XX z g Qf 1 16 [] [] M := by
    intro M hw
    refine q_iconst (v := 0) hC dX3_isSmallLetter_16 rfl 17 rfl ?_
    exact r_iret hR dX3_isSmallLetter_17 ⟨nb_0, hw⟩
  refine q_iload_n hC dX3_isSmallLetter_0 0 rfl 1 rfl ?_
  refine q_bipush (v := 97) hC dX3_isSmallLetter_1 (by decide) 3 rfl ?_
  refine q_icmp_lt hC 16 dX3_isSmallLetter_3 (by decide) 6 rfl hw (fun hw => ?_) (fun hw => ?_)
  · exact XX.sub [] rfl (B16 M hw)
  · refine q_iload_n hC dX3_isSmallLetter_6 0 rfl 7 rfl ?_
    refine q_bipush (v := 122) hC dX3_isSmallLetter_7 (by decide) 9 rfl ?_
    refine q_icmp_gt hC 16 dX3_isSmallLetter_9 (by decide) 12 rfl hw (fun hw => ?_) (fun hw => ?_)
    · exact XX.sub [] rfl (B16 M hw)
    · refine q_iconst (v := 1) hC dX3_isSmallLetter_12 rfl 13 rfl ?_
      refine q_goto hC 17 dX3_isSmallLetter_13 (by decide) ?_
      exact r_iret hR dX3_isSmallLetter_17 ⟨nb_1, hw⟩
set_option maxRecDepth 100000 in
set_option maxHeartbeats 4000000 in
theorem ctX3_isFigure (l : Launch) (g : GG) (M : MM) (v0 : Int32) (Q : Int32 → MM → Prop)  (hw : wX3_isFigure Q M v0) : MI g l yX3_isFigure wsX3_isFigure (rmOf 0 0) [.int v0] M Q := by
  refine mk_MZ (cc := cX3_isFigure) (maxL := 1) (by decide) rfl (Nat.le_of_ble_eq_true rfl) ?_
  intro z Qf hC hR
  show XX z g Qf 1 0 [(0, .int v0)] [] M
  have B16 : ∀ (M : MM), wX3_isFigure_16 Q v0 M → XX z g Qf 1 16 [] [] M := by
    intro M hw
    refine q_iconst (v := 0) hC dX3_isFigure_16 rfl 17 rfl ?_
    exact r_iret hR dX3_isFigure_17 ⟨nb_0, hw⟩
  refine q_iload_n hC dX3_isFigure_0 0 rfl 1 rfl ?_
  refine q_bipush (v := 48) hC dX3_isFigure_1 (by decide) 3 rfl ?_
  refine q_icmp_lt hC 16 dX3_isFigure_3 (by decide) 6 rfl hw (fun hw => ?_) (fun hw => ?_)
  · exact XX.sub [] rfl (B16 M hw)
  · refine q_iload_n hC dX3_isFigure_6 0 rfl 7 rfl ?_
    refine q_bipush (v := 57) hC dX3_isFigure_7 (by decide) 9 rfl ?_
    refine q_icmp_gt hC 16 dX3_isFigure_9 (by decide) 12 rfl hw (fun hw => ?_) (fun hw => ?_)
    · exact XX.sub [] rfl (B16 M hw)
    · refine q_iconst (v := 1) hC dX3_isFigure_12 rfl 13 rfl ?_
      refine q_goto hC 17 dX3_isFigure_13 (by decide) ?_
      exact r_iret hR dX3_isFigure_17 ⟨nb_1, hw⟩
set_option maxRecDepth 20000 in
theorem inX3_readNumber_X3 : ∀ w ∈ u_ws RX3 TX3 10, w ∈ wsX3_readNumber := by decide +kernel
set_option maxRecDepth 100000 in
set_option maxHeartbeats 4000000 in
theorem ctX3_readNumber (l : Launch) (g : GG) (M : MM)  (Q : MM → Prop) (hF : full g) (hw : wX3_readNumber Q M ) : MV g l yX3_readNumber wsX3_readNumber (rmOf 1 21) [.ref (gA g 37)] M Q := by
  refine mk_MV (cc := cX3_readNumber) (maxL := 2) (by decide) rfl (Nat.le_of_ble_eq_true rfl) ?_
  intro z Qf hC hR
  show XX z g Qf 2 0 [(0, .ref (gA g 37))] [] M
  have B79 : ∀ (n : Nat) (M : MM) (v1 : Int32) , wX3_readNumber_79 Q n M v1 → XX z g Qf 2 79 [(0, .ref (gA g 37)), (1, .int v1)] [] M := by
    intro n
    induction n with
    | zero =>
      intro M v1 hw
      exact hw.elim
    | succ n ih =>
      intro M v1 hw
      refine q_iload_n hC dX3_readNumber_79 1 rfl 80 rfl ?_
      refine q_aload_n hC dX3_readNumber_80 0 rfl 81 rfl ?_
      refine q_getI (C := RX3) (T := TX3) (N := 10) (ci := 3) hC inX3_readNumber_X3 (hF.ob 37 (by decide) (fun _ => rfl)) rfl 3 (by decide) (List.mem_of_getElem? (i := 1) (by decide +kernel)) rfl (fun _ => rfl) dX3_readNumber_81 84 rfl ?_
      refine q_icmp_ge hC 113 dX3_readNumber_84 (by decide) 87 rfl hw (fun hw => ?_) (fun hw => ?_)
      · exact r_vret hR dX3_readNumber_113 hw
      · refine q_aload_n hC dX3_readNumber_87 0 rfl 88 rfl ?_
        refine q_aload_n hC dX3_readNumber_88 0 rfl 89 rfl ?_
        refine q_getI (C := RX3) (T := TX3) (N := 10) (ci := 3) hC inX3_readNumber_X3 (hF.ob 37 (by decide) (fun _ => rfl)) rfl 6 (by decide) (List.mem_of_getElem? (i := 5) (by decide +kernel)) rfl (fun _ => rfl) dX3_readNumber_89 92 rfl ?_
        refine q_bipush (v := 10) hC dX3_readNumber_92 (by decide) 94 rfl ?_
        refine q_imul hC dX3_readNumber_94 95 rfl ?_
        refine q_aload_n hC dX3_readNumber_95 0 rfl 96 rfl ?_
        refine q_iload_n hC dX3_readNumber_96 1 rfl 97 rfl ?_
        refine r_callI hC (go_V (q := (RX3, TX3, 10)) (As := [.int v1]) (rest := [.int ((M 37 6) * (10 : Int32)), .ref (gA g 37)]) hC (ctX3_letterAt (zl z) g M v1 _ hF hw) 1 gX3_readNumber_X3_letterAt rfl ⟨rfl, rfl⟩ (by decide +kernel) ⟨Nat.le_of_ble_eq_true rfl, Nat.le_of_ble_eq_true rfl⟩ (hF.ob 37 (by decide) (fun _ => rfl)) rfl rfl rfl (Nat.le_of_ble_eq_true rfl) dX3_readNumber_97) 100 rfl (fun r8 M9 hw => ?_)
        refine q_iadd hC dX3_readNumber_100 101 rfl ?_
        refine q_bipush (v := 48) hC dX3_readNumber_101 (by decide) 103 rfl ?_
        refine q_isub hC dX3_readNumber_103 104 rfl ?_
        refine q_putI (C := RX3) (T := TX3) (N := 10) (ci := 3) hC inX3_readNumber_X3 tyX3 tyX3_ok nmX3 (hF.ob 37 (by decide) (fun _ => rfl)) rfl 6 (by decide) (List.mem_of_getElem? (i := 5) (by decide +kernel)) rfl rfl rfl (fun _ => Nat.le_of_ble_eq_true rfl) (fun _ => rfl) dX3_readNumber_104 107 rfl (fun M10 eM10 => ?_)
        have hw := hw M10 eM10
        refine q_iinc (v := v1 + 1) (L' := [(1, .int (v1 + 1)), (0, .ref (gA g 37))]) hC dX3_readNumber_107 1 rfl rfl (by decide) rfl 110 rfl ?_
        refine q_goto hC 79 dX3_readNumber_110 (by decide) ?_
        exact XX.sub [1, 0] rfl (ih M10 (v1 + 1) hw)
  have B57 : ∀ (M : MM) (p0 : Int32), wX3_readNumber_57 Q M p0 → XX z g Qf 2 57 [(0, .ref (gA g 37))] [.int p0, .ref (gA g 37)] M := by
    intro M p0 hw
    refine q_putI (C := RX3) (T := TX3) (N := 10) (ci := 3) hC inX3_readNumber_X3 tyX3 tyX3_ok nmX3 (hF.ob 37 (by decide) (fun _ => rfl)) rfl 4 (by decide) (List.mem_of_getElem? (i := 4) (by decide +kernel)) rfl rfl rfl (fun _ => Nat.le_of_ble_eq_true rfl) (fun _ => rfl) dX3_readNumber_57 60 rfl (fun M6 eM6 => ?_)
    have hw := hw M6 eM6
    refine q_aload_n hC dX3_readNumber_60 0 rfl 61 rfl ?_
    refine q_iconst (v := 0) hC dX3_readNumber_61 rfl 62 rfl ?_
    refine q_putI (C := RX3) (T := TX3) (N := 10) (ci := 3) hC inX3_readNumber_X3 tyX3 tyX3_ok nmX3 (hF.ob 37 (by decide) (fun _ => rfl)) rfl 6 (by decide) (List.mem_of_getElem? (i := 5) (by decide +kernel)) rfl rfl rfl (fun _ => Nat.le_of_ble_eq_true rfl) (fun _ => rfl) dX3_readNumber_62 65 rfl (fun M7 eM7 => ?_)
    have hw := hw M7 eM7
    refine q_aload_n hC dX3_readNumber_65 0 rfl 66 rfl ?_
    refine q_getI (C := RX3) (T := TX3) (N := 10) (ci := 3) hC inX3_readNumber_X3 (hF.ob 37 (by decide) (fun _ => rfl)) rfl 4 (by decide) (List.mem_of_getElem? (i := 4) (by decide +kernel)) rfl (fun _ => rfl) dX3_readNumber_66 69 rfl ?_
    refine q_iconst (v := 4) hC dX3_readNumber_69 rfl 70 rfl ?_
    refine q_icmp_ne hC 74 dX3_readNumber_70 (by decide) 73 rfl hw (fun hw => ?_) (fun hw => ?_)
    · refine q_aload_n hC dX3_readNumber_74 0 rfl 75 rfl ?_
      refine q_getI (C := RX3) (T := TX3) (N := 10) (ci := 3) hC inX3_readNumber_X3 (hF.ob 37 (by decide) (fun _ => rfl)) rfl 5 (by decide) (List.mem_of_getElem? (i := 3) (by decide +kernel)) rfl (fun _ => rfl) dX3_readNumber_75 78 rfl ?_
      refine q_istore_n (L' := [(1, .int (M7 37 5)), (0, .ref (gA g 37))]) hC dX3_readNumber_78 (by decide) rfl 79 rfl ?_
      obtain ⟨n0, hw⟩ := hw
      exact XX.sub [1, 0] rfl (B79 n0 M7 (M7 37 5) hw)
    · exact r_vret hR dX3_readNumber_73 hw
  have B38 : ∀ (M : MM), wX3_readNumber_38 Q M → XX z g Qf 2 38 [(0, .ref (gA g 37))] [] M := by
    intro M hw
    refine q_aload_n hC dX3_readNumber_38 0 rfl 39 rfl ?_
    refine q_aload_n hC dX3_readNumber_39 0 rfl 40 rfl ?_
    refine q_getI (C := RX3) (T := TX3) (N := 10) (ci := 3) hC inX3_readNumber_X3 (hF.ob 37 (by decide) (fun _ => rfl)) rfl 3 (by decide) (List.mem_of_getElem? (i := 1) (by decide +kernel)) rfl (fun _ => rfl) dX3_readNumber_40 43 rfl ?_
    refine q_aload_n hC dX3_readNumber_43 0 rfl 44 rfl ?_
    refine q_getI (C := RX3) (T := TX3) (N := 10) (ci := 3) hC inX3_readNumber_X3 (hF.ob 37 (by decide) (fun _ => rfl)) rfl 5 (by decide) (List.mem_of_getElem? (i := 3) (by decide +kernel)) rfl (fun _ => rfl) dX3_readNumber_44 47 rfl ?_
    refine q_isub hC dX3_readNumber_47 48 rfl ?_
    refine q_iconst (v := 4) hC dX3_readNumber_48 rfl 49 rfl ?_
    refine q_icmp_le hC 56 dX3_readNumber_49 (by decide) 52 rfl hw (fun hw => ?_) (fun hw => ?_)
    · refine q_iconst (v := 2) hC dX3_readNumber_56 rfl 57 rfl ?_
      exact XX.sub [0] rfl (B57 M 2 hw)
    · refine q_iconst (v := 4) hC dX3_readNumber_52 rfl 53 rfl ?_
      refine q_goto hC 57 dX3_readNumber_53 (by decide) ?_
      exact XX.sub [0] rfl (B57 M 4 hw)
  have B0 : ∀ (n : Nat) (M : MM) , wX3_readNumber_0 Q n M → XX z g Qf 2 0 [(0, .ref (gA g 37))] [] M := by
    intro n
    induction n with
    | zero =>
      intro M hw
      exact hw.elim
    | succ n ih =>
      intro M hw
      refine q_aload_n hC dX3_readNumber_0 0 rfl 1 rfl ?_
      refine q_getI (C := RX3) (T := TX3) (N := 10) (ci := 3) hC inX3_readNumber_X3 (hF.ob 37 (by decide) (fun _ => rfl)) rfl 3 (by decide) (List.mem_of_getElem? (i := 1) (by decide +kernel)) rfl (fun _ => rfl) dX3_readNumber_1 4 rfl ?_
      refine q_aload_n hC dX3_readNumber_4 0 rfl 5 rfl ?_
      refine q_getI (C := RX3) (T := TX3) (N := 10) (ci := 3) hC inX3_readNumber_X3 (hF.ob 37 (by decide) (fun _ => rfl)) rfl 2 (by decide) (List.mem_of_getElem? (i := 2) (by decide +kernel)) rfl (fun _ => rfl) dX3_readNumber_5 8 rfl ?_
      refine q_icmp_ge hC 38 dX3_readNumber_8 (by decide) 11 rfl hw (fun hw => ?_) (fun hw => ?_)
      · exact XX.sub [0] rfl (B38 M hw)
      · refine q_aload_n hC dX3_readNumber_11 0 rfl 12 rfl ?_
        refine q_aload_n hC dX3_readNumber_12 0 rfl 13 rfl ?_
        refine q_getI (C := RX3) (T := TX3) (N := 10) (ci := 3) hC inX3_readNumber_X3 (hF.ob 37 (by decide) (fun _ => rfl)) rfl 3 (by decide) (List.mem_of_getElem? (i := 1) (by decide +kernel)) rfl (fun _ => rfl) dX3_readNumber_13 16 rfl ?_
        refine r_callI hC (go_V (q := (RX3, TX3, 10)) (As := [.int (M 37 3)]) (rest := []) hC (ctX3_letterAt (zl z) g M (M 37 3) _ hF hw) 1 gX3_readNumber_X3_letterAt rfl ⟨rfl, rfl⟩ (by decide +kernel) ⟨Nat.le_of_ble_eq_true rfl, Nat.le_of_ble_eq_true rfl⟩ (hF.ob 37 (by decide) (fun _ => rfl)) rfl rfl rfl (Nat.le_of_ble_eq_true rfl) dX3_readNumber_16) 19 rfl (fun r1 M2 hw => ?_)
        refine r_callI hC (go_T (As := [.int r1]) (rest := []) hC (ctX3_isFigure (zl z) g M2 r1 _ hw) 1 gX3_readNumber_X3_isFigure rfl ⟨rfl, rfl⟩ (by decide +kernel) ⟨Nat.le_of_ble_eq_true rfl, Nat.le_of_ble_eq_true rfl⟩ rfl rfl (Nat.le_of_ble_eq_true rfl) dX3_readNumber_19) 22 rfl (fun r3 M4 hw => ?_)
        refine q_if_eq hC 38 dX3_readNumber_22 (by decide) 25 rfl hw (fun hw => ?_) (fun hw => ?_)
        · exact XX.sub [0] rfl (B38 M4 hw)
        · refine q_aload_n hC dX3_readNumber_25 0 rfl 26 rfl ?_
          refine q_dup hC dX3_readNumber_26 rfl 27 rfl ?_
          refine q_getI (C := RX3) (T := TX3) (N := 10) (ci := 3) hC inX3_readNumber_X3 (hF.ob 37 (by decide) (fun _ => rfl)) rfl 3 (by decide) (List.mem_of_getElem? (i := 1) (by decide +kernel)) rfl (fun _ => rfl) dX3_readNumber_27 30 rfl ?_
          refine q_iconst (v := 1) hC dX3_readNumber_30 rfl 31 rfl ?_
          refine q_iadd hC dX3_readNumber_31 32 rfl ?_
          refine q_putI (C := RX3) (T := TX3) (N := 10) (ci := 3) hC inX3_readNumber_X3 tyX3 tyX3_ok nmX3 (hF.ob 37 (by decide) (fun _ => rfl)) rfl 3 (by decide) (List.mem_of_getElem? (i := 1) (by decide +kernel)) rfl rfl rfl (fun _ => Nat.le_of_ble_eq_true rfl) (fun _ => rfl) dX3_readNumber_32 35 rfl (fun M5 eM5 => ?_)
          have hw := hw M5 eM5
          refine q_goto hC 0 dX3_readNumber_35 (by decide) ?_
          exact XX.sub [0] rfl (ih M5 hw)
  obtain ⟨n0, hw⟩ := hw
  exact XX.sub [0] rfl (B0 n0 M hw)
