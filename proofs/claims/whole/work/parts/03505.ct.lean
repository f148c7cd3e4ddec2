set_option maxRecDepth 20000 in
theorem inX5_blockAt_X5 : ∀ w ∈ u_ws RX5 TX5 26, w ∈ wsX5_blockAt := by decide +kernel
set_option maxRecDepth 100000 in
set_option maxHeartbeats 4000000 in
theorem ctX5_blockAt (l : Launch) (g : GG) (M : MM) (v1 : Int32) (Q : Int32 → MM → Prop) (hF : full g) (hw : wX5_blockAt Q M v1) : MI g l yX5_blockAt wsX5_blockAt (rmOf 2 46) [.ref (gA g 52), .int v1] M Q := by
  refine mk_MI (cc := cX5_blockAt) (maxL := 4) (by decide) rfl (Nat.le_of_ble_eq_true rfl) ?_
  intro z Qf hC hR
  show XX z g Qf 4 0 [(0, .ref (gA g 52)), (1, .int v1)] [] M
  have B55 : ∀ (K15 : MM → Int32 → Int32 → Prop) (hK15 : ∀ (M : MM) (v2 : Int32) (v3 : Int32) , K15 M v2 v3 → XX z g Qf 4 15 [(0, .ref (gA g 52)), (1, .int v1), (2, .int v2), (3, .int v3)] [] M) (M : MM) (v3 : Int32) (p0 : Int32), wX5_blockAt_55 Q K15 v1 M v3 p0 → XX z g Qf 4 55 [(0, .ref (gA g 52)), (1, .int v1), (3, .int v3)] [.int p0] M := by
    intro K15 hK15 M v3 p0 hw
    refine q_istore_n (L' := [(2, .int p0), (0, .ref (gA g 52)), (1, .int v1), (3, .int v3)]) hC dX5_blockAt_55 (by decide) rfl 56 rfl ?_
    refine q_iinc (v := v3 + 1) (L' := [(3, .int (v3 + 1)), (2, .int p0), (0, .ref (gA g 52)), (1, .int v1)]) hC dX5_blockAt_56 3 rfl rfl (by decide) rfl 59 rfl ?_
    refine q_goto hC 15 dX5_blockAt_59 (by decide) ?_
    exact XX.sub [2, 3, 1, 0] rfl (hK15 M p0 (v3 + 1) hw)
  have B15 : ∀ (n : Nat) (M : MM) (v2 : Int32) (v3 : Int32) , wX5_blockAt_15 Q v1 n M v2 v3 → XX z g Qf 4 15 [(0, .ref (gA g 52)), (1, .int v1), (2, .int v2), (3, .int v3)] [] M := by
    intro n
    induction n with
    | zero =>
      intro M v2 v3 hw
      exact hw.elim
    | succ n ih =>
      intro M v2 v3 hw
      refine q_iload_n hC dX5_blockAt_15 3 rfl 16 rfl ?_
      refine q_aload_n hC dX5_blockAt_16 0 rfl 17 rfl ?_
      refine q_getR (C := RX5) (T := TX5) (N := 26) (ci := 5) hC inX5_blockAt_X5 (obF52 hF) rfl 0 (by decide) (List.mem_of_getElem? (i := 1) (by decide +kernel)) rfl 53 (fun _ => rfl) dX5_blockAt_17 20 rfl ?_
      refine q_iconst (v := 0) hC dX5_blockAt_20 rfl 21 rfl ?_
      obtain ⟨hin, hw⟩ := hw
      refine q_iald hC (arF53 hF) hin dX5_blockAt_21 22 rfl ?_
      refine q_icmp_ge hC 62 dX5_blockAt_22 (by decide) 25 rfl hw (fun hw => ?_) (fun hw => ?_)
      · refine q_iload_n hC dX5_blockAt_62 2 rfl 63 rfl ?_
        exact r_iret hR dX5_blockAt_63 hw
      · refine q_iload_n hC dX5_blockAt_25 1 rfl 26 rfl ?_
        refine q_i2l hC dX5_blockAt_26 27 rfl ?_
        refine q_aload_n hC dX5_blockAt_27 0 rfl 28 rfl ?_
        refine q_getR (C := RX5) (T := TX5) (N := 26) (ci := 5) hC inX5_blockAt_X5 (obF52 hF) rfl 0 (by decide) (List.mem_of_getElem? (i := 1) (by decide +kernel)) rfl 53 (fun _ => rfl) dX5_blockAt_28 31 rfl ?_
        refine q_iconst (v := 1) hC dX5_blockAt_31 rfl 32 rfl ?_
        refine q_iload_n hC dX5_blockAt_32 3 rfl 33 rfl ?_
        refine q_iadd hC dX5_blockAt_33 34 rfl ?_
        obtain ⟨hin, hw⟩ := hw
        refine q_iald hC (arF53 hF) hin dX5_blockAt_34 35 rfl ?_
        refine q_i2l hC dX5_blockAt_35 36 rfl ?_
        refine q_aload_n hC dX5_blockAt_36 0 rfl 37 rfl ?_
        refine q_iload_n hC dX5_blockAt_37 3 rfl 38 rfl ?_
        refine r_callI hC (go_V (q := (RX5, TX5, 26)) (As := [.int v3]) (rest := [.long ((M 53 ((1 : Int32) + v3).toNatClampNeg).toInt64), .long (v1.toInt64)]) hC (ctX5_endOf (zl z) g M v3 _ hF hw) 1 gX5_blockAt_X5_endOf rfl ⟨rfl, rfl⟩ hdV_X5_endOf ⟨Nat.le_of_ble_eq_true rfl, Nat.le_of_ble_eq_true rfl⟩ (obF52 hF) rfl rfl rfl (Nat.le_of_ble_eq_true rfl) dX5_blockAt_38) 41 rfl (fun r3 M4 hw => ?_)
        refine q_iconst (v := 1) hC dX5_blockAt_41 rfl 42 rfl ?_
        refine q_isub hC dX5_blockAt_42 43 rfl ?_
        refine q_i2l hC dX5_blockAt_43 44 rfl ?_
        refine r_callI hC (go_T (As := [.long (v1.toInt64), .long ((M 53 ((1 : Int32) + v3).toNatClampNeg).toInt64), .long ((r3 - (1 : Int32)).toInt64)]) (rest := []) hC (ctX5_in (zl z) g M4 (v1.toInt64) ((M 53 ((1 : Int32) + v3).toNatClampNeg).toInt64) ((r3 - (1 : Int32)).toInt64) _ hw) 3 gX5_blockAt_X5_in rfl ⟨rfl, rfl⟩ hdT_X5_in ⟨Nat.le_of_ble_eq_true rfl, Nat.le_of_ble_eq_true rfl⟩ rfl rfl (Nat.le_of_ble_eq_true rfl) dX5_blockAt_44) 47 rfl (fun r5 M6 hw => ?_)
        refine q_if_eq hC 54 dX5_blockAt_47 (by decide) 50 rfl hw (fun hw => ?_) (fun hw => ?_)
        · refine q_iload_n hC dX5_blockAt_54 2 rfl 55 rfl ?_
          exact XX.sub [0, 1, 3] rfl (B55 _ (fun M v2 v3 hw => ih M v2 v3 hw) M6 v3 v2 hw)
        · refine q_iload_n hC dX5_blockAt_50 3 rfl 51 rfl ?_
          refine q_goto hC 55 dX5_blockAt_51 (by decide) ?_
          exact XX.sub [0, 1, 3] rfl (B55 _ (fun M v2 v3 hw => ih M v2 v3 hw) M6 v3 v3 hw)
  refine q_aload_n hC dX5_blockAt_0 0 rfl 1 rfl ?_
  refine q_iload_n hC dX5_blockAt_1 1 rfl 2 rfl ?_
  refine r_callI hC (go_V (q := (RX5, TX5, 26)) (As := [.int v1]) (rest := []) hC (ctX5_isPlace (zl z) g M v1 _ hF hw) 1 gX5_blockAt_X5_isPlace rfl ⟨rfl, rfl⟩ hdV_X5_isPlace ⟨Nat.le_of_ble_eq_true rfl, Nat.le_of_ble_eq_true rfl⟩ (obF52 hF) rfl rfl rfl (Nat.le_of_ble_eq_true rfl) dX5_blockAt_2) 5 rfl (fun r1 M2 hw => ?_)
  refine q_if_ne hC 10 dX5_blockAt_5 (by decide) 8 rfl hw (fun hw => ?_) (fun hw => ?_)
  · refine q_bipush (v := (-4)) hC dX5_blockAt_10 (by decide) 12 rfl ?_
    refine q_istore_n (L' := [(2, .int (-4)), (0, .ref (gA g 52)), (1, .int v1)]) hC dX5_blockAt_12 (by decide) rfl 13 rfl ?_
    refine q_iconst (v := 0) hC dX5_blockAt_13 rfl 14 rfl ?_
    refine q_istore_n (L' := [(3, .int 0), (2, .int (-4)), (0, .ref (gA g 52)), (1, .int v1)]) hC dX5_blockAt_14 (by decide) rfl 15 rfl ?_
    obtain ⟨n0, hw⟩ := hw
    exact XX.sub [2, 3, 1, 0] rfl (B15 n0 M2 (-4) 0 hw)
  · refine q_iconst (v := (-1)) hC dX5_blockAt_8 rfl 9 rfl ?_
    exact r_iret hR dX5_blockAt_9 hw
set_option maxRecDepth 20000 in
theorem inX5_type_X5 : ∀ w ∈ u_ws RX5 TX5 26, w ∈ wsX5_type := by decide +kernel
set_option maxRecDepth 100000 in
set_option maxHeartbeats 4000000 in
theorem ctX5_type (l : Launch) (g : GG) (M : MM) (v1 : Int32) (Q : Int32 → MM → Prop) (hF : full g) (hw : wX5_type Q M v1) : MI g l yX5_type wsX5_type (rmOf 1 25) [.ref (gA g 52), .int v1] M Q := by
  refine mk_MI (cc := cX5_type) (maxL := 2) (by decide) rfl (Nat.le_of_ble_eq_true rfl) ?_
  intro z Qf hC hR
  show XX z g Qf 2 0 [(0, .ref (gA g 52)), (1, .int v1)] [] M
  refine q_iload_n hC dX5_type_0 1 rfl 1 rfl ?_
  refine q_i2l hC dX5_type_1 2 rfl ?_
  refine q_lconst (v := 0) hC dX5_type_2 rfl 3 rfl ?_
  refine q_ldc2 (v := 255) hC (List.mem_of_getElem? (i := 1) (by decide +kernel)) dX5_type_3 6 rfl ?_
  refine r_callI hC (go_T (As := [.long (v1.toInt64), .long 0, .long 255]) (rest := []) hC (ctX5_in (zl z) g M (v1.toInt64) 0 255 _ hw) 3 gX5_type_X5_in rfl ⟨rfl, rfl⟩ hdT_X5_in ⟨Nat.le_of_ble_eq_true rfl, Nat.le_of_ble_eq_true rfl⟩ rfl rfl (Nat.le_of_ble_eq_true rfl) dX5_type_6) 9 rfl (fun r1 M2 hw => ?_)
  refine q_if_ne hC 14 dX5_type_9 (by decide) 12 rfl hw (fun hw => ?_) (fun hw => ?_)
  · refine q_aload_n hC dX5_type_14 0 rfl 15 rfl ?_
    refine q_getR (C := RX5) (T := TX5) (N := 26) (ci := 5) hC inX5_type_X5 (obF52 hF) rfl 0 (by decide) (List.mem_of_getElem? (i := 2) (by decide +kernel)) rfl 53 (fun _ => rfl) dX5_type_15 18 rfl ?_
    refine q_sipush (v := 327) hC dX5_type_18 (by decide) 21 rfl ?_
    obtain ⟨hin, hw⟩ := hw
    refine q_iald hC (arF53 hF) hin dX5_type_21 22 rfl ?_
    refine q_bipush (v := 12) hC dX5_type_22 (by decide) 24 rfl ?_
    refine q_icmp_ne hC 30 dX5_type_24 (by decide) 27 rfl hw (fun hw => ?_) (fun hw => ?_)
    · refine q_aload_n hC dX5_type_30 0 rfl 31 rfl ?_
      refine q_getR (C := RX5) (T := TX5) (N := 26) (ci := 5) hC inX5_type_X5 (obF52 hF) rfl 0 (by decide) (List.mem_of_getElem? (i := 2) (by decide +kernel)) rfl 53 (fun _ => rfl) dX5_type_31 34 rfl ?_
      refine q_sipush (v := 328) hC dX5_type_34 (by decide) 37 rfl ?_
      refine q_aload_n hC dX5_type_37 0 rfl 38 rfl ?_
      refine q_getR (C := RX5) (T := TX5) (N := 26) (ci := 5) hC inX5_type_X5 (obF52 hF) rfl 0 (by decide) (List.mem_of_getElem? (i := 2) (by decide +kernel)) rfl 53 (fun _ => rfl) dX5_type_38 41 rfl ?_
      refine q_sipush (v := 327) hC dX5_type_41 (by decide) 44 rfl ?_
      obtain ⟨hin, hw⟩ := hw
      refine q_iald hC (arF53 hF) hin dX5_type_44 45 rfl ?_
      refine q_iadd hC dX5_type_45 46 rfl ?_
      refine q_iload_n hC dX5_type_46 1 rfl 47 rfl ?_
      obtain ⟨hin, hw⟩ := hw
      refine q_iast hC (arF53 hF) hin dX5_type_47 48 rfl (fun M3 eM3 => ?_)
      have hw := hw M3 eM3
      refine q_aload_n hC dX5_type_48 0 rfl 49 rfl ?_
      refine q_getR (C := RX5) (T := TX5) (N := 26) (ci := 5) hC inX5_type_X5 (obF52 hF) rfl 0 (by decide) (List.mem_of_getElem? (i := 2) (by decide +kernel)) rfl 53 (fun _ => rfl) dX5_type_49 52 rfl ?_
      refine q_sipush (v := 327) hC dX5_type_52 (by decide) 55 rfl ?_
      refine q_dup2 hC dX5_type_55 rfl rfl 56 rfl ?_
      obtain ⟨hin, hw⟩ := hw
      refine q_iald hC (arF53 hF) hin dX5_type_56 57 rfl ?_
      refine q_iconst (v := 1) hC dX5_type_57 rfl 58 rfl ?_
      refine q_iadd hC dX5_type_58 59 rfl ?_
      obtain ⟨hin, hw⟩ := hw
      refine q_iast hC (arF53 hF) hin dX5_type_59 60 rfl (fun M4 eM4 => ?_)
      have hw := hw M4 eM4
      refine q_aload_n hC dX5_type_60 0 rfl 61 rfl ?_
      refine q_getR (C := RX5) (T := TX5) (N := 26) (ci := 5) hC inX5_type_X5 (obF52 hF) rfl 0 (by decide) (List.mem_of_getElem? (i := 2) (by decide +kernel)) rfl 53 (fun _ => rfl) dX5_type_61 64 rfl ?_
      refine q_sipush (v := 327) hC dX5_type_64 (by decide) 67 rfl ?_
      obtain ⟨hin, hw⟩ := hw
      refine q_iald hC (arF53 hF) hin dX5_type_67 68 rfl ?_
      exact r_iret hR dX5_type_68 hw
    · refine q_bipush (v := (-3)) hC dX5_type_27 (by decide) 29 rfl ?_
      exact r_iret hR dX5_type_29 hw
  · refine q_iconst (v := (-1)) hC dX5_type_12 rfl 13 rfl ?_
    exact r_iret hR dX5_type_13 hw
set_option maxRecDepth 20000 in
theorem inX5_writes_X5 : ∀ w ∈ u_ws RX5 TX5 26, w ∈ wsX5_writes := by decide +kernel
set_option maxRecDepth 100000 in
set_option maxHeartbeats 4000000 in
theorem ctX5_writes (l : Launch) (g : GG) (M : MM) (v1 : Int32) (v2 : Int32) (Q : Int32 → MM → Prop) (hF : full g) (hw : wX5_writes Q M v1 v2) : MI g l yX5_writes wsX5_writes (rmOf 5 112) [.ref (gA g 52), .int v1, .int v2] M Q := by
  refine mk_MI (cc := cX5_writes) (maxL := 4) (by decide) rfl (Nat.le_of_ble_eq_true rfl) ?_
  intro z Qf hC hR
  show XX z g Qf 4 0 [(0, .ref (gA g 52)), (1, .int v1), (2, .int v2)] [] M
  refine q_iload_n hC dX5_writes_0 1 rfl 1 rfl ?_
  refine q_bipush (v := 12) hC dX5_writes_1 (by decide) 3 rfl ?_
  refine q_icmp_eq hC 28 dX5_writes_3 (by decide) 6 rfl hw (fun hw => ?_) (fun hw => ?_)
  · refine q_bipush (v := (-3)) hC dX5_writes_28 (by decide) 30 rfl ?_
    exact r_iret hR dX5_writes_30 hw
  · refine q_aload_n hC dX5_writes_6 0 rfl 7 rfl ?_
    refine q_iload_n hC dX5_writes_7 1 rfl 8 rfl ?_
    refine r_callI hC (go_V (q := (RX5, TX5, 26)) (As := [.int v1]) (rest := []) hC (ctX5_beginOf (zl z) g M v1 _ hF hw) 1 gX5_writes_X5_beginOf rfl ⟨rfl, rfl⟩ hdV_X5_beginOf ⟨Nat.le_of_ble_eq_true rfl, Nat.le_of_ble_eq_true rfl⟩ (obF52 hF) rfl rfl rfl (Nat.le_of_ble_eq_true rfl) dX5_writes_8) 11 rfl (fun r1 M2 hw => ?_)
    refine q_aload_n hC dX5_writes_11 0 rfl 12 rfl ?_
    refine q_iload_n hC dX5_writes_12 2 rfl 13 rfl ?_
    refine r_callI hC (go_V (q := (RX5, TX5, 26)) (As := [.int v2]) (rest := [.int r1]) hC (ctX5_longOf (zl z) g M2 v2 _ hF hw) 1 gX5_writes_X5_longOf rfl ⟨rfl, rfl⟩ hdV_X5_longOf ⟨Nat.le_of_ble_eq_true rfl, Nat.le_of_ble_eq_true rfl⟩ (obF52 hF) rfl rfl rfl (Nat.le_of_ble_eq_true rfl) dX5_writes_13) 16 rfl (fun r3 M4 hw => ?_)
    refine q_iadd hC dX5_writes_16 17 rfl ?_
    refine q_aload_n hC dX5_writes_17 0 rfl 18 rfl ?_
    refine q_getR (C := RX5) (T := TX5) (N := 26) (ci := 5) hC inX5_writes_X5 (obF52 hF) rfl 0 (by decide) (List.mem_of_getElem? (i := 1) (by decide +kernel)) rfl 53 (fun _ => rfl) dX5_writes_18 21 rfl ?_
    refine q_sipush (v := 366) hC dX5_writes_21 (by decide) 24 rfl ?_
    obtain ⟨hin, hw⟩ := hw
    refine q_iald hC (arF53 hF) hin dX5_writes_24 25 rfl ?_
    refine q_icmp_le hC 31 dX5_writes_25 (by decide) 28 rfl hw (fun hw => ?_) (fun hw => ?_)
    · refine q_aload_n hC dX5_writes_31 0 rfl 32 rfl ?_
      refine q_getR (C := RX5) (T := TX5) (N := 26) (ci := 5) hC inX5_writes_X5 (obF52 hF) rfl 0 (by decide) (List.mem_of_getElem? (i := 1) (by decide +kernel)) rfl 53 (fun _ => rfl) dX5_writes_32 35 rfl ?_
      refine q_iconst (v := 0) hC dX5_writes_35 rfl 36 rfl ?_
      refine q_iload_n hC dX5_writes_36 1 rfl 37 rfl ?_
      obtain ⟨hin, hw⟩ := hw
      refine q_iast hC (arF53 hF) hin dX5_writes_37 38 rfl (fun M5 eM5 => ?_)
      have hw := hw M5 eM5
      refine q_aload_n hC dX5_writes_38 0 rfl 39 rfl ?_
      refine q_aload_n hC dX5_writes_39 0 rfl 40 rfl ?_
      refine q_iload_n hC dX5_writes_40 1 rfl 41 rfl ?_
      refine r_callI hC (go_V (q := (RX5, TX5, 26)) (As := [.int v1]) (rest := [.ref (gA g 52)]) hC (ctX5_beginOf (zl z) g M5 v1 _ hF hw) 1 gX5_writes_X5_beginOf rfl ⟨rfl, rfl⟩ hdV_X5_beginOf ⟨Nat.le_of_ble_eq_true rfl, Nat.le_of_ble_eq_true rfl⟩ (obF52 hF) rfl rfl rfl (Nat.le_of_ble_eq_true rfl) dX5_writes_41) 44 rfl (fun r6 M7 hw => ?_)
      refine r_callI hC (go_V (q := (RX5, TX5, 26)) (As := [.int r6]) (rest := []) hC (ctX5_goesTo (zl z) g M7 r6 _ hF hw) 1 gX5_writes_X5_goesTo rfl ⟨rfl, rfl⟩ hdV_X5_goesTo ⟨Nat.le_of_ble_eq_true rfl, Nat.le_of_ble_eq_true rfl⟩ (obF52 hF) rfl rfl rfl (Nat.le_of_ble_eq_true rfl) dX5_writes_44) 47 rfl (fun r8 M9 hw => ?_)
      refine q_aload_n hC dX5_writes_47 0 rfl 48 rfl ?_
      refine q_getR (C := RX5) (T := TX5) (N := 26) (ci := 5) hC inX5_writes_X5 (obF52 hF) rfl 2 (by decide) (List.mem_of_getElem? (i := 2) (by decide +kernel)) rfl 55 (fun _ => rfl) dX5_writes_48 51 rfl ?_
      refine q_iconst (v := 3) hC dX5_writes_51 rfl 52 rfl ?_
      obtain ⟨hin, hw⟩ := hw
      refine q_iald hC (arF55 hF) hin dX5_writes_52 53 rfl ?_
      refine q_aload_n hC dX5_writes_53 0 rfl 54 rfl ?_
      refine q_iload_n hC dX5_writes_54 2 rfl 55 rfl ?_
      refine r_callI hC (go_V (q := (RX5, TX5, 26)) (As := [.int v2]) (rest := [.int (M9 55 (3 : Int32).toNatClampNeg), .int r8]) hC (ctX5_longOf (zl z) g M9 v2 _ hF hw) 1 gX5_writes_X5_longOf rfl ⟨rfl, rfl⟩ hdV_X5_longOf ⟨Nat.le_of_ble_eq_true rfl, Nat.le_of_ble_eq_true rfl⟩ (obF52 hF) rfl rfl rfl (Nat.le_of_ble_eq_true rfl) dX5_writes_55) 58 rfl (fun r10 M11 hw => ?_)
      refine q_imul hC dX5_writes_58 59 rfl ?_
      refine q_iadd hC dX5_writes_59 60 rfl ?_
      refine q_nameI (fun x12 ex12 => ?_)
      have hw := hw x12 ex12
      refine q_istore_n (L' := [(3, .int x12), (0, .ref (gA g 52)), (1, .int v1), (2, .int v2)]) hC dX5_writes_60 (by decide) rfl 61 rfl ?_
      refine q_aload_n hC dX5_writes_61 1 rfl 62 rfl ?_
      refine q_iload_n hC dX5_writes_62 3 rfl 63 rfl ?_
      refine r_callV hC (go_V (q := (RX5, TX5, 26)) (As := [.int v2]) (rest := []) hC (ctX5_lays (zl z) g M11 v2 _ hF hw) 1 gX5_writes_X5_lays rfl ⟨rfl, rfl⟩ hdV_X5_lays ⟨Nat.le_of_ble_eq_true rfl, Nat.le_of_ble_eq_true rfl⟩ (obF52 hF) rfl rfl rfl (Nat.le_of_ble_eq_true rfl) dX5_writes_63) 66 rfl (fun M13 hw => ?_)
      refine q_aload_n hC dX5_writes_66 1 rfl 67 rfl ?_
      refine q_getR (C := RX5) (T := TX5) (N := 26) (ci := 5) hC inX5_writes_X5 (obF52 hF) rfl 0 (by decide) (List.mem_of_getElem? (i := 1) (by decide +kernel)) rfl 53 (fun _ => rfl) dX5_writes_67 70 rfl ?_
      refine q_sipush (v := 326) hC dX5_writes_70 (by decide) 73 rfl ?_
      refine q_dup2 hC dX5_writes_73 rfl rfl 74 rfl ?_
      obtain ⟨hin, hw⟩ := hw
      refine q_iald hC (arF53 hF) hin dX5_writes_74 75 rfl ?_
      refine q_aload_n hC dX5_writes_75 1 rfl 76 rfl ?_
      refine q_getR (C := RX5) (T := TX5) (N := 26) (ci := 5) hC inX5_writes_X5 (obF52 hF) rfl 2 (by decide) (List.mem_of_getElem? (i := 2) (by decide +kernel)) rfl 55 (fun _ => rfl) dX5_writes_76 79 rfl ?_
      refine q_iconst (v := 3) hC dX5_writes_79 rfl 80 rfl ?_
      obtain ⟨hin, hw⟩ := hw
      refine q_iald hC (arF55 hF) hin dX5_writes_80 81 rfl ?_
      refine q_aload_n hC dX5_writes_81 1 rfl 82 rfl ?_
      refine q_iload_n hC dX5_writes_82 3 rfl 83 rfl ?_
      refine r_callI hC (go_V (q := (RX5, TX5, 26)) (As := [.int v2]) (rest := [.int (M13 55 (3 : Int32).toNatClampNeg), .int (M13 53 (326 : Int32).toNatClampNeg), .int 326, .ref (gA g 53)]) hC (ctX5_longOf (zl z) g M13 v2 _ hF hw) 1 gX5_writes_X5_longOf rfl ⟨rfl, rfl⟩ hdV_X5_longOf ⟨Nat.le_of_ble_eq_true rfl, Nat.le_of_ble_eq_true rfl⟩ (obF52 hF) rfl rfl rfl (Nat.le_of_ble_eq_true rfl) dX5_writes_83) 86 rfl (fun r14 M15 hw => ?_)
      refine q_imul hC dX5_writes_86 87 rfl ?_
      refine q_iadd hC dX5_writes_87 88 rfl ?_
      obtain ⟨hin, hw⟩ := hw
      refine q_iast hC (arF53 hF) hin dX5_writes_88 89 rfl (fun M16 eM16 => ?_)
      have hw := hw M16 eM16
      refine q_aload_n hC dX5_writes_89 1 rfl 90 rfl ?_
      refine q_getR (C := RX5) (T := TX5) (N := 26) (ci := 5) hC inX5_writes_X5 (obF52 hF) rfl 0 (by decide) (List.mem_of_getElem? (i := 1) (by decide +kernel)) rfl 53 (fun _ => rfl) dX5_writes_90 93 rfl ?_
      refine q_sipush (v := 325) hC dX5_writes_93 (by decide) 96 rfl ?_
      refine q_aload_n hC dX5_writes_96 1 rfl 97 rfl ?_
      refine q_iload_n hC dX5_writes_97 2 rfl 98 rfl ?_
      refine r_callI hC (go_V (q := (RX5, TX5, 26)) (As := [.int v1]) (rest := [.int 325, .ref (gA g 53)]) hC (ctX5_endOf (zl z) g M16 v1 _ hF hw) 1 gX5_writes_X5_endOf rfl ⟨rfl, rfl⟩ hdV_X5_endOf ⟨Nat.le_of_ble_eq_true rfl, Nat.le_of_ble_eq_true rfl⟩ (obF52 hF) rfl rfl rfl (Nat.le_of_ble_eq_true rfl) dX5_writes_98) 101 rfl (fun r17 M18 hw => ?_)
      obtain ⟨hin, hw⟩ := hw
      refine q_iast hC (arF53 hF) hin dX5_writes_101 102 rfl (fun M19 eM19 => ?_)
      have hw := hw M19 eM19
      refine q_iload_n hC dX5_writes_102 0 rfl 103 rfl ?_
      exact r_iret hR dX5_writes_103 hw
    · refine q_bipush (v := (-3)) hC dX5_writes_28 (by decide) 30 rfl ?_
      exact r_iret hR dX5_writes_30 hw
theorem hdV_X5_writes : yX5_writes.cls = RX5 ∧ yX5_writes.cls ≠ "java/lang/invoke/MethodHandle" ∧ yX5_writes.cls ≠ "java/lang/invoke/VarHandle" ∧ (parseMethodDescriptor yX5_writes.desc).map (fun d => d.parameters.length) = some 2 := by decide +kernel
set_option maxRecDepth 20000 in
theorem inX5_write_X5 : ∀ w ∈ u_ws RX5 TX5 26, w ∈ wsX5_write := by decide +kernel
set_option maxRecDepth 100000 in
set_option maxHeartbeats 4000000 in
theorem ctX5_write (l : Launch) (g : GG) (M : MM) (v1 : Int32) (Q : Int32 → MM → Prop) (hF : full g) (hw : wX5_write Q M v1) : MI g l yX5_write wsX5_write (rmOf 6 135) [.ref (gA g 52), .int v1] M Q := by
  refine mk_MI (cc := cX5_write) (maxL := 3) (by decide) rfl (Nat.le_of_ble_eq_true rfl) ?_
  intro z Qf hC hR
  show XX z g Qf 3 0 [(0, .ref (gA g 52)), (1, .int v1)] [] M
  have B105 : ∀ (M : MM) (v2 : Int32) (p0 : Int32) (p1 : Int32), wX5_write_105 Q v1 M v2 p0 p1 → XX z g Qf 3 105 [(2, .int v2)] [.int p0, .int p1, .ref (gA g 53)] M := by
    intro M v2 p0 p1 hw
    obtain ⟨hin, hw⟩ := hw
    refine q_iast hC (arF53 hF) hin dX5_write_105 106 rfl (fun M6 eM6 => ?_)
    have hw := hw M6 eM6
    refine q_iload_n hC dX5_write_106 0 rfl 107 rfl ?_
    exact r_iret hR dX5_write_107 hw
  have B34 : ∀ (n : Nat) (M : MM) (v2 : Int32) , wX5_write_34 Q v1 n M v2 → XX z g Qf 3 34 [(0, .ref (gA g 52)), (1, .int v1), (2, .int v2)] [] M := by
    intro n
    induction n with
    | zero =>
      intro M v2 hw
      exact hw.elim
    | succ n ih =>
      intro M v2 hw
      refine q_iload_n hC dX5_write_34 2 rfl 35 rfl ?_
      refine q_aload_n hC dX5_write_35 0 rfl 36 rfl ?_
      refine q_getR (C := RX5) (T := TX5) (N := 26) (ci := 5) hC inX5_write_X5 (obF52 hF) rfl 0 (by decide) (List.mem_of_getElem? (i := 1) (by decide +kernel)) rfl 53 (fun _ => rfl) dX5_write_36 39 rfl ?_
      refine q_sipush (v := 327) hC dX5_write_39 (by decide) 42 rfl ?_
      obtain ⟨hin, hw⟩ := hw
      refine q_iald hC (arF53 hF) hin dX5_write_42 43 rfl ?_
      refine q_icmp_ge hC 68 dX5_write_43 (by decide) 46 rfl hw (fun hw => ?_) (fun hw => ?_)
      · refine q_aload_n hC dX5_write_68 0 rfl 69 rfl ?_
        refine q_iload_n hC dX5_write_69 1 rfl 70 rfl ?_
        refine q_aload_n hC dX5_write_70 0 rfl 71 rfl ?_
        refine q_getR (C := RX5) (T := TX5) (N := 26) (ci := 5) hC inX5_write_X5 (obF52 hF) rfl 0 (by decide) (List.mem_of_getElem? (i := 1) (by decide +kernel)) rfl 53 (fun _ => rfl) dX5_write_71 74 rfl ?_
        refine q_sipush (v := 327) hC dX5_write_74 (by decide) 77 rfl ?_
        obtain ⟨hin, hw⟩ := hw
        refine q_iald hC (arF53 hF) hin dX5_write_77 78 rfl ?_
        refine r_callI hC (go_V (q := (RX5, TX5, 26)) (As := [.int v1, .int (M 53 (327 : Int32).toNatClampNeg)]) (rest := []) hC (ctX5_writes (zl z) g M v1 (M 53 (327 : Int32).toNatClampNeg) _ hF hw) 2 gX5_write_X5_writes rfl ⟨rfl, rfl⟩ hdV_X5_writes ⟨Nat.le_of_ble_eq_true rfl, Nat.le_of_ble_eq_true rfl⟩ (obF52 hF) rfl rfl rfl (Nat.le_of_ble_eq_true rfl) dX5_write_78) 81 rfl (fun r3 M4 hw => ?_)
        refine q_istore_n (L' := [(2, .int r3), (0, .ref (gA g 52)), (1, .int v1)]) hC dX5_write_81 (by decide) rfl 82 rfl ?_
        refine q_aload_n hC dX5_write_82 1 rfl 83 rfl ?_
        refine q_getR (C := RX5) (T := TX5) (N := 26) (ci := 5) hC inX5_write_X5 (obF52 hF) rfl 0 (by decide) (List.mem_of_getElem? (i := 1) (by decide +kernel)) rfl 53 (fun _ => rfl) dX5_write_83 86 rfl ?_
        refine q_sipush (v := 327) hC dX5_write_86 (by decide) 89 rfl ?_
        refine q_iload_n hC dX5_write_89 0 rfl 90 rfl ?_
        refine q_if_ge hC 104 dX5_write_90 (by decide) 93 rfl hw (fun hw => ?_) (fun hw => ?_)
        · refine q_iconst (v := 0) hC dX5_write_104 rfl 105 rfl ?_
          exact XX.sub [0] rfl (B105 M4 r3 0 327 hw)
        · refine q_aload_n hC dX5_write_93 1 rfl 94 rfl ?_
          refine q_getR (C := RX5) (T := TX5) (N := 26) (ci := 5) hC inX5_write_X5 (obF52 hF) rfl 0 (by decide) (List.mem_of_getElem? (i := 1) (by decide +kernel)) rfl 53 (fun _ => rfl) dX5_write_94 97 rfl ?_
          refine q_sipush (v := 327) hC dX5_write_97 (by decide) 100 rfl ?_
          obtain ⟨hin, hw⟩ := hw
          refine q_iald hC (arF53 hF) hin dX5_write_100 101 rfl ?_
          refine q_goto hC 105 dX5_write_101 (by decide) ?_
          exact XX.sub [0] rfl (B105 M4 r3 (M4 53 (327 : Int32).toNatClampNeg) 327 hw)
      · refine q_aload_n hC dX5_write_46 0 rfl 47 rfl ?_
        refine q_getR (C := RX5) (T := TX5) (N := 26) (ci := 5) hC inX5_write_X5 (obF52 hF) rfl 16 (by decide) (List.mem_of_getElem? (i := 2) (by decide +kernel)) rfl 60 (fun _ => rfl) dX5_write_47 50 rfl ?_
        refine q_iload_n hC dX5_write_50 2 rfl 51 rfl ?_
        refine q_aload_n hC dX5_write_51 0 rfl 52 rfl ?_
        refine q_getR (C := RX5) (T := TX5) (N := 26) (ci := 5) hC inX5_write_X5 (obF52 hF) rfl 0 (by decide) (List.mem_of_getElem? (i := 1) (by decide +kernel)) rfl 53 (fun _ => rfl) dX5_write_52 55 rfl ?_
        refine q_sipush (v := 328) hC dX5_write_55 (by decide) 58 rfl ?_
        refine q_iload_n hC dX5_write_58 2 rfl 59 rfl ?_
        refine q_iadd hC dX5_write_59 60 rfl ?_
        obtain ⟨hin, hw⟩ := hw
        refine q_iald hC (arF53 hF) hin dX5_write_60 61 rfl ?_
        obtain ⟨hin, hw⟩ := hw
        refine q_iast hC (arF60 hF) hin dX5_write_61 62 rfl (fun M5 eM5 => ?_)
        have hw := hw M5 eM5
        refine q_iinc (v := v2 + 1) (L' := [(2, .int (v2 + 1)), (0, .ref (gA g 52)), (1, .int v1)]) hC dX5_write_62 2 rfl rfl (by decide) rfl 65 rfl ?_
        refine q_goto hC 34 dX5_write_65 (by decide) ?_
        exact XX.sub [1, 2, 0] rfl (ih M5 (v2 + 1) hw)
  refine q_iload_n hC dX5_write_0 1 rfl 1 rfl ?_
  refine q_i2l hC dX5_write_1 2 rfl ?_
  refine q_lconst (v := 0) hC dX5_write_2 rfl 3 rfl ?_
  refine q_aload_n hC dX5_write_3 0 rfl 4 rfl ?_
  refine q_getR (C := RX5) (T := TX5) (N := 26) (ci := 5) hC inX5_write_X5 (obF52 hF) rfl 0 (by decide) (List.mem_of_getElem? (i := 1) (by decide +kernel)) rfl 53 (fun _ => rfl) dX5_write_4 7 rfl ?_
  refine q_iconst (v := 0) hC dX5_write_7 rfl 8 rfl ?_
  obtain ⟨hin, hw⟩ := hw
  refine q_iald hC (arF53 hF) hin dX5_write_8 9 rfl ?_
  refine q_i2l hC dX5_write_9 10 rfl ?_
  refine r_callI hC (go_T (As := [.long (v1.toInt64), .long 0, .long ((M 53 (0 : Int32).toNatClampNeg).toInt64)]) (rest := []) hC (ctX5_in (zl z) g M (v1.toInt64) 0 ((M 53 (0 : Int32).toNatClampNeg).toInt64) _ hw) 3 gX5_write_X5_in rfl ⟨rfl, rfl⟩ hdT_X5_in ⟨Nat.le_of_ble_eq_true rfl, Nat.le_of_ble_eq_true rfl⟩ rfl rfl (Nat.le_of_ble_eq_true rfl) dX5_write_10) 13 rfl (fun r1 M2 hw => ?_)
  refine q_if_ne hC 18 dX5_write_13 (by decide) 16 rfl hw (fun hw => ?_) (fun hw => ?_)
  · refine q_aload_n hC dX5_write_18 0 rfl 19 rfl ?_
    refine q_getR (C := RX5) (T := TX5) (N := 26) (ci := 5) hC inX5_write_X5 (obF52 hF) rfl 0 (by decide) (List.mem_of_getElem? (i := 1) (by decide +kernel)) rfl 53 (fun _ => rfl) dX5_write_19 22 rfl ?_
    refine q_sipush (v := 327) hC dX5_write_22 (by decide) 25 rfl ?_
    obtain ⟨hin, hw⟩ := hw
    refine q_iald hC (arF53 hF) hin dX5_write_25 26 rfl ?_
    refine q_if_ne hC 32 dX5_write_26 (by decide) 29 rfl hw (fun hw => ?_) (fun hw => ?_)
    · refine q_iconst (v := 0) hC dX5_write_32 rfl 33 rfl ?_
      refine q_istore_n (L' := [(2, .int 0), (0, .ref (gA g 52)), (1, .int v1)]) hC dX5_write_33 (by decide) rfl 34 rfl ?_
      obtain ⟨n0, hw⟩ := hw
      exact XX.sub [1, 2, 0] rfl (B34 n0 M2 0 hw)
    · refine q_bipush (v := (-2)) hC dX5_write_29 (by decide) 31 rfl ?_
      exact r_iret hR dX5_write_31 hw
  · refine q_iconst (v := (-1)) hC dX5_write_16 rfl 17 rfl ?_
    exact r_iret hR dX5_write_17 hw
set_option maxRecDepth 20000 in
theorem inX5_mark_X5 : ∀ w ∈ u_ws RX5 TX5 26, w ∈ wsX5_mark := by decide +kernel
set_option maxRecDepth 100000 in
set_option maxHeartbeats 4000000 in
theorem ctX5_mark (l : Launch) (g : GG) (M : MM) (v1 : Int32) (Q : Int32 → MM → Prop) (hF : full g) (hw : wX5_mark Q M v1) : MI g l yX5_mark wsX5_mark (rmOf 6 135) [.ref (gA g 52), .int v1] M Q := by
  refine mk_MI (cc := cX5_mark) (maxL := 2) (by decide) rfl (Nat.le_of_ble_eq_true rfl) ?_
  intro z Qf hC hR
  show XX z g Qf 2 0 [(0, .ref (gA g 52)), (1, .int v1)] [] M
  refine q_iload_n hC dX5_mark_0 1 rfl 1 rfl ?_
  refine q_i2l hC dX5_mark_1 2 rfl ?_
  refine q_lconst (v := 0) hC dX5_mark_2 rfl 3 rfl ?_
  refine q_aload_n hC dX5_mark_3 0 rfl 4 rfl ?_
  refine q_getR (C := RX5) (T := TX5) (N := 26) (ci := 5) hC inX5_mark_X5 (obF52 hF) rfl 0 (by decide) (List.mem_of_getElem? (i := 1) (by decide +kernel)) rfl 53 (fun _ => rfl) dX5_mark_4 7 rfl ?_
  refine q_iconst (v := 0) hC dX5_mark_7 rfl 8 rfl ?_
  obtain ⟨hin, hw⟩ := hw
  refine q_iald hC (arF53 hF) hin dX5_mark_8 9 rfl ?_
  refine q_i2l hC dX5_mark_9 10 rfl ?_
  refine r_callI hC (go_T (As := [.long (v1.toInt64), .long 0, .long ((M 53 (0 : Int32).toNatClampNeg).toInt64)]) (rest := []) hC (ctX5_in (zl z) g M (v1.toInt64) 0 ((M 53 (0 : Int32).toNatClampNeg).toInt64) _ hw) 3 gX5_mark_X5_in rfl ⟨rfl, rfl⟩ hdT_X5_in ⟨Nat.le_of_ble_eq_true rfl, Nat.le_of_ble_eq_true rfl⟩ rfl rfl (Nat.le_of_ble_eq_true rfl) dX5_mark_10) 13 rfl (fun r1 M2 hw => ?_)
  refine q_if_eq hC 25 dX5_mark_13 (by decide) 16 rfl hw (fun hw => ?_) (fun hw => ?_)
  · refine q_iconst (v := (-1)) hC dX5_mark_25 rfl 26 rfl ?_
    exact r_iret hR dX5_mark_26 hw
  · refine q_aload_n hC dX5_mark_16 0 rfl 17 rfl ?_
    refine q_iload_n hC dX5_mark_17 1 rfl 18 rfl ?_
    refine q_iconst (v := 0) hC dX5_mark_18 rfl 19 rfl ?_
    refine r_callI hC (go_V (q := (RX5, TX5, 26)) (As := [.int v1, .int 0]) (rest := []) hC (ctX5_writes (zl z) g M2 v1 0 _ hF hw) 2 gX5_mark_X5_writes rfl ⟨rfl, rfl⟩ hdV_X5_writes ⟨Nat.le_of_ble_eq_true rfl, Nat.le_of_ble_eq_true rfl⟩ (obF52 hF) rfl rfl rfl (Nat.le_of_ble_eq_true rfl) dX5_mark_19) 22 rfl (fun r3 M4 hw => ?_)
    refine q_goto hC 26 dX5_mark_22 (by decide) ?_
    exact r_iret hR dX5_mark_26 hw
set_option maxRecDepth 100000 in
set_option maxHeartbeats 4000000 in
theorem ctX5_isTrack (l : Launch) (g : GG) (M : MM) (v0 : Int32) (Q : Int32 → MM → Prop)  (hw : wX5_isTrack Q M v0) : MI g l yX5_isTrack wsX5_isTrack (rmOf 1 25) [.int v0] M Q := by
  refine mk_MZ (cc := cX5_isTrack) (maxL := 1) (by decide) rfl (Nat.le_of_ble_eq_true rfl) ?_
  intro z Qf hC hR
  show XX z g Qf 1 0 [(0, .int v0)] [] M
  refine q_iload_n hC dX5_isTrack_0 0 rfl 1 rfl ?_
  refine q_i2l hC dX5_isTrack_1 2 rfl ?_
  refine q_lconst (v := 0) hC dX5_isTrack_2 rfl 3 rfl ?_
  refine q_ldc2 (v := 8) hC (List.mem_of_getElem? (i := 1) (by decide +kernel)) dX5_isTrack_3 6 rfl ?_
  refine r_callI hC (go_T (As := [.long (v0.toInt64), .long 0, .long 8]) (rest := []) hC (ctX5_in (zl z) g M (v0.toInt64) 0 8 _ hw) 3 gX5_isTrack_X5_in rfl ⟨rfl, rfl⟩ hdT_X5_in ⟨Nat.le_of_ble_eq_true rfl, Nat.le_of_ble_eq_true rfl⟩ rfl rfl (Nat.le_of_ble_eq_true rfl) dX5_isTrack_6) 9 rfl (fun r1 M2 hw => ?_)
  exact r_iret hR dX5_isTrack_9 hw
set_option maxRecDepth 20000 in
theorem inX5_isColumn_X5 : ∀ w ∈ u_ws RX5 TX5 26, w ∈ wsX5_isColumn := by decide +kernel
set_option maxRecDepth 100000 in
set_option maxHeartbeats 4000000 in
theorem ctX5_isColumn (l : Launch) (g : GG) (M : MM) (v1 : Int32) (v2 : Int32) (Q : Int32 → MM → Prop) (hF : full g) (hw : wX5_isColumn Q M v1 v2) : MI g l yX5_isColumn wsX5_isColumn (rmOf 2 46) [.ref (gA g 52), .int v1, .int v2] M Q := by
  refine mk_MZ (cc := cX5_isColumn) (maxL := 3) (by decide) rfl (Nat.le_of_ble_eq_true rfl) ?_
  intro z Qf hC hR
  show XX z g Qf 3 0 [(0, .ref (gA g 52)), (1, .int v1), (2, .int v2)] [] M
  have B43 : ∀ (M : MM), wX5_isColumn_43 Q v1 v2 M → XX z g Qf 3 43 [] [] M := by
    intro M hw
    refine q_iconst (v := 0) hC dX5_isColumn_43 rfl 44 rfl ?_
    exact r_iret hR dX5_isColumn_44 ⟨nb_0, hw⟩
  refine q_aload_n hC dX5_isColumn_0 0 rfl 1 rfl ?_
  refine q_iload_n hC dX5_isColumn_1 1 rfl 2 rfl ?_
  refine r_callI hC (go_V (q := (RX5, TX5, 26)) (As := [.int v1]) (rest := []) hC (ctX5_isBlock (zl z) g M v1 _ hF hw) 1 gX5_isColumn_X5_isBlock rfl ⟨rfl, rfl⟩ hdV_X5_isBlock ⟨Nat.le_of_ble_eq_true rfl, Nat.le_of_ble_eq_true rfl⟩ (obF52 hF) rfl rfl rfl (Nat.le_of_ble_eq_true rfl) dX5_isColumn_2) 5 rfl (fun r1 M2 hw => ?_)
  refine q_if_eq hC 43 dX5_isColumn_5 (by decide) 8 rfl hw (fun hw => ?_) (fun hw => ?_)
  · exact XX.sub [] rfl (B43 M2 hw)
  · refine q_aload_n hC dX5_isColumn_8 0 rfl 9 rfl ?_
    refine q_getR (C := RX5) (T := TX5) (N := 26) (ci := 5) hC inX5_isColumn_X5 (obF52 hF) rfl 0 (by decide) (List.mem_of_getElem? (i := 1) (by decide +kernel)) rfl 53 (fun _ => rfl) dX5_isColumn_9 12 rfl ?_
    refine q_bipush (v := 13) hC dX5_isColumn_12 (by decide) 14 rfl ?_
    refine q_iload_n hC dX5_isColumn_14 1 rfl 15 rfl ?_
    refine q_iadd hC dX5_isColumn_15 16 rfl ?_
    obtain ⟨hin, hw⟩ := hw
    refine q_iald hC (arF53 hF) hin dX5_isColumn_16 17 rfl ?_
    refine q_if_le hC 43 dX5_isColumn_17 (by decide) 20 rfl hw (fun hw => ?_) (fun hw => ?_)
    · exact XX.sub [] rfl (B43 M2 hw)
    · refine q_iload_n hC dX5_isColumn_20 2 rfl 21 rfl ?_
      refine q_i2l hC dX5_isColumn_21 22 rfl ?_
      refine q_lconst (v := 0) hC dX5_isColumn_22 rfl 23 rfl ?_
      refine q_aload_n hC dX5_isColumn_23 0 rfl 24 rfl ?_
      refine q_getR (C := RX5) (T := TX5) (N := 26) (ci := 5) hC inX5_isColumn_X5 (obF52 hF) rfl 0 (by decide) (List.mem_of_getElem? (i := 1) (by decide +kernel)) rfl 53 (fun _ => rfl) dX5_isColumn_24 27 rfl ?_
      refine q_bipush (v := 13) hC dX5_isColumn_27 (by decide) 29 rfl ?_
      refine q_iload_n hC dX5_isColumn_29 1 rfl 30 rfl ?_
      refine q_iadd hC dX5_isColumn_30 31 rfl ?_
      obtain ⟨hin, hw⟩ := hw
      refine q_iald hC (arF53 hF) hin dX5_isColumn_31 32 rfl ?_
      refine q_i2l hC dX5_isColumn_32 33 rfl ?_
      refine r_callI hC (go_T (As := [.long (v2.toInt64), .long 0, .long ((M2 53 ((13 : Int32) + v1).toNatClampNeg).toInt64)]) (rest := []) hC (ctX5_in (zl z) g M2 (v2.toInt64) 0 ((M2 53 ((13 : Int32) + v1).toNatClampNeg).toInt64) _ hw) 3 gX5_isColumn_X5_in rfl ⟨rfl, rfl⟩ hdT_X5_in ⟨Nat.le_of_ble_eq_true rfl, Nat.le_of_ble_eq_true rfl⟩ rfl rfl (Nat.le_of_ble_eq_true rfl) dX5_isColumn_33) 36 rfl (fun r3 M4 hw => ?_)
      refine q_if_eq hC 43 dX5_isColumn_36 (by decide) 39 rfl hw (fun hw => ?_) (fun hw => ?_)
      · exact XX.sub [] rfl (B43 M4 hw)
      · refine q_iconst (v := 1) hC dX5_isColumn_39 rfl 40 rfl ?_
        refine q_goto hC 44 dX5_isColumn_40 (by decide) ?_
        exact r_iret hR dX5_isColumn_44 ⟨nb_1, hw⟩
theorem hdV_X5_isColumn : yX5_isColumn.cls = RX5 ∧ yX5_isColumn.cls ≠ "java/lang/invoke/MethodHandle" ∧ yX5_isColumn.cls ≠ "java/lang/invoke/VarHandle" ∧ (parseMethodDescriptor yX5_isColumn.desc).map (fun d => d.parameters.length) = some 2 := by decide +kernel
theorem hdT_X5_isTrack : yX5_isTrack.cls ≠ "java/lang/invoke/MethodHandle" ∧ yX5_isTrack.cls ≠ "java/lang/invoke/VarHandle" ∧ (parseMethodDescriptor yX5_isTrack.desc).map (fun d => d.parameters.length) = some 1 := by decide +kernel
set_option maxRecDepth 20000 in
theorem inX5_spoil_X5 : ∀ w ∈ u_ws RX5 TX5 26, w ∈ wsX5_spoil := by decide +kernel
set_option maxRecDepth 100000 in
set_option maxHeartbeats 4000000 in
theorem ctX5_spoil (l : Launch) (g : GG) (M : MM) (v1 : Int32) (v2 : Int32) (v3 : Int32) (Q : Int32 → MM → Prop) (hF : full g) (hw : wX5_spoil Q M v1 v2 v3) : MI g l yX5_spoil wsX5_spoil (rmOf 3 68) [.ref (gA g 52), .int v1, .int v2, .int v3] M Q := by
  refine mk_MI (cc := cX5_spoil) (maxL := 4) (by decide) rfl (Nat.le_of_ble_eq_true rfl) ?_
  intro z Qf hC hR
  show XX z g Qf 4 0 [(0, .ref (gA g 52)), (1, .int v1), (2, .int v2), (3, .int v3)] [] M
  refine q_aload_n hC dX5_spoil_0 0 rfl 1 rfl ?_
  refine q_iload_n hC dX5_spoil_1 1 rfl 2 rfl ?_
  refine q_iload_n hC dX5_spoil_2 2 rfl 3 rfl ?_
  refine r_callI hC (go_V (q := (RX5, TX5, 26)) (As := [.int v1, .int v2]) (rest := []) hC (ctX5_isColumn (zl z) g M v1 v2 _ hF hw) 2 gX5_spoil_X5_isColumn rfl ⟨rfl, rfl⟩ hdV_X5_isColumn ⟨Nat.le_of_ble_eq_true rfl, Nat.le_of_ble_eq_true rfl⟩ (obF52 hF) rfl rfl rfl (Nat.le_of_ble_eq_true rfl) dX5_spoil_3) 6 rfl (fun r1 M2 hw => ?_)
  refine q_if_eq hC 16 dX5_spoil_6 (by decide) 9 rfl hw (fun hw => ?_) (fun hw => ?_)
  · refine q_iconst (v := (-1)) hC dX5_spoil_16 rfl 17 rfl ?_
    exact r_iret hR dX5_spoil_17 hw
  · refine q_iload_n hC dX5_spoil_9 3 rfl 10 rfl ?_
    refine r_callI hC (go_T (As := [.int v3]) (rest := []) hC (ctX5_isTrack (zl z) g M2 v3 _ hw) 1 gX5_spoil_X5_isTrack rfl ⟨rfl, rfl⟩ hdT_X5_isTrack ⟨Nat.le_of_ble_eq_true rfl, Nat.le_of_ble_eq_true rfl⟩ rfl rfl (Nat.le_of_ble_eq_true rfl) dX5_spoil_10) 13 rfl (fun r3 M4 hw => ?_)
    refine q_if_ne hC 18 dX5_spoil_13 (by decide) 16 rfl hw (fun hw => ?_) (fun hw => ?_)
    · refine q_aload_n hC dX5_spoil_18 0 rfl 19 rfl ?_
      refine q_getR (C := RX5) (T := TX5) (N := 26) (ci := 5) hC inX5_spoil_X5 (obF52 hF) rfl 0 (by decide) (List.mem_of_getElem? (i := 1) (by decide +kernel)) rfl 53 (fun _ => rfl) dX5_spoil_19 22 rfl ?_
      refine q_bipush (v := 25) hC dX5_spoil_22 (by decide) 24 rfl ?_
      refine q_bipush (v := 13) hC dX5_spoil_24 (by decide) 26 rfl ?_
      refine q_iload_n hC dX5_spoil_26 1 rfl 27 rfl ?_
      refine q_imul hC dX5_spoil_27 28 rfl ?_
      refine q_iadd hC dX5_spoil_28 29 rfl ?_
      refine q_iload_n hC dX5_spoil_29 2 rfl 30 rfl ?_
      refine q_iadd hC dX5_spoil_30 31 rfl ?_
      refine q_dup2 hC dX5_spoil_31 rfl rfl 32 rfl ?_
      obtain ⟨hin, hw⟩ := hw
      refine q_iald hC (arF53 hF) hin dX5_spoil_32 33 rfl ?_
      refine q_iconst (v := 1) hC dX5_spoil_33 rfl 34 rfl ?_
      refine q_iload_n hC dX5_spoil_34 3 rfl 35 rfl ?_
      refine q_ishl hC dX5_spoil_35 36 rfl ?_
      refine q_ixor hC dX5_spoil_36 37 rfl ?_
      obtain ⟨hin, hw⟩ := hw
      refine q_iast hC (arF53 hF) hin dX5_spoil_37 38 rfl (fun M5 eM5 => ?_)
      have hw := hw M5 eM5
      refine q_aload_n hC dX5_spoil_38 0 rfl 39 rfl ?_
      refine q_iload_n hC dX5_spoil_39 1 rfl 40 rfl ?_
      refine q_iload_n hC dX5_spoil_40 2 rfl 41 rfl ?_
      refine r_callI hC (go_V (q := (RX5, TX5, 26)) (As := [.int v1, .int v2]) (rest := []) hC (ctX5_columnOf (zl z) g M5 v1 v2 _ hF hw) 2 gX5_spoil_X5_columnOf rfl ⟨rfl, rfl⟩ hdV_X5_columnOf ⟨Nat.le_of_ble_eq_true rfl, Nat.le_of_ble_eq_true rfl⟩ (obF52 hF) rfl rfl rfl (Nat.le_of_ble_eq_true rfl) dX5_spoil_41) 44 rfl (fun r6 M7 hw => ?_)
      exact r_iret hR dX5_spoil_44 hw
    · refine q_iconst (v := (-1)) hC dX5_spoil_16 rfl 17 rfl ?_
      exact r_iret hR dX5_spoil_17 hw
set_option maxRecDepth 20000 in
theorem inX5_dead_X5 : ∀ w ∈ u_ws RX5 TX5 26, w ∈ wsX5_dead := by decide +kernel
set_option maxRecDepth 100000 in
set_option maxHeartbeats 4000000 in
theorem ctX5_dead (l : Launch) (g : GG) (M : MM) (v1 : Int32) (Q : Int32 → MM → Prop) (hF : full g) (hw : wX5_dead Q M v1) : MI g l yX5_dead wsX5_dead (rmOf 2 45) [.ref (gA g 52), .int v1] M Q := by
  refine mk_MI (cc := cX5_dead) (maxL := 3) (by decide) rfl (Nat.le_of_ble_eq_true rfl) ?_
  intro z Qf hC hR
  show XX z g Qf 3 0 [(0, .ref (gA g 52)), (1, .int v1)] [] M
  have B15 : ∀ (M : MM), wX5_dead_15 Q v1 M → XX z g Qf 3 15 [(0, .ref (gA g 52)), (1, .int v1)] [] M := by
    intro M hw
    refine q_aload_n hC dX5_dead_15 0 rfl 16 rfl ?_
    refine q_getR (C := RX5) (T := TX5) (N := 26) (ci := 5) hC inX5_dead_X5 (obF52 hF) rfl 0 (by decide) (List.mem_of_getElem? (i := 1) (by decide +kernel)) rfl 53 (fun _ => rfl) dX5_dead_16 19 rfl ?_
    refine q_sipush (v := 340) hC dX5_dead_19 (by decide) 22 rfl ?_
    obtain ⟨hin, hw⟩ := hw
    refine q_iald hC (arF53 hF) hin dX5_dead_22 23 rfl ?_
    refine q_nameI (fun x3 ex3 => ?_)
    have hw := hw x3 ex3
    refine q_istore_n (L' := [(2, .int x3), (0, .ref (gA g 52)), (1, .int v1)]) hC dX5_dead_23 (by decide) rfl 24 rfl ?_
    refine q_aload_n hC dX5_dead_24 1 rfl 25 rfl ?_
    refine q_getR (C := RX5) (T := TX5) (N := 26) (ci := 5) hC inX5_dead_X5 (obF52 hF) rfl 0 (by decide) (List.mem_of_getElem? (i := 1) (by decide +kernel)) rfl 53 (fun _ => rfl) dX5_dead_25 28 rfl ?_
    refine q_sipush (v := 340) hC dX5_dead_28 (by decide) 31 rfl ?_
    refine q_iload_n hC dX5_dead_31 2 rfl 32 rfl ?_
    obtain ⟨hin, hw⟩ := hw
    refine q_iast hC (arF53 hF) hin dX5_dead_32 33 rfl (fun M4 eM4 => ?_)
    have hw := hw M4 eM4
    refine q_iload_n hC dX5_dead_33 0 rfl 34 rfl ?_
    exact r_iret hR dX5_dead_34 hw
  refine q_iload_n hC dX5_dead_0 1 rfl 1 rfl ?_
  refine q_bipush (v := (-4)) hC dX5_dead_1 (by decide) 3 rfl ?_
  refine q_icmp_eq hC 15 dX5_dead_3 (by decide) 6 rfl hw (fun hw => ?_) (fun hw => ?_)
  · exact XX.sub [0, 1] rfl (B15 M hw)
  · refine q_iload_n hC dX5_dead_6 1 rfl 7 rfl ?_
    refine r_callI hC (go_T (As := [.int v1]) (rest := []) hC (ctX5_isTrack (zl z) g M v1 _ hw) 1 gX5_dead_X5_isTrack rfl ⟨rfl, rfl⟩ hdT_X5_isTrack ⟨Nat.le_of_ble_eq_true rfl, Nat.le_of_ble_eq_true rfl⟩ rfl rfl (Nat.le_of_ble_eq_true rfl) dX5_dead_7) 10 rfl (fun r1 M2 hw => ?_)
    refine q_if_ne hC 15 dX5_dead_10 (by decide) 13 rfl hw (fun hw => ?_) (fun hw => ?_)
    · exact XX.sub [0, 1] rfl (B15 M2 hw)
    · refine q_iconst (v := (-1)) hC dX5_dead_13 rfl 14 rfl ?_
      exact r_iret hR dX5_dead_14 hw
