set_option maxRecDepth 100000 in
set_option maxHeartbeats 4000000 in
theorem ctX3_isSmallLetter (l : Launch) (g : GG) (M : MM) (v0 : Int32) (Q : Int32 → MM → Prop)  (hw : wX3_isSmallLetter Q M v0) : MI g l yX3_isSmallLetter wsX3_isSmallLetter (rmOf 0 0) [.int v0] M Q := by
  refine mk_MZ (cc := cX3_isSmallLetter) (maxL := 1) (by decide) rfl (Nat.le_of_ble_eq_true rfl) ?_
  intro z Qf hC hR
  show XX z g Qf 1 0 [(0, .int v0)] [] M
  have B16 : ∀ (M : MM), wX3_isSmallLetter_16 Q v0 M → XX z g Qf 1 16 [] [] M := by
    intro M hw
    refine q_iconst (v := 0) hC dX3_isSmallLetter_16 rfl 17 rfl ?_
    exact r_iret hR dX3_isSmallLetter_17 ⟨nb_0, hw⟩
  refine q_iload_n hC dX3_isSmallLetter_0 0 rfl 1 rfl ?_
  refine q_bipush (v := 97) hC dX3_isSmallLetter_1 (by decide) 3 rfl ?_
  refine q_icmp_lt hC 16 dX3_isSmallLetter_3 (by decide) 6 rfl hw (fun hw => ?_) (fun hw => ?_)
  · exact XX.sub [] rfl (B16 M hw)
  · refine q_iload_n hC dX3_isSmallLetter_6 0 rfl 7 rfl ?_
    refine q_bipush (v := 122) hC dX3_isSmallLetter_7 (by decide) 9 rfl ?_
    refine q_icmp_gt hC 16 dX3_isSmallLetter_9 (by decide) 12 rfl hw (fun hw => ?_) (fun hw => ?_)
    · exact XX.sub [] rfl (B16 M hw)
    · refine q_iconst (v := 1) hC dX3_isSmallLetter_12 rfl 13 rfl ?_
      refine q_goto hC 17 dX3_isSmallLetter_13 (by decide) ?_
      exact r_iret hR dX3_isSmallLetter_17 ⟨nb_1, hw⟩
set_option maxRecDepth 100000 in
set_option maxHeartbeats 4000000 in
theorem ctX3_isFigure (l : Launch) (g : GG) (M : MM) (v0 : Int32) (Q : Int32 → MM → Prop)  (hw : wX3_isFigure Q M v0) : MI g l yX3_isFigure wsX3_isFigure (rmOf 0 0) [.int v0] M Q := by
  refine mk_MZ (cc := cX3_isFigure) (maxL := 1) (by decide) rfl (Nat.le_of_ble_eq_true rfl) ?_
  intro z Qf hC hR
  show XX z g Qf 1 0 [(0, .int v0)] [] M
  have B16 : ∀ (M : MM), wX3_isFigure_16 Q v0 M → XX z g Qf 1 16 [] [] M := by
    intro M hw
    refine q_iconst (v := 0) hC dX3_isFigure_16 rfl 17 rfl ?_
    exact r_iret hR dX3_isFigure_17 ⟨nb_0, hw⟩
  refine q_iload_n hC dX3_isFigure_0 0 rfl 1 rfl ?_
  refine q_bipush (v := 48) hC dX3_isFigure_1 (by decide) 3 rfl ?_
  refine q_icmp_lt hC 16 dX3_isFigure_3 (by decide) 6 rfl hw (fun hw => ?_) (fun hw => ?_)
  · exact XX.sub [] rfl (B16 M hw)
  · refine q_iload_n hC dX3_isFigure_6 0 rfl 7 rfl ?_
    refine q_bipush (v := 57) hC dX3_isFigure_7 (by decide) 9 rfl ?_
    refine q_icmp_gt hC 16 dX3_isFigure_9 (by decide) 12 rfl hw (fun hw => ?_) (fun hw => ?_)
    · exact XX.sub [] rfl (B16 M hw)
    · refine q_iconst (v := 1) hC dX3_isFigure_12 rfl 13 rfl ?_
      refine q_goto hC 17 dX3_isFigure_13 (by decide) ?_
      exact r_iret hR dX3_isFigure_17 ⟨nb_1, hw⟩
theorem hdV_X3_letterAt : yX3_letterAt.cls = RX3 ∧ yX3_letterAt.cls ≠ "java/lang/invoke/MethodHandle" ∧ yX3_letterAt.cls ≠ "java/lang/invoke/VarHandle" ∧ (parseMethodDescriptor yX3_letterAt.desc).map (fun d => d.parameters.length) = some 1 := by decide +kernel
theorem hdT_X3_isFigure : yX3_isFigure.cls ≠ "java/lang/invoke/MethodHandle" ∧ yX3_isFigure.cls ≠ "java/lang/invoke/VarHandle" ∧ (parseMethodDescriptor yX3_isFigure.desc).map (fun d => d.parameters.length) = some 1 := by decide +kernel
theorem inX3_readNumber_X3 : ∀ w ∈ u_ws RX3 TX3 10, w ∈ wsX3_readNumber := uX3_readNumber__wsX30
set_option maxRecDepth 100000 in
set_option maxHeartbeats 4000000 in
theorem ctX3_readNumber (l : Launch) (g : GG) (M : MM)  (Q : MM → Prop) (hF : full g) (hw : wX3_readNumber Q M ) : MV g l yX3_readNumber wsX3_readNumber (rmOf 1 21) [.ref (gA g 37)] M Q := by
  refine mk_MV (cc := cX3_readNumber) (maxL := 2) (by decide) rfl (Nat.le_of_ble_eq_true rfl) ?_
  intro z Qf hC hR
  show XX z g Qf 2 0 [(0, .ref (gA g 37))] [] M
  have B79 : ∀ (n : Nat) (M : MM) (v1 : Int32) , wX3_readNumber_79 Q n M v1 → XX z g Qf 2 79 [(0, .ref (gA g 37)), (1, .int v1)] [] M := by
    intro n
    induction n with
    | zero =>
      intro M v1 hw
      exact hw.elim
    | succ n ih =>
      intro M v1 hw
      refine q_iload_n hC dX3_readNumber_79 1 rfl 80 rfl ?_
      refine q_aload_n hC dX3_readNumber_80 0 rfl 81 rfl ?_
      refine q_getI (C := RX3) (T := TX3) (N := 10) (ci := 3) hC inX3_readNumber_X3 (obF37 hF) rfl 3 (by decide) (uX3_readNumber__o _ (List.mem_of_getElem? (l := owX3_readNumber) (i := 1) rfl)) rfl (fun _ => rfl) dX3_readNumber_81 84 rfl ?_
      refine q_icmp_ge hC 113 dX3_readNumber_84 (by decide) 87 rfl hw (fun hw => ?_) (fun hw => ?_)
      · exact r_vret hR dX3_readNumber_113 hw
      · refine q_aload_n hC dX3_readNumber_87 0 rfl 88 rfl ?_
        refine q_aload_n hC dX3_readNumber_88 0 rfl 89 rfl ?_
        refine q_getI (C := RX3) (T := TX3) (N := 10) (ci := 3) hC inX3_readNumber_X3 (obF37 hF) rfl 6 (by decide) (uX3_readNumber__o _ (List.mem_of_getElem? (l := owX3_readNumber) (i := 4) rfl)) rfl (fun _ => rfl) dX3_readNumber_89 92 rfl ?_
        refine q_bipush (v := 10) hC dX3_readNumber_92 (by decide) 94 rfl ?_
        refine q_imul hC dX3_readNumber_94 95 rfl ?_
        refine q_aload_n hC dX3_readNumber_95 0 rfl 96 rfl ?_
        refine q_iload_n hC dX3_readNumber_96 1 rfl 97 rfl ?_
        refine r_callI hC (go_V (q := (RX3, TX3, 10)) (As := [.int v1]) (rest := [.int ((M 37 6) * (10 : Int32)), .ref (gA g 37)]) hC (ctX3_letterAt (zl z) g M v1 _ hF hw) 1 gX3_readNumber_X3_letterAt rfl ⟨rfl, rfl⟩ hdV_X3_letterAt ⟨Nat.le_of_ble_eq_true rfl, Nat.le_of_ble_eq_true rfl⟩ (obF37 hF) rfl rfl rfl (Nat.le_of_ble_eq_true rfl) dX3_readNumber_97) 100 rfl (fun r8 M9 hw => ?_)
        refine q_iadd hC dX3_readNumber_100 101 rfl ?_
        refine q_bipush (v := 48) hC dX3_readNumber_101 (by decide) 103 rfl ?_
        refine q_isub hC dX3_readNumber_103 104 rfl ?_
        refine q_putI (C := RX3) (T := TX3) (N := 10) (ci := 3) hC inX3_readNumber_X3 tyX3 tyX3_ok nmX3 (obF37 hF) rfl 6 (by decide) (uX3_readNumber__o _ (List.mem_of_getElem? (l := owX3_readNumber) (i := 4) rfl)) rfl rfl rfl (fun _ => Nat.le_of_ble_eq_true rfl) (fun _ => rfl) dX3_readNumber_104 107 rfl (fun M10 eM10 => ?_)
        have hw := hw M10 eM10
        refine q_iinc (v := v1 + 1) (L' := [(1, .int (v1 + 1)), (0, .ref (gA g 37))]) hC dX3_readNumber_107 1 rfl rfl (by decide) rfl 110 rfl ?_
        refine q_goto hC 79 dX3_readNumber_110 (by decide) ?_
        exact XX.sub [1, 0] rfl (ih M10 (v1 + 1) hw)
  have B57 : ∀ (M : MM) (p0 : Int32), wX3_readNumber_57 Q M p0 → XX z g Qf 2 57 [(0, .ref (gA g 37))] [.int p0, .ref (gA g 37)] M := by
    intro M p0 hw
    refine q_putI (C := RX3) (T := TX3) (N := 10) (ci := 3) hC inX3_readNumber_X3 tyX3 tyX3_ok nmX3 (obF37 hF) rfl 4 (by decide) (uX3_readNumber__o _ (List.mem_of_getElem? (l := owX3_readNumber) (i := 3) rfl)) rfl rfl rfl (fun _ => Nat.le_of_ble_eq_true rfl) (fun _ => rfl) dX3_readNumber_57 60 rfl (fun M6 eM6 => ?_)
    have hw := hw M6 eM6
    refine q_aload_n hC dX3_readNumber_60 0 rfl 61 rfl ?_
    refine q_iconst (v := 0) hC dX3_readNumber_61 rfl 62 rfl ?_
    refine q_putI (C := RX3) (T := TX3) (N := 10) (ci := 3) hC inX3_readNumber_X3 tyX3 tyX3_ok nmX3 (obF37 hF) rfl 6 (by decide) (uX3_readNumber__o _ (List.mem_of_getElem? (l := owX3_readNumber) (i := 4) rfl)) rfl rfl rfl (fun _ => Nat.le_of_ble_eq_true rfl) (fun _ => rfl) dX3_readNumber_62 65 rfl (fun M7 eM7 => ?_)
    have hw := hw M7 eM7
    refine q_aload_n hC dX3_readNumber_65 0 rfl 66 rfl ?_
    refine q_getI (C := RX3) (T := TX3) (N := 10) (ci := 3) hC inX3_readNumber_X3 (obF37 hF) rfl 4 (by decide) (uX3_readNumber__o _ (List.mem_of_getElem? (l := owX3_readNumber) (i := 3) rfl)) rfl (fun _ => rfl) dX3_readNumber_66 69 rfl ?_
    refine q_iconst (v := 4) hC dX3_readNumber_69 rfl 70 rfl ?_
    refine q_icmp_ne hC 74 dX3_readNumber_70 (by decide) 73 rfl hw (fun hw => ?_) (fun hw => ?_)
    · refine q_aload_n hC dX3_readNumber_74 0 rfl 75 rfl ?_
      refine q_getI (C := RX3) (T := TX3) (N := 10) (ci := 3) hC inX3_readNumber_X3 (obF37 hF) rfl 5 (by decide) (uX3_readNumber__o _ (List.mem_of_getElem? (l := owX3_readNumber) (i := 2) rfl)) rfl (fun _ => rfl) dX3_readNumber_75 78 rfl ?_
      refine q_istore_n (L' := [(1, .int (M7 37 5)), (0, .ref (gA g 37))]) hC dX3_readNumber_78 (by decide) rfl 79 rfl ?_
      obtain ⟨n0, hw⟩ := hw
      exact XX.sub [1, 0] rfl (B79 n0 M7 (M7 37 5) hw)
    · exact r_vret hR dX3_readNumber_73 hw
  have B38 : ∀ (M : MM), wX3_readNumber_38 Q M → XX z g Qf 2 38 [(0, .ref (gA g 37))] [] M := by
    intro M hw
    refine q_aload_n hC dX3_readNumber_38 0 rfl 39 rfl ?_
    refine q_aload_n hC dX3_readNumber_39 0 rfl 40 rfl ?_
    refine q_getI (C := RX3) (T := TX3) (N := 10) (ci := 3) hC inX3_readNumber_X3 (obF37 hF) rfl 3 (by decide) (uX3_readNumber__o _ (List.mem_of_getElem? (l := owX3_readNumber) (i := 1) rfl)) rfl (fun _ => rfl) dX3_readNumber_40 43 rfl ?_
    refine q_aload_n hC dX3_readNumber_43 0 rfl 44 rfl ?_
    refine q_getI (C := RX3) (T := TX3) (N := 10) (ci := 3) hC inX3_readNumber_X3 (obF37 hF) rfl 5 (by decide) (uX3_readNumber__o _ (List.mem_of_getElem? (l := owX3_readNumber) (i := 2) rfl)) rfl (fun _ => rfl) dX3_readNumber_44 47 rfl ?_
    refine q_isub hC dX3_readNumber_47 48 rfl ?_
    refine q_iconst (v := 4) hC dX3_readNumber_48 rfl 49 rfl ?_
    refine q_icmp_le hC 56 dX3_readNumber_49 (by decide) 52 rfl hw (fun hw => ?_) (fun hw => ?_)
    · refine q_iconst (v := 2) hC dX3_readNumber_56 rfl 57 rfl ?_
      exact XX.sub [0] rfl (B57 M 2 hw)
    · refine q_iconst (v := 4) hC dX3_readNumber_52 rfl 53 rfl ?_
      refine q_goto hC 57 dX3_readNumber_53 (by decide) ?_
      exact XX.sub [0] rfl (B57 M 4 hw)
  have B0 : ∀ (n : Nat) (M : MM) , wX3_readNumber_0 Q n M → XX z g Qf 2 0 [(0, .ref (gA g 37))] [] M := by
    intro n
    induction n with
    | zero =>
      intro M hw
      exact hw.elim
    | succ n ih =>
      intro M hw
      refine q_aload_n hC dX3_readNumber_0 0 rfl 1 rfl ?_
      refine q_getI (C := RX3) (T := TX3) (N := 10) (ci := 3) hC inX3_readNumber_X3 (obF37 hF) rfl 3 (by decide) (uX3_readNumber__o _ (List.mem_of_getElem? (l := owX3_readNumber) (i := 1) rfl)) rfl (fun _ => rfl) dX3_readNumber_1 4 rfl ?_
      refine q_aload_n hC dX3_readNumber_4 0 rfl 5 rfl ?_
      refine q_getI (C := RX3) (T := TX3) (N := 10) (ci := 3) hC inX3_readNumber_X3 (obF37 hF) rfl 2 (by decide) (uX3_readNumber__X3_letterAt _ (List.mem_of_getElem? (l := owX3_letterAt) (i := 1) rfl)) rfl (fun _ => rfl) dX3_readNumber_5 8 rfl ?_
      refine q_icmp_ge hC 38 dX3_readNumber_8 (by decide) 11 rfl hw (fun hw => ?_) (fun hw => ?_)
      · exact XX.sub [0] rfl (B38 M hw)
      · refine q_aload_n hC dX3_readNumber_11 0 rfl 12 rfl ?_
        refine q_aload_n hC dX3_readNumber_12 0 rfl 13 rfl ?_
        refine q_getI (C := RX3) (T := TX3) (N := 10) (ci := 3) hC inX3_readNumber_X3 (obF37 hF) rfl 3 (by decide) (uX3_readNumber__o _ (List.mem_of_getElem? (l := owX3_readNumber) (i := 1) rfl)) rfl (fun _ => rfl) dX3_readNumber_13 16 rfl ?_
        refine r_callI hC (go_V (q := (RX3, TX3, 10)) (As := [.int (M 37 3)]) (rest := []) hC (ctX3_letterAt (zl z) g M (M 37 3) _ hF hw) 1 gX3_readNumber_X3_letterAt rfl ⟨rfl, rfl⟩ hdV_X3_letterAt ⟨Nat.le_of_ble_eq_true rfl, Nat.le_of_ble_eq_true rfl⟩ (obF37 hF) rfl rfl rfl (Nat.le_of_ble_eq_true rfl) dX3_readNumber_16) 19 rfl (fun r1 M2 hw => ?_)
        refine r_callI hC (go_T (As := [.int r1]) (rest := []) hC (ctX3_isFigure (zl z) g M2 r1 _ hw) 1 gX3_readNumber_X3_isFigure rfl ⟨rfl, rfl⟩ hdT_X3_isFigure ⟨Nat.le_of_ble_eq_true rfl, Nat.le_of_ble_eq_true rfl⟩ rfl rfl (Nat.le_of_ble_eq_true rfl) dX3_readNumber_19) 22 rfl (fun r3 M4 hw => ?_)
        refine q_if_eq hC 38 dX3_readNumber_22 (by decide) 25 rfl hw (fun hw => ?_) (fun hw => ?_)
        · exact XX.sub [0] rfl (B38 M4 hw)
        · refine q_aload_n hC dX3_readNumber_25 0 rfl 26 rfl ?_
          refine q_dup hC dX3_readNumber_26 rfl 27 rfl ?_
          refine q_getI (C := RX3) (T := TX3) (N := 10) (ci := 3) hC inX3_readNumber_X3 (obF37 hF) rfl 3 (by decide) (uX3_readNumber__o _ (List.mem_of_getElem? (l := owX3_readNumber) (i := 1) rfl)) rfl (fun _ => rfl) dX3_readNumber_27 30 rfl ?_
          refine q_iconst (v := 1) hC dX3_readNumber_30 rfl 31 rfl ?_
          refine q_iadd hC dX3_readNumber_31 32 rfl ?_
          refine q_putI (C := RX3) (T := TX3) (N := 10) (ci := 3) hC inX3_readNumber_X3 tyX3 tyX3_ok nmX3 (obF37 hF) rfl 3 (by decide) (uX3_readNumber__o _ (List.mem_of_getElem? (l := owX3_readNumber) (i := 1) rfl)) rfl rfl rfl (fun _ => Nat.le_of_ble_eq_true rfl) (fun _ => rfl) dX3_readNumber_32 35 rfl (fun M5 eM5 => ?_)
          have hw := hw M5 eM5
          refine q_goto hC 0 dX3_readNumber_35 (by decide) ?_
          exact XX.sub [0] rfl (ih M5 hw)
  obtain ⟨n0, hw⟩ := hw
  exact XX.sub [0] rfl (B0 n0 M hw)
theorem inX3_refuse_X3 : ∀ w ∈ u_ws RX3 TX3 10, w ∈ wsX3_refuse := uX3_refuse__wsX30
set_option maxRecDepth 100000 in
set_option maxHeartbeats 4000000 in
theorem ctX3_refuse (l : Launch) (g : GG) (M : MM) (v1 : Int32) (v2 : Int32) (Q : MM → Prop) (hF : full g) (hw : wX3_refuse Q M v1 v2) : MV g l yX3_refuse wsX3_refuse (rmOf 0 0) [.ref (gA g 37), .int v1, .int v2] M Q := by
  refine mk_MV (cc := cX3_refuse) (maxL := 3) (by decide) rfl (Nat.le_of_ble_eq_true rfl) ?_
  intro z Qf hC hR
  show XX z g Qf 3 0 [(0, .ref (gA g 37)), (1, .int v1), (2, .int v2)] [] M
  refine q_aload_n hC dX3_refuse_0 0 rfl 1 rfl ?_
  refine q_getI (C := RX3) (T := TX3) (N := 10) (ci := 3) hC inX3_refuse_X3 (obF37 hF) rfl 8 (by decide) (uX3_refuse__o _ (List.mem_of_getElem? (l := owX3_refuse) (i := 1) rfl)) rfl (fun _ => rfl) dX3_refuse_1 4 rfl ?_
  refine q_if_eq hC 8 dX3_refuse_4 (by decide) 7 rfl hw (fun hw => ?_) (fun hw => ?_)
  · refine q_aload_n hC dX3_refuse_8 0 rfl 9 rfl ?_
    refine q_iload_n hC dX3_refuse_9 1 rfl 10 rfl ?_
    refine q_putI (C := RX3) (T := TX3) (N := 10) (ci := 3) hC inX3_refuse_X3 tyX3 tyX3_ok nmX3 (obF37 hF) rfl 8 (by decide) (uX3_refuse__o _ (List.mem_of_getElem? (l := owX3_refuse) (i := 1) rfl)) rfl rfl rfl (fun _ => Nat.le_of_ble_eq_true rfl) (fun _ => rfl) dX3_refuse_10 13 rfl (fun M1 eM1 => ?_)
    have hw := hw M1 eM1
    refine q_aload_n hC dX3_refuse_13 0 rfl 14 rfl ?_
    refine q_iload_n hC dX3_refuse_14 2 rfl 15 rfl ?_
    refine q_putI (C := RX3) (T := TX3) (N := 10) (ci := 3) hC inX3_refuse_X3 tyX3 tyX3_ok nmX3 (obF37 hF) rfl 9 (by decide) (uX3_refuse__o _ (List.mem_of_getElem? (l := owX3_refuse) (i := 2) rfl)) rfl rfl rfl (fun _ => Nat.le_of_ble_eq_true rfl) (fun _ => rfl) dX3_refuse_15 18 rfl (fun M2 eM2 => ?_)
    have hw := hw M2 eM2
    exact r_vret hR dX3_refuse_18 hw
  · exact r_vret hR dX3_refuse_7 hw
theorem hdT_X3_isSmallLetter : yX3_isSmallLetter.cls ≠ "java/lang/invoke/MethodHandle" ∧ yX3_isSmallLetter.cls ≠ "java/lang/invoke/VarHandle" ∧ (parseMethodDescriptor yX3_isSmallLetter.desc).map (fun d => d.parameters.length) = some 1 := by decide +kernel
theorem hdV_X3_readNumber : yX3_readNumber.cls = RX3 ∧ yX3_readNumber.cls ≠ "java/lang/invoke/MethodHandle" ∧ yX3_readNumber.cls ≠ "java/lang/invoke/VarHandle" ∧ (parseMethodDescriptor yX3_readNumber.desc).map (fun d => d.parameters.length) = some 0 := by decide +kernel
theorem hdV_X3_refuse : yX3_refuse.cls = RX3 ∧ yX3_refuse.cls ≠ "java/lang/invoke/MethodHandle" ∧ yX3_refuse.cls ≠ "java/lang/invoke/VarHandle" ∧ (parseMethodDescriptor yX3_refuse.desc).map (fun d => d.parameters.length) = some 2 := by decide +kernel
theorem inX3_readToken_X3 : ∀ w ∈ u_ws RX3 TX3 10, w ∈ wsX3_readToken := uX3_readToken__wsX30
set_option maxRecDepth 100000 in
set_option maxHeartbeats 4000000 in
theorem ctX3_readToken (l : Launch) (g : GG) (M : MM)  (Q : MM → Prop) (hF : full g) (hw : wX3_readToken Q M ) : MV g l yX3_readToken wsX3_readToken (rmOf 2 42) [.ref (gA g 37)] M Q := by
  refine mk_MV (cc := cX3_readToken) (maxL := 2) (by decide) rfl (Nat.le_of_ble_eq_true rfl) ?_
  intro z Qf hC hR
  show XX z g Qf 2 0 [(0, .ref (gA g 37))] [] M
  have B155 : ∀ (M : MM), wX3_readToken_155 Q M → XX z g Qf 2 155 [(0, .ref (gA g 37))] [] M := by
    intro M hw
    refine q_aload_n hC dX3_readToken_155 0 rfl 156 rfl ?_
    refine q_getI (C := RX3) (T := TX3) (N := 10) (ci := 3) hC inX3_readToken_X3 (obF37 hF) rfl 4 (by decide) (uX3_readToken__X3_readNumber _ (List.mem_of_getElem? (l := owX3_readNumber) (i := 3) rfl)) rfl (fun _ => rfl) dX3_readToken_156 159 rfl ?_
    refine q_iconst (v := 4) hC dX3_readToken_159 rfl 160 rfl ?_
    refine q_icmp_ne hC 172 dX3_readToken_160 (by decide) 163 rfl hw (fun hw => ?_) (fun hw => ?_)
    · exact r_vret hR dX3_readToken_172 hw
    · refine q_aload_n hC dX3_readToken_163 0 rfl 164 rfl ?_
      refine q_iconst (v := 1) hC dX3_readToken_164 rfl 165 rfl ?_
      refine q_aload_n hC dX3_readToken_165 0 rfl 166 rfl ?_
      refine q_getI (C := RX3) (T := TX3) (N := 10) (ci := 3) hC inX3_readToken_X3 (obF37 hF) rfl 5 (by decide) (uX3_readToken__X3_readNumber _ (List.mem_of_getElem? (l := owX3_readNumber) (i := 2) rfl)) rfl (fun _ => rfl) dX3_readToken_166 169 rfl ?_
      refine r_callV hC (go_V (q := (RX3, TX3, 10)) (As := [.int 1, .int (M 37 5)]) (rest := []) hC (ctX3_refuse (zl z) g M 1 (M 37 5) _ hF hw) 2 gX3_readToken_X3_refuse rfl ⟨rfl, rfl⟩ hdV_X3_refuse ⟨Nat.le_of_ble_eq_true rfl, Nat.le_of_ble_eq_true rfl⟩ (obF37 hF) rfl rfl rfl (Nat.le_of_ble_eq_true rfl) dX3_readToken_169) 172 rfl (fun M21 hw => ?_)
      exact r_vret hR dX3_readToken_172 hw
  have B142 : ∀ (M : MM) (p0 : Int32), wX3_readToken_142 Q M p0 → XX z g Qf 2 142 [(0, .ref (gA g 37))] [.int p0, .ref (gA g 37)] M := by
    intro M p0 hw
    refine q_putI (C := RX3) (T := TX3) (N := 10) (ci := 3) hC inX3_readToken_X3 tyX3 tyX3_ok nmX3 (obF37 hF) rfl 4 (by decide) (uX3_readToken__X3_readNumber _ (List.mem_of_getElem? (l := owX3_readNumber) (i := 3) rfl)) rfl rfl rfl (fun _ => Nat.le_of_ble_eq_true rfl) (fun _ => rfl) dX3_readToken_142 145 rfl (fun M19 eM19 => ?_)
    have hw := hw M19 eM19
    refine q_aload_n hC dX3_readToken_145 0 rfl 146 rfl ?_
    refine q_dup hC dX3_readToken_146 rfl 147 rfl ?_
    refine q_getI (C := RX3) (T := TX3) (N := 10) (ci := 3) hC inX3_readToken_X3 (obF37 hF) rfl 3 (by decide) (uX3_readToken__X3_readNumber _ (List.mem_of_getElem? (l := owX3_readNumber) (i := 1) rfl)) rfl (fun _ => rfl) dX3_readToken_147 150 rfl ?_
    refine q_iconst (v := 1) hC dX3_readToken_150 rfl 151 rfl ?_
    refine q_iadd hC dX3_readToken_151 152 rfl ?_
    refine q_putI (C := RX3) (T := TX3) (N := 10) (ci := 3) hC inX3_readToken_X3 tyX3 tyX3_ok nmX3 (obF37 hF) rfl 3 (by decide) (uX3_readToken__X3_readNumber _ (List.mem_of_getElem? (l := owX3_readNumber) (i := 1) rfl)) rfl rfl rfl (fun _ => Nat.le_of_ble_eq_true rfl) (fun _ => rfl) dX3_readToken_152 155 rfl (fun M20 eM20 => ?_)
    have hw := hw M20 eM20
    exact XX.sub [0] rfl (B155 M20 hw)
  have B78 : ∀ (n : Nat) (M : MM) , wX3_readToken_78 Q n M → XX z g Qf 2 78 [(0, .ref (gA g 37))] [] M := by
    intro n
    induction n with
    | zero =>
      intro M hw
      exact hw.elim
    | succ n ih =>
      intro M hw
      refine q_aload_n hC dX3_readToken_78 0 rfl 79 rfl ?_
      refine q_getI (C := RX3) (T := TX3) (N := 10) (ci := 3) hC inX3_readToken_X3 (obF37 hF) rfl 3 (by decide) (uX3_readToken__X3_readNumber _ (List.mem_of_getElem? (l := owX3_readNumber) (i := 1) rfl)) rfl (fun _ => rfl) dX3_readToken_79 82 rfl ?_
      refine q_aload_n hC dX3_readToken_82 0 rfl 83 rfl ?_
      refine q_getI (C := RX3) (T := TX3) (N := 10) (ci := 3) hC inX3_readToken_X3 (obF37 hF) rfl 2 (by decide) (uX3_readToken__X3_letterAt _ (List.mem_of_getElem? (l := owX3_letterAt) (i := 1) rfl)) rfl (fun _ => rfl) dX3_readToken_83 86 rfl ?_
      refine q_icmp_ge hC 155 dX3_readToken_86 (by decide) 89 rfl hw (fun hw => ?_) (fun hw => ?_)
      · exact XX.sub [0] rfl (B155 M hw)
      · refine q_aload_n hC dX3_readToken_89 0 rfl 90 rfl ?_
        refine q_aload_n hC dX3_readToken_90 0 rfl 91 rfl ?_
        refine q_getI (C := RX3) (T := TX3) (N := 10) (ci := 3) hC inX3_readToken_X3 (obF37 hF) rfl 3 (by decide) (uX3_readToken__X3_readNumber _ (List.mem_of_getElem? (l := owX3_readNumber) (i := 1) rfl)) rfl (fun _ => rfl) dX3_readToken_91 94 rfl ?_
        refine r_callI hC (go_V (q := (RX3, TX3, 10)) (As := [.int (M 37 3)]) (rest := []) hC (ctX3_letterAt (zl z) g M (M 37 3) _ hF hw) 1 gX3_readToken_X3_letterAt rfl ⟨rfl, rfl⟩ hdV_X3_letterAt ⟨Nat.le_of_ble_eq_true rfl, Nat.le_of_ble_eq_true rfl⟩ (obF37 hF) rfl rfl rfl (Nat.le_of_ble_eq_true rfl) dX3_readToken_94) 97 rfl (fun r14 M15 hw => ?_)
        refine r_callI hC (go_T (As := [.int r14]) (rest := []) hC (ctX3_isSmallLetter (zl z) g M15 r14 _ hw) 1 gX3_readToken_X3_isSmallLetter rfl ⟨rfl, rfl⟩ hdT_X3_isSmallLetter ⟨Nat.le_of_ble_eq_true rfl, Nat.le_of_ble_eq_true rfl⟩ rfl rfl (Nat.le_of_ble_eq_true rfl) dX3_readToken_97) 100 rfl (fun r16 M17 hw => ?_)
        refine q_if_eq hC 155 dX3_readToken_100 (by decide) 103 rfl hw (fun hw => ?_) (fun hw => ?_)
        · exact XX.sub [0] rfl (B155 M17 hw)
        · refine q_aload_n hC dX3_readToken_103 0 rfl 104 rfl ?_
          refine q_dup hC dX3_readToken_104 rfl 105 rfl ?_
          refine q_getI (C := RX3) (T := TX3) (N := 10) (ci := 3) hC inX3_readToken_X3 (obF37 hF) rfl 3 (by decide) (uX3_readToken__X3_readNumber _ (List.mem_of_getElem? (l := owX3_readNumber) (i := 1) rfl)) rfl (fun _ => rfl) dX3_readToken_105 108 rfl ?_
          refine q_iconst (v := 1) hC dX3_readToken_108 rfl 109 rfl ?_
          refine q_iadd hC dX3_readToken_109 110 rfl ?_
          refine q_putI (C := RX3) (T := TX3) (N := 10) (ci := 3) hC inX3_readToken_X3 tyX3 tyX3_ok nmX3 (obF37 hF) rfl 3 (by decide) (uX3_readToken__X3_readNumber _ (List.mem_of_getElem? (l := owX3_readNumber) (i := 1) rfl)) rfl rfl rfl (fun _ => Nat.le_of_ble_eq_true rfl) (fun _ => rfl) dX3_readToken_110 113 rfl (fun M18 eM18 => ?_)
          have hw := hw M18 eM18
          refine q_goto hC 78 dX3_readToken_113 (by decide) ?_
          exact XX.sub [0] rfl (ih M18 hw)
  have B37 : ∀ (M : MM), wX3_readToken_37 Q M → XX z g Qf 2 37 [(0, .ref (gA g 37))] [] M := by
    intro M hw
    refine q_aload_n hC dX3_readToken_37 0 rfl 38 rfl ?_
    refine q_aload_n hC dX3_readToken_38 0 rfl 39 rfl ?_
    refine q_getI (C := RX3) (T := TX3) (N := 10) (ci := 3) hC inX3_readToken_X3 (obF37 hF) rfl 3 (by decide) (uX3_readToken__X3_readNumber _ (List.mem_of_getElem? (l := owX3_readNumber) (i := 1) rfl)) rfl (fun _ => rfl) dX3_readToken_39 42 rfl ?_
    refine q_putI (C := RX3) (T := TX3) (N := 10) (ci := 3) hC inX3_readToken_X3 tyX3 tyX3_ok nmX3 (obF37 hF) rfl 5 (by decide) (uX3_readToken__X3_readNumber _ (List.mem_of_getElem? (l := owX3_readNumber) (i := 2) rfl)) rfl rfl rfl (fun _ => Nat.le_of_ble_eq_true rfl) (fun _ => rfl) dX3_readToken_42 45 rfl (fun M4 eM4 => ?_)
    have hw := hw M4 eM4
    refine q_aload_n hC dX3_readToken_45 0 rfl 46 rfl ?_
    refine q_aload_n hC dX3_readToken_46 0 rfl 47 rfl ?_
    refine q_getI (C := RX3) (T := TX3) (N := 10) (ci := 3) hC inX3_readToken_X3 (obF37 hF) rfl 5 (by decide) (uX3_readToken__X3_readNumber _ (List.mem_of_getElem? (l := owX3_readNumber) (i := 2) rfl)) rfl (fun _ => rfl) dX3_readToken_47 50 rfl ?_
    refine r_callI hC (go_V (q := (RX3, TX3, 10)) (As := [.int (M4 37 5)]) (rest := []) hC (ctX3_letterAt (zl z) g M4 (M4 37 5) _ hF hw) 1 gX3_readToken_X3_letterAt rfl ⟨rfl, rfl⟩ hdV_X3_letterAt ⟨Nat.le_of_ble_eq_true rfl, Nat.le_of_ble_eq_true rfl⟩ (obF37 hF) rfl rfl rfl (Nat.le_of_ble_eq_true rfl) dX3_readToken_50) 53 rfl (fun r5 M6 hw => ?_)
    refine q_istore_n (L' := [(1, .int r5), (0, .ref (gA g 37))]) hC dX3_readToken_53 (by decide) rfl 54 rfl ?_
    refine q_iload_n hC dX3_readToken_54 0 rfl 55 rfl ?_
    refine q_if_ge hC 66 dX3_readToken_55 (by decide) 58 rfl hw (fun hw => ?_) (fun hw => ?_)
    · refine q_iload_n hC dX3_readToken_66 0 rfl 67 rfl ?_
      refine r_callI hC (go_T (As := [.int r5]) (rest := []) hC (ctX3_isSmallLetter (zl z) g M6 r5 _ hw) 1 gX3_readToken_X3_isSmallLetter rfl ⟨rfl, rfl⟩ hdT_X3_isSmallLetter ⟨Nat.le_of_ble_eq_true rfl, Nat.le_of_ble_eq_true rfl⟩ rfl rfl (Nat.le_of_ble_eq_true rfl) dX3_readToken_67) 70 rfl (fun r7 M8 hw => ?_)
      refine q_if_eq hC 116 dX3_readToken_70 (by decide) 73 rfl hw (fun hw => ?_) (fun hw => ?_)
      · refine q_iload_n hC dX3_readToken_116 0 rfl 117 rfl ?_
        refine r_callI hC (go_T (As := [.int r5]) (rest := []) hC (ctX3_isFigure (zl z) g M8 r5 _ hw) 1 gX3_readToken_X3_isFigure rfl ⟨rfl, rfl⟩ hdT_X3_isFigure ⟨Nat.le_of_ble_eq_true rfl, Nat.le_of_ble_eq_true rfl⟩ rfl rfl (Nat.le_of_ble_eq_true rfl) dX3_readToken_117) 120 rfl (fun r9 M10 hw => ?_)
        refine q_if_eq hC 130 dX3_readToken_120 (by decide) 123 rfl hw (fun hw => ?_) (fun hw => ?_)
        · refine q_aload_n hC dX3_readToken_130 1 rfl 131 rfl ?_
          refine q_iload_n hC dX3_readToken_131 0 rfl 132 rfl ?_
          refine q_bipush (v := 59) hC dX3_readToken_132 (by decide) 134 rfl ?_
          refine q_icmp_ne hC 141 dX3_readToken_134 (by decide) 137 rfl hw (fun hw => ?_) (fun hw => ?_)
          · refine q_iconst (v := 4) hC dX3_readToken_141 rfl 142 rfl ?_
            exact XX.sub [1] rfl (B142 M10 4 hw)
          · refine q_iconst (v := 3) hC dX3_readToken_137 rfl 138 rfl ?_
            refine q_goto hC 142 dX3_readToken_138 (by decide) ?_
            exact XX.sub [1] rfl (B142 M10 3 hw)
        · refine q_aload_n hC dX3_readToken_123 1 rfl 124 rfl ?_
          refine r_callV hC (go_V (q := (RX3, TX3, 10)) (As := []) (rest := []) hC (ctX3_readNumber (zl z) g M10 _ hF hw) 0 gX3_readToken_X3_readNumber rfl ⟨rfl, rfl⟩ hdV_X3_readNumber ⟨Nat.le_of_ble_eq_true rfl, Nat.le_of_ble_eq_true rfl⟩ (obF37 hF) rfl rfl rfl (Nat.le_of_ble_eq_true rfl) dX3_readToken_124) 127 rfl (fun M11 hw => ?_)
          refine q_goto hC 155 dX3_readToken_127 (by decide) ?_
          exact XX.sub [1] rfl (B155 M11 hw)
      · refine q_aload_n hC dX3_readToken_73 1 rfl 74 rfl ?_
        refine q_iconst (v := 1) hC dX3_readToken_74 rfl 75 rfl ?_
        refine q_putI (C := RX3) (T := TX3) (N := 10) (ci := 3) hC inX3_readToken_X3 tyX3 tyX3_ok nmX3 (obF37 hF) rfl 4 (by decide) (uX3_readToken__X3_readNumber _ (List.mem_of_getElem? (l := owX3_readNumber) (i := 3) rfl)) rfl rfl rfl (fun _ => Nat.le_of_ble_eq_true rfl) (fun _ => rfl) dX3_readToken_75 78 rfl (fun M12 eM12 => ?_)
        have hw := hw M12 eM12
        obtain ⟨n0, hw⟩ := hw
        exact XX.sub [1] rfl (B78 n0 M12 hw)
    · refine q_aload_n hC dX3_readToken_58 1 rfl 59 rfl ?_
      refine q_iconst (v := 0) hC dX3_readToken_59 rfl 60 rfl ?_
      refine q_putI (C := RX3) (T := TX3) (N := 10) (ci := 3) hC inX3_readToken_X3 tyX3 tyX3_ok nmX3 (obF37 hF) rfl 4 (by decide) (uX3_readToken__X3_readNumber _ (List.mem_of_getElem? (l := owX3_readNumber) (i := 3) rfl)) rfl rfl rfl (fun _ => Nat.le_of_ble_eq_true rfl) (fun _ => rfl) dX3_readToken_60 63 rfl (fun M13 eM13 => ?_)
      have hw := hw M13 eM13
      refine q_goto hC 155 dX3_readToken_63 (by decide) ?_
      exact XX.sub [1] rfl (B155 M13 hw)
  have B0 : ∀ (n : Nat) (M : MM) , wX3_readToken_0 Q n M → XX z g Qf 2 0 [(0, .ref (gA g 37))] [] M := by
    intro n
    induction n with
    | zero =>
      intro M hw
      exact hw.elim
    | succ n ih =>
      intro M hw
      refine q_aload_n hC dX3_readToken_0 0 rfl 1 rfl ?_
      refine q_getI (C := RX3) (T := TX3) (N := 10) (ci := 3) hC inX3_readToken_X3 (obF37 hF) rfl 3 (by decide) (uX3_readToken__X3_readNumber _ (List.mem_of_getElem? (l := owX3_readNumber) (i := 1) rfl)) rfl (fun _ => rfl) dX3_readToken_1 4 rfl ?_
      refine q_aload_n hC dX3_readToken_4 0 rfl 5 rfl ?_
      refine q_getI (C := RX3) (T := TX3) (N := 10) (ci := 3) hC inX3_readToken_X3 (obF37 hF) rfl 2 (by decide) (uX3_readToken__X3_letterAt _ (List.mem_of_getElem? (l := owX3_letterAt) (i := 1) rfl)) rfl (fun _ => rfl) dX3_readToken_5 8 rfl ?_
      refine q_icmp_ge hC 37 dX3_readToken_8 (by decide) 11 rfl hw (fun hw => ?_) (fun hw => ?_)
      · exact XX.sub [0] rfl (B37 M hw)
      · refine q_aload_n hC dX3_readToken_11 0 rfl 12 rfl ?_
        refine q_aload_n hC dX3_readToken_12 0 rfl 13 rfl ?_
        refine q_getI (C := RX3) (T := TX3) (N := 10) (ci := 3) hC inX3_readToken_X3 (obF37 hF) rfl 3 (by decide) (uX3_readToken__X3_readNumber _ (List.mem_of_getElem? (l := owX3_readNumber) (i := 1) rfl)) rfl (fun _ => rfl) dX3_readToken_13 16 rfl ?_
        refine r_callI hC (go_V (q := (RX3, TX3, 10)) (As := [.int (M 37 3)]) (rest := []) hC (ctX3_letterAt (zl z) g M (M 37 3) _ hF hw) 1 gX3_readToken_X3_letterAt rfl ⟨rfl, rfl⟩ hdV_X3_letterAt ⟨Nat.le_of_ble_eq_true rfl, Nat.le_of_ble_eq_true rfl⟩ (obF37 hF) rfl rfl rfl (Nat.le_of_ble_eq_true rfl) dX3_readToken_16) 19 rfl (fun r1 M2 hw => ?_)
        refine q_bipush (v := 32) hC dX3_readToken_19 (by decide) 21 rfl ?_
        refine q_icmp_ne hC 37 dX3_readToken_21 (by decide) 24 rfl hw (fun hw => ?_) (fun hw => ?_)
        · exact XX.sub [0] rfl (B37 M2 hw)
        · refine q_aload_n hC dX3_readToken_24 0 rfl 25 rfl ?_
          refine q_dup hC dX3_readToken_25 rfl 26 rfl ?_
          refine q_getI (C := RX3) (T := TX3) (N := 10) (ci := 3) hC inX3_readToken_X3 (obF37 hF) rfl 3 (by decide) (uX3_readToken__X3_readNumber _ (List.mem_of_getElem? (l := owX3_readNumber) (i := 1) rfl)) rfl (fun _ => rfl) dX3_readToken_26 29 rfl ?_
          refine q_iconst (v := 1) hC dX3_readToken_29 rfl 30 rfl ?_
          refine q_iadd hC dX3_readToken_30 31 rfl ?_
          refine q_putI (C := RX3) (T := TX3) (N := 10) (ci := 3) hC inX3_readToken_X3 tyX3 tyX3_ok nmX3 (obF37 hF) rfl 3 (by decide) (uX3_readToken__X3_readNumber _ (List.mem_of_getElem? (l := owX3_readNumber) (i := 1) rfl)) rfl rfl rfl (fun _ => Nat.le_of_ble_eq_true rfl) (fun _ => rfl) dX3_readToken_31 34 rfl (fun M3 eM3 => ?_)
          have hw := hw M3 eM3
          refine q_goto hC 0 dX3_readToken_34 (by decide) ?_
          exact XX.sub [0] rfl (ih M3 hw)
  obtain ⟨n0, hw⟩ := hw
  exact XX.sub [0] rfl (B0 n0 M hw)
theorem hdV_J0_length_8abf5 : yJ0_length_8abf5.cls = RJ0 ∧ yJ0_length_8abf5.cls ≠ "java/lang/invoke/MethodHandle" ∧ yJ0_length_8abf5.cls ≠ "java/lang/invoke/VarHandle" ∧ (parseMethodDescriptor yJ0_length_8abf5.desc).map (fun d => d.parameters.length) = some 0 := by decide +kernel
theorem hdV_J0_charAt_5068e : yJ0_charAt_5068e.cls = RJ0 ∧ yJ0_charAt_5068e.cls ≠ "java/lang/invoke/MethodHandle" ∧ yJ0_charAt_5068e.cls ≠ "java/lang/invoke/VarHandle" ∧ (parseMethodDescriptor yJ0_charAt_5068e.desc).map (fun d => d.parameters.length) = some 1 := by decide +kernel
theorem inX3_isNamed_X3 : ∀ w ∈ u_ws RX3 TX3 10, w ∈ wsX3_isNamed := uX3_isNamed__wsX30
set_option maxRecDepth 100000 in
set_option maxHeartbeats 4000000 in
theorem ctX3_isNamed (l : Launch) (g : GG) (M : MM) (k1 : Nat) (Q : Int32 → MM → Prop) (hF : full g) (hk1 : k1 < 11) (hw : wX3_isNamed Q M k1) : MI g l yX3_isNamed wsX3_isNamed (rmOf 5 151) [.ref (gA g 37), .ref (gK g k1)] M Q := by
  refine mk_MZ (cc := cX3_isNamed) (maxL := 3) (by decide) rfl (Nat.le_of_ble_eq_true rfl) ?_
  intro z Qf hC hR
  show XX z g Qf 3 0 [(0, .ref (gA g 37)), (1, .ref (gK g k1))] [] M
  have B28 : ∀ (n : Nat) (M : MM) (v2 : Int32) , wX3_isNamed_28 Q k1 n M v2 → XX z g Qf 3 28 [(0, .ref (gA g 37)), (1, .ref (gK g k1)), (2, .int v2)] [] M := by
    intro n
    induction n with
    | zero =>
      intro M v2 hw
      exact hw.elim
    | succ n ih =>
      intro M v2 hw
      refine q_iload_n hC dX3_isNamed_28 2 rfl 29 rfl ?_
      refine q_aload_n hC dX3_isNamed_29 1 rfl 30 rfl ?_
      refine r_callI hC (go_VK (As := []) (rest := [.int v2]) hC (ctJ0_length_8abf5 (zl z) g M k1 _ hk1 hw) 0 gX3_isNamed_J0_length_8abf5 rfl ⟨rfl, rfl⟩ hdV_J0_length_8abf5 ⟨Nat.le_of_ble_eq_true rfl, Nat.le_of_ble_eq_true rfl⟩ hk1 rfl rfl (Nat.le_of_ble_eq_true rfl) dX3_isNamed_30) 33 rfl (fun r3 M4 hw => ?_)
      refine q_icmp_ge hC 62 dX3_isNamed_33 (by decide) 36 rfl hw (fun hw => ?_) (fun hw => ?_)
      · refine q_iconst (v := 1) hC dX3_isNamed_62 rfl 63 rfl ?_
        exact r_iret hR dX3_isNamed_63 ⟨nb_1, hw⟩
      · refine q_aload_n hC dX3_isNamed_36 0 rfl 37 rfl ?_
        refine q_aload_n hC dX3_isNamed_37 0 rfl 38 rfl ?_
        refine q_getI (C := RX3) (T := TX3) (N := 10) (ci := 3) hC inX3_isNamed_X3 (obF37 hF) rfl 5 (by decide) (uX3_isNamed__o _ (List.mem_of_getElem? (l := owX3_isNamed) (i := 3) rfl)) rfl (fun _ => rfl) dX3_isNamed_38 41 rfl ?_
        refine q_iload_n hC dX3_isNamed_41 2 rfl 42 rfl ?_
        refine q_iadd hC dX3_isNamed_42 43 rfl ?_
        refine r_callI hC (go_V (q := (RX3, TX3, 10)) (As := [.int ((M4 37 5) + v2)]) (rest := []) hC (ctX3_letterAt (zl z) g M4 ((M4 37 5) + v2) _ hF hw) 1 gX3_isNamed_X3_letterAt rfl ⟨rfl, rfl⟩ hdV_X3_letterAt ⟨Nat.le_of_ble_eq_true rfl, Nat.le_of_ble_eq_true rfl⟩ (obF37 hF) rfl rfl rfl (Nat.le_of_ble_eq_true rfl) dX3_isNamed_43) 46 rfl (fun r5 M6 hw => ?_)
        refine q_aload_n hC dX3_isNamed_46 1 rfl 47 rfl ?_
        refine q_iload_n hC dX3_isNamed_47 2 rfl 48 rfl ?_
        refine r_callI hC (go_VK (As := [.int v2]) (rest := [.int r5]) hC (ctJ0_charAt_5068e (zl z) g M6 k1 v2 _ hk1 hw) 1 gX3_isNamed_J0_charAt_5068e rfl ⟨rfl, rfl⟩ hdV_J0_charAt_5068e ⟨Nat.le_of_ble_eq_true rfl, Nat.le_of_ble_eq_true rfl⟩ hk1 rfl rfl (Nat.le_of_ble_eq_true rfl) dX3_isNamed_48) 51 rfl (fun r7 M8 hw => ?_)
        refine q_icmp_eq hC 56 dX3_isNamed_51 (by decide) 54 rfl hw (fun hw => ?_) (fun hw => ?_)
        · refine q_iinc (v := v2 + 1) (L' := [(2, .int (v2 + 1)), (0, .ref (gA g 37)), (1, .ref (gK g k1))]) hC dX3_isNamed_56 2 rfl rfl (by decide) rfl 59 rfl ?_
          refine q_goto hC 28 dX3_isNamed_59 (by decide) ?_
          exact XX.sub [1, 2, 0] rfl (ih M8 (v2 + 1) hw)
        · refine q_iconst (v := 0) hC dX3_isNamed_54 rfl 55 rfl ?_
          exact r_iret hR dX3_isNamed_55 ⟨nb_0, hw⟩
  refine q_aload_n hC dX3_isNamed_0 0 rfl 1 rfl ?_
  refine q_getI (C := RX3) (T := TX3) (N := 10) (ci := 3) hC inX3_isNamed_X3 (obF37 hF) rfl 4 (by decide) (uX3_isNamed__o _ (List.mem_of_getElem? (l := owX3_isNamed) (i := 1) rfl)) rfl (fun _ => rfl) dX3_isNamed_1 4 rfl ?_
  refine q_iconst (v := 1) hC dX3_isNamed_4 rfl 5 rfl ?_
  refine q_icmp_ne hC 24 dX3_isNamed_5 (by decide) 8 rfl hw (fun hw => ?_) (fun hw => ?_)
  · refine q_iconst (v := 0) hC dX3_isNamed_24 rfl 25 rfl ?_
    exact r_iret hR dX3_isNamed_25 ⟨nb_0, hw⟩
  · refine q_aload_n hC dX3_isNamed_8 0 rfl 9 rfl ?_
    refine q_getI (C := RX3) (T := TX3) (N := 10) (ci := 3) hC inX3_isNamed_X3 (obF37 hF) rfl 3 (by decide) (uX3_isNamed__o _ (List.mem_of_getElem? (l := owX3_isNamed) (i := 2) rfl)) rfl (fun _ => rfl) dX3_isNamed_9 12 rfl ?_
    refine q_aload_n hC dX3_isNamed_12 0 rfl 13 rfl ?_
    refine q_getI (C := RX3) (T := TX3) (N := 10) (ci := 3) hC inX3_isNamed_X3 (obF37 hF) rfl 5 (by decide) (uX3_isNamed__o _ (List.mem_of_getElem? (l := owX3_isNamed) (i := 3) rfl)) rfl (fun _ => rfl) dX3_isNamed_13 16 rfl ?_
    refine q_isub hC dX3_isNamed_16 17 rfl ?_
    refine q_aload_n hC dX3_isNamed_17 1 rfl 18 rfl ?_
    refine r_callI hC (go_VK (As := []) (rest := [.int ((M 37 3) - (M 37 5))]) hC (ctJ0_length_8abf5 (zl z) g M k1 _ hk1 hw) 0 gX3_isNamed_J0_length_8abf5 rfl ⟨rfl, rfl⟩ hdV_J0_length_8abf5 ⟨Nat.le_of_ble_eq_true rfl, Nat.le_of_ble_eq_true rfl⟩ hk1 rfl rfl (Nat.le_of_ble_eq_true rfl) dX3_isNamed_18) 21 rfl (fun r1 M2 hw => ?_)
    refine q_icmp_eq hC 26 dX3_isNamed_21 (by decide) 24 rfl hw (fun hw => ?_) (fun hw => ?_)
    · refine q_iconst (v := 0) hC dX3_isNamed_26 rfl 27 rfl ?_
      refine q_istore_n (L' := [(2, .int 0), (0, .ref (gA g 37)), (1, .ref (gK g k1))]) hC dX3_isNamed_27 (by decide) rfl 28 rfl ?_
      obtain ⟨n0, hw⟩ := hw
      exact XX.sub [1, 2, 0] rfl (B28 n0 M2 0 hw)
    · refine q_iconst (v := 0) hC dX3_isNamed_24 rfl 25 rfl ?_
      exact r_iret hR dX3_isNamed_25 ⟨nb_0, hw⟩
theorem hdV_X3_isNamed : yX3_isNamed.cls = RX3 ∧ yX3_isNamed.cls ≠ "java/lang/invoke/MethodHandle" ∧ yX3_isNamed.cls ≠ "java/lang/invoke/VarHandle" ∧ (parseMethodDescriptor yX3_isNamed.desc).map (fun d => d.parameters.length) = some 1 := by decide +kernel
set_option maxRecDepth 100000 in
set_option maxHeartbeats 4000000 in
theorem ctX3_ruleNamed (l : Launch) (g : GG) (M : MM)  (Q : Int32 → MM → Prop) (hF : full g) (hw : wX3_ruleNamed Q M ) : MI g l yX3_ruleNamed wsX3_ruleNamed (rmOf 6 173) [.ref (gA g 37)] M Q := by
  refine mk_MI (cc := cX3_ruleNamed) (maxL := 1) (by decide) rfl (Nat.le_of_ble_eq_true rfl) ?_
  intro z Qf hC hR
  show XX z g Qf 1 0 [(0, .ref (gA g 37))] [] M
  refine q_aload_n hC dX3_ruleNamed_0 0 rfl 1 rfl ?_
  refine q_ldcS hC 0 (by decide) rfl dX3_ruleNamed_1 3 rfl ?_
  refine r_callI hC (go_V (q := (RX3, TX3, 10)) (As := [.ref (gK g 0)]) (rest := []) hC (ctX3_isNamed (zl z) g M 0 _ hF (by decide) hw) 1 gX3_ruleNamed_X3_isNamed rfl ⟨rfl, rfl⟩ hdV_X3_isNamed ⟨Nat.le_of_ble_eq_true rfl, Nat.le_of_ble_eq_true rfl⟩ (obF37 hF) rfl rfl rfl (Nat.le_of_ble_eq_true rfl) dX3_ruleNamed_3) 6 rfl (fun r1 M2 hw => ?_)
  refine q_if_eq hC 11 dX3_ruleNamed_6 (by decide) 9 rfl hw (fun hw => ?_) (fun hw => ?_)
  · refine q_aload_n hC dX3_ruleNamed_11 0 rfl 12 rfl ?_
    refine q_ldcS hC 1 (by decide) rfl dX3_ruleNamed_12 14 rfl ?_
    refine r_callI hC (go_V (q := (RX3, TX3, 10)) (As := [.ref (gK g 1)]) (rest := []) hC (ctX3_isNamed (zl z) g M2 1 _ hF (by decide) hw) 1 gX3_ruleNamed_X3_isNamed rfl ⟨rfl, rfl⟩ hdV_X3_isNamed ⟨Nat.le_of_ble_eq_true rfl, Nat.le_of_ble_eq_true rfl⟩ (obF37 hF) rfl rfl rfl (Nat.le_of_ble_eq_true rfl) dX3_ruleNamed_14) 17 rfl (fun r3 M4 hw => ?_)
    refine q_if_eq hC 22 dX3_ruleNamed_17 (by decide) 20 rfl hw (fun hw => ?_) (fun hw => ?_)
    · refine q_aload_n hC dX3_ruleNamed_22 0 rfl 23 rfl ?_
      refine q_ldcS hC 2 (by decide) rfl dX3_ruleNamed_23 25 rfl ?_
      refine r_callI hC (go_V (q := (RX3, TX3, 10)) (As := [.ref (gK g 2)]) (rest := []) hC (ctX3_isNamed (zl z) g M4 2 _ hF (by decide) hw) 1 gX3_ruleNamed_X3_isNamed rfl ⟨rfl, rfl⟩ hdV_X3_isNamed ⟨Nat.le_of_ble_eq_true rfl, Nat.le_of_ble_eq_true rfl⟩ (obF37 hF) rfl rfl rfl (Nat.le_of_ble_eq_true rfl) dX3_ruleNamed_25) 28 rfl (fun r5 M6 hw => ?_)
      refine q_if_eq hC 33 dX3_ruleNamed_28 (by decide) 31 rfl hw (fun hw => ?_) (fun hw => ?_)
      · refine q_aload_n hC dX3_ruleNamed_33 0 rfl 34 rfl ?_
        refine q_ldcS hC 3 (by decide) rfl dX3_ruleNamed_34 36 rfl ?_
        refine r_callI hC (go_V (q := (RX3, TX3, 10)) (As := [.ref (gK g 3)]) (rest := []) hC (ctX3_isNamed (zl z) g M6 3 _ hF (by decide) hw) 1 gX3_ruleNamed_X3_isNamed rfl ⟨rfl, rfl⟩ hdV_X3_isNamed ⟨Nat.le_of_ble_eq_true rfl, Nat.le_of_ble_eq_true rfl⟩ (obF37 hF) rfl rfl rfl (Nat.le_of_ble_eq_true rfl) dX3_ruleNamed_36) 39 rfl (fun r7 M8 hw => ?_)
        refine q_if_eq hC 44 dX3_ruleNamed_39 (by decide) 42 rfl hw (fun hw => ?_) (fun hw => ?_)
        · refine q_aload_n hC dX3_ruleNamed_44 0 rfl 45 rfl ?_
          refine q_ldcS hC 4 (by decide) rfl dX3_ruleNamed_45 47 rfl ?_
          refine r_callI hC (go_V (q := (RX3, TX3, 10)) (As := [.ref (gK g 4)]) (rest := []) hC (ctX3_isNamed (zl z) g M8 4 _ hF (by decide) hw) 1 gX3_ruleNamed_X3_isNamed rfl ⟨rfl, rfl⟩ hdV_X3_isNamed ⟨Nat.le_of_ble_eq_true rfl, Nat.le_of_ble_eq_true rfl⟩ (obF37 hF) rfl rfl rfl (Nat.le_of_ble_eq_true rfl) dX3_ruleNamed_47) 50 rfl (fun r9 M10 hw => ?_)
          refine q_if_eq hC 55 dX3_ruleNamed_50 (by decide) 53 rfl hw (fun hw => ?_) (fun hw => ?_)
          · refine q_aload_n hC dX3_ruleNamed_55 0 rfl 56 rfl ?_
            refine q_ldcS hC 5 (by decide) rfl dX3_ruleNamed_56 58 rfl ?_
            refine r_callI hC (go_V (q := (RX3, TX3, 10)) (As := [.ref (gK g 5)]) (rest := []) hC (ctX3_isNamed (zl z) g M10 5 _ hF (by decide) hw) 1 gX3_ruleNamed_X3_isNamed rfl ⟨rfl, rfl⟩ hdV_X3_isNamed ⟨Nat.le_of_ble_eq_true rfl, Nat.le_of_ble_eq_true rfl⟩ (obF37 hF) rfl rfl rfl (Nat.le_of_ble_eq_true rfl) dX3_ruleNamed_58) 61 rfl (fun r11 M12 hw => ?_)
            refine q_if_eq hC 66 dX3_ruleNamed_61 (by decide) 64 rfl hw (fun hw => ?_) (fun hw => ?_)
            · refine q_aload_n hC dX3_ruleNamed_66 0 rfl 67 rfl ?_
              refine q_ldcS hC 6 (by decide) rfl dX3_ruleNamed_67 69 rfl ?_
              refine r_callI hC (go_V (q := (RX3, TX3, 10)) (As := [.ref (gK g 6)]) (rest := []) hC (ctX3_isNamed (zl z) g M12 6 _ hF (by decide) hw) 1 gX3_ruleNamed_X3_isNamed rfl ⟨rfl, rfl⟩ hdV_X3_isNamed ⟨Nat.le_of_ble_eq_true rfl, Nat.le_of_ble_eq_true rfl⟩ (obF37 hF) rfl rfl rfl (Nat.le_of_ble_eq_true rfl) dX3_ruleNamed_69) 72 rfl (fun r13 M14 hw => ?_)
              refine q_if_eq hC 78 dX3_ruleNamed_72 (by decide) 75 rfl hw (fun hw => ?_) (fun hw => ?_)
              · refine q_aload_n hC dX3_ruleNamed_78 0 rfl 79 rfl ?_
                refine q_ldcS hC 7 (by decide) rfl dX3_ruleNamed_79 81 rfl ?_
                refine r_callI hC (go_V (q := (RX3, TX3, 10)) (As := [.ref (gK g 7)]) (rest := []) hC (ctX3_isNamed (zl z) g M14 7 _ hF (by decide) hw) 1 gX3_ruleNamed_X3_isNamed rfl ⟨rfl, rfl⟩ hdV_X3_isNamed ⟨Nat.le_of_ble_eq_true rfl, Nat.le_of_ble_eq_true rfl⟩ (obF37 hF) rfl rfl rfl (Nat.le_of_ble_eq_true rfl) dX3_ruleNamed_81) 84 rfl (fun r15 M16 hw => ?_)
                refine q_if_eq hC 90 dX3_ruleNamed_84 (by decide) 87 rfl hw (fun hw => ?_) (fun hw => ?_)
                · refine q_aload_n hC dX3_ruleNamed_90 0 rfl 91 rfl ?_
                  refine q_ldcS hC 8 (by decide) rfl dX3_ruleNamed_91 93 rfl ?_
                  refine r_callI hC (go_V (q := (RX3, TX3, 10)) (As := [.ref (gK g 8)]) (rest := []) hC (ctX3_isNamed (zl z) g M16 8 _ hF (by decide) hw) 1 gX3_ruleNamed_X3_isNamed rfl ⟨rfl, rfl⟩ hdV_X3_isNamed ⟨Nat.le_of_ble_eq_true rfl, Nat.le_of_ble_eq_true rfl⟩ (obF37 hF) rfl rfl rfl (Nat.le_of_ble_eq_true rfl) dX3_ruleNamed_93) 96 rfl (fun r17 M18 hw => ?_)
                  refine q_if_eq hC 102 dX3_ruleNamed_96 (by decide) 99 rfl hw (fun hw => ?_) (fun hw => ?_)
                  · refine q_bipush (v := (-4)) hC dX3_ruleNamed_102 (by decide) 104 rfl ?_
                    exact r_iret hR dX3_ruleNamed_104 hw
                  · refine q_bipush (v := 8) hC dX3_ruleNamed_99 (by decide) 101 rfl ?_
                    exact r_iret hR dX3_ruleNamed_101 hw
                · refine q_bipush (v := 7) hC dX3_ruleNamed_87 (by decide) 89 rfl ?_
                  exact r_iret hR dX3_ruleNamed_89 hw
              · refine q_bipush (v := 6) hC dX3_ruleNamed_75 (by decide) 77 rfl ?_
                exact r_iret hR dX3_ruleNamed_77 hw
            · refine q_iconst (v := 5) hC dX3_ruleNamed_64 rfl 65 rfl ?_
              exact r_iret hR dX3_ruleNamed_65 hw
          · refine q_iconst (v := 4) hC dX3_ruleNamed_53 rfl 54 rfl ?_
            exact r_iret hR dX3_ruleNamed_54 hw
        · refine q_iconst (v := 3) hC dX3_ruleNamed_42 rfl 43 rfl ?_
          exact r_iret hR dX3_ruleNamed_43 hw
      · refine q_iconst (v := 2) hC dX3_ruleNamed_31 rfl 32 rfl ?_
        exact r_iret hR dX3_ruleNamed_32 hw
    · refine q_iconst (v := 1) hC dX3_ruleNamed_20 rfl 21 rfl ?_
      exact r_iret hR dX3_ruleNamed_21 hw
  · refine q_iconst (v := 0) hC dX3_ruleNamed_9 rfl 10 rfl ?_
    exact r_iret hR dX3_ruleNamed_10 hw
theorem inX3_isNumberWithin_X3 : ∀ w ∈ u_ws RX3 TX3 10, w ∈ wsX3_isNumberWithin := uX3_isNumberWithin__wsX30
set_option maxRecDepth 100000 in
set_option maxHeartbeats 4000000 in
theorem ctX3_isNumberWithin (l : Launch) (g : GG) (M : MM) (v1 : Int32) (v2 : Int32) (Q : Int32 → MM → Prop) (hF : full g) (hw : wX3_isNumberWithin Q M v1 v2) : MI g l yX3_isNumberWithin wsX3_isNumberWithin (rmOf 1 22) [.ref (gA g 37), .int v1, .int v2] M Q := by
  refine mk_MZ (cc := cX3_isNumberWithin) (maxL := 3) (by decide) rfl (Nat.le_of_ble_eq_true rfl) ?_
  intro z Qf hC hR
  show XX z g Qf 3 0 [(0, .ref (gA g 37)), (1, .int v1), (2, .int v2)] [] M
  have B41 : ∀ (M : MM), wX3_isNumberWithin_41 Q v1 v2 M → XX z g Qf 3 41 [(0, .ref (gA g 37))] [] M := by
    intro M hw
    refine q_aload_n hC dX3_isNumberWithin_41 0 rfl 42 rfl ?_
    refine q_getI (C := RX3) (T := TX3) (N := 10) (ci := 3) hC inX3_isNumberWithin_X3 (obF37 hF) rfl 8 (by decide) (uX3_isNumberWithin__X3_refuse _ (List.mem_of_getElem? (l := owX3_refuse) (i := 1) rfl)) rfl (fun _ => rfl) dX3_isNumberWithin_42 45 rfl ?_
    refine q_if_ne hC 52 dX3_isNumberWithin_45 (by decide) 48 rfl hw (fun hw => ?_) (fun hw => ?_)
    · refine q_iconst (v := 0) hC dX3_isNumberWithin_52 rfl 53 rfl ?_
      exact r_iret hR dX3_isNumberWithin_53 ⟨nb_0, hw⟩
    · refine q_iconst (v := 1) hC dX3_isNumberWithin_48 rfl 49 rfl ?_
      refine q_goto hC 53 dX3_isNumberWithin_49 (by decide) ?_
      exact r_iret hR dX3_isNumberWithin_53 ⟨nb_1, hw⟩
  refine q_aload_n hC dX3_isNumberWithin_0 0 rfl 1 rfl ?_
  refine q_getI (C := RX3) (T := TX3) (N := 10) (ci := 3) hC inX3_isNumberWithin_X3 (obF37 hF) rfl 4 (by decide) (uX3_isNumberWithin__o _ (List.mem_of_getElem? (l := owX3_isNumberWithin) (i := 1) rfl)) rfl (fun _ => rfl) dX3_isNumberWithin_1 4 rfl ?_
  refine q_iconst (v := 2) hC dX3_isNumberWithin_4 rfl 5 rfl ?_
  refine q_icmp_eq hC 20 dX3_isNumberWithin_5 (by decide) 8 rfl hw (fun hw => ?_) (fun hw => ?_)
  · refine q_aload_n hC dX3_isNumberWithin_20 0 rfl 21 rfl ?_
    refine q_getI (C := RX3) (T := TX3) (N := 10) (ci := 3) hC inX3_isNumberWithin_X3 (obF37 hF) rfl 6 (by decide) (uX3_isNumberWithin__o _ (List.mem_of_getElem? (l := owX3_isNumberWithin) (i := 3) rfl)) rfl (fun _ => rfl) dX3_isNumberWithin_21 24 rfl ?_
    refine q_iload_n hC dX3_isNumberWithin_24 1 rfl 25 rfl ?_
    refine q_iload_n hC dX3_isNumberWithin_25 2 rfl 26 rfl ?_
    refine r_callI hC (go_N (As := [.int (M 37 6), .int v1, .int v2]) (rest := []) hC (ctX4_isBetween (zl z) g M (M 37 6) v1 v2 _ hw) 3 gX3_isNumberWithin_X4_isBetween_n173 rfl ⟨rfl, rfl⟩ 13 rfl (uX3_isNumberWithin__o _ (List.mem_of_getElem? (l := owX3_isNumberWithin) (i := 9) rfl)) (uX3_isNumberWithin__o _ (List.mem_of_getElem? (l := owX3_isNumberWithin) (i := 8) rfl)) hdT_X4_isBetween ⟨Nat.le_of_ble_eq_true rfl, Nat.le_of_ble_eq_true rfl⟩ rfl rfl (Nat.le_of_ble_eq_true rfl) dX3_isNumberWithin_26) 29 rfl (fun r1 M2 hw => ?_)
    refine q_if_ne hC 41 dX3_isNumberWithin_29 (by decide) 32 rfl hw (fun hw => ?_) (fun hw => ?_)
    · exact XX.sub [0] rfl (B41 M2 hw)
    · refine q_aload_n hC dX3_isNumberWithin_32 0 rfl 33 rfl ?_
      refine q_iconst (v := 3) hC dX3_isNumberWithin_33 rfl 34 rfl ?_
      refine q_aload_n hC dX3_isNumberWithin_34 0 rfl 35 rfl ?_
      refine q_getI (C := RX3) (T := TX3) (N := 10) (ci := 3) hC inX3_isNumberWithin_X3 (obF37 hF) rfl 5 (by decide) (uX3_isNumberWithin__o _ (List.mem_of_getElem? (l := owX3_isNumberWithin) (i := 2) rfl)) rfl (fun _ => rfl) dX3_isNumberWithin_35 38 rfl ?_
      refine r_callV hC (go_V (q := (RX3, TX3, 10)) (As := [.int 3, .int (M2 37 5)]) (rest := []) hC (ctX3_refuse (zl z) g M2 3 (M2 37 5) _ hF hw) 2 gX3_isNumberWithin_X3_refuse rfl ⟨rfl, rfl⟩ hdV_X3_refuse ⟨Nat.le_of_ble_eq_true rfl, Nat.le_of_ble_eq_true rfl⟩ (obF37 hF) rfl rfl rfl (Nat.le_of_ble_eq_true rfl) dX3_isNumberWithin_38) 41 rfl (fun M3 hw => ?_)
      exact XX.sub [0] rfl (B41 M3 hw)
  · refine q_aload_n hC dX3_isNumberWithin_8 0 rfl 9 rfl ?_
    refine q_iconst (v := 2) hC dX3_isNumberWithin_9 rfl 10 rfl ?_
    refine q_aload_n hC dX3_isNumberWithin_10 0 rfl 11 rfl ?_
    refine q_getI (C := RX3) (T := TX3) (N := 10) (ci := 3) hC inX3_isNumberWithin_X3 (obF37 hF) rfl 5 (by decide) (uX3_isNumberWithin__o _ (List.mem_of_getElem? (l := owX3_isNumberWithin) (i := 2) rfl)) rfl (fun _ => rfl) dX3_isNumberWithin_11 14 rfl ?_
    refine r_callV hC (go_V (q := (RX3, TX3, 10)) (As := [.int 2, .int (M 37 5)]) (rest := []) hC (ctX3_refuse (zl z) g M 2 (M 37 5) _ hF hw) 2 gX3_isNumberWithin_X3_refuse rfl ⟨rfl, rfl⟩ hdV_X3_refuse ⟨Nat.le_of_ble_eq_true rfl, Nat.le_of_ble_eq_true rfl⟩ (obF37 hF) rfl rfl rfl (Nat.le_of_ble_eq_true rfl) dX3_isNumberWithin_14) 17 rfl (fun M4 hw => ?_)
    refine q_goto hC 41 dX3_isNumberWithin_17 (by decide) ?_
    exact XX.sub [0] rfl (B41 M4 hw)
