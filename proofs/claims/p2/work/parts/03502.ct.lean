theorem hdV_X5_next : yX5_next.cls = RX5 ∧ yX5_next.cls ≠ "java/lang/invoke/MethodHandle" ∧ yX5_next.cls ≠ "java/lang/invoke/VarHandle" ∧ (parseMethodDescriptor yX5_next.desc).map (fun d => d.parameters.length) = some 0 := by decide +kernel
theorem inX5_readNumber_X5 : ∀ w ∈ u_ws RX5 TX5 26, w ∈ wsX5_readNumber := uX5_readNumber__wsX50
set_option maxRecDepth 100000 in
set_option maxHeartbeats 4000000 in
theorem ctX5_readNumber (l : Launch) (g : GG) (M : MM) (v1 : Int32) (v2 : Int32) (Q : Int32 → MM → Prop) (hF : ful5 g) (hw : wX5_readNumber Q M v1 v2) : MI g l yX5_readNumber wsX5_readNumber (rmOf 2 46) [.ref (gA g 52), .int v1, .int v2] M Q := by
  refine mk_MI (cc := cX5_readNumber) (maxL := 4) (by decide) rfl (Nat.le_of_ble_eq_true rfl) ?_
  intro z Qf hC hR
  show XX z g Qf 4 0 [(0, .ref (gA g 52)), (1, .int v1), (2, .int v2)] [] M
  have B49 : ∀ (M : MM), wX5_readNumber_49 Q v1 v2 M → XX z g Qf 4 49 [(0, .ref (gA g 52))] [] M := by
    intro M hw
    refine q_aload_n hC dX5_readNumber_49 0 rfl 50 rfl ?_
    refine q_getI (C := RX5) (T := TX5) (N := 26) (ci := 5) hC inX5_readNumber_X5 (obF52 hF) rfl 13 (by decide) (uX5_readNumber__X5_next _ (List.mem_of_getElem? (l := owX5_next) (i := 7) rfl)) rfl (fun _ => rfl) dX5_readNumber_50 53 rfl ?_
    refine q_istore_n (L' := [(3, .int (M 52 13)), (0, .ref (gA g 52))]) hC dX5_readNumber_53 (by decide) rfl 54 rfl ?_
    refine q_aload_n hC dX5_readNumber_54 1 rfl 55 rfl ?_
    refine r_callV hC (go_V (q := (RX5, TX5, 26)) (As := []) (rest := []) hC (ctX5_next (zl z) g M _ hF hw) 0 gX5_readNumber_X5_next rfl ⟨rfl, rfl⟩ hdV_X5_next ⟨Nat.le_of_ble_eq_true rfl, Nat.le_of_ble_eq_true rfl⟩ (obF52 hF) rfl rfl rfl (Nat.le_of_ble_eq_true rfl) dX5_readNumber_55) 58 rfl (fun M5 hw => ?_)
    refine q_iload_n hC dX5_readNumber_58 0 rfl 59 rfl ?_
    exact r_iret hR dX5_readNumber_59 hw
  have B25 : ∀ (M : MM), wX5_readNumber_25 Q v1 v2 M → XX z g Qf 4 25 [(0, .ref (gA g 52)), (1, .int v1), (2, .int v2)] [] M := by
    intro M hw
    refine q_aload_n hC dX5_readNumber_25 0 rfl 26 rfl ?_
    refine q_getI (C := RX5) (T := TX5) (N := 26) (ci := 5) hC inX5_readNumber_X5 (obF52 hF) rfl 14 (by decide) (uX5_readNumber__X5_needs _ (List.mem_of_getElem? (l := owX5_needs) (i := 1) rfl)) rfl (fun _ => rfl) dX5_readNumber_26 29 rfl ?_
    refine q_if_ne hC 49 dX5_readNumber_29 (by decide) 32 rfl hw (fun hw => ?_) (fun hw => ?_)
    · exact XX.sub [0] rfl (B49 M hw)
    · refine q_aload_n hC dX5_readNumber_32 0 rfl 33 rfl ?_
      refine q_aload_n hC dX5_readNumber_33 0 rfl 34 rfl ?_
      refine q_getI (C := RX5) (T := TX5) (N := 26) (ci := 5) hC inX5_readNumber_X5 (obF52 hF) rfl 13 (by decide) (uX5_readNumber__X5_next _ (List.mem_of_getElem? (l := owX5_next) (i := 7) rfl)) rfl (fun _ => rfl) dX5_readNumber_34 37 rfl ?_
      refine q_i2l hC dX5_readNumber_37 38 rfl ?_
      refine q_iload_n hC dX5_readNumber_38 1 rfl 39 rfl ?_
      refine q_i2l hC dX5_readNumber_39 40 rfl ?_
      refine q_iload_n hC dX5_readNumber_40 2 rfl 41 rfl ?_
      refine q_i2l hC dX5_readNumber_41 42 rfl ?_
      refine r_callI hC (go_T (As := [.long ((M 52 13).toInt64), .long (v1.toInt64), .long (v2.toInt64)]) (rest := [.ref (gA g 52)]) hC (ctX5_in (zl z) g M ((M 52 13).toInt64) (v1.toInt64) (v2.toInt64) _ hw) 3 gX5_readNumber_X5_in rfl ⟨rfl, rfl⟩ hdT_X5_in ⟨Nat.le_of_ble_eq_true rfl, Nat.le_of_ble_eq_true rfl⟩ rfl rfl (Nat.le_of_ble_eq_true rfl) dX5_readNumber_42) 45 rfl (fun r2 M3 hw => ?_)
      refine q_iconst (v := 3) hC dX5_readNumber_45 rfl 46 rfl ?_
      refine r_callV hC (go_V (q := (RX5, TX5, 26)) (As := [.int r2, .int 3]) (rest := []) hC (ctX5_needs (zl z) g M3 r2 3 _ hF hw) 2 gX5_readNumber_X5_needs rfl ⟨rfl, rfl⟩ hdV_X5_needs ⟨Nat.le_of_ble_eq_true rfl, Nat.le_of_ble_eq_true rfl⟩ (obF52 hF) rfl rfl rfl (Nat.le_of_ble_eq_true rfl) dX5_readNumber_46) 49 rfl (fun M4 hw => ?_)
      exact XX.sub [0] rfl (B49 M4 hw)
  have B21 : ∀ (M : MM) (p0 : Int32), wX5_readNumber_21 Q v1 v2 M p0 → XX z g Qf 4 21 [(0, .ref (gA g 52)), (1, .int v1), (2, .int v2)] [.int p0, .ref (gA g 52)] M := by
    intro M p0 hw
    refine q_iconst (v := 2) hC dX5_readNumber_21 rfl 22 rfl ?_
    refine r_callV hC (go_V (q := (RX5, TX5, 26)) (As := [.int p0, .int 2]) (rest := []) hC (ctX5_needs (zl z) g M p0 2 _ hF hw) 2 gX5_readNumber_X5_needs rfl ⟨rfl, rfl⟩ hdV_X5_needs ⟨Nat.le_of_ble_eq_true rfl, Nat.le_of_ble_eq_true rfl⟩ (obF52 hF) rfl rfl rfl (Nat.le_of_ble_eq_true rfl) dX5_readNumber_22) 25 rfl (fun M1 hw => ?_)
    exact XX.sub [0, 1, 2] rfl (B25 M1 hw)
  refine q_aload_n hC dX5_readNumber_0 0 rfl 1 rfl ?_
  refine q_getI (C := RX5) (T := TX5) (N := 26) (ci := 5) hC inX5_readNumber_X5 (obF52 hF) rfl 14 (by decide) (uX5_readNumber__X5_needs _ (List.mem_of_getElem? (l := owX5_needs) (i := 1) rfl)) rfl (fun _ => rfl) dX5_readNumber_1 4 rfl ?_
  refine q_if_ne hC 25 dX5_readNumber_4 (by decide) 7 rfl hw (fun hw => ?_) (fun hw => ?_)
  · exact XX.sub [0, 1, 2] rfl (B25 M hw)
  · refine q_aload_n hC dX5_readNumber_7 0 rfl 8 rfl ?_
    refine q_aload_n hC dX5_readNumber_8 0 rfl 9 rfl ?_
    refine q_getI (C := RX5) (T := TX5) (N := 26) (ci := 5) hC inX5_readNumber_X5 (obF52 hF) rfl 12 (by decide) (uX5_readNumber__X5_next _ (List.mem_of_getElem? (l := owX5_next) (i := 2) rfl)) rfl (fun _ => rfl) dX5_readNumber_9 12 rfl ?_
    refine q_iconst (v := 2) hC dX5_readNumber_12 rfl 13 rfl ?_
    refine q_icmp_ne hC 20 dX5_readNumber_13 (by decide) 16 rfl hw (fun hw => ?_) (fun hw => ?_)
    · refine q_iconst (v := 0) hC dX5_readNumber_20 rfl 21 rfl ?_
      exact XX.sub [0, 1, 2] rfl (B21 M 0 hw)
    · refine q_iconst (v := 1) hC dX5_readNumber_16 rfl 17 rfl ?_
      refine q_goto hC 21 dX5_readNumber_17 (by decide) ?_
      exact XX.sub [0, 1, 2] rfl (B21 M 1 hw)
theorem hdV_X5_readNumber : yX5_readNumber.cls = RX5 ∧ yX5_readNumber.cls ≠ "java/lang/invoke/MethodHandle" ∧ yX5_readNumber.cls ≠ "java/lang/invoke/VarHandle" ∧ (parseMethodDescriptor yX5_readNumber.desc).map (fun d => d.parameters.length) = some 2 := by decide +kernel
theorem inX5_readBlock_X5 : ∀ w ∈ u_ws RX5 TX5 26, w ∈ wsX5_readBlock := uX5_readBlock__wsX50
set_option maxRecDepth 100000 in
set_option maxHeartbeats 4000000 in
theorem ctX5_readBlock (l : Launch) (g : GG) (M : MM)  (Q : MM → Prop) (hF : ful5 g) (hw : wX5_readBlock Q M ) : MV g l yX5_readBlock wsX5_readBlock (rmOf 3 69) [.ref (gA g 52)] M Q := by
  refine mk_MV (cc := cX5_readBlock) (maxL := 4) (by decide) rfl (Nat.le_of_ble_eq_true rfl) ?_
  intro z Qf hC hR
  show XX z g Qf 4 0 [(0, .ref (gA g 52))] [] M
  have B82 : ∀ (M : MM) (v1 : Int32), wX5_readBlock_82 Q M v1 → XX z g Qf 4 82 [(0, .ref (gA g 52)), (1, .int v1)] [] M := by
    intro M v1 hw
    refine q_aload_n hC dX5_readBlock_82 0 rfl 83 rfl ?_
    refine q_getI (C := RX5) (T := TX5) (N := 26) (ci := 5) hC inX5_readBlock_X5 (obF52 hF) rfl 14 (by decide) (uX5_readBlock__X5_needs _ (List.mem_of_getElem? (l := owX5_needs) (i := 1) rfl)) rfl (fun _ => rfl) dX5_readBlock_83 86 rfl ?_
    refine q_if_ne hC 109 dX5_readBlock_86 (by decide) 89 rfl hw (fun hw => ?_) (fun hw => ?_)
    · exact r_vret hR dX5_readBlock_109 hw
    · refine q_aload_n hC dX5_readBlock_89 0 rfl 90 rfl ?_
      refine q_getR (C := RX5) (T := TX5) (N := 26) (ci := 5) hC inX5_readBlock_X5 (obF52 hF) rfl 5 (by decide) (uX5_readBlock__o _ (List.mem_of_getElem? (l := owX5_readBlock) (i := 3) rfl)) rfl 57 (fun _ => rfl) dX5_readBlock_90 93 rfl ?_
      refine q_aload_n hC dX5_readBlock_93 0 rfl 94 rfl ?_
      refine q_getI (C := RX5) (T := TX5) (N := 26) (ci := 5) hC inX5_readBlock_X5 (obF52 hF) rfl 4 (by decide) (uX5_readBlock__o _ (List.mem_of_getElem? (l := owX5_readBlock) (i := 2) rfl)) rfl (fun _ => rfl) dX5_readBlock_94 97 rfl ?_
      refine q_iload_n hC dX5_readBlock_97 1 rfl 98 rfl ?_
      obtain ⟨hin, hw⟩ := hw
      refine q_iast hC (arF57 hF) hin dX5_readBlock_98 99 rfl (fun M5 eM5 => ?_)
      have hw := hw M5 eM5
      refine q_aload_n hC dX5_readBlock_99 0 rfl 100 rfl ?_
      refine q_dup hC dX5_readBlock_100 rfl 101 rfl ?_
      refine q_getI (C := RX5) (T := TX5) (N := 26) (ci := 5) hC inX5_readBlock_X5 (obF52 hF) rfl 4 (by decide) (uX5_readBlock__o _ (List.mem_of_getElem? (l := owX5_readBlock) (i := 2) rfl)) rfl (fun _ => rfl) dX5_readBlock_101 104 rfl ?_
      refine q_iconst (v := 1) hC dX5_readBlock_104 rfl 105 rfl ?_
      refine q_iadd hC dX5_readBlock_105 106 rfl ?_
      refine q_putI (C := RX5) (T := TX5) (N := 26) (ci := 5) hC inX5_readBlock_X5 tyX5 tyX5_ok nmX5 (obF52 hF) rfl 4 (by decide) (uX5_readBlock__o _ (List.mem_of_getElem? (l := owX5_readBlock) (i := 2) rfl)) rfl rfl rfl (fun _ => Nat.le_of_ble_eq_true rfl) (fun _ => rfl) dX5_readBlock_106 109 rfl (fun M6 eM6 => ?_)
      have hw := hw M6 eM6
      exact r_vret hR dX5_readBlock_109 hw
  have B78 : ∀ (K4 : MM → Int32 → Int32 → Prop) (hK4 : ∀ (M : MM) (v1 : Int32) (v2 : Int32) , K4 M v1 v2 → XX z g Qf 4 4 [(0, .ref (gA g 52)), (1, .int v1), (2, .int v2)] [] M) (M : MM) (v1 : Int32) (p0 : Int32), wX5_readBlock_78 Q K4 M v1 p0 → XX z g Qf 4 78 [(0, .ref (gA g 52)), (1, .int v1)] [.int p0] M := by
    intro K4 hK4 M v1 p0 hw
    refine q_istore_n (L' := [(2, .int p0), (0, .ref (gA g 52)), (1, .int v1)]) hC dX5_readBlock_78 (by decide) rfl 79 rfl ?_
    refine q_goto hC 4 dX5_readBlock_79 (by decide) ?_
    exact XX.sub [1, 2, 0] rfl (hK4 M v1 p0 hw)
  have B65 : ∀ (K4 : MM → Int32 → Int32 → Prop) (hK4 : ∀ (M : MM) (v1 : Int32) (v2 : Int32) , K4 M v1 v2 → XX z g Qf 4 4 [(0, .ref (gA g 52)), (1, .int v1), (2, .int v2)] [] M) (M : MM) (v1 : Int32), wX5_readBlock_65 Q K4 M v1 → XX z g Qf 4 65 [(0, .ref (gA g 52)), (1, .int v1)] [] M := by
    intro K4 hK4 M v1 hw
    refine q_aload_n hC dX5_readBlock_65 0 rfl 66 rfl ?_
    refine q_getI (C := RX5) (T := TX5) (N := 26) (ci := 5) hC inX5_readBlock_X5 (obF52 hF) rfl 12 (by decide) (uX5_readBlock__X5_next _ (List.mem_of_getElem? (l := owX5_next) (i := 2) rfl)) rfl (fun _ => rfl) dX5_readBlock_66 69 rfl ?_
    refine q_iconst (v := 2) hC dX5_readBlock_69 rfl 70 rfl ?_
    refine q_icmp_ne hC 77 dX5_readBlock_70 (by decide) 73 rfl hw (fun hw => ?_) (fun hw => ?_)
    · refine q_iconst (v := 0) hC dX5_readBlock_77 rfl 78 rfl ?_
      exact XX.sub [0, 1] rfl (B78 _ hK4 M v1 0 hw)
    · refine q_iconst (v := 1) hC dX5_readBlock_73 rfl 74 rfl ?_
      refine q_goto hC 78 dX5_readBlock_74 (by decide) ?_
      exact XX.sub [0, 1] rfl (B78 _ hK4 M v1 1 hw)
  have B27 : ∀ (K4 : MM → Int32 → Int32 → Prop) (hK4 : ∀ (M : MM) (v1 : Int32) (v2 : Int32) , K4 M v1 v2 → XX z g Qf 4 4 [(0, .ref (gA g 52)), (1, .int v1), (2, .int v2)] [] M) (M : MM) (v1 : Int32) (p0 : Int32), wX5_readBlock_27 Q K4 M v1 p0 → XX z g Qf 4 27 [(0, .ref (gA g 52)), (1, .int v1)] [.int p0, .ref (gA g 52)] M := by
    intro K4 hK4 M v1 p0 hw
    refine q_iconst (v := 5) hC dX5_readBlock_27 rfl 28 rfl ?_
    refine r_callV hC (go_V (q := (RX5, TX5, 26)) (As := [.int p0, .int 5]) (rest := []) hC (ctX5_needs (zl z) g M p0 5 _ hF hw) 2 gX5_readBlock_X5_needs rfl ⟨rfl, rfl⟩ hdV_X5_needs ⟨Nat.le_of_ble_eq_true rfl, Nat.le_of_ble_eq_true rfl⟩ (obF52 hF) rfl rfl rfl (Nat.le_of_ble_eq_true rfl) dX5_readBlock_28) 31 rfl (fun M1 hw => ?_)
    refine q_aload_n hC dX5_readBlock_31 0 rfl 32 rfl ?_
    refine q_iconst (v := 0) hC dX5_readBlock_32 rfl 33 rfl ?_
    refine q_sipush (v := 255) hC dX5_readBlock_33 (by decide) 36 rfl ?_
    refine r_callI hC (go_V (q := (RX5, TX5, 26)) (As := [.int 0, .int 255]) (rest := []) hC (ctX5_readNumber (zl z) g M1 0 255 _ hF hw) 2 gX5_readBlock_X5_readNumber rfl ⟨rfl, rfl⟩ hdV_X5_readNumber ⟨Nat.le_of_ble_eq_true rfl, Nat.le_of_ble_eq_true rfl⟩ (obF52 hF) rfl rfl rfl (Nat.le_of_ble_eq_true rfl) dX5_readBlock_36) 39 rfl (fun r2 M3 hw => ?_)
    refine q_istore_n (L' := [(3, .int r2), (0, .ref (gA g 52)), (1, .int v1)]) hC dX5_readBlock_39 (by decide) rfl 40 rfl ?_
    refine q_aload_n hC dX5_readBlock_40 1 rfl 41 rfl ?_
    refine q_getI (C := RX5) (T := TX5) (N := 26) (ci := 5) hC inX5_readBlock_X5 (obF52 hF) rfl 14 (by decide) (uX5_readBlock__X5_needs _ (List.mem_of_getElem? (l := owX5_needs) (i := 1) rfl)) rfl (fun _ => rfl) dX5_readBlock_41 44 rfl ?_
    refine q_if_ne hC 65 dX5_readBlock_44 (by decide) 47 rfl hw (fun hw => ?_) (fun hw => ?_)
    · exact XX.sub [1, 2] rfl (B65 _ hK4 M3 v1 hw)
    · refine q_aload_n hC dX5_readBlock_47 1 rfl 48 rfl ?_
      refine q_getR (C := RX5) (T := TX5) (N := 26) (ci := 5) hC inX5_readBlock_X5 (obF52 hF) rfl 6 (by decide) (uX5_readBlock__o _ (List.mem_of_getElem? (l := owX5_readBlock) (i := 1) rfl)) rfl 58 (fun _ => rfl) dX5_readBlock_48 51 rfl ?_
      refine q_bipush (v := 12) hC dX5_readBlock_51 (by decide) 53 rfl ?_
      refine q_aload_n hC dX5_readBlock_53 1 rfl 54 rfl ?_
      refine q_getI (C := RX5) (T := TX5) (N := 26) (ci := 5) hC inX5_readBlock_X5 (obF52 hF) rfl 4 (by decide) (uX5_readBlock__o _ (List.mem_of_getElem? (l := owX5_readBlock) (i := 2) rfl)) rfl (fun _ => rfl) dX5_readBlock_54 57 rfl ?_
      refine q_imul hC dX5_readBlock_57 58 rfl ?_
      refine q_iload_n hC dX5_readBlock_58 2 rfl 59 rfl ?_
      refine q_iadd hC dX5_readBlock_59 60 rfl ?_
      refine q_iload_n hC dX5_readBlock_60 0 rfl 61 rfl ?_
      obtain ⟨hin, hw⟩ := hw
      refine q_iast hC (arF58 hF) hin dX5_readBlock_61 62 rfl (fun M4 eM4 => ?_)
      have hw := hw M4 eM4
      refine q_iinc (v := v1 + 1) (L' := [(1, .int (v1 + 1)), (3, .int r2), (0, .ref (gA g 52))]) hC dX5_readBlock_62 2 rfl rfl (by decide) rfl 65 rfl ?_
      exact XX.sub [2, 0] rfl (B65 _ hK4 M4 (v1 + 1) hw)
  have B4 : ∀ (n : Nat) (M : MM) (v1 : Int32) (v2 : Int32) , wX5_readBlock_4 Q n M v1 v2 → XX z g Qf 4 4 [(0, .ref (gA g 52)), (1, .int v1), (2, .int v2)] [] M := by
    intro n
    induction n with
    | zero =>
      intro M v1 v2 hw
      exact hw.elim
    | succ n ih =>
      intro M v1 v2 hw
      refine q_aload_n hC dX5_readBlock_4 0 rfl 5 rfl ?_
      refine q_getI (C := RX5) (T := TX5) (N := 26) (ci := 5) hC inX5_readBlock_X5 (obF52 hF) rfl 14 (by decide) (uX5_readBlock__X5_needs _ (List.mem_of_getElem? (l := owX5_needs) (i := 1) rfl)) rfl (fun _ => rfl) dX5_readBlock_5 8 rfl ?_
      refine q_if_ne hC 82 dX5_readBlock_8 (by decide) 11 rfl hw (fun hw => ?_) (fun hw => ?_)
      · exact XX.sub [0, 1] rfl (B82 M v1 hw)
      · refine q_iload_n hC dX5_readBlock_11 2 rfl 12 rfl ?_
        refine q_if_eq hC 82 dX5_readBlock_12 (by decide) 15 rfl hw (fun hw => ?_) (fun hw => ?_)
        · exact XX.sub [0, 1] rfl (B82 M v1 hw)
        · refine q_aload_n hC dX5_readBlock_15 0 rfl 16 rfl ?_
          refine q_iload_n hC dX5_readBlock_16 1 rfl 17 rfl ?_
          refine q_bipush (v := 12) hC dX5_readBlock_17 (by decide) 19 rfl ?_
          refine q_icmp_ge hC 26 dX5_readBlock_19 (by decide) 22 rfl hw (fun hw => ?_) (fun hw => ?_)
          · refine q_iconst (v := 0) hC dX5_readBlock_26 rfl 27 rfl ?_
            exact XX.sub [0, 1] rfl (B27 _ (fun M v1 v2 hw => ih M v1 v2 hw) M v1 0 hw)
          · refine q_iconst (v := 1) hC dX5_readBlock_22 rfl 23 rfl ?_
            refine q_goto hC 27 dX5_readBlock_23 (by decide) ?_
            exact XX.sub [0, 1] rfl (B27 _ (fun M v1 v2 hw => ih M v1 v2 hw) M v1 1 hw)
  refine q_iconst (v := 0) hC dX5_readBlock_0 rfl 1 rfl ?_
  refine q_istore_n (L' := [(1, .int 0), (0, .ref (gA g 52))]) hC dX5_readBlock_1 (by decide) rfl 2 rfl ?_
  refine q_iconst (v := 1) hC dX5_readBlock_2 rfl 3 rfl ?_
  refine q_istore_n (L' := [(2, .int 1), (1, .int 0), (0, .ref (gA g 52))]) hC dX5_readBlock_3 (by decide) rfl 4 rfl ?_
  obtain ⟨n0, hw⟩ := hw
  exact XX.sub [2, 1, 0] rfl (B4 n0 M 0 1 hw)
set_option maxRecDepth 100000 in
set_option maxHeartbeats 4000000 in
theorem ctX5_lowest (l : Launch) (g : GG) (M : MM) (v0 : Int32) (Q : Int32 → MM → Prop)  (hw : wX5_lowest Q M v0) : MI g l yX5_lowest wsX5_lowest (rmOf 0 0) [.int v0] M Q := by
  refine mk_MI (cc := cX5_lowest) (maxL := 1) (by decide) rfl (Nat.le_of_ble_eq_true rfl) ?_
  intro z Qf hC hR
  show XX z g Qf 1 0 [(0, .int v0)] [] M
  refine q_iload_n hC dX5_lowest_0 0 rfl 1 rfl ?_
  refine q_if_ne hC 9 dX5_lowest_1 (by decide) 4 rfl hw (fun hw => ?_) (fun hw => ?_)
  · refine q_iload_n hC dX5_lowest_9 0 rfl 10 rfl ?_
    refine q_iconst (v := 1) hC dX5_lowest_10 rfl 11 rfl ?_
    refine q_icmp_ne hC 18 dX5_lowest_11 (by decide) 14 rfl hw (fun hw => ?_) (fun hw => ?_)
    · refine q_iload_n hC dX5_lowest_18 0 rfl 19 rfl ?_
      refine q_iconst (v := 5) hC dX5_lowest_19 rfl 20 rfl ?_
      refine q_icmp_eq hC 35 dX5_lowest_20 (by decide) 23 rfl hw (fun hw => ?_) (fun hw => ?_)
      · refine q_iconst (v := 0) hC dX5_lowest_35 rfl 36 rfl ?_
        refine q_goto hC 40 dX5_lowest_36 (by decide) ?_
        exact r_iret hR dX5_lowest_40 hw
      · refine q_iload_n hC dX5_lowest_23 0 rfl 24 rfl ?_
        refine q_bipush (v := 6) hC dX5_lowest_24 (by decide) 26 rfl ?_
        refine q_icmp_eq hC 35 dX5_lowest_26 (by decide) 29 rfl hw (fun hw => ?_) (fun hw => ?_)
        · refine q_iconst (v := 0) hC dX5_lowest_35 rfl 36 rfl ?_
          refine q_goto hC 40 dX5_lowest_36 (by decide) ?_
          exact r_iret hR dX5_lowest_40 hw
        · refine q_iload_n hC dX5_lowest_29 0 rfl 30 rfl ?_
          refine q_bipush (v := 8) hC dX5_lowest_30 (by decide) 32 rfl ?_
          refine q_icmp_ne hC 39 dX5_lowest_32 (by decide) 35 rfl hw (fun hw => ?_) (fun hw => ?_)
          · refine q_iconst (v := 1) hC dX5_lowest_39 rfl 40 rfl ?_
            exact r_iret hR dX5_lowest_40 hw
          · refine q_iconst (v := 0) hC dX5_lowest_35 rfl 36 rfl ?_
            refine q_goto hC 40 dX5_lowest_36 (by decide) ?_
            exact r_iret hR dX5_lowest_40 hw
    · refine q_iconst (v := 5) hC dX5_lowest_14 rfl 15 rfl ?_
      refine q_goto hC 40 dX5_lowest_15 (by decide) ?_
      exact r_iret hR dX5_lowest_40 hw
  · refine q_bipush (v := 20) hC dX5_lowest_4 (by decide) 6 rfl ?_
    refine q_goto hC 40 dX5_lowest_6 (by decide) ?_
    exact r_iret hR dX5_lowest_40 hw
set_option maxRecDepth 100000 in
set_option maxHeartbeats 4000000 in
theorem ctX5_highest (l : Launch) (g : GG) (M : MM) (v0 : Int32) (Q : Int32 → MM → Prop)  (hw : wX5_highest Q M v0) : MI g l yX5_highest wsX5_highest (rmOf 0 0) [.int v0] M Q := by
  refine mk_MI (cc := cX5_highest) (maxL := 1) (by decide) rfl (Nat.le_of_ble_eq_true rfl) ?_
  intro z Qf hC hR
  show XX z g Qf 1 0 [(0, .int v0)] [] M
  refine q_iload_n hC dX5_highest_0 0 rfl 1 rfl ?_
  refine q_if_ne hC 10 dX5_highest_1 (by decide) 4 rfl hw (fun hw => ?_) (fun hw => ?_)
  · refine q_iload_n hC dX5_highest_10 0 rfl 11 rfl ?_
    refine q_iconst (v := 2) hC dX5_highest_11 rfl 12 rfl ?_
    refine q_icmp_eq hC 21 dX5_highest_12 (by decide) 15 rfl hw (fun hw => ?_) (fun hw => ?_)
    · refine q_bipush (v := 9) hC dX5_highest_21 (by decide) 23 rfl ?_
      refine q_goto hC 40 dX5_highest_23 (by decide) ?_
      exact r_iret hR dX5_highest_40 hw
    · refine q_iload_n hC dX5_highest_15 0 rfl 16 rfl ?_
      refine q_bipush (v := 7) hC dX5_highest_16 (by decide) 18 rfl ?_
      refine q_icmp_ne hC 26 dX5_highest_18 (by decide) 21 rfl hw (fun hw => ?_) (fun hw => ?_)
      · refine q_iload_n hC dX5_highest_26 0 rfl 27 rfl ?_
        refine q_bipush (v := 8) hC dX5_highest_27 (by decide) 29 rfl ?_
        refine q_icmp_ne hC 38 dX5_highest_29 (by decide) 32 rfl hw (fun hw => ?_) (fun hw => ?_)
        · refine q_bipush (v := 99) hC dX5_highest_38 (by decide) 40 rfl ?_
          exact r_iret hR dX5_highest_40 hw
        · refine q_sipush (v := 999) hC dX5_highest_32 (by decide) 35 rfl ?_
          refine q_goto hC 40 dX5_highest_35 (by decide) ?_
          exact r_iret hR dX5_highest_40 hw
      · refine q_bipush (v := 9) hC dX5_highest_21 (by decide) 23 rfl ?_
        refine q_goto hC 40 dX5_highest_23 (by decide) ?_
        exact r_iret hR dX5_highest_40 hw
  · refine q_sipush (v := 9999) hC dX5_highest_4 (by decide) 7 rfl ?_
    refine q_goto hC 40 dX5_highest_7 (by decide) ?_
    exact r_iret hR dX5_highest_40 hw
theorem hdV_X5_nameNow : yX5_nameNow.cls = RX5 ∧ yX5_nameNow.cls ≠ "java/lang/invoke/MethodHandle" ∧ yX5_nameNow.cls ≠ "java/lang/invoke/VarHandle" ∧ (parseMethodDescriptor yX5_nameNow.desc).map (fun d => d.parameters.length) = some 0 := by decide +kernel
theorem hdT_X5_lowest : yX5_lowest.cls ≠ "java/lang/invoke/MethodHandle" ∧ yX5_lowest.cls ≠ "java/lang/invoke/VarHandle" ∧ (parseMethodDescriptor yX5_lowest.desc).map (fun d => d.parameters.length) = some 1 := by decide +kernel
theorem hdT_X5_highest : yX5_highest.cls ≠ "java/lang/invoke/MethodHandle" ∧ yX5_highest.cls ≠ "java/lang/invoke/VarHandle" ∧ (parseMethodDescriptor yX5_highest.desc).map (fun d => d.parameters.length) = some 1 := by decide +kernel
theorem hdV_X5_readBlock : yX5_readBlock.cls = RX5 ∧ yX5_readBlock.cls ≠ "java/lang/invoke/MethodHandle" ∧ yX5_readBlock.cls ≠ "java/lang/invoke/VarHandle" ∧ (parseMethodDescriptor yX5_readBlock.desc).map (fun d => d.parameters.length) = some 0 := by decide +kernel
theorem inX5_readLine_X5 : ∀ w ∈ u_ws RX5 TX5 26, w ∈ wsX5_readLine := uX5_readLine__wsX50
set_option maxRecDepth 100000 in
set_option maxHeartbeats 4000000 in
theorem ctX5_readLine (l : Launch) (g : GG) (M : MM)  (Q : MM → Prop) (hF : ful5 g) (hw : wX5_readLine Q M ) : MV g l yX5_readLine wsX5_readLine (rmOf 4 92) [.ref (gA g 52)] M Q := by
  refine mk_MV (cc := cX5_readLine) (maxL := 2) (by decide) rfl (Nat.le_of_ble_eq_true rfl) ?_
  intro z Qf hC hR
  show XX z g Qf 2 0 [(0, .ref (gA g 52))] [] M
  have B202 : ∀ (M : MM), wX5_readLine_202 Q M → XX z g Qf 2 202 [(0, .ref (gA g 52))] [] M := by
    intro M hw
    refine q_aload_n hC dX5_readLine_202 0 rfl 203 rfl ?_
    refine r_callV hC (go_V (q := (RX5, TX5, 26)) (As := []) (rest := []) hC (ctX5_next (zl z) g M _ hF hw) 0 gX5_readLine_X5_next rfl ⟨rfl, rfl⟩ hdV_X5_next ⟨Nat.le_of_ble_eq_true rfl, Nat.le_of_ble_eq_true rfl⟩ (obF52 hF) rfl rfl rfl (Nat.le_of_ble_eq_true rfl) dX5_readLine_203) 206 rfl (fun M19 hw => ?_)
    exact r_vret hR dX5_readLine_206 hw
  have B198 : ∀ (M : MM) (p0 : Int32), wX5_readLine_198 Q M p0 → XX z g Qf 2 198 [(0, .ref (gA g 52))] [.int p0, .ref (gA g 52)] M := by
    intro M p0 hw
    refine q_iconst (v := 2) hC dX5_readLine_198 rfl 199 rfl ?_
    refine r_callV hC (go_V (q := (RX5, TX5, 26)) (As := [.int p0, .int 2]) (rest := []) hC (ctX5_needs (zl z) g M p0 2 _ hF hw) 2 gX5_readLine_X5_needs rfl ⟨rfl, rfl⟩ hdV_X5_needs ⟨Nat.le_of_ble_eq_true rfl, Nat.le_of_ble_eq_true rfl⟩ (obF52 hF) rfl rfl rfl (Nat.le_of_ble_eq_true rfl) dX5_readLine_199) 202 rfl (fun M18 hw => ?_)
    exact XX.sub [0] rfl (B202 M18 hw)
  have B177 : ∀ (M : MM), wX5_readLine_177 Q M → XX z g Qf 2 177 [(0, .ref (gA g 52))] [] M := by
    intro M hw
    refine q_aload_n hC dX5_readLine_177 0 rfl 178 rfl ?_
    refine q_getI (C := RX5) (T := TX5) (N := 26) (ci := 5) hC inX5_readLine_X5 (obF52 hF) rfl 14 (by decide) (uX5_readLine__X5_needs _ (List.mem_of_getElem? (l := owX5_needs) (i := 1) rfl)) rfl (fun _ => rfl) dX5_readLine_178 181 rfl ?_
    refine q_if_ne hC 202 dX5_readLine_181 (by decide) 184 rfl hw (fun hw => ?_) (fun hw => ?_)
    · exact XX.sub [0] rfl (B202 M hw)
    · refine q_aload_n hC dX5_readLine_184 0 rfl 185 rfl ?_
      refine q_aload_n hC dX5_readLine_185 0 rfl 186 rfl ?_
      refine q_getI (C := RX5) (T := TX5) (N := 26) (ci := 5) hC inX5_readLine_X5 (obF52 hF) rfl 12 (by decide) (uX5_readLine__X5_next _ (List.mem_of_getElem? (l := owX5_next) (i := 2) rfl)) rfl (fun _ => rfl) dX5_readLine_186 189 rfl ?_
      refine q_iconst (v := 3) hC dX5_readLine_189 rfl 190 rfl ?_
      refine q_icmp_ne hC 197 dX5_readLine_190 (by decide) 193 rfl hw (fun hw => ?_) (fun hw => ?_)
      · refine q_iconst (v := 0) hC dX5_readLine_197 rfl 198 rfl ?_
        exact XX.sub [0] rfl (B198 M 0 hw)
      · refine q_iconst (v := 1) hC dX5_readLine_193 rfl 194 rfl ?_
        refine q_goto hC 198 dX5_readLine_194 (by decide) ?_
        exact XX.sub [0] rfl (B198 M 1 hw)
  have B105 : ∀ (M : MM) (v1 : Int32), wX5_readLine_105 Q M v1 → XX z g Qf 2 105 [(0, .ref (gA g 52)), (1, .int v1)] [] M := by
    intro M v1 hw
    refine q_aload_n hC dX5_readLine_105 0 rfl 106 rfl ?_
    refine r_callV hC (go_V (q := (RX5, TX5, 26)) (As := []) (rest := []) hC (ctX5_next (zl z) g M _ hF hw) 0 gX5_readLine_X5_next rfl ⟨rfl, rfl⟩ hdV_X5_next ⟨Nat.le_of_ble_eq_true rfl, Nat.le_of_ble_eq_true rfl⟩ (obF52 hF) rfl rfl rfl (Nat.le_of_ble_eq_true rfl) dX5_readLine_106) 109 rfl (fun M7 hw => ?_)
    refine q_aload_n hC dX5_readLine_109 0 rfl 110 rfl ?_
    refine q_getI (C := RX5) (T := TX5) (N := 26) (ci := 5) hC inX5_readLine_X5 (obF52 hF) rfl 14 (by decide) (uX5_readLine__X5_needs _ (List.mem_of_getElem? (l := owX5_needs) (i := 1) rfl)) rfl (fun _ => rfl) dX5_readLine_110 113 rfl ?_
    refine q_if_le hC 117 dX5_readLine_113 (by decide) 116 rfl hw (fun hw => ?_) (fun hw => ?_)
    · refine q_iload_n hC dX5_readLine_117 1 rfl 118 rfl ?_
      refine q_bipush (v := 10) hC dX5_readLine_118 (by decide) 120 rfl ?_
      refine q_icmp_ne hC 130 dX5_readLine_120 (by decide) 123 rfl hw (fun hw => ?_) (fun hw => ?_)
      · refine q_iload_n hC dX5_readLine_130 1 rfl 131 rfl ?_
        refine q_bipush (v := 11) hC dX5_readLine_131 (by decide) 133 rfl ?_
        refine q_icmp_ne hC 159 dX5_readLine_133 (by decide) 136 rfl hw (fun hw => ?_) (fun hw => ?_)
        · refine q_aload_n hC dX5_readLine_159 0 rfl 160 rfl ?_
          refine q_getR (C := RX5) (T := TX5) (N := 26) (ci := 5) hC inX5_readLine_X5 (obF52 hF) rfl 3 (by decide) (uX5_readLine__o _ (List.mem_of_getElem? (l := owX5_readLine) (i := 2) rfl)) rfl 56 (fun _ => rfl) dX5_readLine_160 163 rfl ?_
          refine q_iload_n hC dX5_readLine_163 1 rfl 164 rfl ?_
          refine q_aload_n hC dX5_readLine_164 0 rfl 165 rfl ?_
          refine q_iload_n hC dX5_readLine_165 1 rfl 166 rfl ?_
          refine r_callI hC (go_T (As := [.int v1]) (rest := [.ref (gA g 52), .int v1, .ref (gA g 56)]) hC (ctX5_lowest (zl z) g M7 v1 _ hw) 1 gX5_readLine_X5_lowest rfl ⟨rfl, rfl⟩ hdT_X5_lowest ⟨Nat.le_of_ble_eq_true rfl, Nat.le_of_ble_eq_true rfl⟩ rfl rfl (Nat.le_of_ble_eq_true rfl) dX5_readLine_166) 169 rfl (fun r8 M9 hw => ?_)
          refine q_iload_n hC dX5_readLine_169 1 rfl 170 rfl ?_
          refine r_callI hC (go_T (As := [.int v1]) (rest := [.int r8, .ref (gA g 52), .int v1, .ref (gA g 56)]) hC (ctX5_highest (zl z) g M9 v1 _ hw) 1 gX5_readLine_X5_highest rfl ⟨rfl, rfl⟩ hdT_X5_highest ⟨Nat.le_of_ble_eq_true rfl, Nat.le_of_ble_eq_true rfl⟩ rfl rfl (Nat.le_of_ble_eq_true rfl) dX5_readLine_170) 173 rfl (fun r10 M11 hw => ?_)
          refine r_callI hC (go_V (q := (RX5, TX5, 26)) (As := [.int r8, .int r10]) (rest := [.int v1, .ref (gA g 56)]) hC (ctX5_readNumber (zl z) g M11 r8 r10 _ hF hw) 2 gX5_readLine_X5_readNumber rfl ⟨rfl, rfl⟩ hdV_X5_readNumber ⟨Nat.le_of_ble_eq_true rfl, Nat.le_of_ble_eq_true rfl⟩ (obF52 hF) rfl rfl rfl (Nat.le_of_ble_eq_true rfl) dX5_readLine_173) 176 rfl (fun r12 M13 hw => ?_)
          obtain ⟨hin, hw⟩ := hw
          refine q_iast hC (arF56 hF) hin dX5_readLine_176 177 rfl (fun M14 eM14 => ?_)
          have hw := hw M14 eM14
          exact XX.sub [0] rfl (B177 M14 hw)
        · refine q_aload_n hC dX5_readLine_136 0 rfl 137 rfl ?_
          refine q_getR (C := RX5) (T := TX5) (N := 26) (ci := 5) hC inX5_readLine_X5 (obF52 hF) rfl 5 (by decide) (uX5_readLine__X5_readBlock _ (List.mem_of_getElem? (l := owX5_readBlock) (i := 3) rfl)) rfl 57 (fun _ => rfl) dX5_readLine_137 140 rfl ?_
          refine q_aload_n hC dX5_readLine_140 0 rfl 141 rfl ?_
          refine q_getI (C := RX5) (T := TX5) (N := 26) (ci := 5) hC inX5_readLine_X5 (obF52 hF) rfl 4 (by decide) (uX5_readLine__X5_readBlock _ (List.mem_of_getElem? (l := owX5_readBlock) (i := 2) rfl)) rfl (fun _ => rfl) dX5_readLine_141 144 rfl ?_
          refine q_iconst (v := 0) hC dX5_readLine_144 rfl 145 rfl ?_
          obtain ⟨hin, hw⟩ := hw
          refine q_iast hC (arF57 hF) hin dX5_readLine_145 146 rfl (fun M15 eM15 => ?_)
          have hw := hw M15 eM15
          refine q_aload_n hC dX5_readLine_146 0 rfl 147 rfl ?_
          refine q_dup hC dX5_readLine_147 rfl 148 rfl ?_
          refine q_getI (C := RX5) (T := TX5) (N := 26) (ci := 5) hC inX5_readLine_X5 (obF52 hF) rfl 4 (by decide) (uX5_readLine__X5_readBlock _ (List.mem_of_getElem? (l := owX5_readBlock) (i := 2) rfl)) rfl (fun _ => rfl) dX5_readLine_148 151 rfl ?_
          refine q_iconst (v := 1) hC dX5_readLine_151 rfl 152 rfl ?_
          refine q_iadd hC dX5_readLine_152 153 rfl ?_
          refine q_putI (C := RX5) (T := TX5) (N := 26) (ci := 5) hC inX5_readLine_X5 tyX5 tyX5_ok nmX5 (obF52 hF) rfl 4 (by decide) (uX5_readLine__X5_readBlock _ (List.mem_of_getElem? (l := owX5_readBlock) (i := 2) rfl)) rfl rfl rfl (fun _ => Nat.le_of_ble_eq_true rfl) (fun _ => rfl) dX5_readLine_153 156 rfl (fun M16 eM16 => ?_)
          have hw := hw M16 eM16
          refine q_goto hC 177 dX5_readLine_156 (by decide) ?_
          exact XX.sub [0] rfl (B177 M16 hw)
      · refine q_aload_n hC dX5_readLine_123 0 rfl 124 rfl ?_
        refine r_callV hC (go_V (q := (RX5, TX5, 26)) (As := []) (rest := []) hC (ctX5_readBlock (zl z) g M7 _ hF hw) 0 gX5_readLine_X5_readBlock rfl ⟨rfl, rfl⟩ hdV_X5_readBlock ⟨Nat.le_of_ble_eq_true rfl, Nat.le_of_ble_eq_true rfl⟩ (obF52 hF) rfl rfl rfl (Nat.le_of_ble_eq_true rfl) dX5_readLine_124) 127 rfl (fun M17 hw => ?_)
        refine q_goto hC 177 dX5_readLine_127 (by decide) ?_
        exact XX.sub [0] rfl (B177 M17 hw)
    · exact r_vret hR dX5_readLine_116 hw
  have B89 : ∀ (M : MM) (v1 : Int32) (p0 : Int32), wX5_readLine_89 Q M v1 p0 → XX z g Qf 2 89 [(0, .ref (gA g 52)), (1, .int v1)] [.int p0, .ref (gA g 52)] M := by
    intro M v1 p0 hw
    refine q_iconst (v := 4) hC dX5_readLine_89 rfl 90 rfl ?_
    refine r_callV hC (go_V (q := (RX5, TX5, 26)) (As := [.int p0, .int 4]) (rest := []) hC (ctX5_needs (zl z) g M p0 4 _ hF hw) 2 gX5_readLine_X5_needs rfl ⟨rfl, rfl⟩ hdV_X5_needs ⟨Nat.le_of_ble_eq_true rfl, Nat.le_of_ble_eq_true rfl⟩ (obF52 hF) rfl rfl rfl (Nat.le_of_ble_eq_true rfl) dX5_readLine_90) 93 rfl (fun M5 hw => ?_)
    refine q_aload_n hC dX5_readLine_93 0 rfl 94 rfl ?_
    refine q_dup hC dX5_readLine_94 rfl 95 rfl ?_
    refine q_getI (C := RX5) (T := TX5) (N := 26) (ci := 5) hC inX5_readLine_X5 (obF52 hF) rfl 7 (by decide) (uX5_readLine__o _ (List.mem_of_getElem? (l := owX5_readLine) (i := 1) rfl)) rfl (fun _ => rfl) dX5_readLine_95 98 rfl ?_
    refine q_iconst (v := 1) hC dX5_readLine_98 rfl 99 rfl ?_
    refine q_iload_n hC dX5_readLine_99 1 rfl 100 rfl ?_
    refine q_ishl hC dX5_readLine_100 101 rfl ?_
    refine q_ior hC dX5_readLine_101 102 rfl ?_
    refine q_putI (C := RX5) (T := TX5) (N := 26) (ci := 5) hC inX5_readLine_X5 tyX5 tyX5_ok nmX5 (obF52 hF) rfl 7 (by decide) (uX5_readLine__o _ (List.mem_of_getElem? (l := owX5_readLine) (i := 1) rfl)) rfl rfl rfl (fun _ => Nat.le_of_ble_eq_true rfl) (fun _ => rfl) dX5_readLine_102 105 rfl (fun M6 eM6 => ?_)
    have hw := hw M6 eM6
    exact XX.sub [0, 1] rfl (B105 M6 v1 hw)
  have B55 : ∀ (M : MM) (v1 : Int32) (p0 : Int32), wX5_readLine_55 Q M v1 p0 → XX z g Qf 2 55 [(0, .ref (gA g 52)), (1, .int v1)] [.int p0, .ref (gA g 52)] M := by
    intro M v1 p0 hw
    refine q_iconst (v := 5) hC dX5_readLine_55 rfl 56 rfl ?_
    refine r_callV hC (go_V (q := (RX5, TX5, 26)) (As := [.int p0, .int 5]) (rest := []) hC (ctX5_needs (zl z) g M p0 5 _ hF hw) 2 gX5_readLine_X5_needs rfl ⟨rfl, rfl⟩ hdV_X5_needs ⟨Nat.le_of_ble_eq_true rfl, Nat.le_of_ble_eq_true rfl⟩ (obF52 hF) rfl rfl rfl (Nat.le_of_ble_eq_true rfl) dX5_readLine_56) 59 rfl (fun M4 hw => ?_)
    refine q_aload_n hC dX5_readLine_59 0 rfl 60 rfl ?_
    refine q_getI (C := RX5) (T := TX5) (N := 26) (ci := 5) hC inX5_readLine_X5 (obF52 hF) rfl 14 (by decide) (uX5_readLine__X5_needs _ (List.mem_of_getElem? (l := owX5_needs) (i := 1) rfl)) rfl (fun _ => rfl) dX5_readLine_60 63 rfl ?_
    refine q_if_ne hC 105 dX5_readLine_63 (by decide) 66 rfl hw (fun hw => ?_) (fun hw => ?_)
    · exact XX.sub [0, 1] rfl (B105 M4 v1 hw)
    · refine q_iload_n hC dX5_readLine_66 1 rfl 67 rfl ?_
      refine q_bipush (v := 10) hC dX5_readLine_67 (by decide) 69 rfl ?_
      refine q_icmp_ge hC 105 dX5_readLine_69 (by decide) 72 rfl hw (fun hw => ?_) (fun hw => ?_)
      · exact XX.sub [0, 1] rfl (B105 M4 v1 hw)
      · refine q_aload_n hC dX5_readLine_72 0 rfl 73 rfl ?_
        refine q_aload_n hC dX5_readLine_73 0 rfl 74 rfl ?_
        refine q_getI (C := RX5) (T := TX5) (N := 26) (ci := 5) hC inX5_readLine_X5 (obF52 hF) rfl 7 (by decide) (uX5_readLine__o _ (List.mem_of_getElem? (l := owX5_readLine) (i := 1) rfl)) rfl (fun _ => rfl) dX5_readLine_74 77 rfl ?_
        refine q_iload_n hC dX5_readLine_77 1 rfl 78 rfl ?_
        refine q_ishr hC dX5_readLine_78 79 rfl ?_
        refine q_iconst (v := 1) hC dX5_readLine_79 rfl 80 rfl ?_
        refine q_iand hC dX5_readLine_80 81 rfl ?_
        refine q_if_ne hC 88 dX5_readLine_81 (by decide) 84 rfl hw (fun hw => ?_) (fun hw => ?_)
        · refine q_iconst (v := 0) hC dX5_readLine_88 rfl 89 rfl ?_
          exact XX.sub [0, 1] rfl (B89 M4 v1 0 hw)
        · refine q_iconst (v := 1) hC dX5_readLine_84 rfl 85 rfl ?_
          refine q_goto hC 89 dX5_readLine_85 (by decide) ?_
          exact XX.sub [0, 1] rfl (B89 M4 v1 1 hw)
  have B50 : ∀ (M : MM) (v1 : Int32), wX5_readLine_50 Q M v1 → XX z g Qf 2 50 [(0, .ref (gA g 52)), (1, .int v1)] [.ref (gA g 52)] M := by
    intro M v1 hw
    refine q_iconst (v := 1) hC dX5_readLine_50 rfl 51 rfl ?_
    refine q_goto hC 55 dX5_readLine_51 (by decide) ?_
    exact XX.sub [0, 1] rfl (B55 M v1 1 hw)
  have B30 : ∀ (M : MM) (v1 : Int32) (p0 : Int32), wX5_readLine_30 Q M v1 p0 → XX z g Qf 2 30 [(0, .ref (gA g 52)), (1, .int v1)] [.int p0, .ref (gA g 52)] M := by
    intro M v1 p0 hw
    refine q_iconst (v := 2) hC dX5_readLine_30 rfl 31 rfl ?_
    refine r_callV hC (go_V (q := (RX5, TX5, 26)) (As := [.int p0, .int 2]) (rest := []) hC (ctX5_needs (zl z) g M p0 2 _ hF hw) 2 gX5_readLine_X5_needs rfl ⟨rfl, rfl⟩ hdV_X5_needs ⟨Nat.le_of_ble_eq_true rfl, Nat.le_of_ble_eq_true rfl⟩ (obF52 hF) rfl rfl rfl (Nat.le_of_ble_eq_true rfl) dX5_readLine_31) 34 rfl (fun M3 hw => ?_)
    refine q_aload_n hC dX5_readLine_34 0 rfl 35 rfl ?_
    refine q_iload_n hC dX5_readLine_35 1 rfl 36 rfl ?_
    refine q_bipush (v := 10) hC dX5_readLine_36 (by decide) 38 rfl ?_
    refine q_icmp_lt hC 50 dX5_readLine_38 (by decide) 41 rfl hw (fun hw => ?_) (fun hw => ?_)
    · exact XX.sub [0, 1] rfl (B50 M3 v1 hw)
    · refine q_aload_n hC dX5_readLine_41 0 rfl 42 rfl ?_
      refine q_getI (C := RX5) (T := TX5) (N := 26) (ci := 5) hC inX5_readLine_X5 (obF52 hF) rfl 4 (by decide) (uX5_readLine__X5_readBlock _ (List.mem_of_getElem? (l := owX5_readBlock) (i := 2) rfl)) rfl (fun _ => rfl) dX5_readLine_42 45 rfl ?_
      refine q_bipush (v := 12) hC dX5_readLine_45 (by decide) 47 rfl ?_
      refine q_icmp_ge hC 54 dX5_readLine_47 (by decide) 50 rfl hw (fun hw => ?_) (fun hw => ?_)
      · refine q_iconst (v := 0) hC dX5_readLine_54 rfl 55 rfl ?_
        exact XX.sub [0, 1] rfl (B55 M3 v1 0 hw)
      · exact XX.sub [0, 1] rfl (B50 M3 v1 hw)
  have B17 : ∀ (M : MM) (p0 : Int32), wX5_readLine_17 Q M p0 → XX z g Qf 2 17 [(0, .ref (gA g 52))] [.int p0] M := by
    intro M p0 hw
    refine q_istore_n (L' := [(1, .int p0), (0, .ref (gA g 52))]) hC dX5_readLine_17 (by decide) rfl 18 rfl ?_
    refine q_aload_n hC dX5_readLine_18 1 rfl 19 rfl ?_
    refine q_iload_n hC dX5_readLine_19 0 rfl 20 rfl ?_
    refine q_bipush (v := (-4)) hC dX5_readLine_20 (by decide) 22 rfl ?_
    refine q_icmp_eq hC 29 dX5_readLine_22 (by decide) 25 rfl hw (fun hw => ?_) (fun hw => ?_)
    · refine q_iconst (v := 0) hC dX5_readLine_29 rfl 30 rfl ?_
      exact XX.sub [1, 0] rfl (B30 M p0 0 hw)
    · refine q_iconst (v := 1) hC dX5_readLine_25 rfl 26 rfl ?_
      refine q_goto hC 30 dX5_readLine_26 (by decide) ?_
      exact XX.sub [1, 0] rfl (B30 M p0 1 hw)
  refine q_aload_n hC dX5_readLine_0 0 rfl 1 rfl ?_
  refine q_getI (C := RX5) (T := TX5) (N := 26) (ci := 5) hC inX5_readLine_X5 (obF52 hF) rfl 12 (by decide) (uX5_readLine__X5_next _ (List.mem_of_getElem? (l := owX5_next) (i := 2) rfl)) rfl (fun _ => rfl) dX5_readLine_1 4 rfl ?_
  refine q_iconst (v := 1) hC dX5_readLine_4 rfl 5 rfl ?_
  refine q_icmp_ne hC 15 dX5_readLine_5 (by decide) 8 rfl hw (fun hw => ?_) (fun hw => ?_)
  · refine q_bipush (v := (-4)) hC dX5_readLine_15 (by decide) 17 rfl ?_
    exact XX.sub [0] rfl (B17 M (-4) hw)
  · refine q_aload_n hC dX5_readLine_8 0 rfl 9 rfl ?_
    refine r_callI hC (go_V (q := (RX5, TX5, 26)) (As := []) (rest := []) hC (ctX5_nameNow (zl z) g M _ hF hw) 0 gX5_readLine_X5_nameNow rfl ⟨rfl, rfl⟩ hdV_X5_nameNow ⟨Nat.le_of_ble_eq_true rfl, Nat.le_of_ble_eq_true rfl⟩ (obF52 hF) rfl rfl rfl (Nat.le_of_ble_eq_true rfl) dX5_readLine_9) 12 rfl (fun r1 M2 hw => ?_)
    refine q_goto hC 17 dX5_readLine_12 (by decide) ?_
    exact XX.sub [0] rfl (B17 M2 r1 hw)
theorem hdV_X5_firstDraft : yX5_firstDraft.cls = RX5 ∧ yX5_firstDraft.cls ≠ "java/lang/invoke/MethodHandle" ∧ yX5_firstDraft.cls ≠ "java/lang/invoke/VarHandle" ∧ (parseMethodDescriptor yX5_firstDraft.desc).map (fun d => d.parameters.length) = some 0 := by decide +kernel
theorem hdV_X5_readLine : yX5_readLine.cls = RX5 ∧ yX5_readLine.cls ≠ "java/lang/invoke/MethodHandle" ∧ yX5_readLine.cls ≠ "java/lang/invoke/VarHandle" ∧ (parseMethodDescriptor yX5_readLine.desc).map (fun d => d.parameters.length) = some 0 := by decide +kernel
theorem hdV_X5_draftEnd : yX5_draftEnd.cls = RX5 ∧ yX5_draftEnd.cls ≠ "java/lang/invoke/MethodHandle" ∧ yX5_draftEnd.cls ≠ "java/lang/invoke/VarHandle" ∧ (parseMethodDescriptor yX5_draftEnd.desc).map (fun d => d.parameters.length) = some 0 := by decide +kernel
theorem hdV_X5_keepDraft : yX5_keepDraft.cls = RX5 ∧ yX5_keepDraft.cls ≠ "java/lang/invoke/MethodHandle" ∧ yX5_keepDraft.cls ≠ "java/lang/invoke/VarHandle" ∧ (parseMethodDescriptor yX5_keepDraft.desc).map (fun d => d.parameters.length) = some 0 := by decide +kernel
theorem inX5_text_X5 : ∀ w ∈ u_ws RX5 TX5 26, w ∈ wsX5_text := uX5_text__wsX50
set_option maxRecDepth 100000 in
set_option maxHeartbeats 4000000 in
theorem ctX5_text (l : Launch) (g : GG) (M : MM)  (Q : Int32 → MM → Prop) (hF : ful5 g) (hw : wX5_text Q M ) : MI g l yX5_text wsX5_text (rmOf 5 113) [.ref (gA g 52)] M Q := by
  refine mk_MI (cc := cX5_text) (maxL := 2) (by decide) rfl (Nat.le_of_ble_eq_true rfl) ?_
  intro z Qf hC hR
  show XX z g Qf 2 0 [(0, .ref (gA g 52))] [] M
  have B75 : ∀ (M : MM) (v1 : Int32), wX5_text_75 Q M v1 → XX z g Qf 2 75 [(0, .ref (gA g 52)), (1, .int v1)] [] M := by
    intro M v1 hw
    refine q_aload_n hC dX5_text_75 0 rfl 76 rfl ?_
    refine q_iconst (v := 0) hC dX5_text_76 rfl 77 rfl ?_
    refine q_putI (C := RX5) (T := TX5) (N := 26) (ci := 5) hC inX5_text_X5 tyX5 tyX5_ok nmX5 (obF52 hF) rfl 9 (by decide) (uX5_text__X5_look _ (List.mem_of_getElem? (l := owX5_look) (i := 1) rfl)) rfl rfl rfl (fun _ => Nat.le_of_ble_eq_true rfl) (fun _ => rfl) dX5_text_77 80 rfl (fun M9 eM9 => ?_)
    have hw := hw M9 eM9
    refine q_aload_n hC dX5_text_80 0 rfl 81 rfl ?_
    refine q_getI (C := RX5) (T := TX5) (N := 26) (ci := 5) hC inX5_text_X5 (obF52 hF) rfl 14 (by decide) (uX5_text__X5_needs _ (List.mem_of_getElem? (l := owX5_needs) (i := 1) rfl)) rfl (fun _ => rfl) dX5_text_81 84 rfl ?_
    refine q_if_le hC 95 dX5_text_84 (by decide) 87 rfl hw (fun hw => ?_) (fun hw => ?_)
    · refine q_aload_n hC dX5_text_95 0 rfl 96 rfl ?_
      refine r_callV hC (go_V (q := (RX5, TX5, 26)) (As := []) (rest := []) hC (ctX5_keepDraft (zl z) g M9 _ hF hw) 0 gX5_text_X5_keepDraft rfl ⟨rfl, rfl⟩ hdV_X5_keepDraft ⟨Nat.le_of_ble_eq_true rfl, Nat.le_of_ble_eq_true rfl⟩ (obF52 hF) rfl rfl rfl (Nat.le_of_ble_eq_true rfl) dX5_text_96) 99 rfl (fun M10 hw => ?_)
      refine q_iload_n hC dX5_text_99 1 rfl 100 rfl ?_
      exact r_iret hR dX5_text_100 hw
    · refine q_bipush (v := (-10)) hC dX5_text_87 (by decide) 89 rfl ?_
      refine q_aload_n hC dX5_text_89 0 rfl 90 rfl ?_
      refine q_getI (C := RX5) (T := TX5) (N := 26) (ci := 5) hC inX5_text_X5 (obF52 hF) rfl 15 (by decide) (uX5_text__X5_needs _ (List.mem_of_getElem? (l := owX5_needs) (i := 3) rfl)) rfl (fun _ => rfl) dX5_text_90 93 rfl ?_
      refine q_isub hC dX5_text_93 94 rfl ?_
      exact r_iret hR dX5_text_94 hw
  have B70 : ∀ (M : MM) (v1 : Int32) (p0 : Int32), wX5_text_70 Q M v1 p0 → XX z g Qf 2 70 [(0, .ref (gA g 52)), (1, .int v1)] [.int p0, .ref (gA g 52)] M := by
    intro M v1 p0 hw
    refine q_bipush (v := 6) hC dX5_text_70 (by decide) 72 rfl ?_
    refine r_callV hC (go_V (q := (RX5, TX5, 26)) (As := [.int p0, .int 6]) (rest := []) hC (ctX5_needs (zl z) g M p0 6 _ hF hw) 2 gX5_text_X5_needs rfl ⟨rfl, rfl⟩ hdV_X5_needs ⟨Nat.le_of_ble_eq_true rfl, Nat.le_of_ble_eq_true rfl⟩ (obF52 hF) rfl rfl rfl (Nat.le_of_ble_eq_true rfl) dX5_text_72) 75 rfl (fun M8 hw => ?_)
    exact XX.sub [0, 1] rfl (B75 M8 v1 hw)
  have B44 : ∀ (M : MM) (v1 : Int32), wX5_text_44 Q M v1 → XX z g Qf 2 44 [(0, .ref (gA g 52)), (1, .int v1)] [] M := by
    intro M v1 hw
    refine q_aload_n hC dX5_text_44 0 rfl 45 rfl ?_
    refine q_getI (C := RX5) (T := TX5) (N := 26) (ci := 5) hC inX5_text_X5 (obF52 hF) rfl 14 (by decide) (uX5_text__X5_needs _ (List.mem_of_getElem? (l := owX5_needs) (i := 1) rfl)) rfl (fun _ => rfl) dX5_text_45 48 rfl ?_
    refine q_if_ne hC 75 dX5_text_48 (by decide) 51 rfl hw (fun hw => ?_) (fun hw => ?_)
    · exact XX.sub [0, 1] rfl (B75 M v1 hw)
    · refine q_aload_n hC dX5_text_51 0 rfl 52 rfl ?_
      refine q_aload_n hC dX5_text_52 0 rfl 53 rfl ?_
      refine r_callI hC (go_V (q := (RX5, TX5, 26)) (As := []) (rest := [.ref (gA g 52)]) hC (ctX5_draftEnd (zl z) g M _ hF hw) 0 gX5_text_X5_draftEnd rfl ⟨rfl, rfl⟩ hdV_X5_draftEnd ⟨Nat.le_of_ble_eq_true rfl, Nat.le_of_ble_eq_true rfl⟩ (obF52 hF) rfl rfl rfl (Nat.le_of_ble_eq_true rfl) dX5_text_53) 56 rfl (fun r6 M7 hw => ?_)
      refine q_aload_n hC dX5_text_56 0 rfl 57 rfl ?_
      refine q_getR (C := RX5) (T := TX5) (N := 26) (ci := 5) hC inX5_text_X5 (obF52 hF) rfl 3 (by decide) (uX5_text__X5_firstDraft _ (List.mem_of_getElem? (l := owX5_firstDraft) (i := 1) rfl)) rfl 56 (fun _ => rfl) dX5_text_57 60 rfl ?_
      refine q_iconst (v := 0) hC dX5_text_60 rfl 61 rfl ?_
      refine q_ialdL hC (arF56 hF) 0 (by decide +kernel) (by decide +kernel) dX5_text_61 62 rfl ?_
      refine q_icmp_gt hC 69 dX5_text_62 (by decide) 65 rfl hw (fun hw => ?_) (fun hw => ?_)
      · refine q_iconst (v := 0) hC dX5_text_69 rfl 70 rfl ?_
        exact XX.sub [0, 1] rfl (B70 M7 v1 0 hw)
      · refine q_iconst (v := 1) hC dX5_text_65 rfl 66 rfl ?_
        refine q_goto hC 70 dX5_text_66 (by decide) ?_
        exact XX.sub [0, 1] rfl (B70 M7 v1 1 hw)
  have B20 : ∀ (n : Nat) (M : MM) (v1 : Int32) , wX5_text_20 Q n M v1 → XX z g Qf 2 20 [(0, .ref (gA g 52)), (1, .int v1)] [] M := by
    intro n
    induction n with
    | zero =>
      intro M v1 hw
      exact hw.elim
    | succ n ih =>
      intro M v1 hw
      refine q_aload_n hC dX5_text_20 0 rfl 21 rfl ?_
      refine q_getI (C := RX5) (T := TX5) (N := 26) (ci := 5) hC inX5_text_X5 (obF52 hF) rfl 14 (by decide) (uX5_text__X5_needs _ (List.mem_of_getElem? (l := owX5_needs) (i := 1) rfl)) rfl (fun _ => rfl) dX5_text_21 24 rfl ?_
      refine q_if_ne hC 44 dX5_text_24 (by decide) 27 rfl hw (fun hw => ?_) (fun hw => ?_)
      · exact XX.sub [0, 1] rfl (B44 M v1 hw)
      · refine q_aload_n hC dX5_text_27 0 rfl 28 rfl ?_
        refine q_getI (C := RX5) (T := TX5) (N := 26) (ci := 5) hC inX5_text_X5 (obF52 hF) rfl 12 (by decide) (uX5_text__X5_next _ (List.mem_of_getElem? (l := owX5_next) (i := 2) rfl)) rfl (fun _ => rfl) dX5_text_28 31 rfl ?_
        refine q_if_eq hC 44 dX5_text_31 (by decide) 34 rfl hw (fun hw => ?_) (fun hw => ?_)
        · exact XX.sub [0, 1] rfl (B44 M v1 hw)
        · refine q_aload_n hC dX5_text_34 0 rfl 35 rfl ?_
          refine r_callV hC (go_V (q := (RX5, TX5, 26)) (As := []) (rest := []) hC (ctX5_readLine (zl z) g M _ hF hw) 0 gX5_text_X5_readLine rfl ⟨rfl, rfl⟩ hdV_X5_readLine ⟨Nat.le_of_ble_eq_true rfl, Nat.le_of_ble_eq_true rfl⟩ (obF52 hF) rfl rfl rfl (Nat.le_of_ble_eq_true rfl) dX5_text_35) 38 rfl (fun M5 hw => ?_)
          refine q_iinc (v := v1 + 1) (L' := [(1, .int (v1 + 1)), (0, .ref (gA g 52))]) hC dX5_text_38 1 rfl rfl (by decide) rfl 41 rfl ?_
          refine q_goto hC 20 dX5_text_41 (by decide) ?_
          exact XX.sub [1, 0] rfl (ih M5 (v1 + 1) hw)
  refine q_iconst (v := 0) hC dX5_text_0 rfl 1 rfl ?_
  refine q_istore_n (L' := [(1, .int 0), (0, .ref (gA g 52))]) hC dX5_text_1 (by decide) rfl 2 rfl ?_
  refine q_aload_n hC dX5_text_2 1 rfl 3 rfl ?_
  refine q_iconst (v := 0) hC dX5_text_3 rfl 4 rfl ?_
  refine q_putI (C := RX5) (T := TX5) (N := 26) (ci := 5) hC inX5_text_X5 tyX5 tyX5_ok nmX5 (obF52 hF) rfl 14 (by decide) (uX5_text__X5_needs _ (List.mem_of_getElem? (l := owX5_needs) (i := 1) rfl)) rfl rfl rfl (fun _ => Nat.le_of_ble_eq_true rfl) (fun _ => rfl) dX5_text_4 7 rfl (fun M1 eM1 => ?_)
  have hw := hw M1 eM1
  refine q_aload_n hC dX5_text_7 1 rfl 8 rfl ?_
  refine q_iconst (v := 0) hC dX5_text_8 rfl 9 rfl ?_
  refine q_putI (C := RX5) (T := TX5) (N := 26) (ci := 5) hC inX5_text_X5 tyX5 tyX5_ok nmX5 (obF52 hF) rfl 10 (by decide) (uX5_text__X5_next _ (List.mem_of_getElem? (l := owX5_next) (i := 1) rfl)) rfl rfl rfl (fun _ => Nat.le_of_ble_eq_true rfl) (fun _ => rfl) dX5_text_9 12 rfl (fun M2 eM2 => ?_)
  have hw := hw M2 eM2
  refine q_aload_n hC dX5_text_12 1 rfl 13 rfl ?_
  refine r_callV hC (go_V (q := (RX5, TX5, 26)) (As := []) (rest := []) hC (ctX5_firstDraft (zl z) g M2 _ hF hw) 0 gX5_text_X5_firstDraft rfl ⟨rfl, rfl⟩ hdV_X5_firstDraft ⟨Nat.le_of_ble_eq_true rfl, Nat.le_of_ble_eq_true rfl⟩ (obF52 hF) rfl rfl rfl (Nat.le_of_ble_eq_true rfl) dX5_text_13) 16 rfl (fun M3 hw => ?_)
  refine q_aload_n hC dX5_text_16 1 rfl 17 rfl ?_
  refine r_callV hC (go_V (q := (RX5, TX5, 26)) (As := []) (rest := []) hC (ctX5_next (zl z) g M3 _ hF hw) 0 gX5_text_X5_next rfl ⟨rfl, rfl⟩ hdV_X5_next ⟨Nat.le_of_ble_eq_true rfl, Nat.le_of_ble_eq_true rfl⟩ (obF52 hF) rfl rfl rfl (Nat.le_of_ble_eq_true rfl) dX5_text_17) 20 rfl (fun M4 hw => ?_)
  obtain ⟨n0, hw⟩ := hw
  exact XX.sub [1, 0] rfl (B20 n0 M4 0 hw)
