theorem hdV_X5_isFooled : yX5_isFooled.cls = RX5 ∧ yX5_isFooled.cls ≠ "java/lang/invoke/MethodHandle" ∧ yX5_isFooled.cls ≠ "java/lang/invoke/VarHandle" ∧ (parseMethodDescriptor yX5_isFooled.desc).map (fun d => d.parameters.length) = some 1 := by decide +kernel
set_option maxRecDepth 20000 in
theorem inX5_state_X5 : ∀ w ∈ u_ws RX5 TX5 26, w ∈ wsX5_state := by decide +kernel
set_option maxRecDepth 100000 in
set_option maxHeartbeats 4000000 in
theorem ctX5_state (l : Launch) (g : GG) (M : MM) (v1 : Int32) (Q : Int32 → MM → Prop) (hF : full g) (hw : wX5_state Q M v1) : MI g l yX5_state wsX5_state (rmOf 4 96) [.ref (gA g 52), .int v1] M Q := by
  refine mk_MI (cc := cX5_state) (maxL := 6) (by decide) rfl (Nat.le_of_ble_eq_true rfl) ?_
  intro z Qf hC hR
  show XX z g Qf 6 0 [(0, .ref (gA g 52)), (1, .int v1)] [] M
  have B106 : ∀ (K18 : MM → Int32 → Int32 → Prop) (hK18 : ∀ (M : MM) (v2 : Int32) (v3 : Int32) , K18 M v2 v3 → XX z g Qf 6 18 [(0, .ref (gA g 52)), (1, .int v1), (2, .int v2), (3, .int v3)] [] M) (M : MM) (v3 : Int32) (p0 : Int32) (p1 : Int32), wX5_state_106 Q K18 v1 M v3 p0 p1 → XX z g Qf 6 106 [(0, .ref (gA g 52)), (1, .int v1), (3, .int v3)] [.int p0, .int p1] M := by
    intro K18 hK18 M v3 p0 p1 hw
    refine q_ior hC dX5_state_106 107 rfl ?_
    refine q_istore_n (L' := [(2, .int (p1 ||| p0)), (0, .ref (gA g 52)), (1, .int v1), (3, .int v3)]) hC dX5_state_107 (by decide) rfl 108 rfl ?_
    refine q_iinc (v := v3 + 1) (L' := [(3, .int (v3 + 1)), (2, .int (p1 ||| p0)), (0, .ref (gA g 52)), (1, .int v1)]) hC dX5_state_108 3 rfl rfl (by decide) rfl 111 rfl ?_
    refine q_goto hC 18 dX5_state_111 (by decide) ?_
    exact XX.sub [2, 3, 1, 0] rfl (hK18 M (p1 ||| p0) (v3 + 1) hw)
  have B91 : ∀ (K18 : MM → Int32 → Int32 → Prop) (hK18 : ∀ (M : MM) (v2 : Int32) (v3 : Int32) , K18 M v2 v3 → XX z g Qf 6 18 [(0, .ref (gA g 52)), (1, .int v1), (2, .int v2), (3, .int v3)] [] M) (M : MM) (v2 : Int32) (v3 : Int32) (p0 : Int32), wX5_state_91 Q K18 v1 M v2 v3 p0 → XX z g Qf 6 91 [(0, .ref (gA g 52)), (1, .int v1), (2, .int v2), (3, .int v3)] [.int p0] M := by
    intro K18 hK18 M v2 v3 p0 hw
    refine q_istore (L' := [(5, .int p0), (0, .ref (gA g 52)), (1, .int v1), (2, .int v2), (3, .int v3)]) hC dX5_state_91 (by decide) rfl 93 rfl ?_
    refine q_iload_n hC dX5_state_93 3 rfl 94 rfl ?_
    refine q_iload hC dX5_state_94 0 rfl 96 rfl ?_
    refine q_if_eq hC 105 dX5_state_96 (by decide) 99 rfl hw (fun hw => ?_) (fun hw => ?_)
    · refine q_iconst (v := 0) hC dX5_state_105 rfl 106 rfl ?_
      exact XX.sub [1, 2, 4] rfl (B106 _ hK18 M v3 0 v2 hw)
    · refine q_iconst (v := 1) hC dX5_state_99 rfl 100 rfl ?_
      refine q_iload_n hC dX5_state_100 4 rfl 101 rfl ?_
      refine q_ishl hC dX5_state_101 102 rfl ?_
      refine q_goto hC 106 dX5_state_102 (by decide) ?_
      exact XX.sub [1, 2, 4] rfl (B106 _ hK18 M v3 ((1 : Int32) <<< (v3 &&& 31)) v2 hw)
  have B86 : ∀ (K18 : MM → Int32 → Int32 → Prop) (hK18 : ∀ (M : MM) (v2 : Int32) (v3 : Int32) , K18 M v2 v3 → XX z g Qf 6 18 [(0, .ref (gA g 52)), (1, .int v1), (2, .int v2), (3, .int v3)] [] M) (M : MM) (v2 : Int32) (v3 : Int32), wX5_state_86 Q K18 v1 M v2 v3 → XX z g Qf 6 86 [(0, .ref (gA g 52)), (1, .int v1), (2, .int v2), (3, .int v3)] [] M := by
    intro K18 hK18 M v2 v3 hw
    refine q_iconst (v := 1) hC dX5_state_86 rfl 87 rfl ?_
    refine q_goto hC 91 dX5_state_87 (by decide) ?_
    exact XX.sub [0, 1, 2, 3] rfl (B91 _ hK18 M v2 v3 1 hw)
  have B18 : ∀ (n : Nat) (M : MM) (v2 : Int32) (v3 : Int32) , wX5_state_18 Q v1 n M v2 v3 → XX z g Qf 6 18 [(0, .ref (gA g 52)), (1, .int v1), (2, .int v2), (3, .int v3)] [] M := by
    intro n
    induction n with
    | zero =>
      intro M v2 v3 hw
      exact hw.elim
    | succ n ih =>
      intro M v2 v3 hw
      refine q_iload_n hC dX5_state_18 3 rfl 19 rfl ?_
      refine q_aload_n hC dX5_state_19 0 rfl 20 rfl ?_
      refine q_getR (C := RX5) (T := TX5) (N := 26) (ci := 5) hC inX5_state_X5 (obF52 hF) rfl 0 (by decide) (List.mem_of_getElem? (i := 2) (by decide +kernel)) rfl 53 (fun _ => rfl) dX5_state_20 23 rfl ?_
      refine q_iconst (v := 0) hC dX5_state_23 rfl 24 rfl ?_
      obtain ⟨hin, hw⟩ := hw
      refine q_iald hC (arF53 hF) hin dX5_state_24 25 rfl ?_
      refine q_icmp_ge hC 114 dX5_state_25 (by decide) 28 rfl hw (fun hw => ?_) (fun hw => ?_)
      · refine q_iload_n hC dX5_state_114 2 rfl 115 rfl ?_
        exact r_iret hR dX5_state_115 hw
      · refine q_aload_n hC dX5_state_28 0 rfl 29 rfl ?_
        refine q_iload_n hC dX5_state_29 3 rfl 30 rfl ?_
        refine q_aload_n hC dX5_state_30 0 rfl 31 rfl ?_
        refine q_getR (C := RX5) (T := TX5) (N := 26) (ci := 5) hC inX5_state_X5 (obF52 hF) rfl 0 (by decide) (List.mem_of_getElem? (i := 2) (by decide +kernel)) rfl 53 (fun _ => rfl) dX5_state_31 34 rfl ?_
        refine q_sipush (v := 340) hC dX5_state_34 (by decide) 37 rfl ?_
        obtain ⟨hin, hw⟩ := hw
        refine q_iald hC (arF53 hF) hin dX5_state_37 38 rfl ?_
        refine r_callI hC (go_V (q := (RX5, TX5, 26)) (As := [.int v3, .int (M 53 (340 : Int32).toNatClampNeg)]) (rest := []) hC (ctX5_reading (zl z) g M v3 (M 53 (340 : Int32).toNatClampNeg) _ hF hw) 2 gX5_state_X5_reading rfl ⟨rfl, rfl⟩ hdV_X5_reading ⟨Nat.le_of_ble_eq_true rfl, Nat.le_of_ble_eq_true rfl⟩ (obF52 hF) rfl rfl rfl (Nat.le_of_ble_eq_true rfl) dX5_state_38) 41 rfl (fun r3 M4 hw => ?_)
        refine q_istore (L' := [(4, .int r3), (0, .ref (gA g 52)), (1, .int v1), (2, .int v2), (3, .int v3)]) hC dX5_state_41 (by decide) rfl 43 rfl ?_
        refine q_iload_n hC dX5_state_43 2 rfl 44 rfl ?_
        refine q_if_ne hC 61 dX5_state_44 (by decide) 47 rfl hw (fun hw => ?_) (fun hw => ?_)
        · refine q_iload_n hC dX5_state_61 2 rfl 62 rfl ?_
          refine q_iconst (v := 1) hC dX5_state_62 rfl 63 rfl ?_
          refine q_icmp_ne hC 74 dX5_state_63 (by decide) 66 rfl hw (fun hw => ?_) (fun hw => ?_)
          · refine q_iload hC dX5_state_74 0 rfl 76 rfl ?_
            refine q_iconst (v := 1) hC dX5_state_76 rfl 77 rfl ?_
            refine q_icmp_eq hC 86 dX5_state_77 (by decide) 80 rfl hw (fun hw => ?_) (fun hw => ?_)
            · exact XX.sub [1, 2, 3, 4] rfl (B86 _ (fun M v2 v3 hw => ih M v2 v3 hw) M4 v2 v3 hw)
            · refine q_iload hC dX5_state_80 0 rfl 82 rfl ?_
              refine q_iconst (v := 2) hC dX5_state_82 rfl 83 rfl ?_
              refine q_icmp_ne hC 90 dX5_state_83 (by decide) 86 rfl hw (fun hw => ?_) (fun hw => ?_)
              · refine q_iconst (v := 0) hC dX5_state_90 rfl 91 rfl ?_
                exact XX.sub [1, 2, 3, 4] rfl (B91 _ (fun M v2 v3 hw => ih M v2 v3 hw) M4 v2 v3 0 hw)
              · exact XX.sub [1, 2, 3, 4] rfl (B86 _ (fun M v2 v3 hw => ih M v2 v3 hw) M4 v2 v3 hw)
          · refine q_aload_n hC dX5_state_66 1 rfl 67 rfl ?_
            refine q_iload_n hC dX5_state_67 4 rfl 68 rfl ?_
            refine r_callI hC (go_V (q := (RX5, TX5, 26)) (As := [.int v3]) (rest := []) hC (ctX5_isFooled (zl z) g M4 v3 _ hF hw) 1 gX5_state_X5_isFooled rfl ⟨rfl, rfl⟩ hdV_X5_isFooled ⟨Nat.le_of_ble_eq_true rfl, Nat.le_of_ble_eq_true rfl⟩ (obF52 hF) rfl rfl rfl (Nat.le_of_ble_eq_true rfl) dX5_state_68) 71 rfl (fun r5 M6 hw => ?_)
            refine q_goto hC 91 dX5_state_71 (by decide) ?_
            exact XX.sub [1, 2, 3, 4] rfl (B91 _ (fun M v2 v3 hw => ih M v2 v3 hw) M6 v2 v3 r5 hw)
        · refine q_iload hC dX5_state_47 0 rfl 49 rfl ?_
          refine q_iconst (v := 3) hC dX5_state_49 rfl 50 rfl ?_
          refine q_icmp_ne hC 57 dX5_state_50 (by decide) 53 rfl hw (fun hw => ?_) (fun hw => ?_)
          · refine q_iconst (v := 0) hC dX5_state_57 rfl 58 rfl ?_
            refine q_goto hC 91 dX5_state_58 (by decide) ?_
            exact XX.sub [1, 2, 3, 4] rfl (B91 _ (fun M v2 v3 hw => ih M v2 v3 hw) M4 v2 v3 0 hw)
          · refine q_iconst (v := 1) hC dX5_state_53 rfl 54 rfl ?_
            refine q_goto hC 91 dX5_state_54 (by decide) ?_
            exact XX.sub [1, 2, 3, 4] rfl (B91 _ (fun M v2 v3 hw => ih M v2 v3 hw) M4 v2 v3 1 hw)
  refine q_iload_n hC dX5_state_0 1 rfl 1 rfl ?_
  refine q_i2l hC dX5_state_1 2 rfl ?_
  refine q_lconst (v := 0) hC dX5_state_2 rfl 3 rfl ?_
  refine q_ldc2 (v := 2) hC (List.mem_of_getElem? (i := 1) (by decide +kernel)) dX5_state_3 6 rfl ?_
  refine r_callI hC (go_T (As := [.long (v1.toInt64), .long 0, .long 2]) (rest := []) hC (ctX5_in (zl z) g M (v1.toInt64) 0 2 _ hw) 3 gX5_state_X5_in rfl ⟨rfl, rfl⟩ hdT_X5_in ⟨Nat.le_of_ble_eq_true rfl, Nat.le_of_ble_eq_true rfl⟩ rfl rfl (Nat.le_of_ble_eq_true rfl) dX5_state_6) 9 rfl (fun r1 M2 hw => ?_)
  refine q_if_ne hC 14 dX5_state_9 (by decide) 12 rfl hw (fun hw => ?_) (fun hw => ?_)
  · refine q_iconst (v := 0) hC dX5_state_14 rfl 15 rfl ?_
    refine q_istore_n (L' := [(2, .int 0), (0, .ref (gA g 52)), (1, .int v1)]) hC dX5_state_15 (by decide) rfl 16 rfl ?_
    refine q_iconst (v := 0) hC dX5_state_16 rfl 17 rfl ?_
    refine q_istore_n (L' := [(3, .int 0), (2, .int 0), (0, .ref (gA g 52)), (1, .int v1)]) hC dX5_state_17 (by decide) rfl 18 rfl ?_
    obtain ⟨n0, hw⟩ := hw
    exact XX.sub [2, 3, 1, 0] rfl (B18 n0 M2 0 0 hw)
  · refine q_iconst (v := (-1)) hC dX5_state_12 rfl 13 rfl ?_
    exact r_iret hR dX5_state_13 hw
theorem hdT_X5_flag : yX5_flag.cls ≠ "java/lang/invoke/MethodHandle" ∧ yX5_flag.cls ≠ "java/lang/invoke/VarHandle" ∧ (parseMethodDescriptor yX5_flag.desc).map (fun d => d.parameters.length) = some 1 := by decide +kernel
set_option maxRecDepth 20000 in
theorem inX5_best_X5 : ∀ w ∈ u_ws RX5 TX5 26, w ∈ wsX5_best := by decide +kernel
set_option maxRecDepth 100000 in
set_option maxHeartbeats 4000000 in
theorem ctX5_best (l : Launch) (g : GG) (M : MM) (v1 : Int32) (Q : Int32 → MM → Prop) (hF : full g) (hw : wX5_best Q M v1) : MI g l yX5_best wsX5_best (rmOf 3 72) [.ref (gA g 52), .int v1] M Q := by
  refine mk_MI (cc := cX5_best) (maxL := 7) (by decide) rfl (Nat.le_of_ble_eq_true rfl) ?_
  intro z Qf hC hR
  show XX z g Qf 7 0 [(0, .ref (gA g 52)), (1, .int v1)] [] M
  have B117 : ∀ (K20 : MM → Int32 → Int32 → Int32 → Prop) (hK20 : ∀ (M : MM) (v2 : Int32) (v3 : Int32) (v4 : Int32) , K20 M v2 v3 v4 → XX z g Qf 7 20 [(0, .ref (gA g 52)), (1, .int v1), (2, .int v2), (3, .int v3), (4, .int v4)] [] M) (M : MM) (v2 : Int32) (v4 : Int32) (p0 : Int32), wX5_best_117 Q K20 v1 M v2 v4 p0 → XX z g Qf 7 117 [(0, .ref (gA g 52)), (1, .int v1), (2, .int v2), (4, .int v4)] [.int p0] M := by
    intro K20 hK20 M v2 v4 p0 hw
    refine q_istore_n (L' := [(3, .int p0), (0, .ref (gA g 52)), (1, .int v1), (2, .int v2), (4, .int v4)]) hC dX5_best_117 (by decide) rfl 118 rfl ?_
    refine q_iinc (v := v4 + 1) (L' := [(4, .int (v4 + 1)), (3, .int p0), (0, .ref (gA g 52)), (1, .int v1), (2, .int v2)]) hC dX5_best_118 4 rfl rfl (by decide) rfl 121 rfl ?_
    refine q_goto hC 20 dX5_best_121 (by decide) ?_
    exact XX.sub [2, 3, 4, 1, 0] rfl (hK20 M v2 p0 (v4 + 1) hw)
  have B105 : ∀ (K20 : MM → Int32 → Int32 → Int32 → Prop) (hK20 : ∀ (M : MM) (v2 : Int32) (v3 : Int32) (v4 : Int32) , K20 M v2 v3 v4 → XX z g Qf 7 20 [(0, .ref (gA g 52)), (1, .int v1), (2, .int v2), (3, .int v3), (4, .int v4)] [] M) (M : MM) (v3 : Int32) (v4 : Int32) (v5 : Int32) (v6 : Int32) (p0 : Int32), wX5_best_105 Q K20 v1 M v3 v4 v5 v6 p0 → XX z g Qf 7 105 [(0, .ref (gA g 52)), (1, .int v1), (3, .int v3), (4, .int v4), (5, .int v5), (6, .int v6)] [.int p0] M := by
    intro K20 hK20 M v3 v4 v5 v6 p0 hw
    refine q_istore_n (L' := [(2, .int p0), (0, .ref (gA g 52)), (1, .int v1), (3, .int v3), (4, .int v4), (5, .int v5), (6, .int v6)]) hC dX5_best_105 (by decide) rfl 106 rfl ?_
    refine q_iload hC dX5_best_106 6 rfl 108 rfl ?_
    refine q_if_eq hC 116 dX5_best_108 (by decide) 111 rfl hw (fun hw => ?_) (fun hw => ?_)
    · refine q_iload_n hC dX5_best_116 3 rfl 117 rfl ?_
      exact XX.sub [1, 2, 0, 4] rfl (B117 _ hK20 M p0 v4 v3 hw)
    · refine q_iload hC dX5_best_111 5 rfl 113 rfl ?_
      refine q_goto hC 117 dX5_best_113 (by decide) ?_
      exact XX.sub [1, 2, 0, 4] rfl (B117 _ hK20 M p0 v4 v5 hw)
  have B92 : ∀ (K20 : MM → Int32 → Int32 → Int32 → Prop) (hK20 : ∀ (M : MM) (v2 : Int32) (v3 : Int32) (v4 : Int32) , K20 M v2 v3 v4 → XX z g Qf 7 20 [(0, .ref (gA g 52)), (1, .int v1), (2, .int v2), (3, .int v3), (4, .int v4)] [] M) (M : MM) (v2 : Int32) (v3 : Int32) (v4 : Int32) (v5 : Int32) (p0 : Int32), wX5_best_92 Q K20 v1 M v2 v3 v4 v5 p0 → XX z g Qf 7 92 [(0, .ref (gA g 52)), (1, .int v1), (2, .int v2), (3, .int v3), (4, .int v4), (5, .int v5)] [.int p0] M := by
    intro K20 hK20 M v2 v3 v4 v5 p0 hw
    refine q_istore (L' := [(6, .int p0), (0, .ref (gA g 52)), (1, .int v1), (2, .int v2), (3, .int v3), (4, .int v4), (5, .int v5)]) hC dX5_best_92 (by decide) rfl 94 rfl ?_
    refine q_iload hC dX5_best_94 0 rfl 96 rfl ?_
    refine q_if_eq hC 104 dX5_best_96 (by decide) 99 rfl hw (fun hw => ?_) (fun hw => ?_)
    · refine q_iload_n hC dX5_best_104 3 rfl 105 rfl ?_
      exact XX.sub [1, 2, 4, 5, 6, 0] rfl (B105 _ hK20 M v3 v4 v5 p0 v2 hw)
    · refine q_iload hC dX5_best_99 5 rfl 101 rfl ?_
      refine q_goto hC 105 dX5_best_101 (by decide) ?_
      exact XX.sub [1, 2, 4, 5, 6, 0] rfl (B105 _ hK20 M v3 v4 v5 p0 v4 hw)
  have B87 : ∀ (K20 : MM → Int32 → Int32 → Int32 → Prop) (hK20 : ∀ (M : MM) (v2 : Int32) (v3 : Int32) (v4 : Int32) , K20 M v2 v3 v4 → XX z g Qf 7 20 [(0, .ref (gA g 52)), (1, .int v1), (2, .int v2), (3, .int v3), (4, .int v4)] [] M) (M : MM) (v2 : Int32) (v3 : Int32) (v4 : Int32) (v5 : Int32), wX5_best_87 Q K20 v1 M v2 v3 v4 v5 → XX z g Qf 7 87 [(0, .ref (gA g 52)), (1, .int v1), (2, .int v2), (3, .int v3), (4, .int v4), (5, .int v5)] [] M := by
    intro K20 hK20 M v2 v3 v4 v5 hw
    refine q_iconst (v := 1) hC dX5_best_87 rfl 88 rfl ?_
    refine q_goto hC 92 dX5_best_88 (by decide) ?_
    exact XX.sub [0, 1, 2, 3, 4, 5] rfl (B92 _ hK20 M v2 v3 v4 v5 1 hw)
  have B63 : ∀ (K20 : MM → Int32 → Int32 → Int32 → Prop) (hK20 : ∀ (M : MM) (v2 : Int32) (v3 : Int32) (v4 : Int32) , K20 M v2 v3 v4 → XX z g Qf 7 20 [(0, .ref (gA g 52)), (1, .int v1), (2, .int v2), (3, .int v3), (4, .int v4)] [] M) (K33 : MM → Int32 → Int32 → Int32 → Int32 → Int32 → Prop) (hK33 : ∀ (M : MM) (v2 : Int32) (v3 : Int32) (v4 : Int32) (v5 : Int32) (v6 : Int32) , K33 M v2 v3 v4 v5 v6 → XX z g Qf 7 33 [(0, .ref (gA g 52)), (1, .int v1), (2, .int v2), (3, .int v3), (4, .int v4), (5, .int v5), (6, .int v6)] [] M) (M : MM) (v2 : Int32) (v3 : Int32) (v4 : Int32) (v6 : Int32) (p0 : Int32) (p1 : Int32), wX5_best_63 Q K20 K33 v1 M v2 v3 v4 v6 p0 p1 → XX z g Qf 7 63 [(0, .ref (gA g 52)), (1, .int v1), (2, .int v2), (3, .int v3), (4, .int v4), (6, .int v6)] [.int p0, .int p1] M := by
    intro K20 hK20 K33 hK33 M v2 v3 v4 v6 p0 p1 hw
    refine r_callI hC (go_T (As := [.int p0]) (rest := [.int p1]) hC (ctX5_flag (zl z) g M p0 _ hw) 1 gX5_best_X5_flag rfl ⟨rfl, rfl⟩ hdT_X5_flag ⟨Nat.le_of_ble_eq_true rfl, Nat.le_of_ble_eq_true rfl⟩ rfl rfl (Nat.le_of_ble_eq_true rfl) dX5_best_63) 66 rfl (fun r5 M6 hw => ?_)
    refine q_iadd hC dX5_best_66 67 rfl ?_
    refine q_istore (L' := [(5, .int (p1 + r5)), (0, .ref (gA g 52)), (1, .int v1), (2, .int v2), (3, .int v3), (4, .int v4), (6, .int v6)]) hC dX5_best_67 (by decide) rfl 69 rfl ?_
    refine q_iinc (v := v6 + 1) (L' := [(6, .int (v6 + 1)), (5, .int (p1 + r5)), (0, .ref (gA g 52)), (1, .int v1), (2, .int v2), (3, .int v3), (4, .int v4)]) hC dX5_best_69 6 rfl rfl (by decide) rfl 72 rfl ?_
    refine q_goto hC 33 dX5_best_72 (by decide) ?_
    exact XX.sub [2, 3, 4, 5, 6, 1, 0] rfl (hK33 M6 v2 v3 v4 (p1 + r5) (v6 + 1) hw)
  have B33 : ∀ (K20 : MM → Int32 → Int32 → Int32 → Prop) (hK20 : ∀ (M : MM) (v2 : Int32) (v3 : Int32) (v4 : Int32) , K20 M v2 v3 v4 → XX z g Qf 7 20 [(0, .ref (gA g 52)), (1, .int v1), (2, .int v2), (3, .int v3), (4, .int v4)] [] M) (n : Nat) (M : MM) (v2 : Int32) (v3 : Int32) (v4 : Int32) (v5 : Int32) (v6 : Int32) , wX5_best_33 Q K20 v1 n M v2 v3 v4 v5 v6 → XX z g Qf 7 33 [(0, .ref (gA g 52)), (1, .int v1), (2, .int v2), (3, .int v3), (4, .int v4), (5, .int v5), (6, .int v6)] [] M := by
    intro K20 hK20 n
    induction n with
    | zero =>
      intro M v2 v3 v4 v5 v6 hw
      exact hw.elim
    | succ n ih =>
      intro M v2 v3 v4 v5 v6 hw
      refine q_iload hC dX5_best_33 6 rfl 35 rfl ?_
      refine q_aload_n hC dX5_best_35 0 rfl 36 rfl ?_
      refine q_getR (C := RX5) (T := TX5) (N := 26) (ci := 5) hC inX5_best_X5 (obF52 hF) rfl 0 (by decide) (List.mem_of_getElem? (i := 1) (by decide +kernel)) rfl 53 (fun _ => rfl) dX5_best_36 39 rfl ?_
      refine q_iconst (v := 0) hC dX5_best_39 rfl 40 rfl ?_
      obtain ⟨hin, hw⟩ := hw
      refine q_iald hC (arF53 hF) hin dX5_best_40 41 rfl ?_
      refine q_icmp_ge hC 75 dX5_best_41 (by decide) 44 rfl hw (fun hw => ?_) (fun hw => ?_)
      · refine q_iload_n hC dX5_best_75 2 rfl 76 rfl ?_
        refine q_bipush (v := (-4)) hC dX5_best_76 (by decide) 78 rfl ?_
        refine q_icmp_eq hC 87 dX5_best_78 (by decide) 81 rfl hw (fun hw => ?_) (fun hw => ?_)
        · exact XX.sub [0, 1, 2, 3, 4, 5] rfl (B87 _ hK20 M v2 v3 v4 v5 hw)
        · refine q_iload hC dX5_best_81 5 rfl 83 rfl ?_
          refine q_iload_n hC dX5_best_83 3 rfl 84 rfl ?_
          refine q_icmp_ge hC 91 dX5_best_84 (by decide) 87 rfl hw (fun hw => ?_) (fun hw => ?_)
          · refine q_iconst (v := 0) hC dX5_best_91 rfl 92 rfl ?_
            exact XX.sub [0, 1, 2, 3, 4, 5] rfl (B92 _ hK20 M v2 v3 v4 v5 0 hw)
          · exact XX.sub [0, 1, 2, 3, 4, 5] rfl (B87 _ hK20 M v2 v3 v4 v5 hw)
      · refine q_iload hC dX5_best_44 5 rfl 46 rfl ?_
        refine q_aload_n hC dX5_best_46 0 rfl 47 rfl ?_
        refine q_iload hC dX5_best_47 6 rfl 49 rfl ?_
        refine q_iload hC dX5_best_49 4 rfl 51 rfl ?_
        refine r_callI hC (go_V (q := (RX5, TX5, 26)) (As := [.int v6, .int v4]) (rest := [.int v5]) hC (ctX5_reading (zl z) g M v6 v4 _ hF hw) 2 gX5_best_X5_reading rfl ⟨rfl, rfl⟩ hdV_X5_reading ⟨Nat.le_of_ble_eq_true rfl, Nat.le_of_ble_eq_true rfl⟩ (obF52 hF) rfl rfl rfl (Nat.le_of_ble_eq_true rfl) dX5_best_51) 54 rfl (fun r3 M4 hw => ?_)
        refine q_iconst (v := 3) hC dX5_best_54 rfl 55 rfl ?_
        refine q_icmp_ne hC 62 dX5_best_55 (by decide) 58 rfl hw (fun hw => ?_) (fun hw => ?_)
        · refine q_iconst (v := 0) hC dX5_best_62 rfl 63 rfl ?_
          exact XX.sub [0, 1, 2, 3, 4, 6] rfl (B63 _ hK20 _ (fun M v2 v3 v4 v5 v6 hw => ih M v2 v3 v4 v5 v6 hw) M4 v2 v3 v4 v6 0 v5 hw)
        · refine q_iconst (v := 1) hC dX5_best_58 rfl 59 rfl ?_
          refine q_goto hC 63 dX5_best_59 (by decide) ?_
          exact XX.sub [0, 1, 2, 3, 4, 6] rfl (B63 _ hK20 _ (fun M v2 v3 v4 v5 v6 hw => ih M v2 v3 v4 v5 v6 hw) M4 v2 v3 v4 v6 1 v5 hw)
  have B20 : ∀ (n : Nat) (M : MM) (v2 : Int32) (v3 : Int32) (v4 : Int32) , wX5_best_20 Q v1 n M v2 v3 v4 → XX z g Qf 7 20 [(0, .ref (gA g 52)), (1, .int v1), (2, .int v2), (3, .int v3), (4, .int v4)] [] M := by
    intro n
    induction n with
    | zero =>
      intro M v2 v3 v4 hw
      exact hw.elim
    | succ n ih =>
      intro M v2 v3 v4 hw
      refine q_iload hC dX5_best_20 4 rfl 22 rfl ?_
      refine q_bipush (v := 9) hC dX5_best_22 (by decide) 24 rfl ?_
      refine q_icmp_ge hC 124 dX5_best_24 (by decide) 27 rfl hw (fun hw => ?_) (fun hw => ?_)
      · refine q_iload_n hC dX5_best_124 1 rfl 125 rfl ?_
        refine q_if_ne hC 132 dX5_best_125 (by decide) 128 rfl hw (fun hw => ?_) (fun hw => ?_)
        · refine q_iload_n hC dX5_best_132 3 rfl 133 rfl ?_
          exact r_iret hR dX5_best_133 hw
        · refine q_iload_n hC dX5_best_128 2 rfl 129 rfl ?_
          refine q_goto hC 133 dX5_best_129 (by decide) ?_
          exact r_iret hR dX5_best_133 hw
      · refine q_iconst (v := 0) hC dX5_best_27 rfl 28 rfl ?_
        refine q_istore (L' := [(5, .int 0), (0, .ref (gA g 52)), (1, .int v1), (2, .int v2), (3, .int v3), (4, .int v4)]) hC dX5_best_28 (by decide) rfl 30 rfl ?_
        refine q_iconst (v := 0) hC dX5_best_30 rfl 31 rfl ?_
        refine q_istore (L' := [(6, .int 0), (5, .int 0), (0, .ref (gA g 52)), (1, .int v1), (2, .int v2), (3, .int v3), (4, .int v4)]) hC dX5_best_31 (by decide) rfl 33 rfl ?_
        obtain ⟨n0, hw⟩ := hw
        exact XX.sub [2, 3, 4, 5, 6, 1, 0] rfl (B33 _ (fun M v2 v3 v4 hw => ih M v2 v3 v4 hw) n0 M v2 v3 v4 0 0 hw)
  refine q_iload_n hC dX5_best_0 1 rfl 1 rfl ?_
  refine q_i2l hC dX5_best_1 2 rfl ?_
  refine q_lconst (v := 0) hC dX5_best_2 rfl 3 rfl ?_
  refine q_lconst (v := 1) hC dX5_best_3 rfl 4 rfl ?_
  refine r_callI hC (go_T (As := [.long (v1.toInt64), .long 0, .long 1]) (rest := []) hC (ctX5_in (zl z) g M (v1.toInt64) 0 1 _ hw) 3 gX5_best_X5_in rfl ⟨rfl, rfl⟩ hdT_X5_in ⟨Nat.le_of_ble_eq_true rfl, Nat.le_of_ble_eq_true rfl⟩ rfl rfl (Nat.le_of_ble_eq_true rfl) dX5_best_4) 7 rfl (fun r1 M2 hw => ?_)
  refine q_if_ne hC 12 dX5_best_7 (by decide) 10 rfl hw (fun hw => ?_) (fun hw => ?_)
  · refine q_bipush (v := (-4)) hC dX5_best_12 (by decide) 14 rfl ?_
    refine q_istore_n (L' := [(2, .int (-4)), (0, .ref (gA g 52)), (1, .int v1)]) hC dX5_best_14 (by decide) rfl 15 rfl ?_
    refine q_iconst (v := 0) hC dX5_best_15 rfl 16 rfl ?_
    refine q_istore_n (L' := [(3, .int 0), (2, .int (-4)), (0, .ref (gA g 52)), (1, .int v1)]) hC dX5_best_16 (by decide) rfl 17 rfl ?_
    refine q_iconst (v := 0) hC dX5_best_17 rfl 18 rfl ?_
    refine q_istore (L' := [(4, .int 0), (3, .int 0), (2, .int (-4)), (0, .ref (gA g 52)), (1, .int v1)]) hC dX5_best_18 (by decide) rfl 20 rfl ?_
    obtain ⟨n0, hw⟩ := hw
    exact XX.sub [3, 4, 2, 1, 0] rfl (B20 n0 M2 (-4) 0 0 hw)
  · refine q_iconst (v := (-1)) hC dX5_best_10 rfl 11 rfl ?_
    exact r_iret hR dX5_best_11 hw
set_option maxRecDepth 20000 in
theorem inX5_takes_X5 : ∀ w ∈ u_ws RX5 TX5 26, w ∈ wsX5_takes := by decide +kernel
set_option maxRecDepth 100000 in
set_option maxHeartbeats 4000000 in
theorem ctX5_takes (l : Launch) (g : GG) (M : MM) (v1 : Int32) (v2 : Int32) (Q : Int32 → MM → Prop) (hF : full g) (hw : wX5_takes Q M v1 v2) : MI g l yX5_takes wsX5_takes (rmOf 4 90) [.ref (gA g 52), .int v1, .int v2] M Q := by
  refine mk_MI (cc := cX5_takes) (maxL := 4) (by decide) rfl (Nat.le_of_ble_eq_true rfl) ?_
  intro z Qf hC hR
  show XX z g Qf 4 0 [(0, .ref (gA g 52)), (1, .int v1), (2, .int v2)] [] M
  have B27 : ∀ (M : MM) (p0 : Int32), wX5_takes_27 Q v1 v2 M p0 → XX z g Qf 4 27 [(0, .ref (gA g 52)), (2, .int v2)] [.int p0] M := by
    intro M p0 hw
    refine q_istore_n (L' := [(3, .int p0), (0, .ref (gA g 52)), (2, .int v2)]) hC dX5_takes_27 (by decide) rfl 28 rfl ?_
    refine q_aload_n hC dX5_takes_28 1 rfl 29 rfl ?_
    refine q_iload_n hC dX5_takes_29 0 rfl 30 rfl ?_
    refine q_aload_n hC dX5_takes_30 1 rfl 31 rfl ?_
    refine q_getR (C := RX5) (T := TX5) (N := 26) (ci := 5) hC inX5_takes_X5 (obF52 hF) rfl 0 (by decide) (List.mem_of_getElem? (i := 1) (by decide +kernel)) rfl 53 (fun _ => rfl) dX5_takes_31 34 rfl ?_
    refine q_iconst (v := 1) hC dX5_takes_34 rfl 35 rfl ?_
    refine q_aload_n hC dX5_takes_35 1 rfl 36 rfl ?_
    refine q_getR (C := RX5) (T := TX5) (N := 26) (ci := 5) hC inX5_takes_X5 (obF52 hF) rfl 19 (by decide) (List.mem_of_getElem? (i := 2) (by decide +kernel)) rfl 63 (fun _ => rfl) dX5_takes_36 39 rfl ?_
    refine q_iload_n hC dX5_takes_39 2 rfl 40 rfl ?_
    obtain ⟨hin, hw⟩ := hw
    refine q_iald hC (arF63 hF) hin dX5_takes_40 41 rfl ?_
    refine q_iadd hC dX5_takes_41 42 rfl ?_
    obtain ⟨hin, hw⟩ := hw
    refine q_iald hC (arF53 hF) hin dX5_takes_42 43 rfl ?_
    refine r_callI hC (go_V (q := (RX5, TX5, 26)) (As := [.int p0, .int (M 53 ((1 : Int32) + (M 63 v2.toNatClampNeg)).toNatClampNeg)]) (rest := []) hC (ctX5_sooner (zl z) g M p0 (M 53 ((1 : Int32) + (M 63 v2.toNatClampNeg)).toNatClampNeg) _ hF hw) 2 gX5_takes_X5_sooner rfl ⟨rfl, rfl⟩ hdV_X5_sooner ⟨Nat.le_of_ble_eq_true rfl, Nat.le_of_ble_eq_true rfl⟩ (obF52 hF) rfl rfl rfl (Nat.le_of_ble_eq_true rfl) dX5_takes_43) 46 rfl (fun r3 M4 hw => ?_)
    refine q_aload_n hC dX5_takes_46 1 rfl 47 rfl ?_
    refine q_getR (C := RX5) (T := TX5) (N := 26) (ci := 5) hC inX5_takes_X5 (obF52 hF) rfl 2 (by decide) (List.mem_of_getElem? (i := 3) (by decide +kernel)) rfl 55 (fun _ => rfl) dX5_takes_47 50 rfl ?_
    refine q_iconst (v := 3) hC dX5_takes_50 rfl 51 rfl ?_
    obtain ⟨hin, hw⟩ := hw
    refine q_iald hC (arF55 hF) hin dX5_takes_51 52 rfl ?_
    refine q_aload_n hC dX5_takes_52 1 rfl 53 rfl ?_
    refine q_aload_n hC dX5_takes_53 1 rfl 54 rfl ?_
    refine q_getR (C := RX5) (T := TX5) (N := 26) (ci := 5) hC inX5_takes_X5 (obF52 hF) rfl 0 (by decide) (List.mem_of_getElem? (i := 1) (by decide +kernel)) rfl 53 (fun _ => rfl) dX5_takes_54 57 rfl ?_
    refine q_bipush (v := 13) hC dX5_takes_57 (by decide) 59 rfl ?_
    refine q_aload_n hC dX5_takes_59 1 rfl 60 rfl ?_
    refine q_getR (C := RX5) (T := TX5) (N := 26) (ci := 5) hC inX5_takes_X5 (obF52 hF) rfl 19 (by decide) (List.mem_of_getElem? (i := 2) (by decide +kernel)) rfl 63 (fun _ => rfl) dX5_takes_60 63 rfl ?_
    refine q_iload_n hC dX5_takes_63 2 rfl 64 rfl ?_
    obtain ⟨hin, hw⟩ := hw
    refine q_iald hC (arF63 hF) hin dX5_takes_64 65 rfl ?_
    refine q_iadd hC dX5_takes_65 66 rfl ?_
    obtain ⟨hin, hw⟩ := hw
    refine q_iald hC (arF53 hF) hin dX5_takes_66 67 rfl ?_
    refine r_callI hC (go_V (q := (RX5, TX5, 26)) (As := [.int (M4 53 ((13 : Int32) + (M4 63 v2.toNatClampNeg)).toNatClampNeg)]) (rest := [.int (M4 55 (3 : Int32).toNatClampNeg), .int r3]) hC (ctX5_longOf (zl z) g M4 (M4 53 ((13 : Int32) + (M4 63 v2.toNatClampNeg)).toNatClampNeg) _ hF hw) 1 gX5_takes_X5_longOf rfl ⟨rfl, rfl⟩ hdV_X5_longOf ⟨Nat.le_of_ble_eq_true rfl, Nat.le_of_ble_eq_true rfl⟩ (obF52 hF) rfl rfl rfl (Nat.le_of_ble_eq_true rfl) dX5_takes_67) 70 rfl (fun r5 M6 hw => ?_)
    refine q_imul hC dX5_takes_70 71 rfl ?_
    refine q_iadd hC dX5_takes_71 72 rfl ?_
    exact r_iret hR dX5_takes_72 hw
  refine q_iload_n hC dX5_takes_0 1 rfl 1 rfl ?_
  refine q_bipush (v := 8) hC dX5_takes_1 (by decide) 3 rfl ?_
  refine q_icmp_ne hC 17 dX5_takes_3 (by decide) 6 rfl hw (fun hw => ?_) (fun hw => ?_)
  · refine q_aload_n hC dX5_takes_17 0 rfl 18 rfl ?_
    refine q_aload_n hC dX5_takes_18 0 rfl 19 rfl ?_
    refine q_getR (C := RX5) (T := TX5) (N := 26) (ci := 5) hC inX5_takes_X5 (obF52 hF) rfl 19 (by decide) (List.mem_of_getElem? (i := 2) (by decide +kernel)) rfl 63 (fun _ => rfl) dX5_takes_19 22 rfl ?_
    refine q_iload_n hC dX5_takes_22 1 rfl 23 rfl ?_
    obtain ⟨hin, hw⟩ := hw
    refine q_iald hC (arF63 hF) hin dX5_takes_23 24 rfl ?_
    refine r_callI hC (go_V (q := (RX5, TX5, 26)) (As := [.int (M 63 v1.toNatClampNeg)]) (rest := []) hC (ctX5_endOf (zl z) g M (M 63 v1.toNatClampNeg) _ hF hw) 1 gX5_takes_X5_endOf rfl ⟨rfl, rfl⟩ hdV_X5_endOf ⟨Nat.le_of_ble_eq_true rfl, Nat.le_of_ble_eq_true rfl⟩ (obF52 hF) rfl rfl rfl (Nat.le_of_ble_eq_true rfl) dX5_takes_24) 27 rfl (fun r1 M2 hw => ?_)
    exact XX.sub [0, 2] rfl (B27 M2 r1 hw)
  · refine q_aload_n hC dX5_takes_6 0 rfl 7 rfl ?_
    refine q_getR (C := RX5) (T := TX5) (N := 26) (ci := 5) hC inX5_takes_X5 (obF52 hF) rfl 0 (by decide) (List.mem_of_getElem? (i := 1) (by decide +kernel)) rfl 53 (fun _ => rfl) dX5_takes_7 10 rfl ?_
    refine q_sipush (v := 325) hC dX5_takes_10 (by decide) 13 rfl ?_
    obtain ⟨hin, hw⟩ := hw
    refine q_iald hC (arF53 hF) hin dX5_takes_13 14 rfl ?_
    refine q_goto hC 27 dX5_takes_14 (by decide) ?_
    exact XX.sub [0, 2] rfl (B27 M (M 53 (325 : Int32).toNatClampNeg) hw)
set_option maxRecDepth 20000 in
theorem inX5_areBlocks_X5 : ∀ w ∈ u_ws RX5 TX5 26, w ∈ wsX5_areBlocks := by decide +kernel
set_option maxRecDepth 100000 in
set_option maxHeartbeats 4000000 in
theorem ctX5_areBlocks (l : Launch) (g : GG) (M : MM) (v1 : Int32) (Q : Int32 → MM → Prop) (hF : full g) (hw : wX5_areBlocks Q M v1) : MI g l yX5_areBlocks wsX5_areBlocks (rmOf 1 25) [.ref (gA g 52), .int v1] M Q := by
  refine mk_MZ (cc := cX5_areBlocks) (maxL := 2) (by decide) rfl (Nat.le_of_ble_eq_true rfl) ?_
  intro z Qf hC hR
  show XX z g Qf 2 0 [(0, .ref (gA g 52)), (1, .int v1)] [] M
  refine q_iload_n hC dX5_areBlocks_0 1 rfl 1 rfl ?_
  refine q_i2l hC dX5_areBlocks_1 2 rfl ?_
  refine q_lconst (v := 0) hC dX5_areBlocks_2 rfl 3 rfl ?_
  refine q_iconst (v := 1) hC dX5_areBlocks_3 rfl 4 rfl ?_
  refine q_aload_n hC dX5_areBlocks_4 0 rfl 5 rfl ?_
  refine q_getR (C := RX5) (T := TX5) (N := 26) (ci := 5) hC inX5_areBlocks_X5 (obF52 hF) rfl 0 (by decide) (List.mem_of_getElem? (i := 1) (by decide +kernel)) rfl 53 (fun _ => rfl) dX5_areBlocks_5 8 rfl ?_
  refine q_iconst (v := 0) hC dX5_areBlocks_8 rfl 9 rfl ?_
  obtain ⟨hin, hw⟩ := hw
  refine q_iald hC (arF53 hF) hin dX5_areBlocks_9 10 rfl ?_
  refine q_ishl hC dX5_areBlocks_10 11 rfl ?_
  refine q_iconst (v := 1) hC dX5_areBlocks_11 rfl 12 rfl ?_
  refine q_isub hC dX5_areBlocks_12 13 rfl ?_
  refine q_i2l hC dX5_areBlocks_13 14 rfl ?_
  refine r_callI hC (go_T (As := [.long (v1.toInt64), .long 0, .long ((((1 : Int32) <<< ((M 53 (0 : Int32).toNatClampNeg) &&& 31)) - (1 : Int32)).toInt64)]) (rest := []) hC (ctX5_in (zl z) g M (v1.toInt64) 0 ((((1 : Int32) <<< ((M 53 (0 : Int32).toNatClampNeg) &&& 31)) - (1 : Int32)).toInt64) _ hw) 3 gX5_areBlocks_X5_in rfl ⟨rfl, rfl⟩ hdT_X5_in ⟨Nat.le_of_ble_eq_true rfl, Nat.le_of_ble_eq_true rfl⟩ rfl rfl (Nat.le_of_ble_eq_true rfl) dX5_areBlocks_14) 17 rfl (fun r1 M2 hw => ?_)
  exact r_iret hR dX5_areBlocks_17 hw
set_option maxRecDepth 100000 in
set_option maxHeartbeats 4000000 in
theorem ctX5_countOf (l : Launch) (g : GG) (M : MM) (v0 : Int32) (Q : Int32 → MM → Prop)  (hw : wX5_countOf Q M v0) : MI g l yX5_countOf wsX5_countOf (rmOf 0 0) [.int v0] M Q := by
  refine mk_MI (cc := cX5_countOf) (maxL := 3) (by decide) rfl (Nat.le_of_ble_eq_true rfl) ?_
  intro z Qf hC hR
  show XX z g Qf 3 0 [(0, .int v0)] [] M
  have B4 : ∀ (n : Nat) (M : MM) (v1 : Int32) (v2 : Int32) , wX5_countOf_4 Q v0 n M v1 v2 → XX z g Qf 3 4 [(0, .int v0), (1, .int v1), (2, .int v2)] [] M := by
    intro n
    induction n with
    | zero =>
      intro M v1 v2 hw
      exact hw.elim
    | succ n ih =>
      intro M v1 v2 hw
      refine q_iload_n hC dX5_countOf_4 2 rfl 5 rfl ?_
      refine q_bipush (v := 12) hC dX5_countOf_5 (by decide) 7 rfl ?_
      refine q_icmp_ge hC 24 dX5_countOf_7 (by decide) 10 rfl hw (fun hw => ?_) (fun hw => ?_)
      · refine q_iload_n hC dX5_countOf_24 1 rfl 25 rfl ?_
        exact r_iret hR dX5_countOf_25 hw
      · refine q_iload_n hC dX5_countOf_10 1 rfl 11 rfl ?_
        refine q_iload_n hC dX5_countOf_11 0 rfl 12 rfl ?_
        refine q_iload_n hC dX5_countOf_12 2 rfl 13 rfl ?_
        refine q_ishr hC dX5_countOf_13 14 rfl ?_
        refine q_iconst (v := 1) hC dX5_countOf_14 rfl 15 rfl ?_
        refine q_iand hC dX5_countOf_15 16 rfl ?_
        refine q_iadd hC dX5_countOf_16 17 rfl ?_
        refine q_nameI (fun x1 ex1 => ?_)
        have hw := hw x1 ex1
        refine q_istore_n (L' := [(1, .int x1), (0, .int v0), (2, .int v2)]) hC dX5_countOf_17 (by decide) rfl 18 rfl ?_
        refine q_iinc (v := v2 + 1) (L' := [(2, .int (v2 + 1)), (1, .int x1), (0, .int v0)]) hC dX5_countOf_18 2 rfl rfl (by decide) rfl 21 rfl ?_
        refine q_goto hC 4 dX5_countOf_21 (by decide) ?_
        exact XX.sub [2, 1, 0] rfl (ih M x1 (v2 + 1) hw)
  refine q_iconst (v := 0) hC dX5_countOf_0 rfl 1 rfl ?_
  refine q_istore_n (L' := [(1, .int 0), (0, .int v0)]) hC dX5_countOf_1 (by decide) rfl 2 rfl ?_
  refine q_iconst (v := 0) hC dX5_countOf_2 rfl 3 rfl ?_
  refine q_istore_n (L' := [(2, .int 0), (1, .int 0), (0, .int v0)]) hC dX5_countOf_3 (by decide) rfl 4 rfl ?_
  obtain ⟨n0, hw⟩ := hw
  exact XX.sub [2, 1, 0] rfl (B4 n0 M 0 0 hw)
theorem hdV_X5_takes : yX5_takes.cls = RX5 ∧ yX5_takes.cls ≠ "java/lang/invoke/MethodHandle" ∧ yX5_takes.cls ≠ "java/lang/invoke/VarHandle" ∧ (parseMethodDescriptor yX5_takes.desc).map (fun d => d.parameters.length) = some 2 := by decide +kernel
set_option maxRecDepth 20000 in
theorem inX5_layRest_X5 : ∀ w ∈ u_ws RX5 TX5 26, w ∈ wsX5_layRest := by decide +kernel
set_option maxRecDepth 100000 in
set_option maxHeartbeats 4000000 in
theorem ctX5_layRest (l : Launch) (g : GG) (M : MM) (v1 : Int32) (Q : MM → Prop) (hF : full g) (hw : wX5_layRest Q M v1) : MV g l yX5_layRest wsX5_layRest (rmOf 5 113) [.ref (gA g 52), .int v1] M Q := by
  refine mk_MV (cc := cX5_layRest) (maxL := 8) (by decide) rfl (Nat.le_of_ble_eq_true rfl) ?_
  intro z Qf hC hR
  show XX z g Qf 8 0 [(0, .ref (gA g 52)), (1, .int v1)] [] M
  have B200 : ∀ (K63 : MM → Int32 → Int32 → Prop) (hK63 : ∀ (M : MM) (v2 : Int32) (v3 : Int32) , K63 M v2 v3 → XX z g Qf 8 63 [(0, .ref (gA g 52)), (2, .int v2), (3, .int v3)] [] M) (K70 : MM → Int32 → Int32 → Int32 → Prop) (hK70 : ∀ (M : MM) (v2 : Int32) (v3 : Int32) (v4 : Int32) , K70 M v2 v3 v4 → XX z g Qf 8 70 [(0, .ref (gA g 52)), (2, .int v2), (3, .int v3), (4, .int v4)] [] M) (M : MM) (v2 : Int32) (v3 : Int32) (v4 : Int32) (v5 : Int32), wX5_layRest_200 Q K63 K70 v1 M v2 v3 v4 v5 → XX z g Qf 8 200 [(0, .ref (gA g 52)), (2, .int v2), (3, .int v3), (4, .int v4), (5, .int v5)] [] M := by
    intro K63 hK63 K70 hK70 M v2 v3 v4 v5 hw
    refine q_aload_n hC dX5_layRest_200 0 rfl 201 rfl ?_
    refine q_getR (C := RX5) (T := TX5) (N := 26) (ci := 5) hC inX5_layRest_X5 (obF52 hF) rfl 18 (by decide) (List.mem_of_getElem? (i := 5) (by decide +kernel)) rfl 62 (fun _ => rfl) dX5_layRest_201 204 rfl ?_
    refine q_bipush (v := 13) hC dX5_layRest_204 (by decide) 206 rfl ?_
    refine q_iload_n hC dX5_layRest_206 2 rfl 207 rfl ?_
    refine q_imul hC dX5_layRest_207 208 rfl ?_
    refine q_iload hC dX5_layRest_208 3 rfl 210 rfl ?_
    refine q_iadd hC dX5_layRest_210 211 rfl ?_
    refine q_iload hC dX5_layRest_211 4 rfl 213 rfl ?_
    obtain ⟨hin, hw⟩ := hw
    refine q_iast hC (arF62 hF) hin dX5_layRest_213 214 rfl (fun M9 eM9 => ?_)
    have hw := hw M9 eM9
    refine q_iinc (v := v4 + 1) (L' := [(4, .int (v4 + 1)), (0, .ref (gA g 52)), (2, .int v2), (3, .int v3), (5, .int v5)]) hC dX5_layRest_214 3 rfl rfl (by decide) rfl 217 rfl ?_
    refine q_goto hC 70 dX5_layRest_217 (by decide) ?_
    exact XX.sub [1, 2, 3, 0] rfl (hK70 M9 v2 v3 (v4 + 1) hw)
  have B194 : ∀ (K63 : MM → Int32 → Int32 → Prop) (hK63 : ∀ (M : MM) (v2 : Int32) (v3 : Int32) , K63 M v2 v3 → XX z g Qf 8 63 [(0, .ref (gA g 52)), (2, .int v2), (3, .int v3)] [] M) (K70 : MM → Int32 → Int32 → Int32 → Prop) (hK70 : ∀ (M : MM) (v2 : Int32) (v3 : Int32) (v4 : Int32) , K70 M v2 v3 v4 → XX z g Qf 8 70 [(0, .ref (gA g 52)), (2, .int v2), (3, .int v3), (4, .int v4)] [] M) (K138 : MM → Int32 → Int32 → Int32 → Int32 → Int32 → Int32 → Prop) (hK138 : ∀ (M : MM) (v2 : Int32) (v3 : Int32) (v4 : Int32) (v5 : Int32) (v6 : Int32) (v7 : Int32) , K138 M v2 v3 v4 v5 v6 v7 → XX z g Qf 8 138 [(0, .ref (gA g 52)), (2, .int v2), (3, .int v3), (4, .int v4), (5, .int v5), (6, .int v6), (7, .int v7)] [] M) (M : MM) (v2 : Int32) (v3 : Int32) (v4 : Int32) (v5 : Int32) (v6 : Int32) (v7 : Int32), wX5_layRest_194 Q K63 K70 K138 v1 M v2 v3 v4 v5 v6 v7 → XX z g Qf 8 194 [(0, .ref (gA g 52)), (2, .int v2), (3, .int v3), (4, .int v4), (5, .int v5), (6, .int v6), (7, .int v7)] [] M := by
    intro K63 hK63 K70 hK70 K138 hK138 M v2 v3 v4 v5 v6 v7 hw
    refine q_iinc (v := v7 + 1) (L' := [(7, .int (v7 + 1)), (0, .ref (gA g 52)), (2, .int v2), (3, .int v3), (4, .int v4), (5, .int v5), (6, .int v6)]) hC dX5_layRest_194 6 rfl rfl (by decide) rfl 197 rfl ?_
    refine q_goto hC 138 dX5_layRest_197 (by decide) ?_
    exact XX.sub [1, 2, 3, 4, 5, 6, 0] rfl (hK138 M v2 v3 v4 v5 v6 (v7 + 1) hw)
  have B138 : ∀ (K63 : MM → Int32 → Int32 → Prop) (hK63 : ∀ (M : MM) (v2 : Int32) (v3 : Int32) , K63 M v2 v3 → XX z g Qf 8 63 [(0, .ref (gA g 52)), (2, .int v2), (3, .int v3)] [] M) (K70 : MM → Int32 → Int32 → Int32 → Prop) (hK70 : ∀ (M : MM) (v2 : Int32) (v3 : Int32) (v4 : Int32) , K70 M v2 v3 v4 → XX z g Qf 8 70 [(0, .ref (gA g 52)), (2, .int v2), (3, .int v3), (4, .int v4)] [] M) (n : Nat) (M : MM) (v2 : Int32) (v3 : Int32) (v4 : Int32) (v5 : Int32) (v6 : Int32) (v7 : Int32) , wX5_layRest_138 Q K63 K70 v1 n M v2 v3 v4 v5 v6 v7 → XX z g Qf 8 138 [(0, .ref (gA g 52)), (2, .int v2), (3, .int v3), (4, .int v4), (5, .int v5), (6, .int v6), (7, .int v7)] [] M := by
    intro K63 hK63 K70 hK70 n
    induction n with
    | zero =>
      intro M v2 v3 v4 v5 v6 v7 hw
      exact hw.elim
    | succ n ih =>
      intro M v2 v3 v4 v5 v6 v7 hw
      refine q_iload hC dX5_layRest_138 6 rfl 140 rfl ?_
      refine q_aload_n hC dX5_layRest_140 0 rfl 141 rfl ?_
      refine q_getI (C := RX5) (T := TX5) (N := 26) (ci := 5) hC inX5_layRest_X5 (obF52 hF) rfl 20 (by decide) (List.mem_of_getElem? (i := 1) (by decide +kernel)) rfl (fun _ => rfl) dX5_layRest_141 144 rfl ?_
      refine q_icmp_ge hC 200 dX5_layRest_144 (by decide) 147 rfl hw (fun hw => ?_) (fun hw => ?_)
      · exact XX.sub [0, 1, 2, 3, 4] rfl (B200 _ hK63 _ hK70 M v2 v3 v4 v5 hw)
      · refine q_iload hC dX5_layRest_147 5 rfl 149 rfl ?_
        refine q_if_eq hC 200 dX5_layRest_149 (by decide) 152 rfl hw (fun hw => ?_) (fun hw => ?_)
        · exact XX.sub [0, 1, 2, 3, 4] rfl (B200 _ hK63 _ hK70 M v2 v3 v4 v5 hw)
        · refine q_iload_n hC dX5_layRest_152 2 rfl 153 rfl ?_
          refine q_iload hC dX5_layRest_153 6 rfl 155 rfl ?_
          refine q_ishr hC dX5_layRest_155 156 rfl ?_
          refine q_iconst (v := 1) hC dX5_layRest_156 rfl 157 rfl ?_
          refine q_iand hC dX5_layRest_157 158 rfl ?_
          refine q_if_ne hC 194 dX5_layRest_158 (by decide) 161 rfl hw (fun hw => ?_) (fun hw => ?_)
          · exact XX.sub [0, 1, 2, 3, 4, 5, 6] rfl (B194 _ hK63 _ hK70 _ (fun M v2 v3 v4 v5 v6 v7 hw => ih M v2 v3 v4 v5 v6 v7 hw) M v2 v3 v4 v5 v6 v7 hw)
          · refine q_iload hC dX5_layRest_161 4 rfl 163 rfl ?_
            refine q_aload_n hC dX5_layRest_163 0 rfl 164 rfl ?_
            refine q_iload hC dX5_layRest_164 3 rfl 166 rfl ?_
            refine q_iload hC dX5_layRest_166 6 rfl 168 rfl ?_
            refine r_callI hC (go_V (q := (RX5, TX5, 26)) (As := [.int v4, .int v7]) (rest := [.int v5]) hC (ctX5_takes (zl z) g M v4 v7 _ hF hw) 2 gX5_layRest_X5_takes rfl ⟨rfl, rfl⟩ hdV_X5_takes ⟨Nat.le_of_ble_eq_true rfl, Nat.le_of_ble_eq_true rfl⟩ (obF52 hF) rfl rfl rfl (Nat.le_of_ble_eq_true rfl) dX5_layRest_168) 171 rfl (fun r5 M6 hw => ?_)
            refine q_aload_n hC dX5_layRest_171 0 rfl 172 rfl ?_
            refine q_getR (C := RX5) (T := TX5) (N := 26) (ci := 5) hC inX5_layRest_X5 (obF52 hF) rfl 18 (by decide) (List.mem_of_getElem? (i := 5) (by decide +kernel)) rfl 62 (fun _ => rfl) dX5_layRest_172 175 rfl ?_
            refine q_bipush (v := 13) hC dX5_layRest_175 (by decide) 177 rfl ?_
            refine q_iload_n hC dX5_layRest_177 2 rfl 178 rfl ?_
            refine q_iconst (v := 1) hC dX5_layRest_178 rfl 179 rfl ?_
            refine q_iload hC dX5_layRest_179 6 rfl 181 rfl ?_
            refine q_ishl hC dX5_layRest_181 182 rfl ?_
            refine q_ior hC dX5_layRest_182 183 rfl ?_
            refine q_imul hC dX5_layRest_183 184 rfl ?_
            refine q_iload hC dX5_layRest_184 6 rfl 186 rfl ?_
            refine q_iadd hC dX5_layRest_186 187 rfl ?_
            obtain ⟨hin, hw⟩ := hw
            refine q_iald hC (arF62 hF) hin dX5_layRest_187 188 rfl ?_
            refine q_iadd hC dX5_layRest_188 189 rfl ?_
            refine r_callI hC (go_T (As := [.int v5, .int (r5 + (M6 62 (((13 : Int32) * (v3 ||| ((1 : Int32) <<< (v7 &&& 31)))) + v7).toNatClampNeg))]) (rest := []) hC (ctX5_less (zl z) g M6 v5 (r5 + (M6 62 (((13 : Int32) * (v3 ||| ((1 : Int32) <<< (v7 &&& 31)))) + v7).toNatClampNeg)) _ hw) 2 gX5_layRest_X5_less rfl ⟨rfl, rfl⟩ hdT_X5_less ⟨Nat.le_of_ble_eq_true rfl, Nat.le_of_ble_eq_true rfl⟩ rfl rfl (Nat.le_of_ble_eq_true rfl) dX5_layRest_189) 192 rfl (fun r7 M8 hw => ?_)
            refine q_istore (L' := [(5, .int r7), (0, .ref (gA g 52)), (2, .int v2), (3, .int v3), (4, .int v4), (6, .int v6), (7, .int v7)]) hC dX5_layRest_192 (by decide) rfl 194 rfl ?_
            exact XX.sub [1, 2, 3, 4, 0, 5, 6] rfl (B194 _ hK63 _ hK70 _ (fun M v2 v3 v4 v5 v6 v7 hw => ih M v2 v3 v4 v5 v6 v7 hw) M8 v2 v3 v4 r7 v6 v7 hw)
  have B133 : ∀ (K63 : MM → Int32 → Int32 → Prop) (hK63 : ∀ (M : MM) (v2 : Int32) (v3 : Int32) , K63 M v2 v3 → XX z g Qf 8 63 [(0, .ref (gA g 52)), (2, .int v2), (3, .int v3)] [] M) (K70 : MM → Int32 → Int32 → Int32 → Prop) (hK70 : ∀ (M : MM) (v2 : Int32) (v3 : Int32) (v4 : Int32) , K70 M v2 v3 v4 → XX z g Qf 8 70 [(0, .ref (gA g 52)), (2, .int v2), (3, .int v3), (4, .int v4)] [] M) (M : MM) (v2 : Int32) (v3 : Int32) (v4 : Int32) (v5 : Int32) (p0 : Int32), wX5_layRest_133 Q K63 K70 v1 M v2 v3 v4 v5 p0 → XX z g Qf 8 133 [(0, .ref (gA g 52)), (2, .int v2), (3, .int v3), (4, .int v4), (5, .int v5)] [.int p0] M := by
    intro K63 hK63 K70 hK70 M v2 v3 v4 v5 p0 hw
    refine q_istore (L' := [(6, .int p0), (0, .ref (gA g 52)), (2, .int v2), (3, .int v3), (4, .int v4), (5, .int v5)]) hC dX5_layRest_133 (by decide) rfl 135 rfl ?_
    refine q_iconst (v := 0) hC dX5_layRest_135 rfl 136 rfl ?_
    refine q_istore (L' := [(7, .int 0), (6, .int p0), (0, .ref (gA g 52)), (2, .int v2), (3, .int v3), (4, .int v4), (5, .int v5)]) hC dX5_layRest_136 (by decide) rfl 138 rfl ?_
    obtain ⟨n0, hw⟩ := hw
    exact XX.sub [2, 3, 4, 5, 6, 1, 0] rfl (B138 _ hK63 _ hK70 n0 M v2 v3 v4 v5 p0 0 hw)
  have B132 : ∀ (K63 : MM → Int32 → Int32 → Prop) (hK63 : ∀ (M : MM) (v2 : Int32) (v3 : Int32) , K63 M v2 v3 → XX z g Qf 8 63 [(0, .ref (gA g 52)), (2, .int v2), (3, .int v3)] [] M) (K70 : MM → Int32 → Int32 → Int32 → Prop) (hK70 : ∀ (M : MM) (v2 : Int32) (v3 : Int32) (v4 : Int32) , K70 M v2 v3 v4 → XX z g Qf 8 70 [(0, .ref (gA g 52)), (2, .int v2), (3, .int v3), (4, .int v4)] [] M) (M : MM) (v2 : Int32) (v3 : Int32) (v4 : Int32) (v5 : Int32), wX5_layRest_132 Q K63 K70 v1 M v2 v3 v4 v5 → XX z g Qf 8 132 [(0, .ref (gA g 52)), (2, .int v2), (3, .int v3), (4, .int v4), (5, .int v5)] [] M := by
    intro K63 hK63 K70 hK70 M v2 v3 v4 v5 hw
    refine q_iconst (v := 0) hC dX5_layRest_132 rfl 133 rfl ?_
    exact XX.sub [0, 1, 2, 3, 4] rfl (B133 _ hK63 _ hK70 M v2 v3 v4 v5 0 hw)
  have B88 : ∀ (K63 : MM → Int32 → Int32 → Prop) (hK63 : ∀ (M : MM) (v2 : Int32) (v3 : Int32) , K63 M v2 v3 → XX z g Qf 8 63 [(0, .ref (gA g 52)), (2, .int v2), (3, .int v3)] [] M) (K70 : MM → Int32 → Int32 → Int32 → Prop) (hK70 : ∀ (M : MM) (v2 : Int32) (v3 : Int32) (v4 : Int32) , K70 M v2 v3 v4 → XX z g Qf 8 70 [(0, .ref (gA g 52)), (2, .int v2), (3, .int v3), (4, .int v4)] [] M) (M : MM) (v2 : Int32) (v3 : Int32) (v4 : Int32) (p0 : Int32), wX5_layRest_88 Q K63 K70 v1 M v2 v3 v4 p0 → XX z g Qf 8 88 [(0, .ref (gA g 52)), (2, .int v2), (3, .int v3), (4, .int v4)] [.int p0] M := by
    intro K63 hK63 K70 hK70 M v2 v3 v4 p0 hw
    refine q_istore (L' := [(5, .int p0), (0, .ref (gA g 52)), (2, .int v2), (3, .int v3), (4, .int v4)]) hC dX5_layRest_88 (by decide) rfl 90 rfl ?_
    refine q_iload hC dX5_layRest_90 4 rfl 92 rfl ?_
    refine q_bipush (v := 8) hC dX5_layRest_92 (by decide) 94 rfl ?_
    refine q_icmp_ne hC 109 dX5_layRest_94 (by decide) 97 rfl hw (fun hw => ?_) (fun hw => ?_)
    · refine q_iload hC dX5_layRest_109 4 rfl 111 rfl ?_
      refine q_aload_n hC dX5_layRest_111 1 rfl 112 rfl ?_
      refine q_getI (C := RX5) (T := TX5) (N := 26) (ci := 5) hC inX5_layRest_X5 (obF52 hF) rfl 20 (by decide) (List.mem_of_getElem? (i := 1) (by decide +kernel)) rfl (fun _ => rfl) dX5_layRest_112 115 rfl ?_
      refine q_icmp_ge hC 132 dX5_layRest_115 (by decide) 118 rfl hw (fun hw => ?_) (fun hw => ?_)
      · exact XX.sub [1, 2, 3, 4, 0] rfl (B132 _ hK63 _ hK70 M v2 v3 v4 p0 hw)
      · refine q_iload_n hC dX5_layRest_118 3 rfl 119 rfl ?_
        refine q_iload hC dX5_layRest_119 4 rfl 121 rfl ?_
        refine q_ishr hC dX5_layRest_121 122 rfl ?_
        refine q_iconst (v := 1) hC dX5_layRest_122 rfl 123 rfl ?_
        refine q_iand hC dX5_layRest_123 124 rfl ?_
        refine q_iconst (v := 1) hC dX5_layRest_124 rfl 125 rfl ?_
        refine q_icmp_ne hC 132 dX5_layRest_125 (by decide) 128 rfl hw (fun hw => ?_) (fun hw => ?_)
        · exact XX.sub [1, 2, 3, 4, 0] rfl (B132 _ hK63 _ hK70 M v2 v3 v4 p0 hw)
        · refine q_iconst (v := 1) hC dX5_layRest_128 rfl 129 rfl ?_
          refine q_goto hC 133 dX5_layRest_129 (by decide) ?_
          exact XX.sub [1, 2, 3, 4, 0] rfl (B133 _ hK63 _ hK70 M v2 v3 v4 p0 1 hw)
    · refine q_iload_n hC dX5_layRest_97 3 rfl 98 rfl ?_
      refine q_if_ne hC 105 dX5_layRest_98 (by decide) 101 rfl hw (fun hw => ?_) (fun hw => ?_)
      · refine q_iconst (v := 0) hC dX5_layRest_105 rfl 106 rfl ?_
        refine q_goto hC 133 dX5_layRest_106 (by decide) ?_
        exact XX.sub [1, 2, 3, 4, 0] rfl (B133 _ hK63 _ hK70 M v2 v3 v4 p0 0 hw)
      · refine q_iconst (v := 1) hC dX5_layRest_101 rfl 102 rfl ?_
        refine q_goto hC 133 dX5_layRest_102 (by decide) ?_
        exact XX.sub [1, 2, 3, 4, 0] rfl (B133 _ hK63 _ hK70 M v2 v3 v4 p0 1 hw)
  have B70 : ∀ (K63 : MM → Int32 → Int32 → Prop) (hK63 : ∀ (M : MM) (v2 : Int32) (v3 : Int32) , K63 M v2 v3 → XX z g Qf 8 63 [(0, .ref (gA g 52)), (2, .int v2), (3, .int v3)] [] M) (n : Nat) (M : MM) (v2 : Int32) (v3 : Int32) (v4 : Int32) , wX5_layRest_70 Q K63 v1 n M v2 v3 v4 → XX z g Qf 8 70 [(0, .ref (gA g 52)), (2, .int v2), (3, .int v3), (4, .int v4)] [] M := by
    intro K63 hK63 n
    induction n with
    | zero =>
      intro M v2 v3 v4 hw
      exact hw.elim
    | succ n ih =>
      intro M v2 v3 v4 hw
      refine q_iload hC dX5_layRest_70 3 rfl 72 rfl ?_
      refine q_bipush (v := 9) hC dX5_layRest_72 (by decide) 74 rfl ?_
      refine q_icmp_ge hC 220 dX5_layRest_74 (by decide) 77 rfl hw (fun hw => ?_) (fun hw => ?_)
      · refine q_iinc (v := v3 + (-1)) (L' := [(3, .int (v3 + (-1))), (0, .ref (gA g 52)), (2, .int v2), (4, .int v4)]) hC dX5_layRest_220 2 rfl rfl (by decide) rfl 223 rfl ?_
        refine q_goto hC 63 dX5_layRest_223 (by decide) ?_
        exact XX.sub [1, 2, 0] rfl (hK63 M v2 (v3 + (-1)) hw)
      · refine q_iload_n hC dX5_layRest_77 2 rfl 78 rfl ?_
        refine q_iload_n hC dX5_layRest_78 1 rfl 79 rfl ?_
        refine q_icmp_ne hC 86 dX5_layRest_79 (by decide) 82 rfl hw (fun hw => ?_) (fun hw => ?_)
        · refine q_ldc (v := 2000000000) hC (List.mem_of_getElem? (i := 4) (by decide +kernel)) dX5_layRest_86 88 rfl ?_
          exact XX.sub [0, 1, 2, 3] rfl (B88 _ hK63 _ (fun M v2 v3 v4 hw => ih M v2 v3 v4 hw) M v2 v3 v4 2000000000 hw)
        · refine q_iconst (v := 0) hC dX5_layRest_82 rfl 83 rfl ?_
          refine q_goto hC 88 dX5_layRest_83 (by decide) ?_
          exact XX.sub [0, 1, 2, 3] rfl (B88 _ hK63 _ (fun M v2 v3 v4 hw => ih M v2 v3 v4 hw) M v2 v3 v4 0 hw)
  have B63 : ∀ (n : Nat) (M : MM) (v2 : Int32) (v3 : Int32) , wX5_layRest_63 Q v1 n M v2 v3 → XX z g Qf 8 63 [(0, .ref (gA g 52)), (2, .int v2), (3, .int v3)] [] M := by
    intro n
    induction n with
    | zero =>
      intro M v2 v3 hw
      exact hw.elim
    | succ n ih =>
      intro M v2 v3 hw
      refine q_iload_n hC dX5_layRest_63 2 rfl 64 rfl ?_
      refine q_if_lt hC 226 dX5_layRest_64 (by decide) 67 rfl hw (fun hw => ?_) (fun hw => ?_)
      · exact r_vret hR dX5_layRest_226 hw
      · refine q_iconst (v := 0) hC dX5_layRest_67 rfl 68 rfl ?_
        refine q_istore (L' := [(4, .int 0), (0, .ref (gA g 52)), (2, .int v2), (3, .int v3)]) hC dX5_layRest_68 (by decide) rfl 70 rfl ?_
        obtain ⟨n0, hw⟩ := hw
        exact XX.sub [1, 2, 3, 0] rfl (B70 _ (fun M v2 v3 hw => ih M v2 v3 hw) n0 M v2 v3 0 hw)
  have B46 : ∀ (K7 : MM → Int32 → Prop) (hK7 : ∀ (M : MM) (v2 : Int32) , K7 M v2 → XX z g Qf 8 7 [(0, .ref (gA g 52)), (1, .int v1), (2, .int v2)] [] M) (M : MM) (v2 : Int32), wX5_layRest_46 Q K7 v1 M v2 → XX z g Qf 8 46 [(0, .ref (gA g 52)), (1, .int v1), (2, .int v2)] [] M := by
    intro K7 hK7 M v2 hw
    refine q_iinc (v := v2 + 1) (L' := [(2, .int (v2 + 1)), (0, .ref (gA g 52)), (1, .int v1)]) hC dX5_layRest_46 2 rfl rfl (by decide) rfl 49 rfl ?_
    refine q_goto hC 7 dX5_layRest_49 (by decide) ?_
    exact XX.sub [1, 2, 0] rfl (hK7 M (v2 + 1) hw)
  have B7 : ∀ (n : Nat) (M : MM) (v2 : Int32) , wX5_layRest_7 Q v1 n M v2 → XX z g Qf 8 7 [(0, .ref (gA g 52)), (1, .int v1), (2, .int v2)] [] M := by
    intro n
    induction n with
    | zero =>
      intro M v2 hw
      exact hw.elim
    | succ n ih =>
      intro M v2 hw
      refine q_iload_n hC dX5_layRest_7 2 rfl 8 rfl ?_
      refine q_aload_n hC dX5_layRest_8 0 rfl 9 rfl ?_
      refine q_getR (C := RX5) (T := TX5) (N := 26) (ci := 5) hC inX5_layRest_X5 (obF52 hF) rfl 0 (by decide) (List.mem_of_getElem? (i := 2) (by decide +kernel)) rfl 53 (fun _ => rfl) dX5_layRest_9 12 rfl ?_
      refine q_iconst (v := 0) hC dX5_layRest_12 rfl 13 rfl ?_
      obtain ⟨hin, hw⟩ := hw
      refine q_iald hC (arF53 hF) hin dX5_layRest_13 14 rfl ?_
      refine q_icmp_ge hC 52 dX5_layRest_14 (by decide) 17 rfl hw (fun hw => ?_) (fun hw => ?_)
      · refine q_iconst (v := 1) hC dX5_layRest_52 rfl 53 rfl ?_
        refine q_aload_n hC dX5_layRest_53 0 rfl 54 rfl ?_
        refine q_getI (C := RX5) (T := TX5) (N := 26) (ci := 5) hC inX5_layRest_X5 (obF52 hF) rfl 20 (by decide) (List.mem_of_getElem? (i := 1) (by decide +kernel)) rfl (fun _ => rfl) dX5_layRest_54 57 rfl ?_
        refine q_ishl hC dX5_layRest_57 58 rfl ?_
        refine q_iconst (v := 1) hC dX5_layRest_58 rfl 59 rfl ?_
        refine q_isub hC dX5_layRest_59 60 rfl ?_
        refine q_nameI (fun x2 ex2 => ?_)
        have hw := hw x2 ex2
        refine q_istore_n (L' := [(2, .int x2), (0, .ref (gA g 52)), (1, .int v1)]) hC dX5_layRest_60 (by decide) rfl 61 rfl ?_
        refine q_iload_n hC dX5_layRest_61 0 rfl 62 rfl ?_
        refine q_istore_n (L' := [(3, .int x2), (2, .int x2), (0, .ref (gA g 52)), (1, .int v1)]) hC dX5_layRest_62 (by decide) rfl 63 rfl ?_
        obtain ⟨n0, hw⟩ := hw
        exact XX.sub [2, 1, 0] rfl (B63 n0 M x2 x2 hw)
      · refine q_iload_n hC dX5_layRest_17 1 rfl 18 rfl ?_
        refine q_iload_n hC dX5_layRest_18 2 rfl 19 rfl ?_
        refine q_ishr hC dX5_layRest_19 20 rfl ?_
        refine q_iconst (v := 1) hC dX5_layRest_20 rfl 21 rfl ?_
        refine q_iand hC dX5_layRest_21 22 rfl ?_
        refine q_iconst (v := 1) hC dX5_layRest_22 rfl 23 rfl ?_
        refine q_icmp_ne hC 46 dX5_layRest_23 (by decide) 26 rfl hw (fun hw => ?_) (fun hw => ?_)
        · exact XX.sub [0, 1, 2] rfl (B46 _ (fun M v2 hw => ih M v2 hw) M v2 hw)
        · refine q_aload_n hC dX5_layRest_26 0 rfl 27 rfl ?_
          refine q_getR (C := RX5) (T := TX5) (N := 26) (ci := 5) hC inX5_layRest_X5 (obF52 hF) rfl 19 (by decide) (List.mem_of_getElem? (i := 3) (by decide +kernel)) rfl 63 (fun _ => rfl) dX5_layRest_27 30 rfl ?_
          refine q_aload_n hC dX5_layRest_30 0 rfl 31 rfl ?_
          refine q_getI (C := RX5) (T := TX5) (N := 26) (ci := 5) hC inX5_layRest_X5 (obF52 hF) rfl 20 (by decide) (List.mem_of_getElem? (i := 1) (by decide +kernel)) rfl (fun _ => rfl) dX5_layRest_31 34 rfl ?_
          refine q_iload_n hC dX5_layRest_34 2 rfl 35 rfl ?_
          obtain ⟨hin, hw⟩ := hw
          refine q_iast hC (arF63 hF) hin dX5_layRest_35 36 rfl (fun M3 eM3 => ?_)
          have hw := hw M3 eM3
          refine q_aload_n hC dX5_layRest_36 0 rfl 37 rfl ?_
          refine q_dup hC dX5_layRest_37 rfl 38 rfl ?_
          refine q_getI (C := RX5) (T := TX5) (N := 26) (ci := 5) hC inX5_layRest_X5 (obF52 hF) rfl 20 (by decide) (List.mem_of_getElem? (i := 1) (by decide +kernel)) rfl (fun _ => rfl) dX5_layRest_38 41 rfl ?_
          refine q_iconst (v := 1) hC dX5_layRest_41 rfl 42 rfl ?_
          refine q_iadd hC dX5_layRest_42 43 rfl ?_
          refine q_putI (C := RX5) (T := TX5) (N := 26) (ci := 5) hC inX5_layRest_X5 tyX5 tyX5_ok nmX5 (obF52 hF) rfl 20 (by decide) (List.mem_of_getElem? (i := 1) (by decide +kernel)) rfl rfl rfl (fun _ => Nat.le_of_ble_eq_true rfl) (fun _ => rfl) dX5_layRest_43 46 rfl (fun M4 eM4 => ?_)
          have hw := hw M4 eM4
          exact XX.sub [0, 1, 2] rfl (B46 _ (fun M v2 hw => ih M v2 hw) M4 v2 hw)
  refine q_aload_n hC dX5_layRest_0 0 rfl 1 rfl ?_
  refine q_iconst (v := 0) hC dX5_layRest_1 rfl 2 rfl ?_
  refine q_putI (C := RX5) (T := TX5) (N := 26) (ci := 5) hC inX5_layRest_X5 tyX5 tyX5_ok nmX5 (obF52 hF) rfl 20 (by decide) (List.mem_of_getElem? (i := 1) (by decide +kernel)) rfl rfl rfl (fun _ => Nat.le_of_ble_eq_true rfl) (fun _ => rfl) dX5_layRest_2 5 rfl (fun M1 eM1 => ?_)
  have hw := hw M1 eM1
  refine q_iconst (v := 0) hC dX5_layRest_5 rfl 6 rfl ?_
  refine q_istore_n (L' := [(2, .int 0), (0, .ref (gA g 52)), (1, .int v1)]) hC dX5_layRest_6 (by decide) rfl 7 rfl ?_
  obtain ⟨n0, hw⟩ := hw
  exact XX.sub [1, 2, 0] rfl (B7 n0 M1 0 hw)
