theorem hdV_X2_moveBlock : yX2_moveBlock.cls = RX2 ∧ yX2_moveBlock.cls ≠ "java/lang/invoke/MethodHandle" ∧ yX2_moveBlock.cls ≠ "java/lang/invoke/VarHandle" ∧ (parseMethodDescriptor yX2_moveBlock.desc).map (fun d => d.parameters.length) = some 3 := by decide +kernel
theorem inX2_cutOut_X2 : ∀ w ∈ u_ws RX2 TX2 14, w ∈ wsX2_cutOut := uX2_cutOut__wsX20
set_option maxRecDepth 100000 in
set_option maxHeartbeats 4000000 in
theorem ctX2_cutOut (l : Launch) (g : GG) (M : MM) (b : Nat) (v1 : Int32) (v2 : Int32) (Q : Int32 → MM → Prop) (hb : tpl g b) (hw : wX2_cutOut Q M b v1 v2) : MI g l yX2_cutOut wsX2_cutOut (rmOf 3 69) [.ref (gA g b), .int v1, .int v2] M Q := by
  refine mk_MI (cc := cX2_cutOut) (maxL := 7) (by decide) rfl (Nat.le_of_ble_eq_true rfl) ?_
  intro z Qf hC hR
  show XX z g Qf 7 0 [(0, .ref (gA g b)), (1, .int v1), (2, .int v2)] [] M
  have B139 : ∀ (M : MM) (v3 : Int32) (v4 : Int32), wX2_cutOut_139 Q b v1 v2 M v3 v4 → XX z g Qf 7 139 [(3, .int v3), (4, .int v4)] [] M := by
    intro M v3 v4 hw
    refine q_iload hC dX2_cutOut_139 1 rfl 141 rfl ?_
    refine q_iload_n hC dX2_cutOut_141 0 rfl 142 rfl ?_
    refine q_isub hC dX2_cutOut_142 143 rfl ?_
    exact r_iret hR dX2_cutOut_143 hw
  have B75 : ∀ (K11 : MM → Int32 → Int32 → Int32 → Prop) (hK11 : ∀ (M : MM) (v3 : Int32) (v4 : Int32) (v5 : Int32) , K11 M v3 v4 v5 → XX z g Qf 7 11 [(0, .ref (gA g b)), (1, .int v1), (2, .int v2), (3, .int v3), (4, .int v4), (5, .int v5)] [] M) (M : MM) (v3 : Int32) (v4 : Int32) (v5 : Int32), wX2_cutOut_75 Q K11 b v1 v2 M v3 v4 v5 → XX z g Qf 7 75 [(0, .ref (gA g b)), (1, .int v1), (2, .int v2), (3, .int v3), (4, .int v4), (5, .int v5)] [] M := by
    intro K11 hK11 M v3 v4 v5 hw
    refine q_iinc (v := v5 + 1) (L' := [(5, .int (v5 + 1)), (0, .ref (gA g b)), (1, .int v1), (2, .int v2), (3, .int v3), (4, .int v4)]) hC dX2_cutOut_75 5 rfl rfl (by decide) rfl 78 rfl ?_
    refine q_goto hC 11 dX2_cutOut_78 (by decide) ?_
    exact XX.sub [1, 2, 3, 4, 5, 0] rfl (hK11 M v3 v4 (v5 + 1) hw)
  have B69 : ∀ (K11 : MM → Int32 → Int32 → Int32 → Prop) (hK11 : ∀ (M : MM) (v3 : Int32) (v4 : Int32) (v5 : Int32) , K11 M v3 v4 v5 → XX z g Qf 7 11 [(0, .ref (gA g b)), (1, .int v1), (2, .int v2), (3, .int v3), (4, .int v4), (5, .int v5)] [] M) (M : MM) (v3 : Int32) (v4 : Int32) (v5 : Int32) (p0 : Int32) (p1 : Int32) (p2 : Int32), wX2_cutOut_69 Q K11 b v1 v2 M v3 v4 v5 p0 p1 p2 → XX z g Qf 7 69 [(0, .ref (gA g b)), (1, .int v1), (2, .int v2), (3, .int v3), (4, .int v4), (5, .int v5)] [.int p0, .int p1, .int p2, .ref (gA g b)] M := by
    intro K11 hK11 M v3 v4 v5 p0 p1 p2 hw
    refine r_callV hC (go_V (q := (RX2, TX2, 14)) (As := [.int p2, .int p1, .int p0]) (rest := []) hC (ctX2_moveBlock (zl z) g M b p2 p1 p0 _ hb hw) 3 gX2_cutOut_X2_moveBlock rfl ⟨rfl, rfl⟩ hdV_X2_moveBlock ⟨Nat.le_of_ble_eq_true rfl, Nat.le_of_ble_eq_true rfl⟩ hb.ob rfl rfl rfl (Nat.le_of_ble_eq_true rfl) dX2_cutOut_69) 72 rfl (fun M11 hw => ?_)
    refine q_iinc (v := v3 + 1) (L' := [(3, .int (v3 + 1)), (0, .ref (gA g b)), (1, .int v1), (2, .int v2), (4, .int v4), (5, .int v5)]) hC dX2_cutOut_72 3 rfl rfl (by decide) rfl 75 rfl ?_
    exact XX.sub [1, 2, 3, 0, 4, 5] rfl (B75 _ hK11 M11 (v3 + 1) v4 v5 hw)
  have B53 : ∀ (K11 : MM → Int32 → Int32 → Int32 → Prop) (hK11 : ∀ (M : MM) (v3 : Int32) (v4 : Int32) (v5 : Int32) , K11 M v3 v4 v5 → XX z g Qf 7 11 [(0, .ref (gA g b)), (1, .int v1), (2, .int v2), (3, .int v3), (4, .int v4), (5, .int v5)] [] M) (M : MM) (v3 : Int32) (v4 : Int32) (v5 : Int32) (v6 : Int32), wX2_cutOut_53 Q K11 b v1 v2 M v3 v4 v5 v6 → XX z g Qf 7 53 [(0, .ref (gA g b)), (1, .int v1), (2, .int v2), (3, .int v3), (4, .int v4), (5, .int v5), (6, .int v6)] [] M := by
    intro K11 hK11 M v3 v4 v5 v6 hw
    refine q_aload_n hC dX2_cutOut_53 0 rfl 54 rfl ?_
    refine q_iload hC dX2_cutOut_54 5 rfl 56 rfl ?_
    refine q_iload_n hC dX2_cutOut_56 3 rfl 57 rfl ?_
    refine q_iload hC dX2_cutOut_57 6 rfl 59 rfl ?_
    refine q_if_eq hC 68 dX2_cutOut_59 (by decide) 62 rfl hw (fun hw => ?_) (fun hw => ?_)
    · refine q_iconst (v := 0) hC dX2_cutOut_68 rfl 69 rfl ?_
      exact XX.sub [0, 1, 2, 3, 4, 5] rfl (B69 _ hK11 M v3 v4 v5 0 v3 v5 hw)
    · refine q_iload_n hC dX2_cutOut_62 2 rfl 63 rfl ?_
      refine q_iload_n hC dX2_cutOut_63 1 rfl 64 rfl ?_
      refine q_isub hC dX2_cutOut_64 65 rfl ?_
      refine q_goto hC 69 dX2_cutOut_65 (by decide) ?_
      exact XX.sub [0, 1, 2, 3, 4, 5] rfl (B69 _ hK11 M v3 v4 v5 (v2 - v1) v3 v5 hw)
  have B33 : ∀ (K11 : MM → Int32 → Int32 → Int32 → Prop) (hK11 : ∀ (M : MM) (v3 : Int32) (v4 : Int32) (v5 : Int32) , K11 M v3 v4 v5 → XX z g Qf 7 11 [(0, .ref (gA g b)), (1, .int v1), (2, .int v2), (3, .int v3), (4, .int v4), (5, .int v5)] [] M) (M : MM) (v3 : Int32) (v4 : Int32) (v5 : Int32) (p0 : Int32), wX2_cutOut_33 Q K11 b v1 v2 M v3 v4 v5 p0 → XX z g Qf 7 33 [(0, .ref (gA g b)), (1, .int v1), (2, .int v2), (3, .int v3), (4, .int v4), (5, .int v5)] [.int p0] M := by
    intro K11 hK11 M v3 v4 v5 p0 hw
    refine q_istore (L' := [(6, .int p0), (0, .ref (gA g b)), (1, .int v1), (2, .int v2), (3, .int v3), (4, .int v4), (5, .int v5)]) hC dX2_cutOut_33 (by decide) rfl 35 rfl ?_
    refine q_iload hC dX2_cutOut_35 0 rfl 37 rfl ?_
    refine q_if_ne hC 53 dX2_cutOut_37 (by decide) 40 rfl hw (fun hw => ?_) (fun hw => ?_)
    · exact XX.sub [1, 2, 3, 4, 5, 6, 0] rfl (B53 _ hK11 M v3 v4 v5 p0 hw)
    · refine q_aload_n hC dX2_cutOut_40 1 rfl 41 rfl ?_
      refine q_iload hC dX2_cutOut_41 6 rfl 43 rfl ?_
      refine r_callI hC (go_V (q := (RX2, TX2, 14)) (As := [.int v5]) (rest := []) hC (ctX2_endOf (zl z) g M b v5 _ hb hw) 1 gX2_cutOut_X2_endOf rfl ⟨rfl, rfl⟩ hdV_X2_endOf ⟨Nat.le_of_ble_eq_true rfl, Nat.le_of_ble_eq_true rfl⟩ hb.ob rfl rfl rfl (Nat.le_of_ble_eq_true rfl) dX2_cutOut_43) 46 rfl (fun r9 M10 hw => ?_)
      refine q_iload_n hC dX2_cutOut_46 2 rfl 47 rfl ?_
      refine q_icmp_le hC 53 dX2_cutOut_47 (by decide) 50 rfl hw (fun hw => ?_) (fun hw => ?_)
      · exact XX.sub [1, 2, 3, 4, 5, 6, 0] rfl (B53 _ hK11 M10 v3 v4 v5 p0 hw)
      · refine q_goto hC 75 dX2_cutOut_50 (by decide) ?_
        exact XX.sub [1, 2, 3, 4, 5, 6] rfl (B75 _ hK11 M10 v3 v4 v5 hw)
  have B11 : ∀ (n : Nat) (M : MM) (v3 : Int32) (v4 : Int32) (v5 : Int32) , wX2_cutOut_11 Q b v1 v2 n M v3 v4 v5 → XX z g Qf 7 11 [(0, .ref (gA g b)), (1, .int v1), (2, .int v2), (3, .int v3), (4, .int v4), (5, .int v5)] [] M := by
    intro n
    induction n with
    | zero =>
      intro M v3 v4 v5 hw
      exact hw.elim
    | succ n ih =>
      intro M v3 v4 v5 hw
      refine q_iload hC dX2_cutOut_11 5 rfl 13 rfl ?_
      refine q_iload hC dX2_cutOut_13 4 rfl 15 rfl ?_
      refine q_icmp_ge hC 81 dX2_cutOut_15 (by decide) 18 rfl hw (fun hw => ?_) (fun hw => ?_)
      · refine q_aload_n hC dX2_cutOut_81 0 rfl 82 rfl ?_
        refine q_iload_n hC dX2_cutOut_82 3 rfl 83 rfl ?_
        refine q_putI (C := RX2) (T := TX2) (N := 14) (ci := 2) hC inX2_cutOut_X2 tyX2 tyX2_ok nmX2 hb.ob rfl 8 (by decide) (uX2_cutOut__X2_hasBlock _ (List.mem_of_getElem? (l := owX2_hasBlock) (i := 1) rfl)) rfl rfl rfl (fun _ => Nat.le_of_ble_eq_true rfl) (fun _ => rfl) dX2_cutOut_83 86 rfl (fun M1 eM1 => ?_)
        have hw := hw M1 eM1
        refine q_aload_n hC dX2_cutOut_86 0 rfl 87 rfl ?_
        refine q_getR (C := RX2) (T := TX2) (N := 14) (ci := 2) hC inX2_cutOut_X2 hb.ob rfl 0 (by decide) (uX2_cutOut__X2_ruled _ (List.mem_of_getElem? (l := owX2_ruled) (i := 1) rfl)) rfl (b + 1) (fun _ => rfl) dX2_cutOut_87 90 rfl ?_
        refine q_iconst (v := 0) hC dX2_cutOut_90 rfl 91 rfl ?_
        refine q_aload_n hC dX2_cutOut_91 0 rfl 92 rfl ?_
        refine q_iconst (v := 0) hC dX2_cutOut_92 rfl 93 rfl ?_
        refine r_callI hC (go_V (q := (RX2, TX2, 14)) (As := [.int 0]) (rest := [.int 0, .ref (gA g (b + 1))]) hC (ctX2_ruled (zl z) g M1 b 0 _ hb hw) 1 gX2_cutOut_X2_ruled rfl ⟨rfl, rfl⟩ hdV_X2_ruled ⟨Nat.le_of_ble_eq_true rfl, Nat.le_of_ble_eq_true rfl⟩ hb.ob rfl rfl rfl (Nat.le_of_ble_eq_true rfl) dX2_cutOut_93) 96 rfl (fun r2 M3 hw => ?_)
        refine q_iload_n hC dX2_cutOut_96 2 rfl 97 rfl ?_
        refine q_iload_n hC dX2_cutOut_97 1 rfl 98 rfl ?_
        refine q_isub hC dX2_cutOut_98 99 rfl ?_
        refine q_isub hC dX2_cutOut_99 100 rfl ?_
        refine r_callV hC (go_N (As := [.ref (gA g (b + 1)), .int 0, .int (r2 - (v2 - v1))]) (rest := []) hC (ctX4_setCell (zl z) g M3 (b + 1) 0 (r2 - (v2 - v1)) _ (hb.ar 1 (by decide) (by decide)) hw) 3 gX2_cutOut_X4_setCell_n139 rfl ⟨rfl, rfl⟩ 7 rfl (uX2_cutOut__X2_beginOf _ (List.mem_of_getElem? (l := owX2_beginOf) (i := 3) rfl)) (uX2_cutOut__X2_setColumn _ (List.mem_of_getElem? (l := owX2_setColumn) (i := 2) rfl)) hdT_X4_setCell ⟨Nat.le_of_ble_eq_true rfl, Nat.le_of_ble_eq_true rfl⟩ rfl rfl (Nat.le_of_ble_eq_true rfl) dX2_cutOut_100) 103 rfl (fun M4 hw => ?_)
        refine q_aload_n hC dX2_cutOut_103 0 rfl 104 rfl ?_
        refine q_getI (C := RX2) (T := TX2) (N := 14) (ci := 2) hC inX2_cutOut_X2 hb.ob rfl 9 (by decide) (uX2_cutOut__o _ (List.mem_of_getElem? (l := owX2_cutOut) (i := 1) rfl)) rfl (fun _ => rfl) dX2_cutOut_104 107 rfl ?_
        refine q_iload_n hC dX2_cutOut_107 2 rfl 108 rfl ?_
        refine q_icmp_lt hC 126 dX2_cutOut_108 (by decide) 111 rfl hw (fun hw => ?_) (fun hw => ?_)
        · refine q_aload_n hC dX2_cutOut_126 0 rfl 127 rfl ?_
          refine q_getI (C := RX2) (T := TX2) (N := 14) (ci := 2) hC inX2_cutOut_X2 hb.ob rfl 9 (by decide) (uX2_cutOut__o _ (List.mem_of_getElem? (l := owX2_cutOut) (i := 1) rfl)) rfl (fun _ => rfl) dX2_cutOut_127 130 rfl ?_
          refine q_iload_n hC dX2_cutOut_130 1 rfl 131 rfl ?_
          refine q_icmp_le hC 139 dX2_cutOut_131 (by decide) 134 rfl hw (fun hw => ?_) (fun hw => ?_)
          · exact XX.sub [3, 4] rfl (B139 M4 v3 v4 hw)
          · refine q_aload_n hC dX2_cutOut_134 0 rfl 135 rfl ?_
            refine q_iload_n hC dX2_cutOut_135 1 rfl 136 rfl ?_
            refine q_putI (C := RX2) (T := TX2) (N := 14) (ci := 2) hC inX2_cutOut_X2 tyX2 tyX2_ok nmX2 hb.ob rfl 9 (by decide) (uX2_cutOut__o _ (List.mem_of_getElem? (l := owX2_cutOut) (i := 1) rfl)) rfl rfl rfl (fun _ => Nat.le_of_ble_eq_true rfl) (fun _ => rfl) dX2_cutOut_136 139 rfl (fun M5 eM5 => ?_)
            have hw := hw M5 eM5
            exact XX.sub [3, 4] rfl (B139 M5 v3 v4 hw)
        · refine q_aload_n hC dX2_cutOut_111 0 rfl 112 rfl ?_
          refine q_dup hC dX2_cutOut_112 rfl 113 rfl ?_
          refine q_getI (C := RX2) (T := TX2) (N := 14) (ci := 2) hC inX2_cutOut_X2 hb.ob rfl 9 (by decide) (uX2_cutOut__o _ (List.mem_of_getElem? (l := owX2_cutOut) (i := 1) rfl)) rfl (fun _ => rfl) dX2_cutOut_113 116 rfl ?_
          refine q_iload_n hC dX2_cutOut_116 2 rfl 117 rfl ?_
          refine q_iload_n hC dX2_cutOut_117 1 rfl 118 rfl ?_
          refine q_isub hC dX2_cutOut_118 119 rfl ?_
          refine q_isub hC dX2_cutOut_119 120 rfl ?_
          refine q_putI (C := RX2) (T := TX2) (N := 14) (ci := 2) hC inX2_cutOut_X2 tyX2 tyX2_ok nmX2 hb.ob rfl 9 (by decide) (uX2_cutOut__o _ (List.mem_of_getElem? (l := owX2_cutOut) (i := 1) rfl)) rfl rfl rfl (fun _ => Nat.le_of_ble_eq_true rfl) (fun _ => rfl) dX2_cutOut_120 123 rfl (fun M6 eM6 => ?_)
          have hw := hw M6 eM6
          refine q_goto hC 139 dX2_cutOut_123 (by decide) ?_
          exact XX.sub [3, 4] rfl (B139 M6 v3 v4 hw)
      · refine q_aload_n hC dX2_cutOut_18 0 rfl 19 rfl ?_
        refine q_iload hC dX2_cutOut_19 5 rfl 21 rfl ?_
        refine r_callI hC (go_V (q := (RX2, TX2, 14)) (As := [.int v5]) (rest := []) hC (ctX2_beginOf (zl z) g M b v5 _ hb hw) 1 gX2_cutOut_X2_beginOf rfl ⟨rfl, rfl⟩ hdV_X2_beginOf ⟨Nat.le_of_ble_eq_true rfl, Nat.le_of_ble_eq_true rfl⟩ hb.ob rfl rfl rfl (Nat.le_of_ble_eq_true rfl) dX2_cutOut_21) 24 rfl (fun r7 M8 hw => ?_)
        refine q_iload_n hC dX2_cutOut_24 2 rfl 25 rfl ?_
        refine q_icmp_lt hC 32 dX2_cutOut_25 (by decide) 28 rfl hw (fun hw => ?_) (fun hw => ?_)
        · refine q_iconst (v := 0) hC dX2_cutOut_32 rfl 33 rfl ?_
          exact XX.sub [0, 1, 2, 3, 4, 5] rfl (B33 _ (fun M v3 v4 v5 hw => ih M v3 v4 v5 hw) M8 v3 v4 v5 0 hw)
        · refine q_iconst (v := 1) hC dX2_cutOut_28 rfl 29 rfl ?_
          refine q_goto hC 33 dX2_cutOut_29 (by decide) ?_
          exact XX.sub [0, 1, 2, 3, 4, 5] rfl (B33 _ (fun M v3 v4 v5 hw => ih M v3 v4 v5 hw) M8 v3 v4 v5 1 hw)
  refine q_iconst (v := 0) hC dX2_cutOut_0 rfl 1 rfl ?_
  refine q_istore_n (L' := [(3, .int 0), (0, .ref (gA g b)), (1, .int v1), (2, .int v2)]) hC dX2_cutOut_1 (by decide) rfl 2 rfl ?_
  refine q_aload_n hC dX2_cutOut_2 1 rfl 3 rfl ?_
  refine q_getI (C := RX2) (T := TX2) (N := 14) (ci := 2) hC inX2_cutOut_X2 hb.ob rfl 8 (by decide) (uX2_cutOut__X2_hasBlock _ (List.mem_of_getElem? (l := owX2_hasBlock) (i := 1) rfl)) rfl (fun _ => rfl) dX2_cutOut_3 6 rfl ?_
  refine q_istore (L' := [(4, .int (M b 8)), (3, .int 0), (0, .ref (gA g b)), (1, .int v1), (2, .int v2)]) hC dX2_cutOut_6 (by decide) rfl 8 rfl ?_
  refine q_iconst (v := 0) hC dX2_cutOut_8 rfl 9 rfl ?_
  refine q_istore (L' := [(5, .int 0), (4, .int (M b 8)), (3, .int 0), (0, .ref (gA g b)), (1, .int v1), (2, .int v2)]) hC dX2_cutOut_9 (by decide) rfl 11 rfl ?_
  obtain ⟨n0, hw⟩ := hw
  exact XX.sub [3, 4, 5, 2, 1, 0] rfl (B11 n0 M 0 (M b 8) 0 hw)
set_option maxRecDepth 100000 in
set_option maxHeartbeats 4000000 in
theorem ctX2_hasColumn (l : Launch) (g : GG) (M : MM) (b : Nat) (v1 : Int32) (v2 : Int32) (Q : Int32 → MM → Prop) (hb : tpl g b) (hw : wX2_hasColumn Q M b v1 v2) : MI g l yX2_hasColumn wsX2_hasColumn (rmOf 3 63) [.ref (gA g b), .int v1, .int v2] M Q := by
  refine mk_MZ (cc := cX2_hasColumn) (maxL := 3) (by decide) rfl (Nat.le_of_ble_eq_true rfl) ?_
  intro z Qf hC hR
  show XX z g Qf 3 0 [(0, .ref (gA g b)), (1, .int v1), (2, .int v2)] [] M
  have B33 : ∀ (M : MM), wX2_hasColumn_33 Q b v1 v2 M → XX z g Qf 3 33 [] [] M := by
    intro M hw
    refine q_iconst (v := 0) hC dX2_hasColumn_33 rfl 34 rfl ?_
    exact r_iret hR dX2_hasColumn_34 ⟨nb_0, hw⟩
  refine q_aload_n hC dX2_hasColumn_0 0 rfl 1 rfl ?_
  refine q_iload_n hC dX2_hasColumn_1 1 rfl 2 rfl ?_
  refine r_callI hC (go_V (q := (RX2, TX2, 14)) (As := [.int v1]) (rest := []) hC (ctX2_hasBlock (zl z) g M b v1 _ hb hw) 1 gX2_hasColumn_X2_hasBlock rfl ⟨rfl, rfl⟩ hdV_X2_hasBlock ⟨Nat.le_of_ble_eq_true rfl, Nat.le_of_ble_eq_true rfl⟩ hb.ob rfl rfl rfl (Nat.le_of_ble_eq_true rfl) dX2_hasColumn_2) 5 rfl (fun r1 M2 hw => ?_)
  refine q_if_eq hC 33 dX2_hasColumn_5 (by decide) 8 rfl hw (fun hw => ?_) (fun hw => ?_)
  · exact XX.sub [] rfl (B33 M2 hw)
  · refine q_aload_n hC dX2_hasColumn_8 0 rfl 9 rfl ?_
    refine q_iload_n hC dX2_hasColumn_9 1 rfl 10 rfl ?_
    refine r_callI hC (go_V (q := (RX2, TX2, 14)) (As := [.int v1]) (rest := []) hC (ctX2_isMark (zl z) g M2 b v1 _ hb hw) 1 gX2_hasColumn_X2_isMark rfl ⟨rfl, rfl⟩ hdV_X2_isMark ⟨Nat.le_of_ble_eq_true rfl, Nat.le_of_ble_eq_true rfl⟩ hb.ob rfl rfl rfl (Nat.le_of_ble_eq_true rfl) dX2_hasColumn_10) 13 rfl (fun r3 M4 hw => ?_)
    refine q_if_ne hC 33 dX2_hasColumn_13 (by decide) 16 rfl hw (fun hw => ?_) (fun hw => ?_)
    · exact XX.sub [] rfl (B33 M4 hw)
    · refine q_iload_n hC dX2_hasColumn_16 2 rfl 17 rfl ?_
      refine q_iconst (v := 0) hC dX2_hasColumn_17 rfl 18 rfl ?_
      refine q_aload_n hC dX2_hasColumn_18 0 rfl 19 rfl ?_
      refine q_iload_n hC dX2_hasColumn_19 1 rfl 20 rfl ?_
      refine r_callI hC (go_V (q := (RX2, TX2, 14)) (As := [.int v1]) (rest := [.int 0, .int v2]) hC (ctX2_sizeOf (zl z) g M4 b v1 _ hb hw) 1 gX2_hasColumn_X2_sizeOf rfl ⟨rfl, rfl⟩ hdV_X2_sizeOf ⟨Nat.le_of_ble_eq_true rfl, Nat.le_of_ble_eq_true rfl⟩ hb.ob rfl rfl rfl (Nat.le_of_ble_eq_true rfl) dX2_hasColumn_20) 23 rfl (fun r5 M6 hw => ?_)
      refine r_callI hC (go_N (As := [.int v2, .int 0, .int r5]) (rest := []) hC (ctX4_isBetween (zl z) g M6 v2 0 r5 _ hw) 3 gX2_hasColumn_X4_isBetween_n69 rfl ⟨rfl, rfl⟩ 9 rfl (uX2_hasColumn__X2_hasBlock _ (List.mem_of_getElem? (l := owX2_hasBlock) (i := 3) rfl)) (uX2_hasColumn__X2_hasBlock _ (List.mem_of_getElem? (l := owX2_hasBlock) (i := 2) rfl)) hdT_X4_isBetween ⟨Nat.le_of_ble_eq_true rfl, Nat.le_of_ble_eq_true rfl⟩ rfl rfl (Nat.le_of_ble_eq_true rfl) dX2_hasColumn_23) 26 rfl (fun r7 M8 hw => ?_)
      refine q_if_eq hC 33 dX2_hasColumn_26 (by decide) 29 rfl hw (fun hw => ?_) (fun hw => ?_)
      · exact XX.sub [] rfl (B33 M8 hw)
      · refine q_iconst (v := 1) hC dX2_hasColumn_29 rfl 30 rfl ?_
        refine q_goto hC 34 dX2_hasColumn_30 (by decide) ?_
        exact r_iret hR dX2_hasColumn_34 ⟨nb_1, hw⟩
set_option maxRecDepth 100000 in
set_option maxHeartbeats 4000000 in
theorem ctX2_turnBit (l : Launch) (g : GG) (M : MM) (b : Nat) (v1 : Int32) (v2 : Int32) (v3 : Int32) (Q : Int32 → MM → Prop) (hb : tpl g b) (hw : wX2_turnBit Q M b v1 v2 v3) : MI g l yX2_turnBit wsX2_turnBit (rmOf 2 45) [.ref (gA g b), .int v1, .int v2, .int v3] M Q := by
  refine mk_MI (cc := cX2_turnBit) (maxL := 4) (by decide) rfl (Nat.le_of_ble_eq_true rfl) ?_
  intro z Qf hC hR
  show XX z g Qf 4 0 [(0, .ref (gA g b)), (1, .int v1), (2, .int v2), (3, .int v3)] [] M
  refine q_aload_n hC dX2_turnBit_0 0 rfl 1 rfl ?_
  refine q_iload_n hC dX2_turnBit_1 1 rfl 2 rfl ?_
  refine q_iload_n hC dX2_turnBit_2 2 rfl 3 rfl ?_
  refine q_aload_n hC dX2_turnBit_3 0 rfl 4 rfl ?_
  refine q_iload_n hC dX2_turnBit_4 1 rfl 5 rfl ?_
  refine q_iload_n hC dX2_turnBit_5 2 rfl 6 rfl ?_
  refine r_callI hC (go_V (q := (RX2, TX2, 14)) (As := [.int v1, .int v2]) (rest := [.int v2, .int v1, .ref (gA g b)]) hC (ctX2_columnOf (zl z) g M b v1 v2 _ hb hw) 2 gX2_turnBit_X2_columnOf rfl ⟨rfl, rfl⟩ hdV_X2_columnOf ⟨Nat.le_of_ble_eq_true rfl, Nat.le_of_ble_eq_true rfl⟩ hb.ob rfl rfl rfl (Nat.le_of_ble_eq_true rfl) dX2_turnBit_6) 9 rfl (fun r1 M2 hw => ?_)
  refine q_iconst (v := 1) hC dX2_turnBit_9 rfl 10 rfl ?_
  refine q_iload_n hC dX2_turnBit_10 3 rfl 11 rfl ?_
  refine q_ishl hC dX2_turnBit_11 12 rfl ?_
  refine q_ixor hC dX2_turnBit_12 13 rfl ?_
  refine r_callV hC (go_V (q := (RX2, TX2, 14)) (As := [.int v1, .int v2, .int (r1 ^^^ ((1 : Int32) <<< (v3 &&& 31)))]) (rest := []) hC (ctX2_setColumn (zl z) g M2 b v1 v2 (r1 ^^^ ((1 : Int32) <<< (v3 &&& 31))) _ hb hw) 3 gX2_turnBit_X2_setColumn rfl ⟨rfl, rfl⟩ hdV_X2_setColumn ⟨Nat.le_of_ble_eq_true rfl, Nat.le_of_ble_eq_true rfl⟩ hb.ob rfl rfl rfl (Nat.le_of_ble_eq_true rfl) dX2_turnBit_13) 16 rfl (fun M3 hw => ?_)
  refine q_aload_n hC dX2_turnBit_16 0 rfl 17 rfl ?_
  refine q_iload_n hC dX2_turnBit_17 1 rfl 18 rfl ?_
  refine q_iload_n hC dX2_turnBit_18 2 rfl 19 rfl ?_
  refine r_callI hC (go_V (q := (RX2, TX2, 14)) (As := [.int v1, .int v2]) (rest := []) hC (ctX2_columnOf (zl z) g M3 b v1 v2 _ hb hw) 2 gX2_turnBit_X2_columnOf rfl ⟨rfl, rfl⟩ hdV_X2_columnOf ⟨Nat.le_of_ble_eq_true rfl, Nat.le_of_ble_eq_true rfl⟩ hb.ob rfl rfl rfl (Nat.le_of_ble_eq_true rfl) dX2_turnBit_19) 22 rfl (fun r4 M5 hw => ?_)
  exact r_iret hR dX2_turnBit_22 hw
set_option maxRecDepth 100000 in
set_option maxHeartbeats 4000000 in
theorem ctX2_isWrongAlong (l : Launch) (g : GG) (M : MM) (b : Nat) (v1 : Int32) (v2 : Int32) (Q : Int32 → MM → Prop) (hb : tpl g b) (hw : wX2_isWrongAlong Q M b v1 v2) : MI g l yX2_isWrongAlong wsX2_isWrongAlong (rmOf 2 43) [.ref (gA g b), .int v1, .int v2] M Q := by
  refine mk_MZ (cc := cX2_isWrongAlong) (maxL := 3) (by decide) rfl (Nat.le_of_ble_eq_true rfl) ?_
  intro z Qf hC hR
  show XX z g Qf 3 0 [(0, .ref (gA g b)), (1, .int v1), (2, .int v2)] [] M
  refine q_aload_n hC dX2_isWrongAlong_0 0 rfl 1 rfl ?_
  refine q_iload_n hC dX2_isWrongAlong_1 1 rfl 2 rfl ?_
  refine q_iload_n hC dX2_isWrongAlong_2 2 rfl 3 rfl ?_
  refine r_callI hC (go_V (q := (RX2, TX2, 14)) (As := [.int v1, .int v2]) (rest := []) hC (ctX2_columnOf (zl z) g M b v1 v2 _ hb hw) 2 gX2_isWrongAlong_X2_columnOf rfl ⟨rfl, rfl⟩ hdV_X2_columnOf ⟨Nat.le_of_ble_eq_true rfl, Nat.le_of_ble_eq_true rfl⟩ hb.ob rfl rfl rfl (Nat.le_of_ble_eq_true rfl) dX2_isWrongAlong_3) 6 rfl (fun r1 M2 hw => ?_)
  refine r_callI hC (go_T (As := [.int r1]) (rest := []) hC (ctJ6_bitCount_0f7a4 (zl z) g M2 r1 _ hw) 1 gX2_isWrongAlong_J6_bitCount_0f7a4 rfl ⟨rfl, rfl⟩ hdT_J6_bitCount_0f7a4 ⟨Nat.le_of_ble_eq_true rfl, Nat.le_of_ble_eq_true rfl⟩ rfl rfl (Nat.le_of_ble_eq_true rfl) dX2_isWrongAlong_6) 9 rfl (fun r3 M4 hw => ?_)
  refine q_iconst (v := 2) hC dX2_isWrongAlong_9 rfl 10 rfl ?_
  refine q_irem hC dX2_isWrongAlong_10 (by decide) 11 rfl ?_
  refine q_if_ne hC 18 dX2_isWrongAlong_11 (by decide) 14 rfl hw (fun hw => ?_) (fun hw => ?_)
  · refine q_iconst (v := 0) hC dX2_isWrongAlong_18 rfl 19 rfl ?_
    exact r_iret hR dX2_isWrongAlong_19 ⟨nb_0, hw⟩
  · refine q_iconst (v := 1) hC dX2_isWrongAlong_14 rfl 15 rfl ?_
    refine q_goto hC 19 dX2_isWrongAlong_15 (by decide) ?_
    exact r_iret hR dX2_isWrongAlong_19 ⟨nb_1, hw⟩
theorem hdV_X2_isWrongAlong : yX2_isWrongAlong.cls = RX2 ∧ yX2_isWrongAlong.cls ≠ "java/lang/invoke/MethodHandle" ∧ yX2_isWrongAlong.cls ≠ "java/lang/invoke/VarHandle" ∧ (parseMethodDescriptor yX2_isWrongAlong.desc).map (fun d => d.parameters.length) = some 2 := by decide +kernel
set_option maxRecDepth 100000 in
set_option maxHeartbeats 4000000 in
theorem ctX2_wrongAlongCount (l : Launch) (g : GG) (M : MM) (b : Nat) (v1 : Int32) (Q : Int32 → MM → Prop) (hb : tpl g b) (hw : wX2_wrongAlongCount Q M b v1) : MI g l yX2_wrongAlongCount wsX2_wrongAlongCount (rmOf 3 65) [.ref (gA g b), .int v1] M Q := by
  refine mk_MI (cc := cX2_wrongAlongCount) (maxL := 4) (by decide) rfl (Nat.le_of_ble_eq_true rfl) ?_
  intro z Qf hC hR
  show XX z g Qf 4 0 [(0, .ref (gA g b)), (1, .int v1)] [] M
  have B25 : ∀ (K4 : MM → Int32 → Int32 → Prop) (hK4 : ∀ (M : MM) (v2 : Int32) (v3 : Int32) , K4 M v2 v3 → XX z g Qf 4 4 [(0, .ref (gA g b)), (1, .int v1), (2, .int v2), (3, .int v3)] [] M) (M : MM) (v2 : Int32) (v3 : Int32), wX2_wrongAlongCount_25 Q K4 b v1 M v2 v3 → XX z g Qf 4 25 [(0, .ref (gA g b)), (1, .int v1), (2, .int v2), (3, .int v3)] [] M := by
    intro K4 hK4 M v2 v3 hw
    refine q_iinc (v := v3 + 1) (L' := [(3, .int (v3 + 1)), (0, .ref (gA g b)), (1, .int v1), (2, .int v2)]) hC dX2_wrongAlongCount_25 3 rfl rfl (by decide) rfl 28 rfl ?_
    refine q_goto hC 4 dX2_wrongAlongCount_28 (by decide) ?_
    exact XX.sub [1, 2, 3, 0] rfl (hK4 M v2 (v3 + 1) hw)
  have B4 : ∀ (n : Nat) (M : MM) (v2 : Int32) (v3 : Int32) , wX2_wrongAlongCount_4 Q b v1 n M v2 v3 → XX z g Qf 4 4 [(0, .ref (gA g b)), (1, .int v1), (2, .int v2), (3, .int v3)] [] M := by
    intro n
    induction n with
    | zero =>
      intro M v2 v3 hw
      exact hw.elim
    | succ n ih =>
      intro M v2 v3 hw
      refine q_iload_n hC dX2_wrongAlongCount_4 3 rfl 5 rfl ?_
      refine q_aload_n hC dX2_wrongAlongCount_5 0 rfl 6 rfl ?_
      refine q_iload_n hC dX2_wrongAlongCount_6 1 rfl 7 rfl ?_
      refine r_callI hC (go_V (q := (RX2, TX2, 14)) (As := [.int v1]) (rest := [.int v3]) hC (ctX2_sizeOf (zl z) g M b v1 _ hb hw) 1 gX2_wrongAlongCount_X2_sizeOf rfl ⟨rfl, rfl⟩ hdV_X2_sizeOf ⟨Nat.le_of_ble_eq_true rfl, Nat.le_of_ble_eq_true rfl⟩ hb.ob rfl rfl rfl (Nat.le_of_ble_eq_true rfl) dX2_wrongAlongCount_7) 10 rfl (fun r1 M2 hw => ?_)
      refine q_icmp_ge hC 31 dX2_wrongAlongCount_10 (by decide) 13 rfl hw (fun hw => ?_) (fun hw => ?_)
      · refine q_iload_n hC dX2_wrongAlongCount_31 2 rfl 32 rfl ?_
        exact r_iret hR dX2_wrongAlongCount_32 hw
      · refine q_aload_n hC dX2_wrongAlongCount_13 0 rfl 14 rfl ?_
        refine q_iload_n hC dX2_wrongAlongCount_14 1 rfl 15 rfl ?_
        refine q_iload_n hC dX2_wrongAlongCount_15 3 rfl 16 rfl ?_
        refine r_callI hC (go_V (q := (RX2, TX2, 14)) (As := [.int v1, .int v3]) (rest := []) hC (ctX2_isWrongAlong (zl z) g M2 b v1 v3 _ hb hw) 2 gX2_wrongAlongCount_X2_isWrongAlong rfl ⟨rfl, rfl⟩ hdV_X2_isWrongAlong ⟨Nat.le_of_ble_eq_true rfl, Nat.le_of_ble_eq_true rfl⟩ hb.ob rfl rfl rfl (Nat.le_of_ble_eq_true rfl) dX2_wrongAlongCount_16) 19 rfl (fun r3 M4 hw => ?_)
        refine q_if_eq hC 25 dX2_wrongAlongCount_19 (by decide) 22 rfl hw (fun hw => ?_) (fun hw => ?_)
        · exact XX.sub [0, 1, 2, 3] rfl (B25 _ (fun M v2 v3 hw => ih M v2 v3 hw) M4 v2 v3 hw)
        · refine q_iinc (v := v2 + 1) (L' := [(2, .int (v2 + 1)), (0, .ref (gA g b)), (1, .int v1), (3, .int v3)]) hC dX2_wrongAlongCount_22 2 rfl rfl (by decide) rfl 25 rfl ?_
          exact XX.sub [1, 2, 0, 3] rfl (B25 _ (fun M v2 v3 hw => ih M v2 v3 hw) M4 (v2 + 1) v3 hw)
  refine q_iconst (v := 0) hC dX2_wrongAlongCount_0 rfl 1 rfl ?_
  refine q_istore_n (L' := [(2, .int 0), (0, .ref (gA g b)), (1, .int v1)]) hC dX2_wrongAlongCount_1 (by decide) rfl 2 rfl ?_
  refine q_iconst (v := 0) hC dX2_wrongAlongCount_2 rfl 3 rfl ?_
  refine q_istore_n (L' := [(3, .int 0), (2, .int 0), (0, .ref (gA g b)), (1, .int v1)]) hC dX2_wrongAlongCount_3 (by decide) rfl 4 rfl ?_
  obtain ⟨n0, hw⟩ := hw
  exact XX.sub [2, 3, 1, 0] rfl (B4 n0 M 0 0 hw)
set_option maxRecDepth 100000 in
set_option maxHeartbeats 4000000 in
theorem ctX2_wrongAcross (l : Launch) (g : GG) (M : MM) (b : Nat) (v1 : Int32) (Q : Int32 → MM → Prop) (hb : tpl g b) (hw : wX2_wrongAcross Q M b v1) : MI g l yX2_wrongAcross wsX2_wrongAcross (rmOf 2 43) [.ref (gA g b), .int v1] M Q := by
  refine mk_MI (cc := cX2_wrongAcross) (maxL := 5) (by decide) rfl (Nat.le_of_ble_eq_true rfl) ?_
  intro z Qf hC hR
  show XX z g Qf 5 0 [(0, .ref (gA g b)), (1, .int v1)] [] M
  have B11 : ∀ (n : Nat) (M : MM) (v2 : Int32) (v3 : Int32) (v4 : Int32) , wX2_wrongAcross_11 Q b v1 n M v2 v3 v4 → XX z g Qf 5 11 [(0, .ref (gA g b)), (1, .int v1), (2, .int v2), (3, .int v3), (4, .int v4)] [] M := by
    intro n
    induction n with
    | zero =>
      intro M v2 v3 v4 hw
      exact hw.elim
    | succ n ih =>
      intro M v2 v3 v4 hw
      refine q_iload_n hC dX2_wrongAcross_11 2 rfl 12 rfl ?_
      refine q_if_le hC 37 dX2_wrongAcross_12 (by decide) 15 rfl hw (fun hw => ?_) (fun hw => ?_)
      · refine q_iload_n hC dX2_wrongAcross_37 3 rfl 38 rfl ?_
        exact r_iret hR dX2_wrongAcross_38 hw
      · refine q_iload hC dX2_wrongAcross_15 4 rfl 17 rfl ?_
        refine q_iload_n hC dX2_wrongAcross_17 2 rfl 18 rfl ?_
        refine q_icmp_gt hC 37 dX2_wrongAcross_18 (by decide) 21 rfl hw (fun hw => ?_) (fun hw => ?_)
        · refine q_iload_n hC dX2_wrongAcross_37 3 rfl 38 rfl ?_
          exact r_iret hR dX2_wrongAcross_38 hw
        · refine q_iload_n hC dX2_wrongAcross_21 3 rfl 22 rfl ?_
          refine q_aload_n hC dX2_wrongAcross_22 0 rfl 23 rfl ?_
          refine q_iload_n hC dX2_wrongAcross_23 1 rfl 24 rfl ?_
          refine q_iload hC dX2_wrongAcross_24 4 rfl 26 rfl ?_
          refine r_callI hC (go_V (q := (RX2, TX2, 14)) (As := [.int v1, .int v4]) (rest := [.int v3]) hC (ctX2_columnOf (zl z) g M b v1 v4 _ hb hw) 2 gX2_wrongAcross_X2_columnOf rfl ⟨rfl, rfl⟩ hdV_X2_columnOf ⟨Nat.le_of_ble_eq_true rfl, Nat.le_of_ble_eq_true rfl⟩ hb.ob rfl rfl rfl (Nat.le_of_ble_eq_true rfl) dX2_wrongAcross_26) 29 rfl (fun r3 M4 hw => ?_)
          refine q_ixor hC dX2_wrongAcross_29 30 rfl ?_
          refine q_istore_n (L' := [(3, .int (v3 ^^^ r3)), (0, .ref (gA g b)), (1, .int v1), (2, .int v2), (4, .int v4)]) hC dX2_wrongAcross_30 (by decide) rfl 31 rfl ?_
          refine q_iinc (v := v4 + 1) (L' := [(4, .int (v4 + 1)), (3, .int (v3 ^^^ r3)), (0, .ref (gA g b)), (1, .int v1), (2, .int v2)]) hC dX2_wrongAcross_31 4 rfl rfl (by decide) rfl 34 rfl ?_
          refine q_goto hC 11 dX2_wrongAcross_34 (by decide) ?_
          exact XX.sub [2, 3, 4, 1, 0] rfl (ih M4 v2 (v3 ^^^ r3) (v4 + 1) hw)
  refine q_aload_n hC dX2_wrongAcross_0 0 rfl 1 rfl ?_
  refine q_iload_n hC dX2_wrongAcross_1 1 rfl 2 rfl ?_
  refine r_callI hC (go_V (q := (RX2, TX2, 14)) (As := [.int v1]) (rest := []) hC (ctX2_sizeOf (zl z) g M b v1 _ hb hw) 1 gX2_wrongAcross_X2_sizeOf rfl ⟨rfl, rfl⟩ hdV_X2_sizeOf ⟨Nat.le_of_ble_eq_true rfl, Nat.le_of_ble_eq_true rfl⟩ hb.ob rfl rfl rfl (Nat.le_of_ble_eq_true rfl) dX2_wrongAcross_2) 5 rfl (fun r1 M2 hw => ?_)
  refine q_istore_n (L' := [(2, .int r1), (0, .ref (gA g b)), (1, .int v1)]) hC dX2_wrongAcross_5 (by decide) rfl 6 rfl ?_
  refine q_iconst (v := 0) hC dX2_wrongAcross_6 rfl 7 rfl ?_
  refine q_istore_n (L' := [(3, .int 0), (2, .int r1), (0, .ref (gA g b)), (1, .int v1)]) hC dX2_wrongAcross_7 (by decide) rfl 8 rfl ?_
  refine q_iconst (v := 0) hC dX2_wrongAcross_8 rfl 9 rfl ?_
  refine q_istore (L' := [(4, .int 0), (3, .int 0), (2, .int r1), (0, .ref (gA g b)), (1, .int v1)]) hC dX2_wrongAcross_9 (by decide) rfl 11 rfl ?_
  obtain ⟨n0, hw⟩ := hw
  exact XX.sub [3, 4, 2, 1, 0] rfl (B11 n0 M2 r1 0 0 hw)
theorem hdV_X2_wrongAlongCount : yX2_wrongAlongCount.cls = RX2 ∧ yX2_wrongAlongCount.cls ≠ "java/lang/invoke/MethodHandle" ∧ yX2_wrongAlongCount.cls ≠ "java/lang/invoke/VarHandle" ∧ (parseMethodDescriptor yX2_wrongAlongCount.desc).map (fun d => d.parameters.length) = some 1 := by decide +kernel
theorem hdV_X2_wrongAcross : yX2_wrongAcross.cls = RX2 ∧ yX2_wrongAcross.cls ≠ "java/lang/invoke/MethodHandle" ∧ yX2_wrongAcross.cls ≠ "java/lang/invoke/VarHandle" ∧ (parseMethodDescriptor yX2_wrongAcross.desc).map (fun d => d.parameters.length) = some 1 := by decide +kernel
set_option maxRecDepth 100000 in
set_option maxHeartbeats 4000000 in
theorem ctX2_readingOf (l : Launch) (g : GG) (M : MM) (b : Nat) (v1 : Int32) (v2 : Int32) (Q : Int32 → MM → Prop) (hb : tpl g b) (hw : wX2_readingOf Q M b v1 v2) : MI g l yX2_readingOf wsX2_readingOf (rmOf 4 88) [.ref (gA g b), .int v1, .int v2] M Q := by
  refine mk_MI (cc := cX2_readingOf) (maxL := 6) (by decide) rfl (Nat.le_of_ble_eq_true rfl) ?_
  intro z Qf hC hR
  show XX z g Qf 6 0 [(0, .ref (gA g b)), (1, .int v1), (2, .int v2)] [] M
  have B78 : ∀ (M : MM), wX2_readingOf_78 Q b v1 v2 M → XX z g Qf 6 78 [] [] M := by
    intro M hw
    refine q_iconst (v := 3) hC dX2_readingOf_78 rfl 79 rfl ?_
    exact r_iret hR dX2_readingOf_79 hw
  have B47 : ∀ (M : MM) (p0 : Int32), wX2_readingOf_47 Q b v1 v2 M p0 → XX z g Qf 6 47 [] [.int p0] M := by
    intro M p0 hw
    refine q_istore (L' := [(5, .int p0)]) hC dX2_readingOf_47 (by decide) rfl 49 rfl ?_
    refine q_iload hC dX2_readingOf_49 0 rfl 51 rfl ?_
    refine q_if_ne hC 58 dX2_readingOf_51 (by decide) 54 rfl hw (fun hw => ?_) (fun hw => ?_)
    · refine q_iconst (v := 3) hC dX2_readingOf_58 rfl 59 rfl ?_
      exact r_iret hR dX2_readingOf_59 hw
    · refine q_iconst (v := 2) hC dX2_readingOf_54 rfl 55 rfl ?_
      refine q_goto hC 59 dX2_readingOf_55 (by decide) ?_
      exact r_iret hR dX2_readingOf_59 hw
  have B24 : ∀ (M : MM) (v3 : Int32) (v4 : Int32), wX2_readingOf_24 Q b v1 v2 M v3 v4 → XX z g Qf 6 24 [(2, .int v2), (3, .int v3), (4, .int v4)] [] M := by
    intro M v3 v4 hw
    refine q_iload_n hC dX2_readingOf_24 0 rfl 25 rfl ?_
    refine q_bipush (v := (-4)) hC dX2_readingOf_25 (by decide) 27 rfl ?_
    refine q_icmp_eq hC 60 dX2_readingOf_27 (by decide) 30 rfl hw (fun hw => ?_) (fun hw => ?_)
    · refine q_iload_n hC dX2_readingOf_60 1 rfl 61 rfl ?_
      refine q_iconst (v := 1) hC dX2_readingOf_61 rfl 62 rfl ?_
      refine q_icmp_gt hC 78 dX2_readingOf_62 (by decide) 65 rfl hw (fun hw => ?_) (fun hw => ?_)
      · exact XX.sub [] rfl (B78 M hw)
      · refine q_iload hC dX2_readingOf_65 2 rfl 67 rfl ?_
        refine r_callI hC (go_T (As := [.int v4]) (rest := []) hC (ctJ6_bitCount_0f7a4 (zl z) g M v4 _ hw) 1 gX2_readingOf_J6_bitCount_0f7a4 rfl ⟨rfl, rfl⟩ hdT_J6_bitCount_0f7a4 ⟨Nat.le_of_ble_eq_true rfl, Nat.le_of_ble_eq_true rfl⟩ rfl rfl (Nat.le_of_ble_eq_true rfl) dX2_readingOf_67) 70 rfl (fun r5 M6 hw => ?_)
        refine q_iconst (v := 1) hC dX2_readingOf_70 rfl 71 rfl ?_
        refine q_icmp_ne hC 78 dX2_readingOf_71 (by decide) 74 rfl hw (fun hw => ?_) (fun hw => ?_)
        · exact XX.sub [] rfl (B78 M6 hw)
        · refine q_iconst (v := 1) hC dX2_readingOf_74 rfl 75 rfl ?_
          refine q_goto hC 79 dX2_readingOf_75 (by decide) ?_
          exact r_iret hR dX2_readingOf_79 hw
    · refine q_iload_n hC dX2_readingOf_30 1 rfl 31 rfl ?_
      refine q_iconst (v := 2) hC dX2_readingOf_31 rfl 32 rfl ?_
      refine q_irem hC dX2_readingOf_32 (by decide) 33 rfl ?_
      refine q_if_ne hC 41 dX2_readingOf_33 (by decide) 36 rfl hw (fun hw => ?_) (fun hw => ?_)
      · refine q_iload hC dX2_readingOf_41 2 rfl 43 rfl ?_
        refine q_iconst (v := 1) hC dX2_readingOf_43 rfl 44 rfl ?_
        refine q_iload_n hC dX2_readingOf_44 0 rfl 45 rfl ?_
        refine q_ishl hC dX2_readingOf_45 46 rfl ?_
        refine q_ixor hC dX2_readingOf_46 47 rfl ?_
        exact XX.sub [] rfl (B47 M (v4 ^^^ ((1 : Int32) <<< (v2 &&& 31))) hw)
      · refine q_iload hC dX2_readingOf_36 2 rfl 38 rfl ?_
        refine q_goto hC 47 dX2_readingOf_38 (by decide) ?_
        exact XX.sub [] rfl (B47 M v4 hw)
  refine q_aload_n hC dX2_readingOf_0 0 rfl 1 rfl ?_
  refine q_iload_n hC dX2_readingOf_1 1 rfl 2 rfl ?_
  refine r_callI hC (go_V (q := (RX2, TX2, 14)) (As := [.int v1]) (rest := []) hC (ctX2_wrongAlongCount (zl z) g M b v1 _ hb hw) 1 gX2_readingOf_X2_wrongAlongCount rfl ⟨rfl, rfl⟩ hdV_X2_wrongAlongCount ⟨Nat.le_of_ble_eq_true rfl, Nat.le_of_ble_eq_true rfl⟩ hb.ob rfl rfl rfl (Nat.le_of_ble_eq_true rfl) dX2_readingOf_2) 5 rfl (fun r1 M2 hw => ?_)
  refine q_istore_n (L' := [(3, .int r1), (0, .ref (gA g b)), (1, .int v1), (2, .int v2)]) hC dX2_readingOf_5 (by decide) rfl 6 rfl ?_
  refine q_aload_n hC dX2_readingOf_6 1 rfl 7 rfl ?_
  refine q_iload_n hC dX2_readingOf_7 2 rfl 8 rfl ?_
  refine r_callI hC (go_V (q := (RX2, TX2, 14)) (As := [.int v1]) (rest := []) hC (ctX2_wrongAcross (zl z) g M2 b v1 _ hb hw) 1 gX2_readingOf_X2_wrongAcross rfl ⟨rfl, rfl⟩ hdV_X2_wrongAcross ⟨Nat.le_of_ble_eq_true rfl, Nat.le_of_ble_eq_true rfl⟩ hb.ob rfl rfl rfl (Nat.le_of_ble_eq_true rfl) dX2_readingOf_8) 11 rfl (fun r3 M4 hw => ?_)
  refine q_istore (L' := [(4, .int r3), (3, .int r1), (0, .ref (gA g b)), (1, .int v1), (2, .int v2)]) hC dX2_readingOf_11 (by decide) rfl 13 rfl ?_
  refine q_iload_n hC dX2_readingOf_13 1 rfl 14 rfl ?_
  refine q_if_ne hC 24 dX2_readingOf_14 (by decide) 17 rfl hw (fun hw => ?_) (fun hw => ?_)
  · exact XX.sub [4, 1, 0] rfl (B24 M4 r1 r3 hw)
  · refine q_iload hC dX2_readingOf_17 0 rfl 19 rfl ?_
    refine q_if_ne hC 24 dX2_readingOf_19 (by decide) 22 rfl hw (fun hw => ?_) (fun hw => ?_)
    · exact XX.sub [4, 1, 0] rfl (B24 M4 r1 r3 hw)
    · refine q_iconst (v := 0) hC dX2_readingOf_22 rfl 23 rfl ?_
      exact r_iret hR dX2_readingOf_23 hw
theorem inX2_byteAsRead_X2 : ∀ w ∈ u_ws RX2 TX2 14, w ∈ wsX2_byteAsRead := uX2_byteAsRead__wsX20
set_option maxRecDepth 100000 in
set_option maxHeartbeats 4000000 in
theorem ctX2_byteAsRead (l : Launch) (g : GG) (M : MM) (b : Nat) (v1 : Int32) (v2 : Int32) (Q : Int32 → MM → Prop) (hb : tpl g b) (hw : wX2_byteAsRead Q M b v1 v2) : MI g l yX2_byteAsRead wsX2_byteAsRead (rmOf 3 67) [.ref (gA g b), .int v1, .int v2] M Q := by
  refine mk_MI (cc := cX2_byteAsRead) (maxL := 4) (by decide) rfl (Nat.le_of_ble_eq_true rfl) ?_
  intro z Qf hC hR
  show XX z g Qf 4 0 [(0, .ref (gA g b)), (1, .int v1), (2, .int v2)] [] M
  have B42 : ∀ (M : MM) (v3 : Int32), wX2_byteAsRead_42 Q b v1 v2 M v3 → XX z g Qf 4 42 [(3, .int v3)] [] M := by
    intro M v3 hw
    refine q_iload_n hC dX2_byteAsRead_42 0 rfl 43 rfl ?_
    refine q_sipush (v := 255) hC dX2_byteAsRead_43 (by decide) 46 rfl ?_
    refine q_iand hC dX2_byteAsRead_46 47 rfl ?_
    exact r_iret hR dX2_byteAsRead_47 hw
  have B40 : ∀ (M : MM) (p0 : Int32) (p1 : Int32), wX2_byteAsRead_40 Q b v1 v2 M p0 p1 → XX z g Qf 4 40 [] [.int p0, .int p1] M := by
    intro M p0 p1 hw
    refine q_ixor hC dX2_byteAsRead_40 41 rfl ?_
    refine q_istore_n (L' := [(3, .int (p1 ^^^ p0))]) hC dX2_byteAsRead_41 (by decide) rfl 42 rfl ?_
    exact XX.sub [0] rfl (B42 M (p1 ^^^ p0) hw)
  refine q_aload_n hC dX2_byteAsRead_0 0 rfl 1 rfl ?_
  refine q_iload_n hC dX2_byteAsRead_1 1 rfl 2 rfl ?_
  refine q_iload_n hC dX2_byteAsRead_2 2 rfl 3 rfl ?_
  refine r_callI hC (go_V (q := (RX2, TX2, 14)) (As := [.int v1, .int v2]) (rest := []) hC (ctX2_columnOf (zl z) g M b v1 v2 _ hb hw) 2 gX2_byteAsRead_X2_columnOf rfl ⟨rfl, rfl⟩ hdV_X2_columnOf ⟨Nat.le_of_ble_eq_true rfl, Nat.le_of_ble_eq_true rfl⟩ hb.ob rfl rfl rfl (Nat.le_of_ble_eq_true rfl) dX2_byteAsRead_3) 6 rfl (fun r1 M2 hw => ?_)
  refine q_istore_n (L' := [(3, .int r1), (0, .ref (gA g b)), (1, .int v1), (2, .int v2)]) hC dX2_byteAsRead_6 (by decide) rfl 7 rfl ?_
  refine q_aload_n hC dX2_byteAsRead_7 1 rfl 8 rfl ?_
  refine q_iload_n hC dX2_byteAsRead_8 2 rfl 9 rfl ?_
  refine q_iload_n hC dX2_byteAsRead_9 3 rfl 10 rfl ?_
  refine r_callI hC (go_V (q := (RX2, TX2, 14)) (As := [.int v1, .int v2]) (rest := []) hC (ctX2_isWrongAlong (zl z) g M2 b v1 v2 _ hb hw) 2 gX2_byteAsRead_X2_isWrongAlong rfl ⟨rfl, rfl⟩ hdV_X2_isWrongAlong ⟨Nat.le_of_ble_eq_true rfl, Nat.le_of_ble_eq_true rfl⟩ hb.ob rfl rfl rfl (Nat.le_of_ble_eq_true rfl) dX2_byteAsRead_10) 13 rfl (fun r3 M4 hw => ?_)
  refine q_if_eq hC 42 dX2_byteAsRead_13 (by decide) 16 rfl hw (fun hw => ?_) (fun hw => ?_)
  · exact XX.sub [0] rfl (B42 M4 r1 hw)
  · refine q_iload_n hC dX2_byteAsRead_16 0 rfl 17 rfl ?_
    refine q_aload_n hC dX2_byteAsRead_17 1 rfl 18 rfl ?_
    refine q_getI (C := RX2) (T := TX2) (N := 14) (ci := 2) hC inX2_byteAsRead_X2 hb.ob rfl 12 (by decide) (uX2_byteAsRead__o _ (List.mem_of_getElem? (l := owX2_byteAsRead) (i := 1) rfl)) rfl (fun _ => rfl) dX2_byteAsRead_18 21 rfl ?_
    refine q_bipush (v := (-4)) hC dX2_byteAsRead_21 (by decide) 23 rfl ?_
    refine q_icmp_ne hC 34 dX2_byteAsRead_23 (by decide) 26 rfl hw (fun hw => ?_) (fun hw => ?_)
    · refine q_iconst (v := 1) hC dX2_byteAsRead_34 rfl 35 rfl ?_
      refine q_aload_n hC dX2_byteAsRead_35 1 rfl 36 rfl ?_
      refine q_getI (C := RX2) (T := TX2) (N := 14) (ci := 2) hC inX2_byteAsRead_X2 hb.ob rfl 12 (by decide) (uX2_byteAsRead__o _ (List.mem_of_getElem? (l := owX2_byteAsRead) (i := 1) rfl)) rfl (fun _ => rfl) dX2_byteAsRead_36 39 rfl ?_
      refine q_ishl hC dX2_byteAsRead_39 40 rfl ?_
      exact XX.sub [] rfl (B40 M4 ((1 : Int32) <<< ((M4 b 12) &&& 31)) r1 hw)
    · refine q_aload_n hC dX2_byteAsRead_26 1 rfl 27 rfl ?_
      refine q_iload_n hC dX2_byteAsRead_27 2 rfl 28 rfl ?_
      refine r_callI hC (go_V (q := (RX2, TX2, 14)) (As := [.int v1]) (rest := [.int r1]) hC (ctX2_wrongAcross (zl z) g M4 b v1 _ hb hw) 1 gX2_byteAsRead_X2_wrongAcross rfl ⟨rfl, rfl⟩ hdV_X2_wrongAcross ⟨Nat.le_of_ble_eq_true rfl, Nat.le_of_ble_eq_true rfl⟩ hb.ob rfl rfl rfl (Nat.le_of_ble_eq_true rfl) dX2_byteAsRead_28) 31 rfl (fun r5 M6 hw => ?_)
      refine q_goto hC 40 dX2_byteAsRead_31 (by decide) ?_
      exact XX.sub [] rfl (B40 M6 r5 r1 hw)
theorem hdV_X2_byteAsRead : yX2_byteAsRead.cls = RX2 ∧ yX2_byteAsRead.cls ≠ "java/lang/invoke/MethodHandle" ∧ yX2_byteAsRead.cls ≠ "java/lang/invoke/VarHandle" ∧ (parseMethodDescriptor yX2_byteAsRead.desc).map (fun d => d.parameters.length) = some 2 := by decide +kernel
set_option maxRecDepth 100000 in
set_option maxHeartbeats 4000000 in
theorem ctX2_isReadAsWritten (l : Launch) (g : GG) (M : MM) (b : Nat) (v1 : Int32) (Q : Int32 → MM → Prop) (hb : tpl g b) (hw : wX2_isReadAsWritten Q M b v1) : MI g l yX2_isReadAsWritten wsX2_isReadAsWritten (rmOf 4 90) [.ref (gA g b), .int v1] M Q := by
  refine mk_MZ (cc := cX2_isReadAsWritten) (maxL := 3) (by decide) rfl (Nat.le_of_ble_eq_true rfl) ?_
  intro z Qf hC hR
  show XX z g Qf 3 0 [(0, .ref (gA g b)), (1, .int v1)] [] M
  have B2 : ∀ (n : Nat) (M : MM) (v2 : Int32) , wX2_isReadAsWritten_2 Q b v1 n M v2 → XX z g Qf 3 2 [(0, .ref (gA g b)), (1, .int v1), (2, .int v2)] [] M := by
    intro n
    induction n with
    | zero =>
      intro M v2 hw
      exact hw.elim
    | succ n ih =>
      intro M v2 hw
      refine q_iload_n hC dX2_isReadAsWritten_2 2 rfl 3 rfl ?_
      refine q_aload_n hC dX2_isReadAsWritten_3 0 rfl 4 rfl ?_
      refine q_iload_n hC dX2_isReadAsWritten_4 1 rfl 5 rfl ?_
      refine r_callI hC (go_V (q := (RX2, TX2, 14)) (As := [.int v1]) (rest := [.int v2]) hC (ctX2_sizeOf (zl z) g M b v1 _ hb hw) 1 gX2_isReadAsWritten_X2_sizeOf rfl ⟨rfl, rfl⟩ hdV_X2_sizeOf ⟨Nat.le_of_ble_eq_true rfl, Nat.le_of_ble_eq_true rfl⟩ hb.ob rfl rfl rfl (Nat.le_of_ble_eq_true rfl) dX2_isReadAsWritten_5) 8 rfl (fun r1 M2 hw => ?_)
      refine q_icmp_ge hC 34 dX2_isReadAsWritten_8 (by decide) 11 rfl hw (fun hw => ?_) (fun hw => ?_)
      · refine q_iconst (v := 1) hC dX2_isReadAsWritten_34 rfl 35 rfl ?_
        exact r_iret hR dX2_isReadAsWritten_35 ⟨nb_1, hw⟩
      · refine q_aload_n hC dX2_isReadAsWritten_11 0 rfl 12 rfl ?_
        refine q_iload_n hC dX2_isReadAsWritten_12 1 rfl 13 rfl ?_
        refine q_iload_n hC dX2_isReadAsWritten_13 2 rfl 14 rfl ?_
        refine r_callI hC (go_V (q := (RX2, TX2, 14)) (As := [.int v1, .int v2]) (rest := []) hC (ctX2_byteAsRead (zl z) g M2 b v1 v2 _ hb hw) 2 gX2_isReadAsWritten_X2_byteAsRead rfl ⟨rfl, rfl⟩ hdV_X2_byteAsRead ⟨Nat.le_of_ble_eq_true rfl, Nat.le_of_ble_eq_true rfl⟩ hb.ob rfl rfl rfl (Nat.le_of_ble_eq_true rfl) dX2_isReadAsWritten_14) 17 rfl (fun r3 M4 hw => ?_)
        refine q_aload_n hC dX2_isReadAsWritten_17 0 rfl 18 rfl ?_
        refine q_iload_n hC dX2_isReadAsWritten_18 1 rfl 19 rfl ?_
        refine q_iload_n hC dX2_isReadAsWritten_19 2 rfl 20 rfl ?_
        refine r_callI hC (go_V (q := (RX2, TX2, 14)) (As := [.int v1, .int v2]) (rest := [.int r3]) hC (ctX2_originalOf (zl z) g M4 b v1 v2 _ hb hw) 2 gX2_isReadAsWritten_X2_originalOf rfl ⟨rfl, rfl⟩ hdV_X2_originalOf ⟨Nat.le_of_ble_eq_true rfl, Nat.le_of_ble_eq_true rfl⟩ hb.ob rfl rfl rfl (Nat.le_of_ble_eq_true rfl) dX2_isReadAsWritten_20) 23 rfl (fun r5 M6 hw => ?_)
        refine q_icmp_eq hC 28 dX2_isReadAsWritten_23 (by decide) 26 rfl hw (fun hw => ?_) (fun hw => ?_)
        · refine q_iinc (v := v2 + 1) (L' := [(2, .int (v2 + 1)), (0, .ref (gA g b)), (1, .int v1)]) hC dX2_isReadAsWritten_28 2 rfl rfl (by decide) rfl 31 rfl ?_
          refine q_goto hC 2 dX2_isReadAsWritten_31 (by decide) ?_
          exact XX.sub [1, 2, 0] rfl (ih M6 (v2 + 1) hw)
        · refine q_iconst (v := 0) hC dX2_isReadAsWritten_26 rfl 27 rfl ?_
          exact r_iret hR dX2_isReadAsWritten_27 ⟨nb_0, hw⟩
  refine q_iconst (v := 0) hC dX2_isReadAsWritten_0 rfl 1 rfl ?_
  refine q_istore_n (L' := [(2, .int 0), (0, .ref (gA g b)), (1, .int v1)]) hC dX2_isReadAsWritten_1 (by decide) rfl 2 rfl ?_
  obtain ⟨n0, hw⟩ := hw
  exact XX.sub [1, 2, 0] rfl (B2 n0 M 0 hw)
theorem hdV_X2_readingOf : yX2_readingOf.cls = RX2 ∧ yX2_readingOf.cls ≠ "java/lang/invoke/MethodHandle" ∧ yX2_readingOf.cls ≠ "java/lang/invoke/VarHandle" ∧ (parseMethodDescriptor yX2_readingOf.desc).map (fun d => d.parameters.length) = some 2 := by decide +kernel
theorem inX2_lostBlocksBy_X2 : ∀ w ∈ u_ws RX2 TX2 14, w ∈ wsX2_lostBlocksBy := uX2_lostBlocksBy__wsX20
set_option maxRecDepth 100000 in
set_option maxHeartbeats 4000000 in
theorem ctX2_lostBlocksBy (l : Launch) (g : GG) (M : MM) (b : Nat) (v1 : Int32) (Q : Int32 → MM → Prop) (hb : tpl g b) (hw : wX2_lostBlocksBy Q M b v1) : MI g l yX2_lostBlocksBy wsX2_lostBlocksBy (rmOf 5 113) [.ref (gA g b), .int v1] M Q := by
  refine mk_MI (cc := cX2_lostBlocksBy) (maxL := 4) (by decide) rfl (Nat.le_of_ble_eq_true rfl) ?_
  intro z Qf hC hR
  show XX z g Qf 4 0 [(0, .ref (gA g b)), (1, .int v1)] [] M
  have B28 : ∀ (K4 : MM → Int32 → Int32 → Prop) (hK4 : ∀ (M : MM) (v2 : Int32) (v3 : Int32) , K4 M v2 v3 → XX z g Qf 4 4 [(0, .ref (gA g b)), (1, .int v1), (2, .int v2), (3, .int v3)] [] M) (M : MM) (v2 : Int32) (v3 : Int32), wX2_lostBlocksBy_28 Q K4 b v1 M v2 v3 → XX z g Qf 4 28 [(0, .ref (gA g b)), (1, .int v1), (2, .int v2), (3, .int v3)] [] M := by
    intro K4 hK4 M v2 v3 hw
    refine q_iinc (v := v3 + 1) (L' := [(3, .int (v3 + 1)), (0, .ref (gA g b)), (1, .int v1), (2, .int v2)]) hC dX2_lostBlocksBy_28 3 rfl rfl (by decide) rfl 31 rfl ?_
    refine q_goto hC 4 dX2_lostBlocksBy_31 (by decide) ?_
    exact XX.sub [1, 2, 3, 0] rfl (hK4 M v2 (v3 + 1) hw)
  have B4 : ∀ (n : Nat) (M : MM) (v2 : Int32) (v3 : Int32) , wX2_lostBlocksBy_4 Q b v1 n M v2 v3 → XX z g Qf 4 4 [(0, .ref (gA g b)), (1, .int v1), (2, .int v2), (3, .int v3)] [] M := by
    intro n
    induction n with
    | zero =>
      intro M v2 v3 hw
      exact hw.elim
    | succ n ih =>
      intro M v2 v3 hw
      refine q_iload_n hC dX2_lostBlocksBy_4 3 rfl 5 rfl ?_
      refine q_aload_n hC dX2_lostBlocksBy_5 0 rfl 6 rfl ?_
      refine q_getI (C := RX2) (T := TX2) (N := 14) (ci := 2) hC inX2_lostBlocksBy_X2 hb.ob rfl 8 (by decide) (uX2_lostBlocksBy__o _ (List.mem_of_getElem? (l := owX2_lostBlocksBy) (i := 1) rfl)) rfl (fun _ => rfl) dX2_lostBlocksBy_6 9 rfl ?_
      refine q_icmp_ge hC 34 dX2_lostBlocksBy_9 (by decide) 12 rfl hw (fun hw => ?_) (fun hw => ?_)
      · refine q_iload_n hC dX2_lostBlocksBy_34 2 rfl 35 rfl ?_
        exact r_iret hR dX2_lostBlocksBy_35 hw
      · refine q_aload_n hC dX2_lostBlocksBy_12 0 rfl 13 rfl ?_
        refine q_iload_n hC dX2_lostBlocksBy_13 3 rfl 14 rfl ?_
        refine q_iload_n hC dX2_lostBlocksBy_14 1 rfl 15 rfl ?_
        refine r_callI hC (go_V (q := (RX2, TX2, 14)) (As := [.int v3, .int v1]) (rest := []) hC (ctX2_readingOf (zl z) g M b v3 v1 _ hb hw) 2 gX2_lostBlocksBy_X2_readingOf rfl ⟨rfl, rfl⟩ hdV_X2_readingOf ⟨Nat.le_of_ble_eq_true rfl, Nat.le_of_ble_eq_true rfl⟩ hb.ob rfl rfl rfl (Nat.le_of_ble_eq_true rfl) dX2_lostBlocksBy_15) 18 rfl (fun r1 M2 hw => ?_)
        refine q_iconst (v := 3) hC dX2_lostBlocksBy_18 rfl 19 rfl ?_
        refine q_icmp_ne hC 28 dX2_lostBlocksBy_19 (by decide) 22 rfl hw (fun hw => ?_) (fun hw => ?_)
        · exact XX.sub [0, 1, 2, 3] rfl (B28 _ (fun M v2 v3 hw => ih M v2 v3 hw) M2 v2 v3 hw)
        · refine q_iload_n hC dX2_lostBlocksBy_22 2 rfl 23 rfl ?_
          refine q_iconst (v := 1) hC dX2_lostBlocksBy_23 rfl 24 rfl ?_
          refine q_iload_n hC dX2_lostBlocksBy_24 3 rfl 25 rfl ?_
          refine q_ishl hC dX2_lostBlocksBy_25 26 rfl ?_
          refine q_ior hC dX2_lostBlocksBy_26 27 rfl ?_
          refine q_nameI (fun x3 ex3 => ?_)
          have hw := hw x3 ex3
          refine q_istore_n (L' := [(2, .int x3), (0, .ref (gA g b)), (1, .int v1), (3, .int v3)]) hC dX2_lostBlocksBy_27 (by decide) rfl 28 rfl ?_
          exact XX.sub [1, 2, 0, 3] rfl (B28 _ (fun M v2 v3 hw => ih M v2 v3 hw) M2 x3 v3 hw)
  refine q_iconst (v := 0) hC dX2_lostBlocksBy_0 rfl 1 rfl ?_
  refine q_istore_n (L' := [(2, .int 0), (0, .ref (gA g b)), (1, .int v1)]) hC dX2_lostBlocksBy_1 (by decide) rfl 2 rfl ?_
  refine q_iconst (v := 0) hC dX2_lostBlocksBy_2 rfl 3 rfl ?_
  refine q_istore_n (L' := [(3, .int 0), (2, .int 0), (0, .ref (gA g b)), (1, .int v1)]) hC dX2_lostBlocksBy_3 (by decide) rfl 4 rfl ?_
  obtain ⟨n0, hw⟩ := hw
  exact XX.sub [2, 3, 1, 0] rfl (B4 n0 M 0 0 hw)
