set_option maxRecDepth 20000 in
theorem inX3_refuse_X3 : ∀ w ∈ u_ws RX3 TX3 10, w ∈ wsX3_refuse := by decide +kernel
set_option maxRecDepth 100000 in
set_option maxHeartbeats 4000000 in
theorem ctX3_refuse (l : Launch) (g : GG) (M : MM) (v1 : Int32) (v2 : Int32) (Q : MM → Prop) (hF : full g) (hw : wX3_refuse Q M v1 v2) : MV g l yX3_refuse wsX3_refuse (rmOf 0 0) [.ref (gA g 37), .int v1, .int v2] M Q := by
  refine mk_MV (cc := cX3_refuse) (maxL := 3) (by decide) rfl (Nat.le_of_ble_eq_true rfl) ?_
  intro z Qf hC hR
  show XX z g Qf 3 0 [(0, .ref (gA g 37)), (1, .int v1), (2, .int v2)] [] M
  refine q_aload_n hC dX3_refuse_0 0 rfl 1 rfl ?_
  refine q_getI (C := RX3) (T := TX3) (N := 10) (ci := 3) hC inX3_refuse_X3 (hF.ob 37 (by decide) (fun _ => rfl)) rfl 8 (by decide) (List.mem_of_getElem? (i := 1) (by decide +kernel)) rfl (fun _ => rfl) dX3_refuse_1 4 rfl ?_
  refine q_if_eq hC 8 dX3_refuse_4 (by decide) 7 rfl hw (fun hw => ?_) (fun hw => ?_)
  · refine q_aload_n hC dX3_refuse_8 0 rfl 9 rfl ?_
    refine q_iload_n hC dX3_refuse_9 1 rfl 10 rfl ?_
    refine q_putI (C := RX3) (T := TX3) (N := 10) (ci := 3) hC inX3_refuse_X3 tyX3 tyX3_ok nmX3 (hF.ob 37 (by decide) (fun _ => rfl)) rfl 8 (by decide) (List.mem_of_getElem? (i := 1) (by decide +kernel)) rfl rfl rfl (fun _ => Nat.le_of_ble_eq_true rfl) (fun _ => rfl) dX3_refuse_10 13 rfl (fun M1 eM1 => ?_)
    have hw := hw M1 eM1
    refine q_aload_n hC dX3_refuse_13 0 rfl 14 rfl ?_
    refine q_iload_n hC dX3_refuse_14 2 rfl 15 rfl ?_
    refine q_putI (C := RX3) (T := TX3) (N := 10) (ci := 3) hC inX3_refuse_X3 tyX3 tyX3_ok nmX3 (hF.ob 37 (by decide) (fun _ => rfl)) rfl 9 (by decide) (List.mem_of_getElem? (i := 2) (by decide +kernel)) rfl rfl rfl (fun _ => Nat.le_of_ble_eq_true rfl) (fun _ => rfl) dX3_refuse_15 18 rfl (fun M2 eM2 => ?_)
    have hw := hw M2 eM2
    exact r_vret hR dX3_refuse_18 hw
  · exact r_vret hR dX3_refuse_7 hw
set_option maxRecDepth 20000 in
theorem inX3_readToken_X3 : ∀ w ∈ u_ws RX3 TX3 10, w ∈ wsX3_readToken := by decide +kernel
set_option maxRecDepth 100000 in
set_option maxHeartbeats 4000000 in
theorem ctX3_readToken (l : Launch) (g : GG) (M : MM)  (Q : MM → Prop) (hF : full g) (hw : wX3_readToken Q M ) : MV g l yX3_readToken wsX3_readToken (rmOf 2 42) [.ref (gA g 37)] M Q := by
  refine mk_MV (cc := cX3_readToken) (maxL := 2) (by decide) rfl (Nat.le_of_ble_eq_true rfl) ?_
  intro z Qf hC hR
  show XX z g Qf 2 0 [(0, .ref (gA g 37))] [] M
  have B155 : ∀ (M : MM), wX3_readToken_155 Q M → XX z g Qf 2 155 [(0, .ref (gA g 37))] [] M := by
    intro M hw
    refine q_aload_n hC dX3_readToken_155 0 rfl 156 rfl ?_
    refine q_getI (C := RX3) (T := TX3) (N := 10) (ci := 3) hC inX3_readToken_X3 (hF.ob 37 (by decide) (fun _ => rfl)) rfl 4 (by decide) (List.mem_of_getElem? (i := 4) (by decide +kernel)) rfl (fun _ => rfl) dX3_readToken_156 159 rfl ?_
    refine q_iconst (v := 4) hC dX3_readToken_159 rfl 160 rfl ?_
    refine q_icmp_ne hC 172 dX3_readToken_160 (by decide) 163 rfl hw (fun hw => ?_) (fun hw => ?_)
    · exact r_vret hR dX3_readToken_172 hw
    · refine q_aload_n hC dX3_readToken_163 0 rfl 164 rfl ?_
      refine q_iconst (v := 1) hC dX3_readToken_164 rfl 165 rfl ?_
      refine q_aload_n hC dX3_readToken_165 0 rfl 166 rfl ?_
      refine q_getI (C := RX3) (T := TX3) (N := 10) (ci := 3) hC inX3_readToken_X3 (hF.ob 37 (by decide) (fun _ => rfl)) rfl 5 (by decide) (List.mem_of_getElem? (i := 3) (by decide +kernel)) rfl (fun _ => rfl) dX3_readToken_166 169 rfl ?_
      refine r_callV hC (go_V (q := (RX3, TX3, 10)) (As := [.int 1, .int (M 37 5)]) (rest := []) hC (ctX3_refuse (zl z) g M 1 (M 37 5) _ hF hw) 2 gX3_readToken_X3_refuse rfl ⟨rfl, rfl⟩ (by decide +kernel) ⟨Nat.le_of_ble_eq_true rfl, Nat.le_of_ble_eq_true rfl⟩ (hF.ob 37 (by decide) (fun _ => rfl)) rfl rfl rfl (Nat.le_of_ble_eq_true rfl) dX3_readToken_169) 172 rfl (fun M21 hw => ?_)
      exact r_vret hR dX3_readToken_172 hw
  have B142 : ∀ (M : MM) (p0 : Int32), wX3_readToken_142 Q M p0 → XX z g Qf 2 142 [(0, .ref (gA g 37))] [.int p0, .ref (gA g 37)] M := by
    intro M p0 hw
    refine q_putI (C := RX3) (T := TX3) (N := 10) (ci := 3) hC inX3_readToken_X3 tyX3 tyX3_ok nmX3 (hF.ob 37 (by decide) (fun _ => rfl)) rfl 4 (by decide) (List.mem_of_getElem? (i := 4) (by decide +kernel)) rfl rfl rfl (fun _ => Nat.le_of_ble_eq_true rfl) (fun _ => rfl) dX3_readToken_142 145 rfl (fun M19 eM19 => ?_)
    have hw := hw M19 eM19
    refine q_aload_n hC dX3_readToken_145 0 rfl 146 rfl ?_
    refine q_dup hC dX3_readToken_146 rfl 147 rfl ?_
    refine q_getI (C := RX3) (T := TX3) (N := 10) (ci := 3) hC inX3_readToken_X3 (hF.ob 37 (by decide) (fun _ => rfl)) rfl 3 (by decide) (List.mem_of_getElem? (i := 1) (by decide +kernel)) rfl (fun _ => rfl) dX3_readToken_147 150 rfl ?_
    refine q_iconst (v := 1) hC dX3_readToken_150 rfl 151 rfl ?_
    refine q_iadd hC dX3_readToken_151 152 rfl ?_
    refine q_putI (C := RX3) (T := TX3) (N := 10) (ci := 3) hC inX3_readToken_X3 tyX3 tyX3_ok nmX3 (hF.ob 37 (by decide) (fun _ => rfl)) rfl 3 (by decide) (List.mem_of_getElem? (i := 1) (by decide +kernel)) rfl rfl rfl (fun _ => Nat.le_of_ble_eq_true rfl) (fun _ => rfl) dX3_readToken_152 155 rfl (fun M20 eM20 => ?_)
    have hw := hw M20 eM20
    exact XX.sub [0] rfl (B155 M20 hw)
  have B78 : ∀ (n : Nat) (M : MM) , wX3_readToken_78 Q n M → XX z g Qf 2 78 [(0, .ref (gA g 37))] [] M := by
    intro n
    induction n with
    | zero =>
      intro M hw
      exact hw.elim
    | succ n ih =>
      intro M hw
      refine q_aload_n hC dX3_readToken_78 0 rfl 79 rfl ?_
      refine q_getI (C := RX3) (T := TX3) (N := 10) (ci := 3) hC inX3_readToken_X3 (hF.ob 37 (by decide) (fun _ => rfl)) rfl 3 (by decide) (List.mem_of_getElem? (i := 1) (by decide +kernel)) rfl (fun _ => rfl) dX3_readToken_79 82 rfl ?_
      refine q_aload_n hC dX3_readToken_82 0 rfl 83 rfl ?_
      refine q_getI (C := RX3) (T := TX3) (N := 10) (ci := 3) hC inX3_readToken_X3 (hF.ob 37 (by decide) (fun _ => rfl)) rfl 2 (by decide) (List.mem_of_getElem? (i := 2) (by decide +kernel)) rfl (fun _ => rfl) dX3_readToken_83 86 rfl ?_
      refine q_icmp_ge hC 155 dX3_readToken_86 (by decide) 89 rfl hw (fun hw => ?_) (fun hw => ?_)
      · exact XX.sub [0] rfl (B155 M hw)
      · refine q_aload_n hC dX3_readToken_89 0 rfl 90 rfl ?_
        refine q_aload_n hC dX3_readToken_90 0 rfl 91 rfl ?_
        refine q_getI (C := RX3) (T := TX3) (N := 10) (ci := 3) hC inX3_readToken_X3 (hF.ob 37 (by decide) (fun _ => rfl)) rfl 3 (by decide) (List.mem_of_getElem? (i := 1) (by decide +kernel)) rfl (fun _ => rfl) dX3_readToken_91 94 rfl ?_
        refine r_callI hC (go_V (q := (RX3, TX3, 10)) (As := [.int (M 37 3)]) (rest := []) hC (ctX3_letterAt (zl z) g M (M 37 3) _ hF hw) 1 gX3_readToken_X3_letterAt rfl ⟨rfl, rfl⟩ (by decide +kernel) ⟨Nat.le_of_ble_eq_true rfl, Nat.le_of_ble_eq_true rfl⟩ (hF.ob 37 (by decide) (fun _ => rfl)) rfl rfl rfl (Nat.le_of_ble_eq_true rfl) dX3_readToken_94) 97 rfl (fun r14 M15 hw => ?_)
        refine r_callI hC (go_T (As := [.int r14]) (rest := []) hC (ctX3_isSmallLetter (zl z) g M15 r14 _ hw) 1 gX3_readToken_X3_isSmallLetter rfl ⟨rfl, rfl⟩ (by decide +kernel) ⟨Nat.le_of_ble_eq_true rfl, Nat.le_of_ble_eq_true rfl⟩ rfl rfl (Nat.le_of_ble_eq_true rfl) dX3_readToken_97) 100 rfl (fun r16 M17 hw => ?_)
        refine q_if_eq hC 155 dX3_readToken_100 (by decide) 103 rfl hw (fun hw => ?_) (fun hw => ?_)
        · exact XX.sub [0] rfl (B155 M17 hw)
        · refine q_aload_n hC dX3_readToken_103 0 rfl 104 rfl ?_
          refine q_dup hC dX3_readToken_104 rfl 105 rfl ?_
          refine q_getI (C := RX3) (T := TX3) (N := 10) (ci := 3) hC inX3_readToken_X3 (hF.ob 37 (by decide) (fun _ => rfl)) rfl 3 (by decide) (List.mem_of_getElem? (i := 1) (by decide +kernel)) rfl (fun _ => rfl) dX3_readToken_105 108 rfl ?_
          refine q_iconst (v := 1) hC dX3_readToken_108 rfl 109 rfl ?_
          refine q_iadd hC dX3_readToken_109 110 rfl ?_
          refine q_putI (C := RX3) (T := TX3) (N := 10) (ci := 3) hC inX3_readToken_X3 tyX3 tyX3_ok nmX3 (hF.ob 37 (by decide) (fun _ => rfl)) rfl 3 (by decide) (List.mem_of_getElem? (i := 1) (by decide +kernel)) rfl rfl rfl (fun _ => Nat.le_of_ble_eq_true rfl) (fun _ => rfl) dX3_readToken_110 113 rfl (fun M18 eM18 => ?_)
          have hw := hw M18 eM18
          refine q_goto hC 78 dX3_readToken_113 (by decide) ?_
          exact XX.sub [0] rfl (ih M18 hw)
  have B37 : ∀ (M : MM), wX3_readToken_37 Q M → XX z g Qf 2 37 [(0, .ref (gA g 37))] [] M := by
    intro M hw
    refine q_aload_n hC dX3_readToken_37 0 rfl 38 rfl ?_
    refine q_aload_n hC dX3_readToken_38 0 rfl 39 rfl ?_
    refine q_getI (C := RX3) (T := TX3) (N := 10) (ci := 3) hC inX3_readToken_X3 (hF.ob 37 (by decide) (fun _ => rfl)) rfl 3 (by decide) (List.mem_of_getElem? (i := 1) (by decide +kernel)) rfl (fun _ => rfl) dX3_readToken_39 42 rfl ?_
    refine q_putI (C := RX3) (T := TX3) (N := 10) (ci := 3) hC inX3_readToken_X3 tyX3 tyX3_ok nmX3 (hF.ob 37 (by decide) (fun _ => rfl)) rfl 5 (by decide) (List.mem_of_getElem? (i := 3) (by decide +kernel)) rfl rfl rfl (fun _ => Nat.le_of_ble_eq_true rfl) (fun _ => rfl) dX3_readToken_42 45 rfl (fun M4 eM4 => ?_)
    have hw := hw M4 eM4
    refine q_aload_n hC dX3_readToken_45 0 rfl 46 rfl ?_
    refine q_aload_n hC dX3_readToken_46 0 rfl 47 rfl ?_
    refine q_getI (C := RX3) (T := TX3) (N := 10) (ci := 3) hC inX3_readToken_X3 (hF.ob 37 (by decide) (fun _ => rfl)) rfl 5 (by decide) (List.mem_of_getElem? (i := 3) (by decide +kernel)) rfl (fun _ => rfl) dX3_readToken_47 50 rfl ?_
    refine r_callI hC (go_V (q := (RX3, TX3, 10)) (As := [.int (M4 37 5)]) (rest := []) hC (ctX3_letterAt (zl z) g M4 (M4 37 5) _ hF hw) 1 gX3_readToken_X3_letterAt rfl ⟨rfl, rfl⟩ (by decide +kernel) ⟨Nat.le_of_ble_eq_true rfl, Nat.le_of_ble_eq_true rfl⟩ (hF.ob 37 (by decide) (fun _ => rfl)) rfl rfl rfl (Nat.le_of_ble_eq_true rfl) dX3_readToken_50) 53 rfl (fun r5 M6 hw => ?_)
    refine q_istore_n (L' := [(1, .int r5), (0, .ref (gA g 37))]) hC dX3_readToken_53 (by decide) rfl 54 rfl ?_
    refine q_iload_n hC dX3_readToken_54 0 rfl 55 rfl ?_
    refine q_if_ge hC 66 dX3_readToken_55 (by decide) 58 rfl hw (fun hw => ?_) (fun hw => ?_)
    · refine q_iload_n hC dX3_readToken_66 0 rfl 67 rfl ?_
      refine r_callI hC (go_T (As := [.int r5]) (rest := []) hC (ctX3_isSmallLetter (zl z) g M6 r5 _ hw) 1 gX3_readToken_X3_isSmallLetter rfl ⟨rfl, rfl⟩ (by decide +kernel) ⟨Nat.le_of_ble_eq_true rfl, Nat.le_of_ble_eq_true rfl⟩ rfl rfl (Nat.le_of_ble_eq_true rfl) dX3_readToken_67) 70 rfl (fun r7 M8 hw => ?_)
      refine q_if_eq hC 116 dX3_readToken_70 (by decide) 73 rfl hw (fun hw => ?_) (fun hw => ?_)
      · refine q_iload_n hC dX3_readToken_116 0 rfl 117 rfl ?_
        refine r_callI hC (go_T (As := [.int r5]) (rest := []) hC (ctX3_isFigure (zl z) g M8 r5 _ hw) 1 gX3_readToken_X3_isFigure rfl ⟨rfl, rfl⟩ (by decide +kernel) ⟨Nat.le_of_ble_eq_true rfl, Nat.le_of_ble_eq_true rfl⟩ rfl rfl (Nat.le_of_ble_eq_true rfl) dX3_readToken_117) 120 rfl (fun r9 M10 hw => ?_)
        refine q_if_eq hC 130 dX3_readToken_120 (by decide) 123 rfl hw (fun hw => ?_) (fun hw => ?_)
        · refine q_aload_n hC dX3_readToken_130 1 rfl 131 rfl ?_
          refine q_iload_n hC dX3_readToken_131 0 rfl 132 rfl ?_
          refine q_bipush (v := 59) hC dX3_readToken_132 (by decide) 134 rfl ?_
          refine q_icmp_ne hC 141 dX3_readToken_134 (by decide) 137 rfl hw (fun hw => ?_) (fun hw => ?_)
          · refine q_iconst (v := 4) hC dX3_readToken_141 rfl 142 rfl ?_
            exact XX.sub [1] rfl (B142 M10 4 hw)
          · refine q_iconst (v := 3) hC dX3_readToken_137 rfl 138 rfl ?_
            refine q_goto hC 142 dX3_readToken_138 (by decide) ?_
            exact XX.sub [1] rfl (B142 M10 3 hw)
        · refine q_aload_n hC dX3_readToken_123 1 rfl 124 rfl ?_
          refine r_callV hC (go_V (q := (RX3, TX3, 10)) (As := []) (rest := []) hC (ctX3_readNumber (zl z) g M10 _ hF hw) 0 gX3_readToken_X3_readNumber rfl ⟨rfl, rfl⟩ (by decide +kernel) ⟨Nat.le_of_ble_eq_true rfl, Nat.le_of_ble_eq_true rfl⟩ (hF.ob 37 (by decide) (fun _ => rfl)) rfl rfl rfl (Nat.le_of_ble_eq_true rfl) dX3_readToken_124) 127 rfl (fun M11 hw => ?_)
          refine q_goto hC 155 dX3_readToken_127 (by decide) ?_
          exact XX.sub [1] rfl (B155 M11 hw)
      · refine q_aload_n hC dX3_readToken_73 1 rfl 74 rfl ?_
        refine q_iconst (v := 1) hC dX3_readToken_74 rfl 75 rfl ?_
        refine q_putI (C := RX3) (T := TX3) (N := 10) (ci := 3) hC inX3_readToken_X3 tyX3 tyX3_ok nmX3 (hF.ob 37 (by decide) (fun _ => rfl)) rfl 4 (by decide) (List.mem_of_getElem? (i := 4) (by decide +kernel)) rfl rfl rfl (fun _ => Nat.le_of_ble_eq_true rfl) (fun _ => rfl) dX3_readToken_75 78 rfl (fun M12 eM12 => ?_)
        have hw := hw M12 eM12
        obtain ⟨n0, hw⟩ := hw
        exact XX.sub [1] rfl (B78 n0 M12 hw)
    · refine q_aload_n hC dX3_readToken_58 1 rfl 59 rfl ?_
      refine q_iconst (v := 0) hC dX3_readToken_59 rfl 60 rfl ?_
      refine q_putI (C := RX3) (T := TX3) (N := 10) (ci := 3) hC inX3_readToken_X3 tyX3 tyX3_ok nmX3 (hF.ob 37 (by decide) (fun _ => rfl)) rfl 4 (by decide) (List.mem_of_getElem? (i := 4) (by decide +kernel)) rfl rfl rfl (fun _ => Nat.le_of_ble_eq_true rfl) (fun _ => rfl) dX3_readToken_60 63 rfl (fun M13 eM13 => ?_)
      have hw := hw M13 eM13
      refine q_goto hC 155 dX3_readToken_63 (by decide) ?_
      exact XX.sub [1] rfl (B155 M13 hw)
  have B0 : ∀ (n : Nat) (M : MM) , wX3_readToken_0 Q n M → XX z g Qf 2 0 [(0, .ref (gA g 37))] [] M := by
    intro n
    induction n with
    | zero =>
      intro M hw
      exact hw.elim
    | succ n ih =>
      intro M hw
      refine q_aload_n hC dX3_readToken_0 0 rfl 1 rfl ?_
      refine q_getI (C := RX3) (T := TX3) (N := 10) (ci := 3) hC inX3_readToken_X3 (hF.ob 37 (by decide) (fun _ => rfl)) rfl 3 (by decide) (List.mem_of_getElem? (i := 1) (by decide +kernel)) rfl (fun _ => rfl) dX3_readToken_1 4 rfl ?_
      refine q_aload_n hC dX3_readToken_4 0 rfl 5 rfl ?_
      refine q_getI (C := RX3) (T := TX3) (N := 10) (ci := 3) hC inX3_readToken_X3 (hF.ob 37 (by decide) (fun _ => rfl)) rfl 2 (by decide) (List.mem_of_getElem? (i := 2) (by decide +kernel)) rfl (fun _ => rfl) dX3_readToken_5 8 rfl ?_
      refine q_icmp_ge hC 37 dX3_readToken_8 (by decide) 11 rfl hw (fun hw => ?_) (fun hw => ?_)
      · exact XX.sub [0] rfl (B37 M hw)
      · refine q_aload_n hC dX3_readToken_11 0 rfl 12 rfl ?_
        refine q_aload_n hC dX3_readToken_12 0 rfl 13 rfl ?_
        refine q_getI (C := RX3) (T := TX3) (N := 10) (ci := 3) hC inX3_readToken_X3 (hF.ob 37 (by decide) (fun _ => rfl)) rfl 3 (by decide) (List.mem_of_getElem? (i := 1) (by decide +kernel)) rfl (fun _ => rfl) dX3_readToken_13 16 rfl ?_
        refine r_callI hC (go_V (q := (RX3, TX3, 10)) (As := [.int (M 37 3)]) (rest := []) hC (ctX3_letterAt (zl z) g M (M 37 3) _ hF hw) 1 gX3_readToken_X3_letterAt rfl ⟨rfl, rfl⟩ (by decide +kernel) ⟨Nat.le_of_ble_eq_true rfl, Nat.le_of_ble_eq_true rfl⟩ (hF.ob 37 (by decide) (fun _ => rfl)) rfl rfl rfl (Nat.le_of_ble_eq_true rfl) dX3_readToken_16) 19 rfl (fun r1 M2 hw => ?_)
        refine q_bipush (v := 32) hC dX3_readToken_19 (by decide) 21 rfl ?_
        refine q_icmp_ne hC 37 dX3_readToken_21 (by decide) 24 rfl hw (fun hw => ?_) (fun hw => ?_)
        · exact XX.sub [0] rfl (B37 M2 hw)
        · refine q_aload_n hC dX3_readToken_24 0 rfl 25 rfl ?_
          refine q_dup hC dX3_readToken_25 rfl 26 rfl ?_
          refine q_getI (C := RX3) (T := TX3) (N := 10) (ci := 3) hC inX3_readToken_X3 (hF.ob 37 (by decide) (fun _ => rfl)) rfl 3 (by decide) (List.mem_of_getElem? (i := 1) (by decide +kernel)) rfl (fun _ => rfl) dX3_readToken_26 29 rfl ?_
          refine q_iconst (v := 1) hC dX3_readToken_29 rfl 30 rfl ?_
          refine q_iadd hC dX3_readToken_30 31 rfl ?_
          refine q_putI (C := RX3) (T := TX3) (N := 10) (ci := 3) hC inX3_readToken_X3 tyX3 tyX3_ok nmX3 (hF.ob 37 (by decide) (fun _ => rfl)) rfl 3 (by decide) (List.mem_of_getElem? (i := 1) (by decide +kernel)) rfl rfl rfl (fun _ => Nat.le_of_ble_eq_true rfl) (fun _ => rfl) dX3_readToken_31 34 rfl (fun M3 eM3 => ?_)
          have hw := hw M3 eM3
          refine q_goto hC 0 dX3_readToken_34 (by decide) ?_
          exact XX.sub [0] rfl (ih M3 hw)
  obtain ⟨n0, hw⟩ := hw
  exact XX.sub [0] rfl (B0 n0 M hw)
set_option maxRecDepth 20000 in
theorem inX3_isNamed_X3 : ∀ w ∈ u_ws RX3 TX3 10, w ∈ wsX3_isNamed := by decide +kernel
set_option maxRecDepth 100000 in
set_option maxHeartbeats 4000000 in
theorem ctX3_isNamed (l : Launch) (g : GG) (M : MM) (k1 : Nat) (Q : Int32 → MM → Prop) (hF : full g) (hk1 : k1 < 11) (hw : wX3_isNamed Q M k1) : MI g l yX3_isNamed wsX3_isNamed (rmOf 5 151) [.ref (gA g 37), .ref (gK g k1)] M Q := by
  refine mk_MZ (cc := cX3_isNamed) (maxL := 3) (by decide) rfl (Nat.le_of_ble_eq_true rfl) ?_
  intro z Qf hC hR
  show XX z g Qf 3 0 [(0, .ref (gA g 37)), (1, .ref (gK g k1))] [] M
  have B28 : ∀ (n : Nat) (M : MM) (v2 : Int32) , wX3_isNamed_28 Q k1 n M v2 → XX z g Qf 3 28 [(0, .ref (gA g 37)), (1, .ref (gK g k1)), (2, .int v2)] [] M := by
    intro n
    induction n with
    | zero =>
      intro M v2 hw
      exact hw.elim
    | succ n ih =>
      intro M v2 hw
      refine q_iload_n hC dX3_isNamed_28 2 rfl 29 rfl ?_
      refine q_aload_n hC dX3_isNamed_29 1 rfl 30 rfl ?_
      refine r_callI hC (go_VK (As := []) (rest := [.int v2]) hC (ctJ0_length_8abf5 (zl z) g M k1 _ hk1 hw) 0 gX3_isNamed_J0_length_8abf5 rfl ⟨rfl, rfl⟩ (by decide +kernel) ⟨Nat.le_of_ble_eq_true rfl, Nat.le_of_ble_eq_true rfl⟩ hk1 rfl rfl (Nat.le_of_ble_eq_true rfl) dX3_isNamed_30) 33 rfl (fun r3 M4 hw => ?_)
      refine q_icmp_ge hC 62 dX3_isNamed_33 (by decide) 36 rfl hw (fun hw => ?_) (fun hw => ?_)
      · refine q_iconst (v := 1) hC dX3_isNamed_62 rfl 63 rfl ?_
        exact r_iret hR dX3_isNamed_63 ⟨nb_1, hw⟩
      · refine q_aload_n hC dX3_isNamed_36 0 rfl 37 rfl ?_
        refine q_aload_n hC dX3_isNamed_37 0 rfl 38 rfl ?_
        refine q_getI (C := RX3) (T := TX3) (N := 10) (ci := 3) hC inX3_isNamed_X3 (hF.ob 37 (by decide) (fun _ => rfl)) rfl 5 (by decide) (List.mem_of_getElem? (i := 3) (by decide +kernel)) rfl (fun _ => rfl) dX3_isNamed_38 41 rfl ?_
        refine q_iload_n hC dX3_isNamed_41 2 rfl 42 rfl ?_
        refine q_iadd hC dX3_isNamed_42 43 rfl ?_
        refine r_callI hC (go_V (q := (RX3, TX3, 10)) (As := [.int ((M4 37 5) + v2)]) (rest := []) hC (ctX3_letterAt (zl z) g M4 ((M4 37 5) + v2) _ hF hw) 1 gX3_isNamed_X3_letterAt rfl ⟨rfl, rfl⟩ (by decide +kernel) ⟨Nat.le_of_ble_eq_true rfl, Nat.le_of_ble_eq_true rfl⟩ (hF.ob 37 (by decide) (fun _ => rfl)) rfl rfl rfl (Nat.le_of_ble_eq_true rfl) dX3_isNamed_43) 46 rfl (fun r5 M6 hw => ?_)
        refine q_aload_n hC dX3_isNamed_46 1 rfl 47 rfl ?_
        refine q_iload_n hC dX3_isNamed_47 2 rfl 48 rfl ?_
        refine r_callI hC (go_VK (As := [.int v2]) (rest := [.int r5]) hC (ctJ0_charAt_5068e (zl z) g M6 k1 v2 _ hk1 hw) 1 gX3_isNamed_J0_charAt_5068e rfl ⟨rfl, rfl⟩ (by decide +kernel) ⟨Nat.le_of_ble_eq_true rfl, Nat.le_of_ble_eq_true rfl⟩ hk1 rfl rfl (Nat.le_of_ble_eq_true rfl) dX3_isNamed_48) 51 rfl (fun r7 M8 hw => ?_)
        refine q_icmp_eq hC 56 dX3_isNamed_51 (by decide) 54 rfl hw (fun hw => ?_) (fun hw => ?_)
        · refine q_iinc (v := v2 + 1) (L' := [(2, .int (v2 + 1)), (0, .ref (gA g 37)), (1, .ref (gK g k1))]) hC dX3_isNamed_56 2 rfl rfl (by decide) rfl 59 rfl ?_
          refine q_goto hC 28 dX3_isNamed_59 (by decide) ?_
          exact XX.sub [1, 2, 0] rfl (ih M8 (v2 + 1) hw)
        · refine q_iconst (v := 0) hC dX3_isNamed_54 rfl 55 rfl ?_
          exact r_iret hR dX3_isNamed_55 ⟨nb_0, hw⟩
  refine q_aload_n hC dX3_isNamed_0 0 rfl 1 rfl ?_
  refine q_getI (C := RX3) (T := TX3) (N := 10) (ci := 3) hC inX3_isNamed_X3 (hF.ob 37 (by decide) (fun _ => rfl)) rfl 4 (by decide) (List.mem_of_getElem? (i := 1) (by decide +kernel)) rfl (fun _ => rfl) dX3_isNamed_1 4 rfl ?_
  refine q_iconst (v := 1) hC dX3_isNamed_4 rfl 5 rfl ?_
  refine q_icmp_ne hC 24 dX3_isNamed_5 (by decide) 8 rfl hw (fun hw => ?_) (fun hw => ?_)
  · refine q_iconst (v := 0) hC dX3_isNamed_24 rfl 25 rfl ?_
    exact r_iret hR dX3_isNamed_25 ⟨nb_0, hw⟩
  · refine q_aload_n hC dX3_isNamed_8 0 rfl 9 rfl ?_
    refine q_getI (C := RX3) (T := TX3) (N := 10) (ci := 3) hC inX3_isNamed_X3 (hF.ob 37 (by decide) (fun _ => rfl)) rfl 3 (by decide) (List.mem_of_getElem? (i := 2) (by decide +kernel)) rfl (fun _ => rfl) dX3_isNamed_9 12 rfl ?_
    refine q_aload_n hC dX3_isNamed_12 0 rfl 13 rfl ?_
    refine q_getI (C := RX3) (T := TX3) (N := 10) (ci := 3) hC inX3_isNamed_X3 (hF.ob 37 (by decide) (fun _ => rfl)) rfl 5 (by decide) (List.mem_of_getElem? (i := 3) (by decide +kernel)) rfl (fun _ => rfl) dX3_isNamed_13 16 rfl ?_
    refine q_isub hC dX3_isNamed_16 17 rfl ?_
    refine q_aload_n hC dX3_isNamed_17 1 rfl 18 rfl ?_
    refine r_callI hC (go_VK (As := []) (rest := [.int ((M 37 3) - (M 37 5))]) hC (ctJ0_length_8abf5 (zl z) g M k1 _ hk1 hw) 0 gX3_isNamed_J0_length_8abf5 rfl ⟨rfl, rfl⟩ (by decide +kernel) ⟨Nat.le_of_ble_eq_true rfl, Nat.le_of_ble_eq_true rfl⟩ hk1 rfl rfl (Nat.le_of_ble_eq_true rfl) dX3_isNamed_18) 21 rfl (fun r1 M2 hw => ?_)
    refine q_icmp_eq hC 26 dX3_isNamed_21 (by decide) 24 rfl hw (fun hw => ?_) (fun hw => ?_)
    · refine q_iconst (v := 0) hC dX3_isNamed_26 rfl 27 rfl ?_
      refine q_istore_n (L' := [(2, .int 0), (0, .ref (gA g 37)), (1, .ref (gK g k1))]) hC dX3_isNamed_27 (by decide) rfl 28 rfl ?_
      obtain ⟨n0, hw⟩ := hw
      exact XX.sub [1, 2, 0] rfl (B28 n0 M2 0 hw)
    · refine q_iconst (v := 0) hC dX3_isNamed_24 rfl 25 rfl ?_
      exact r_iret hR dX3_isNamed_25 ⟨nb_0, hw⟩
set_option maxRecDepth 100000 in
set_option maxHeartbeats 4000000 in
theorem ctX3_ruleNamed (l : Launch) (g : GG) (M : MM)  (Q : Int32 → MM → Prop) (hF : full g) (hw : wX3_ruleNamed Q M ) : MI g l yX3_ruleNamed wsX3_ruleNamed (rmOf 6 173) [.ref (gA g 37)] M Q := by
  refine mk_MI (cc := cX3_ruleNamed) (maxL := 1) (by decide) rfl (Nat.le_of_ble_eq_true rfl) ?_
  intro z Qf hC hR
  show XX z g Qf 1 0 [(0, .ref (gA g 37))] [] M
  refine q_aload_n hC dX3_ruleNamed_0 0 rfl 1 rfl ?_
  refine q_ldcS hC 0 (by decide) rfl dX3_ruleNamed_1 3 rfl ?_
  refine r_callI hC (go_V (q := (RX3, TX3, 10)) (As := [.ref (gK g 0)]) (rest := []) hC (ctX3_isNamed (zl z) g M 0 _ hF (by decide) hw) 1 gX3_ruleNamed_X3_isNamed rfl ⟨rfl, rfl⟩ (by decide +kernel) ⟨Nat.le_of_ble_eq_true rfl, Nat.le_of_ble_eq_true rfl⟩ (hF.ob 37 (by decide) (fun _ => rfl)) rfl rfl rfl (Nat.le_of_ble_eq_true rfl) dX3_ruleNamed_3) 6 rfl (fun r1 M2 hw => ?_)
  refine q_if_eq hC 11 dX3_ruleNamed_6 (by decide) 9 rfl hw (fun hw => ?_) (fun hw => ?_)
  · refine q_aload_n hC dX3_ruleNamed_11 0 rfl 12 rfl ?_
    refine q_ldcS hC 1 (by decide) rfl dX3_ruleNamed_12 14 rfl ?_
    refine r_callI hC (go_V (q := (RX3, TX3, 10)) (As := [.ref (gK g 1)]) (rest := []) hC (ctX3_isNamed (zl z) g M2 1 _ hF (by decide) hw) 1 gX3_ruleNamed_X3_isNamed rfl ⟨rfl, rfl⟩ (by decide +kernel) ⟨Nat.le_of_ble_eq_true rfl, Nat.le_of_ble_eq_true rfl⟩ (hF.ob 37 (by decide) (fun _ => rfl)) rfl rfl rfl (Nat.le_of_ble_eq_true rfl) dX3_ruleNamed_14) 17 rfl (fun r3 M4 hw => ?_)
    refine q_if_eq hC 22 dX3_ruleNamed_17 (by decide) 20 rfl hw (fun hw => ?_) (fun hw => ?_)
    · refine q_aload_n hC dX3_ruleNamed_22 0 rfl 23 rfl ?_
      refine q_ldcS hC 2 (by decide) rfl dX3_ruleNamed_23 25 rfl ?_
      refine r_callI hC (go_V (q := (RX3, TX3, 10)) (As := [.ref (gK g 2)]) (rest := []) hC (ctX3_isNamed (zl z) g M4 2 _ hF (by decide) hw) 1 gX3_ruleNamed_X3_isNamed rfl ⟨rfl, rfl⟩ (by decide +kernel) ⟨Nat.le_of_ble_eq_true rfl, Nat.le_of_ble_eq_true rfl⟩ (hF.ob 37 (by decide) (fun _ => rfl)) rfl rfl rfl (Nat.le_of_ble_eq_true rfl) dX3_ruleNamed_25) 28 rfl (fun r5 M6 hw => ?_)
      refine q_if_eq hC 33 dX3_ruleNamed_28 (by decide) 31 rfl hw (fun hw => ?_) (fun hw => ?_)
      · refine q_aload_n hC dX3_ruleNamed_33 0 rfl 34 rfl ?_
        refine q_ldcS hC 3 (by decide) rfl dX3_ruleNamed_34 36 rfl ?_
        refine r_callI hC (go_V (q := (RX3, TX3, 10)) (As := [.ref (gK g 3)]) (rest := []) hC (ctX3_isNamed (zl z) g M6 3 _ hF (by decide) hw) 1 gX3_ruleNamed_X3_isNamed rfl ⟨rfl, rfl⟩ (by decide +kernel) ⟨Nat.le_of_ble_eq_true rfl, Nat.le_of_ble_eq_true rfl⟩ (hF.ob 37 (by decide) (fun _ => rfl)) rfl rfl rfl (Nat.le_of_ble_eq_true rfl) dX3_ruleNamed_36) 39 rfl (fun r7 M8 hw => ?_)
        refine q_if_eq hC 44 dX3_ruleNamed_39 (by decide) 42 rfl hw (fun hw => ?_) (fun hw => ?_)
        · refine q_aload_n hC dX3_ruleNamed_44 0 rfl 45 rfl ?_
          refine q_ldcS hC 4 (by decide) rfl dX3_ruleNamed_45 47 rfl ?_
          refine r_callI hC (go_V (q := (RX3, TX3, 10)) (As := [.ref (gK g 4)]) (rest := []) hC (ctX3_isNamed (zl z) g M8 4 _ hF (by decide) hw) 1 gX3_ruleNamed_X3_isNamed rfl ⟨rfl, rfl⟩ (by decide +kernel) ⟨Nat.le_of_ble_eq_true rfl, Nat.le_of_ble_eq_true rfl⟩ (hF.ob 37 (by decide) (fun _ => rfl)) rfl rfl rfl (Nat.le_of_ble_eq_true rfl) dX3_ruleNamed_47) 50 rfl (fun r9 M10 hw => ?_)
          refine q_if_eq hC 55 dX3_ruleNamed_50 (by decide) 53 rfl hw (fun hw => ?_) (fun hw => ?_)
          · refine q_aload_n hC dX3_ruleNamed_55 0 rfl 56 rfl ?_
            refine q_ldcS hC 5 (by decide) rfl dX3_ruleNamed_56 58 rfl ?_
            refine r_callI hC (go_V (q := (RX3, TX3, 10)) (As := [.ref (gK g 5)]) (rest := []) hC (ctX3_isNamed (zl z) g M10 5 _ hF (by decide) hw) 1 gX3_ruleNamed_X3_isNamed rfl ⟨rfl, rfl⟩ (by decide +kernel) ⟨Nat.le_of_ble_eq_true rfl, Nat.le_of_ble_eq_true rfl⟩ (hF.ob 37 (by decide) (fun _ => rfl)) rfl rfl rfl (Nat.le_of_ble_eq_true rfl) dX3_ruleNamed_58) 61 rfl (fun r11 M12 hw => ?_)
            refine q_if_eq hC 66 dX3_ruleNamed_61 (by decide) 64 rfl hw (fun hw => ?_) (fun hw => ?_)
            · refine q_aload_n hC dX3_ruleNamed_66 0 rfl 67 rfl ?_
              refine q_ldcS hC 6 (by decide) rfl dX3_ruleNamed_67 69 rfl ?_
              refine r_callI hC (go_V (q := (RX3, TX3, 10)) (As := [.ref (gK g 6)]) (rest := []) hC (ctX3_isNamed (zl z) g M12 6 _ hF (by decide) hw) 1 gX3_ruleNamed_X3_isNamed rfl ⟨rfl, rfl⟩ (by decide +kernel) ⟨Nat.le_of_ble_eq_true rfl, Nat.le_of_ble_eq_true rfl⟩ (hF.ob 37 (by decide) (fun _ => rfl)) rfl rfl rfl (Nat.le_of_ble_eq_true rfl) dX3_ruleNamed_69) 72 rfl (fun r13 M14 hw => ?_)
              refine q_if_eq hC 78 dX3_ruleNamed_72 (by decide) 75 rfl hw (fun hw => ?_) (fun hw => ?_)
              · refine q_aload_n hC dX3_ruleNamed_78 0 rfl 79 rfl ?_
                refine q_ldcS hC 7 (by decide) rfl dX3_ruleNamed_79 81 rfl ?_
                refine r_callI hC (go_V (q := (RX3, TX3, 10)) (As := [.ref (gK g 7)]) (rest := []) hC (ctX3_isNamed (zl z) g M14 7 _ hF (by decide) hw) 1 gX3_ruleNamed_X3_isNamed rfl ⟨rfl, rfl⟩ (by decide +kernel) ⟨Nat.le_of_ble_eq_true rfl, Nat.le_of_ble_eq_true rfl⟩ (hF.ob 37 (by decide) (fun _ => rfl)) rfl rfl rfl (Nat.le_of_ble_eq_true rfl) dX3_ruleNamed_81) 84 rfl (fun r15 M16 hw => ?_)
                refine q_if_eq hC 90 dX3_ruleNamed_84 (by decide) 87 rfl hw (fun hw => ?_) (fun hw => ?_)
                · refine q_aload_n hC dX3_ruleNamed_90 0 rfl 91 rfl ?_
                  refine q_ldcS hC 8 (by decide) rfl dX3_ruleNamed_91 93 rfl ?_
                  refine r_callI hC (go_V (q := (RX3, TX3, 10)) (As := [.ref (gK g 8)]) (rest := []) hC (ctX3_isNamed (zl z) g M16 8 _ hF (by decide) hw) 1 gX3_ruleNamed_X3_isNamed rfl ⟨rfl, rfl⟩ (by decide +kernel) ⟨Nat.le_of_ble_eq_true rfl, Nat.le_of_ble_eq_true rfl⟩ (hF.ob 37 (by decide) (fun _ => rfl)) rfl rfl rfl (Nat.le_of_ble_eq_true rfl) dX3_ruleNamed_93) 96 rfl (fun r17 M18 hw => ?_)
                  refine q_if_eq hC 102 dX3_ruleNamed_96 (by decide) 99 rfl hw (fun hw => ?_) (fun hw => ?_)
                  · refine q_bipush (v := (-4)) hC dX3_ruleNamed_102 (by decide) 104 rfl ?_
                    exact r_iret hR dX3_ruleNamed_104 hw
                  · refine q_bipush (v := 8) hC dX3_ruleNamed_99 (by decide) 101 rfl ?_
                    exact r_iret hR dX3_ruleNamed_101 hw
                · refine q_bipush (v := 7) hC dX3_ruleNamed_87 (by decide) 89 rfl ?_
                  exact r_iret hR dX3_ruleNamed_89 hw
              · refine q_bipush (v := 6) hC dX3_ruleNamed_75 (by decide) 77 rfl ?_
                exact r_iret hR dX3_ruleNamed_77 hw
            · refine q_iconst (v := 5) hC dX3_ruleNamed_64 rfl 65 rfl ?_
              exact r_iret hR dX3_ruleNamed_65 hw
          · refine q_iconst (v := 4) hC dX3_ruleNamed_53 rfl 54 rfl ?_
            exact r_iret hR dX3_ruleNamed_54 hw
        · refine q_iconst (v := 3) hC dX3_ruleNamed_42 rfl 43 rfl ?_
          exact r_iret hR dX3_ruleNamed_43 hw
      · refine q_iconst (v := 2) hC dX3_ruleNamed_31 rfl 32 rfl ?_
        exact r_iret hR dX3_ruleNamed_32 hw
    · refine q_iconst (v := 1) hC dX3_ruleNamed_20 rfl 21 rfl ?_
      exact r_iret hR dX3_ruleNamed_21 hw
  · refine q_iconst (v := 0) hC dX3_ruleNamed_9 rfl 10 rfl ?_
    exact r_iret hR dX3_ruleNamed_10 hw
set_option maxRecDepth 20000 in
theorem inX3_isNumberWithin_X3 : ∀ w ∈ u_ws RX3 TX3 10, w ∈ wsX3_isNumberWithin := by decide +kernel
set_option maxRecDepth 100000 in
set_option maxHeartbeats 4000000 in
theorem ctX3_isNumberWithin (l : Launch) (g : GG) (M : MM) (v1 : Int32) (v2 : Int32) (Q : Int32 → MM → Prop) (hF : full g) (hw : wX3_isNumberWithin Q M v1 v2) : MI g l yX3_isNumberWithin wsX3_isNumberWithin (rmOf 1 22) [.ref (gA g 37), .int v1, .int v2] M Q := by
  refine mk_MZ (cc := cX3_isNumberWithin) (maxL := 3) (by decide) rfl (Nat.le_of_ble_eq_true rfl) ?_
  intro z Qf hC hR
  show XX z g Qf 3 0 [(0, .ref (gA g 37)), (1, .int v1), (2, .int v2)] [] M
  have B41 : ∀ (M : MM), wX3_isNumberWithin_41 Q v1 v2 M → XX z g Qf 3 41 [(0, .ref (gA g 37))] [] M := by
    intro M hw
    refine q_aload_n hC dX3_isNumberWithin_41 0 rfl 42 rfl ?_
    refine q_getI (C := RX3) (T := TX3) (N := 10) (ci := 3) hC inX3_isNumberWithin_X3 (hF.ob 37 (by decide) (fun _ => rfl)) rfl 8 (by decide) (List.mem_of_getElem? (i := 4) (by decide +kernel)) rfl (fun _ => rfl) dX3_isNumberWithin_42 45 rfl ?_
    refine q_if_ne hC 52 dX3_isNumberWithin_45 (by decide) 48 rfl hw (fun hw => ?_) (fun hw => ?_)
    · refine q_iconst (v := 0) hC dX3_isNumberWithin_52 rfl 53 rfl ?_
      exact r_iret hR dX3_isNumberWithin_53 ⟨nb_0, hw⟩
    · refine q_iconst (v := 1) hC dX3_isNumberWithin_48 rfl 49 rfl ?_
      refine q_goto hC 53 dX3_isNumberWithin_49 (by decide) ?_
      exact r_iret hR dX3_isNumberWithin_53 ⟨nb_1, hw⟩
  refine q_aload_n hC dX3_isNumberWithin_0 0 rfl 1 rfl ?_
  refine q_getI (C := RX3) (T := TX3) (N := 10) (ci := 3) hC inX3_isNumberWithin_X3 (hF.ob 37 (by decide) (fun _ => rfl)) rfl 4 (by decide) (List.mem_of_getElem? (i := 1) (by decide +kernel)) rfl (fun _ => rfl) dX3_isNumberWithin_1 4 rfl ?_
  refine q_iconst (v := 2) hC dX3_isNumberWithin_4 rfl 5 rfl ?_
  refine q_icmp_eq hC 20 dX3_isNumberWithin_5 (by decide) 8 rfl hw (fun hw => ?_) (fun hw => ?_)
  · refine q_aload_n hC dX3_isNumberWithin_20 0 rfl 21 rfl ?_
    refine q_getI (C := RX3) (T := TX3) (N := 10) (ci := 3) hC inX3_isNumberWithin_X3 (hF.ob 37 (by decide) (fun _ => rfl)) rfl 6 (by decide) (List.mem_of_getElem? (i := 3) (by decide +kernel)) rfl (fun _ => rfl) dX3_isNumberWithin_21 24 rfl ?_
    refine q_iload_n hC dX3_isNumberWithin_24 1 rfl 25 rfl ?_
    refine q_iload_n hC dX3_isNumberWithin_25 2 rfl 26 rfl ?_
    refine r_callI hC (go_N (As := [.int (M 37 6), .int v1, .int v2]) (rest := []) hC (ctX4_isBetween (zl z) g M (M 37 6) v1 v2 _ hw) 3 gX3_isNumberWithin_X4_isBetween_n173 rfl ⟨rfl, rfl⟩ 13 rfl (List.mem_of_getElem? (i := 12) (by decide +kernel)) (List.mem_of_getElem? (i := 11) (by decide +kernel)) (by decide +kernel) ⟨Nat.le_of_ble_eq_true rfl, Nat.le_of_ble_eq_true rfl⟩ rfl rfl (Nat.le_of_ble_eq_true rfl) dX3_isNumberWithin_26) 29 rfl (fun r1 M2 hw => ?_)
    refine q_if_ne hC 41 dX3_isNumberWithin_29 (by decide) 32 rfl hw (fun hw => ?_) (fun hw => ?_)
    · exact XX.sub [0] rfl (B41 M2 hw)
    · refine q_aload_n hC dX3_isNumberWithin_32 0 rfl 33 rfl ?_
      refine q_iconst (v := 3) hC dX3_isNumberWithin_33 rfl 34 rfl ?_
      refine q_aload_n hC dX3_isNumberWithin_34 0 rfl 35 rfl ?_
      refine q_getI (C := RX3) (T := TX3) (N := 10) (ci := 3) hC inX3_isNumberWithin_X3 (hF.ob 37 (by decide) (fun _ => rfl)) rfl 5 (by decide) (List.mem_of_getElem? (i := 2) (by decide +kernel)) rfl (fun _ => rfl) dX3_isNumberWithin_35 38 rfl ?_
      refine r_callV hC (go_V (q := (RX3, TX3, 10)) (As := [.int 3, .int (M2 37 5)]) (rest := []) hC (ctX3_refuse (zl z) g M2 3 (M2 37 5) _ hF hw) 2 gX3_isNumberWithin_X3_refuse rfl ⟨rfl, rfl⟩ (by decide +kernel) ⟨Nat.le_of_ble_eq_true rfl, Nat.le_of_ble_eq_true rfl⟩ (hF.ob 37 (by decide) (fun _ => rfl)) rfl rfl rfl (Nat.le_of_ble_eq_true rfl) dX3_isNumberWithin_38) 41 rfl (fun M3 hw => ?_)
      exact XX.sub [0] rfl (B41 M3 hw)
  · refine q_aload_n hC dX3_isNumberWithin_8 0 rfl 9 rfl ?_
    refine q_iconst (v := 2) hC dX3_isNumberWithin_9 rfl 10 rfl ?_
    refine q_aload_n hC dX3_isNumberWithin_10 0 rfl 11 rfl ?_
    refine q_getI (C := RX3) (T := TX3) (N := 10) (ci := 3) hC inX3_isNumberWithin_X3 (hF.ob 37 (by decide) (fun _ => rfl)) rfl 5 (by decide) (List.mem_of_getElem? (i := 2) (by decide +kernel)) rfl (fun _ => rfl) dX3_isNumberWithin_11 14 rfl ?_
    refine r_callV hC (go_V (q := (RX3, TX3, 10)) (As := [.int 2, .int (M 37 5)]) (rest := []) hC (ctX3_refuse (zl z) g M 2 (M 37 5) _ hF hw) 2 gX3_isNumberWithin_X3_refuse rfl ⟨rfl, rfl⟩ (by decide +kernel) ⟨Nat.le_of_ble_eq_true rfl, Nat.le_of_ble_eq_true rfl⟩ (hF.ob 37 (by decide) (fun _ => rfl)) rfl rfl rfl (Nat.le_of_ble_eq_true rfl) dX3_isNumberWithin_14) 17 rfl (fun M4 hw => ?_)
    refine q_goto hC 41 dX3_isNumberWithin_17 (by decide) ?_
    exact XX.sub [0] rfl (B41 M4 hw)
set_option maxRecDepth 20000 in
theorem inX3_takeRule_X2 : ∀ w ∈ u_ws RX2 TX2 14, w ∈ wsX3_takeRule := by decide +kernel
set_option maxRecDepth 20000 in
theorem inX3_takeRule_X3 : ∀ w ∈ u_ws RX3 TX3 10, w ∈ wsX3_takeRule := by decide +kernel
set_option maxRecDepth 100000 in
set_option maxHeartbeats 4000000 in
theorem ctX3_takeRule (l : Launch) (g : GG) (M : MM) (v1 : Int32) (Q : MM → Prop) (hF : full g) (hw : wX3_takeRule Q M v1) : MV g l yX3_takeRule wsX3_takeRule (rmOf 3 63) [.ref (gA g 37), .int v1] M Q := by
  refine mk_MV (cc := cX3_takeRule) (maxL := 2) (by decide) rfl (Nat.le_of_ble_eq_true rfl) ?_
  intro z Qf hC hR
  show XX z g Qf 2 0 [(0, .ref (gA g 37)), (1, .int v1)] [] M
  refine q_aload_n hC dX3_takeRule_0 0 rfl 1 rfl ?_
  refine q_getI (C := RX3) (T := TX3) (N := 10) (ci := 3) hC inX3_takeRule_X3 (hF.ob 37 (by decide) (fun _ => rfl)) rfl 7 (by decide) (List.mem_of_getElem? (i := 1) (by decide +kernel)) rfl (fun _ => rfl) dX3_takeRule_1 4 rfl ?_
  refine q_iload_n hC dX3_takeRule_4 1 rfl 5 rfl ?_
  refine q_ishr hC dX3_takeRule_5 6 rfl ?_
  refine q_iconst (v := 1) hC dX3_takeRule_6 rfl 7 rfl ?_
  refine q_iand hC dX3_takeRule_7 8 rfl ?_
  refine q_iconst (v := 1) hC dX3_takeRule_8 rfl 9 rfl ?_
  refine q_icmp_ne hC 22 dX3_takeRule_9 (by decide) 12 rfl hw (fun hw => ?_) (fun hw => ?_)
  · refine q_aload_n hC dX3_takeRule_22 0 rfl 23 rfl ?_
    refine q_dup hC dX3_takeRule_23 rfl 24 rfl ?_
    refine q_getI (C := RX3) (T := TX3) (N := 10) (ci := 3) hC inX3_takeRule_X3 (hF.ob 37 (by decide) (fun _ => rfl)) rfl 7 (by decide) (List.mem_of_getElem? (i := 1) (by decide +kernel)) rfl (fun _ => rfl) dX3_takeRule_24 27 rfl ?_
    refine q_iconst (v := 1) hC dX3_takeRule_27 rfl 28 rfl ?_
    refine q_iload_n hC dX3_takeRule_28 1 rfl 29 rfl ?_
    refine q_ishl hC dX3_takeRule_29 30 rfl ?_
    refine q_ior hC dX3_takeRule_30 31 rfl ?_
    refine q_putI (C := RX3) (T := TX3) (N := 10) (ci := 3) hC inX3_takeRule_X3 tyX3 tyX3_ok nmX3 (hF.ob 37 (by decide) (fun _ => rfl)) rfl 7 (by decide) (List.mem_of_getElem? (i := 1) (by decide +kernel)) rfl rfl rfl (fun _ => Nat.le_of_ble_eq_true rfl) (fun _ => rfl) dX3_takeRule_31 34 rfl (fun M1 eM1 => ?_)
    have hw := hw M1 eM1
    refine q_aload_n hC dX3_takeRule_34 0 rfl 35 rfl ?_
    refine r_callV hC (go_V (q := (RX3, TX3, 10)) (As := []) (rest := []) hC (ctX3_readToken (zl z) g M1 _ hF hw) 0 gX3_takeRule_X3_readToken rfl ⟨rfl, rfl⟩ (by decide +kernel) ⟨Nat.le_of_ble_eq_true rfl, Nat.le_of_ble_eq_true rfl⟩ (hF.ob 37 (by decide) (fun _ => rfl)) rfl rfl rfl (Nat.le_of_ble_eq_true rfl) dX3_takeRule_35) 38 rfl (fun M2 hw => ?_)
    refine q_aload_n hC dX3_takeRule_38 0 rfl 39 rfl ?_
    refine q_getsN hC 0 (by decide) 1 rfl dX3_takeRule_39 42 rfl ?_
    refine q_iload_n hC dX3_takeRule_42 1 rfl 43 rfl ?_
    refine r_callI hC (go_N (As := [.ref (gS g 0), .int v1]) (rest := [.ref (gA g 37)]) hC (ctX4_cell_s (zl z) g M2 0 v1 _ (by decide) hw) 2 gX3_takeRule_X4_cell_n144 rfl ⟨rfl, rfl⟩ 11 rfl (List.mem_of_getElem? (i := 36) (by decide +kernel)) (List.mem_of_getElem? (i := 35) (by decide +kernel)) (by decide +kernel) ⟨Nat.le_of_ble_eq_true rfl, Nat.le_of_ble_eq_true rfl⟩ rfl rfl (Nat.le_of_ble_eq_true rfl) dX3_takeRule_43) 46 rfl (fun r3 M4 hw => ?_)
    refine q_getsN hC 1 (by decide) 2 rfl dX3_takeRule_46 49 rfl ?_
    refine q_iload_n hC dX3_takeRule_49 1 rfl 50 rfl ?_
    refine r_callI hC (go_N (As := [.ref (gS g 1), .int v1]) (rest := [.int r3, .ref (gA g 37)]) hC (ctX4_cell_s (zl z) g M4 1 v1 _ (by decide) hw) 2 gX3_takeRule_X4_cell_n144 rfl ⟨rfl, rfl⟩ 11 rfl (List.mem_of_getElem? (i := 36) (by decide +kernel)) (List.mem_of_getElem? (i := 35) (by decide +kernel)) (by decide +kernel) ⟨Nat.le_of_ble_eq_true rfl, Nat.le_of_ble_eq_true rfl⟩ rfl rfl (Nat.le_of_ble_eq_true rfl) dX3_takeRule_50) 53 rfl (fun r5 M6 hw => ?_)
    refine r_callI hC (go_V (q := (RX3, TX3, 10)) (As := [.int r3, .int r5]) (rest := []) hC (ctX3_isNumberWithin (zl z) g M6 r3 r5 _ hF hw) 2 gX3_takeRule_X3_isNumberWithin rfl ⟨rfl, rfl⟩ (by decide +kernel) ⟨Nat.le_of_ble_eq_true rfl, Nat.le_of_ble_eq_true rfl⟩ (hF.ob 37 (by decide) (fun _ => rfl)) rfl rfl rfl (Nat.le_of_ble_eq_true rfl) dX3_takeRule_53) 56 rfl (fun r7 M8 hw => ?_)
    refine q_if_ne hC 60 dX3_takeRule_56 (by decide) 59 rfl hw (fun hw => ?_) (fun hw => ?_)
    · refine q_aload_n hC dX3_takeRule_60 0 rfl 61 rfl ?_
      refine q_getR (C := RX3) (T := TX3) (N := 10) (ci := 3) hC inX3_takeRule_X3 (hF.ob 37 (by decide) (fun _ => rfl)) rfl 1 (by decide) (List.mem_of_getElem? (i := 3) (by decide +kernel)) rfl 28 (fun _ => rfl) dX3_takeRule_61 64 rfl ?_
      refine q_getR (C := RX2) (T := TX2) (N := 14) (ci := 2) hC inX3_takeRule_X2 (hF.tp (b := 28) (Or.inr (Or.inr (Or.inr rfl)))).ob rfl 0 (by decide) (List.mem_of_getElem? (i := 4) (by decide +kernel)) rfl 29 (fun _ => rfl) dX3_takeRule_64 67 rfl ?_
      refine q_iload_n hC dX3_takeRule_67 1 rfl 68 rfl ?_
      refine q_aload_n hC dX3_takeRule_68 0 rfl 69 rfl ?_
      refine q_getI (C := RX3) (T := TX3) (N := 10) (ci := 3) hC inX3_takeRule_X3 (hF.ob 37 (by decide) (fun _ => rfl)) rfl 6 (by decide) (List.mem_of_getElem? (i := 5) (by decide +kernel)) rfl (fun _ => rfl) dX3_takeRule_69 72 rfl ?_
      refine r_callV hC (go_N (As := [.ref (gA g 29), .int v1, .int (M8 37 6)]) (rest := []) hC (ctX4_setCell (zl z) g M8 29 v1 (M8 37 6) _ (hF.ar 29 (by decide) (fun _ => rfl)) hw) 3 gX3_takeRule_X4_setCell_n158 rfl ⟨rfl, rfl⟩ 12 rfl (List.mem_of_getElem? (i := 36) (by decide +kernel)) (List.mem_of_getElem? (i := 44) (by decide +kernel)) (by decide +kernel) ⟨Nat.le_of_ble_eq_true rfl, Nat.le_of_ble_eq_true rfl⟩ rfl rfl (Nat.le_of_ble_eq_true rfl) dX3_takeRule_72) 75 rfl (fun M9 hw => ?_)
      refine q_aload_n hC dX3_takeRule_75 0 rfl 76 rfl ?_
      refine r_callV hC (go_V (q := (RX3, TX3, 10)) (As := []) (rest := []) hC (ctX3_readToken (zl z) g M9 _ hF hw) 0 gX3_takeRule_X3_readToken rfl ⟨rfl, rfl⟩ (by decide +kernel) ⟨Nat.le_of_ble_eq_true rfl, Nat.le_of_ble_eq_true rfl⟩ (hF.ob 37 (by decide) (fun _ => rfl)) rfl rfl rfl (Nat.le_of_ble_eq_true rfl) dX3_takeRule_76) 79 rfl (fun M10 hw => ?_)
      exact r_vret hR dX3_takeRule_79 hw
    · exact r_vret hR dX3_takeRule_59 hw
  · refine q_aload_n hC dX3_takeRule_12 0 rfl 13 rfl ?_
    refine q_iconst (v := 4) hC dX3_takeRule_13 rfl 14 rfl ?_
    refine q_aload_n hC dX3_takeRule_14 0 rfl 15 rfl ?_
    refine q_getI (C := RX3) (T := TX3) (N := 10) (ci := 3) hC inX3_takeRule_X3 (hF.ob 37 (by decide) (fun _ => rfl)) rfl 5 (by decide) (List.mem_of_getElem? (i := 2) (by decide +kernel)) rfl (fun _ => rfl) dX3_takeRule_15 18 rfl ?_
    refine r_callV hC (go_V (q := (RX3, TX3, 10)) (As := [.int 4, .int (M 37 5)]) (rest := []) hC (ctX3_refuse (zl z) g M 4 (M 37 5) _ hF hw) 2 gX3_takeRule_X3_refuse rfl ⟨rfl, rfl⟩ (by decide +kernel) ⟨Nat.le_of_ble_eq_true rfl, Nat.le_of_ble_eq_true rfl⟩ (hF.ob 37 (by decide) (fun _ => rfl)) rfl rfl rfl (Nat.le_of_ble_eq_true rfl) dX3_takeRule_18) 21 rfl (fun M11 hw => ?_)
    exact r_vret hR dX3_takeRule_21 hw
set_option maxRecDepth 20000 in
theorem inX3_hasRoomForBlock_X2 : ∀ w ∈ u_ws RX2 TX2 14, w ∈ wsX3_hasRoomForBlock := by decide +kernel
set_option maxRecDepth 20000 in
theorem inX3_hasRoomForBlock_X3 : ∀ w ∈ u_ws RX3 TX3 10, w ∈ wsX3_hasRoomForBlock := by decide +kernel
set_option maxRecDepth 100000 in
set_option maxHeartbeats 4000000 in
theorem ctX3_hasRoomForBlock (l : Launch) (g : GG) (M : MM)  (Q : Int32 → MM → Prop) (hF : full g) (hw : wX3_hasRoomForBlock Q M ) : MI g l yX3_hasRoomForBlock wsX3_hasRoomForBlock (rmOf 1 22) [.ref (gA g 37)] M Q := by
  refine mk_MZ (cc := cX3_hasRoomForBlock) (maxL := 1) (by decide) rfl (Nat.le_of_ble_eq_true rfl) ?_
  intro z Qf hC hR
  show XX z g Qf 1 0 [(0, .ref (gA g 37))] [] M
  refine q_aload_n hC dX3_hasRoomForBlock_0 0 rfl 1 rfl ?_
  refine q_getR (C := RX3) (T := TX3) (N := 10) (ci := 3) hC inX3_hasRoomForBlock_X3 (hF.ob 37 (by decide) (fun _ => rfl)) rfl 1 (by decide) (List.mem_of_getElem? (i := 1) (by decide +kernel)) rfl 28 (fun _ => rfl) dX3_hasRoomForBlock_1 4 rfl ?_
  refine q_getI (C := RX2) (T := TX2) (N := 14) (ci := 2) hC inX3_hasRoomForBlock_X2 (hF.tp (b := 28) (Or.inr (Or.inr (Or.inr rfl)))).ob rfl 8 (by decide) (List.mem_of_getElem? (i := 2) (by decide +kernel)) rfl (fun _ => rfl) dX3_hasRoomForBlock_4 7 rfl ?_
  refine q_bipush (v := 12) hC dX3_hasRoomForBlock_7 (by decide) 9 rfl ?_
  refine q_icmp_ge hC 14 dX3_hasRoomForBlock_9 (by decide) 12 rfl hw (fun hw => ?_) (fun hw => ?_)
  · refine q_aload_n hC dX3_hasRoomForBlock_14 0 rfl 15 rfl ?_
    refine q_iconst (v := 5) hC dX3_hasRoomForBlock_15 rfl 16 rfl ?_
    refine q_aload_n hC dX3_hasRoomForBlock_16 0 rfl 17 rfl ?_
    refine q_getI (C := RX3) (T := TX3) (N := 10) (ci := 3) hC inX3_hasRoomForBlock_X3 (hF.ob 37 (by decide) (fun _ => rfl)) rfl 5 (by decide) (List.mem_of_getElem? (i := 3) (by decide +kernel)) rfl (fun _ => rfl) dX3_hasRoomForBlock_17 20 rfl ?_
    refine r_callV hC (go_V (q := (RX3, TX3, 10)) (As := [.int 5, .int (M 37 5)]) (rest := []) hC (ctX3_refuse (zl z) g M 5 (M 37 5) _ hF hw) 2 gX3_hasRoomForBlock_X3_refuse rfl ⟨rfl, rfl⟩ (by decide +kernel) ⟨Nat.le_of_ble_eq_true rfl, Nat.le_of_ble_eq_true rfl⟩ (hF.ob 37 (by decide) (fun _ => rfl)) rfl rfl rfl (Nat.le_of_ble_eq_true rfl) dX3_hasRoomForBlock_20) 23 rfl (fun M1 hw => ?_)
    refine q_iconst (v := 0) hC dX3_hasRoomForBlock_23 rfl 24 rfl ?_
    exact r_iret hR dX3_hasRoomForBlock_24 ⟨nb_0, hw⟩
  · refine q_iconst (v := 1) hC dX3_hasRoomForBlock_12 rfl 13 rfl ?_
    exact r_iret hR dX3_hasRoomForBlock_13 ⟨nb_1, hw⟩
set_option maxRecDepth 20000 in
theorem inX3_takeBlock_X2 : ∀ w ∈ u_ws RX2 TX2 14, w ∈ wsX3_takeBlock := by decide +kernel
set_option maxRecDepth 20000 in
theorem inX3_takeBlock_X3 : ∀ w ∈ u_ws RX3 TX3 10, w ∈ wsX3_takeBlock := by decide +kernel
set_option maxRecDepth 100000 in
set_option maxHeartbeats 4000000 in
theorem ctX3_takeBlock (l : Launch) (g : GG) (M : MM)  (Q : MM → Prop) (hF : full g) (hw : wX3_takeBlock Q M ) : MV g l yX3_takeBlock wsX3_takeBlock (rmOf 3 72) [.ref (gA g 37)] M Q := by
  refine mk_MV (cc := cX3_takeBlock) (maxL := 2) (by decide) rfl (Nat.le_of_ble_eq_true rfl) ?_
  intro z Qf hC hR
  show XX z g Qf 2 0 [(0, .ref (gA g 37))] [] M
  have B92 : ∀ (M : MM), wX3_takeBlock_92 Q M → XX z g Qf 2 92 [(0, .ref (gA g 37))] [] M := by
    intro M hw
    refine q_aload_n hC dX3_takeBlock_92 0 rfl 93 rfl ?_
    refine q_getR (C := RX3) (T := TX3) (N := 10) (ci := 3) hC inX3_takeBlock_X3 (hF.ob 37 (by decide) (fun _ => rfl)) rfl 1 (by decide) (List.mem_of_getElem? (i := 1) (by decide +kernel)) rfl 28 (fun _ => rfl) dX3_takeBlock_93 96 rfl ?_
    refine q_aload_n hC dX3_takeBlock_96 0 rfl 97 rfl ?_
    refine q_getR (C := RX3) (T := TX3) (N := 10) (ci := 3) hC inX3_takeBlock_X3 (hF.ob 37 (by decide) (fun _ => rfl)) rfl 1 (by decide) (List.mem_of_getElem? (i := 1) (by decide +kernel)) rfl 28 (fun _ => rfl) dX3_takeBlock_97 100 rfl ?_
    refine q_getI (C := RX2) (T := TX2) (N := 14) (ci := 2) hC inX3_takeBlock_X2 (hF.tp (b := 28) (Or.inr (Or.inr (Or.inr rfl)))).ob rfl 8 (by decide) (List.mem_of_getElem? (i := 6) (by decide +kernel)) rfl (fun _ => rfl) dX3_takeBlock_100 103 rfl ?_
    refine q_iconst (v := 0) hC dX3_takeBlock_103 rfl 104 rfl ?_
    refine q_aload_n hC dX3_takeBlock_104 0 rfl 105 rfl ?_
    refine q_getR (C := RX3) (T := TX3) (N := 10) (ci := 3) hC inX3_takeBlock_X3 (hF.ob 37 (by decide) (fun _ => rfl)) rfl 1 (by decide) (List.mem_of_getElem? (i := 1) (by decide +kernel)) rfl 28 (fun _ => rfl) dX3_takeBlock_105 108 rfl ?_
    refine q_getI (C := RX2) (T := TX2) (N := 14) (ci := 2) hC inX3_takeBlock_X2 (hF.tp (b := 28) (Or.inr (Or.inr (Or.inr rfl)))).ob rfl 11 (by decide) (List.mem_of_getElem? (i := 2) (by decide +kernel)) rfl (fun _ => rfl) dX3_takeBlock_108 111 rfl ?_
    refine r_callV hC (go_V (q := (RX2, TX2, 14)) (As := [.int (M 28 8), .int 0, .int (M 28 11)]) (rest := []) hC (ctX2_putBlock (zl z) g M 28 (M 28 8) 0 (M 28 11) _ (hF.tp (b := 28) (Or.inr (Or.inr (Or.inr rfl)))) hw) 3 gX3_takeBlock_X2_putBlock rfl ⟨rfl, rfl⟩ (by decide +kernel) ⟨Nat.le_of_ble_eq_true rfl, Nat.le_of_ble_eq_true rfl⟩ (hF.tp (b := 28) (Or.inr (Or.inr (Or.inr rfl)))).ob rfl rfl rfl (Nat.le_of_ble_eq_true rfl) dX3_takeBlock_111) 114 rfl (fun M10 hw => ?_)
    exact r_vret hR dX3_takeBlock_114 hw
  have B82 : ∀ (K22 : MM → Int32 → Prop) (hK22 : ∀ (M : MM) (v1 : Int32) , K22 M v1 → XX z g Qf 2 22 [(0, .ref (gA g 37)), (1, .int v1)] [] M) (M : MM) (v1 : Int32), wX3_takeBlock_82 Q K22 M v1 → XX z g Qf 2 82 [(0, .ref (gA g 37)), (1, .int v1)] [] M := by
    intro K22 hK22 M v1 hw
    refine q_aload_n hC dX3_takeBlock_82 0 rfl 83 rfl ?_
    refine r_callV hC (go_V (q := (RX3, TX3, 10)) (As := []) (rest := []) hC (ctX3_readToken (zl z) g M _ hF hw) 0 gX3_takeBlock_X3_readToken rfl ⟨rfl, rfl⟩ (by decide +kernel) ⟨Nat.le_of_ble_eq_true rfl, Nat.le_of_ble_eq_true rfl⟩ (hF.ob 37 (by decide) (fun _ => rfl)) rfl rfl rfl (Nat.le_of_ble_eq_true rfl) dX3_takeBlock_83) 86 rfl (fun M11 hw => ?_)
    refine q_iinc (v := v1 + 1) (L' := [(1, .int (v1 + 1)), (0, .ref (gA g 37))]) hC dX3_takeBlock_86 1 rfl rfl (by decide) rfl 89 rfl ?_
    refine q_goto hC 22 dX3_takeBlock_89 (by decide) ?_
    exact XX.sub [1, 0] rfl (hK22 M11 (v1 + 1) hw)
  have B40 : ∀ (K22 : MM → Int32 → Prop) (hK22 : ∀ (M : MM) (v1 : Int32) , K22 M v1 → XX z g Qf 2 22 [(0, .ref (gA g 37)), (1, .int v1)] [] M) (M : MM) (v1 : Int32), wX3_takeBlock_40 Q K22 M v1 → XX z g Qf 2 40 [(0, .ref (gA g 37)), (1, .int v1)] [] M := by
    intro K22 hK22 M v1 hw
    refine q_aload_n hC dX3_takeBlock_40 0 rfl 41 rfl ?_
    refine q_iconst (v := 0) hC dX3_takeBlock_41 rfl 42 rfl ?_
    refine q_sipush (v := 255) hC dX3_takeBlock_42 (by decide) 45 rfl ?_
    refine r_callI hC (go_V (q := (RX3, TX3, 10)) (As := [.int 0, .int 255]) (rest := []) hC (ctX3_isNumberWithin (zl z) g M 0 255 _ hF hw) 2 gX3_takeBlock_X3_isNumberWithin rfl ⟨rfl, rfl⟩ (by decide +kernel) ⟨Nat.le_of_ble_eq_true rfl, Nat.le_of_ble_eq_true rfl⟩ (hF.ob 37 (by decide) (fun _ => rfl)) rfl rfl rfl (Nat.le_of_ble_eq_true rfl) dX3_takeBlock_45) 48 rfl (fun r5 M6 hw => ?_)
    refine q_if_ne hC 52 dX3_takeBlock_48 (by decide) 51 rfl hw (fun hw => ?_) (fun hw => ?_)
    · refine q_iload_n hC dX3_takeBlock_52 1 rfl 53 rfl ?_
      refine q_bipush (v := 12) hC dX3_takeBlock_53 (by decide) 55 rfl ?_
      refine q_icmp_ne hC 70 dX3_takeBlock_55 (by decide) 58 rfl hw (fun hw => ?_) (fun hw => ?_)
      · refine q_aload_n hC dX3_takeBlock_70 0 rfl 71 rfl ?_
        refine q_getR (C := RX3) (T := TX3) (N := 10) (ci := 3) hC inX3_takeBlock_X3 (hF.ob 37 (by decide) (fun _ => rfl)) rfl 1 (by decide) (List.mem_of_getElem? (i := 1) (by decide +kernel)) rfl 28 (fun _ => rfl) dX3_takeBlock_71 74 rfl ?_
        refine q_aload_n hC dX3_takeBlock_74 0 rfl 75 rfl ?_
        refine q_getI (C := RX3) (T := TX3) (N := 10) (ci := 3) hC inX3_takeBlock_X3 (hF.ob 37 (by decide) (fun _ => rfl)) rfl 6 (by decide) (List.mem_of_getElem? (i := 5) (by decide +kernel)) rfl (fun _ => rfl) dX3_takeBlock_75 78 rfl ?_
        refine r_callI hC (go_V (q := (RX2, TX2, 14)) (As := [.int (M6 37 6)]) (rest := []) hC (ctX2_typeOne (zl z) g M6 28 (M6 37 6) _ (hF.tp (b := 28) (Or.inr (Or.inr (Or.inr rfl)))) hw) 1 gX3_takeBlock_X2_typeOne rfl ⟨rfl, rfl⟩ (by decide +kernel) ⟨Nat.le_of_ble_eq_true rfl, Nat.le_of_ble_eq_true rfl⟩ (hF.tp (b := 28) (Or.inr (Or.inr (Or.inr rfl)))).ob rfl rfl rfl (Nat.le_of_ble_eq_true rfl) dX3_takeBlock_78) 81 rfl (fun r7 M8 hw => ?_)
        refine q_pop hC dX3_takeBlock_81 rfl 82 rfl ?_
        exact XX.sub [0, 1] rfl (B82 _ hK22 M8 v1 hw)
      · refine q_aload_n hC dX3_takeBlock_58 0 rfl 59 rfl ?_
        refine q_iconst (v := 5) hC dX3_takeBlock_59 rfl 60 rfl ?_
        refine q_aload_n hC dX3_takeBlock_60 0 rfl 61 rfl ?_
        refine q_getI (C := RX3) (T := TX3) (N := 10) (ci := 3) hC inX3_takeBlock_X3 (hF.ob 37 (by decide) (fun _ => rfl)) rfl 5 (by decide) (List.mem_of_getElem? (i := 4) (by decide +kernel)) rfl (fun _ => rfl) dX3_takeBlock_61 64 rfl ?_
        refine r_callV hC (go_V (q := (RX3, TX3, 10)) (As := [.int 5, .int (M6 37 5)]) (rest := []) hC (ctX3_refuse (zl z) g M6 5 (M6 37 5) _ hF hw) 2 gX3_takeBlock_X3_refuse rfl ⟨rfl, rfl⟩ (by decide +kernel) ⟨Nat.le_of_ble_eq_true rfl, Nat.le_of_ble_eq_true rfl⟩ (hF.ob 37 (by decide) (fun _ => rfl)) rfl rfl rfl (Nat.le_of_ble_eq_true rfl) dX3_takeBlock_64) 67 rfl (fun M9 hw => ?_)
        refine q_goto hC 82 dX3_takeBlock_67 (by decide) ?_
        exact XX.sub [0, 1] rfl (B82 _ hK22 M9 v1 hw)
    · exact r_vret hR dX3_takeBlock_51 hw
  have B22 : ∀ (n : Nat) (M : MM) (v1 : Int32) , wX3_takeBlock_22 Q n M v1 → XX z g Qf 2 22 [(0, .ref (gA g 37)), (1, .int v1)] [] M := by
    intro n
    induction n with
    | zero =>
      intro M v1 hw
      exact hw.elim
    | succ n ih =>
      intro M v1 hw
      refine q_iload_n hC dX3_takeBlock_22 1 rfl 23 rfl ?_
      refine q_bipush (v := 12) hC dX3_takeBlock_23 (by decide) 25 rfl ?_
      refine q_icmp_gt hC 92 dX3_takeBlock_25 (by decide) 28 rfl hw (fun hw => ?_) (fun hw => ?_)
      · exact XX.sub [0] rfl (B92 M hw)
      · refine q_iload_n hC dX3_takeBlock_28 1 rfl 29 rfl ?_
        refine q_if_eq hC 40 dX3_takeBlock_29 (by decide) 32 rfl hw (fun hw => ?_) (fun hw => ?_)
        · exact XX.sub [0, 1] rfl (B40 _ (fun M v1 hw => ih M v1 hw) M v1 hw)
        · refine q_aload_n hC dX3_takeBlock_32 0 rfl 33 rfl ?_
          refine q_getI (C := RX3) (T := TX3) (N := 10) (ci := 3) hC inX3_takeBlock_X3 (hF.ob 37 (by decide) (fun _ => rfl)) rfl 4 (by decide) (List.mem_of_getElem? (i := 3) (by decide +kernel)) rfl (fun _ => rfl) dX3_takeBlock_33 36 rfl ?_
          refine q_iconst (v := 2) hC dX3_takeBlock_36 rfl 37 rfl ?_
          refine q_icmp_ne hC 92 dX3_takeBlock_37 (by decide) 40 rfl hw (fun hw => ?_) (fun hw => ?_)
          · exact XX.sub [0] rfl (B92 M hw)
          · exact XX.sub [0, 1] rfl (B40 _ (fun M v1 hw => ih M v1 hw) M v1 hw)
  refine q_aload_n hC dX3_takeBlock_0 0 rfl 1 rfl ?_
  refine r_callI hC (go_V (q := (RX3, TX3, 10)) (As := []) (rest := []) hC (ctX3_hasRoomForBlock (zl z) g M _ hF hw) 0 gX3_takeBlock_X3_hasRoomForBlock rfl ⟨rfl, rfl⟩ (by decide +kernel) ⟨Nat.le_of_ble_eq_true rfl, Nat.le_of_ble_eq_true rfl⟩ (hF.ob 37 (by decide) (fun _ => rfl)) rfl rfl rfl (Nat.le_of_ble_eq_true rfl) dX3_takeBlock_1) 4 rfl (fun r1 M2 hw => ?_)
  refine q_if_ne hC 8 dX3_takeBlock_4 (by decide) 7 rfl hw (fun hw => ?_) (fun hw => ?_)
  · refine q_aload_n hC dX3_takeBlock_8 0 rfl 9 rfl ?_
    refine q_getR (C := RX3) (T := TX3) (N := 10) (ci := 3) hC inX3_takeBlock_X3 (hF.ob 37 (by decide) (fun _ => rfl)) rfl 1 (by decide) (List.mem_of_getElem? (i := 1) (by decide +kernel)) rfl 28 (fun _ => rfl) dX3_takeBlock_9 12 rfl ?_
    refine q_iconst (v := 0) hC dX3_takeBlock_12 rfl 13 rfl ?_
    refine q_putI (C := RX2) (T := TX2) (N := 14) (ci := 2) hC inX3_takeBlock_X2 tyX2 tyX2_ok nmX2 (hF.tp (b := 28) (Or.inr (Or.inr (Or.inr rfl)))).ob rfl 11 (by decide) (List.mem_of_getElem? (i := 2) (by decide +kernel)) rfl rfl rfl (fun _ => Nat.le_of_ble_eq_true rfl) (fun _ => rfl) dX3_takeBlock_13 16 rfl (fun M3 eM3 => ?_)
    have hw := hw M3 eM3
    refine q_aload_n hC dX3_takeBlock_16 0 rfl 17 rfl ?_
    refine r_callV hC (go_V (q := (RX3, TX3, 10)) (As := []) (rest := []) hC (ctX3_readToken (zl z) g M3 _ hF hw) 0 gX3_takeBlock_X3_readToken rfl ⟨rfl, rfl⟩ (by decide +kernel) ⟨Nat.le_of_ble_eq_true rfl, Nat.le_of_ble_eq_true rfl⟩ (hF.ob 37 (by decide) (fun _ => rfl)) rfl rfl rfl (Nat.le_of_ble_eq_true rfl) dX3_takeBlock_17) 20 rfl (fun M4 hw => ?_)
    refine q_iconst (v := 0) hC dX3_takeBlock_20 rfl 21 rfl ?_
    refine q_istore_n (L' := [(1, .int 0), (0, .ref (gA g 37))]) hC dX3_takeBlock_21 (by decide) rfl 22 rfl ?_
    obtain ⟨n0, hw⟩ := hw
    exact XX.sub [1, 0] rfl (B22 n0 M4 0 hw)
  · exact r_vret hR dX3_takeBlock_7 hw
set_option maxRecDepth 20000 in
theorem inX3_takeMark_X2 : ∀ w ∈ u_ws RX2 TX2 14, w ∈ wsX3_takeMark := by decide +kernel
set_option maxRecDepth 20000 in
theorem inX3_takeMark_X3 : ∀ w ∈ u_ws RX3 TX3 10, w ∈ wsX3_takeMark := by decide +kernel
set_option maxRecDepth 100000 in
set_option maxHeartbeats 4000000 in
theorem ctX3_takeMark (l : Launch) (g : GG) (M : MM)  (Q : MM → Prop) (hF : full g) (hw : wX3_takeMark Q M ) : MV g l yX3_takeMark wsX3_takeMark (rmOf 3 72) [.ref (gA g 37)] M Q := by
  refine mk_MV (cc := cX3_takeMark) (maxL := 1) (by decide) rfl (Nat.le_of_ble_eq_true rfl) ?_
  intro z Qf hC hR
  show XX z g Qf 1 0 [(0, .ref (gA g 37))] [] M
  refine q_aload_n hC dX3_takeMark_0 0 rfl 1 rfl ?_
  refine r_callI hC (go_V (q := (RX3, TX3, 10)) (As := []) (rest := []) hC (ctX3_hasRoomForBlock (zl z) g M _ hF hw) 0 gX3_takeMark_X3_hasRoomForBlock rfl ⟨rfl, rfl⟩ (by decide +kernel) ⟨Nat.le_of_ble_eq_true rfl, Nat.le_of_ble_eq_true rfl⟩ (hF.ob 37 (by decide) (fun _ => rfl)) rfl rfl rfl (Nat.le_of_ble_eq_true rfl) dX3_takeMark_1) 4 rfl (fun r1 M2 hw => ?_)
  refine q_if_ne hC 8 dX3_takeMark_4 (by decide) 7 rfl hw (fun hw => ?_) (fun hw => ?_)
  · refine q_aload_n hC dX3_takeMark_8 0 rfl 9 rfl ?_
    refine q_getR (C := RX3) (T := TX3) (N := 10) (ci := 3) hC inX3_takeMark_X3 (hF.ob 37 (by decide) (fun _ => rfl)) rfl 1 (by decide) (List.mem_of_getElem? (i := 1) (by decide +kernel)) rfl 28 (fun _ => rfl) dX3_takeMark_9 12 rfl ?_
    refine q_aload_n hC dX3_takeMark_12 0 rfl 13 rfl ?_
    refine q_getR (C := RX3) (T := TX3) (N := 10) (ci := 3) hC inX3_takeMark_X3 (hF.ob 37 (by decide) (fun _ => rfl)) rfl 1 (by decide) (List.mem_of_getElem? (i := 1) (by decide +kernel)) rfl 28 (fun _ => rfl) dX3_takeMark_13 16 rfl ?_
    refine q_getI (C := RX2) (T := TX2) (N := 14) (ci := 2) hC inX3_takeMark_X2 (hF.tp (b := 28) (Or.inr (Or.inr (Or.inr rfl)))).ob rfl 8 (by decide) (List.mem_of_getElem? (i := 2) (by decide +kernel)) rfl (fun _ => rfl) dX3_takeMark_16 19 rfl ?_
    refine q_iconst (v := 0) hC dX3_takeMark_19 rfl 20 rfl ?_
    refine q_iconst (v := 0) hC dX3_takeMark_20 rfl 21 rfl ?_
    refine r_callV hC (go_V (q := (RX2, TX2, 14)) (As := [.int (M2 28 8), .int 0, .int 0]) (rest := []) hC (ctX2_putBlock (zl z) g M2 28 (M2 28 8) 0 0 _ (hF.tp (b := 28) (Or.inr (Or.inr (Or.inr rfl)))) hw) 3 gX3_takeMark_X2_putBlock rfl ⟨rfl, rfl⟩ (by decide +kernel) ⟨Nat.le_of_ble_eq_true rfl, Nat.le_of_ble_eq_true rfl⟩ (hF.tp (b := 28) (Or.inr (Or.inr (Or.inr rfl)))).ob rfl rfl rfl (Nat.le_of_ble_eq_true rfl) dX3_takeMark_21) 24 rfl (fun M3 hw => ?_)
    refine q_aload_n hC dX3_takeMark_24 0 rfl 25 rfl ?_
    refine r_callV hC (go_V (q := (RX3, TX3, 10)) (As := []) (rest := []) hC (ctX3_readToken (zl z) g M3 _ hF hw) 0 gX3_takeMark_X3_readToken rfl ⟨rfl, rfl⟩ (by decide +kernel) ⟨Nat.le_of_ble_eq_true rfl, Nat.le_of_ble_eq_true rfl⟩ (hF.ob 37 (by decide) (fun _ => rfl)) rfl rfl rfl (Nat.le_of_ble_eq_true rfl) dX3_takeMark_25) 28 rfl (fun M4 hw => ?_)
    exact r_vret hR dX3_takeMark_28 hw
  · exact r_vret hR dX3_takeMark_7 hw
set_option maxRecDepth 20000 in
theorem inX3_takeSign_X3 : ∀ w ∈ u_ws RX3 TX3 10, w ∈ wsX3_takeSign := by decide +kernel
set_option maxRecDepth 100000 in
set_option maxHeartbeats 4000000 in
theorem ctX3_takeSign (l : Launch) (g : GG) (M : MM)  (Q : MM → Prop) (hF : full g) (hw : wX3_takeSign Q M ) : MV g l yX3_takeSign wsX3_takeSign (rmOf 3 63) [.ref (gA g 37)] M Q := by
  refine mk_MV (cc := cX3_takeSign) (maxL := 1) (by decide) rfl (Nat.le_of_ble_eq_true rfl) ?_
  intro z Qf hC hR
  show XX z g Qf 1 0 [(0, .ref (gA g 37))] [] M
  refine q_aload_n hC dX3_takeSign_0 0 rfl 1 rfl ?_
  refine q_getI (C := RX3) (T := TX3) (N := 10) (ci := 3) hC inX3_takeSign_X3 (hF.ob 37 (by decide) (fun _ => rfl)) rfl 4 (by decide) (List.mem_of_getElem? (i := 1) (by decide +kernel)) rfl (fun _ => rfl) dX3_takeSign_1 4 rfl ?_
  refine q_iconst (v := 3) hC dX3_takeSign_4 rfl 5 rfl ?_
  refine q_icmp_ne hC 15 dX3_takeSign_5 (by decide) 8 rfl hw (fun hw => ?_) (fun hw => ?_)
  · refine q_aload_n hC dX3_takeSign_15 0 rfl 16 rfl ?_
    refine q_iconst (v := 2) hC dX3_takeSign_16 rfl 17 rfl ?_
    refine q_aload_n hC dX3_takeSign_17 0 rfl 18 rfl ?_
    refine q_getI (C := RX3) (T := TX3) (N := 10) (ci := 3) hC inX3_takeSign_X3 (hF.ob 37 (by decide) (fun _ => rfl)) rfl 5 (by decide) (List.mem_of_getElem? (i := 2) (by decide +kernel)) rfl (fun _ => rfl) dX3_takeSign_18 21 rfl ?_
    refine r_callV hC (go_V (q := (RX3, TX3, 10)) (As := [.int 2, .int (M 37 5)]) (rest := []) hC (ctX3_refuse (zl z) g M 2 (M 37 5) _ hF hw) 2 gX3_takeSign_X3_refuse rfl ⟨rfl, rfl⟩ (by decide +kernel) ⟨Nat.le_of_ble_eq_true rfl, Nat.le_of_ble_eq_true rfl⟩ (hF.ob 37 (by decide) (fun _ => rfl)) rfl rfl rfl (Nat.le_of_ble_eq_true rfl) dX3_takeSign_21) 24 rfl (fun M1 hw => ?_)
    exact r_vret hR dX3_takeSign_24 hw
  · refine q_aload_n hC dX3_takeSign_8 0 rfl 9 rfl ?_
    refine r_callV hC (go_V (q := (RX3, TX3, 10)) (As := []) (rest := []) hC (ctX3_readToken (zl z) g M _ hF hw) 0 gX3_takeSign_X3_readToken rfl ⟨rfl, rfl⟩ (by decide +kernel) ⟨Nat.le_of_ble_eq_true rfl, Nat.le_of_ble_eq_true rfl⟩ (hF.ob 37 (by decide) (fun _ => rfl)) rfl rfl rfl (Nat.le_of_ble_eq_true rfl) dX3_takeSign_9) 12 rfl (fun M2 hw => ?_)
    refine q_goto hC 24 dX3_takeSign_12 (by decide) ?_
    exact r_vret hR dX3_takeSign_24 hw
set_option maxRecDepth 20000 in
theorem inX3_takeLine_X3 : ∀ w ∈ u_ws RX3 TX3 10, w ∈ wsX3_takeLine := by decide +kernel
set_option maxRecDepth 100000 in
set_option maxHeartbeats 4000000 in
theorem ctX3_takeLine (l : Launch) (g : GG) (M : MM)  (Q : MM → Prop) (hF : full g) (hw : wX3_takeLine Q M ) : MV g l yX3_takeLine wsX3_takeLine (rmOf 7 193) [.ref (gA g 37)] M Q := by
  refine mk_MV (cc := cX3_takeLine) (maxL := 2) (by decide) rfl (Nat.le_of_ble_eq_true rfl) ?_
  intro z Qf hC hR
  show XX z g Qf 2 0 [(0, .ref (gA g 37))] [] M
  have B60 : ∀ (M : MM), wX3_takeLine_60 Q M → XX z g Qf 2 60 [(0, .ref (gA g 37))] [] M := by
    intro M hw
    refine q_aload_n hC dX3_takeLine_60 0 rfl 61 rfl ?_
    refine q_getI (C := RX3) (T := TX3) (N := 10) (ci := 3) hC inX3_takeLine_X3 (hF.ob 37 (by decide) (fun _ => rfl)) rfl 8 (by decide) (List.mem_of_getElem? (i := 2) (by decide +kernel)) rfl (fun _ => rfl) dX3_takeLine_61 64 rfl ?_
    refine q_if_ne hC 71 dX3_takeLine_64 (by decide) 67 rfl hw (fun hw => ?_) (fun hw => ?_)
    · exact r_vret hR dX3_takeLine_71 hw
    · refine q_aload_n hC dX3_takeLine_67 0 rfl 68 rfl ?_
      refine r_callV hC (go_V (q := (RX3, TX3, 10)) (As := []) (rest := []) hC (ctX3_takeSign (zl z) g M _ hF hw) 0 gX3_takeLine_X3_takeSign rfl ⟨rfl, rfl⟩ (by decide +kernel) ⟨Nat.le_of_ble_eq_true rfl, Nat.le_of_ble_eq_true rfl⟩ (hF.ob 37 (by decide) (fun _ => rfl)) rfl rfl rfl (Nat.le_of_ble_eq_true rfl) dX3_takeLine_68) 71 rfl (fun M11 hw => ?_)
      exact r_vret hR dX3_takeLine_71 hw
  refine q_aload_n hC dX3_takeLine_0 0 rfl 1 rfl ?_
  refine r_callI hC (go_V (q := (RX3, TX3, 10)) (As := []) (rest := []) hC (ctX3_ruleNamed (zl z) g M _ hF hw) 0 gX3_takeLine_X3_ruleNamed rfl ⟨rfl, rfl⟩ (by decide +kernel) ⟨Nat.le_of_ble_eq_true rfl, Nat.le_of_ble_eq_true rfl⟩ (hF.ob 37 (by decide) (fun _ => rfl)) rfl rfl rfl (Nat.le_of_ble_eq_true rfl) dX3_takeLine_1) 4 rfl (fun r1 M2 hw => ?_)
  refine q_istore_n (L' := [(1, .int r1), (0, .ref (gA g 37))]) hC dX3_takeLine_4 (by decide) rfl 5 rfl ?_
  refine q_iload_n hC dX3_takeLine_5 0 rfl 6 rfl ?_
  refine q_bipush (v := (-4)) hC dX3_takeLine_6 (by decide) 8 rfl ?_
  refine q_icmp_eq hC 19 dX3_takeLine_8 (by decide) 11 rfl hw (fun hw => ?_) (fun hw => ?_)
  · refine q_aload_n hC dX3_takeLine_19 1 rfl 20 rfl ?_
    refine q_ldcS hC 9 (by decide) rfl dX3_takeLine_20 22 rfl ?_
    refine r_callI hC (go_V (q := (RX3, TX3, 10)) (As := [.ref (gK g 9)]) (rest := []) hC (ctX3_isNamed (zl z) g M2 9 _ hF (by decide) hw) 1 gX3_takeLine_X3_isNamed rfl ⟨rfl, rfl⟩ (by decide +kernel) ⟨Nat.le_of_ble_eq_true rfl, Nat.le_of_ble_eq_true rfl⟩ (hF.ob 37 (by decide) (fun _ => rfl)) rfl rfl rfl (Nat.le_of_ble_eq_true rfl) dX3_takeLine_22) 25 rfl (fun r3 M4 hw => ?_)
    refine q_if_eq hC 35 dX3_takeLine_25 (by decide) 28 rfl hw (fun hw => ?_) (fun hw => ?_)
    · refine q_aload_n hC dX3_takeLine_35 1 rfl 36 rfl ?_
      refine q_ldcS hC 10 (by decide) rfl dX3_takeLine_36 38 rfl ?_
      refine r_callI hC (go_V (q := (RX3, TX3, 10)) (As := [.ref (gK g 10)]) (rest := []) hC (ctX3_isNamed (zl z) g M4 10 _ hF (by decide) hw) 1 gX3_takeLine_X3_isNamed rfl ⟨rfl, rfl⟩ (by decide +kernel) ⟨Nat.le_of_ble_eq_true rfl, Nat.le_of_ble_eq_true rfl⟩ (hF.ob 37 (by decide) (fun _ => rfl)) rfl rfl rfl (Nat.le_of_ble_eq_true rfl) dX3_takeLine_38) 41 rfl (fun r5 M6 hw => ?_)
      refine q_if_eq hC 51 dX3_takeLine_41 (by decide) 44 rfl hw (fun hw => ?_) (fun hw => ?_)
      · refine q_aload_n hC dX3_takeLine_51 1 rfl 52 rfl ?_
        refine q_iconst (v := 2) hC dX3_takeLine_52 rfl 53 rfl ?_
        refine q_aload_n hC dX3_takeLine_53 1 rfl 54 rfl ?_
        refine q_getI (C := RX3) (T := TX3) (N := 10) (ci := 3) hC inX3_takeLine_X3 (hF.ob 37 (by decide) (fun _ => rfl)) rfl 5 (by decide) (List.mem_of_getElem? (i := 1) (by decide +kernel)) rfl (fun _ => rfl) dX3_takeLine_54 57 rfl ?_
        refine r_callV hC (go_V (q := (RX3, TX3, 10)) (As := [.int 2, .int (M6 37 5)]) (rest := []) hC (ctX3_refuse (zl z) g M6 2 (M6 37 5) _ hF hw) 2 gX3_takeLine_X3_refuse rfl ⟨rfl, rfl⟩ (by decide +kernel) ⟨Nat.le_of_ble_eq_true rfl, Nat.le_of_ble_eq_true rfl⟩ (hF.ob 37 (by decide) (fun _ => rfl)) rfl rfl rfl (Nat.le_of_ble_eq_true rfl) dX3_takeLine_57) 60 rfl (fun M7 hw => ?_)
        exact XX.sub [1] rfl (B60 M7 hw)
      · refine q_aload_n hC dX3_takeLine_44 1 rfl 45 rfl ?_
        refine r_callV hC (go_V (q := (RX3, TX3, 10)) (As := []) (rest := []) hC (ctX3_takeMark (zl z) g M6 _ hF hw) 0 gX3_takeLine_X3_takeMark rfl ⟨rfl, rfl⟩ (by decide +kernel) ⟨Nat.le_of_ble_eq_true rfl, Nat.le_of_ble_eq_true rfl⟩ (hF.ob 37 (by decide) (fun _ => rfl)) rfl rfl rfl (Nat.le_of_ble_eq_true rfl) dX3_takeLine_45) 48 rfl (fun M8 hw => ?_)
        refine q_goto hC 60 dX3_takeLine_48 (by decide) ?_
        exact XX.sub [1] rfl (B60 M8 hw)
    · refine q_aload_n hC dX3_takeLine_28 1 rfl 29 rfl ?_
      refine r_callV hC (go_V (q := (RX3, TX3, 10)) (As := []) (rest := []) hC (ctX3_takeBlock (zl z) g M4 _ hF hw) 0 gX3_takeLine_X3_takeBlock rfl ⟨rfl, rfl⟩ (by decide +kernel) ⟨Nat.le_of_ble_eq_true rfl, Nat.le_of_ble_eq_true rfl⟩ (hF.ob 37 (by decide) (fun _ => rfl)) rfl rfl rfl (Nat.le_of_ble_eq_true rfl) dX3_takeLine_29) 32 rfl (fun M9 hw => ?_)
      refine q_goto hC 60 dX3_takeLine_32 (by decide) ?_
      exact XX.sub [1] rfl (B60 M9 hw)
  · refine q_aload_n hC dX3_takeLine_11 1 rfl 12 rfl ?_
    refine q_iload_n hC dX3_takeLine_12 0 rfl 13 rfl ?_
    refine r_callV hC (go_V (q := (RX3, TX3, 10)) (As := [.int r1]) (rest := []) hC (ctX3_takeRule (zl z) g M2 r1 _ hF hw) 1 gX3_takeLine_X3_takeRule rfl ⟨rfl, rfl⟩ (by decide +kernel) ⟨Nat.le_of_ble_eq_true rfl, Nat.le_of_ble_eq_true rfl⟩ (hF.ob 37 (by decide) (fun _ => rfl)) rfl rfl rfl (Nat.le_of_ble_eq_true rfl) dX3_takeLine_13) 16 rfl (fun M10 hw => ?_)
    refine q_goto hC 60 dX3_takeLine_16 (by decide) ?_
    exact XX.sub [1] rfl (B60 M10 hw)
set_option maxRecDepth 20000 in
theorem inX3_takeAll_X2 : ∀ w ∈ u_ws RX2 TX2 14, w ∈ wsX3_takeAll := by decide +kernel
set_option maxRecDepth 20000 in
theorem inX3_takeAll_X3 : ∀ w ∈ u_ws RX3 TX3 10, w ∈ wsX3_takeAll := by decide +kernel
set_option maxRecDepth 100000 in
set_option maxHeartbeats 4000000 in
theorem ctX3_takeAll (l : Launch) (g : GG) (M : MM)  (Q : Int32 → MM → Prop) (hF : full g) (hw : wX3_takeAll Q M ) : MI g l yX3_takeAll wsX3_takeAll (rmOf 8 214) [.ref (gA g 37)] M Q := by
  refine mk_MI (cc := cX3_takeAll) (maxL := 2) (by decide) rfl (Nat.le_of_ble_eq_true rfl) ?_
  intro z Qf hC hR
  show XX z g Qf 2 0 [(0, .ref (gA g 37))] [] M
  have B64 : ∀ (M : MM) (v1 : Int32), wX3_takeAll_64 Q M v1 → XX z g Qf 2 64 [(0, .ref (gA g 37)), (1, .int v1)] [] M := by
    intro M v1 hw
    refine q_aload_n hC dX3_takeAll_64 0 rfl 65 rfl ?_
    refine q_getR (C := RX3) (T := TX3) (N := 10) (ci := 3) hC inX3_takeAll_X3 (hF.ob 37 (by decide) (fun _ => rfl)) rfl 1 (by decide) (List.mem_of_getElem? (i := 1) (by decide +kernel)) rfl 28 (fun _ => rfl) dX3_takeAll_65 68 rfl ?_
    refine r_callV hC (go_V (q := (RX2, TX2, 14)) (As := []) (rest := []) hC (ctX2_layOutBlocks (zl z) g M 28 _ (hF.tp (b := 28) (Or.inr (Or.inr (Or.inr rfl)))) hw) 0 gX3_takeAll_X2_layOutBlocks rfl ⟨rfl, rfl⟩ (by decide +kernel) ⟨Nat.le_of_ble_eq_true rfl, Nat.le_of_ble_eq_true rfl⟩ (hF.tp (b := 28) (Or.inr (Or.inr (Or.inr rfl)))).ob rfl rfl rfl (Nat.le_of_ble_eq_true rfl) dX3_takeAll_68) 71 rfl (fun M8 hw => ?_)
    refine q_aload_n hC dX3_takeAll_71 0 rfl 72 rfl ?_
    refine q_getR (C := RX3) (T := TX3) (N := 10) (ci := 3) hC inX3_takeAll_X3 (hF.ob 37 (by decide) (fun _ => rfl)) rfl 1 (by decide) (List.mem_of_getElem? (i := 1) (by decide +kernel)) rfl 28 (fun _ => rfl) dX3_takeAll_72 75 rfl ?_
    refine q_iconst (v := 0) hC dX3_takeAll_75 rfl 76 rfl ?_
    refine q_putI (C := RX2) (T := TX2) (N := 14) (ci := 2) hC inX3_takeAll_X2 tyX2 tyX2_ok nmX2 (hF.tp (b := 28) (Or.inr (Or.inr (Or.inr rfl)))).ob rfl 11 (by decide) (List.mem_of_getElem? (i := 7) (by decide +kernel)) rfl rfl rfl (fun _ => Nat.le_of_ble_eq_true rfl) (fun _ => rfl) dX3_takeAll_76 79 rfl (fun M9 eM9 => ?_)
    have hw := hw M9 eM9
    refine q_aload_n hC dX3_takeAll_79 0 rfl 80 rfl ?_
    refine q_getR (C := RX3) (T := TX3) (N := 10) (ci := 3) hC inX3_takeAll_X3 (hF.ob 37 (by decide) (fun _ => rfl)) rfl 1 (by decide) (List.mem_of_getElem? (i := 1) (by decide +kernel)) rfl 28 (fun _ => rfl) dX3_takeAll_80 83 rfl ?_
    refine q_aload_n hC dX3_takeAll_83 0 rfl 84 rfl ?_
    refine q_getR (C := RX3) (T := TX3) (N := 10) (ci := 3) hC inX3_takeAll_X3 (hF.ob 37 (by decide) (fun _ => rfl)) rfl 1 (by decide) (List.mem_of_getElem? (i := 1) (by decide +kernel)) rfl 28 (fun _ => rfl) dX3_takeAll_84 87 rfl ?_
    refine q_getI (C := RX2) (T := TX2) (N := 14) (ci := 2) hC inX3_takeAll_X2 (hF.tp (b := 28) (Or.inr (Or.inr (Or.inr rfl)))).ob rfl 8 (by decide) (List.mem_of_getElem? (i := 8) (by decide +kernel)) rfl (fun _ => rfl) dX3_takeAll_87 90 rfl ?_
    refine q_iconst (v := 1) hC dX3_takeAll_90 rfl 91 rfl ?_
    refine q_isub hC dX3_takeAll_91 92 rfl ?_
    refine r_callI hC (go_V (q := (RX2, TX2, 14)) (As := [.int ((M9 28 8) - (1 : Int32))]) (rest := []) hC (ctX2_endOf (zl z) g M9 28 ((M9 28 8) - (1 : Int32)) _ (hF.tp (b := 28) (Or.inr (Or.inr (Or.inr rfl)))) hw) 1 gX3_takeAll_X2_endOf rfl ⟨rfl, rfl⟩ (by decide +kernel) ⟨Nat.le_of_ble_eq_true rfl, Nat.le_of_ble_eq_true rfl⟩ (hF.tp (b := 28) (Or.inr (Or.inr (Or.inr rfl)))).ob rfl rfl rfl (Nat.le_of_ble_eq_true rfl) dX3_takeAll_92) 95 rfl (fun r10 M11 hw => ?_)
    refine q_aload_n hC dX3_takeAll_95 0 rfl 96 rfl ?_
    refine q_getR (C := RX3) (T := TX3) (N := 10) (ci := 3) hC inX3_takeAll_X3 (hF.ob 37 (by decide) (fun _ => rfl)) rfl 1 (by decide) (List.mem_of_getElem? (i := 1) (by decide +kernel)) rfl 28 (fun _ => rfl) dX3_takeAll_96 99 rfl ?_
    refine q_iconst (v := 0) hC dX3_takeAll_99 rfl 100 rfl ?_
    refine r_callI hC (go_V (q := (RX2, TX2, 14)) (As := [.int 0]) (rest := [.int r10]) hC (ctX2_ruled (zl z) g M11 28 0 _ (hF.tp (b := 28) (Or.inr (Or.inr (Or.inr rfl)))) hw) 1 gX3_takeAll_X2_ruled rfl ⟨rfl, rfl⟩ (by decide +kernel) ⟨Nat.le_of_ble_eq_true rfl, Nat.le_of_ble_eq_true rfl⟩ (hF.tp (b := 28) (Or.inr (Or.inr (Or.inr rfl)))).ob rfl rfl rfl (Nat.le_of_ble_eq_true rfl) dX3_takeAll_100) 103 rfl (fun r12 M13 hw => ?_)
    refine q_icmp_le hC 116 dX3_takeAll_103 (by decide) 106 rfl hw (fun hw => ?_) (fun hw => ?_)
    · refine q_iload_n hC dX3_takeAll_116 1 rfl 117 rfl ?_
      exact r_iret hR dX3_takeAll_117 hw
    · refine q_aload_n hC dX3_takeAll_106 0 rfl 107 rfl ?_
      refine q_bipush (v := 6) hC dX3_takeAll_107 (by decide) 109 rfl ?_
      refine q_aload_n hC dX3_takeAll_109 0 rfl 110 rfl ?_
      refine q_getI (C := RX3) (T := TX3) (N := 10) (ci := 3) hC inX3_takeAll_X3 (hF.ob 37 (by decide) (fun _ => rfl)) rfl 2 (by decide) (List.mem_of_getElem? (i := 9) (by decide +kernel)) rfl (fun _ => rfl) dX3_takeAll_110 113 rfl ?_
      refine r_callV hC (go_V (q := (RX3, TX3, 10)) (As := [.int 6, .int (M13 37 2)]) (rest := []) hC (ctX3_refuse (zl z) g M13 6 (M13 37 2) _ hF hw) 2 gX3_takeAll_X3_refuse rfl ⟨rfl, rfl⟩ (by decide +kernel) ⟨Nat.le_of_ble_eq_true rfl, Nat.le_of_ble_eq_true rfl⟩ (hF.ob 37 (by decide) (fun _ => rfl)) rfl rfl rfl (Nat.le_of_ble_eq_true rfl) dX3_takeAll_113) 116 rfl (fun M14 hw => ?_)
      refine q_iload_n hC dX3_takeAll_116 1 rfl 117 rfl ?_
      exact r_iret hR dX3_takeAll_117 hw
  have B33 : ∀ (n : Nat) (M : MM) (v1 : Int32) , wX3_takeAll_33 Q n M v1 → XX z g Qf 2 33 [(0, .ref (gA g 37)), (1, .int v1)] [] M := by
    intro n
    induction n with
    | zero =>
      intro M v1 hw
      exact hw.elim
    | succ n ih =>
      intro M v1 hw
      refine q_aload_n hC dX3_takeAll_33 0 rfl 34 rfl ?_
      refine q_getI (C := RX3) (T := TX3) (N := 10) (ci := 3) hC inX3_takeAll_X3 (hF.ob 37 (by decide) (fun _ => rfl)) rfl 4 (by decide) (List.mem_of_getElem? (i := 6) (by decide +kernel)) rfl (fun _ => rfl) dX3_takeAll_34 37 rfl ?_
      refine q_if_eq hC 64 dX3_takeAll_37 (by decide) 40 rfl hw (fun hw => ?_) (fun hw => ?_)
      · exact XX.sub [0, 1] rfl (B64 M v1 hw)
      · refine q_aload_n hC dX3_takeAll_40 0 rfl 41 rfl ?_
        refine q_getI (C := RX3) (T := TX3) (N := 10) (ci := 3) hC inX3_takeAll_X3 (hF.ob 37 (by decide) (fun _ => rfl)) rfl 8 (by decide) (List.mem_of_getElem? (i := 4) (by decide +kernel)) rfl (fun _ => rfl) dX3_takeAll_41 44 rfl ?_
        refine q_if_ne hC 64 dX3_takeAll_44 (by decide) 47 rfl hw (fun hw => ?_) (fun hw => ?_)
        · exact XX.sub [0, 1] rfl (B64 M v1 hw)
        · refine q_iload_n hC dX3_takeAll_47 1 rfl 48 rfl ?_
          refine q_sipush (v := 400) hC dX3_takeAll_48 (by decide) 51 rfl ?_
          refine q_icmp_ge hC 64 dX3_takeAll_51 (by decide) 54 rfl hw (fun hw => ?_) (fun hw => ?_)
          · exact XX.sub [0, 1] rfl (B64 M v1 hw)
          · refine q_aload_n hC dX3_takeAll_54 0 rfl 55 rfl ?_
            refine r_callV hC (go_V (q := (RX3, TX3, 10)) (As := []) (rest := []) hC (ctX3_takeLine (zl z) g M _ hF hw) 0 gX3_takeAll_X3_takeLine rfl ⟨rfl, rfl⟩ (by decide +kernel) ⟨Nat.le_of_ble_eq_true rfl, Nat.le_of_ble_eq_true rfl⟩ (hF.ob 37 (by decide) (fun _ => rfl)) rfl rfl rfl (Nat.le_of_ble_eq_true rfl) dX3_takeAll_55) 58 rfl (fun M7 hw => ?_)
            refine q_iinc (v := v1 + 1) (L' := [(1, .int (v1 + 1)), (0, .ref (gA g 37))]) hC dX3_takeAll_58 1 rfl rfl (by decide) rfl 61 rfl ?_
            refine q_goto hC 33 dX3_takeAll_61 (by decide) ?_
            exact XX.sub [1, 0] rfl (ih M7 (v1 + 1) hw)
  refine q_aload_n hC dX3_takeAll_0 0 rfl 1 rfl ?_
  refine q_getR (C := RX3) (T := TX3) (N := 10) (ci := 3) hC inX3_takeAll_X3 (hF.ob 37 (by decide) (fun _ => rfl)) rfl 1 (by decide) (List.mem_of_getElem? (i := 1) (by decide +kernel)) rfl 28 (fun _ => rfl) dX3_takeAll_1 4 rfl ?_
  refine r_callV hC (go_V (q := (RX2, TX2, 14)) (As := []) (rest := []) hC (ctX2_reset (zl z) g M 28 _ (hF.tp (b := 28) (Or.inr (Or.inr (Or.inr rfl)))) hw) 0 gX3_takeAll_X2_reset rfl ⟨rfl, rfl⟩ (by decide +kernel) ⟨Nat.le_of_ble_eq_true rfl, Nat.le_of_ble_eq_true rfl⟩ (hF.tp (b := 28) (Or.inr (Or.inr (Or.inr rfl)))).ob rfl rfl rfl (Nat.le_of_ble_eq_true rfl) dX3_takeAll_4) 7 rfl (fun M1 hw => ?_)
  refine q_aload_n hC dX3_takeAll_7 0 rfl 8 rfl ?_
  refine q_iconst (v := 0) hC dX3_takeAll_8 rfl 9 rfl ?_
  refine q_putI (C := RX3) (T := TX3) (N := 10) (ci := 3) hC inX3_takeAll_X3 tyX3 tyX3_ok nmX3 (hF.ob 37 (by decide) (fun _ => rfl)) rfl 3 (by decide) (List.mem_of_getElem? (i := 2) (by decide +kernel)) rfl rfl rfl (fun _ => Nat.le_of_ble_eq_true rfl) (fun _ => rfl) dX3_takeAll_9 12 rfl (fun M2 eM2 => ?_)
  have hw := hw M2 eM2
  refine q_aload_n hC dX3_takeAll_12 0 rfl 13 rfl ?_
  refine q_iconst (v := 0) hC dX3_takeAll_13 rfl 14 rfl ?_
  refine q_putI (C := RX3) (T := TX3) (N := 10) (ci := 3) hC inX3_takeAll_X3 tyX3 tyX3_ok nmX3 (hF.ob 37 (by decide) (fun _ => rfl)) rfl 7 (by decide) (List.mem_of_getElem? (i := 3) (by decide +kernel)) rfl rfl rfl (fun _ => Nat.le_of_ble_eq_true rfl) (fun _ => rfl) dX3_takeAll_14 17 rfl (fun M3 eM3 => ?_)
  have hw := hw M3 eM3
  refine q_aload_n hC dX3_takeAll_17 0 rfl 18 rfl ?_
  refine q_iconst (v := 0) hC dX3_takeAll_18 rfl 19 rfl ?_
  refine q_putI (C := RX3) (T := TX3) (N := 10) (ci := 3) hC inX3_takeAll_X3 tyX3 tyX3_ok nmX3 (hF.ob 37 (by decide) (fun _ => rfl)) rfl 8 (by decide) (List.mem_of_getElem? (i := 4) (by decide +kernel)) rfl rfl rfl (fun _ => Nat.le_of_ble_eq_true rfl) (fun _ => rfl) dX3_takeAll_19 22 rfl (fun M4 eM4 => ?_)
  have hw := hw M4 eM4
  refine q_aload_n hC dX3_takeAll_22 0 rfl 23 rfl ?_
  refine q_iconst (v := 0) hC dX3_takeAll_23 rfl 24 rfl ?_
  refine q_putI (C := RX3) (T := TX3) (N := 10) (ci := 3) hC inX3_takeAll_X3 tyX3 tyX3_ok nmX3 (hF.ob 37 (by decide) (fun _ => rfl)) rfl 9 (by decide) (List.mem_of_getElem? (i := 5) (by decide +kernel)) rfl rfl rfl (fun _ => Nat.le_of_ble_eq_true rfl) (fun _ => rfl) dX3_takeAll_24 27 rfl (fun M5 eM5 => ?_)
  have hw := hw M5 eM5
  refine q_iconst (v := 0) hC dX3_takeAll_27 rfl 28 rfl ?_
  refine q_istore_n (L' := [(1, .int 0), (0, .ref (gA g 37))]) hC dX3_takeAll_28 (by decide) rfl 29 rfl ?_
  refine q_aload_n hC dX3_takeAll_29 1 rfl 30 rfl ?_
  refine r_callV hC (go_V (q := (RX3, TX3, 10)) (As := []) (rest := []) hC (ctX3_readToken (zl z) g M5 _ hF hw) 0 gX3_takeAll_X3_readToken rfl ⟨rfl, rfl⟩ (by decide +kernel) ⟨Nat.le_of_ble_eq_true rfl, Nat.le_of_ble_eq_true rfl⟩ (hF.ob 37 (by decide) (fun _ => rfl)) rfl rfl rfl (Nat.le_of_ble_eq_true rfl) dX3_takeAll_30) 33 rfl (fun M6 hw => ?_)
  obtain ⟨n0, hw⟩ := hw
  exact XX.sub [1, 0] rfl (B33 n0 M6 0 hw)
set_option maxRecDepth 20000 in
theorem inX4_feed_X3 : ∀ w ∈ u_ws RX3 TX3 10, w ∈ wsX4_feed := by decide +kernel
set_option maxRecDepth 20000 in
theorem inX4_feed_X4 : ∀ w ∈ u_ws RX4 TX4 12, w ∈ wsX4_feed := by decide +kernel
set_option maxRecDepth 100000 in
set_option maxHeartbeats 4000000 in
theorem ctX4_feed (l : Launch) (g : GG) (M : MM) (v1 : Int64) (Q : Int32 → MM → Prop) (hF : full g) (hw : wX4_feed Q M v1) : MI g l yX4_feed wsX4_feed (rmOf 1 21) [.ref (gA g 0), .long v1] M Q := by
  refine mk_MI (cc := cX4_feed) (maxL := 4) (by decide) rfl (Nat.le_of_ble_eq_true rfl) ?_
  intro z Qf hC hR
  show XX z g Qf 4 0 [(0, .ref (gA g 0)), (1, .long v1)] [] M
  have B22 : ∀ (n : Nat) (M : MM) (v3 : Int32) , wX4_feed_22 Q v1 n M v3 → XX z g Qf 4 22 [(0, .ref (gA g 0)), (1, .long v1), (3, .int v3)] [] M := by
    intro n
    induction n with
    | zero =>
      intro M v3 hw
      exact hw.elim
    | succ n ih =>
      intro M v3 hw
      refine q_iload_n hC dX4_feed_22 2 rfl 23 rfl ?_
      refine q_if_lt hC 44 dX4_feed_23 (by decide) 26 rfl hw (fun hw => ?_) (fun hw => ?_)
      · refine q_aload_n hC dX4_feed_44 0 rfl 45 rfl ?_
        refine q_getR (C := RX4) (T := TX4) (N := 12) (ci := 4) hC inX4_feed_X4 (hF.ob 0 (by decide) (fun _ => rfl)) rfl 1 (by decide) (List.mem_of_getElem? (i := 1) (by decide +kernel)) rfl 37 (fun _ => rfl) dX4_feed_45 48 rfl ?_
        refine q_getI (C := RX3) (T := TX3) (N := 10) (ci := 3) hC inX4_feed_X3 (hF.ob 37 (by decide) (fun _ => rfl)) rfl 2 (by decide) (List.mem_of_getElem? (i := 2) (by decide +kernel)) rfl (fun _ => rfl) dX4_feed_48 51 rfl ?_
        exact r_iret hR dX4_feed_51 hw
      · refine q_aload_n hC dX4_feed_26 0 rfl 27 rfl ?_
        refine q_getR (C := RX4) (T := TX4) (N := 12) (ci := 4) hC inX4_feed_X4 (hF.ob 0 (by decide) (fun _ => rfl)) rfl 1 (by decide) (List.mem_of_getElem? (i := 1) (by decide +kernel)) rfl 37 (fun _ => rfl) dX4_feed_27 30 rfl ?_
        refine q_lload_n hC dX4_feed_30 1 rfl 31 rfl ?_
        refine q_iload_n hC dX4_feed_31 2 rfl 32 rfl ?_
        refine q_lushr hC dX4_feed_32 33 rfl ?_
        refine q_l2i hC dX4_feed_33 34 rfl ?_
        refine q_i2b hC dX4_feed_34 35 rfl ?_
        refine r_callV hC (go_V (q := (RX3, TX3, 10)) (As := [.int ((((v1.toUInt64 >>> (v3.toInt64.toUInt64 &&& Int64.toUInt64 63)).toInt64).toInt32).toInt8.toInt32)]) (rest := []) hC (ctX3_addLetter (zl z) g M ((((v1.toUInt64 >>> (v3.toInt64.toUInt64 &&& Int64.toUInt64 63)).toInt64).toInt32).toInt8.toInt32) _ hF hw) 1 gX4_feed_X3_addLetter rfl ⟨rfl, rfl⟩ (by decide +kernel) ⟨Nat.le_of_ble_eq_true rfl, Nat.le_of_ble_eq_true rfl⟩ (hF.ob 37 (by decide) (fun _ => rfl)) rfl rfl rfl (Nat.le_of_ble_eq_true rfl) dX4_feed_35) 38 rfl (fun M1 hw => ?_)
        refine q_iinc (v := v3 + (-8)) (L' := [(3, .int (v3 + (-8))), (0, .ref (gA g 0)), (1, .long v1)]) hC dX4_feed_38 2 rfl rfl (by decide) rfl 41 rfl ?_
        refine q_goto hC 22 dX4_feed_41 (by decide) ?_
        exact XX.sub [1, 2, 0] rfl (ih M1 (v3 + (-8)) hw)
  refine q_aload_n hC dX4_feed_0 0 rfl 1 rfl ?_
  refine q_getR (C := RX4) (T := TX4) (N := 12) (ci := 4) hC inX4_feed_X4 (hF.ob 0 (by decide) (fun _ => rfl)) rfl 1 (by decide) (List.mem_of_getElem? (i := 1) (by decide +kernel)) rfl 37 (fun _ => rfl) dX4_feed_1 4 rfl ?_
  refine q_getI (C := RX3) (T := TX3) (N := 10) (ci := 3) hC inX4_feed_X3 (hF.ob 37 (by decide) (fun _ => rfl)) rfl 2 (by decide) (List.mem_of_getElem? (i := 2) (by decide +kernel)) rfl (fun _ => rfl) dX4_feed_4 7 rfl ?_
  refine q_bipush (v := 8) hC dX4_feed_7 (by decide) 9 rfl ?_
  refine q_iadd hC dX4_feed_9 10 rfl ?_
  refine q_sipush (v := 400) hC dX4_feed_10 (by decide) 13 rfl ?_
  refine q_icmp_le hC 19 dX4_feed_13 (by decide) 16 rfl hw (fun hw => ?_) (fun hw => ?_)
  · refine q_bipush (v := 56) hC dX4_feed_19 (by decide) 21 rfl ?_
    refine q_istore_n (L' := [(3, .int 56), (0, .ref (gA g 0)), (1, .long v1)]) hC dX4_feed_21 (by decide) rfl 22 rfl ?_
    obtain ⟨n0, hw⟩ := hw
    exact XX.sub [1, 2, 0] rfl (B22 n0 M 56 hw)
  · refine q_bipush (v := (-3)) hC dX4_feed_16 (by decide) 18 rfl ?_
    exact r_iret hR dX4_feed_18 hw
set_option maxRecDepth 20000 in
theorem inX4_end_X3 : ∀ w ∈ u_ws RX3 TX3 10, w ∈ wsX4_end := by decide +kernel
set_option maxRecDepth 20000 in
theorem inX4_end_X4 : ∀ w ∈ u_ws RX4 TX4 12, w ∈ wsX4_end := by decide +kernel
set_option maxRecDepth 100000 in
set_option maxHeartbeats 4000000 in
theorem ctX4_end (l : Launch) (g : GG) (M : MM) (v1 : Int32) (Q : Int32 → MM → Prop) (hF : full g) (hw : wX4_end Q M v1) : MI g l yX4_end wsX4_end (rmOf 1 22) [.ref (gA g 0), .int v1] M Q := by
  refine mk_MI (cc := cX4_end) (maxL := 3) (by decide) rfl (Nat.le_of_ble_eq_true rfl) ?_
  intro z Qf hC hR
  show XX z g Qf 3 0 [(0, .ref (gA g 0)), (1, .int v1)] [] M
  refine q_aload_n hC dX4_end_0 0 rfl 1 rfl ?_
  refine q_getR (C := RX4) (T := TX4) (N := 12) (ci := 4) hC inX4_end_X4 (hF.ob 0 (by decide) (fun _ => rfl)) rfl 1 (by decide) (List.mem_of_getElem? (i := 1) (by decide +kernel)) rfl 37 (fun _ => rfl) dX4_end_1 4 rfl ?_
  refine q_getI (C := RX3) (T := TX3) (N := 10) (ci := 3) hC inX4_end_X3 (hF.ob 37 (by decide) (fun _ => rfl)) rfl 2 (by decide) (List.mem_of_getElem? (i := 2) (by decide +kernel)) rfl (fun _ => rfl) dX4_end_4 7 rfl ?_
  refine q_istore_n (L' := [(2, .int (M 37 2)), (0, .ref (gA g 0)), (1, .int v1)]) hC dX4_end_7 (by decide) rfl 8 rfl ?_
  refine q_iload_n hC dX4_end_8 2 rfl 9 rfl ?_
  refine q_iconst (v := 0) hC dX4_end_9 rfl 10 rfl ?_
  refine q_iload_n hC dX4_end_10 0 rfl 11 rfl ?_
  refine r_callI hC (go_T (As := [.int v1, .int 0, .int (M 37 2)]) (rest := []) hC (ctX4_isBetween (zl z) g M v1 0 (M 37 2) _ hw) 3 gX4_end_X4_isBetween rfl ⟨rfl, rfl⟩ (by decide +kernel) ⟨Nat.le_of_ble_eq_true rfl, Nat.le_of_ble_eq_true rfl⟩ rfl rfl (Nat.le_of_ble_eq_true rfl) dX4_end_11) 14 rfl (fun r1 M2 hw => ?_)
  refine q_if_ne hC 19 dX4_end_14 (by decide) 17 rfl hw (fun hw => ?_) (fun hw => ?_)
  · refine q_aload_n hC dX4_end_19 1 rfl 20 rfl ?_
    refine q_getR (C := RX4) (T := TX4) (N := 12) (ci := 4) hC inX4_end_X4 (hF.ob 0 (by decide) (fun _ => rfl)) rfl 1 (by decide) (List.mem_of_getElem? (i := 1) (by decide +kernel)) rfl 37 (fun _ => rfl) dX4_end_20 23 rfl ?_
    refine q_iload_n hC dX4_end_23 2 rfl 24 rfl ?_
    refine q_putI (C := RX3) (T := TX3) (N := 10) (ci := 3) hC inX4_end_X3 tyX3 tyX3_ok nmX3 (hF.ob 37 (by decide) (fun _ => rfl)) rfl 2 (by decide) (List.mem_of_getElem? (i := 2) (by decide +kernel)) rfl rfl rfl (fun _ => Nat.le_of_ble_eq_true rfl) (fun _ => rfl) dX4_end_24 27 rfl (fun M3 eM3 => ?_)
    have hw := hw M3 eM3
    refine q_iload_n hC dX4_end_27 0 rfl 28 rfl ?_
    exact r_iret hR dX4_end_28 hw
  · refine q_iconst (v := (-1)) hC dX4_end_17 rfl 18 rfl ?_
    exact r_iret hR dX4_end_18 hw
set_option maxRecDepth 20000 in
theorem inX4_text_X3 : ∀ w ∈ u_ws RX3 TX3 10, w ∈ wsX4_text := by decide +kernel
set_option maxRecDepth 20000 in
theorem inX4_text_X4 : ∀ w ∈ u_ws RX4 TX4 12, w ∈ wsX4_text := by decide +kernel
set_option maxRecDepth 100000 in
set_option maxHeartbeats 4000000 in
theorem ctX4_text (l : Launch) (g : GG) (M : MM)  (Q : Int32 → MM → Prop) (hF : full g) (hw : wX4_text Q M ) : MI g l yX4_text wsX4_text (rmOf 9 235) [.ref (gA g 0)] M Q := by
  refine mk_MI (cc := cX4_text) (maxL := 2) (by decide) rfl (Nat.le_of_ble_eq_true rfl) ?_
  intro z Qf hC hR
  show XX z g Qf 2 0 [(0, .ref (gA g 0))] [] M
  refine q_aload_n hC dX4_text_0 0 rfl 1 rfl ?_
  refine q_getR (C := RX4) (T := TX4) (N := 12) (ci := 4) hC inX4_text_X4 (hF.ob 0 (by decide) (fun _ => rfl)) rfl 1 (by decide) (List.mem_of_getElem? (i := 1) (by decide +kernel)) rfl 37 (fun _ => rfl) dX4_text_1 4 rfl ?_
  refine r_callI hC (go_V (q := (RX3, TX3, 10)) (As := []) (rest := []) hC (ctX3_takeAll (zl z) g M _ hF hw) 0 gX4_text_X3_takeAll rfl ⟨rfl, rfl⟩ (by decide +kernel) ⟨Nat.le_of_ble_eq_true rfl, Nat.le_of_ble_eq_true rfl⟩ (hF.ob 37 (by decide) (fun _ => rfl)) rfl rfl rfl (Nat.le_of_ble_eq_true rfl) dX4_text_4) 7 rfl (fun r1 M2 hw => ?_)
  refine q_istore_n (L' := [(1, .int r1), (0, .ref (gA g 0))]) hC dX4_text_7 (by decide) rfl 8 rfl ?_
  refine q_aload_n hC dX4_text_8 1 rfl 9 rfl ?_
  refine q_getR (C := RX4) (T := TX4) (N := 12) (ci := 4) hC inX4_text_X4 (hF.ob 0 (by decide) (fun _ => rfl)) rfl 1 (by decide) (List.mem_of_getElem? (i := 1) (by decide +kernel)) rfl 37 (fun _ => rfl) dX4_text_9 12 rfl ?_
  refine q_iconst (v := 0) hC dX4_text_12 rfl 13 rfl ?_
  refine q_putI (C := RX3) (T := TX3) (N := 10) (ci := 3) hC inX4_text_X3 tyX3 tyX3_ok nmX3 (hF.ob 37 (by decide) (fun _ => rfl)) rfl 2 (by decide) (List.mem_of_getElem? (i := 2) (by decide +kernel)) rfl rfl rfl (fun _ => Nat.le_of_ble_eq_true rfl) (fun _ => rfl) dX4_text_13 16 rfl (fun M3 eM3 => ?_)
  have hw := hw M3 eM3
  refine q_aload_n hC dX4_text_16 1 rfl 17 rfl ?_
  refine q_aload_n hC dX4_text_17 1 rfl 18 rfl ?_
  refine q_getR (C := RX4) (T := TX4) (N := 12) (ci := 4) hC inX4_text_X4 (hF.ob 0 (by decide) (fun _ => rfl)) rfl 1 (by decide) (List.mem_of_getElem? (i := 1) (by decide +kernel)) rfl 37 (fun _ => rfl) dX4_text_18 21 rfl ?_
  refine q_getI (C := RX3) (T := TX3) (N := 10) (ci := 3) hC inX4_text_X3 (hF.ob 37 (by decide) (fun _ => rfl)) rfl 8 (by decide) (List.mem_of_getElem? (i := 3) (by decide +kernel)) rfl (fun _ => rfl) dX4_text_21 24 rfl ?_
  refine q_putI (C := RX4) (T := TX4) (N := 12) (ci := 4) hC inX4_text_X4 tyX4 tyX4_ok nmX4 (hF.ob 0 (by decide) (fun _ => rfl)) rfl 9 (by decide) (List.mem_of_getElem? (i := 4) (by decide +kernel)) rfl rfl rfl (fun _ => Nat.le_of_ble_eq_true rfl) (fun _ => rfl) dX4_text_24 27 rfl (fun M4 eM4 => ?_)
  have hw := hw M4 eM4
  refine q_aload_n hC dX4_text_27 1 rfl 28 rfl ?_
  refine q_getI (C := RX4) (T := TX4) (N := 12) (ci := 4) hC inX4_text_X4 (hF.ob 0 (by decide) (fun _ => rfl)) rfl 9 (by decide) (List.mem_of_getElem? (i := 4) (by decide +kernel)) rfl (fun _ => rfl) dX4_text_28 31 rfl ?_
  refine q_if_eq hC 45 dX4_text_31 (by decide) 34 rfl hw (fun hw => ?_) (fun hw => ?_)
  · refine q_aload_n hC dX4_text_45 1 rfl 46 rfl ?_
    refine q_getR (C := RX4) (T := TX4) (N := 12) (ci := 4) hC inX4_text_X4 (hF.ob 0 (by decide) (fun _ => rfl)) rfl 0 (by decide) (List.mem_of_getElem? (i := 6) (by decide +kernel)) rfl 1 (fun _ => rfl) dX4_text_46 49 rfl ?_
    refine q_aload_n hC dX4_text_49 1 rfl 50 rfl ?_
    refine q_getR (C := RX4) (T := TX4) (N := 12) (ci := 4) hC inX4_text_X4 (hF.ob 0 (by decide) (fun _ => rfl)) rfl 1 (by decide) (List.mem_of_getElem? (i := 1) (by decide +kernel)) rfl 37 (fun _ => rfl) dX4_text_50 53 rfl ?_
    refine q_getR (C := RX3) (T := TX3) (N := 10) (ci := 3) hC inX4_text_X3 (hF.ob 37 (by decide) (fun _ => rfl)) rfl 1 (by decide) (List.mem_of_getElem? (i := 7) (by decide +kernel)) rfl 28 (fun _ => rfl) dX4_text_53 56 rfl ?_
    refine r_callV hC (go_V (q := (RX2, TX2, 14)) (As := [.ref (gA g 28)]) (rest := []) hC (ctX2_becomes (zl z) g M4 1 28 _ (hF.tp (b := 1) (Or.inl rfl)) (hF.tp (b := 28) (Or.inr (Or.inr (Or.inr rfl)))) hw) 1 gX4_text_X2_becomes rfl ⟨rfl, rfl⟩ (by decide +kernel) ⟨Nat.le_of_ble_eq_true rfl, Nat.le_of_ble_eq_true rfl⟩ (hF.tp (b := 1) (Or.inl rfl)).ob rfl rfl rfl (Nat.le_of_ble_eq_true rfl) dX4_text_56) 59 rfl (fun M5 hw => ?_)
    refine q_aload_n hC dX4_text_59 1 rfl 60 rfl ?_
    refine q_iconst (v := 0) hC dX4_text_60 rfl 61 rfl ?_
    refine q_putI (C := RX4) (T := TX4) (N := 12) (ci := 4) hC inX4_text_X4 tyX4 tyX4_ok nmX4 (hF.ob 0 (by decide) (fun _ => rfl)) rfl 11 (by decide) (List.mem_of_getElem? (i := 8) (by decide +kernel)) rfl rfl rfl (fun _ => Nat.le_of_ble_eq_true rfl) (fun _ => rfl) dX4_text_61 64 rfl (fun M6 eM6 => ?_)
    have hw := hw M6 eM6
    refine q_iload_n hC dX4_text_64 0 rfl 65 rfl ?_
    exact r_iret hR dX4_text_65 hw
  · refine q_bipush (v := (-10)) hC dX4_text_34 (by decide) 36 rfl ?_
    refine q_aload_n hC dX4_text_36 1 rfl 37 rfl ?_
    refine q_getR (C := RX4) (T := TX4) (N := 12) (ci := 4) hC inX4_text_X4 (hF.ob 0 (by decide) (fun _ => rfl)) rfl 1 (by decide) (List.mem_of_getElem? (i := 1) (by decide +kernel)) rfl 37 (fun _ => rfl) dX4_text_37 40 rfl ?_
    refine q_getI (C := RX3) (T := TX3) (N := 10) (ci := 3) hC inX4_text_X3 (hF.ob 37 (by decide) (fun _ => rfl)) rfl 9 (by decide) (List.mem_of_getElem? (i := 5) (by decide +kernel)) rfl (fun _ => rfl) dX4_text_40 43 rfl ?_
    refine q_isub hC dX4_text_43 44 rfl ?_
    exact r_iret hR dX4_text_44 hw
set_option maxRecDepth 20000 in
theorem inX4_fault_X4 : ∀ w ∈ u_ws RX4 TX4 12, w ∈ wsX4_fault := by decide +kernel
set_option maxRecDepth 100000 in
set_option maxHeartbeats 4000000 in
theorem ctX4_fault (l : Launch) (g : GG) (M : MM)  (Q : Int32 → MM → Prop) (hF : full g) (hw : wX4_fault Q M ) : MI g l yX4_fault wsX4_fault (rmOf 0 0) [.ref (gA g 0)] M Q := by
  refine mk_MI (cc := cX4_fault) (maxL := 1) (by decide) rfl (Nat.le_of_ble_eq_true rfl) ?_
  intro z Qf hC hR
  show XX z g Qf 1 0 [(0, .ref (gA g 0))] [] M
  refine q_aload_n hC dX4_fault_0 0 rfl 1 rfl ?_
  refine q_getI (C := RX4) (T := TX4) (N := 12) (ci := 4) hC inX4_fault_X4 (hF.ob 0 (by decide) (fun _ => rfl)) rfl 9 (by decide) (List.mem_of_getElem? (i := 1) (by decide +kernel)) rfl (fun _ => rfl) dX4_fault_1 4 rfl ?_
  exact r_iret hR dX4_fault_4 hw
set_option maxRecDepth 20000 in
theorem inX4_rule_X4 : ∀ w ∈ u_ws RX4 TX4 12, w ∈ wsX4_rule := by decide +kernel
set_option maxRecDepth 100000 in
set_option maxHeartbeats 4000000 in
theorem ctX4_rule (l : Launch) (g : GG) (M : MM) (v1 : Int32) (Q : Int32 → MM → Prop) (hF : full g) (hw : wX4_rule Q M v1) : MI g l yX4_rule wsX4_rule (rmOf 1 22) [.ref (gA g 0), .int v1] M Q := by
  refine mk_MI (cc := cX4_rule) (maxL := 2) (by decide) rfl (Nat.le_of_ble_eq_true rfl) ?_
  intro z Qf hC hR
  show XX z g Qf 2 0 [(0, .ref (gA g 0)), (1, .int v1)] [] M
  refine q_iload_n hC dX4_rule_0 1 rfl 1 rfl ?_
  refine q_iconst (v := 0) hC dX4_rule_1 rfl 2 rfl ?_
  refine q_bipush (v := 8) hC dX4_rule_2 (by decide) 4 rfl ?_
  refine r_callI hC (go_T (As := [.int v1, .int 0, .int 8]) (rest := []) hC (ctX4_isBetween (zl z) g M v1 0 8 _ hw) 3 gX4_rule_X4_isBetween rfl ⟨rfl, rfl⟩ (by decide +kernel) ⟨Nat.le_of_ble_eq_true rfl, Nat.le_of_ble_eq_true rfl⟩ rfl rfl (Nat.le_of_ble_eq_true rfl) dX4_rule_4) 7 rfl (fun r1 M2 hw => ?_)
  refine q_if_eq hC 21 dX4_rule_7 (by decide) 10 rfl hw (fun hw => ?_) (fun hw => ?_)
  · refine q_iconst (v := (-1)) hC dX4_rule_21 rfl 22 rfl ?_
    exact r_iret hR dX4_rule_22 hw
  · refine q_aload_n hC dX4_rule_10 0 rfl 11 rfl ?_
    refine q_getR (C := RX4) (T := TX4) (N := 12) (ci := 4) hC inX4_rule_X4 (hF.ob 0 (by decide) (fun _ => rfl)) rfl 0 (by decide) (List.mem_of_getElem? (i := 1) (by decide +kernel)) rfl 1 (fun _ => rfl) dX4_rule_11 14 rfl ?_
    refine q_iload_n hC dX4_rule_14 1 rfl 15 rfl ?_
    refine r_callI hC (go_V (q := (RX2, TX2, 14)) (As := [.int v1]) (rest := []) hC (ctX2_ruled (zl z) g M2 1 v1 _ (hF.tp (b := 1) (Or.inl rfl)) hw) 1 gX4_rule_X2_ruled rfl ⟨rfl, rfl⟩ (by decide +kernel) ⟨Nat.le_of_ble_eq_true rfl, Nat.le_of_ble_eq_true rfl⟩ (hF.tp (b := 1) (Or.inl rfl)).ob rfl rfl rfl (Nat.le_of_ble_eq_true rfl) dX4_rule_15) 18 rfl (fun r3 M4 hw => ?_)
    refine q_goto hC 22 dX4_rule_18 (by decide) ?_
    exact r_iret hR dX4_rule_22 hw
set_option maxRecDepth 20000 in
theorem inX4_turns_X4 : ∀ w ∈ u_ws RX4 TX4 12, w ∈ wsX4_turns := by decide +kernel
set_option maxRecDepth 100000 in
set_option maxHeartbeats 4000000 in
theorem ctX4_turns (l : Launch) (g : GG) (M : MM) (v1 : Int32) (v2 : Int32) (Q : Int32 → MM → Prop) (hF : full g) (hw : wX4_turns Q M v1 v2) : MI g l yX4_turns wsX4_turns (rmOf 3 68) [.ref (gA g 0), .int v1, .int v2] M Q := by
  refine mk_MI (cc := cX4_turns) (maxL := 3) (by decide) rfl (Nat.le_of_ble_eq_true rfl) ?_
  intro z Qf hC hR
  show XX z g Qf 3 0 [(0, .ref (gA g 0)), (1, .int v1), (2, .int v2)] [] M
  refine q_aload_n hC dX4_turns_0 0 rfl 1 rfl ?_
  refine q_getR (C := RX4) (T := TX4) (N := 12) (ci := 4) hC inX4_turns_X4 (hF.ob 0 (by decide) (fun _ => rfl)) rfl 0 (by decide) (List.mem_of_getElem? (i := 1) (by decide +kernel)) rfl 1 (fun _ => rfl) dX4_turns_1 4 rfl ?_
  refine q_iload_n hC dX4_turns_4 1 rfl 5 rfl ?_
  refine r_callI hC (go_V (q := (RX2, TX2, 14)) (As := [.int v1]) (rest := []) hC (ctX2_hasPlace (zl z) g M 1 v1 _ (hF.tp (b := 1) (Or.inl rfl)) hw) 1 gX4_turns_X2_hasPlace rfl ⟨rfl, rfl⟩ (by decide +kernel) ⟨Nat.le_of_ble_eq_true rfl, Nat.le_of_ble_eq_true rfl⟩ (hF.tp (b := 1) (Or.inl rfl)).ob rfl rfl rfl (Nat.le_of_ble_eq_true rfl) dX4_turns_5) 8 rfl (fun r1 M2 hw => ?_)
  refine q_if_ne hC 13 dX4_turns_8 (by decide) 11 rfl hw (fun hw => ?_) (fun hw => ?_)
  · refine q_iload_n hC dX4_turns_13 2 rfl 14 rfl ?_
    refine q_if_eq hC 28 dX4_turns_14 (by decide) 17 rfl hw (fun hw => ?_) (fun hw => ?_)
    · refine q_aload_n hC dX4_turns_28 0 rfl 29 rfl ?_
      refine q_getR (C := RX4) (T := TX4) (N := 12) (ci := 4) hC inX4_turns_X4 (hF.ob 0 (by decide) (fun _ => rfl)) rfl 0 (by decide) (List.mem_of_getElem? (i := 1) (by decide +kernel)) rfl 1 (fun _ => rfl) dX4_turns_29 32 rfl ?_
      refine q_iload_n hC dX4_turns_32 1 rfl 33 rfl ?_
      refine r_callI hC (go_V (q := (RX2, TX2, 14)) (As := [.int v1]) (rest := []) hC (ctX2_rightTurns (zl z) g M2 1 v1 _ (hF.tp (b := 1) (Or.inl rfl)) hw) 1 gX4_turns_X2_rightTurns rfl ⟨rfl, rfl⟩ (by decide +kernel) ⟨Nat.le_of_ble_eq_true rfl, Nat.le_of_ble_eq_true rfl⟩ (hF.tp (b := 1) (Or.inl rfl)).ob rfl rfl rfl (Nat.le_of_ble_eq_true rfl) dX4_turns_33) 36 rfl (fun r3 M4 hw => ?_)
      exact r_iret hR dX4_turns_36 hw
    · refine q_aload_n hC dX4_turns_17 0 rfl 18 rfl ?_
      refine q_getR (C := RX4) (T := TX4) (N := 12) (ci := 4) hC inX4_turns_X4 (hF.ob 0 (by decide) (fun _ => rfl)) rfl 0 (by decide) (List.mem_of_getElem? (i := 1) (by decide +kernel)) rfl 1 (fun _ => rfl) dX4_turns_18 21 rfl ?_
      refine q_iload_n hC dX4_turns_21 1 rfl 22 rfl ?_
      refine r_callI hC (go_V (q := (RX2, TX2, 14)) (As := [.int v1]) (rest := []) hC (ctX2_leftTurns (zl z) g M2 1 v1 _ (hF.tp (b := 1) (Or.inl rfl)) hw) 1 gX4_turns_X2_leftTurns rfl ⟨rfl, rfl⟩ (by decide +kernel) ⟨Nat.le_of_ble_eq_true rfl, Nat.le_of_ble_eq_true rfl⟩ (hF.tp (b := 1) (Or.inl rfl)).ob rfl rfl rfl (Nat.le_of_ble_eq_true rfl) dX4_turns_22) 25 rfl (fun r5 M6 hw => ?_)
      refine q_goto hC 36 dX4_turns_25 (by decide) ?_
      exact r_iret hR dX4_turns_36 hw
  · refine q_iconst (v := (-1)) hC dX4_turns_11 rfl 12 rfl ?_
    exact r_iret hR dX4_turns_12 hw
set_option maxRecDepth 20000 in
theorem inX4_shows_X4 : ∀ w ∈ u_ws RX4 TX4 12, w ∈ wsX4_shows := by decide +kernel
set_option maxRecDepth 100000 in
set_option maxHeartbeats 4000000 in
theorem ctX4_shows (l : Launch) (g : GG) (M : MM) (v1 : Int32) (v2 : Int32) (Q : Int32 → MM → Prop) (hF : full g) (hw : wX4_shows Q M v1 v2) : MI g l yX4_shows wsX4_shows (rmOf 4 86) [.ref (gA g 0), .int v1, .int v2] M Q := by
  refine mk_MI (cc := cX4_shows) (maxL := 3) (by decide) rfl (Nat.le_of_ble_eq_true rfl) ?_
  intro z Qf hC hR
  show XX z g Qf 3 0 [(0, .ref (gA g 0)), (1, .int v1), (2, .int v2)] [] M
  refine q_iload_n hC dX4_shows_0 1 rfl 1 rfl ?_
  refine q_if_lt hC 13 dX4_shows_1 (by decide) 4 rfl hw (fun hw => ?_) (fun hw => ?_)
  · refine q_iconst (v := (-1)) hC dX4_shows_13 rfl 14 rfl ?_
    exact r_iret hR dX4_shows_14 hw
  · refine q_iload_n hC dX4_shows_4 2 rfl 5 rfl ?_
    refine q_iconst (v := 0) hC dX4_shows_5 rfl 6 rfl ?_
    refine q_iconst (v := 1) hC dX4_shows_6 rfl 7 rfl ?_
    refine r_callI hC (go_T (As := [.int v2, .int 0, .int 1]) (rest := []) hC (ctX4_isBetween (zl z) g M v2 0 1 _ hw) 3 gX4_shows_X4_isBetween rfl ⟨rfl, rfl⟩ (by decide +kernel) ⟨Nat.le_of_ble_eq_true rfl, Nat.le_of_ble_eq_true rfl⟩ rfl rfl (Nat.le_of_ble_eq_true rfl) dX4_shows_7) 10 rfl (fun r1 M2 hw => ?_)
    refine q_if_ne hC 15 dX4_shows_10 (by decide) 13 rfl hw (fun hw => ?_) (fun hw => ?_)
    · refine q_iload_n hC dX4_shows_15 2 rfl 16 rfl ?_
      refine q_if_ne hC 30 dX4_shows_16 (by decide) 19 rfl hw (fun hw => ?_) (fun hw => ?_)
      · refine q_aload_n hC dX4_shows_30 0 rfl 31 rfl ?_
        refine q_getR (C := RX4) (T := TX4) (N := 12) (ci := 4) hC inX4_shows_X4 (hF.ob 0 (by decide) (fun _ => rfl)) rfl 0 (by decide) (List.mem_of_getElem? (i := 1) (by decide +kernel)) rfl 1 (fun _ => rfl) dX4_shows_31 34 rfl ?_
        refine q_iload_n hC dX4_shows_34 1 rfl 35 rfl ?_
        refine r_callI hC (go_V (q := (RX2, TX2, 14)) (As := [.int v1]) (rest := []) hC (ctX2_lastShowing (zl z) g M2 1 v1 _ (hF.tp (b := 1) (Or.inl rfl)) hw) 1 gX4_shows_X2_lastShowing rfl ⟨rfl, rfl⟩ (by decide +kernel) ⟨Nat.le_of_ble_eq_true rfl, Nat.le_of_ble_eq_true rfl⟩ (hF.tp (b := 1) (Or.inl rfl)).ob rfl rfl rfl (Nat.le_of_ble_eq_true rfl) dX4_shows_35) 38 rfl (fun r3 M4 hw => ?_)
        exact r_iret hR dX4_shows_38 hw
      · refine q_aload_n hC dX4_shows_19 0 rfl 20 rfl ?_
        refine q_getR (C := RX4) (T := TX4) (N := 12) (ci := 4) hC inX4_shows_X4 (hF.ob 0 (by decide) (fun _ => rfl)) rfl 0 (by decide) (List.mem_of_getElem? (i := 1) (by decide +kernel)) rfl 1 (fun _ => rfl) dX4_shows_20 23 rfl ?_
        refine q_iload_n hC dX4_shows_23 1 rfl 24 rfl ?_
        refine r_callI hC (go_V (q := (RX2, TX2, 14)) (As := [.int v1]) (rest := []) hC (ctX2_firstShowing (zl z) g M2 1 v1 _ (hF.tp (b := 1) (Or.inl rfl)) hw) 1 gX4_shows_X2_firstShowing rfl ⟨rfl, rfl⟩ (by decide +kernel) ⟨Nat.le_of_ble_eq_true rfl, Nat.le_of_ble_eq_true rfl⟩ (hF.tp (b := 1) (Or.inl rfl)).ob rfl rfl rfl (Nat.le_of_ble_eq_true rfl) dX4_shows_24) 27 rfl (fun r5 M6 hw => ?_)
        refine q_goto hC 38 dX4_shows_27 (by decide) ?_
        exact r_iret hR dX4_shows_38 hw
    · refine q_iconst (v := (-1)) hC dX4_shows_13 rfl 14 rfl ?_
      exact r_iret hR dX4_shows_14 hw
set_option maxRecDepth 20000 in
theorem inX4_meet_X4 : ∀ w ∈ u_ws RX4 TX4 12, w ∈ wsX4_meet := by decide +kernel
set_option maxRecDepth 100000 in
set_option maxHeartbeats 4000000 in
theorem ctX4_meet (l : Launch) (g : GG) (M : MM)  (Q : Int32 → MM → Prop) (hF : full g) (hw : wX4_meet Q M ) : MI g l yX4_meet wsX4_meet (rmOf 4 92) [.ref (gA g 0)] M Q := by
  refine mk_MI (cc := cX4_meet) (maxL := 1) (by decide) rfl (Nat.le_of_ble_eq_true rfl) ?_
  intro z Qf hC hR
  show XX z g Qf 1 0 [(0, .ref (gA g 0))] [] M
  refine q_aload_n hC dX4_meet_0 0 rfl 1 rfl ?_
  refine q_getR (C := RX4) (T := TX4) (N := 12) (ci := 4) hC inX4_meet_X4 (hF.ob 0 (by decide) (fun _ => rfl)) rfl 0 (by decide) (List.mem_of_getElem? (i := 1) (by decide +kernel)) rfl 1 (fun _ => rfl) dX4_meet_1 4 rfl ?_
  refine r_callI hC (go_V (q := (RX2, TX2, 14)) (As := []) (rest := []) hC (ctX2_meetingPlace (zl z) g M 1 _ (hF.tp (b := 1) (Or.inl rfl)) hw) 0 gX4_meet_X2_meetingPlace rfl ⟨rfl, rfl⟩ (by decide +kernel) ⟨Nat.le_of_ble_eq_true rfl, Nat.le_of_ble_eq_true rfl⟩ (hF.tp (b := 1) (Or.inl rfl)).ob rfl rfl rfl (Nat.le_of_ble_eq_true rfl) dX4_meet_4) 7 rfl (fun r1 M2 hw => ?_)
  exact r_iret hR dX4_meet_7 hw
set_option maxRecDepth 20000 in
theorem inX4_ticks_X4 : ∀ w ∈ u_ws RX4 TX4 12, w ∈ wsX4_ticks := by decide +kernel
set_option maxRecDepth 100000 in
set_option maxHeartbeats 4000000 in
theorem ctX4_ticks (l : Launch) (g : GG) (M : MM) (v1 : Int32) (v2 : Int32) (v3 : Int32) (Q : Int32 → MM → Prop) (hF : full g) (hw : wX4_ticks Q M v1 v2 v3) : MI g l yX4_ticks wsX4_ticks (rmOf 4 93) [.ref (gA g 0), .int v1, .int v2, .int v3] M Q := by
  refine mk_MI (cc := cX4_ticks) (maxL := 4) (by decide) rfl (Nat.le_of_ble_eq_true rfl) ?_
  intro z Qf hC hR
  show XX z g Qf 4 0 [(0, .ref (gA g 0)), (1, .int v1), (2, .int v2), (3, .int v3)] [] M
  refine q_aload_n hC dX4_ticks_0 0 rfl 1 rfl ?_
  refine q_getR (C := RX4) (T := TX4) (N := 12) (ci := 4) hC inX4_ticks_X4 (hF.ob 0 (by decide) (fun _ => rfl)) rfl 0 (by decide) (List.mem_of_getElem? (i := 1) (by decide +kernel)) rfl 1 (fun _ => rfl) dX4_ticks_1 4 rfl ?_
  refine q_iload_n hC dX4_ticks_4 1 rfl 5 rfl ?_
  refine r_callI hC (go_V (q := (RX2, TX2, 14)) (As := [.int v1]) (rest := []) hC (ctX2_hasPlace (zl z) g M 1 v1 _ (hF.tp (b := 1) (Or.inl rfl)) hw) 1 gX4_ticks_X2_hasPlace rfl ⟨rfl, rfl⟩ (by decide +kernel) ⟨Nat.le_of_ble_eq_true rfl, Nat.le_of_ble_eq_true rfl⟩ (hF.tp (b := 1) (Or.inl rfl)).ob rfl rfl rfl (Nat.le_of_ble_eq_true rfl) dX4_ticks_5) 8 rfl (fun r1 M2 hw => ?_)
  refine q_if_eq hC 22 dX4_ticks_8 (by decide) 11 rfl hw (fun hw => ?_) (fun hw => ?_)
  · refine q_iconst (v := (-1)) hC dX4_ticks_22 rfl 23 rfl ?_
    exact r_iret hR dX4_ticks_23 hw
  · refine q_aload_n hC dX4_ticks_11 0 rfl 12 rfl ?_
    refine q_getR (C := RX4) (T := TX4) (N := 12) (ci := 4) hC inX4_ticks_X4 (hF.ob 0 (by decide) (fun _ => rfl)) rfl 0 (by decide) (List.mem_of_getElem? (i := 1) (by decide +kernel)) rfl 1 (fun _ => rfl) dX4_ticks_12 15 rfl ?_
    refine q_iload_n hC dX4_ticks_15 2 rfl 16 rfl ?_
    refine r_callI hC (go_V (q := (RX2, TX2, 14)) (As := [.int v2]) (rest := []) hC (ctX2_hasPlace (zl z) g M2 1 v2 _ (hF.tp (b := 1) (Or.inl rfl)) hw) 1 gX4_ticks_X2_hasPlace rfl ⟨rfl, rfl⟩ (by decide +kernel) ⟨Nat.le_of_ble_eq_true rfl, Nat.le_of_ble_eq_true rfl⟩ (hF.tp (b := 1) (Or.inl rfl)).ob rfl rfl rfl (Nat.le_of_ble_eq_true rfl) dX4_ticks_16) 19 rfl (fun r3 M4 hw => ?_)
    refine q_if_ne hC 24 dX4_ticks_19 (by decide) 22 rfl hw (fun hw => ?_) (fun hw => ?_)
    · refine q_iload_n hC dX4_ticks_24 3 rfl 25 rfl ?_
      by_cases c0 : v3 = 0
      · have hw := hw.1 c0
        refine q_tabIn hC 52 dX4_ticks_25 (by rw [c0]; decide) (by rw [c0]; decide) (by rw [c0]; rfl) (by decide) ?_
        refine q_aload_n hC dX4_ticks_52 0 rfl 53 rfl ?_
        refine q_getR (C := RX4) (T := TX4) (N := 12) (ci := 4) hC inX4_ticks_X4 (hF.ob 0 (by decide) (fun _ => rfl)) rfl 0 (by decide) (List.mem_of_getElem? (i := 1) (by decide +kernel)) rfl 1 (fun _ => rfl) dX4_ticks_53 56 rfl ?_
        refine q_iload_n hC dX4_ticks_56 1 rfl 57 rfl ?_
        refine q_iload_n hC dX4_ticks_57 2 rfl 58 rfl ?_
        refine r_callI hC (go_V (q := (RX2, TX2, 14)) (As := [.int v1, .int v2]) (rest := []) hC (ctX2_played (zl z) g M4 1 v1 v2 _ (hF.tp (b := 1) (Or.inl rfl)) hw) 2 gX4_ticks_X2_played rfl ⟨rfl, rfl⟩ (by decide +kernel) ⟨Nat.le_of_ble_eq_true rfl, Nat.le_of_ble_eq_true rfl⟩ (hF.tp (b := 1) (Or.inl rfl)).ob rfl rfl rfl (Nat.le_of_ble_eq_true rfl) dX4_ticks_58) 61 rfl (fun r5 M6 hw => ?_)
        exact r_iret hR dX4_ticks_61 hw
      · have hw := hw.2 c0
        by_cases c1 : v3 = 1
        · have hw := hw.1 c1
          refine q_tabIn hC 62 dX4_ticks_25 (by rw [c1]; decide) (by rw [c1]; decide) (by rw [c1]; rfl) (by decide) ?_
          refine q_aload_n hC dX4_ticks_62 0 rfl 63 rfl ?_
          refine q_getR (C := RX4) (T := TX4) (N := 12) (ci := 4) hC inX4_ticks_X4 (hF.ob 0 (by decide) (fun _ => rfl)) rfl 0 (by decide) (List.mem_of_getElem? (i := 1) (by decide +kernel)) rfl 1 (fun _ => rfl) dX4_ticks_63 66 rfl ?_
          refine q_iload_n hC dX4_ticks_66 1 rfl 67 rfl ?_
          refine q_iload_n hC dX4_ticks_67 2 rfl 68 rfl ?_
          refine r_callI hC (go_V (q := (RX2, TX2, 14)) (As := [.int v1, .int v2]) (rest := []) hC (ctX2_wound (zl z) g M4 1 v1 v2 _ (hF.tp (b := 1) (Or.inl rfl)) hw) 2 gX4_ticks_X2_wound rfl ⟨rfl, rfl⟩ (by decide +kernel) ⟨Nat.le_of_ble_eq_true rfl, Nat.le_of_ble_eq_true rfl⟩ (hF.tp (b := 1) (Or.inl rfl)).ob rfl rfl rfl (Nat.le_of_ble_eq_true rfl) dX4_ticks_68) 71 rfl (fun r7 M8 hw => ?_)
          exact r_iret hR dX4_ticks_71 hw
        · have hw := hw.2 c1
          by_cases c2 : v3 = 2
          · have hw := hw.1 c2
            refine q_tabIn hC 72 dX4_ticks_25 (by rw [c2]; decide) (by rw [c2]; decide) (by rw [c2]; rfl) (by decide) ?_
            refine q_aload_n hC dX4_ticks_72 0 rfl 73 rfl ?_
            refine q_getR (C := RX4) (T := TX4) (N := 12) (ci := 4) hC inX4_ticks_X4 (hF.ob 0 (by decide) (fun _ => rfl)) rfl 0 (by decide) (List.mem_of_getElem? (i := 1) (by decide +kernel)) rfl 1 (fun _ => rfl) dX4_ticks_73 76 rfl ?_
            refine q_iload_n hC dX4_ticks_76 1 rfl 77 rfl ?_
            refine q_iload_n hC dX4_ticks_77 2 rfl 78 rfl ?_
            refine r_callI hC (go_V (q := (RX2, TX2, 14)) (As := [.int v1, .int v2]) (rest := []) hC (ctX2_sooner (zl z) g M4 1 v1 v2 _ (hF.tp (b := 1) (Or.inl rfl)) hw) 2 gX4_ticks_X2_sooner rfl ⟨rfl, rfl⟩ (by decide +kernel) ⟨Nat.le_of_ble_eq_true rfl, Nat.le_of_ble_eq_true rfl⟩ (hF.tp (b := 1) (Or.inl rfl)).ob rfl rfl rfl (Nat.le_of_ble_eq_true rfl) dX4_ticks_78) 81 rfl (fun r9 M10 hw => ?_)
            exact r_iret hR dX4_ticks_81 hw
          · have hw := hw.2 c2
            refine q_tabOut hC 82 dX4_ticks_25 (tab_out2 c0 c1 c2) (by decide) ?_
            refine q_iconst (v := (-1)) hC dX4_ticks_82 rfl 83 rfl ?_
            exact r_iret hR dX4_ticks_83 hw
    · refine q_iconst (v := (-1)) hC dX4_ticks_22 rfl 23 rfl ?_
      exact r_iret hR dX4_ticks_23 hw
set_option maxRecDepth 20000 in
theorem inX4_go_X4 : ∀ w ∈ u_ws RX4 TX4 12, w ∈ wsX4_go := by decide +kernel
set_option maxRecDepth 100000 in
set_option maxHeartbeats 4000000 in
theorem ctX4_go (l : Launch) (g : GG) (M : MM) (v1 : Int32) (Q : Int32 → MM → Prop) (hF : full g) (hw : wX4_go Q M v1) : MI g l yX4_go wsX4_go (rmOf 5 115) [.ref (gA g 0), .int v1] M Q := by
  refine mk_MI (cc := cX4_go) (maxL := 2) (by decide) rfl (Nat.le_of_ble_eq_true rfl) ?_
  intro z Qf hC hR
  show XX z g Qf 2 0 [(0, .ref (gA g 0)), (1, .int v1)] [] M
  refine q_aload_n hC dX4_go_0 0 rfl 1 rfl ?_
  refine q_getR (C := RX4) (T := TX4) (N := 12) (ci := 4) hC inX4_go_X4 (hF.ob 0 (by decide) (fun _ => rfl)) rfl 0 (by decide) (List.mem_of_getElem? (i := 1) (by decide +kernel)) rfl 1 (fun _ => rfl) dX4_go_1 4 rfl ?_
  refine q_iload_n hC dX4_go_4 1 rfl 5 rfl ?_
  refine r_callI hC (go_V (q := (RX2, TX2, 14)) (As := [.int v1]) (rest := []) hC (ctX2_hasPlace (zl z) g M 1 v1 _ (hF.tp (b := 1) (Or.inl rfl)) hw) 1 gX4_go_X2_hasPlace rfl ⟨rfl, rfl⟩ (by decide +kernel) ⟨Nat.le_of_ble_eq_true rfl, Nat.le_of_ble_eq_true rfl⟩ (hF.tp (b := 1) (Or.inl rfl)).ob rfl rfl rfl (Nat.le_of_ble_eq_true rfl) dX4_go_5) 8 rfl (fun r1 M2 hw => ?_)
  refine q_if_eq hC 22 dX4_go_8 (by decide) 11 rfl hw (fun hw => ?_) (fun hw => ?_)
  · refine q_iconst (v := (-1)) hC dX4_go_22 rfl 23 rfl ?_
    exact r_iret hR dX4_go_23 hw
  · refine q_aload_n hC dX4_go_11 0 rfl 12 rfl ?_
    refine q_getR (C := RX4) (T := TX4) (N := 12) (ci := 4) hC inX4_go_X4 (hF.ob 0 (by decide) (fun _ => rfl)) rfl 0 (by decide) (List.mem_of_getElem? (i := 1) (by decide +kernel)) rfl 1 (fun _ => rfl) dX4_go_12 15 rfl ?_
    refine q_iload_n hC dX4_go_15 1 rfl 16 rfl ?_
    refine r_callI hC (go_V (q := (RX2, TX2, 14)) (As := [.int v1]) (rest := []) hC (ctX2_goTo (zl z) g M2 1 v1 _ (hF.tp (b := 1) (Or.inl rfl)) hw) 1 gX4_go_X2_goTo rfl ⟨rfl, rfl⟩ (by decide +kernel) ⟨Nat.le_of_ble_eq_true rfl, Nat.le_of_ble_eq_true rfl⟩ (hF.tp (b := 1) (Or.inl rfl)).ob rfl rfl rfl (Nat.le_of_ble_eq_true rfl) dX4_go_16) 19 rfl (fun r3 M4 hw => ?_)
    refine q_goto hC 23 dX4_go_19 (by decide) ?_
    exact r_iret hR dX4_go_23 hw
set_option maxRecDepth 20000 in
theorem inX4_now_X2 : ∀ w ∈ u_ws RX2 TX2 14, w ∈ wsX4_now := by decide +kernel
set_option maxRecDepth 20000 in
theorem inX4_now_X4 : ∀ w ∈ u_ws RX4 TX4 12, w ∈ wsX4_now := by decide +kernel
set_option maxRecDepth 100000 in
set_option maxHeartbeats 4000000 in
theorem ctX4_now (l : Launch) (g : GG) (M : MM) (v1 : Int32) (Q : Int32 → MM → Prop) (hF : full g) (hw : wX4_now Q M v1) : MI g l yX4_now wsX4_now (rmOf 3 68) [.ref (gA g 0), .int v1] M Q := by
  refine mk_MI (cc := cX4_now) (maxL := 2) (by decide) rfl (Nat.le_of_ble_eq_true rfl) ?_
  intro z Qf hC hR
  show XX z g Qf 2 0 [(0, .ref (gA g 0)), (1, .int v1)] [] M
  refine q_iload_n hC dX4_now_0 1 rfl 1 rfl ?_
  by_cases c0 : v1 = 0
  · have hw := hw.1 c0
    refine q_tabIn hC 40 dX4_now_1 (by rw [c0]; decide) (by rw [c0]; decide) (by rw [c0]; rfl) (by decide) ?_
    refine q_aload_n hC dX4_now_40 0 rfl 41 rfl ?_
    refine q_getR (C := RX4) (T := TX4) (N := 12) (ci := 4) hC inX4_now_X4 (hF.ob 0 (by decide) (fun _ => rfl)) rfl 0 (by decide) (List.mem_of_getElem? (i := 1) (by decide +kernel)) rfl 1 (fun _ => rfl) dX4_now_41 44 rfl ?_
    refine q_getI (C := RX2) (T := TX2) (N := 14) (ci := 2) hC inX4_now_X2 (hF.tp (b := 1) (Or.inl rfl)).ob rfl 9 (by decide) (List.mem_of_getElem? (i := 2) (by decide +kernel)) rfl (fun _ => rfl) dX4_now_44 47 rfl ?_
    exact r_iret hR dX4_now_47 hw
  · have hw := hw.2 c0
    by_cases c1 : v1 = 1
    · have hw := hw.1 c1
      refine q_tabIn hC 48 dX4_now_1 (by rw [c1]; decide) (by rw [c1]; decide) (by rw [c1]; rfl) (by decide) ?_
      refine q_aload_n hC dX4_now_48 0 rfl 49 rfl ?_
      refine q_getR (C := RX4) (T := TX4) (N := 12) (ci := 4) hC inX4_now_X4 (hF.ob 0 (by decide) (fun _ => rfl)) rfl 0 (by decide) (List.mem_of_getElem? (i := 1) (by decide +kernel)) rfl 1 (fun _ => rfl) dX4_now_49 52 rfl ?_
      refine q_getI (C := RX2) (T := TX2) (N := 14) (ci := 2) hC inX4_now_X2 (hF.tp (b := 1) (Or.inl rfl)).ob rfl 10 (by decide) (List.mem_of_getElem? (i := 3) (by decide +kernel)) rfl (fun _ => rfl) dX4_now_52 55 rfl ?_
      exact r_iret hR dX4_now_55 hw
    · have hw := hw.2 c1
      by_cases c2 : v1 = 2
      · have hw := hw.1 c2
        refine q_tabIn hC 56 dX4_now_1 (by rw [c2]; decide) (by rw [c2]; decide) (by rw [c2]; rfl) (by decide) ?_
        refine q_aload_n hC dX4_now_56 0 rfl 57 rfl ?_
        refine q_getR (C := RX4) (T := TX4) (N := 12) (ci := 4) hC inX4_now_X4 (hF.ob 0 (by decide) (fun _ => rfl)) rfl 0 (by decide) (List.mem_of_getElem? (i := 1) (by decide +kernel)) rfl 1 (fun _ => rfl) dX4_now_57 60 rfl ?_
        refine q_aload_n hC dX4_now_60 0 rfl 61 rfl ?_
        refine q_getR (C := RX4) (T := TX4) (N := 12) (ci := 4) hC inX4_now_X4 (hF.ob 0 (by decide) (fun _ => rfl)) rfl 0 (by decide) (List.mem_of_getElem? (i := 1) (by decide +kernel)) rfl 1 (fun _ => rfl) dX4_now_61 64 rfl ?_
        refine q_getI (C := RX2) (T := TX2) (N := 14) (ci := 2) hC inX4_now_X2 (hF.tp (b := 1) (Or.inl rfl)).ob rfl 9 (by decide) (List.mem_of_getElem? (i := 2) (by decide +kernel)) rfl (fun _ => rfl) dX4_now_64 67 rfl ?_
        refine r_callI hC (go_V (q := (RX2, TX2, 14)) (As := [.int (M 1 9)]) (rest := []) hC (ctX2_rightTurns (zl z) g M 1 (M 1 9) _ (hF.tp (b := 1) (Or.inl rfl)) hw) 1 gX4_now_X2_rightTurns rfl ⟨rfl, rfl⟩ (by decide +kernel) ⟨Nat.le_of_ble_eq_true rfl, Nat.le_of_ble_eq_true rfl⟩ (hF.tp (b := 1) (Or.inl rfl)).ob rfl rfl rfl (Nat.le_of_ble_eq_true rfl) dX4_now_67) 70 rfl (fun r1 M2 hw => ?_)
        exact r_iret hR dX4_now_70 hw
      · have hw := hw.2 c2
        by_cases c3 : v1 = 3
        · have hw := hw.1 c3
          refine q_tabIn hC 71 dX4_now_1 (by rw [c3]; decide) (by rw [c3]; decide) (by rw [c3]; rfl) (by decide) ?_
          refine q_aload_n hC dX4_now_71 0 rfl 72 rfl ?_
          refine q_getR (C := RX4) (T := TX4) (N := 12) (ci := 4) hC inX4_now_X4 (hF.ob 0 (by decide) (fun _ => rfl)) rfl 0 (by decide) (List.mem_of_getElem? (i := 1) (by decide +kernel)) rfl 1 (fun _ => rfl) dX4_now_72 75 rfl ?_
          refine q_getI (C := RX2) (T := TX2) (N := 14) (ci := 2) hC inX4_now_X2 (hF.tp (b := 1) (Or.inl rfl)).ob rfl 12 (by decide) (List.mem_of_getElem? (i := 4) (by decide +kernel)) rfl (fun _ => rfl) dX4_now_75 78 rfl ?_
          exact r_iret hR dX4_now_78 hw
        · have hw := hw.2 c3
          by_cases c4 : v1 = 4
          · have hw := hw.1 c4
            refine q_tabIn hC 79 dX4_now_1 (by rw [c4]; decide) (by rw [c4]; decide) (by rw [c4]; rfl) (by decide) ?_
            refine q_aload_n hC dX4_now_79 0 rfl 80 rfl ?_
            refine q_getR (C := RX4) (T := TX4) (N := 12) (ci := 4) hC inX4_now_X4 (hF.ob 0 (by decide) (fun _ => rfl)) rfl 0 (by decide) (List.mem_of_getElem? (i := 1) (by decide +kernel)) rfl 1 (fun _ => rfl) dX4_now_80 83 rfl ?_
            refine q_getI (C := RX2) (T := TX2) (N := 14) (ci := 2) hC inX4_now_X2 (hF.tp (b := 1) (Or.inl rfl)).ob rfl 11 (by decide) (List.mem_of_getElem? (i := 5) (by decide +kernel)) rfl (fun _ => rfl) dX4_now_83 86 rfl ?_
            exact r_iret hR dX4_now_86 hw
          · have hw := hw.2 c4
            by_cases c5 : v1 = 5
            · have hw := hw.1 c5
              refine q_tabIn hC 87 dX4_now_1 (by rw [c5]; decide) (by rw [c5]; decide) (by rw [c5]; rfl) (by decide) ?_
              refine q_aload_n hC dX4_now_87 0 rfl 88 rfl ?_
              refine q_getR (C := RX4) (T := TX4) (N := 12) (ci := 4) hC inX4_now_X4 (hF.ob 0 (by decide) (fun _ => rfl)) rfl 0 (by decide) (List.mem_of_getElem? (i := 1) (by decide +kernel)) rfl 1 (fun _ => rfl) dX4_now_88 91 rfl ?_
              refine q_iconst (v := 0) hC dX4_now_91 rfl 92 rfl ?_
              refine r_callI hC (go_V (q := (RX2, TX2, 14)) (As := [.int 0]) (rest := []) hC (ctX2_ruled (zl z) g M 1 0 _ (hF.tp (b := 1) (Or.inl rfl)) hw) 1 gX4_now_X2_ruled rfl ⟨rfl, rfl⟩ (by decide +kernel) ⟨Nat.le_of_ble_eq_true rfl, Nat.le_of_ble_eq_true rfl⟩ (hF.tp (b := 1) (Or.inl rfl)).ob rfl rfl rfl (Nat.le_of_ble_eq_true rfl) dX4_now_92) 95 rfl (fun r3 M4 hw => ?_)
              refine q_aload_n hC dX4_now_95 0 rfl 96 rfl ?_
              refine q_getR (C := RX4) (T := TX4) (N := 12) (ci := 4) hC inX4_now_X4 (hF.ob 0 (by decide) (fun _ => rfl)) rfl 0 (by decide) (List.mem_of_getElem? (i := 1) (by decide +kernel)) rfl 1 (fun _ => rfl) dX4_now_96 99 rfl ?_
              refine q_aload_n hC dX4_now_99 0 rfl 100 rfl ?_
              refine q_getR (C := RX4) (T := TX4) (N := 12) (ci := 4) hC inX4_now_X4 (hF.ob 0 (by decide) (fun _ => rfl)) rfl 0 (by decide) (List.mem_of_getElem? (i := 1) (by decide +kernel)) rfl 1 (fun _ => rfl) dX4_now_100 103 rfl ?_
              refine q_getI (C := RX2) (T := TX2) (N := 14) (ci := 2) hC inX4_now_X2 (hF.tp (b := 1) (Or.inl rfl)).ob rfl 8 (by decide) (List.mem_of_getElem? (i := 6) (by decide +kernel)) rfl (fun _ => rfl) dX4_now_103 106 rfl ?_
              refine q_iconst (v := 1) hC dX4_now_106 rfl 107 rfl ?_
              refine q_isub hC dX4_now_107 108 rfl ?_
              refine r_callI hC (go_V (q := (RX2, TX2, 14)) (As := [.int ((M4 1 8) - (1 : Int32))]) (rest := [.int r3]) hC (ctX2_endOf (zl z) g M4 1 ((M4 1 8) - (1 : Int32)) _ (hF.tp (b := 1) (Or.inl rfl)) hw) 1 gX4_now_X2_endOf rfl ⟨rfl, rfl⟩ (by decide +kernel) ⟨Nat.le_of_ble_eq_true rfl, Nat.le_of_ble_eq_true rfl⟩ (hF.tp (b := 1) (Or.inl rfl)).ob rfl rfl rfl (Nat.le_of_ble_eq_true rfl) dX4_now_108) 111 rfl (fun r5 M6 hw => ?_)
              refine q_isub hC dX4_now_111 112 rfl ?_
              exact r_iret hR dX4_now_112 hw
            · have hw := hw.2 c5
              refine q_tabOut hC 113 dX4_now_1 (tab_out5 c0 c1 c2 c3 c4 c5) (by decide) ?_
              refine q_iconst (v := (-1)) hC dX4_now_113 rfl 114 rfl ?_
              exact r_iret hR dX4_now_114 hw
set_option maxRecDepth 20000 in
theorem inX4_within_X2 : ∀ w ∈ u_ws RX2 TX2 14, w ∈ wsX4_within := by decide +kernel
set_option maxRecDepth 20000 in
theorem inX4_within_X4 : ∀ w ∈ u_ws RX4 TX4 12, w ∈ wsX4_within := by decide +kernel
set_option maxRecDepth 100000 in
set_option maxHeartbeats 4000000 in
theorem ctX4_within (l : Launch) (g : GG) (M : MM) (v1 : Int32) (v2 : Int32) (Q : Int32 → MM → Prop) (hF : full g) (hw : wX4_within Q M v1 v2) : MI g l yX4_within wsX4_within (rmOf 5 120) [.ref (gA g 0), .int v1, .int v2] M Q := by
  refine mk_MI (cc := cX4_within) (maxL := 3) (by decide) rfl (Nat.le_of_ble_eq_true rfl) ?_
  intro z Qf hC hR
  show XX z g Qf 3 0 [(0, .ref (gA g 0)), (1, .int v1), (2, .int v2)] [] M
  refine q_iload_n hC dX4_within_0 1 rfl 1 rfl ?_
  refine q_iconst (v := 0) hC dX4_within_1 rfl 2 rfl ?_
  refine q_ldc (v := 999999) hC (List.mem_of_getElem? (i := 1) (by decide +kernel)) dX4_within_2 4 rfl ?_
  refine r_callI hC (go_T (As := [.int v1, .int 0, .int 999999]) (rest := []) hC (ctX4_isBetween (zl z) g M v1 0 999999 _ hw) 3 gX4_within_X4_isBetween rfl ⟨rfl, rfl⟩ (by decide +kernel) ⟨Nat.le_of_ble_eq_true rfl, Nat.le_of_ble_eq_true rfl⟩ rfl rfl (Nat.le_of_ble_eq_true rfl) dX4_within_4) 7 rfl (fun r1 M2 hw => ?_)
  refine q_if_ne hC 12 dX4_within_7 (by decide) 10 rfl hw (fun hw => ?_) (fun hw => ?_)
  · refine q_aload_n hC dX4_within_12 0 rfl 13 rfl ?_
    refine q_getR (C := RX4) (T := TX4) (N := 12) (ci := 4) hC inX4_within_X4 (hF.ob 0 (by decide) (fun _ => rfl)) rfl 0 (by decide) (List.mem_of_getElem? (i := 2) (by decide +kernel)) rfl 1 (fun _ => rfl) dX4_within_13 16 rfl ?_
    refine q_getI (C := RX2) (T := TX2) (N := 14) (ci := 2) hC inX4_within_X2 (hF.tp (b := 1) (Or.inl rfl)).ob rfl 9 (by decide) (List.mem_of_getElem? (i := 3) (by decide +kernel)) rfl (fun _ => rfl) dX4_within_16 19 rfl ?_
    refine q_iload_n hC dX4_within_19 2 rfl 20 rfl ?_
    refine q_if_eq hC 43 dX4_within_20 (by decide) 23 rfl hw (fun hw => ?_) (fun hw => ?_)
    · refine q_aload_n hC dX4_within_43 0 rfl 44 rfl ?_
      refine q_getR (C := RX4) (T := TX4) (N := 12) (ci := 4) hC inX4_within_X4 (hF.ob 0 (by decide) (fun _ => rfl)) rfl 0 (by decide) (List.mem_of_getElem? (i := 2) (by decide +kernel)) rfl 1 (fun _ => rfl) dX4_within_44 47 rfl ?_
      refine q_iload_n hC dX4_within_47 1 rfl 48 rfl ?_
      refine q_aload_n hC dX4_within_48 0 rfl 49 rfl ?_
      refine q_getR (C := RX4) (T := TX4) (N := 12) (ci := 4) hC inX4_within_X4 (hF.ob 0 (by decide) (fun _ => rfl)) rfl 0 (by decide) (List.mem_of_getElem? (i := 2) (by decide +kernel)) rfl 1 (fun _ => rfl) dX4_within_49 52 rfl ?_
      refine q_iconst (v := 0) hC dX4_within_52 rfl 53 rfl ?_
      refine r_callI hC (go_V (q := (RX2, TX2, 14)) (As := [.int 0]) (rest := [.int v1, .ref (gA g 1), .int (M2 1 9)]) hC (ctX2_ruled (zl z) g M2 1 0 _ (hF.tp (b := 1) (Or.inl rfl)) hw) 1 gX4_within_X2_ruled rfl ⟨rfl, rfl⟩ (by decide +kernel) ⟨Nat.le_of_ble_eq_true rfl, Nat.le_of_ble_eq_true rfl⟩ (hF.tp (b := 1) (Or.inl rfl)).ob rfl rfl rfl (Nat.le_of_ble_eq_true rfl) dX4_within_53) 56 rfl (fun r3 M4 hw => ?_)
      refine q_aload_n hC dX4_within_56 0 rfl 57 rfl ?_
      refine q_getR (C := RX4) (T := TX4) (N := 12) (ci := 4) hC inX4_within_X4 (hF.ob 0 (by decide) (fun _ => rfl)) rfl 0 (by decide) (List.mem_of_getElem? (i := 2) (by decide +kernel)) rfl 1 (fun _ => rfl) dX4_within_57 60 rfl ?_
      refine q_getI (C := RX2) (T := TX2) (N := 14) (ci := 2) hC inX4_within_X2 (hF.tp (b := 1) (Or.inl rfl)).ob rfl 9 (by decide) (List.mem_of_getElem? (i := 3) (by decide +kernel)) rfl (fun _ => rfl) dX4_within_60 63 rfl ?_
      refine q_isub hC dX4_within_63 64 rfl ?_
      refine q_iconst (v := 1) hC dX4_within_64 rfl 65 rfl ?_
      refine r_callI hC (go_V (q := (RX2, TX2, 14)) (As := [.int v1, .int (r3 - (M4 1 9)), .int 1]) (rest := [.int (M2 1 9)]) hC (ctX2_reach (zl z) g M4 1 v1 (r3 - (M4 1 9)) 1 _ (hF.tp (b := 1) (Or.inl rfl)) hw) 3 gX4_within_X2_reach rfl ⟨rfl, rfl⟩ (by decide +kernel) ⟨Nat.le_of_ble_eq_true rfl, Nat.le_of_ble_eq_true rfl⟩ (hF.tp (b := 1) (Or.inl rfl)).ob rfl rfl rfl (Nat.le_of_ble_eq_true rfl) dX4_within_65) 68 rfl (fun r5 M6 hw => ?_)
      refine q_iadd hC dX4_within_68 69 rfl ?_
      exact r_iret hR dX4_within_69 hw
    · refine q_aload_n hC dX4_within_23 0 rfl 24 rfl ?_
      refine q_getR (C := RX4) (T := TX4) (N := 12) (ci := 4) hC inX4_within_X4 (hF.ob 0 (by decide) (fun _ => rfl)) rfl 0 (by decide) (List.mem_of_getElem? (i := 2) (by decide +kernel)) rfl 1 (fun _ => rfl) dX4_within_24 27 rfl ?_
      refine q_iload_n hC dX4_within_27 1 rfl 28 rfl ?_
      refine q_aload_n hC dX4_within_28 0 rfl 29 rfl ?_
      refine q_getR (C := RX4) (T := TX4) (N := 12) (ci := 4) hC inX4_within_X4 (hF.ob 0 (by decide) (fun _ => rfl)) rfl 0 (by decide) (List.mem_of_getElem? (i := 2) (by decide +kernel)) rfl 1 (fun _ => rfl) dX4_within_29 32 rfl ?_
      refine q_getI (C := RX2) (T := TX2) (N := 14) (ci := 2) hC inX4_within_X2 (hF.tp (b := 1) (Or.inl rfl)).ob rfl 9 (by decide) (List.mem_of_getElem? (i := 3) (by decide +kernel)) rfl (fun _ => rfl) dX4_within_32 35 rfl ?_
      refine q_iconst (v := (-1)) hC dX4_within_35 rfl 36 rfl ?_
      refine r_callI hC (go_V (q := (RX2, TX2, 14)) (As := [.int v1, .int (M2 1 9), .int (-1)]) (rest := [.int (M2 1 9)]) hC (ctX2_reach (zl z) g M2 1 v1 (M2 1 9) (-1) _ (hF.tp (b := 1) (Or.inl rfl)) hw) 3 gX4_within_X2_reach rfl ⟨rfl, rfl⟩ (by decide +kernel) ⟨Nat.le_of_ble_eq_true rfl, Nat.le_of_ble_eq_true rfl⟩ (hF.tp (b := 1) (Or.inl rfl)).ob rfl rfl rfl (Nat.le_of_ble_eq_true rfl) dX4_within_36) 39 rfl (fun r7 M8 hw => ?_)
      refine q_ineg hC dX4_within_39 40 rfl ?_
      refine q_goto hC 68 dX4_within_40 (by decide) ?_
      refine q_iadd hC dX4_within_68 69 rfl ?_
      exact r_iret hR dX4_within_69 hw
  · refine q_iconst (v := (-1)) hC dX4_within_10 rfl 11 rfl ?_
    exact r_iret hR dX4_within_11 hw
set_option maxRecDepth 20000 in
theorem inX4_block_X4 : ∀ w ∈ u_ws RX4 TX4 12, w ∈ wsX4_block := by decide +kernel
set_option maxRecDepth 100000 in
set_option maxHeartbeats 4000000 in
theorem ctX4_block (l : Launch) (g : GG) (M : MM) (v1 : Int32) (v2 : Int32) (Q : Int32 → MM → Prop) (hF : full g) (hw : wX4_block Q M v1 v2) : MI g l yX4_block wsX4_block (rmOf 3 64) [.ref (gA g 0), .int v1, .int v2] M Q := by
  refine mk_MI (cc := cX4_block) (maxL := 3) (by decide) rfl (Nat.le_of_ble_eq_true rfl) ?_
  intro z Qf hC hR
  show XX z g Qf 3 0 [(0, .ref (gA g 0)), (1, .int v1), (2, .int v2)] [] M
  refine q_aload_n hC dX4_block_0 0 rfl 1 rfl ?_
  refine q_getR (C := RX4) (T := TX4) (N := 12) (ci := 4) hC inX4_block_X4 (hF.ob 0 (by decide) (fun _ => rfl)) rfl 0 (by decide) (List.mem_of_getElem? (i := 1) (by decide +kernel)) rfl 1 (fun _ => rfl) dX4_block_1 4 rfl ?_
  refine q_iload_n hC dX4_block_4 1 rfl 5 rfl ?_
  refine r_callI hC (go_V (q := (RX2, TX2, 14)) (As := [.int v1]) (rest := []) hC (ctX2_hasBlock (zl z) g M 1 v1 _ (hF.tp (b := 1) (Or.inl rfl)) hw) 1 gX4_block_X2_hasBlock rfl ⟨rfl, rfl⟩ (by decide +kernel) ⟨Nat.le_of_ble_eq_true rfl, Nat.le_of_ble_eq_true rfl⟩ (hF.tp (b := 1) (Or.inl rfl)).ob rfl rfl rfl (Nat.le_of_ble_eq_true rfl) dX4_block_5) 8 rfl (fun r1 M2 hw => ?_)
  refine q_if_ne hC 13 dX4_block_8 (by decide) 11 rfl hw (fun hw => ?_) (fun hw => ?_)
  · refine q_iload_n hC dX4_block_13 2 rfl 14 rfl ?_
    by_cases c0 : v2 = 0
    · have hw := hw.1 c0
      refine q_tabIn hC 48 dX4_block_14 (by rw [c0]; decide) (by rw [c0]; decide) (by rw [c0]; rfl) (by decide) ?_
      refine q_aload_n hC dX4_block_48 0 rfl 49 rfl ?_
      refine q_getR (C := RX4) (T := TX4) (N := 12) (ci := 4) hC inX4_block_X4 (hF.ob 0 (by decide) (fun _ => rfl)) rfl 0 (by decide) (List.mem_of_getElem? (i := 1) (by decide +kernel)) rfl 1 (fun _ => rfl) dX4_block_49 52 rfl ?_
      refine q_iload_n hC dX4_block_52 1 rfl 53 rfl ?_
      refine r_callI hC (go_V (q := (RX2, TX2, 14)) (As := [.int v1]) (rest := []) hC (ctX2_beginOf (zl z) g M2 1 v1 _ (hF.tp (b := 1) (Or.inl rfl)) hw) 1 gX4_block_X2_beginOf rfl ⟨rfl, rfl⟩ (by decide +kernel) ⟨Nat.le_of_ble_eq_true rfl, Nat.le_of_ble_eq_true rfl⟩ (hF.tp (b := 1) (Or.inl rfl)).ob rfl rfl rfl (Nat.le_of_ble_eq_true rfl) dX4_block_53) 56 rfl (fun r3 M4 hw => ?_)
      exact r_iret hR dX4_block_56 hw
    · have hw := hw.2 c0
      by_cases c1 : v2 = 1
      · have hw := hw.1 c1
        refine q_tabIn hC 57 dX4_block_14 (by rw [c1]; decide) (by rw [c1]; decide) (by rw [c1]; rfl) (by decide) ?_
        refine q_aload_n hC dX4_block_57 0 rfl 58 rfl ?_
        refine q_getR (C := RX4) (T := TX4) (N := 12) (ci := 4) hC inX4_block_X4 (hF.ob 0 (by decide) (fun _ => rfl)) rfl 0 (by decide) (List.mem_of_getElem? (i := 1) (by decide +kernel)) rfl 1 (fun _ => rfl) dX4_block_58 61 rfl ?_
        refine q_iload_n hC dX4_block_61 1 rfl 62 rfl ?_
        refine r_callI hC (go_V (q := (RX2, TX2, 14)) (As := [.int v1]) (rest := []) hC (ctX2_longOf (zl z) g M2 1 v1 _ (hF.tp (b := 1) (Or.inl rfl)) hw) 1 gX4_block_X2_longOf rfl ⟨rfl, rfl⟩ (by decide +kernel) ⟨Nat.le_of_ble_eq_true rfl, Nat.le_of_ble_eq_true rfl⟩ (hF.tp (b := 1) (Or.inl rfl)).ob rfl rfl rfl (Nat.le_of_ble_eq_true rfl) dX4_block_62) 65 rfl (fun r5 M6 hw => ?_)
        exact r_iret hR dX4_block_65 hw
      · have hw := hw.2 c1
        by_cases c2 : v2 = 2
        · have hw := hw.1 c2
          refine q_tabIn hC 66 dX4_block_14 (by rw [c2]; decide) (by rw [c2]; decide) (by rw [c2]; rfl) (by decide) ?_
          refine q_aload_n hC dX4_block_66 0 rfl 67 rfl ?_
          refine q_getR (C := RX4) (T := TX4) (N := 12) (ci := 4) hC inX4_block_X4 (hF.ob 0 (by decide) (fun _ => rfl)) rfl 0 (by decide) (List.mem_of_getElem? (i := 1) (by decide +kernel)) rfl 1 (fun _ => rfl) dX4_block_67 70 rfl ?_
          refine q_iload_n hC dX4_block_70 1 rfl 71 rfl ?_
          refine r_callI hC (go_V (q := (RX2, TX2, 14)) (As := [.int v1]) (rest := []) hC (ctX2_sizeOf (zl z) g M2 1 v1 _ (hF.tp (b := 1) (Or.inl rfl)) hw) 1 gX4_block_X2_sizeOf rfl ⟨rfl, rfl⟩ (by decide +kernel) ⟨Nat.le_of_ble_eq_true rfl, Nat.le_of_ble_eq_true rfl⟩ (hF.tp (b := 1) (Or.inl rfl)).ob rfl rfl rfl (Nat.le_of_ble_eq_true rfl) dX4_block_71) 74 rfl (fun r7 M8 hw => ?_)
          exact r_iret hR dX4_block_74 hw
        · have hw := hw.2 c2
          by_cases c3 : v2 = 3
          · have hw := hw.1 c3
            refine q_tabIn hC 75 dX4_block_14 (by rw [c3]; decide) (by rw [c3]; decide) (by rw [c3]; rfl) (by decide) ?_
            refine q_aload_n hC dX4_block_75 0 rfl 76 rfl ?_
            refine q_getR (C := RX4) (T := TX4) (N := 12) (ci := 4) hC inX4_block_X4 (hF.ob 0 (by decide) (fun _ => rfl)) rfl 0 (by decide) (List.mem_of_getElem? (i := 1) (by decide +kernel)) rfl 1 (fun _ => rfl) dX4_block_76 79 rfl ?_
            refine q_iload_n hC dX4_block_79 1 rfl 80 rfl ?_
            refine r_callI hC (go_V (q := (RX2, TX2, 14)) (As := [.int v1]) (rest := []) hC (ctX2_isMark (zl z) g M2 1 v1 _ (hF.tp (b := 1) (Or.inl rfl)) hw) 1 gX4_block_X2_isMark rfl ⟨rfl, rfl⟩ (by decide +kernel) ⟨Nat.le_of_ble_eq_true rfl, Nat.le_of_ble_eq_true rfl⟩ (hF.tp (b := 1) (Or.inl rfl)).ob rfl rfl rfl (Nat.le_of_ble_eq_true rfl) dX4_block_80) 83 rfl (fun r9 M10 hw => ?_)
            refine q_if_eq hC 90 dX4_block_83 (by decide) 86 rfl hw (fun hw => ?_) (fun hw => ?_)
            · refine q_aload_n hC dX4_block_90 0 rfl 91 rfl ?_
              refine q_getR (C := RX4) (T := TX4) (N := 12) (ci := 4) hC inX4_block_X4 (hF.ob 0 (by decide) (fun _ => rfl)) rfl 0 (by decide) (List.mem_of_getElem? (i := 1) (by decide +kernel)) rfl 1 (fun _ => rfl) dX4_block_91 94 rfl ?_
              refine q_iload_n hC dX4_block_94 1 rfl 95 rfl ?_
              refine q_aload_n hC dX4_block_95 0 rfl 96 rfl ?_
              refine q_getR (C := RX4) (T := TX4) (N := 12) (ci := 4) hC inX4_block_X4 (hF.ob 0 (by decide) (fun _ => rfl)) rfl 0 (by decide) (List.mem_of_getElem? (i := 1) (by decide +kernel)) rfl 1 (fun _ => rfl) dX4_block_96 99 rfl ?_
              refine q_iload_n hC dX4_block_99 1 rfl 100 rfl ?_
              refine r_callI hC (go_V (q := (RX2, TX2, 14)) (As := [.int v1]) (rest := [.int v1, .ref (gA g 1)]) hC (ctX2_sizeOf (zl z) g M10 1 v1 _ (hF.tp (b := 1) (Or.inl rfl)) hw) 1 gX4_block_X2_sizeOf rfl ⟨rfl, rfl⟩ (by decide +kernel) ⟨Nat.le_of_ble_eq_true rfl, Nat.le_of_ble_eq_true rfl⟩ (hF.tp (b := 1) (Or.inl rfl)).ob rfl rfl rfl (Nat.le_of_ble_eq_true rfl) dX4_block_100) 103 rfl (fun r11 M12 hw => ?_)
              refine r_callI hC (go_V (q := (RX2, TX2, 14)) (As := [.int v1, .int r11]) (rest := []) hC (ctX2_columnOf (zl z) g M12 1 v1 r11 _ (hF.tp (b := 1) (Or.inl rfl)) hw) 2 gX4_block_X2_columnOf rfl ⟨rfl, rfl⟩ (by decide +kernel) ⟨Nat.le_of_ble_eq_true rfl, Nat.le_of_ble_eq_true rfl⟩ (hF.tp (b := 1) (Or.inl rfl)).ob rfl rfl rfl (Nat.le_of_ble_eq_true rfl) dX4_block_103) 106 rfl (fun r13 M14 hw => ?_)
              exact r_iret hR dX4_block_106 hw
            · refine q_iconst (v := 0) hC dX4_block_86 rfl 87 rfl ?_
              refine q_goto hC 106 dX4_block_87 (by decide) ?_
              exact r_iret hR dX4_block_106 hw
          · have hw := hw.2 c3
            by_cases c4 : v2 = 4
            · have hw := hw.1 c4
              refine q_tabIn hC 107 dX4_block_14 (by rw [c4]; decide) (by rw [c4]; decide) (by rw [c4]; rfl) (by decide) ?_
              refine q_aload_n hC dX4_block_107 0 rfl 108 rfl ?_
              refine q_getR (C := RX4) (T := TX4) (N := 12) (ci := 4) hC inX4_block_X4 (hF.ob 0 (by decide) (fun _ => rfl)) rfl 0 (by decide) (List.mem_of_getElem? (i := 1) (by decide +kernel)) rfl 1 (fun _ => rfl) dX4_block_108 111 rfl ?_
              refine q_iload_n hC dX4_block_111 1 rfl 112 rfl ?_
              refine r_callI hC (go_V (q := (RX2, TX2, 14)) (As := [.int v1]) (rest := []) hC (ctX2_endOf (zl z) g M2 1 v1 _ (hF.tp (b := 1) (Or.inl rfl)) hw) 1 gX4_block_X2_endOf rfl ⟨rfl, rfl⟩ (by decide +kernel) ⟨Nat.le_of_ble_eq_true rfl, Nat.le_of_ble_eq_true rfl⟩ (hF.tp (b := 1) (Or.inl rfl)).ob rfl rfl rfl (Nat.le_of_ble_eq_true rfl) dX4_block_112) 115 rfl (fun r15 M16 hw => ?_)
              exact r_iret hR dX4_block_115 hw
            · have hw := hw.2 c4
              refine q_tabOut hC 116 dX4_block_14 (tab_out4 c0 c1 c2 c3 c4) (by decide) ?_
              refine q_iconst (v := (-1)) hC dX4_block_116 rfl 117 rfl ?_
              exact r_iret hR dX4_block_117 hw
  · refine q_iconst (v := (-1)) hC dX4_block_11 rfl 12 rfl ?_
    exact r_iret hR dX4_block_12 hw
set_option maxRecDepth 20000 in
theorem inX4_blockAt_X4 : ∀ w ∈ u_ws RX4 TX4 12, w ∈ wsX4_blockAt := by decide +kernel
set_option maxRecDepth 100000 in
set_option maxHeartbeats 4000000 in
theorem ctX4_blockAt (l : Launch) (g : GG) (M : MM) (v1 : Int32) (Q : Int32 → MM → Prop) (hF : full g) (hw : wX4_blockAt Q M v1) : MI g l yX4_blockAt wsX4_blockAt (rmOf 4 86) [.ref (gA g 0), .int v1] M Q := by
  refine mk_MI (cc := cX4_blockAt) (maxL := 2) (by decide) rfl (Nat.le_of_ble_eq_true rfl) ?_
  intro z Qf hC hR
  show XX z g Qf 2 0 [(0, .ref (gA g 0)), (1, .int v1)] [] M
  refine q_aload_n hC dX4_blockAt_0 0 rfl 1 rfl ?_
  refine q_getR (C := RX4) (T := TX4) (N := 12) (ci := 4) hC inX4_blockAt_X4 (hF.ob 0 (by decide) (fun _ => rfl)) rfl 0 (by decide) (List.mem_of_getElem? (i := 1) (by decide +kernel)) rfl 1 (fun _ => rfl) dX4_blockAt_1 4 rfl ?_
  refine q_iload_n hC dX4_blockAt_4 1 rfl 5 rfl ?_
  refine r_callI hC (go_V (q := (RX2, TX2, 14)) (As := [.int v1]) (rest := []) hC (ctX2_hasPlace (zl z) g M 1 v1 _ (hF.tp (b := 1) (Or.inl rfl)) hw) 1 gX4_blockAt_X2_hasPlace rfl ⟨rfl, rfl⟩ (by decide +kernel) ⟨Nat.le_of_ble_eq_true rfl, Nat.le_of_ble_eq_true rfl⟩ (hF.tp (b := 1) (Or.inl rfl)).ob rfl rfl rfl (Nat.le_of_ble_eq_true rfl) dX4_blockAt_5) 8 rfl (fun r1 M2 hw => ?_)
  refine q_if_eq hC 22 dX4_blockAt_8 (by decide) 11 rfl hw (fun hw => ?_) (fun hw => ?_)
  · refine q_iconst (v := (-1)) hC dX4_blockAt_22 rfl 23 rfl ?_
    exact r_iret hR dX4_blockAt_23 hw
  · refine q_aload_n hC dX4_blockAt_11 0 rfl 12 rfl ?_
    refine q_getR (C := RX4) (T := TX4) (N := 12) (ci := 4) hC inX4_blockAt_X4 (hF.ob 0 (by decide) (fun _ => rfl)) rfl 0 (by decide) (List.mem_of_getElem? (i := 1) (by decide +kernel)) rfl 1 (fun _ => rfl) dX4_blockAt_12 15 rfl ?_
    refine q_iload_n hC dX4_blockAt_15 1 rfl 16 rfl ?_
    refine r_callI hC (go_V (q := (RX2, TX2, 14)) (As := [.int v1]) (rest := []) hC (ctX2_blockWith (zl z) g M2 1 v1 _ (hF.tp (b := 1) (Or.inl rfl)) hw) 1 gX4_blockAt_X2_blockWith rfl ⟨rfl, rfl⟩ (by decide +kernel) ⟨Nat.le_of_ble_eq_true rfl, Nat.le_of_ble_eq_true rfl⟩ (hF.tp (b := 1) (Or.inl rfl)).ob rfl rfl rfl (Nat.le_of_ble_eq_true rfl) dX4_blockAt_16) 19 rfl (fun r3 M4 hw => ?_)
    refine q_goto hC 23 dX4_blockAt_19 (by decide) ?_
    exact r_iret hR dX4_blockAt_23 hw
set_option maxRecDepth 20000 in
theorem inX4_type_X2 : ∀ w ∈ u_ws RX2 TX2 14, w ∈ wsX4_type := by decide +kernel
set_option maxRecDepth 20000 in
theorem inX4_type_X4 : ∀ w ∈ u_ws RX4 TX4 12, w ∈ wsX4_type := by decide +kernel
set_option maxRecDepth 100000 in
set_option maxHeartbeats 4000000 in
theorem ctX4_type (l : Launch) (g : GG) (M : MM) (v1 : Int32) (Q : Int32 → MM → Prop) (hF : full g) (hw : wX4_type Q M v1) : MI g l yX4_type wsX4_type (rmOf 2 43) [.ref (gA g 0), .int v1] M Q := by
  refine mk_MI (cc := cX4_type) (maxL := 2) (by decide) rfl (Nat.le_of_ble_eq_true rfl) ?_
  intro z Qf hC hR
  show XX z g Qf 2 0 [(0, .ref (gA g 0)), (1, .int v1)] [] M
  refine q_iload_n hC dX4_type_0 1 rfl 1 rfl ?_
  refine q_iconst (v := 0) hC dX4_type_1 rfl 2 rfl ?_
  refine q_sipush (v := 255) hC dX4_type_2 (by decide) 5 rfl ?_
  refine r_callI hC (go_T (As := [.int v1, .int 0, .int 255]) (rest := []) hC (ctX4_isBetween (zl z) g M v1 0 255 _ hw) 3 gX4_type_X4_isBetween rfl ⟨rfl, rfl⟩ (by decide +kernel) ⟨Nat.le_of_ble_eq_true rfl, Nat.le_of_ble_eq_true rfl⟩ rfl rfl (Nat.le_of_ble_eq_true rfl) dX4_type_5) 8 rfl (fun r1 M2 hw => ?_)
  refine q_if_ne hC 13 dX4_type_8 (by decide) 11 rfl hw (fun hw => ?_) (fun hw => ?_)
  · refine q_aload_n hC dX4_type_13 0 rfl 14 rfl ?_
    refine q_getR (C := RX4) (T := TX4) (N := 12) (ci := 4) hC inX4_type_X4 (hF.ob 0 (by decide) (fun _ => rfl)) rfl 0 (by decide) (List.mem_of_getElem? (i := 1) (by decide +kernel)) rfl 1 (fun _ => rfl) dX4_type_14 17 rfl ?_
    refine q_getI (C := RX2) (T := TX2) (N := 14) (ci := 2) hC inX4_type_X2 (hF.tp (b := 1) (Or.inl rfl)).ob rfl 11 (by decide) (List.mem_of_getElem? (i := 2) (by decide +kernel)) rfl (fun _ => rfl) dX4_type_17 20 rfl ?_
    refine q_bipush (v := 12) hC dX4_type_20 (by decide) 22 rfl ?_
    refine q_icmp_lt hC 28 dX4_type_22 (by decide) 25 rfl hw (fun hw => ?_) (fun hw => ?_)
    · refine q_aload_n hC dX4_type_28 0 rfl 29 rfl ?_
      refine q_getR (C := RX4) (T := TX4) (N := 12) (ci := 4) hC inX4_type_X4 (hF.ob 0 (by decide) (fun _ => rfl)) rfl 0 (by decide) (List.mem_of_getElem? (i := 1) (by decide +kernel)) rfl 1 (fun _ => rfl) dX4_type_29 32 rfl ?_
      refine q_iload_n hC dX4_type_32 1 rfl 33 rfl ?_
      refine r_callI hC (go_V (q := (RX2, TX2, 14)) (As := [.int v1]) (rest := []) hC (ctX2_typeOne (zl z) g M2 1 v1 _ (hF.tp (b := 1) (Or.inl rfl)) hw) 1 gX4_type_X2_typeOne rfl ⟨rfl, rfl⟩ (by decide +kernel) ⟨Nat.le_of_ble_eq_true rfl, Nat.le_of_ble_eq_true rfl⟩ (hF.tp (b := 1) (Or.inl rfl)).ob rfl rfl rfl (Nat.le_of_ble_eq_true rfl) dX4_type_33) 36 rfl (fun r3 M4 hw => ?_)
      exact r_iret hR dX4_type_36 hw
    · refine q_bipush (v := (-3)) hC dX4_type_25 (by decide) 27 rfl ?_
      exact r_iret hR dX4_type_27 hw
  · refine q_iconst (v := (-1)) hC dX4_type_11 rfl 12 rfl ?_
    exact r_iret hR dX4_type_12 hw
set_option maxRecDepth 20000 in
theorem inX4_write_X2 : ∀ w ∈ u_ws RX2 TX2 14, w ∈ wsX4_write := by decide +kernel
set_option maxRecDepth 20000 in
theorem inX4_write_X4 : ∀ w ∈ u_ws RX4 TX4 12, w ∈ wsX4_write := by decide +kernel
set_option maxRecDepth 100000 in
set_option maxHeartbeats 4000000 in
theorem ctX4_write (l : Launch) (g : GG) (M : MM) (v1 : Int32) (Q : Int32 → MM → Prop) (hF : full g) (hw : wX4_write Q M v1) : MI g l yX4_write wsX4_write (rmOf 5 117) [.ref (gA g 0), .int v1] M Q := by
  refine mk_MI (cc := cX4_write) (maxL := 3) (by decide) rfl (Nat.le_of_ble_eq_true rfl) ?_
  intro z Qf hC hR
  show XX z g Qf 3 0 [(0, .ref (gA g 0)), (1, .int v1)] [] M
  refine q_iload_n hC dX4_write_0 1 rfl 1 rfl ?_
  refine q_iconst (v := 0) hC dX4_write_1 rfl 2 rfl ?_
  refine q_aload_n hC dX4_write_2 0 rfl 3 rfl ?_
  refine q_getR (C := RX4) (T := TX4) (N := 12) (ci := 4) hC inX4_write_X4 (hF.ob 0 (by decide) (fun _ => rfl)) rfl 0 (by decide) (List.mem_of_getElem? (i := 1) (by decide +kernel)) rfl 1 (fun _ => rfl) dX4_write_3 6 rfl ?_
  refine q_getI (C := RX2) (T := TX2) (N := 14) (ci := 2) hC inX4_write_X2 (hF.tp (b := 1) (Or.inl rfl)).ob rfl 8 (by decide) (List.mem_of_getElem? (i := 2) (by decide +kernel)) rfl (fun _ => rfl) dX4_write_6 9 rfl ?_
  refine r_callI hC (go_T (As := [.int v1, .int 0, .int (M 1 8)]) (rest := []) hC (ctX4_isBetween (zl z) g M v1 0 (M 1 8) _ hw) 3 gX4_write_X4_isBetween rfl ⟨rfl, rfl⟩ (by decide +kernel) ⟨Nat.le_of_ble_eq_true rfl, Nat.le_of_ble_eq_true rfl⟩ rfl rfl (Nat.le_of_ble_eq_true rfl) dX4_write_9) 12 rfl (fun r1 M2 hw => ?_)
  refine q_if_ne hC 17 dX4_write_12 (by decide) 15 rfl hw (fun hw => ?_) (fun hw => ?_)
  · refine q_aload_n hC dX4_write_17 0 rfl 18 rfl ?_
    refine q_getR (C := RX4) (T := TX4) (N := 12) (ci := 4) hC inX4_write_X4 (hF.ob 0 (by decide) (fun _ => rfl)) rfl 0 (by decide) (List.mem_of_getElem? (i := 1) (by decide +kernel)) rfl 1 (fun _ => rfl) dX4_write_18 21 rfl ?_
    refine q_getI (C := RX2) (T := TX2) (N := 14) (ci := 2) hC inX4_write_X2 (hF.tp (b := 1) (Or.inl rfl)).ob rfl 11 (by decide) (List.mem_of_getElem? (i := 3) (by decide +kernel)) rfl (fun _ => rfl) dX4_write_21 24 rfl ?_
    refine q_if_ne hC 30 dX4_write_24 (by decide) 27 rfl hw (fun hw => ?_) (fun hw => ?_)
    · refine q_aload_n hC dX4_write_30 0 rfl 31 rfl ?_
      refine q_getR (C := RX4) (T := TX4) (N := 12) (ci := 4) hC inX4_write_X4 (hF.ob 0 (by decide) (fun _ => rfl)) rfl 0 (by decide) (List.mem_of_getElem? (i := 1) (by decide +kernel)) rfl 1 (fun _ => rfl) dX4_write_31 34 rfl ?_
      refine q_iload_n hC dX4_write_34 1 rfl 35 rfl ?_
      refine q_aload_n hC dX4_write_35 0 rfl 36 rfl ?_
      refine q_getR (C := RX4) (T := TX4) (N := 12) (ci := 4) hC inX4_write_X4 (hF.ob 0 (by decide) (fun _ => rfl)) rfl 0 (by decide) (List.mem_of_getElem? (i := 1) (by decide +kernel)) rfl 1 (fun _ => rfl) dX4_write_36 39 rfl ?_
      refine q_getI (C := RX2) (T := TX2) (N := 14) (ci := 2) hC inX4_write_X2 (hF.tp (b := 1) (Or.inl rfl)).ob rfl 11 (by decide) (List.mem_of_getElem? (i := 3) (by decide +kernel)) rfl (fun _ => rfl) dX4_write_39 42 rfl ?_
      refine r_callI hC (go_V (q := (RX2, TX2, 14)) (As := [.int v1, .int (M2 1 11)]) (rest := []) hC (ctX2_hasRoomAt (zl z) g M2 1 v1 (M2 1 11) _ (hF.tp (b := 1) (Or.inl rfl)) hw) 2 gX4_write_X2_hasRoomAt rfl ⟨rfl, rfl⟩ (by decide +kernel) ⟨Nat.le_of_ble_eq_true rfl, Nat.le_of_ble_eq_true rfl⟩ (hF.tp (b := 1) (Or.inl rfl)).ob rfl rfl rfl (Nat.le_of_ble_eq_true rfl) dX4_write_42) 45 rfl (fun r3 M4 hw => ?_)
      refine q_if_ne hC 51 dX4_write_45 (by decide) 48 rfl hw (fun hw => ?_) (fun hw => ?_)
      · refine q_aload_n hC dX4_write_51 0 rfl 52 rfl ?_
        refine q_getR (C := RX4) (T := TX4) (N := 12) (ci := 4) hC inX4_write_X4 (hF.ob 0 (by decide) (fun _ => rfl)) rfl 0 (by decide) (List.mem_of_getElem? (i := 1) (by decide +kernel)) rfl 1 (fun _ => rfl) dX4_write_52 55 rfl ?_
        refine q_iload_n hC dX4_write_55 1 rfl 56 rfl ?_
        refine q_aload_n hC dX4_write_56 0 rfl 57 rfl ?_
        refine q_getR (C := RX4) (T := TX4) (N := 12) (ci := 4) hC inX4_write_X4 (hF.ob 0 (by decide) (fun _ => rfl)) rfl 0 (by decide) (List.mem_of_getElem? (i := 1) (by decide +kernel)) rfl 1 (fun _ => rfl) dX4_write_57 60 rfl ?_
        refine q_getI (C := RX2) (T := TX2) (N := 14) (ci := 2) hC inX4_write_X2 (hF.tp (b := 1) (Or.inl rfl)).ob rfl 11 (by decide) (List.mem_of_getElem? (i := 3) (by decide +kernel)) rfl (fun _ => rfl) dX4_write_60 63 rfl ?_
        refine r_callI hC (go_V (q := (RX2, TX2, 14)) (As := [.int v1, .int (M4 1 11)]) (rest := []) hC (ctX2_writeAt (zl z) g M4 1 v1 (M4 1 11) _ (hF.tp (b := 1) (Or.inl rfl)) hw) 2 gX4_write_X2_writeAt rfl ⟨rfl, rfl⟩ (by decide +kernel) ⟨Nat.le_of_ble_eq_true rfl, Nat.le_of_ble_eq_true rfl⟩ (hF.tp (b := 1) (Or.inl rfl)).ob rfl rfl rfl (Nat.le_of_ble_eq_true rfl) dX4_write_63) 66 rfl (fun r5 M6 hw => ?_)
        refine q_istore_n (L' := [(2, .int r5), (0, .ref (gA g 0)), (1, .int v1)]) hC dX4_write_66 (by decide) rfl 67 rfl ?_
        refine q_aload_n hC dX4_write_67 1 rfl 68 rfl ?_
        refine q_getR (C := RX4) (T := TX4) (N := 12) (ci := 4) hC inX4_write_X4 (hF.ob 0 (by decide) (fun _ => rfl)) rfl 0 (by decide) (List.mem_of_getElem? (i := 1) (by decide +kernel)) rfl 1 (fun _ => rfl) dX4_write_68 71 rfl ?_
        refine q_iconst (v := 0) hC dX4_write_71 rfl 72 rfl ?_
        refine q_putI (C := RX2) (T := TX2) (N := 14) (ci := 2) hC inX4_write_X2 tyX2 tyX2_ok nmX2 (hF.tp (b := 1) (Or.inl rfl)).ob rfl 11 (by decide) (List.mem_of_getElem? (i := 3) (by decide +kernel)) rfl rfl rfl (fun _ => Nat.le_of_ble_eq_true rfl) (fun _ => rfl) dX4_write_72 75 rfl (fun M7 eM7 => ?_)
        have hw := hw M7 eM7
        refine q_iload_n hC dX4_write_75 0 rfl 76 rfl ?_
        exact r_iret hR dX4_write_76 hw
      · refine q_bipush (v := (-3)) hC dX4_write_48 (by decide) 50 rfl ?_
        exact r_iret hR dX4_write_50 hw
    · refine q_bipush (v := (-2)) hC dX4_write_27 (by decide) 29 rfl ?_
      exact r_iret hR dX4_write_29 hw
  · refine q_iconst (v := (-1)) hC dX4_write_15 rfl 16 rfl ?_
    exact r_iret hR dX4_write_16 hw
set_option maxRecDepth 20000 in
theorem inX4_mark_X2 : ∀ w ∈ u_ws RX2 TX2 14, w ∈ wsX4_mark := by decide +kernel
set_option maxRecDepth 20000 in
theorem inX4_mark_X4 : ∀ w ∈ u_ws RX4 TX4 12, w ∈ wsX4_mark := by decide +kernel
set_option maxRecDepth 100000 in
set_option maxHeartbeats 4000000 in
theorem ctX4_mark (l : Launch) (g : GG) (M : MM) (v1 : Int32) (Q : Int32 → MM → Prop) (hF : full g) (hw : wX4_mark Q M v1) : MI g l yX4_mark wsX4_mark (rmOf 5 117) [.ref (gA g 0), .int v1] M Q := by
  refine mk_MI (cc := cX4_mark) (maxL := 2) (by decide) rfl (Nat.le_of_ble_eq_true rfl) ?_
  intro z Qf hC hR
  show XX z g Qf 2 0 [(0, .ref (gA g 0)), (1, .int v1)] [] M
  refine q_iload_n hC dX4_mark_0 1 rfl 1 rfl ?_
  refine q_iconst (v := 0) hC dX4_mark_1 rfl 2 rfl ?_
  refine q_aload_n hC dX4_mark_2 0 rfl 3 rfl ?_
  refine q_getR (C := RX4) (T := TX4) (N := 12) (ci := 4) hC inX4_mark_X4 (hF.ob 0 (by decide) (fun _ => rfl)) rfl 0 (by decide) (List.mem_of_getElem? (i := 1) (by decide +kernel)) rfl 1 (fun _ => rfl) dX4_mark_3 6 rfl ?_
  refine q_getI (C := RX2) (T := TX2) (N := 14) (ci := 2) hC inX4_mark_X2 (hF.tp (b := 1) (Or.inl rfl)).ob rfl 8 (by decide) (List.mem_of_getElem? (i := 2) (by decide +kernel)) rfl (fun _ => rfl) dX4_mark_6 9 rfl ?_
  refine r_callI hC (go_T (As := [.int v1, .int 0, .int (M 1 8)]) (rest := []) hC (ctX4_isBetween (zl z) g M v1 0 (M 1 8) _ hw) 3 gX4_mark_X4_isBetween rfl ⟨rfl, rfl⟩ (by decide +kernel) ⟨Nat.le_of_ble_eq_true rfl, Nat.le_of_ble_eq_true rfl⟩ rfl rfl (Nat.le_of_ble_eq_true rfl) dX4_mark_9) 12 rfl (fun r1 M2 hw => ?_)
  refine q_if_ne hC 17 dX4_mark_12 (by decide) 15 rfl hw (fun hw => ?_) (fun hw => ?_)
  · refine q_aload_n hC dX4_mark_17 0 rfl 18 rfl ?_
    refine q_getR (C := RX4) (T := TX4) (N := 12) (ci := 4) hC inX4_mark_X4 (hF.ob 0 (by decide) (fun _ => rfl)) rfl 0 (by decide) (List.mem_of_getElem? (i := 1) (by decide +kernel)) rfl 1 (fun _ => rfl) dX4_mark_18 21 rfl ?_
    refine q_iload_n hC dX4_mark_21 1 rfl 22 rfl ?_
    refine q_iconst (v := 0) hC dX4_mark_22 rfl 23 rfl ?_
    refine r_callI hC (go_V (q := (RX2, TX2, 14)) (As := [.int v1, .int 0]) (rest := []) hC (ctX2_hasRoomAt (zl z) g M2 1 v1 0 _ (hF.tp (b := 1) (Or.inl rfl)) hw) 2 gX4_mark_X2_hasRoomAt rfl ⟨rfl, rfl⟩ (by decide +kernel) ⟨Nat.le_of_ble_eq_true rfl, Nat.le_of_ble_eq_true rfl⟩ (hF.tp (b := 1) (Or.inl rfl)).ob rfl rfl rfl (Nat.le_of_ble_eq_true rfl) dX4_mark_23) 26 rfl (fun r3 M4 hw => ?_)
    refine q_if_ne hC 32 dX4_mark_26 (by decide) 29 rfl hw (fun hw => ?_) (fun hw => ?_)
    · refine q_aload_n hC dX4_mark_32 0 rfl 33 rfl ?_
      refine q_getR (C := RX4) (T := TX4) (N := 12) (ci := 4) hC inX4_mark_X4 (hF.ob 0 (by decide) (fun _ => rfl)) rfl 0 (by decide) (List.mem_of_getElem? (i := 1) (by decide +kernel)) rfl 1 (fun _ => rfl) dX4_mark_33 36 rfl ?_
      refine q_iload_n hC dX4_mark_36 1 rfl 37 rfl ?_
      refine q_iconst (v := 0) hC dX4_mark_37 rfl 38 rfl ?_
      refine r_callI hC (go_V (q := (RX2, TX2, 14)) (As := [.int v1, .int 0]) (rest := []) hC (ctX2_writeAt (zl z) g M4 1 v1 0 _ (hF.tp (b := 1) (Or.inl rfl)) hw) 2 gX4_mark_X2_writeAt rfl ⟨rfl, rfl⟩ (by decide +kernel) ⟨Nat.le_of_ble_eq_true rfl, Nat.le_of_ble_eq_true rfl⟩ (hF.tp (b := 1) (Or.inl rfl)).ob rfl rfl rfl (Nat.le_of_ble_eq_true rfl) dX4_mark_38) 41 rfl (fun r5 M6 hw => ?_)
      exact r_iret hR dX4_mark_41 hw
    · refine q_bipush (v := (-3)) hC dX4_mark_29 (by decide) 31 rfl ?_
      exact r_iret hR dX4_mark_31 hw
  · refine q_iconst (v := (-1)) hC dX4_mark_15 rfl 16 rfl ?_
    exact r_iret hR dX4_mark_16 hw
set_option maxRecDepth 20000 in
theorem inX4_spoil_X4 : ∀ w ∈ u_ws RX4 TX4 12, w ∈ wsX4_spoil := by decide +kernel
set_option maxRecDepth 100000 in
set_option maxHeartbeats 4000000 in
theorem ctX4_spoil (l : Launch) (g : GG) (M : MM) (v1 : Int32) (v2 : Int32) (v3 : Int32) (Q : Int32 → MM → Prop) (hF : full g) (hw : wX4_spoil Q M v1 v2 v3) : MI g l yX4_spoil wsX4_spoil (rmOf 4 85) [.ref (gA g 0), .int v1, .int v2, .int v3] M Q := by
  refine mk_MI (cc := cX4_spoil) (maxL := 4) (by decide) rfl (Nat.le_of_ble_eq_true rfl) ?_
  intro z Qf hC hR
  show XX z g Qf 4 0 [(0, .ref (gA g 0)), (1, .int v1), (2, .int v2), (3, .int v3)] [] M
  refine q_aload_n hC dX4_spoil_0 0 rfl 1 rfl ?_
  refine q_getR (C := RX4) (T := TX4) (N := 12) (ci := 4) hC inX4_spoil_X4 (hF.ob 0 (by decide) (fun _ => rfl)) rfl 0 (by decide) (List.mem_of_getElem? (i := 1) (by decide +kernel)) rfl 1 (fun _ => rfl) dX4_spoil_1 4 rfl ?_
  refine q_iload_n hC dX4_spoil_4 1 rfl 5 rfl ?_
  refine q_iload_n hC dX4_spoil_5 2 rfl 6 rfl ?_
  refine r_callI hC (go_V (q := (RX2, TX2, 14)) (As := [.int v1, .int v2]) (rest := []) hC (ctX2_hasColumn (zl z) g M 1 v1 v2 _ (hF.tp (b := 1) (Or.inl rfl)) hw) 2 gX4_spoil_X2_hasColumn rfl ⟨rfl, rfl⟩ (by decide +kernel) ⟨Nat.le_of_ble_eq_true rfl, Nat.le_of_ble_eq_true rfl⟩ (hF.tp (b := 1) (Or.inl rfl)).ob rfl rfl rfl (Nat.le_of_ble_eq_true rfl) dX4_spoil_6) 9 rfl (fun r1 M2 hw => ?_)
  refine q_if_eq hC 22 dX4_spoil_9 (by decide) 12 rfl hw (fun hw => ?_) (fun hw => ?_)
  · refine q_iconst (v := (-1)) hC dX4_spoil_22 rfl 23 rfl ?_
    exact r_iret hR dX4_spoil_23 hw
  · refine q_iload_n hC dX4_spoil_12 3 rfl 13 rfl ?_
    refine q_iconst (v := 0) hC dX4_spoil_13 rfl 14 rfl ?_
    refine q_bipush (v := 8) hC dX4_spoil_14 (by decide) 16 rfl ?_
    refine r_callI hC (go_T (As := [.int v3, .int 0, .int 8]) (rest := []) hC (ctX4_isBetween (zl z) g M2 v3 0 8 _ hw) 3 gX4_spoil_X4_isBetween rfl ⟨rfl, rfl⟩ (by decide +kernel) ⟨Nat.le_of_ble_eq_true rfl, Nat.le_of_ble_eq_true rfl⟩ rfl rfl (Nat.le_of_ble_eq_true rfl) dX4_spoil_16) 19 rfl (fun r3 M4 hw => ?_)
    refine q_if_ne hC 24 dX4_spoil_19 (by decide) 22 rfl hw (fun hw => ?_) (fun hw => ?_)
    · refine q_aload_n hC dX4_spoil_24 0 rfl 25 rfl ?_
      refine q_getR (C := RX4) (T := TX4) (N := 12) (ci := 4) hC inX4_spoil_X4 (hF.ob 0 (by decide) (fun _ => rfl)) rfl 0 (by decide) (List.mem_of_getElem? (i := 1) (by decide +kernel)) rfl 1 (fun _ => rfl) dX4_spoil_25 28 rfl ?_
      refine q_iload_n hC dX4_spoil_28 1 rfl 29 rfl ?_
      refine q_iload_n hC dX4_spoil_29 2 rfl 30 rfl ?_
      refine q_iload_n hC dX4_spoil_30 3 rfl 31 rfl ?_
      refine r_callI hC (go_V (q := (RX2, TX2, 14)) (As := [.int v1, .int v2, .int v3]) (rest := []) hC (ctX2_turnBit (zl z) g M4 1 v1 v2 v3 _ (hF.tp (b := 1) (Or.inl rfl)) hw) 3 gX4_spoil_X2_turnBit rfl ⟨rfl, rfl⟩ (by decide +kernel) ⟨Nat.le_of_ble_eq_true rfl, Nat.le_of_ble_eq_true rfl⟩ (hF.tp (b := 1) (Or.inl rfl)).ob rfl rfl rfl (Nat.le_of_ble_eq_true rfl) dX4_spoil_31) 34 rfl (fun r5 M6 hw => ?_)
      exact r_iret hR dX4_spoil_34 hw
    · refine q_iconst (v := (-1)) hC dX4_spoil_22 rfl 23 rfl ?_
      exact r_iret hR dX4_spoil_23 hw
set_option maxRecDepth 20000 in
theorem inX4_dead_X2 : ∀ w ∈ u_ws RX2 TX2 14, w ∈ wsX4_dead := by decide +kernel
set_option maxRecDepth 20000 in
theorem inX4_dead_X4 : ∀ w ∈ u_ws RX4 TX4 12, w ∈ wsX4_dead := by decide +kernel
set_option maxRecDepth 100000 in
set_option maxHeartbeats 4000000 in
theorem ctX4_dead (l : Launch) (g : GG) (M : MM) (v1 : Int32) (Q : Int32 → MM → Prop) (hF : full g) (hw : wX4_dead Q M v1) : MI g l yX4_dead wsX4_dead (rmOf 1 22) [.ref (gA g 0), .int v1] M Q := by
  refine mk_MI (cc := cX4_dead) (maxL := 3) (by decide) rfl (Nat.le_of_ble_eq_true rfl) ?_
  intro z Qf hC hR
  show XX z g Qf 3 0 [(0, .ref (gA g 0)), (1, .int v1)] [] M
  have B18 : ∀ (M : MM), wX4_dead_18 Q v1 M → XX z g Qf 3 18 [(0, .ref (gA g 0)), (1, .int v1)] [] M := by
    intro M hw
    refine q_aload_n hC dX4_dead_18 0 rfl 19 rfl ?_
    refine q_getR (C := RX4) (T := TX4) (N := 12) (ci := 4) hC inX4_dead_X4 (hF.ob 0 (by decide) (fun _ => rfl)) rfl 0 (by decide) (List.mem_of_getElem? (i := 1) (by decide +kernel)) rfl 1 (fun _ => rfl) dX4_dead_19 22 rfl ?_
    refine q_getI (C := RX2) (T := TX2) (N := 14) (ci := 2) hC inX4_dead_X2 (hF.tp (b := 1) (Or.inl rfl)).ob rfl 12 (by decide) (List.mem_of_getElem? (i := 2) (by decide +kernel)) rfl (fun _ => rfl) dX4_dead_22 25 rfl ?_
    refine q_istore_n (L' := [(2, .int (M 1 12)), (0, .ref (gA g 0)), (1, .int v1)]) hC dX4_dead_25 (by decide) rfl 26 rfl ?_
    refine q_aload_n hC dX4_dead_26 1 rfl 27 rfl ?_
    refine q_getR (C := RX4) (T := TX4) (N := 12) (ci := 4) hC inX4_dead_X4 (hF.ob 0 (by decide) (fun _ => rfl)) rfl 0 (by decide) (List.mem_of_getElem? (i := 1) (by decide +kernel)) rfl 1 (fun _ => rfl) dX4_dead_27 30 rfl ?_
    refine q_iload_n hC dX4_dead_30 2 rfl 31 rfl ?_
    refine q_putI (C := RX2) (T := TX2) (N := 14) (ci := 2) hC inX4_dead_X2 tyX2 tyX2_ok nmX2 (hF.tp (b := 1) (Or.inl rfl)).ob rfl 12 (by decide) (List.mem_of_getElem? (i := 2) (by decide +kernel)) rfl rfl rfl (fun _ => Nat.le_of_ble_eq_true rfl) (fun _ => rfl) dX4_dead_31 34 rfl (fun M3 eM3 => ?_)
    have hw := hw M3 eM3
    refine q_iload_n hC dX4_dead_34 0 rfl 35 rfl ?_
    exact r_iret hR dX4_dead_35 hw
  refine q_iload_n hC dX4_dead_0 1 rfl 1 rfl ?_
  refine q_bipush (v := (-4)) hC dX4_dead_1 (by decide) 3 rfl ?_
  refine q_icmp_eq hC 18 dX4_dead_3 (by decide) 6 rfl hw (fun hw => ?_) (fun hw => ?_)
  · exact XX.sub [0, 1] rfl (B18 M hw)
  · refine q_iload_n hC dX4_dead_6 1 rfl 7 rfl ?_
    refine q_iconst (v := 0) hC dX4_dead_7 rfl 8 rfl ?_
    refine q_bipush (v := 8) hC dX4_dead_8 (by decide) 10 rfl ?_
    refine r_callI hC (go_T (As := [.int v1, .int 0, .int 8]) (rest := []) hC (ctX4_isBetween (zl z) g M v1 0 8 _ hw) 3 gX4_dead_X4_isBetween rfl ⟨rfl, rfl⟩ (by decide +kernel) ⟨Nat.le_of_ble_eq_true rfl, Nat.le_of_ble_eq_true rfl⟩ rfl rfl (Nat.le_of_ble_eq_true rfl) dX4_dead_10) 13 rfl (fun r1 M2 hw => ?_)
    refine q_if_ne hC 18 dX4_dead_13 (by decide) 16 rfl hw (fun hw => ?_) (fun hw => ?_)
    · exact XX.sub [0, 1] rfl (B18 M2 hw)
    · refine q_iconst (v := (-1)) hC dX4_dead_16 rfl 17 rfl ?_
      exact r_iret hR dX4_dead_17 hw
set_option maxRecDepth 20000 in
theorem inX4_check_X2 : ∀ w ∈ u_ws RX2 TX2 14, w ∈ wsX4_check := by decide +kernel
set_option maxRecDepth 20000 in
theorem inX4_check_X4 : ∀ w ∈ u_ws RX4 TX4 12, w ∈ wsX4_check := by decide +kernel
set_option maxRecDepth 100000 in
set_option maxHeartbeats 4000000 in
theorem ctX4_check (l : Launch) (g : GG) (M : MM) (v1 : Int32) (Q : Int32 → MM → Prop) (hF : full g) (hw : wX4_check Q M v1) : MI g l yX4_check wsX4_check (rmOf 5 113) [.ref (gA g 0), .int v1] M Q := by
  refine mk_MI (cc := cX4_check) (maxL := 2) (by decide) rfl (Nat.le_of_ble_eq_true rfl) ?_
  intro z Qf hC hR
  show XX z g Qf 2 0 [(0, .ref (gA g 0)), (1, .int v1)] [] M
  refine q_aload_n hC dX4_check_0 0 rfl 1 rfl ?_
  refine q_getR (C := RX4) (T := TX4) (N := 12) (ci := 4) hC inX4_check_X4 (hF.ob 0 (by decide) (fun _ => rfl)) rfl 0 (by decide) (List.mem_of_getElem? (i := 1) (by decide +kernel)) rfl 1 (fun _ => rfl) dX4_check_1 4 rfl ?_
  refine q_iload_n hC dX4_check_4 1 rfl 5 rfl ?_
  refine r_callI hC (go_V (q := (RX2, TX2, 14)) (As := [.int v1]) (rest := []) hC (ctX2_hasBlock (zl z) g M 1 v1 _ (hF.tp (b := 1) (Or.inl rfl)) hw) 1 gX4_check_X2_hasBlock rfl ⟨rfl, rfl⟩ (by decide +kernel) ⟨Nat.le_of_ble_eq_true rfl, Nat.le_of_ble_eq_true rfl⟩ (hF.tp (b := 1) (Or.inl rfl)).ob rfl rfl rfl (Nat.le_of_ble_eq_true rfl) dX4_check_5) 8 rfl (fun r1 M2 hw => ?_)
  refine q_if_eq hC 29 dX4_check_8 (by decide) 11 rfl hw (fun hw => ?_) (fun hw => ?_)
  · refine q_iconst (v := (-1)) hC dX4_check_29 rfl 30 rfl ?_
    exact r_iret hR dX4_check_30 hw
  · refine q_aload_n hC dX4_check_11 0 rfl 12 rfl ?_
    refine q_getR (C := RX4) (T := TX4) (N := 12) (ci := 4) hC inX4_check_X4 (hF.ob 0 (by decide) (fun _ => rfl)) rfl 0 (by decide) (List.mem_of_getElem? (i := 1) (by decide +kernel)) rfl 1 (fun _ => rfl) dX4_check_12 15 rfl ?_
    refine q_iload_n hC dX4_check_15 1 rfl 16 rfl ?_
    refine q_aload_n hC dX4_check_16 0 rfl 17 rfl ?_
    refine q_getR (C := RX4) (T := TX4) (N := 12) (ci := 4) hC inX4_check_X4 (hF.ob 0 (by decide) (fun _ => rfl)) rfl 0 (by decide) (List.mem_of_getElem? (i := 1) (by decide +kernel)) rfl 1 (fun _ => rfl) dX4_check_17 20 rfl ?_
    refine q_getI (C := RX2) (T := TX2) (N := 14) (ci := 2) hC inX4_check_X2 (hF.tp (b := 1) (Or.inl rfl)).ob rfl 12 (by decide) (List.mem_of_getElem? (i := 2) (by decide +kernel)) rfl (fun _ => rfl) dX4_check_20 23 rfl ?_
    refine r_callI hC (go_V (q := (RX2, TX2, 14)) (As := [.int v1, .int (M2 1 12)]) (rest := []) hC (ctX2_readingOf (zl z) g M2 1 v1 (M2 1 12) _ (hF.tp (b := 1) (Or.inl rfl)) hw) 2 gX4_check_X2_readingOf rfl ⟨rfl, rfl⟩ (by decide +kernel) ⟨Nat.le_of_ble_eq_true rfl, Nat.le_of_ble_eq_true rfl⟩ (hF.tp (b := 1) (Or.inl rfl)).ob rfl rfl rfl (Nat.le_of_ble_eq_true rfl) dX4_check_23) 26 rfl (fun r3 M4 hw => ?_)
    refine q_goto hC 30 dX4_check_26 (by decide) ?_
    exact r_iret hR dX4_check_30 hw
set_option maxRecDepth 20000 in
theorem inX4_got_X2 : ∀ w ∈ u_ws RX2 TX2 14, w ∈ wsX4_got := by decide +kernel
set_option maxRecDepth 20000 in
theorem inX4_got_X4 : ∀ w ∈ u_ws RX4 TX4 12, w ∈ wsX4_got := by decide +kernel
set_option maxRecDepth 100000 in
set_option maxHeartbeats 4000000 in
theorem ctX4_got (l : Launch) (g : GG) (M : MM) (v1 : Int32) (v2 : Int32) (Q : Int32 → MM → Prop) (hF : full g) (hw : wX4_got Q M v1 v2) : MI g l yX4_got wsX4_got (rmOf 5 113) [.ref (gA g 0), .int v1, .int v2] M Q := by
  refine mk_MI (cc := cX4_got) (maxL := 3) (by decide) rfl (Nat.le_of_ble_eq_true rfl) ?_
  intro z Qf hC hR
  show XX z g Qf 3 0 [(0, .ref (gA g 0)), (1, .int v1), (2, .int v2)] [] M
  refine q_aload_n hC dX4_got_0 0 rfl 1 rfl ?_
  refine q_getR (C := RX4) (T := TX4) (N := 12) (ci := 4) hC inX4_got_X4 (hF.ob 0 (by decide) (fun _ => rfl)) rfl 0 (by decide) (List.mem_of_getElem? (i := 1) (by decide +kernel)) rfl 1 (fun _ => rfl) dX4_got_1 4 rfl ?_
  refine q_iload_n hC dX4_got_4 1 rfl 5 rfl ?_
  refine r_callI hC (go_V (q := (RX2, TX2, 14)) (As := [.int v1]) (rest := []) hC (ctX2_hasBlock (zl z) g M 1 v1 _ (hF.tp (b := 1) (Or.inl rfl)) hw) 1 gX4_got_X2_hasBlock rfl ⟨rfl, rfl⟩ (by decide +kernel) ⟨Nat.le_of_ble_eq_true rfl, Nat.le_of_ble_eq_true rfl⟩ (hF.tp (b := 1) (Or.inl rfl)).ob rfl rfl rfl (Nat.le_of_ble_eq_true rfl) dX4_got_5) 8 rfl (fun r1 M2 hw => ?_)
  refine q_if_eq hC 29 dX4_got_8 (by decide) 11 rfl hw (fun hw => ?_) (fun hw => ?_)
  · refine q_iconst (v := (-1)) hC dX4_got_29 rfl 30 rfl ?_
    exact r_iret hR dX4_got_30 hw
  · refine q_iload_n hC dX4_got_11 2 rfl 12 rfl ?_
    refine q_iconst (v := 0) hC dX4_got_12 rfl 13 rfl ?_
    refine q_aload_n hC dX4_got_13 0 rfl 14 rfl ?_
    refine q_getR (C := RX4) (T := TX4) (N := 12) (ci := 4) hC inX4_got_X4 (hF.ob 0 (by decide) (fun _ => rfl)) rfl 0 (by decide) (List.mem_of_getElem? (i := 1) (by decide +kernel)) rfl 1 (fun _ => rfl) dX4_got_14 17 rfl ?_
    refine q_iload_n hC dX4_got_17 1 rfl 18 rfl ?_
    refine r_callI hC (go_V (q := (RX2, TX2, 14)) (As := [.int v1]) (rest := [.int 0, .int v2]) hC (ctX2_sizeOf (zl z) g M2 1 v1 _ (hF.tp (b := 1) (Or.inl rfl)) hw) 1 gX4_got_X2_sizeOf rfl ⟨rfl, rfl⟩ (by decide +kernel) ⟨Nat.le_of_ble_eq_true rfl, Nat.le_of_ble_eq_true rfl⟩ (hF.tp (b := 1) (Or.inl rfl)).ob rfl rfl rfl (Nat.le_of_ble_eq_true rfl) dX4_got_18) 21 rfl (fun r3 M4 hw => ?_)
    refine q_iconst (v := 1) hC dX4_got_21 rfl 22 rfl ?_
    refine q_isub hC dX4_got_22 23 rfl ?_
    refine r_callI hC (go_T (As := [.int v2, .int 0, .int (r3 - (1 : Int32))]) (rest := []) hC (ctX4_isBetween (zl z) g M4 v2 0 (r3 - (1 : Int32)) _ hw) 3 gX4_got_X4_isBetween rfl ⟨rfl, rfl⟩ (by decide +kernel) ⟨Nat.le_of_ble_eq_true rfl, Nat.le_of_ble_eq_true rfl⟩ rfl rfl (Nat.le_of_ble_eq_true rfl) dX4_got_23) 26 rfl (fun r5 M6 hw => ?_)
    refine q_if_ne hC 31 dX4_got_26 (by decide) 29 rfl hw (fun hw => ?_) (fun hw => ?_)
    · refine q_aload_n hC dX4_got_31 0 rfl 32 rfl ?_
      refine q_getR (C := RX4) (T := TX4) (N := 12) (ci := 4) hC inX4_got_X4 (hF.ob 0 (by decide) (fun _ => rfl)) rfl 0 (by decide) (List.mem_of_getElem? (i := 1) (by decide +kernel)) rfl 1 (fun _ => rfl) dX4_got_32 35 rfl ?_
      refine q_iload_n hC dX4_got_35 1 rfl 36 rfl ?_
      refine q_aload_n hC dX4_got_36 0 rfl 37 rfl ?_
      refine q_getR (C := RX4) (T := TX4) (N := 12) (ci := 4) hC inX4_got_X4 (hF.ob 0 (by decide) (fun _ => rfl)) rfl 0 (by decide) (List.mem_of_getElem? (i := 1) (by decide +kernel)) rfl 1 (fun _ => rfl) dX4_got_37 40 rfl ?_
      refine q_getI (C := RX2) (T := TX2) (N := 14) (ci := 2) hC inX4_got_X2 (hF.tp (b := 1) (Or.inl rfl)).ob rfl 12 (by decide) (List.mem_of_getElem? (i := 2) (by decide +kernel)) rfl (fun _ => rfl) dX4_got_40 43 rfl ?_
      refine r_callI hC (go_V (q := (RX2, TX2, 14)) (As := [.int v1, .int (M6 1 12)]) (rest := []) hC (ctX2_readingOf (zl z) g M6 1 v1 (M6 1 12) _ (hF.tp (b := 1) (Or.inl rfl)) hw) 2 gX4_got_X2_readingOf rfl ⟨rfl, rfl⟩ (by decide +kernel) ⟨Nat.le_of_ble_eq_true rfl, Nat.le_of_ble_eq_true rfl⟩ (hF.tp (b := 1) (Or.inl rfl)).ob rfl rfl rfl (Nat.le_of_ble_eq_true rfl) dX4_got_43) 46 rfl (fun r7 M8 hw => ?_)
      refine q_iconst (v := 3) hC dX4_got_46 rfl 47 rfl ?_
      refine q_icmp_ne hC 53 dX4_got_47 (by decide) 50 rfl hw (fun hw => ?_) (fun hw => ?_)
      · refine q_aload_n hC dX4_got_53 0 rfl 54 rfl ?_
        refine q_getR (C := RX4) (T := TX4) (N := 12) (ci := 4) hC inX4_got_X4 (hF.ob 0 (by decide) (fun _ => rfl)) rfl 0 (by decide) (List.mem_of_getElem? (i := 1) (by decide +kernel)) rfl 1 (fun _ => rfl) dX4_got_54 57 rfl ?_
        refine q_iload_n hC dX4_got_57 1 rfl 58 rfl ?_
        refine q_iload_n hC dX4_got_58 2 rfl 59 rfl ?_
        refine r_callI hC (go_V (q := (RX2, TX2, 14)) (As := [.int v1, .int v2]) (rest := []) hC (ctX2_byteAsRead (zl z) g M8 1 v1 v2 _ (hF.tp (b := 1) (Or.inl rfl)) hw) 2 gX4_got_X2_byteAsRead rfl ⟨rfl, rfl⟩ (by decide +kernel) ⟨Nat.le_of_ble_eq_true rfl, Nat.le_of_ble_eq_true rfl⟩ (hF.tp (b := 1) (Or.inl rfl)).ob rfl rfl rfl (Nat.le_of_ble_eq_true rfl) dX4_got_59) 62 rfl (fun r9 M10 hw => ?_)
        exact r_iret hR dX4_got_62 hw
      · refine q_bipush (v := (-4)) hC dX4_got_50 (by decide) 52 rfl ?_
        exact r_iret hR dX4_got_52 hw
    · refine q_iconst (v := (-1)) hC dX4_got_29 rfl 30 rfl ?_
      exact r_iret hR dX4_got_30 hw
