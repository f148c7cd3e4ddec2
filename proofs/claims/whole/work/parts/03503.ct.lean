set_option maxRecDepth 20000 in
theorem inX5_moves_X5 : ∀ w ∈ u_ws RX5 TX5 26, w ∈ wsX5_moves := by decide +kernel
set_option maxRecDepth 100000 in
set_option maxHeartbeats 4000000 in
theorem ctX5_moves (l : Launch) (g : GG) (M : MM) (v1 : Int32) (v2 : Int32) (v3 : Int32) (Q : MM → Prop) (hF : full g) (hw : wX5_moves Q M v1 v2 v3) : MV g l yX5_moves wsX5_moves (rmOf 0 0) [.ref (gA g 52), .int v1, .int v2, .int v3] M Q := by
  refine mk_MV (cc := cX5_moves) (maxL := 5) (by decide) rfl (Nat.le_of_ble_eq_true rfl) ?_
  intro z Qf hC hR
  show XX z g Qf 5 0 [(0, .ref (gA g 52)), (1, .int v1), (2, .int v2), (3, .int v3)] [] M
  have B85 : ∀ (n : Nat) (M : MM) (v4 : Int32) , wX5_moves_85 Q v1 v2 v3 n M v4 → XX z g Qf 5 85 [(0, .ref (gA g 52)), (1, .int v1), (2, .int v2), (4, .int v4)] [] M := by
    intro n
    induction n with
    | zero =>
      intro M v4 hw
      exact hw.elim
    | succ n ih =>
      intro M v4 hw
      refine q_iload hC dX5_moves_85 3 rfl 87 rfl ?_
      refine q_bipush (v := 12) hC dX5_moves_87 (by decide) 89 rfl ?_
      refine q_icmp_ge hC 130 dX5_moves_89 (by decide) 92 rfl hw (fun hw => ?_) (fun hw => ?_)
      · exact r_vret hR dX5_moves_130 hw
      · refine q_aload_n hC dX5_moves_92 0 rfl 93 rfl ?_
        refine q_getR (C := RX5) (T := TX5) (N := 26) (ci := 5) hC inX5_moves_X5 (hF.ob 52 (by decide) (fun _ => rfl)) rfl 0 (by decide) (List.mem_of_getElem? (i := 1) (by decide +kernel)) rfl 53 (fun _ => rfl) dX5_moves_93 96 rfl ?_
        refine q_sipush (v := 181) hC dX5_moves_96 (by decide) 99 rfl ?_
        refine q_bipush (v := 12) hC dX5_moves_99 (by decide) 101 rfl ?_
        refine q_iload_n hC dX5_moves_101 1 rfl 102 rfl ?_
        refine q_imul hC dX5_moves_102 103 rfl ?_
        refine q_iadd hC dX5_moves_103 104 rfl ?_
        refine q_iload hC dX5_moves_104 3 rfl 106 rfl ?_
        refine q_iadd hC dX5_moves_106 107 rfl ?_
        refine q_aload_n hC dX5_moves_107 0 rfl 108 rfl ?_
        refine q_getR (C := RX5) (T := TX5) (N := 26) (ci := 5) hC inX5_moves_X5 (hF.ob 52 (by decide) (fun _ => rfl)) rfl 0 (by decide) (List.mem_of_getElem? (i := 1) (by decide +kernel)) rfl 53 (fun _ => rfl) dX5_moves_108 111 rfl ?_
        refine q_sipush (v := 181) hC dX5_moves_111 (by decide) 114 rfl ?_
        refine q_bipush (v := 12) hC dX5_moves_114 (by decide) 116 rfl ?_
        refine q_iload_n hC dX5_moves_116 2 rfl 117 rfl ?_
        refine q_imul hC dX5_moves_117 118 rfl ?_
        refine q_iadd hC dX5_moves_118 119 rfl ?_
        refine q_iload hC dX5_moves_119 3 rfl 121 rfl ?_
        refine q_iadd hC dX5_moves_121 122 rfl ?_
        obtain ⟨hin, hw⟩ := hw
        refine q_iald hC (hF.ar 53 (by decide) (fun _ => rfl)) hin dX5_moves_122 123 rfl ?_
        obtain ⟨hin, hw⟩ := hw
        refine q_iast hC (hF.ar 53 (by decide) (fun _ => rfl)) hin dX5_moves_123 124 rfl (fun M4 eM4 => ?_)
        have hw := hw M4 eM4
        refine q_iinc (v := v4 + 1) (L' := [(4, .int (v4 + 1)), (0, .ref (gA g 52)), (1, .int v1), (2, .int v2)]) hC dX5_moves_124 3 rfl rfl (by decide) rfl 127 rfl ?_
        refine q_goto hC 85 dX5_moves_127 (by decide) ?_
        exact XX.sub [1, 2, 3, 0] rfl (ih M4 (v4 + 1) hw)
  have B39 : ∀ (n : Nat) (M : MM) (v4 : Int32) , wX5_moves_39 Q v1 v2 v3 n M v4 → XX z g Qf 5 39 [(0, .ref (gA g 52)), (1, .int v1), (2, .int v2), (4, .int v4)] [] M := by
    intro n
    induction n with
    | zero =>
      intro M v4 hw
      exact hw.elim
    | succ n ih =>
      intro M v4 hw
      refine q_iload hC dX5_moves_39 3 rfl 41 rfl ?_
      refine q_bipush (v := 13) hC dX5_moves_41 (by decide) 43 rfl ?_
      refine q_icmp_ge hC 82 dX5_moves_43 (by decide) 46 rfl hw (fun hw => ?_) (fun hw => ?_)
      · refine q_iconst (v := 0) hC dX5_moves_82 rfl 83 rfl ?_
        refine q_istore (L' := [(4, .int 0), (0, .ref (gA g 52)), (1, .int v1), (2, .int v2)]) hC dX5_moves_83 (by decide) rfl 85 rfl ?_
        obtain ⟨n0, hw⟩ := hw
        exact XX.sub [1, 2, 3, 0] rfl (B85 n0 M 0 hw)
      · refine q_aload_n hC dX5_moves_46 0 rfl 47 rfl ?_
        refine q_getR (C := RX5) (T := TX5) (N := 26) (ci := 5) hC inX5_moves_X5 (hF.ob 52 (by decide) (fun _ => rfl)) rfl 0 (by decide) (List.mem_of_getElem? (i := 1) (by decide +kernel)) rfl 53 (fun _ => rfl) dX5_moves_47 50 rfl ?_
        refine q_bipush (v := 25) hC dX5_moves_50 (by decide) 52 rfl ?_
        refine q_bipush (v := 13) hC dX5_moves_52 (by decide) 54 rfl ?_
        refine q_iload_n hC dX5_moves_54 1 rfl 55 rfl ?_
        refine q_imul hC dX5_moves_55 56 rfl ?_
        refine q_iadd hC dX5_moves_56 57 rfl ?_
        refine q_iload hC dX5_moves_57 3 rfl 59 rfl ?_
        refine q_iadd hC dX5_moves_59 60 rfl ?_
        refine q_aload_n hC dX5_moves_60 0 rfl 61 rfl ?_
        refine q_getR (C := RX5) (T := TX5) (N := 26) (ci := 5) hC inX5_moves_X5 (hF.ob 52 (by decide) (fun _ => rfl)) rfl 0 (by decide) (List.mem_of_getElem? (i := 1) (by decide +kernel)) rfl 53 (fun _ => rfl) dX5_moves_61 64 rfl ?_
        refine q_bipush (v := 25) hC dX5_moves_64 (by decide) 66 rfl ?_
        refine q_bipush (v := 13) hC dX5_moves_66 (by decide) 68 rfl ?_
        refine q_iload_n hC dX5_moves_68 2 rfl 69 rfl ?_
        refine q_imul hC dX5_moves_69 70 rfl ?_
        refine q_iadd hC dX5_moves_70 71 rfl ?_
        refine q_iload hC dX5_moves_71 3 rfl 73 rfl ?_
        refine q_iadd hC dX5_moves_73 74 rfl ?_
        obtain ⟨hin, hw⟩ := hw
        refine q_iald hC (hF.ar 53 (by decide) (fun _ => rfl)) hin dX5_moves_74 75 rfl ?_
        obtain ⟨hin, hw⟩ := hw
        refine q_iast hC (hF.ar 53 (by decide) (fun _ => rfl)) hin dX5_moves_75 76 rfl (fun M3 eM3 => ?_)
        have hw := hw M3 eM3
        refine q_iinc (v := v4 + 1) (L' := [(4, .int (v4 + 1)), (0, .ref (gA g 52)), (1, .int v1), (2, .int v2)]) hC dX5_moves_76 3 rfl rfl (by decide) rfl 79 rfl ?_
        refine q_goto hC 39 dX5_moves_79 (by decide) ?_
        exact XX.sub [1, 2, 3, 0] rfl (ih M3 (v4 + 1) hw)
  refine q_aload_n hC dX5_moves_0 0 rfl 1 rfl ?_
  refine q_getR (C := RX5) (T := TX5) (N := 26) (ci := 5) hC inX5_moves_X5 (hF.ob 52 (by decide) (fun _ => rfl)) rfl 0 (by decide) (List.mem_of_getElem? (i := 1) (by decide +kernel)) rfl 53 (fun _ => rfl) dX5_moves_1 4 rfl ?_
  refine q_iconst (v := 1) hC dX5_moves_4 rfl 5 rfl ?_
  refine q_iload_n hC dX5_moves_5 1 rfl 6 rfl ?_
  refine q_iadd hC dX5_moves_6 7 rfl ?_
  refine q_aload_n hC dX5_moves_7 0 rfl 8 rfl ?_
  refine q_getR (C := RX5) (T := TX5) (N := 26) (ci := 5) hC inX5_moves_X5 (hF.ob 52 (by decide) (fun _ => rfl)) rfl 0 (by decide) (List.mem_of_getElem? (i := 1) (by decide +kernel)) rfl 53 (fun _ => rfl) dX5_moves_8 11 rfl ?_
  refine q_iconst (v := 1) hC dX5_moves_11 rfl 12 rfl ?_
  refine q_iload_n hC dX5_moves_12 2 rfl 13 rfl ?_
  refine q_iadd hC dX5_moves_13 14 rfl ?_
  obtain ⟨hin, hw⟩ := hw
  refine q_iald hC (hF.ar 53 (by decide) (fun _ => rfl)) hin dX5_moves_14 15 rfl ?_
  refine q_iload_n hC dX5_moves_15 3 rfl 16 rfl ?_
  refine q_isub hC dX5_moves_16 17 rfl ?_
  obtain ⟨hin, hw⟩ := hw
  refine q_iast hC (hF.ar 53 (by decide) (fun _ => rfl)) hin dX5_moves_17 18 rfl (fun M1 eM1 => ?_)
  have hw := hw M1 eM1
  refine q_aload_n hC dX5_moves_18 0 rfl 19 rfl ?_
  refine q_getR (C := RX5) (T := TX5) (N := 26) (ci := 5) hC inX5_moves_X5 (hF.ob 52 (by decide) (fun _ => rfl)) rfl 0 (by decide) (List.mem_of_getElem? (i := 1) (by decide +kernel)) rfl 53 (fun _ => rfl) dX5_moves_19 22 rfl ?_
  refine q_bipush (v := 13) hC dX5_moves_22 (by decide) 24 rfl ?_
  refine q_iload_n hC dX5_moves_24 1 rfl 25 rfl ?_
  refine q_iadd hC dX5_moves_25 26 rfl ?_
  refine q_aload_n hC dX5_moves_26 0 rfl 27 rfl ?_
  refine q_getR (C := RX5) (T := TX5) (N := 26) (ci := 5) hC inX5_moves_X5 (hF.ob 52 (by decide) (fun _ => rfl)) rfl 0 (by decide) (List.mem_of_getElem? (i := 1) (by decide +kernel)) rfl 53 (fun _ => rfl) dX5_moves_27 30 rfl ?_
  refine q_bipush (v := 13) hC dX5_moves_30 (by decide) 32 rfl ?_
  refine q_iload_n hC dX5_moves_32 2 rfl 33 rfl ?_
  refine q_iadd hC dX5_moves_33 34 rfl ?_
  obtain ⟨hin, hw⟩ := hw
  refine q_iald hC (hF.ar 53 (by decide) (fun _ => rfl)) hin dX5_moves_34 35 rfl ?_
  obtain ⟨hin, hw⟩ := hw
  refine q_iast hC (hF.ar 53 (by decide) (fun _ => rfl)) hin dX5_moves_35 36 rfl (fun M2 eM2 => ?_)
  have hw := hw M2 eM2
  refine q_iconst (v := 0) hC dX5_moves_36 rfl 37 rfl ?_
  refine q_istore (L' := [(4, .int 0), (0, .ref (gA g 52)), (1, .int v1), (2, .int v2), (3, .int v3)]) hC dX5_moves_37 (by decide) rfl 39 rfl ?_
  obtain ⟨n0, hw⟩ := hw
  exact XX.sub [1, 2, 3, 0] rfl (B39 n0 M2 0 hw)
set_option maxRecDepth 20000 in
theorem inX5_cut_X5 : ∀ w ∈ u_ws RX5 TX5 26, w ∈ wsX5_cut := by decide +kernel
set_option maxRecDepth 100000 in
set_option maxHeartbeats 4000000 in
theorem ctX5_cut (l : Launch) (g : GG) (M : MM) (v1 : Int32) (v2 : Int32) (Q : Int32 → MM → Prop) (hF : full g) (hw : wX5_cut Q M v1 v2) : MI g l yX5_cut wsX5_cut (rmOf 2 46) [.ref (gA g 52), .int v1, .int v2] M Q := by
  refine mk_MI (cc := cX5_cut) (maxL := 7) (by decide) rfl (Nat.le_of_ble_eq_true rfl) ?_
  intro z Qf hC hR
  show XX z g Qf 7 0 [(0, .ref (gA g 52)), (1, .int v1), (2, .int v2)] [] M
  have B191 : ∀ (M : MM) (v3 : Int32) (v4 : Int32) (p0 : Int32) (p1 : Int32), wX5_cut_191 Q v1 v2 M v3 v4 p0 p1 → XX z g Qf 7 191 [(0, .ref (gA g 52)), (1, .int v1), (2, .int v2), (3, .int v3), (4, .int v4)] [.int p0, .int p1, .ref (gA g 53)] M := by
    intro M v3 v4 p0 p1 hw
    obtain ⟨hin, hw⟩ := hw
    refine q_iast hC (hF.ar 53 (by decide) (fun _ => rfl)) hin dX5_cut_191 192 rfl (fun M9 eM9 => ?_)
    have hw := hw M9 eM9
    refine q_aload_n hC dX5_cut_192 0 rfl 193 rfl ?_
    refine q_getR (C := RX5) (T := TX5) (N := 26) (ci := 5) hC inX5_cut_X5 (hF.ob 52 (by decide) (fun _ => rfl)) rfl 0 (by decide) (List.mem_of_getElem? (i := 1) (by decide +kernel)) rfl 53 (fun _ => rfl) dX5_cut_193 196 rfl ?_
    refine q_sipush (v := 366) hC dX5_cut_196 (by decide) 199 rfl ?_
    refine q_dup2 hC dX5_cut_199 rfl rfl 200 rfl ?_
    obtain ⟨hin, hw⟩ := hw
    refine q_iald hC (hF.ar 53 (by decide) (fun _ => rfl)) hin dX5_cut_200 201 rfl ?_
    refine q_iload_n hC dX5_cut_201 2 rfl 202 rfl ?_
    refine q_iload_n hC dX5_cut_202 1 rfl 203 rfl ?_
    refine q_isub hC dX5_cut_203 204 rfl ?_
    refine q_isub hC dX5_cut_204 205 rfl ?_
    obtain ⟨hin, hw⟩ := hw
    refine q_iast hC (hF.ar 53 (by decide) (fun _ => rfl)) hin dX5_cut_205 206 rfl (fun M10 eM10 => ?_)
    have hw := hw M10 eM10
    refine q_iload hC dX5_cut_206 4 rfl 208 rfl ?_
    refine q_iload_n hC dX5_cut_208 3 rfl 209 rfl ?_
    refine q_isub hC dX5_cut_209 210 rfl ?_
    exact r_iret hR dX5_cut_210 hw
  have B120 : ∀ (K56 : MM → Int32 → Int32 → Int32 → Prop) (hK56 : ∀ (M : MM) (v3 : Int32) (v4 : Int32) (v5 : Int32) , K56 M v3 v4 v5 → XX z g Qf 7 56 [(0, .ref (gA g 52)), (1, .int v1), (2, .int v2), (3, .int v3), (4, .int v4), (5, .int v5)] [] M) (M : MM) (v3 : Int32) (v4 : Int32) (v5 : Int32), wX5_cut_120 Q K56 v1 v2 M v3 v4 v5 → XX z g Qf 7 120 [(0, .ref (gA g 52)), (1, .int v1), (2, .int v2), (3, .int v3), (4, .int v4), (5, .int v5)] [] M := by
    intro K56 hK56 M v3 v4 v5 hw
    refine q_iinc (v := v5 + 1) (L' := [(5, .int (v5 + 1)), (0, .ref (gA g 52)), (1, .int v1), (2, .int v2), (3, .int v3), (4, .int v4)]) hC dX5_cut_120 5 rfl rfl (by decide) rfl 123 rfl ?_
    refine q_goto hC 56 dX5_cut_123 (by decide) ?_
    exact XX.sub [1, 2, 3, 4, 5, 0] rfl (hK56 M v3 v4 (v5 + 1) hw)
  have B114 : ∀ (K56 : MM → Int32 → Int32 → Int32 → Prop) (hK56 : ∀ (M : MM) (v3 : Int32) (v4 : Int32) (v5 : Int32) , K56 M v3 v4 v5 → XX z g Qf 7 56 [(0, .ref (gA g 52)), (1, .int v1), (2, .int v2), (3, .int v3), (4, .int v4), (5, .int v5)] [] M) (M : MM) (v3 : Int32) (v4 : Int32) (v5 : Int32) (p0 : Int32) (p1 : Int32) (p2 : Int32), wX5_cut_114 Q K56 v1 v2 M v3 v4 v5 p0 p1 p2 → XX z g Qf 7 114 [(0, .ref (gA g 52)), (1, .int v1), (2, .int v2), (3, .int v3), (4, .int v4), (5, .int v5)] [.int p0, .int p1, .int p2, .ref (gA g 52)] M := by
    intro K56 hK56 M v3 v4 v5 p0 p1 p2 hw
    refine r_callV hC (go_V (q := (RX5, TX5, 26)) (As := [.int p2, .int p1, .int p0]) (rest := []) hC (ctX5_moves (zl z) g M p2 p1 p0 _ hF hw) 3 gX5_cut_X5_moves rfl ⟨rfl, rfl⟩ (by decide +kernel) ⟨Nat.le_of_ble_eq_true rfl, Nat.le_of_ble_eq_true rfl⟩ (hF.ob 52 (by decide) (fun _ => rfl)) rfl rfl rfl (Nat.le_of_ble_eq_true rfl) dX5_cut_114) 117 rfl (fun M11 hw => ?_)
    refine q_iinc (v := v3 + 1) (L' := [(3, .int (v3 + 1)), (0, .ref (gA g 52)), (1, .int v1), (2, .int v2), (4, .int v4), (5, .int v5)]) hC dX5_cut_117 3 rfl rfl (by decide) rfl 120 rfl ?_
    exact XX.sub [1, 2, 3, 0, 4, 5] rfl (B120 _ hK56 M11 (v3 + 1) v4 v5 hw)
  have B98 : ∀ (K56 : MM → Int32 → Int32 → Int32 → Prop) (hK56 : ∀ (M : MM) (v3 : Int32) (v4 : Int32) (v5 : Int32) , K56 M v3 v4 v5 → XX z g Qf 7 56 [(0, .ref (gA g 52)), (1, .int v1), (2, .int v2), (3, .int v3), (4, .int v4), (5, .int v5)] [] M) (M : MM) (v3 : Int32) (v4 : Int32) (v5 : Int32) (v6 : Int32), wX5_cut_98 Q K56 v1 v2 M v3 v4 v5 v6 → XX z g Qf 7 98 [(0, .ref (gA g 52)), (1, .int v1), (2, .int v2), (3, .int v3), (4, .int v4), (5, .int v5), (6, .int v6)] [] M := by
    intro K56 hK56 M v3 v4 v5 v6 hw
    refine q_aload_n hC dX5_cut_98 0 rfl 99 rfl ?_
    refine q_iload_n hC dX5_cut_99 3 rfl 100 rfl ?_
    refine q_iload hC dX5_cut_100 5 rfl 102 rfl ?_
    refine q_iload hC dX5_cut_102 6 rfl 104 rfl ?_
    refine q_if_eq hC 113 dX5_cut_104 (by decide) 107 rfl hw (fun hw => ?_) (fun hw => ?_)
    · refine q_iconst (v := 0) hC dX5_cut_113 rfl 114 rfl ?_
      exact XX.sub [0, 1, 2, 3, 4, 5] rfl (B114 _ hK56 M v3 v4 v5 0 v5 v3 hw)
    · refine q_iload_n hC dX5_cut_107 2 rfl 108 rfl ?_
      refine q_iload_n hC dX5_cut_108 1 rfl 109 rfl ?_
      refine q_isub hC dX5_cut_109 110 rfl ?_
      refine q_goto hC 114 dX5_cut_110 (by decide) ?_
      exact XX.sub [0, 1, 2, 3, 4, 5] rfl (B114 _ hK56 M v3 v4 v5 (v2 - v1) v5 v3 hw)
  have B81 : ∀ (K56 : MM → Int32 → Int32 → Int32 → Prop) (hK56 : ∀ (M : MM) (v3 : Int32) (v4 : Int32) (v5 : Int32) , K56 M v3 v4 v5 → XX z g Qf 7 56 [(0, .ref (gA g 52)), (1, .int v1), (2, .int v2), (3, .int v3), (4, .int v4), (5, .int v5)] [] M) (M : MM) (v3 : Int32) (v4 : Int32) (v5 : Int32) (p0 : Int32), wX5_cut_81 Q K56 v1 v2 M v3 v4 v5 p0 → XX z g Qf 7 81 [(0, .ref (gA g 52)), (1, .int v1), (2, .int v2), (3, .int v3), (4, .int v4), (5, .int v5)] [.int p0] M := by
    intro K56 hK56 M v3 v4 v5 p0 hw
    refine q_istore (L' := [(6, .int p0), (0, .ref (gA g 52)), (1, .int v1), (2, .int v2), (3, .int v3), (4, .int v4), (5, .int v5)]) hC dX5_cut_81 (by decide) rfl 83 rfl ?_
    refine q_iload hC dX5_cut_83 0 rfl 85 rfl ?_
    refine q_if_ne hC 98 dX5_cut_85 (by decide) 88 rfl hw (fun hw => ?_) (fun hw => ?_)
    · exact XX.sub [1, 2, 3, 4, 5, 6, 0] rfl (B98 _ hK56 M v3 v4 v5 p0 hw)
    · refine q_aload_n hC dX5_cut_88 1 rfl 89 rfl ?_
      refine q_iload hC dX5_cut_89 6 rfl 91 rfl ?_
      refine r_callI hC (go_V (q := (RX5, TX5, 26)) (As := [.int v5]) (rest := []) hC (ctX5_endOf (zl z) g M v5 _ hF hw) 1 gX5_cut_X5_endOf rfl ⟨rfl, rfl⟩ (by decide +kernel) ⟨Nat.le_of_ble_eq_true rfl, Nat.le_of_ble_eq_true rfl⟩ (hF.ob 52 (by decide) (fun _ => rfl)) rfl rfl rfl (Nat.le_of_ble_eq_true rfl) dX5_cut_91) 94 rfl (fun r7 M8 hw => ?_)
      refine q_iload_n hC dX5_cut_94 2 rfl 95 rfl ?_
      refine q_icmp_gt hC 120 dX5_cut_95 (by decide) 98 rfl hw (fun hw => ?_) (fun hw => ?_)
      · exact XX.sub [1, 2, 3, 4, 5, 6] rfl (B120 _ hK56 M8 v3 v4 v5 hw)
      · exact XX.sub [1, 2, 3, 4, 5, 6, 0] rfl (B98 _ hK56 M8 v3 v4 v5 p0 hw)
  have B56 : ∀ (n : Nat) (M : MM) (v3 : Int32) (v4 : Int32) (v5 : Int32) , wX5_cut_56 Q v1 v2 n M v3 v4 v5 → XX z g Qf 7 56 [(0, .ref (gA g 52)), (1, .int v1), (2, .int v2), (3, .int v3), (4, .int v4), (5, .int v5)] [] M := by
    intro n
    induction n with
    | zero =>
      intro M v3 v4 v5 hw
      exact hw.elim
    | succ n ih =>
      intro M v3 v4 v5 hw
      refine q_iload hC dX5_cut_56 5 rfl 58 rfl ?_
      refine q_iload hC dX5_cut_58 4 rfl 60 rfl ?_
      refine q_icmp_ge hC 126 dX5_cut_60 (by decide) 63 rfl hw (fun hw => ?_) (fun hw => ?_)
      · refine q_aload_n hC dX5_cut_126 0 rfl 127 rfl ?_
        refine q_getR (C := RX5) (T := TX5) (N := 26) (ci := 5) hC inX5_cut_X5 (hF.ob 52 (by decide) (fun _ => rfl)) rfl 0 (by decide) (List.mem_of_getElem? (i := 1) (by decide +kernel)) rfl 53 (fun _ => rfl) dX5_cut_127 130 rfl ?_
        refine q_iconst (v := 0) hC dX5_cut_130 rfl 131 rfl ?_
        refine q_iload_n hC dX5_cut_131 3 rfl 132 rfl ?_
        obtain ⟨hin, hw⟩ := hw
        refine q_iast hC (hF.ar 53 (by decide) (fun _ => rfl)) hin dX5_cut_132 133 rfl (fun M6 eM6 => ?_)
        have hw := hw M6 eM6
        refine q_aload_n hC dX5_cut_133 0 rfl 134 rfl ?_
        refine q_getR (C := RX5) (T := TX5) (N := 26) (ci := 5) hC inX5_cut_X5 (hF.ob 52 (by decide) (fun _ => rfl)) rfl 0 (by decide) (List.mem_of_getElem? (i := 1) (by decide +kernel)) rfl 53 (fun _ => rfl) dX5_cut_134 137 rfl ?_
        refine q_sipush (v := 325) hC dX5_cut_137 (by decide) 140 rfl ?_
        refine q_aload_n hC dX5_cut_140 0 rfl 141 rfl ?_
        refine q_getR (C := RX5) (T := TX5) (N := 26) (ci := 5) hC inX5_cut_X5 (hF.ob 52 (by decide) (fun _ => rfl)) rfl 0 (by decide) (List.mem_of_getElem? (i := 1) (by decide +kernel)) rfl 53 (fun _ => rfl) dX5_cut_141 144 rfl ?_
        refine q_sipush (v := 325) hC dX5_cut_144 (by decide) 147 rfl ?_
        obtain ⟨hin, hw⟩ := hw
        refine q_iald hC (hF.ar 53 (by decide) (fun _ => rfl)) hin dX5_cut_147 148 rfl ?_
        refine q_iload_n hC dX5_cut_148 2 rfl 149 rfl ?_
        refine q_icmp_lt hC 167 dX5_cut_149 (by decide) 152 rfl hw (fun hw => ?_) (fun hw => ?_)
        · refine q_aload_n hC dX5_cut_167 0 rfl 168 rfl ?_
          refine q_getR (C := RX5) (T := TX5) (N := 26) (ci := 5) hC inX5_cut_X5 (hF.ob 52 (by decide) (fun _ => rfl)) rfl 0 (by decide) (List.mem_of_getElem? (i := 1) (by decide +kernel)) rfl 53 (fun _ => rfl) dX5_cut_168 171 rfl ?_
          refine q_sipush (v := 325) hC dX5_cut_171 (by decide) 174 rfl ?_
          obtain ⟨hin, hw⟩ := hw
          refine q_iald hC (hF.ar 53 (by decide) (fun _ => rfl)) hin dX5_cut_174 175 rfl ?_
          refine q_iload_n hC dX5_cut_175 1 rfl 176 rfl ?_
          refine q_icmp_le hC 183 dX5_cut_176 (by decide) 179 rfl hw (fun hw => ?_) (fun hw => ?_)
          · refine q_aload_n hC dX5_cut_183 0 rfl 184 rfl ?_
            refine q_getR (C := RX5) (T := TX5) (N := 26) (ci := 5) hC inX5_cut_X5 (hF.ob 52 (by decide) (fun _ => rfl)) rfl 0 (by decide) (List.mem_of_getElem? (i := 1) (by decide +kernel)) rfl 53 (fun _ => rfl) dX5_cut_184 187 rfl ?_
            refine q_sipush (v := 325) hC dX5_cut_187 (by decide) 190 rfl ?_
            obtain ⟨hin, hw⟩ := hw
            refine q_iald hC (hF.ar 53 (by decide) (fun _ => rfl)) hin dX5_cut_190 191 rfl ?_
            exact XX.sub [0, 1, 2, 3, 4] rfl (B191 M6 v3 v4 (M6 53 (325 : Int32).toNatClampNeg) 325 hw)
          · refine q_iload_n hC dX5_cut_179 1 rfl 180 rfl ?_
            refine q_goto hC 191 dX5_cut_180 (by decide) ?_
            exact XX.sub [0, 1, 2, 3, 4] rfl (B191 M6 v3 v4 v1 325 hw)
        · refine q_aload_n hC dX5_cut_152 0 rfl 153 rfl ?_
          refine q_getR (C := RX5) (T := TX5) (N := 26) (ci := 5) hC inX5_cut_X5 (hF.ob 52 (by decide) (fun _ => rfl)) rfl 0 (by decide) (List.mem_of_getElem? (i := 1) (by decide +kernel)) rfl 53 (fun _ => rfl) dX5_cut_153 156 rfl ?_
          refine q_sipush (v := 325) hC dX5_cut_156 (by decide) 159 rfl ?_
          obtain ⟨hin, hw⟩ := hw
          refine q_iald hC (hF.ar 53 (by decide) (fun _ => rfl)) hin dX5_cut_159 160 rfl ?_
          refine q_iload_n hC dX5_cut_160 2 rfl 161 rfl ?_
          refine q_iload_n hC dX5_cut_161 1 rfl 162 rfl ?_
          refine q_isub hC dX5_cut_162 163 rfl ?_
          refine q_isub hC dX5_cut_163 164 rfl ?_
          refine q_goto hC 191 dX5_cut_164 (by decide) ?_
          exact XX.sub [0, 1, 2, 3, 4] rfl (B191 M6 v3 v4 ((M6 53 (325 : Int32).toNatClampNeg) - (v2 - v1)) 325 hw)
      · refine q_aload_n hC dX5_cut_63 0 rfl 64 rfl ?_
        refine q_getR (C := RX5) (T := TX5) (N := 26) (ci := 5) hC inX5_cut_X5 (hF.ob 52 (by decide) (fun _ => rfl)) rfl 0 (by decide) (List.mem_of_getElem? (i := 1) (by decide +kernel)) rfl 53 (fun _ => rfl) dX5_cut_64 67 rfl ?_
        refine q_iconst (v := 1) hC dX5_cut_67 rfl 68 rfl ?_
        refine q_iload hC dX5_cut_68 5 rfl 70 rfl ?_
        refine q_iadd hC dX5_cut_70 71 rfl ?_
        obtain ⟨hin, hw⟩ := hw
        refine q_iald hC (hF.ar 53 (by decide) (fun _ => rfl)) hin dX5_cut_71 72 rfl ?_
        refine q_iload_n hC dX5_cut_72 2 rfl 73 rfl ?_
        refine q_icmp_lt hC 80 dX5_cut_73 (by decide) 76 rfl hw (fun hw => ?_) (fun hw => ?_)
        · refine q_iconst (v := 0) hC dX5_cut_80 rfl 81 rfl ?_
          exact XX.sub [0, 1, 2, 3, 4, 5] rfl (B81 _ (fun M v3 v4 v5 hw => ih M v3 v4 v5 hw) M v3 v4 v5 0 hw)
        · refine q_iconst (v := 1) hC dX5_cut_76 rfl 77 rfl ?_
          refine q_goto hC 81 dX5_cut_77 (by decide) ?_
          exact XX.sub [0, 1, 2, 3, 4, 5] rfl (B81 _ (fun M v3 v4 v5 hw => ih M v3 v4 v5 hw) M v3 v4 v5 1 hw)
  refine q_aload_n hC dX5_cut_0 0 rfl 1 rfl ?_
  refine q_iload_n hC dX5_cut_1 1 rfl 2 rfl ?_
  refine r_callI hC (go_V (q := (RX5, TX5, 26)) (As := [.int v1]) (rest := []) hC (ctX5_isPlace (zl z) g M v1 _ hF hw) 1 gX5_cut_X5_isPlace rfl ⟨rfl, rfl⟩ (by decide +kernel) ⟨Nat.le_of_ble_eq_true rfl, Nat.le_of_ble_eq_true rfl⟩ (hF.ob 52 (by decide) (fun _ => rfl)) rfl rfl rfl (Nat.le_of_ble_eq_true rfl) dX5_cut_2) 5 rfl (fun r1 M2 hw => ?_)
  refine q_if_eq hC 21 dX5_cut_5 (by decide) 8 rfl hw (fun hw => ?_) (fun hw => ?_)
  · refine q_iconst (v := (-1)) hC dX5_cut_21 rfl 22 rfl ?_
    exact r_iret hR dX5_cut_22 hw
  · refine q_aload_n hC dX5_cut_8 0 rfl 9 rfl ?_
    refine q_iload_n hC dX5_cut_9 2 rfl 10 rfl ?_
    refine r_callI hC (go_V (q := (RX5, TX5, 26)) (As := [.int v2]) (rest := []) hC (ctX5_isPlace (zl z) g M2 v2 _ hF hw) 1 gX5_cut_X5_isPlace rfl ⟨rfl, rfl⟩ (by decide +kernel) ⟨Nat.le_of_ble_eq_true rfl, Nat.le_of_ble_eq_true rfl⟩ (hF.ob 52 (by decide) (fun _ => rfl)) rfl rfl rfl (Nat.le_of_ble_eq_true rfl) dX5_cut_10) 13 rfl (fun r3 M4 hw => ?_)
    refine q_if_eq hC 21 dX5_cut_13 (by decide) 16 rfl hw (fun hw => ?_) (fun hw => ?_)
    · refine q_iconst (v := (-1)) hC dX5_cut_21 rfl 22 rfl ?_
      exact r_iret hR dX5_cut_22 hw
    · refine q_iload_n hC dX5_cut_16 2 rfl 17 rfl ?_
      refine q_iload_n hC dX5_cut_17 1 rfl 18 rfl ?_
      refine q_icmp_gt hC 23 dX5_cut_18 (by decide) 21 rfl hw (fun hw => ?_) (fun hw => ?_)
      · refine q_aload_n hC dX5_cut_23 0 rfl 24 rfl ?_
        refine q_getR (C := RX5) (T := TX5) (N := 26) (ci := 5) hC inX5_cut_X5 (hF.ob 52 (by decide) (fun _ => rfl)) rfl 0 (by decide) (List.mem_of_getElem? (i := 1) (by decide +kernel)) rfl 53 (fun _ => rfl) dX5_cut_24 27 rfl ?_
        refine q_sipush (v := 366) hC dX5_cut_27 (by decide) 30 rfl ?_
        obtain ⟨hin, hw⟩ := hw
        refine q_iald hC (hF.ar 53 (by decide) (fun _ => rfl)) hin dX5_cut_30 31 rfl ?_
        refine q_iload_n hC dX5_cut_31 2 rfl 32 rfl ?_
        refine q_iload_n hC dX5_cut_32 1 rfl 33 rfl ?_
        refine q_isub hC dX5_cut_33 34 rfl ?_
        refine q_isub hC dX5_cut_34 35 rfl ?_
        refine q_bipush (v := 20) hC dX5_cut_35 (by decide) 37 rfl ?_
        refine q_icmp_ge hC 43 dX5_cut_37 (by decide) 40 rfl hw (fun hw => ?_) (fun hw => ?_)
        · refine q_iconst (v := 0) hC dX5_cut_43 rfl 44 rfl ?_
          refine q_istore_n (L' := [(3, .int 0), (0, .ref (gA g 52)), (1, .int v1), (2, .int v2)]) hC dX5_cut_44 (by decide) rfl 45 rfl ?_
          refine q_aload_n hC dX5_cut_45 1 rfl 46 rfl ?_
          refine q_getR (C := RX5) (T := TX5) (N := 26) (ci := 5) hC inX5_cut_X5 (hF.ob 52 (by decide) (fun _ => rfl)) rfl 0 (by decide) (List.mem_of_getElem? (i := 1) (by decide +kernel)) rfl 53 (fun _ => rfl) dX5_cut_46 49 rfl ?_
          refine q_iconst (v := 0) hC dX5_cut_49 rfl 50 rfl ?_
          obtain ⟨hin, hw⟩ := hw
          refine q_iald hC (hF.ar 53 (by decide) (fun _ => rfl)) hin dX5_cut_50 51 rfl ?_
          refine q_nameI (fun x5 ex5 => ?_)
          have hw := hw x5 ex5
          refine q_istore (L' := [(4, .int x5), (3, .int 0), (0, .ref (gA g 52)), (1, .int v1), (2, .int v2)]) hC dX5_cut_51 (by decide) rfl 53 rfl ?_
          refine q_iconst (v := 0) hC dX5_cut_53 rfl 54 rfl ?_
          refine q_istore (L' := [(5, .int 0), (4, .int x5), (3, .int 0), (0, .ref (gA g 52)), (1, .int v1), (2, .int v2)]) hC dX5_cut_54 (by decide) rfl 56 rfl ?_
          obtain ⟨n0, hw⟩ := hw
          exact XX.sub [3, 4, 5, 2, 1, 0] rfl (B56 n0 M4 0 x5 0 hw)
        · refine q_bipush (v := (-2)) hC dX5_cut_40 (by decide) 42 rfl ?_
          exact r_iret hR dX5_cut_42 hw
      · refine q_iconst (v := (-1)) hC dX5_cut_21 rfl 22 rfl ?_
        exact r_iret hR dX5_cut_22 hw
set_option maxRecDepth 20000 in
theorem inX5_holdsOf_X5 : ∀ w ∈ u_ws RX5 TX5 26, w ∈ wsX5_holdsOf := by decide +kernel
set_option maxRecDepth 100000 in
set_option maxHeartbeats 4000000 in
theorem ctX5_holdsOf (l : Launch) (g : GG) (M : MM) (v1 : Int32) (Q : Int32 → MM → Prop) (hF : full g) (hw : wX5_holdsOf Q M v1) : MI g l yX5_holdsOf wsX5_holdsOf (rmOf 1 21) [.ref (gA g 52), .int v1] M Q := by
  refine mk_MI (cc := cX5_holdsOf) (maxL := 2) (by decide) rfl (Nat.le_of_ble_eq_true rfl) ?_
  intro z Qf hC hR
  show XX z g Qf 2 0 [(0, .ref (gA g 52)), (1, .int v1)] [] M
  refine q_aload_n hC dX5_holdsOf_0 0 rfl 1 rfl ?_
  refine q_getR (C := RX5) (T := TX5) (N := 26) (ci := 5) hC inX5_holdsOf_X5 (hF.ob 52 (by decide) (fun _ => rfl)) rfl 0 (by decide) (List.mem_of_getElem? (i := 1) (by decide +kernel)) rfl 53 (fun _ => rfl) dX5_holdsOf_1 4 rfl ?_
  refine q_sipush (v := 366) hC dX5_holdsOf_4 (by decide) 7 rfl ?_
  obtain ⟨hin, hw⟩ := hw
  refine q_iald hC (hF.ar 53 (by decide) (fun _ => rfl)) hin dX5_holdsOf_7 8 rfl ?_
  refine q_aload_n hC dX5_holdsOf_8 0 rfl 9 rfl ?_
  refine q_getR (C := RX5) (T := TX5) (N := 26) (ci := 5) hC inX5_holdsOf_X5 (hF.ob 52 (by decide) (fun _ => rfl)) rfl 2 (by decide) (List.mem_of_getElem? (i := 2) (by decide +kernel)) rfl 55 (fun _ => rfl) dX5_holdsOf_9 12 rfl ?_
  refine q_bipush (v := 6) hC dX5_holdsOf_12 (by decide) 14 rfl ?_
  obtain ⟨hin, hw⟩ := hw
  refine q_iald hC (hF.ar 55 (by decide) (fun _ => rfl)) hin dX5_holdsOf_14 15 rfl ?_
  refine q_aload_n hC dX5_holdsOf_15 0 rfl 16 rfl ?_
  refine q_iload_n hC dX5_holdsOf_16 1 rfl 17 rfl ?_
  refine r_callI hC (go_V (q := (RX5, TX5, 26)) (As := [.int v1]) (rest := [.int (M 55 (6 : Int32).toNatClampNeg), .int (M 53 (366 : Int32).toNatClampNeg)]) hC (ctX5_longOf (zl z) g M v1 _ hF hw) 1 gX5_holdsOf_X5_longOf rfl ⟨rfl, rfl⟩ (by decide +kernel) ⟨Nat.le_of_ble_eq_true rfl, Nat.le_of_ble_eq_true rfl⟩ (hF.ob 52 (by decide) (fun _ => rfl)) rfl rfl rfl (Nat.le_of_ble_eq_true rfl) dX5_holdsOf_17) 20 rfl (fun r1 M2 hw => ?_)
  refine q_iadd hC dX5_holdsOf_20 21 rfl ?_
  obtain ⟨hne, hw⟩ := hw
  refine q_idiv hC dX5_holdsOf_21 hne 22 rfl ?_
  exact r_iret hR dX5_holdsOf_22 hw
set_option maxRecDepth 100000 in
set_option maxHeartbeats 4000000 in
theorem ctX5_holds (l : Launch) (g : GG) (M : MM) (v1 : Int32) (Q : Int32 → MM → Prop) (hF : full g) (hw : wX5_holds Q M v1) : MI g l yX5_holds wsX5_holds (rmOf 2 42) [.ref (gA g 52), .int v1] M Q := by
  refine mk_MI (cc := cX5_holds) (maxL := 2) (by decide) rfl (Nat.le_of_ble_eq_true rfl) ?_
  intro z Qf hC hR
  show XX z g Qf 2 0 [(0, .ref (gA g 52)), (1, .int v1)] [] M
  refine q_iload_n hC dX5_holds_0 1 rfl 1 rfl ?_
  refine q_i2l hC dX5_holds_1 2 rfl ?_
  refine q_lconst (v := 1) hC dX5_holds_2 rfl 3 rfl ?_
  refine q_ldc2 (v := 99) hC (List.mem_of_getElem? (i := 1) (by decide +kernel)) dX5_holds_3 6 rfl ?_
  refine r_callI hC (go_T (As := [.long (v1.toInt64), .long 1, .long 99]) (rest := []) hC (ctX5_in (zl z) g M (v1.toInt64) 1 99 _ hw) 3 gX5_holds_X5_in rfl ⟨rfl, rfl⟩ (by decide +kernel) ⟨Nat.le_of_ble_eq_true rfl, Nat.le_of_ble_eq_true rfl⟩ rfl rfl (Nat.le_of_ble_eq_true rfl) dX5_holds_6) 9 rfl (fun r1 M2 hw => ?_)
  refine q_if_eq hC 20 dX5_holds_9 (by decide) 12 rfl hw (fun hw => ?_) (fun hw => ?_)
  · refine q_iconst (v := (-1)) hC dX5_holds_20 rfl 21 rfl ?_
    exact r_iret hR dX5_holds_21 hw
  · refine q_aload_n hC dX5_holds_12 0 rfl 13 rfl ?_
    refine q_iload_n hC dX5_holds_13 1 rfl 14 rfl ?_
    refine r_callI hC (go_V (q := (RX5, TX5, 26)) (As := [.int v1]) (rest := []) hC (ctX5_holdsOf (zl z) g M2 v1 _ hF hw) 1 gX5_holds_X5_holdsOf rfl ⟨rfl, rfl⟩ (by decide +kernel) ⟨Nat.le_of_ble_eq_true rfl, Nat.le_of_ble_eq_true rfl⟩ (hF.ob 52 (by decide) (fun _ => rfl)) rfl rfl rfl (Nat.le_of_ble_eq_true rfl) dX5_holds_14) 17 rfl (fun r3 M4 hw => ?_)
    refine q_goto hC 21 dX5_holds_17 (by decide) ?_
    exact r_iret hR dX5_holds_21 hw
set_option maxRecDepth 100000 in
set_option maxHeartbeats 4000000 in
theorem ctX5_most (l : Launch) (g : GG) (M : MM) (v1 : Int32) (Q : Int32 → MM → Prop) (hF : full g) (hw : wX5_most Q M v1) : MI g l yX5_most wsX5_most (rmOf 2 42) [.ref (gA g 52), .int v1] M Q := by
  refine mk_MI (cc := cX5_most) (maxL := 4) (by decide) rfl (Nat.le_of_ble_eq_true rfl) ?_
  intro z Qf hC hR
  show XX z g Qf 4 0 [(0, .ref (gA g 52)), (1, .int v1)] [] M
  have B44 : ∀ (K16 : MM → Int32 → Int32 → Prop) (hK16 : ∀ (M : MM) (v2 : Int32) (v3 : Int32) , K16 M v2 v3 → XX z g Qf 4 16 [(0, .ref (gA g 52)), (1, .int v1), (2, .int v2), (3, .int v3)] [] M) (M : MM) (v3 : Int32) (p0 : Int32), wX5_most_44 Q K16 v1 M v3 p0 → XX z g Qf 4 44 [(0, .ref (gA g 52)), (1, .int v1), (3, .int v3)] [.int p0] M := by
    intro K16 hK16 M v3 p0 hw
    refine q_istore_n (L' := [(2, .int p0), (0, .ref (gA g 52)), (1, .int v1), (3, .int v3)]) hC dX5_most_44 (by decide) rfl 45 rfl ?_
    refine q_iinc (v := v3 + 1) (L' := [(3, .int (v3 + 1)), (2, .int p0), (0, .ref (gA g 52)), (1, .int v1)]) hC dX5_most_45 3 rfl rfl (by decide) rfl 48 rfl ?_
    refine q_goto hC 16 dX5_most_48 (by decide) ?_
    exact XX.sub [2, 3, 1, 0] rfl (hK16 M p0 (v3 + 1) hw)
  have B16 : ∀ (n : Nat) (M : MM) (v2 : Int32) (v3 : Int32) , wX5_most_16 Q v1 n M v2 v3 → XX z g Qf 4 16 [(0, .ref (gA g 52)), (1, .int v1), (2, .int v2), (3, .int v3)] [] M := by
    intro n
    induction n with
    | zero =>
      intro M v2 v3 hw
      exact hw.elim
    | succ n ih =>
      intro M v2 v3 hw
      refine q_iload_n hC dX5_most_16 3 rfl 17 rfl ?_
      refine q_bipush (v := 100) hC dX5_most_17 (by decide) 19 rfl ?_
      refine q_icmp_ge hC 51 dX5_most_19 (by decide) 22 rfl hw (fun hw => ?_) (fun hw => ?_)
      · refine q_iload_n hC dX5_most_51 1 rfl 52 rfl ?_
        refine q_if_ne hC 59 dX5_most_52 (by decide) 55 rfl hw (fun hw => ?_) (fun hw => ?_)
        · refine q_iload_n hC dX5_most_59 2 rfl 60 rfl ?_
          refine q_aload_n hC dX5_most_60 0 rfl 61 rfl ?_
          refine q_iload_n hC dX5_most_61 2 rfl 62 rfl ?_
          refine r_callI hC (go_V (q := (RX5, TX5, 26)) (As := [.int v2]) (rest := [.int v2]) hC (ctX5_holdsOf (zl z) g M v2 _ hF hw) 1 gX5_most_X5_holdsOf rfl ⟨rfl, rfl⟩ (by decide +kernel) ⟨Nat.le_of_ble_eq_true rfl, Nat.le_of_ble_eq_true rfl⟩ (hF.ob 52 (by decide) (fun _ => rfl)) rfl rfl rfl (Nat.le_of_ble_eq_true rfl) dX5_most_62) 65 rfl (fun r3 M4 hw => ?_)
          refine q_imul hC dX5_most_65 66 rfl ?_
          exact r_iret hR dX5_most_66 hw
        · refine q_iload_n hC dX5_most_55 2 rfl 56 rfl ?_
          refine q_goto hC 66 dX5_most_56 (by decide) ?_
          exact r_iret hR dX5_most_66 hw
      · refine q_iload_n hC dX5_most_22 3 rfl 23 rfl ?_
        refine q_aload_n hC dX5_most_23 0 rfl 24 rfl ?_
        refine q_iload_n hC dX5_most_24 3 rfl 25 rfl ?_
        refine r_callI hC (go_V (q := (RX5, TX5, 26)) (As := [.int v3]) (rest := [.int v3]) hC (ctX5_holdsOf (zl z) g M v3 _ hF hw) 1 gX5_most_X5_holdsOf rfl ⟨rfl, rfl⟩ (by decide +kernel) ⟨Nat.le_of_ble_eq_true rfl, Nat.le_of_ble_eq_true rfl⟩ (hF.ob 52 (by decide) (fun _ => rfl)) rfl rfl rfl (Nat.le_of_ble_eq_true rfl) dX5_most_25) 28 rfl (fun r5 M6 hw => ?_)
        refine q_imul hC dX5_most_28 29 rfl ?_
        refine q_iload_n hC dX5_most_29 2 rfl 30 rfl ?_
        refine q_aload_n hC dX5_most_30 0 rfl 31 rfl ?_
        refine q_iload_n hC dX5_most_31 2 rfl 32 rfl ?_
        refine r_callI hC (go_V (q := (RX5, TX5, 26)) (As := [.int v2]) (rest := [.int v2, .int (v3 * r5)]) hC (ctX5_holdsOf (zl z) g M6 v2 _ hF hw) 1 gX5_most_X5_holdsOf rfl ⟨rfl, rfl⟩ (by decide +kernel) ⟨Nat.le_of_ble_eq_true rfl, Nat.le_of_ble_eq_true rfl⟩ (hF.ob 52 (by decide) (fun _ => rfl)) rfl rfl rfl (Nat.le_of_ble_eq_true rfl) dX5_most_32) 35 rfl (fun r7 M8 hw => ?_)
        refine q_imul hC dX5_most_35 36 rfl ?_
        refine q_icmp_le hC 43 dX5_most_36 (by decide) 39 rfl hw (fun hw => ?_) (fun hw => ?_)
        · refine q_iload_n hC dX5_most_43 2 rfl 44 rfl ?_
          exact XX.sub [0, 1, 3] rfl (B44 _ (fun M v2 v3 hw => ih M v2 v3 hw) M8 v3 v2 hw)
        · refine q_iload_n hC dX5_most_39 3 rfl 40 rfl ?_
          refine q_goto hC 44 dX5_most_40 (by decide) ?_
          exact XX.sub [0, 1, 3] rfl (B44 _ (fun M v2 v3 hw => ih M v2 v3 hw) M8 v3 v3 hw)
  refine q_iload_n hC dX5_most_0 1 rfl 1 rfl ?_
  refine q_i2l hC dX5_most_1 2 rfl ?_
  refine q_lconst (v := 0) hC dX5_most_2 rfl 3 rfl ?_
  refine q_lconst (v := 1) hC dX5_most_3 rfl 4 rfl ?_
  refine r_callI hC (go_T (As := [.long (v1.toInt64), .long 0, .long 1]) (rest := []) hC (ctX5_in (zl z) g M (v1.toInt64) 0 1 _ hw) 3 gX5_most_X5_in rfl ⟨rfl, rfl⟩ (by decide +kernel) ⟨Nat.le_of_ble_eq_true rfl, Nat.le_of_ble_eq_true rfl⟩ rfl rfl (Nat.le_of_ble_eq_true rfl) dX5_most_4) 7 rfl (fun r1 M2 hw => ?_)
  refine q_if_ne hC 12 dX5_most_7 (by decide) 10 rfl hw (fun hw => ?_) (fun hw => ?_)
  · refine q_iconst (v := 1) hC dX5_most_12 rfl 13 rfl ?_
    refine q_istore_n (L' := [(2, .int 1), (0, .ref (gA g 52)), (1, .int v1)]) hC dX5_most_13 (by decide) rfl 14 rfl ?_
    refine q_iconst (v := 2) hC dX5_most_14 rfl 15 rfl ?_
    refine q_istore_n (L' := [(3, .int 2), (2, .int 1), (0, .ref (gA g 52)), (1, .int v1)]) hC dX5_most_15 (by decide) rfl 16 rfl ?_
    obtain ⟨n0, hw⟩ := hw
    exact XX.sub [2, 3, 1, 0] rfl (B16 n0 M2 1 2 hw)
  · refine q_iconst (v := (-1)) hC dX5_most_10 rfl 11 rfl ?_
    exact r_iret hR dX5_most_11 hw
set_option maxRecDepth 20000 in
theorem inX5_streams_X5 : ∀ w ∈ u_ws RX5 TX5 26, w ∈ wsX5_streams := by decide +kernel
set_option maxRecDepth 100000 in
set_option maxHeartbeats 4000000 in
theorem ctX5_streams (l : Launch) (g : GG) (M : MM) (v1 : Int32) (v2 : Int32) (v3 : Int32) (v4 : Int32) (Q : Int32 → MM → Prop) (hF : full g) (hw : wX5_streams Q M v1 v2 v3 v4) : MI g l yX5_streams wsX5_streams (rmOf 1 21) [.ref (gA g 52), .int v1, .int v2, .int v3, .int v4] M Q := by
  refine mk_MI (cc := cX5_streams) (maxL := 9) (by decide) rfl (Nat.le_of_ble_eq_true rfl) ?_
  intro z Qf hC hR
  show XX z g Qf 9 0 [(0, .ref (gA g 52)), (1, .int v1), (2, .int v2), (3, .int v3), (4, .int v4)] [] M
  have B136 : ∀ (K14 : MM → Int32 → Int32 → Int32 → Prop) (hK14 : ∀ (M : MM) (v5 : Int32) (v6 : Int32) (v7 : Int32) , K14 M v5 v6 v7 → XX z g Qf 9 14 [(0, .ref (gA g 52)), (1, .int v1), (2, .int v2), (3, .int v3), (4, .int v4), (5, .int v5), (6, .int v6), (7, .int v7)] [] M) (M : MM) (v6 : Int32) (v7 : Int32) (p0 : Int32) (p1 : Int32), wX5_streams_136 Q K14 v1 v2 v3 v4 M v6 v7 p0 p1 → XX z g Qf 9 136 [(0, .ref (gA g 52)), (1, .int v1), (2, .int v2), (3, .int v3), (4, .int v4), (6, .int v6), (7, .int v7)] [.int p0, .int p1] M := by
    intro K14 hK14 M v6 v7 p0 p1 hw
    refine q_iadd hC dX5_streams_136 137 rfl ?_
    refine q_istore (L' := [(5, .int (p1 + p0)), (0, .ref (gA g 52)), (1, .int v1), (2, .int v2), (3, .int v3), (4, .int v4), (6, .int v6), (7, .int v7)]) hC dX5_streams_137 (by decide) rfl 139 rfl ?_
    refine q_goto hC 14 dX5_streams_139 (by decide) ?_
    exact XX.sub [1, 2, 3, 4, 5, 0, 6, 7] rfl (hK14 M (p1 + p0) v6 v7 hw)
  have B102 : ∀ (K14 : MM → Int32 → Int32 → Int32 → Prop) (hK14 : ∀ (M : MM) (v5 : Int32) (v6 : Int32) (v7 : Int32) , K14 M v5 v6 v7 → XX z g Qf 9 14 [(0, .ref (gA g 52)), (1, .int v1), (2, .int v2), (3, .int v3), (4, .int v4), (5, .int v5), (6, .int v6), (7, .int v7)] [] M) (M : MM) (v5 : Int32) (v6 : Int32) (p0 : Int32), wX5_streams_102 Q K14 v1 v2 v3 v4 M v5 v6 p0 → XX z g Qf 9 102 [(0, .ref (gA g 52)), (1, .int v1), (2, .int v2), (3, .int v3), (4, .int v4), (5, .int v5), (6, .int v6)] [.int p0] M := by
    intro K14 hK14 M v5 v6 p0 hw
    refine q_istore (L' := [(7, .int p0), (0, .ref (gA g 52)), (1, .int v1), (2, .int v2), (3, .int v3), (4, .int v4), (5, .int v5), (6, .int v6)]) hC dX5_streams_102 (by decide) rfl 104 rfl ?_
    refine q_aload_n hC dX5_streams_104 1 rfl 105 rfl ?_
    refine q_dup hC dX5_streams_105 rfl 106 rfl ?_
    refine q_getI (C := RX5) (T := TX5) (N := 26) (ci := 5) hC inX5_streams_X5 (hF.ob 52 (by decide) (fun _ => rfl)) rfl 21 (by decide) (List.mem_of_getElem? (i := 1) (by decide +kernel)) rfl (fun _ => rfl) dX5_streams_106 109 rfl ?_
    refine q_iload hC dX5_streams_109 0 rfl 111 rfl ?_
    refine r_callI hC (go_T (As := [.int p0]) (rest := [.int (M 52 21), .ref (gA g 52)]) hC (ctX5_flag (zl z) g M p0 _ hw) 1 gX5_streams_X5_flag rfl ⟨rfl, rfl⟩ (by decide +kernel) ⟨Nat.le_of_ble_eq_true rfl, Nat.le_of_ble_eq_true rfl⟩ rfl rfl (Nat.le_of_ble_eq_true rfl) dX5_streams_111) 114 rfl (fun r6 M7 hw => ?_)
    refine q_iadd hC dX5_streams_114 115 rfl ?_
    refine q_putI (C := RX5) (T := TX5) (N := 26) (ci := 5) hC inX5_streams_X5 tyX5 tyX5_ok nmX5 (hF.ob 52 (by decide) (fun _ => rfl)) rfl 21 (by decide) (List.mem_of_getElem? (i := 1) (by decide +kernel)) rfl rfl rfl (fun _ => Nat.le_of_ble_eq_true rfl) (fun _ => rfl) dX5_streams_115 118 rfl (fun M8 eM8 => ?_)
    have hw := hw M8 eM8
    refine q_iload hC dX5_streams_118 6 rfl 120 rfl ?_
    refine q_iload hC dX5_streams_120 0 rfl 122 rfl ?_
    refine q_if_eq hC 135 dX5_streams_122 (by decide) 125 rfl hw (fun hw => ?_) (fun hw => ?_)
    · refine q_iconst (v := 0) hC dX5_streams_135 rfl 136 rfl ?_
      exact XX.sub [1, 2, 3, 4, 5, 7, 0] rfl (B136 _ hK14 M8 v6 p0 0 v5 hw)
    · refine q_aload_n hC dX5_streams_125 1 rfl 126 rfl ?_
      refine q_getR (C := RX5) (T := TX5) (N := 26) (ci := 5) hC inX5_streams_X5 (hF.ob 52 (by decide) (fun _ => rfl)) rfl 2 (by decide) (List.mem_of_getElem? (i := 2) (by decide +kernel)) rfl 55 (fun _ => rfl) dX5_streams_126 129 rfl ?_
      refine q_bipush (v := 8) hC dX5_streams_129 (by decide) 131 rfl ?_
      obtain ⟨hin, hw⟩ := hw
      refine q_iald hC (hF.ar 55 (by decide) (fun _ => rfl)) hin dX5_streams_131 132 rfl ?_
      refine q_goto hC 136 dX5_streams_132 (by decide) ?_
      exact XX.sub [1, 2, 3, 4, 5, 7, 0] rfl (B136 _ hK14 M8 v6 p0 (M8 55 (8 : Int32).toNatClampNeg) v5 hw)
  have B101 : ∀ (K14 : MM → Int32 → Int32 → Int32 → Prop) (hK14 : ∀ (M : MM) (v5 : Int32) (v6 : Int32) (v7 : Int32) , K14 M v5 v6 v7 → XX z g Qf 9 14 [(0, .ref (gA g 52)), (1, .int v1), (2, .int v2), (3, .int v3), (4, .int v4), (5, .int v5), (6, .int v6), (7, .int v7)] [] M) (M : MM) (v5 : Int32) (v6 : Int32), wX5_streams_101 Q K14 v1 v2 v3 v4 M v5 v6 → XX z g Qf 9 101 [(0, .ref (gA g 52)), (1, .int v1), (2, .int v2), (3, .int v3), (4, .int v4), (5, .int v5), (6, .int v6)] [] M := by
    intro K14 hK14 M v5 v6 hw
    refine q_iconst (v := 0) hC dX5_streams_101 rfl 102 rfl ?_
    exact XX.sub [0, 1, 2, 3, 4, 5, 6] rfl (B102 _ hK14 M v5 v6 0 hw)
  have B56 : ∀ (K14 : MM → Int32 → Int32 → Int32 → Prop) (hK14 : ∀ (M : MM) (v5 : Int32) (v6 : Int32) (v7 : Int32) , K14 M v5 v6 v7 → XX z g Qf 9 14 [(0, .ref (gA g 52)), (1, .int v1), (2, .int v2), (3, .int v3), (4, .int v4), (5, .int v5), (6, .int v6), (7, .int v7)] [] M) (M : MM) (v6 : Int32) (p0 : Int32), wX5_streams_56 Q K14 v1 v2 v3 v4 M v6 p0 → XX z g Qf 9 56 [(0, .ref (gA g 52)), (1, .int v1), (2, .int v2), (3, .int v3), (4, .int v4), (6, .int v6)] [.int p0] M := by
    intro K14 hK14 M v6 p0 hw
    refine q_istore (L' := [(5, .int p0), (0, .ref (gA g 52)), (1, .int v1), (2, .int v2), (3, .int v3), (4, .int v4), (6, .int v6)]) hC dX5_streams_56 (by decide) rfl 58 rfl ?_
    refine q_iload hC dX5_streams_58 0 rfl 60 rfl ?_
    refine q_aload_n hC dX5_streams_60 1 rfl 61 rfl ?_
    refine q_getR (C := RX5) (T := TX5) (N := 26) (ci := 5) hC inX5_streams_X5 (hF.ob 52 (by decide) (fun _ => rfl)) rfl 2 (by decide) (List.mem_of_getElem? (i := 2) (by decide +kernel)) rfl 55 (fun _ => rfl) dX5_streams_61 64 rfl ?_
    refine q_iconst (v := 3) hC dX5_streams_64 rfl 65 rfl ?_
    obtain ⟨hin, hw⟩ := hw
    refine q_iald hC (hF.ar 55 (by decide) (fun _ => rfl)) hin dX5_streams_65 66 rfl ?_
    refine q_iload_n hC dX5_streams_66 3 rfl 67 rfl ?_
    refine q_aload_n hC dX5_streams_67 1 rfl 68 rfl ?_
    refine q_getR (C := RX5) (T := TX5) (N := 26) (ci := 5) hC inX5_streams_X5 (hF.ob 52 (by decide) (fun _ => rfl)) rfl 2 (by decide) (List.mem_of_getElem? (i := 2) (by decide +kernel)) rfl 55 (fun _ => rfl) dX5_streams_68 71 rfl ?_
    refine q_bipush (v := 6) hC dX5_streams_71 (by decide) 73 rfl ?_
    obtain ⟨hin, hw⟩ := hw
    refine q_iald hC (hF.ar 55 (by decide) (fun _ => rfl)) hin dX5_streams_73 74 rfl ?_
    refine q_iadd hC dX5_streams_74 75 rfl ?_
    refine q_imul hC dX5_streams_75 76 rfl ?_
    refine q_iadd hC dX5_streams_76 77 rfl ?_
    refine q_nameI (fun x5 ex5 => ?_)
    have hw := hw x5 ex5
    refine q_istore (L' := [(5, .int x5), (0, .ref (gA g 52)), (1, .int v1), (2, .int v2), (3, .int v3), (4, .int v4), (6, .int v6)]) hC dX5_streams_77 (by decide) rfl 79 rfl ?_
    refine q_iinc (v := v6 + 1) (L' := [(6, .int (v6 + 1)), (5, .int x5), (0, .ref (gA g 52)), (1, .int v1), (2, .int v2), (3, .int v3), (4, .int v4)]) hC dX5_streams_79 6 rfl rfl (by decide) rfl 82 rfl ?_
    refine q_iload hC dX5_streams_82 0 rfl 84 rfl ?_
    refine q_iload_n hC dX5_streams_84 3 rfl 85 rfl ?_
    refine q_icmp_ge hC 101 dX5_streams_85 (by decide) 88 rfl hw (fun hw => ?_) (fun hw => ?_)
    · exact XX.sub [2, 3, 4, 5, 6, 1, 0] rfl (B101 _ hK14 M x5 (v6 + 1) hw)
    · refine q_iload hC dX5_streams_88 0 rfl 90 rfl ?_
      refine q_iload_n hC dX5_streams_90 5 rfl 91 rfl ?_
      refine q_imul hC dX5_streams_91 92 rfl ?_
      refine q_iload hC dX5_streams_92 1 rfl 94 rfl ?_
      refine q_icmp_le hC 101 dX5_streams_94 (by decide) 97 rfl hw (fun hw => ?_) (fun hw => ?_)
      · exact XX.sub [2, 3, 4, 5, 6, 1, 0] rfl (B101 _ hK14 M x5 (v6 + 1) hw)
      · refine q_iconst (v := 1) hC dX5_streams_97 rfl 98 rfl ?_
        refine q_goto hC 102 dX5_streams_98 (by decide) ?_
        exact XX.sub [2, 3, 4, 5, 6, 1, 0] rfl (B102 _ hK14 M x5 (v6 + 1) 1 hw)
  have B54 : ∀ (K14 : MM → Int32 → Int32 → Int32 → Prop) (hK14 : ∀ (M : MM) (v5 : Int32) (v6 : Int32) (v7 : Int32) , K14 M v5 v6 v7 → XX z g Qf 9 14 [(0, .ref (gA g 52)), (1, .int v1), (2, .int v2), (3, .int v3), (4, .int v4), (5, .int v5), (6, .int v6), (7, .int v7)] [] M) (M : MM) (v5 : Int32) (v6 : Int32), wX5_streams_54 Q K14 v1 v2 v3 v4 M v5 v6 → XX z g Qf 9 54 [(0, .ref (gA g 52)), (1, .int v1), (2, .int v2), (3, .int v3), (4, .int v4), (5, .int v5), (6, .int v6)] [] M := by
    intro K14 hK14 M v5 v6 hw
    refine q_iload hC dX5_streams_54 5 rfl 56 rfl ?_
    exact XX.sub [0, 1, 2, 3, 4, 6] rfl (B56 _ hK14 M v6 v5 hw)
  have B14 : ∀ (n : Nat) (M : MM) (v5 : Int32) (v6 : Int32) (v7 : Int32) , wX5_streams_14 Q v1 v2 v3 v4 n M v5 v6 v7 → XX z g Qf 9 14 [(0, .ref (gA g 52)), (1, .int v1), (2, .int v2), (3, .int v3), (4, .int v4), (5, .int v5), (6, .int v6), (7, .int v7)] [] M := by
    intro n
    induction n with
    | zero =>
      intro M v5 v6 v7 hw
      exact hw.elim
    | succ n ih =>
      intro M v5 v6 v7 hw
      refine q_iload hC dX5_streams_14 6 rfl 16 rfl ?_
      refine q_iload_n hC dX5_streams_16 1 rfl 17 rfl ?_
      refine q_icmp_ge hC 142 dX5_streams_17 (by decide) 20 rfl hw (fun hw => ?_) (fun hw => ?_)
      · refine q_iload hC dX5_streams_142 5 rfl 144 rfl ?_
        exact r_iret hR dX5_streams_144 hw
      · refine q_iload hC dX5_streams_20 6 rfl 22 rfl ?_
        refine q_iload hC dX5_streams_22 4 rfl 24 rfl ?_
        refine q_iadd hC dX5_streams_24 25 rfl ?_
        refine q_iload_n hC dX5_streams_25 1 rfl 26 rfl ?_
        refine r_callI hC (go_T (As := [.int (v6 + v4), .int v1]) (rest := []) hC (ctX5_less (zl z) g M (v6 + v4) v1 _ hw) 2 gX5_streams_X5_less rfl ⟨rfl, rfl⟩ (by decide +kernel) ⟨Nat.le_of_ble_eq_true rfl, Nat.le_of_ble_eq_true rfl⟩ rfl rfl (Nat.le_of_ble_eq_true rfl) dX5_streams_26) 29 rfl (fun r2 M3 hw => ?_)
        refine q_iconst (v := 1) hC dX5_streams_29 rfl 30 rfl ?_
        refine q_isub hC dX5_streams_30 31 rfl ?_
        refine q_nameI (fun x4 ex4 => ?_)
        have hw := hw x4 ex4
        refine q_istore (L' := [(8, .int x4), (0, .ref (gA g 52)), (1, .int v1), (2, .int v2), (3, .int v3), (4, .int v4), (5, .int v5), (6, .int v6), (7, .int v7)]) hC dX5_streams_31 (by decide) rfl 33 rfl ?_
        refine q_iload hC dX5_streams_33 8 rfl 35 rfl ?_
        refine q_if_eq hC 54 dX5_streams_35 (by decide) 38 rfl hw (fun hw => ?_) (fun hw => ?_)
        · exact XX.sub [1, 2, 3, 4, 5, 6, 7] rfl (B54 _ (fun M v5 v6 v7 hw => ih M v5 v6 v7 hw) M3 v5 v6 hw)
        · refine q_iload hC dX5_streams_38 0 rfl 40 rfl ?_
          refine q_iload_n hC dX5_streams_40 4 rfl 41 rfl ?_
          refine q_imul hC dX5_streams_41 42 rfl ?_
          refine q_iload hC dX5_streams_42 6 rfl 44 rfl ?_
          refine q_icmp_le hC 54 dX5_streams_44 (by decide) 47 rfl hw (fun hw => ?_) (fun hw => ?_)
          · exact XX.sub [1, 2, 3, 4, 5, 6, 7] rfl (B54 _ (fun M v5 v6 v7 hw => ih M v5 v6 v7 hw) M3 v5 v6 hw)
          · refine q_iload hC dX5_streams_47 0 rfl 49 rfl ?_
            refine q_iload_n hC dX5_streams_49 4 rfl 50 rfl ?_
            refine q_imul hC dX5_streams_50 51 rfl ?_
            refine q_goto hC 56 dX5_streams_51 (by decide) ?_
            exact XX.sub [1, 2, 3, 4, 5, 7] rfl (B56 _ (fun M v5 v6 v7 hw => ih M v5 v6 v7 hw) M3 v6 (x4 * v3) hw)
  refine q_iconst (v := 0) hC dX5_streams_0 rfl 1 rfl ?_
  refine q_istore (L' := [(5, .int 0), (0, .ref (gA g 52)), (1, .int v1), (2, .int v2), (3, .int v3), (4, .int v4)]) hC dX5_streams_1 (by decide) rfl 3 rfl ?_
  refine q_iconst (v := 0) hC dX5_streams_3 rfl 4 rfl ?_
  refine q_istore (L' := [(6, .int 0), (5, .int 0), (0, .ref (gA g 52)), (1, .int v1), (2, .int v2), (3, .int v3), (4, .int v4)]) hC dX5_streams_4 (by decide) rfl 6 rfl ?_
  refine q_iconst (v := 1) hC dX5_streams_6 rfl 7 rfl ?_
  refine q_istore (L' := [(7, .int 1), (6, .int 0), (5, .int 0), (0, .ref (gA g 52)), (1, .int v1), (2, .int v2), (3, .int v3), (4, .int v4)]) hC dX5_streams_7 (by decide) rfl 9 rfl ?_
  refine q_aload_n hC dX5_streams_9 3 rfl 10 rfl ?_
  refine q_iconst (v := 0) hC dX5_streams_10 rfl 11 rfl ?_
  refine q_putI (C := RX5) (T := TX5) (N := 26) (ci := 5) hC inX5_streams_X5 tyX5 tyX5_ok nmX5 (hF.ob 52 (by decide) (fun _ => rfl)) rfl 21 (by decide) (List.mem_of_getElem? (i := 1) (by decide +kernel)) rfl rfl rfl (fun _ => Nat.le_of_ble_eq_true rfl) (fun _ => rfl) dX5_streams_11 14 rfl (fun M1 eM1 => ?_)
  have hw := hw M1 eM1
  obtain ⟨n0, hw⟩ := hw
  exact XX.sub [3, 4, 5, 6, 7, 2, 1, 0] rfl (B14 n0 M1 0 0 1 hw)
set_option maxRecDepth 100000 in
set_option maxHeartbeats 4000000 in
theorem ctX5_isStream (l : Launch) (g : GG) (M : MM) (v0 : Int32) (v1 : Int32) (v2 : Int32) (Q : Int32 → MM → Prop)  (hw : wX5_isStream Q M v0 v1 v2) : MI g l yX5_isStream wsX5_isStream (rmOf 1 25) [.int v0, .int v1, .int v2] M Q := by
  refine mk_MZ (cc := cX5_isStream) (maxL := 3) (by decide) rfl (Nat.le_of_ble_eq_true rfl) ?_
  intro z Qf hC hR
  show XX z g Qf 3 0 [(0, .int v0), (1, .int v1), (2, .int v2)] [] M
  have B40 : ∀ (M : MM), wX5_isStream_40 Q v0 v1 v2 M → XX z g Qf 3 40 [] [] M := by
    intro M hw
    refine q_iconst (v := 0) hC dX5_isStream_40 rfl 41 rfl ?_
    exact r_iret hR dX5_isStream_41 ⟨nb_0, hw⟩
  refine q_iload_n hC dX5_isStream_0 0 rfl 1 rfl ?_
  refine q_i2l hC dX5_isStream_1 2 rfl ?_
  refine q_lconst (v := 1) hC dX5_isStream_2 rfl 3 rfl ?_
  refine q_ldc2 (v := 99) hC (List.mem_of_getElem? (i := 1) (by decide +kernel)) dX5_isStream_3 6 rfl ?_
  refine r_callI hC (go_T (As := [.long (v0.toInt64), .long 1, .long 99]) (rest := []) hC (ctX5_in (zl z) g M (v0.toInt64) 1 99 _ hw) 3 gX5_isStream_X5_in rfl ⟨rfl, rfl⟩ (by decide +kernel) ⟨Nat.le_of_ble_eq_true rfl, Nat.le_of_ble_eq_true rfl⟩ rfl rfl (Nat.le_of_ble_eq_true rfl) dX5_isStream_6) 9 rfl (fun r1 M2 hw => ?_)
  refine q_if_eq hC 40 dX5_isStream_9 (by decide) 12 rfl hw (fun hw => ?_) (fun hw => ?_)
  · exact XX.sub [] rfl (B40 M2 hw)
  · refine q_iload_n hC dX5_isStream_12 1 rfl 13 rfl ?_
    refine q_i2l hC dX5_isStream_13 14 rfl ?_
    refine q_lconst (v := 1) hC dX5_isStream_14 rfl 15 rfl ?_
    refine q_ldc2 (v := 99) hC (List.mem_of_getElem? (i := 1) (by decide +kernel)) dX5_isStream_15 18 rfl ?_
    refine r_callI hC (go_T (As := [.long (v1.toInt64), .long 1, .long 99]) (rest := []) hC (ctX5_in (zl z) g M2 (v1.toInt64) 1 99 _ hw) 3 gX5_isStream_X5_in rfl ⟨rfl, rfl⟩ (by decide +kernel) ⟨Nat.le_of_ble_eq_true rfl, Nat.le_of_ble_eq_true rfl⟩ rfl rfl (Nat.le_of_ble_eq_true rfl) dX5_isStream_18) 21 rfl (fun r3 M4 hw => ?_)
    refine q_if_eq hC 40 dX5_isStream_21 (by decide) 24 rfl hw (fun hw => ?_) (fun hw => ?_)
    · exact XX.sub [] rfl (B40 M4 hw)
    · refine q_iload_n hC dX5_isStream_24 2 rfl 25 rfl ?_
      refine q_i2l hC dX5_isStream_25 26 rfl ?_
      refine q_lconst (v := 0) hC dX5_isStream_26 rfl 27 rfl ?_
      refine q_ldc2 (v := 9999) hC (List.mem_of_getElem? (i := 2) (by decide +kernel)) dX5_isStream_27 30 rfl ?_
      refine r_callI hC (go_T (As := [.long (v2.toInt64), .long 0, .long 9999]) (rest := []) hC (ctX5_in (zl z) g M4 (v2.toInt64) 0 9999 _ hw) 3 gX5_isStream_X5_in rfl ⟨rfl, rfl⟩ (by decide +kernel) ⟨Nat.le_of_ble_eq_true rfl, Nat.le_of_ble_eq_true rfl⟩ rfl rfl (Nat.le_of_ble_eq_true rfl) dX5_isStream_30) 33 rfl (fun r5 M6 hw => ?_)
      refine q_if_eq hC 40 dX5_isStream_33 (by decide) 36 rfl hw (fun hw => ?_) (fun hw => ?_)
      · exact XX.sub [] rfl (B40 M6 hw)
      · refine q_iconst (v := 1) hC dX5_isStream_36 rfl 37 rfl ?_
        refine q_goto hC 41 dX5_isStream_37 (by decide) ?_
        exact r_iret hR dX5_isStream_41 ⟨nb_1, hw⟩
set_option maxRecDepth 20000 in
theorem inX5_stream_X5 : ∀ w ∈ u_ws RX5 TX5 26, w ∈ wsX5_stream := by decide +kernel
set_option maxRecDepth 100000 in
set_option maxHeartbeats 4000000 in
theorem ctX5_stream (l : Launch) (g : GG) (M : MM) (v1 : Int32) (v2 : Int32) (v3 : Int32) (v4 : Int32) (v5 : Int32) (Q : Int32 → MM → Prop) (hF : full g) (hw : wX5_stream Q M v1 v2 v3 v4 v5) : MI g l yX5_stream wsX5_stream (rmOf 2 49) [.ref (gA g 52), .int v1, .int v2, .int v3, .int v4, .int v5] M Q := by
  refine mk_MI (cc := cX5_stream) (maxL := 7) (by decide) rfl (Nat.le_of_ble_eq_true rfl) ?_
  intro z Qf hC hR
  show XX z g Qf 7 0 [(0, .ref (gA g 52)), (1, .int v1), (2, .int v2), (3, .int v3), (4, .int v4), (5, .int v5)] [] M
  refine q_iload_n hC dX5_stream_0 1 rfl 1 rfl ?_
  refine q_iload_n hC dX5_stream_1 2 rfl 2 rfl ?_
  refine q_iload_n hC dX5_stream_2 3 rfl 3 rfl ?_
  refine r_callI hC (go_T (As := [.int v1, .int v2, .int v3]) (rest := []) hC (ctX5_isStream (zl z) g M v1 v2 v3 _ hw) 3 gX5_stream_X5_isStream rfl ⟨rfl, rfl⟩ (by decide +kernel) ⟨Nat.le_of_ble_eq_true rfl, Nat.le_of_ble_eq_true rfl⟩ rfl rfl (Nat.le_of_ble_eq_true rfl) dX5_stream_3) 6 rfl (fun r1 M2 hw => ?_)
  refine q_if_eq hC 33 dX5_stream_6 (by decide) 9 rfl hw (fun hw => ?_) (fun hw => ?_)
  · refine q_iconst (v := (-1)) hC dX5_stream_33 rfl 34 rfl ?_
    exact r_iret hR dX5_stream_34 hw
  · refine q_iload hC dX5_stream_9 4 rfl 11 rfl ?_
    refine q_i2l hC dX5_stream_11 12 rfl ?_
    refine q_lconst (v := 1) hC dX5_stream_12 rfl 13 rfl ?_
    refine q_ldc2 (v := 99) hC (List.mem_of_getElem? (i := 1) (by decide +kernel)) dX5_stream_13 16 rfl ?_
    refine r_callI hC (go_T (As := [.long (v4.toInt64), .long 1, .long 99]) (rest := []) hC (ctX5_in (zl z) g M2 (v4.toInt64) 1 99 _ hw) 3 gX5_stream_X5_in rfl ⟨rfl, rfl⟩ (by decide +kernel) ⟨Nat.le_of_ble_eq_true rfl, Nat.le_of_ble_eq_true rfl⟩ rfl rfl (Nat.le_of_ble_eq_true rfl) dX5_stream_16) 19 rfl (fun r3 M4 hw => ?_)
    refine q_if_eq hC 33 dX5_stream_19 (by decide) 22 rfl hw (fun hw => ?_) (fun hw => ?_)
    · refine q_iconst (v := (-1)) hC dX5_stream_33 rfl 34 rfl ?_
      exact r_iret hR dX5_stream_34 hw
    · refine q_iload hC dX5_stream_22 5 rfl 24 rfl ?_
      refine q_i2l hC dX5_stream_24 25 rfl ?_
      refine q_lconst (v := 0) hC dX5_stream_25 rfl 26 rfl ?_
      refine q_lconst (v := 1) hC dX5_stream_26 rfl 27 rfl ?_
      refine r_callI hC (go_T (As := [.long (v5.toInt64), .long 0, .long 1]) (rest := []) hC (ctX5_in (zl z) g M4 (v5.toInt64) 0 1 _ hw) 3 gX5_stream_X5_in rfl ⟨rfl, rfl⟩ (by decide +kernel) ⟨Nat.le_of_ble_eq_true rfl, Nat.le_of_ble_eq_true rfl⟩ rfl rfl (Nat.le_of_ble_eq_true rfl) dX5_stream_27) 30 rfl (fun r5 M6 hw => ?_)
      refine q_if_ne hC 35 dX5_stream_30 (by decide) 33 rfl hw (fun hw => ?_) (fun hw => ?_)
      · refine q_aload_n hC dX5_stream_35 0 rfl 36 rfl ?_
        refine q_iload_n hC dX5_stream_36 1 rfl 37 rfl ?_
        refine q_iload_n hC dX5_stream_37 2 rfl 38 rfl ?_
        refine q_iload_n hC dX5_stream_38 3 rfl 39 rfl ?_
        refine q_iload hC dX5_stream_39 4 rfl 41 rfl ?_
        refine r_callI hC (go_V (q := (RX5, TX5, 26)) (As := [.int v1, .int v2, .int v3, .int v4]) (rest := []) hC (ctX5_streams (zl z) g M6 v1 v2 v3 v4 _ hF hw) 4 gX5_stream_X5_streams rfl ⟨rfl, rfl⟩ (by decide +kernel) ⟨Nat.le_of_ble_eq_true rfl, Nat.le_of_ble_eq_true rfl⟩ (hF.ob 52 (by decide) (fun _ => rfl)) rfl rfl rfl (Nat.le_of_ble_eq_true rfl) dX5_stream_41) 44 rfl (fun r7 M8 hw => ?_)
        refine q_istore (L' := [(6, .int r7), (0, .ref (gA g 52)), (1, .int v1), (2, .int v2), (3, .int v3), (4, .int v4), (5, .int v5)]) hC dX5_stream_44 (by decide) rfl 46 rfl ?_
        refine q_iload hC dX5_stream_46 6 rfl 48 rfl ?_
        refine q_if_ne hC 56 dX5_stream_48 (by decide) 51 rfl hw (fun hw => ?_) (fun hw => ?_)
        · refine q_aload_n hC dX5_stream_56 1 rfl 57 rfl ?_
          refine q_getI (C := RX5) (T := TX5) (N := 26) (ci := 5) hC inX5_stream_X5 (hF.ob 52 (by decide) (fun _ => rfl)) rfl 21 (by decide) (List.mem_of_getElem? (i := 2) (by decide +kernel)) rfl (fun _ => rfl) dX5_stream_57 60 rfl ?_
          exact r_iret hR dX5_stream_60 hw
        · refine q_iload hC dX5_stream_51 0 rfl 53 rfl ?_
          refine q_goto hC 60 dX5_stream_53 (by decide) ?_
          exact r_iret hR dX5_stream_60 hw
      · refine q_iconst (v := (-1)) hC dX5_stream_33 rfl 34 rfl ?_
        exact r_iret hR dX5_stream_34 hw
set_option maxRecDepth 100000 in
set_option maxHeartbeats 4000000 in
theorem ctX5_buffer (l : Launch) (g : GG) (M : MM) (v1 : Int32) (v2 : Int32) (v3 : Int32) (v4 : Int32) (Q : Int32 → MM → Prop) (hF : full g) (hw : wX5_buffer Q M v1 v2 v3 v4) : MI g l yX5_buffer wsX5_buffer (rmOf 2 49) [.ref (gA g 52), .int v1, .int v2, .int v3, .int v4] M Q := by
  refine mk_MI (cc := cX5_buffer) (maxL := 9) (by decide) rfl (Nat.le_of_ble_eq_true rfl) ?_
  intro z Qf hC hR
  show XX z g Qf 9 0 [(0, .ref (gA g 52)), (1, .int v1), (2, .int v2), (3, .int v3), (4, .int v4)] [] M
  have B69 : ∀ (K38 : MM → Int32 → Int32 → Int32 → Prop) (hK38 : ∀ (M : MM) (v5 : Int32) (v6 : Int32) (v7 : Int32) , K38 M v5 v6 v7 → XX z g Qf 9 38 [(0, .ref (gA g 52)), (1, .int v1), (2, .int v2), (3, .int v3), (4, .int v4), (5, .int v5), (6, .int v6), (7, .int v7)] [] M) (M : MM) (v6 : Int32) (v7 : Int32) (v8 : Int32) (p0 : Int32), wX5_buffer_69 Q K38 v1 v2 v3 v4 M v6 v7 v8 p0 → XX z g Qf 9 69 [(0, .ref (gA g 52)), (1, .int v1), (2, .int v2), (3, .int v3), (4, .int v4), (6, .int v6), (7, .int v7), (8, .int v8)] [.int p0] M := by
    intro K38 hK38 M v6 v7 v8 p0 hw
    refine q_istore (L' := [(5, .int p0), (0, .ref (gA g 52)), (1, .int v1), (2, .int v2), (3, .int v3), (4, .int v4), (6, .int v6), (7, .int v7), (8, .int v8)]) hC dX5_buffer_69 (by decide) rfl 71 rfl ?_
    refine q_iload hC dX5_buffer_71 8 rfl 73 rfl ?_
    refine q_iload hC dX5_buffer_73 6 rfl 75 rfl ?_
    refine r_callI hC (go_T (As := [.int v8, .int v6]) (rest := []) hC (ctX5_less (zl z) g M v8 v6 _ hw) 2 gX5_buffer_X5_less rfl ⟨rfl, rfl⟩ (by decide +kernel) ⟨Nat.le_of_ble_eq_true rfl, Nat.le_of_ble_eq_true rfl⟩ rfl rfl (Nat.le_of_ble_eq_true rfl) dX5_buffer_75) 78 rfl (fun r9 M10 hw => ?_)
    refine q_istore (L' := [(6, .int r9), (5, .int p0), (0, .ref (gA g 52)), (1, .int v1), (2, .int v2), (3, .int v3), (4, .int v4), (7, .int v7), (8, .int v8)]) hC dX5_buffer_78 (by decide) rfl 80 rfl ?_
    refine q_iinc (v := v7 + 1) (L' := [(7, .int (v7 + 1)), (6, .int r9), (5, .int p0), (0, .ref (gA g 52)), (1, .int v1), (2, .int v2), (3, .int v3), (4, .int v4), (8, .int v8)]) hC dX5_buffer_80 7 rfl rfl (by decide) rfl 83 rfl ?_
    refine q_goto hC 38 dX5_buffer_83 (by decide) ?_
    exact XX.sub [3, 4, 5, 6, 7, 2, 1, 0] rfl (hK38 M10 p0 r9 (v7 + 1) hw)
  have B38 : ∀ (n : Nat) (M : MM) (v5 : Int32) (v6 : Int32) (v7 : Int32) , wX5_buffer_38 Q v1 v2 v3 v4 n M v5 v6 v7 → XX z g Qf 9 38 [(0, .ref (gA g 52)), (1, .int v1), (2, .int v2), (3, .int v3), (4, .int v4), (5, .int v5), (6, .int v6), (7, .int v7)] [] M := by
    intro n
    induction n with
    | zero =>
      intro M v5 v6 v7 hw
      exact hw.elim
    | succ n ih =>
      intro M v5 v6 v7 hw
      refine q_iload hC dX5_buffer_38 7 rfl 40 rfl ?_
      refine q_iload_n hC dX5_buffer_40 1 rfl 41 rfl ?_
      refine q_icmp_gt hC 86 dX5_buffer_41 (by decide) 44 rfl hw (fun hw => ?_) (fun hw => ?_)
      · refine q_iload hC dX5_buffer_86 4 rfl 88 rfl ?_
        refine q_if_ne hC 96 dX5_buffer_88 (by decide) 91 rfl hw (fun hw => ?_) (fun hw => ?_)
        · refine q_iload hC dX5_buffer_96 6 rfl 98 rfl ?_
          exact r_iret hR dX5_buffer_98 hw
        · refine q_iload hC dX5_buffer_91 5 rfl 93 rfl ?_
          refine q_goto hC 98 dX5_buffer_93 (by decide) ?_
          exact r_iret hR dX5_buffer_98 hw
      · refine q_aload_n hC dX5_buffer_44 0 rfl 45 rfl ?_
        refine q_iload_n hC dX5_buffer_45 1 rfl 46 rfl ?_
        refine q_iload_n hC dX5_buffer_46 2 rfl 47 rfl ?_
        refine q_iload_n hC dX5_buffer_47 3 rfl 48 rfl ?_
        refine q_iload hC dX5_buffer_48 7 rfl 50 rfl ?_
        refine r_callI hC (go_V (q := (RX5, TX5, 26)) (As := [.int v1, .int v2, .int v3, .int v7]) (rest := []) hC (ctX5_streams (zl z) g M v1 v2 v3 v7 _ hF hw) 4 gX5_buffer_X5_streams rfl ⟨rfl, rfl⟩ (by decide +kernel) ⟨Nat.le_of_ble_eq_true rfl, Nat.le_of_ble_eq_true rfl⟩ (hF.ob 52 (by decide) (fun _ => rfl)) rfl rfl rfl (Nat.le_of_ble_eq_true rfl) dX5_buffer_50) 53 rfl (fun r7 M8 hw => ?_)
        refine q_istore (L' := [(8, .int r7), (0, .ref (gA g 52)), (1, .int v1), (2, .int v2), (3, .int v3), (4, .int v4), (5, .int v5), (6, .int v6), (7, .int v7)]) hC dX5_buffer_53 (by decide) rfl 55 rfl ?_
        refine q_iload hC dX5_buffer_55 0 rfl 57 rfl ?_
        refine q_iload hC dX5_buffer_57 7 rfl 59 rfl ?_
        refine q_icmp_ge hC 67 dX5_buffer_59 (by decide) 62 rfl hw (fun hw => ?_) (fun hw => ?_)
        · refine q_iload hC dX5_buffer_67 6 rfl 69 rfl ?_
          exact XX.sub [1, 2, 3, 4, 5, 7, 8, 0] rfl (B69 _ (fun M v5 v6 v7 hw => ih M v5 v6 v7 hw) M8 v6 v7 r7 v5 hw)
        · refine q_iload hC dX5_buffer_62 8 rfl 64 rfl ?_
          refine q_goto hC 69 dX5_buffer_64 (by decide) ?_
          exact XX.sub [1, 2, 3, 4, 5, 7, 8, 0] rfl (B69 _ (fun M v5 v6 v7 hw => ih M v5 v6 v7 hw) M8 v6 v7 r7 v7 hw)
  refine q_iload_n hC dX5_buffer_0 1 rfl 1 rfl ?_
  refine q_iload_n hC dX5_buffer_1 2 rfl 2 rfl ?_
  refine q_iload_n hC dX5_buffer_2 3 rfl 3 rfl ?_
  refine r_callI hC (go_T (As := [.int v1, .int v2, .int v3]) (rest := []) hC (ctX5_isStream (zl z) g M v1 v2 v3 _ hw) 3 gX5_buffer_X5_isStream rfl ⟨rfl, rfl⟩ (by decide +kernel) ⟨Nat.le_of_ble_eq_true rfl, Nat.le_of_ble_eq_true rfl⟩ rfl rfl (Nat.le_of_ble_eq_true rfl) dX5_buffer_3) 6 rfl (fun r1 M2 hw => ?_)
  refine q_if_eq hC 20 dX5_buffer_6 (by decide) 9 rfl hw (fun hw => ?_) (fun hw => ?_)
  · refine q_iconst (v := (-1)) hC dX5_buffer_20 rfl 21 rfl ?_
    exact r_iret hR dX5_buffer_21 hw
  · refine q_iload hC dX5_buffer_9 4 rfl 11 rfl ?_
    refine q_i2l hC dX5_buffer_11 12 rfl ?_
    refine q_lconst (v := 0) hC dX5_buffer_12 rfl 13 rfl ?_
    refine q_lconst (v := 1) hC dX5_buffer_13 rfl 14 rfl ?_
    refine r_callI hC (go_T (As := [.long (v4.toInt64), .long 0, .long 1]) (rest := []) hC (ctX5_in (zl z) g M2 (v4.toInt64) 0 1 _ hw) 3 gX5_buffer_X5_in rfl ⟨rfl, rfl⟩ (by decide +kernel) ⟨Nat.le_of_ble_eq_true rfl, Nat.le_of_ble_eq_true rfl⟩ rfl rfl (Nat.le_of_ble_eq_true rfl) dX5_buffer_14) 17 rfl (fun r3 M4 hw => ?_)
    refine q_if_ne hC 22 dX5_buffer_17 (by decide) 20 rfl hw (fun hw => ?_) (fun hw => ?_)
    · refine q_iconst (v := 1) hC dX5_buffer_22 rfl 23 rfl ?_
      refine q_istore (L' := [(5, .int 1), (0, .ref (gA g 52)), (1, .int v1), (2, .int v2), (3, .int v3), (4, .int v4)]) hC dX5_buffer_23 (by decide) rfl 25 rfl ?_
      refine q_aload_n hC dX5_buffer_25 1 rfl 26 rfl ?_
      refine q_iload_n hC dX5_buffer_26 2 rfl 27 rfl ?_
      refine q_iload_n hC dX5_buffer_27 3 rfl 28 rfl ?_
      refine q_iload_n hC dX5_buffer_28 4 rfl 29 rfl ?_
      refine q_iconst (v := 1) hC dX5_buffer_29 rfl 30 rfl ?_
      refine r_callI hC (go_V (q := (RX5, TX5, 26)) (As := [.int v1, .int v2, .int v3, .int 1]) (rest := []) hC (ctX5_streams (zl z) g M4 v1 v2 v3 1 _ hF hw) 4 gX5_buffer_X5_streams rfl ⟨rfl, rfl⟩ (by decide +kernel) ⟨Nat.le_of_ble_eq_true rfl, Nat.le_of_ble_eq_true rfl⟩ (hF.ob 52 (by decide) (fun _ => rfl)) rfl rfl rfl (Nat.le_of_ble_eq_true rfl) dX5_buffer_30) 33 rfl (fun r5 M6 hw => ?_)
      refine q_istore (L' := [(6, .int r5), (5, .int 1), (0, .ref (gA g 52)), (1, .int v1), (2, .int v2), (3, .int v3), (4, .int v4)]) hC dX5_buffer_33 (by decide) rfl 35 rfl ?_
      refine q_iconst (v := 2) hC dX5_buffer_35 rfl 36 rfl ?_
      refine q_istore (L' := [(7, .int 2), (6, .int r5), (5, .int 1), (0, .ref (gA g 52)), (1, .int v1), (2, .int v2), (3, .int v3), (4, .int v4)]) hC dX5_buffer_36 (by decide) rfl 38 rfl ?_
      obtain ⟨n0, hw⟩ := hw
      exact XX.sub [3, 4, 5, 6, 7, 2, 1, 0] rfl (B38 n0 M6 1 r5 2 hw)
    · refine q_iconst (v := (-1)) hC dX5_buffer_20 rfl 21 rfl ?_
      exact r_iret hR dX5_buffer_21 hw
set_option maxRecDepth 20000 in
theorem inX5_saw_X5 : ∀ w ∈ u_ws RX5 TX5 26, w ∈ wsX5_saw := by decide +kernel
set_option maxRecDepth 100000 in
set_option maxHeartbeats 4000000 in
theorem ctX5_saw (l : Launch) (g : GG) (M : MM) (v1 : Int32) (v2 : Int32) (Q : Int32 → MM → Prop) (hF : full g) (hw : wX5_saw Q M v1 v2) : MI g l yX5_saw wsX5_saw (rmOf 1 25) [.ref (gA g 52), .int v1, .int v2] M Q := by
  refine mk_MI (cc := cX5_saw) (maxL := 3) (by decide) rfl (Nat.le_of_ble_eq_true rfl) ?_
  intro z Qf hC hR
  show XX z g Qf 3 0 [(0, .ref (gA g 52)), (1, .int v1), (2, .int v2)] [] M
  refine q_iload_n hC dX5_saw_0 1 rfl 1 rfl ?_
  refine q_i2l hC dX5_saw_1 2 rfl ?_
  refine q_lconst (v := 0) hC dX5_saw_2 rfl 3 rfl ?_
  refine q_ldc2 (v := 999) hC (List.mem_of_getElem? (i := 1) (by decide +kernel)) dX5_saw_3 6 rfl ?_
  refine r_callI hC (go_T (As := [.long (v1.toInt64), .long 0, .long 999]) (rest := []) hC (ctX5_in (zl z) g M (v1.toInt64) 0 999 _ hw) 3 gX5_saw_X5_in rfl ⟨rfl, rfl⟩ (by decide +kernel) ⟨Nat.le_of_ble_eq_true rfl, Nat.le_of_ble_eq_true rfl⟩ rfl rfl (Nat.le_of_ble_eq_true rfl) dX5_saw_6) 9 rfl (fun r1 M2 hw => ?_)
  refine q_if_eq hC 24 dX5_saw_9 (by decide) 12 rfl hw (fun hw => ?_) (fun hw => ?_)
  · refine q_iconst (v := (-1)) hC dX5_saw_24 rfl 25 rfl ?_
    exact r_iret hR dX5_saw_25 hw
  · refine q_iload_n hC dX5_saw_12 2 rfl 13 rfl ?_
    refine q_i2l hC dX5_saw_13 14 rfl ?_
    refine q_lconst (v := 0) hC dX5_saw_14 rfl 15 rfl ?_
    refine q_ldc2 (v := 9999) hC (List.mem_of_getElem? (i := 2) (by decide +kernel)) dX5_saw_15 18 rfl ?_
    refine r_callI hC (go_T (As := [.long (v2.toInt64), .long 0, .long 9999]) (rest := []) hC (ctX5_in (zl z) g M2 (v2.toInt64) 0 9999 _ hw) 3 gX5_saw_X5_in rfl ⟨rfl, rfl⟩ (by decide +kernel) ⟨Nat.le_of_ble_eq_true rfl, Nat.le_of_ble_eq_true rfl⟩ rfl rfl (Nat.le_of_ble_eq_true rfl) dX5_saw_18) 21 rfl (fun r3 M4 hw => ?_)
    refine q_if_ne hC 26 dX5_saw_21 (by decide) 24 rfl hw (fun hw => ?_) (fun hw => ?_)
    · refine q_aload_n hC dX5_saw_26 0 rfl 27 rfl ?_
      refine q_getR (C := RX5) (T := TX5) (N := 26) (ci := 5) hC inX5_saw_X5 (hF.ob 52 (by decide) (fun _ => rfl)) rfl 0 (by decide) (List.mem_of_getElem? (i := 3) (by decide +kernel)) rfl 53 (fun _ => rfl) dX5_saw_27 30 rfl ?_
      refine q_sipush (v := 341) hC dX5_saw_30 (by decide) 33 rfl ?_
      obtain ⟨hin, hw⟩ := hw
      refine q_iald hC (hF.ar 53 (by decide) (fun _ => rfl)) hin dX5_saw_33 34 rfl ?_
      refine q_bipush (v := 12) hC dX5_saw_34 (by decide) 36 rfl ?_
      refine q_icmp_ne hC 42 dX5_saw_36 (by decide) 39 rfl hw (fun hw => ?_) (fun hw => ?_)
      · refine q_aload_n hC dX5_saw_42 0 rfl 43 rfl ?_
        refine q_getR (C := RX5) (T := TX5) (N := 26) (ci := 5) hC inX5_saw_X5 (hF.ob 52 (by decide) (fun _ => rfl)) rfl 0 (by decide) (List.mem_of_getElem? (i := 3) (by decide +kernel)) rfl 53 (fun _ => rfl) dX5_saw_43 46 rfl ?_
        refine q_sipush (v := 342) hC dX5_saw_46 (by decide) 49 rfl ?_
        refine q_iconst (v := 2) hC dX5_saw_49 rfl 50 rfl ?_
        refine q_aload_n hC dX5_saw_50 0 rfl 51 rfl ?_
        refine q_getR (C := RX5) (T := TX5) (N := 26) (ci := 5) hC inX5_saw_X5 (hF.ob 52 (by decide) (fun _ => rfl)) rfl 0 (by decide) (List.mem_of_getElem? (i := 3) (by decide +kernel)) rfl 53 (fun _ => rfl) dX5_saw_51 54 rfl ?_
        refine q_sipush (v := 341) hC dX5_saw_54 (by decide) 57 rfl ?_
        obtain ⟨hin, hw⟩ := hw
        refine q_iald hC (hF.ar 53 (by decide) (fun _ => rfl)) hin dX5_saw_57 58 rfl ?_
        refine q_imul hC dX5_saw_58 59 rfl ?_
        refine q_iadd hC dX5_saw_59 60 rfl ?_
        refine q_iload_n hC dX5_saw_60 1 rfl 61 rfl ?_
        obtain ⟨hin, hw⟩ := hw
        refine q_iast hC (hF.ar 53 (by decide) (fun _ => rfl)) hin dX5_saw_61 62 rfl (fun M5 eM5 => ?_)
        have hw := hw M5 eM5
        refine q_aload_n hC dX5_saw_62 0 rfl 63 rfl ?_
        refine q_getR (C := RX5) (T := TX5) (N := 26) (ci := 5) hC inX5_saw_X5 (hF.ob 52 (by decide) (fun _ => rfl)) rfl 0 (by decide) (List.mem_of_getElem? (i := 3) (by decide +kernel)) rfl 53 (fun _ => rfl) dX5_saw_63 66 rfl ?_
        refine q_sipush (v := 342) hC dX5_saw_66 (by decide) 69 rfl ?_
        refine q_iconst (v := 2) hC dX5_saw_69 rfl 70 rfl ?_
        refine q_aload_n hC dX5_saw_70 0 rfl 71 rfl ?_
        refine q_getR (C := RX5) (T := TX5) (N := 26) (ci := 5) hC inX5_saw_X5 (hF.ob 52 (by decide) (fun _ => rfl)) rfl 0 (by decide) (List.mem_of_getElem? (i := 3) (by decide +kernel)) rfl 53 (fun _ => rfl) dX5_saw_71 74 rfl ?_
        refine q_sipush (v := 341) hC dX5_saw_74 (by decide) 77 rfl ?_
        obtain ⟨hin, hw⟩ := hw
        refine q_iald hC (hF.ar 53 (by decide) (fun _ => rfl)) hin dX5_saw_77 78 rfl ?_
        refine q_imul hC dX5_saw_78 79 rfl ?_
        refine q_iadd hC dX5_saw_79 80 rfl ?_
        refine q_iconst (v := 1) hC dX5_saw_80 rfl 81 rfl ?_
        refine q_iadd hC dX5_saw_81 82 rfl ?_
        refine q_iload_n hC dX5_saw_82 2 rfl 83 rfl ?_
        obtain ⟨hin, hw⟩ := hw
        refine q_iast hC (hF.ar 53 (by decide) (fun _ => rfl)) hin dX5_saw_83 84 rfl (fun M6 eM6 => ?_)
        have hw := hw M6 eM6
        refine q_aload_n hC dX5_saw_84 0 rfl 85 rfl ?_
        refine q_getR (C := RX5) (T := TX5) (N := 26) (ci := 5) hC inX5_saw_X5 (hF.ob 52 (by decide) (fun _ => rfl)) rfl 0 (by decide) (List.mem_of_getElem? (i := 3) (by decide +kernel)) rfl 53 (fun _ => rfl) dX5_saw_85 88 rfl ?_
        refine q_sipush (v := 341) hC dX5_saw_88 (by decide) 91 rfl ?_
        refine q_dup2 hC dX5_saw_91 rfl rfl 92 rfl ?_
        obtain ⟨hin, hw⟩ := hw
        refine q_iald hC (hF.ar 53 (by decide) (fun _ => rfl)) hin dX5_saw_92 93 rfl ?_
        refine q_iconst (v := 1) hC dX5_saw_93 rfl 94 rfl ?_
        refine q_iadd hC dX5_saw_94 95 rfl ?_
        obtain ⟨hin, hw⟩ := hw
        refine q_iast hC (hF.ar 53 (by decide) (fun _ => rfl)) hin dX5_saw_95 96 rfl (fun M7 eM7 => ?_)
        have hw := hw M7 eM7
        refine q_aload_n hC dX5_saw_96 0 rfl 97 rfl ?_
        refine q_getR (C := RX5) (T := TX5) (N := 26) (ci := 5) hC inX5_saw_X5 (hF.ob 52 (by decide) (fun _ => rfl)) rfl 0 (by decide) (List.mem_of_getElem? (i := 3) (by decide +kernel)) rfl 53 (fun _ => rfl) dX5_saw_97 100 rfl ?_
        refine q_sipush (v := 341) hC dX5_saw_100 (by decide) 103 rfl ?_
        obtain ⟨hin, hw⟩ := hw
        refine q_iald hC (hF.ar 53 (by decide) (fun _ => rfl)) hin dX5_saw_103 104 rfl ?_
        exact r_iret hR dX5_saw_104 hw
      · refine q_bipush (v := (-3)) hC dX5_saw_39 (by decide) 41 rfl ?_
        exact r_iret hR dX5_saw_41 hw
    · refine q_iconst (v := (-1)) hC dX5_saw_24 rfl 25 rfl ?_
      exact r_iret hR dX5_saw_25 hw
set_option maxRecDepth 20000 in
theorem inX5_forget_X5 : ∀ w ∈ u_ws RX5 TX5 26, w ∈ wsX5_forget := by decide +kernel
set_option maxRecDepth 100000 in
set_option maxHeartbeats 4000000 in
theorem ctX5_forget (l : Launch) (g : GG) (M : MM)  (Q : Int32 → MM → Prop) (hF : full g) (hw : wX5_forget Q M ) : MI g l yX5_forget wsX5_forget (rmOf 0 0) [.ref (gA g 52)] M Q := by
  refine mk_MI (cc := cX5_forget) (maxL := 2) (by decide) rfl (Nat.le_of_ble_eq_true rfl) ?_
  intro z Qf hC hR
  show XX z g Qf 2 0 [(0, .ref (gA g 52))] [] M
  refine q_aload_n hC dX5_forget_0 0 rfl 1 rfl ?_
  refine q_getR (C := RX5) (T := TX5) (N := 26) (ci := 5) hC inX5_forget_X5 (hF.ob 52 (by decide) (fun _ => rfl)) rfl 0 (by decide) (List.mem_of_getElem? (i := 1) (by decide +kernel)) rfl 53 (fun _ => rfl) dX5_forget_1 4 rfl ?_
  refine q_sipush (v := 341) hC dX5_forget_4 (by decide) 7 rfl ?_
  obtain ⟨hin, hw⟩ := hw
  refine q_iald hC (hF.ar 53 (by decide) (fun _ => rfl)) hin dX5_forget_7 8 rfl ?_
  refine q_nameI (fun x1 ex1 => ?_)
  have hw := hw x1 ex1
  refine q_istore_n (L' := [(1, .int x1), (0, .ref (gA g 52))]) hC dX5_forget_8 (by decide) rfl 9 rfl ?_
  refine q_aload_n hC dX5_forget_9 1 rfl 10 rfl ?_
  refine q_getR (C := RX5) (T := TX5) (N := 26) (ci := 5) hC inX5_forget_X5 (hF.ob 52 (by decide) (fun _ => rfl)) rfl 0 (by decide) (List.mem_of_getElem? (i := 1) (by decide +kernel)) rfl 53 (fun _ => rfl) dX5_forget_10 13 rfl ?_
  refine q_sipush (v := 341) hC dX5_forget_13 (by decide) 16 rfl ?_
  refine q_iconst (v := 0) hC dX5_forget_16 rfl 17 rfl ?_
  obtain ⟨hin, hw⟩ := hw
  refine q_iast hC (hF.ar 53 (by decide) (fun _ => rfl)) hin dX5_forget_17 18 rfl (fun M2 eM2 => ?_)
  have hw := hw M2 eM2
  refine q_iload_n hC dX5_forget_18 0 rfl 19 rfl ?_
  exact r_iret hR dX5_forget_19 hw
set_option maxRecDepth 20000 in
theorem inX5_canBe_X5 : ∀ w ∈ u_ws RX5 TX5 26, w ∈ wsX5_canBe := by decide +kernel
set_option maxRecDepth 100000 in
set_option maxHeartbeats 4000000 in
theorem ctX5_canBe (l : Launch) (g : GG) (M : MM) (v1 : Int32) (v2 : Int32) (Q : Int32 → MM → Prop) (hF : full g) (hw : wX5_canBe Q M v1 v2) : MI g l yX5_canBe wsX5_canBe (rmOf 1 24) [.ref (gA g 52), .int v1, .int v2] M Q := by
  refine mk_MZ (cc := cX5_canBe) (maxL := 4) (by decide) rfl (Nat.le_of_ble_eq_true rfl) ?_
  intro z Qf hC hR
  show XX z g Qf 4 0 [(0, .ref (gA g 52)), (1, .int v1), (2, .int v2)] [] M
  have B2 : ∀ (n : Nat) (M : MM) (v3 : Int32) , wX5_canBe_2 Q v1 v2 n M v3 → XX z g Qf 4 2 [(0, .ref (gA g 52)), (1, .int v1), (2, .int v2), (3, .int v3)] [] M := by
    intro n
    induction n with
    | zero =>
      intro M v3 hw
      exact hw.elim
    | succ n ih =>
      intro M v3 hw
      refine q_iload_n hC dX5_canBe_2 3 rfl 3 rfl ?_
      refine q_aload_n hC dX5_canBe_3 0 rfl 4 rfl ?_
      refine q_getR (C := RX5) (T := TX5) (N := 26) (ci := 5) hC inX5_canBe_X5 (hF.ob 52 (by decide) (fun _ => rfl)) rfl 0 (by decide) (List.mem_of_getElem? (i := 1) (by decide +kernel)) rfl 53 (fun _ => rfl) dX5_canBe_4 7 rfl ?_
      refine q_sipush (v := 341) hC dX5_canBe_7 (by decide) 10 rfl ?_
      obtain ⟨hin, hw⟩ := hw
      refine q_iald hC (hF.ar 53 (by decide) (fun _ => rfl)) hin dX5_canBe_10 11 rfl ?_
      refine q_icmp_ge hC 56 dX5_canBe_11 (by decide) 14 rfl hw (fun hw => ?_) (fun hw => ?_)
      · refine q_iconst (v := 1) hC dX5_canBe_56 rfl 57 rfl ?_
        exact r_iret hR dX5_canBe_57 ⟨nb_1, hw⟩
      · refine q_aload_n hC dX5_canBe_14 0 rfl 15 rfl ?_
        refine q_getR (C := RX5) (T := TX5) (N := 26) (ci := 5) hC inX5_canBe_X5 (hF.ob 52 (by decide) (fun _ => rfl)) rfl 0 (by decide) (List.mem_of_getElem? (i := 1) (by decide +kernel)) rfl 53 (fun _ => rfl) dX5_canBe_15 18 rfl ?_
        refine q_sipush (v := 342) hC dX5_canBe_18 (by decide) 21 rfl ?_
        refine q_iconst (v := 2) hC dX5_canBe_21 rfl 22 rfl ?_
        refine q_iload_n hC dX5_canBe_22 3 rfl 23 rfl ?_
        refine q_imul hC dX5_canBe_23 24 rfl ?_
        refine q_iadd hC dX5_canBe_24 25 rfl ?_
        refine q_iconst (v := 1) hC dX5_canBe_25 rfl 26 rfl ?_
        refine q_iadd hC dX5_canBe_26 27 rfl ?_
        obtain ⟨hin, hw⟩ := hw
        refine q_iald hC (hF.ar 53 (by decide) (fun _ => rfl)) hin dX5_canBe_27 28 rfl ?_
        refine q_iload_n hC dX5_canBe_28 1 rfl 29 rfl ?_
        refine q_iload_n hC dX5_canBe_29 2 rfl 30 rfl ?_
        refine r_callI hC (go_T (As := [.int (M 53 (((342 : Int32) + ((2 : Int32) * v3)) + (1 : Int32)).toNatClampNeg), .int v1, .int v2]) (rest := []) hC (ctX5_turnsOf (zl z) g M (M 53 (((342 : Int32) + ((2 : Int32) * v3)) + (1 : Int32)).toNatClampNeg) v1 v2 _ hw) 3 gX5_canBe_X5_turnsOf rfl ⟨rfl, rfl⟩ (by decide +kernel) ⟨Nat.le_of_ble_eq_true rfl, Nat.le_of_ble_eq_true rfl⟩ rfl rfl (Nat.le_of_ble_eq_true rfl) dX5_canBe_30) 33 rfl (fun r1 M2 hw => ?_)
        refine q_aload_n hC dX5_canBe_33 0 rfl 34 rfl ?_
        refine q_getR (C := RX5) (T := TX5) (N := 26) (ci := 5) hC inX5_canBe_X5 (hF.ob 52 (by decide) (fun _ => rfl)) rfl 0 (by decide) (List.mem_of_getElem? (i := 1) (by decide +kernel)) rfl 53 (fun _ => rfl) dX5_canBe_34 37 rfl ?_
        refine q_sipush (v := 342) hC dX5_canBe_37 (by decide) 40 rfl ?_
        refine q_iconst (v := 2) hC dX5_canBe_40 rfl 41 rfl ?_
        refine q_iload_n hC dX5_canBe_41 3 rfl 42 rfl ?_
        refine q_imul hC dX5_canBe_42 43 rfl ?_
        refine q_iadd hC dX5_canBe_43 44 rfl ?_
        obtain ⟨hin, hw⟩ := hw
        refine q_iald hC (hF.ar 53 (by decide) (fun _ => rfl)) hin dX5_canBe_44 45 rfl ?_
        refine q_icmp_eq hC 50 dX5_canBe_45 (by decide) 48 rfl hw (fun hw => ?_) (fun hw => ?_)
        · refine q_iinc (v := v3 + 1) (L' := [(3, .int (v3 + 1)), (0, .ref (gA g 52)), (1, .int v1), (2, .int v2)]) hC dX5_canBe_50 3 rfl rfl (by decide) rfl 53 rfl ?_
          refine q_goto hC 2 dX5_canBe_53 (by decide) ?_
          exact XX.sub [1, 2, 3, 0] rfl (ih M2 (v3 + 1) hw)
        · refine q_iconst (v := 0) hC dX5_canBe_48 rfl 49 rfl ?_
          exact r_iret hR dX5_canBe_49 ⟨nb_0, hw⟩
  refine q_iconst (v := 0) hC dX5_canBe_0 rfl 1 rfl ?_
  refine q_istore_n (L' := [(3, .int 0), (0, .ref (gA g 52)), (1, .int v1), (2, .int v2)]) hC dX5_canBe_1 (by decide) rfl 2 rfl ?_
  obtain ⟨n0, hw⟩ := hw
  exact XX.sub [1, 2, 3, 0] rfl (B2 n0 M 0 hw)
set_option maxRecDepth 100000 in
set_option maxHeartbeats 4000000 in
theorem ctX5_fits (l : Launch) (g : GG) (M : MM) (v1 : Int32) (Q : Int32 → MM → Prop) (hF : full g) (hw : wX5_fits Q M v1) : MI g l yX5_fits wsX5_fits (rmOf 2 47) [.ref (gA g 52), .int v1] M Q := by
  refine mk_MI (cc := cX5_fits) (maxL := 6) (by decide) rfl (Nat.le_of_ble_eq_true rfl) ?_
  intro z Qf hC hR
  show XX z g Qf 6 0 [(0, .ref (gA g 52)), (1, .int v1)] [] M
  have B72 : ∀ (K22 : MM → Int32 → Int32 → Int32 → Prop) (hK22 : ∀ (M : MM) (v2 : Int32) (v3 : Int32) (v4 : Int32) , K22 M v2 v3 v4 → XX z g Qf 6 22 [(0, .ref (gA g 52)), (1, .int v1), (2, .int v2), (3, .int v3), (4, .int v4)] [] M) (K32 : MM → Int32 → Int32 → Int32 → Int32 → Prop) (hK32 : ∀ (M : MM) (v2 : Int32) (v3 : Int32) (v4 : Int32) (v5 : Int32) , K32 M v2 v3 v4 v5 → XX z g Qf 6 32 [(0, .ref (gA g 52)), (1, .int v1), (2, .int v2), (3, .int v3), (4, .int v4), (5, .int v5)] [] M) (M : MM) (v2 : Int32) (v3 : Int32) (v4 : Int32) (v5 : Int32), wX5_fits_72 Q K22 K32 v1 M v2 v3 v4 v5 → XX z g Qf 6 72 [(0, .ref (gA g 52)), (1, .int v1), (2, .int v2), (3, .int v3), (4, .int v4), (5, .int v5)] [] M := by
    intro K22 hK22 K32 hK32 M v2 v3 v4 v5 hw
    refine q_iinc (v := v5 + 1) (L' := [(5, .int (v5 + 1)), (0, .ref (gA g 52)), (1, .int v1), (2, .int v2), (3, .int v3), (4, .int v4)]) hC dX5_fits_72 5 rfl rfl (by decide) rfl 75 rfl ?_
    refine q_goto hC 32 dX5_fits_75 (by decide) ?_
    exact XX.sub [1, 2, 3, 4, 5, 0] rfl (hK32 M v2 v3 v4 (v5 + 1) hw)
  have B68 : ∀ (K22 : MM → Int32 → Int32 → Int32 → Prop) (hK22 : ∀ (M : MM) (v2 : Int32) (v3 : Int32) (v4 : Int32) , K22 M v2 v3 v4 → XX z g Qf 6 22 [(0, .ref (gA g 52)), (1, .int v1), (2, .int v2), (3, .int v3), (4, .int v4)] [] M) (K32 : MM → Int32 → Int32 → Int32 → Int32 → Prop) (hK32 : ∀ (M : MM) (v2 : Int32) (v3 : Int32) (v4 : Int32) (v5 : Int32) , K32 M v2 v3 v4 v5 → XX z g Qf 6 32 [(0, .ref (gA g 52)), (1, .int v1), (2, .int v2), (3, .int v3), (4, .int v4), (5, .int v5)] [] M) (M : MM) (v2 : Int32) (v4 : Int32) (v5 : Int32) (p0 : Int32), wX5_fits_68 Q K22 K32 v1 M v2 v4 v5 p0 → XX z g Qf 6 68 [(0, .ref (gA g 52)), (1, .int v1), (2, .int v2), (4, .int v4), (5, .int v5)] [.int p0] M := by
    intro K22 hK22 K32 hK32 M v2 v4 v5 p0 hw
    refine q_istore_n (L' := [(3, .int p0), (0, .ref (gA g 52)), (1, .int v1), (2, .int v2), (4, .int v4), (5, .int v5)]) hC dX5_fits_68 (by decide) rfl 69 rfl ?_
    refine q_iinc (v := v2 + 1) (L' := [(2, .int (v2 + 1)), (3, .int p0), (0, .ref (gA g 52)), (1, .int v1), (4, .int v4), (5, .int v5)]) hC dX5_fits_69 3 rfl rfl (by decide) rfl 72 rfl ?_
    exact XX.sub [2, 3, 0, 1, 4, 5] rfl (B72 _ hK22 _ hK32 M (v2 + 1) p0 v4 v5 hw)
  have B32 : ∀ (K22 : MM → Int32 → Int32 → Int32 → Prop) (hK22 : ∀ (M : MM) (v2 : Int32) (v3 : Int32) (v4 : Int32) , K22 M v2 v3 v4 → XX z g Qf 6 22 [(0, .ref (gA g 52)), (1, .int v1), (2, .int v2), (3, .int v3), (4, .int v4)] [] M) (n : Nat) (M : MM) (v2 : Int32) (v3 : Int32) (v4 : Int32) (v5 : Int32) , wX5_fits_32 Q K22 v1 n M v2 v3 v4 v5 → XX z g Qf 6 32 [(0, .ref (gA g 52)), (1, .int v1), (2, .int v2), (3, .int v3), (4, .int v4), (5, .int v5)] [] M := by
    intro K22 hK22 n
    induction n with
    | zero =>
      intro M v2 v3 v4 v5 hw
      exact hw.elim
    | succ n ih =>
      intro M v2 v3 v4 v5 hw
      refine q_iload hC dX5_fits_32 5 rfl 34 rfl ?_
      refine q_bipush (v := 10) hC dX5_fits_34 (by decide) 36 rfl ?_
      refine q_icmp_ge hC 78 dX5_fits_36 (by decide) 39 rfl hw (fun hw => ?_) (fun hw => ?_)
      · refine q_iinc (v := v4 + 1) (L' := [(4, .int (v4 + 1)), (0, .ref (gA g 52)), (1, .int v1), (2, .int v2), (3, .int v3), (5, .int v5)]) hC dX5_fits_78 4 rfl rfl (by decide) rfl 81 rfl ?_
        refine q_goto hC 22 dX5_fits_81 (by decide) ?_
        exact XX.sub [1, 2, 3, 4, 0] rfl (hK22 M v2 v3 (v4 + 1) hw)
      · refine q_aload_n hC dX5_fits_39 0 rfl 40 rfl ?_
        refine q_iload hC dX5_fits_40 4 rfl 42 rfl ?_
        refine q_iload hC dX5_fits_42 5 rfl 44 rfl ?_
        refine r_callI hC (go_V (q := (RX5, TX5, 26)) (As := [.int v4, .int v5]) (rest := []) hC (ctX5_canBe (zl z) g M v4 v5 _ hF hw) 2 gX5_fits_X5_canBe rfl ⟨rfl, rfl⟩ (by decide +kernel) ⟨Nat.le_of_ble_eq_true rfl, Nat.le_of_ble_eq_true rfl⟩ (hF.ob 52 (by decide) (fun _ => rfl)) rfl rfl rfl (Nat.le_of_ble_eq_true rfl) dX5_fits_44) 47 rfl (fun r3 M4 hw => ?_)
        refine q_if_eq hC 72 dX5_fits_47 (by decide) 50 rfl hw (fun hw => ?_) (fun hw => ?_)
        · exact XX.sub [0, 1, 2, 3, 4, 5] rfl (B72 _ hK22 _ (fun M v2 v3 v4 v5 hw => ih M v2 v3 v4 v5 hw) M4 v2 v3 v4 v5 hw)
        · refine q_iload_n hC dX5_fits_50 3 rfl 51 rfl ?_
          refine q_bipush (v := (-4)) hC dX5_fits_51 (by decide) 53 rfl ?_
          refine q_icmp_ne hC 67 dX5_fits_53 (by decide) 56 rfl hw (fun hw => ?_) (fun hw => ?_)
          · refine q_iload_n hC dX5_fits_67 3 rfl 68 rfl ?_
            exact XX.sub [0, 1, 2, 4, 5] rfl (B68 _ hK22 _ (fun M v2 v3 v4 v5 hw => ih M v2 v3 v4 v5 hw) M4 v2 v4 v5 v3 hw)
          · refine q_bipush (v := 10) hC dX5_fits_56 (by decide) 58 rfl ?_
            refine q_iload hC dX5_fits_58 4 rfl 60 rfl ?_
            refine q_imul hC dX5_fits_60 61 rfl ?_
            refine q_iload hC dX5_fits_61 5 rfl 63 rfl ?_
            refine q_iadd hC dX5_fits_63 64 rfl ?_
            refine q_goto hC 68 dX5_fits_64 (by decide) ?_
            exact XX.sub [0, 1, 2, 4, 5] rfl (B68 _ hK22 _ (fun M v2 v3 v4 v5 hw => ih M v2 v3 v4 v5 hw) M4 v2 v4 v5 (((10 : Int32) * v4) + v5) hw)
  have B22 : ∀ (n : Nat) (M : MM) (v2 : Int32) (v3 : Int32) (v4 : Int32) , wX5_fits_22 Q v1 n M v2 v3 v4 → XX z g Qf 6 22 [(0, .ref (gA g 52)), (1, .int v1), (2, .int v2), (3, .int v3), (4, .int v4)] [] M := by
    intro n
    induction n with
    | zero =>
      intro M v2 v3 v4 hw
      exact hw.elim
    | succ n ih =>
      intro M v2 v3 v4 hw
      refine q_iload hC dX5_fits_22 4 rfl 24 rfl ?_
      refine q_bipush (v := 100) hC dX5_fits_24 (by decide) 26 rfl ?_
      refine q_icmp_ge hC 84 dX5_fits_26 (by decide) 29 rfl hw (fun hw => ?_) (fun hw => ?_)
      · refine q_iload_n hC dX5_fits_84 1 rfl 85 rfl ?_
        refine q_if_ne hC 92 dX5_fits_85 (by decide) 88 rfl hw (fun hw => ?_) (fun hw => ?_)
        · refine q_iload_n hC dX5_fits_92 3 rfl 93 rfl ?_
          refine q_bipush (v := (-4)) hC dX5_fits_93 (by decide) 95 rfl ?_
          refine q_icmp_ne hC 103 dX5_fits_95 (by decide) 98 rfl hw (fun hw => ?_) (fun hw => ?_)
          · refine q_iload_n hC dX5_fits_103 1 rfl 104 rfl ?_
            refine q_iconst (v := 1) hC dX5_fits_104 rfl 105 rfl ?_
            refine q_icmp_ne hC 115 dX5_fits_105 (by decide) 108 rfl hw (fun hw => ?_) (fun hw => ?_)
            · refine q_iload_n hC dX5_fits_115 3 rfl 116 rfl ?_
              refine q_bipush (v := 10) hC dX5_fits_116 (by decide) 118 rfl ?_
              refine q_irem hC dX5_fits_118 (by decide) 119 rfl ?_
              exact r_iret hR dX5_fits_119 hw
            · refine q_iload_n hC dX5_fits_108 3 rfl 109 rfl ?_
              refine q_bipush (v := 10) hC dX5_fits_109 (by decide) 111 rfl ?_
              refine q_idiv hC dX5_fits_111 (by decide) 112 rfl ?_
              refine q_goto hC 119 dX5_fits_112 (by decide) ?_
              exact r_iret hR dX5_fits_119 hw
          · refine q_bipush (v := (-4)) hC dX5_fits_98 (by decide) 100 rfl ?_
            refine q_goto hC 119 dX5_fits_100 (by decide) ?_
            exact r_iret hR dX5_fits_119 hw
        · refine q_iload_n hC dX5_fits_88 2 rfl 89 rfl ?_
          refine q_goto hC 119 dX5_fits_89 (by decide) ?_
          exact r_iret hR dX5_fits_119 hw
      · refine q_iconst (v := 1) hC dX5_fits_29 rfl 30 rfl ?_
        refine q_istore (L' := [(5, .int 1), (0, .ref (gA g 52)), (1, .int v1), (2, .int v2), (3, .int v3), (4, .int v4)]) hC dX5_fits_30 (by decide) rfl 32 rfl ?_
        obtain ⟨n0, hw⟩ := hw
        exact XX.sub [1, 2, 3, 4, 5, 0] rfl (B32 _ (fun M v2 v3 v4 hw => ih M v2 v3 v4 hw) n0 M v2 v3 v4 1 hw)
  refine q_iload_n hC dX5_fits_0 1 rfl 1 rfl ?_
  refine q_i2l hC dX5_fits_1 2 rfl ?_
  refine q_lconst (v := 0) hC dX5_fits_2 rfl 3 rfl ?_
  refine q_ldc2 (v := 2) hC (List.mem_of_getElem? (i := 1) (by decide +kernel)) dX5_fits_3 6 rfl ?_
  refine r_callI hC (go_T (As := [.long (v1.toInt64), .long 0, .long 2]) (rest := []) hC (ctX5_in (zl z) g M (v1.toInt64) 0 2 _ hw) 3 gX5_fits_X5_in rfl ⟨rfl, rfl⟩ (by decide +kernel) ⟨Nat.le_of_ble_eq_true rfl, Nat.le_of_ble_eq_true rfl⟩ rfl rfl (Nat.le_of_ble_eq_true rfl) dX5_fits_6) 9 rfl (fun r1 M2 hw => ?_)
  refine q_if_ne hC 14 dX5_fits_9 (by decide) 12 rfl hw (fun hw => ?_) (fun hw => ?_)
  · refine q_iconst (v := 0) hC dX5_fits_14 rfl 15 rfl ?_
    refine q_istore_n (L' := [(2, .int 0), (0, .ref (gA g 52)), (1, .int v1)]) hC dX5_fits_15 (by decide) rfl 16 rfl ?_
    refine q_bipush (v := (-4)) hC dX5_fits_16 (by decide) 18 rfl ?_
    refine q_istore_n (L' := [(3, .int (-4)), (2, .int 0), (0, .ref (gA g 52)), (1, .int v1)]) hC dX5_fits_18 (by decide) rfl 19 rfl ?_
    refine q_iconst (v := 5) hC dX5_fits_19 rfl 20 rfl ?_
    refine q_istore (L' := [(4, .int 5), (3, .int (-4)), (2, .int 0), (0, .ref (gA g 52)), (1, .int v1)]) hC dX5_fits_20 (by decide) rfl 22 rfl ?_
    obtain ⟨n0, hw⟩ := hw
    exact XX.sub [3, 4, 2, 1, 0] rfl (B22 n0 M2 0 (-4) 5 hw)
  · refine q_iconst (v := (-1)) hC dX5_fits_12 rfl 13 rfl ?_
    exact r_iret hR dX5_fits_13 hw
set_option maxRecDepth 20000 in
theorem inX5_copies_X5 : ∀ w ∈ u_ws RX5 TX5 26, w ∈ wsX5_copies := by decide +kernel
set_option maxRecDepth 100000 in
set_option maxHeartbeats 4000000 in
theorem ctX5_copies (l : Launch) (g : GG) (M : MM) (v1 : Int32) (v2 : Int32) (Q : MM → Prop) (hF : full g) (hw : wX5_copies Q M v1 v2) : MV g l yX5_copies wsX5_copies (rmOf 0 0) [.ref (gA g 52), .int v1, .int v2] M Q := by
  refine mk_MV (cc := cX5_copies) (maxL := 4) (by decide) rfl (Nat.le_of_ble_eq_true rfl) ?_
  intro z Qf hC hR
  show XX z g Qf 4 0 [(0, .ref (gA g 52)), (1, .int v1), (2, .int v2)] [] M
  have B2 : ∀ (n : Nat) (M : MM) (v3 : Int32) , wX5_copies_2 Q v1 v2 n M v3 → XX z g Qf 4 2 [(0, .ref (gA g 52)), (1, .int v1), (2, .int v2), (3, .int v3)] [] M := by
    intro n
    induction n with
    | zero =>
      intro M v3 hw
      exact hw.elim
    | succ n ih =>
      intro M v3 hw
      refine q_iload_n hC dX5_copies_2 3 rfl 3 rfl ?_
      refine q_sipush (v := 400) hC dX5_copies_3 (by decide) 6 rfl ?_
      refine q_icmp_ge hC 31 dX5_copies_6 (by decide) 9 rfl hw (fun hw => ?_) (fun hw => ?_)
      · exact r_vret hR dX5_copies_31 hw
      · refine q_aload_n hC dX5_copies_9 0 rfl 10 rfl ?_
        refine q_getR (C := RX5) (T := TX5) (N := 26) (ci := 5) hC inX5_copies_X5 (hF.ob 52 (by decide) (fun _ => rfl)) rfl 0 (by decide) (List.mem_of_getElem? (i := 1) (by decide +kernel)) rfl 53 (fun _ => rfl) dX5_copies_10 13 rfl ?_
        refine q_iload_n hC dX5_copies_13 1 rfl 14 rfl ?_
        refine q_iload_n hC dX5_copies_14 3 rfl 15 rfl ?_
        refine q_iadd hC dX5_copies_15 16 rfl ?_
        refine q_aload_n hC dX5_copies_16 0 rfl 17 rfl ?_
        refine q_getR (C := RX5) (T := TX5) (N := 26) (ci := 5) hC inX5_copies_X5 (hF.ob 52 (by decide) (fun _ => rfl)) rfl 0 (by decide) (List.mem_of_getElem? (i := 1) (by decide +kernel)) rfl 53 (fun _ => rfl) dX5_copies_17 20 rfl ?_
        refine q_iload_n hC dX5_copies_20 2 rfl 21 rfl ?_
        refine q_iload_n hC dX5_copies_21 3 rfl 22 rfl ?_
        refine q_iadd hC dX5_copies_22 23 rfl ?_
        obtain ⟨hin, hw⟩ := hw
        refine q_iald hC (hF.ar 53 (by decide) (fun _ => rfl)) hin dX5_copies_23 24 rfl ?_
        obtain ⟨hin, hw⟩ := hw
        refine q_iast hC (hF.ar 53 (by decide) (fun _ => rfl)) hin dX5_copies_24 25 rfl (fun M1 eM1 => ?_)
        have hw := hw M1 eM1
        refine q_iinc (v := v3 + 1) (L' := [(3, .int (v3 + 1)), (0, .ref (gA g 52)), (1, .int v1), (2, .int v2)]) hC dX5_copies_25 3 rfl rfl (by decide) rfl 28 rfl ?_
        refine q_goto hC 2 dX5_copies_28 (by decide) ?_
        exact XX.sub [1, 2, 3, 0] rfl (ih M1 (v3 + 1) hw)
  refine q_iconst (v := 0) hC dX5_copies_0 rfl 1 rfl ?_
  refine q_istore_n (L' := [(3, .int 0), (0, .ref (gA g 52)), (1, .int v1), (2, .int v2)]) hC dX5_copies_1 (by decide) rfl 2 rfl ?_
  obtain ⟨n0, hw⟩ := hw
  exact XX.sub [1, 2, 3, 0] rfl (B2 n0 M 0 hw)
set_option maxRecDepth 20000 in
theorem inX5_keep_X5 : ∀ w ∈ u_ws RX5 TX5 26, w ∈ wsX5_keep := by decide +kernel
set_option maxRecDepth 100000 in
set_option maxHeartbeats 4000000 in
theorem ctX5_keep (l : Launch) (g : GG) (M : MM) (v1 : Int32) (Q : Int32 → MM → Prop) (hF : full g) (hw : wX5_keep Q M v1) : MI g l yX5_keep wsX5_keep (rmOf 1 25) [.ref (gA g 52), .int v1] M Q := by
  refine mk_MI (cc := cX5_keep) (maxL := 3) (by decide) rfl (Nat.le_of_ble_eq_true rfl) ?_
  intro z Qf hC hR
  show XX z g Qf 3 0 [(0, .ref (gA g 52)), (1, .int v1)] [] M
  refine q_iload_n hC dX5_keep_0 1 rfl 1 rfl ?_
  refine q_i2l hC dX5_keep_1 2 rfl ?_
  refine q_lconst (v := 0) hC dX5_keep_2 rfl 3 rfl ?_
  refine q_lconst (v := 1) hC dX5_keep_3 rfl 4 rfl ?_
  refine r_callI hC (go_T (As := [.long (v1.toInt64), .long 0, .long 1]) (rest := []) hC (ctX5_in (zl z) g M (v1.toInt64) 0 1 _ hw) 3 gX5_keep_X5_in rfl ⟨rfl, rfl⟩ (by decide +kernel) ⟨Nat.le_of_ble_eq_true rfl, Nat.le_of_ble_eq_true rfl⟩ rfl rfl (Nat.le_of_ble_eq_true rfl) dX5_keep_4) 7 rfl (fun r1 M2 hw => ?_)
  refine q_if_ne hC 12 dX5_keep_7 (by decide) 10 rfl hw (fun hw => ?_) (fun hw => ?_)
  · refine q_aload_n hC dX5_keep_12 0 rfl 13 rfl ?_
    refine q_getR (C := RX5) (T := TX5) (N := 26) (ci := 5) hC inX5_keep_X5 (hF.ob 52 (by decide) (fun _ => rfl)) rfl 1 (by decide) (List.mem_of_getElem? (i := 1) (by decide +kernel)) rfl 54 (fun _ => rfl) dX5_keep_13 16 rfl ?_
    refine q_iload_n hC dX5_keep_16 1 rfl 17 rfl ?_
    obtain ⟨hin, hw⟩ := hw
    refine q_zald hC (hF.ar 54 (by decide) (fun _ => rfl)) hin dX5_keep_17 18 rfl ?_
    refine r_callI hC (go_T (As := [.int (M2 54 v1.toNatClampNeg)]) (rest := []) hC (ctX5_flag (zl z) g M2 (M2 54 v1.toNatClampNeg) _ hw) 1 gX5_keep_X5_flag rfl ⟨rfl, rfl⟩ (by decide +kernel) ⟨Nat.le_of_ble_eq_true rfl, Nat.le_of_ble_eq_true rfl⟩ rfl rfl (Nat.le_of_ble_eq_true rfl) dX5_keep_18) 21 rfl (fun r3 M4 hw => ?_)
    refine q_istore_n (L' := [(2, .int r3), (0, .ref (gA g 52)), (1, .int v1)]) hC dX5_keep_21 (by decide) rfl 22 rfl ?_
    refine q_aload_n hC dX5_keep_22 1 rfl 23 rfl ?_
    refine q_getR (C := RX5) (T := TX5) (N := 26) (ci := 5) hC inX5_keep_X5 (hF.ob 52 (by decide) (fun _ => rfl)) rfl 1 (by decide) (List.mem_of_getElem? (i := 1) (by decide +kernel)) rfl 54 (fun _ => rfl) dX5_keep_23 26 rfl ?_
    refine q_iload_n hC dX5_keep_26 2 rfl 27 rfl ?_
    refine q_iconst (v := 1) hC dX5_keep_27 rfl 28 rfl ?_
    obtain ⟨hin, hw⟩ := hw
    refine q_zast hC (hF.ar 54 (by decide) (fun _ => rfl)) hin dX5_keep_28 29 rfl (fun M5 eM5 => ?_)
    have hw := hw M5 eM5
    refine q_aload_n hC dX5_keep_29 1 rfl 30 rfl ?_
    refine q_sipush (v := 400) hC dX5_keep_30 (by decide) 33 rfl ?_
    refine q_iload_n hC dX5_keep_33 2 rfl 34 rfl ?_
    refine q_iconst (v := 1) hC dX5_keep_34 rfl 35 rfl ?_
    refine q_iadd hC dX5_keep_35 36 rfl ?_
    refine q_imul hC dX5_keep_36 37 rfl ?_
    refine q_iconst (v := 0) hC dX5_keep_37 rfl 38 rfl ?_
    refine r_callV hC (go_V (q := (RX5, TX5, 26)) (As := [.int ((400 : Int32) * (v1 + (1 : Int32))), .int 0]) (rest := []) hC (ctX5_copies (zl z) g M5 ((400 : Int32) * (v1 + (1 : Int32))) 0 _ hF hw) 2 gX5_keep_X5_copies rfl ⟨rfl, rfl⟩ (by decide +kernel) ⟨Nat.le_of_ble_eq_true rfl, Nat.le_of_ble_eq_true rfl⟩ (hF.ob 52 (by decide) (fun _ => rfl)) rfl rfl rfl (Nat.le_of_ble_eq_true rfl) dX5_keep_38) 41 rfl (fun M6 hw => ?_)
    refine q_iload_n hC dX5_keep_41 0 rfl 42 rfl ?_
    exact r_iret hR dX5_keep_42 hw
  · refine q_iconst (v := (-1)) hC dX5_keep_10 rfl 11 rfl ?_
    exact r_iret hR dX5_keep_11 hw
set_option maxRecDepth 20000 in
theorem inX5_back_X5 : ∀ w ∈ u_ws RX5 TX5 26, w ∈ wsX5_back := by decide +kernel
set_option maxRecDepth 100000 in
set_option maxHeartbeats 4000000 in
theorem ctX5_back (l : Launch) (g : GG) (M : MM) (v1 : Int32) (Q : Int32 → MM → Prop) (hF : full g) (hw : wX5_back Q M v1) : MI g l yX5_back wsX5_back (rmOf 1 25) [.ref (gA g 52), .int v1] M Q := by
  refine mk_MI (cc := cX5_back) (maxL := 2) (by decide) rfl (Nat.le_of_ble_eq_true rfl) ?_
  intro z Qf hC hR
  show XX z g Qf 2 0 [(0, .ref (gA g 52)), (1, .int v1)] [] M
  refine q_iload_n hC dX5_back_0 1 rfl 1 rfl ?_
  refine q_i2l hC dX5_back_1 2 rfl ?_
  refine q_lconst (v := 0) hC dX5_back_2 rfl 3 rfl ?_
  refine q_lconst (v := 1) hC dX5_back_3 rfl 4 rfl ?_
  refine r_callI hC (go_T (As := [.long (v1.toInt64), .long 0, .long 1]) (rest := []) hC (ctX5_in (zl z) g M (v1.toInt64) 0 1 _ hw) 3 gX5_back_X5_in rfl ⟨rfl, rfl⟩ (by decide +kernel) ⟨Nat.le_of_ble_eq_true rfl, Nat.le_of_ble_eq_true rfl⟩ rfl rfl (Nat.le_of_ble_eq_true rfl) dX5_back_4) 7 rfl (fun r1 M2 hw => ?_)
  refine q_if_ne hC 12 dX5_back_7 (by decide) 10 rfl hw (fun hw => ?_) (fun hw => ?_)
  · refine q_aload_n hC dX5_back_12 0 rfl 13 rfl ?_
    refine q_getR (C := RX5) (T := TX5) (N := 26) (ci := 5) hC inX5_back_X5 (hF.ob 52 (by decide) (fun _ => rfl)) rfl 1 (by decide) (List.mem_of_getElem? (i := 1) (by decide +kernel)) rfl 54 (fun _ => rfl) dX5_back_13 16 rfl ?_
    refine q_iload_n hC dX5_back_16 1 rfl 17 rfl ?_
    obtain ⟨hin, hw⟩ := hw
    refine q_zald hC (hF.ar 54 (by decide) (fun _ => rfl)) hin dX5_back_17 18 rfl ?_
    refine q_if_ne hC 24 dX5_back_18 (by decide) 21 rfl hw (fun hw => ?_) (fun hw => ?_)
    · refine q_aload_n hC dX5_back_24 0 rfl 25 rfl ?_
      refine q_iconst (v := 0) hC dX5_back_25 rfl 26 rfl ?_
      refine q_sipush (v := 400) hC dX5_back_26 (by decide) 29 rfl ?_
      refine q_iload_n hC dX5_back_29 1 rfl 30 rfl ?_
      refine q_iconst (v := 1) hC dX5_back_30 rfl 31 rfl ?_
      refine q_iadd hC dX5_back_31 32 rfl ?_
      refine q_imul hC dX5_back_32 33 rfl ?_
      refine r_callV hC (go_V (q := (RX5, TX5, 26)) (As := [.int 0, .int ((400 : Int32) * (v1 + (1 : Int32)))]) (rest := []) hC (ctX5_copies (zl z) g M2 0 ((400 : Int32) * (v1 + (1 : Int32))) _ hF hw) 2 gX5_back_X5_copies rfl ⟨rfl, rfl⟩ (by decide +kernel) ⟨Nat.le_of_ble_eq_true rfl, Nat.le_of_ble_eq_true rfl⟩ (hF.ob 52 (by decide) (fun _ => rfl)) rfl rfl rfl (Nat.le_of_ble_eq_true rfl) dX5_back_33) 36 rfl (fun M3 hw => ?_)
      refine q_aload_n hC dX5_back_36 0 rfl 37 rfl ?_
      refine q_getR (C := RX5) (T := TX5) (N := 26) (ci := 5) hC inX5_back_X5 (hF.ob 52 (by decide) (fun _ => rfl)) rfl 0 (by decide) (List.mem_of_getElem? (i := 2) (by decide +kernel)) rfl 53 (fun _ => rfl) dX5_back_37 40 rfl ?_
      refine q_iconst (v := 0) hC dX5_back_40 rfl 41 rfl ?_
      obtain ⟨hin, hw⟩ := hw
      refine q_iald hC (hF.ar 53 (by decide) (fun _ => rfl)) hin dX5_back_41 42 rfl ?_
      exact r_iret hR dX5_back_42 hw
    · refine q_bipush (v := (-2)) hC dX5_back_21 (by decide) 23 rfl ?_
      exact r_iret hR dX5_back_23 hw
  · refine q_iconst (v := (-1)) hC dX5_back_10 rfl 11 rfl ?_
    exact r_iret hR dX5_back_11 hw
set_option maxRecDepth 100000 in
set_option maxHeartbeats 4000000 in
theorem ctX5_isSheet (l : Launch) (g : GG) (M : MM) (v0 : Int32) (v1 : Int32) (Q : Int32 → MM → Prop)  (hw : wX5_isSheet Q M v0 v1) : MI g l yX5_isSheet wsX5_isSheet (rmOf 1 25) [.int v0, .int v1] M Q := by
  refine mk_MZ (cc := cX5_isSheet) (maxL := 2) (by decide) rfl (Nat.le_of_ble_eq_true rfl) ?_
  intro z Qf hC hR
  show XX z g Qf 2 0 [(0, .int v0), (1, .int v1)] [] M
  have B28 : ∀ (M : MM), wX5_isSheet_28 Q v0 v1 M → XX z g Qf 2 28 [] [] M := by
    intro M hw
    refine q_iconst (v := 0) hC dX5_isSheet_28 rfl 29 rfl ?_
    exact r_iret hR dX5_isSheet_29 ⟨nb_0, hw⟩
  refine q_iload_n hC dX5_isSheet_0 0 rfl 1 rfl ?_
  refine q_i2l hC dX5_isSheet_1 2 rfl ?_
  refine q_lconst (v := 0) hC dX5_isSheet_2 rfl 3 rfl ?_
  refine q_ldc2 (v := 3) hC (List.mem_of_getElem? (i := 1) (by decide +kernel)) dX5_isSheet_3 6 rfl ?_
  refine r_callI hC (go_T (As := [.long (v0.toInt64), .long 0, .long 3]) (rest := []) hC (ctX5_in (zl z) g M (v0.toInt64) 0 3 _ hw) 3 gX5_isSheet_X5_in rfl ⟨rfl, rfl⟩ (by decide +kernel) ⟨Nat.le_of_ble_eq_true rfl, Nat.le_of_ble_eq_true rfl⟩ rfl rfl (Nat.le_of_ble_eq_true rfl) dX5_isSheet_6) 9 rfl (fun r1 M2 hw => ?_)
  refine q_if_eq hC 28 dX5_isSheet_9 (by decide) 12 rfl hw (fun hw => ?_) (fun hw => ?_)
  · exact XX.sub [] rfl (B28 M2 hw)
  · refine q_iload_n hC dX5_isSheet_12 1 rfl 13 rfl ?_
    refine q_i2l hC dX5_isSheet_13 14 rfl ?_
    refine q_lconst (v := 0) hC dX5_isSheet_14 rfl 15 rfl ?_
    refine q_ldc2 (v := 2) hC (List.mem_of_getElem? (i := 2) (by decide +kernel)) dX5_isSheet_15 18 rfl ?_
    refine r_callI hC (go_T (As := [.long (v1.toInt64), .long 0, .long 2]) (rest := []) hC (ctX5_in (zl z) g M2 (v1.toInt64) 0 2 _ hw) 3 gX5_isSheet_X5_in rfl ⟨rfl, rfl⟩ (by decide +kernel) ⟨Nat.le_of_ble_eq_true rfl, Nat.le_of_ble_eq_true rfl⟩ rfl rfl (Nat.le_of_ble_eq_true rfl) dX5_isSheet_18) 21 rfl (fun r3 M4 hw => ?_)
    refine q_if_eq hC 28 dX5_isSheet_21 (by decide) 24 rfl hw (fun hw => ?_) (fun hw => ?_)
    · exact XX.sub [] rfl (B28 M4 hw)
    · refine q_iconst (v := 1) hC dX5_isSheet_24 rfl 25 rfl ?_
      refine q_goto hC 29 dX5_isSheet_25 (by decide) ?_
      exact r_iret hR dX5_isSheet_29 ⟨nb_1, hw⟩
set_option maxRecDepth 20000 in
theorem inX5_sheet_X5 : ∀ w ∈ u_ws RX5 TX5 26, w ∈ wsX5_sheet := by decide +kernel
set_option maxRecDepth 100000 in
set_option maxHeartbeats 4000000 in
theorem ctX5_sheet (l : Launch) (g : GG) (M : MM) (v1 : Int32) (v2 : Int32) (v3 : Int32) (Q : Int32 → MM → Prop) (hF : full g) (hw : wX5_sheet Q M v1 v2 v3) : MI g l yX5_sheet wsX5_sheet (rmOf 2 46) [.ref (gA g 52), .int v1, .int v2, .int v3] M Q := by
  refine mk_MI (cc := cX5_sheet) (maxL := 5) (by decide) rfl (Nat.le_of_ble_eq_true rfl) ?_
  intro z Qf hC hR
  show XX z g Qf 5 0 [(0, .ref (gA g 52)), (1, .int v1), (2, .int v2), (3, .int v3)] [] M
  have B40 : ∀ (n : Nat) (M : MM) (v4 : Int32) , wX5_sheet_40 Q v1 v2 v3 n M v4 → XX z g Qf 5 40 [(0, .ref (gA g 52)), (1, .int v1), (4, .int v4)] [] M := by
    intro n
    induction n with
    | zero =>
      intro M v4 hw
      exact hw.elim
    | succ n ih =>
      intro M v4 hw
      refine q_iload hC dX5_sheet_40 2 rfl 42 rfl ?_
      refine q_bipush (v := 40) hC dX5_sheet_42 (by decide) 44 rfl ?_
      refine q_icmp_ge hC 66 dX5_sheet_44 (by decide) 47 rfl hw (fun hw => ?_) (fun hw => ?_)
      · refine q_iconst (v := 1) hC dX5_sheet_66 rfl 67 rfl ?_
        exact r_iret hR dX5_sheet_67 hw
      · refine q_aload_n hC dX5_sheet_47 0 rfl 48 rfl ?_
        refine q_getR (C := RX5) (T := TX5) (N := 26) (ci := 5) hC inX5_sheet_X5 (hF.ob 52 (by decide) (fun _ => rfl)) rfl 24 (by decide) (List.mem_of_getElem? (i := 3) (by decide +kernel)) rfl 66 (fun _ => rfl) dX5_sheet_48 51 rfl ?_
        refine q_bipush (v := 40) hC dX5_sheet_51 (by decide) 53 rfl ?_
        refine q_iload_n hC dX5_sheet_53 1 rfl 54 rfl ?_
        refine q_imul hC dX5_sheet_54 55 rfl ?_
        refine q_iload hC dX5_sheet_55 2 rfl 57 rfl ?_
        refine q_iadd hC dX5_sheet_57 58 rfl ?_
        refine q_iconst (v := 0) hC dX5_sheet_58 rfl 59 rfl ?_
        obtain ⟨hin, hw⟩ := hw
        refine q_iast hC (hF.ar 66 (by decide) (fun _ => rfl)) hin dX5_sheet_59 60 rfl (fun M5 eM5 => ?_)
        have hw := hw M5 eM5
        refine q_iinc (v := v4 + 1) (L' := [(4, .int (v4 + 1)), (0, .ref (gA g 52)), (1, .int v1)]) hC dX5_sheet_60 2 rfl rfl (by decide) rfl 63 rfl ?_
        refine q_goto hC 40 dX5_sheet_63 (by decide) ?_
        exact XX.sub [1, 2, 0] rfl (ih M5 (v4 + 1) hw)
  refine q_iload_n hC dX5_sheet_0 1 rfl 1 rfl ?_
  refine q_iload_n hC dX5_sheet_1 2 rfl 2 rfl ?_
  refine r_callI hC (go_T (As := [.int v1, .int v2]) (rest := []) hC (ctX5_isSheet (zl z) g M v1 v2 _ hw) 2 gX5_sheet_X5_isSheet rfl ⟨rfl, rfl⟩ (by decide +kernel) ⟨Nat.le_of_ble_eq_true rfl, Nat.le_of_ble_eq_true rfl⟩ rfl rfl (Nat.le_of_ble_eq_true rfl) dX5_sheet_2) 5 rfl (fun r1 M2 hw => ?_)
  refine q_if_eq hC 14 dX5_sheet_5 (by decide) 8 rfl hw (fun hw => ?_) (fun hw => ?_)
  · refine q_iconst (v := (-1)) hC dX5_sheet_14 rfl 15 rfl ?_
    exact r_iret hR dX5_sheet_15 hw
  · refine q_iload_n hC dX5_sheet_8 3 rfl 9 rfl ?_
    refine q_bipush (v := 40) hC dX5_sheet_9 (by decide) 11 rfl ?_
    refine q_icmp_le hC 16 dX5_sheet_11 (by decide) 14 rfl hw (fun hw => ?_) (fun hw => ?_)
    · refine q_iload_n hC dX5_sheet_16 3 rfl 17 rfl ?_
      refine q_if_ge hC 23 dX5_sheet_17 (by decide) 20 rfl hw (fun hw => ?_) (fun hw => ?_)
      · refine q_aload_n hC dX5_sheet_23 0 rfl 24 rfl ?_
        refine q_getR (C := RX5) (T := TX5) (N := 26) (ci := 5) hC inX5_sheet_X5 (hF.ob 52 (by decide) (fun _ => rfl)) rfl 22 (by decide) (List.mem_of_getElem? (i := 1) (by decide +kernel)) rfl 64 (fun _ => rfl) dX5_sheet_24 27 rfl ?_
        refine q_iload_n hC dX5_sheet_27 1 rfl 28 rfl ?_
        refine q_iload_n hC dX5_sheet_28 2 rfl 29 rfl ?_
        obtain ⟨hin, hw⟩ := hw
        refine q_iast hC (hF.ar 64 (by decide) (fun _ => rfl)) hin dX5_sheet_29 30 rfl (fun M3 eM3 => ?_)
        have hw := hw M3 eM3
        refine q_aload_n hC dX5_sheet_30 0 rfl 31 rfl ?_
        refine q_getR (C := RX5) (T := TX5) (N := 26) (ci := 5) hC inX5_sheet_X5 (hF.ob 52 (by decide) (fun _ => rfl)) rfl 23 (by decide) (List.mem_of_getElem? (i := 2) (by decide +kernel)) rfl 65 (fun _ => rfl) dX5_sheet_31 34 rfl ?_
        refine q_iload_n hC dX5_sheet_34 1 rfl 35 rfl ?_
        refine q_iload_n hC dX5_sheet_35 3 rfl 36 rfl ?_
        obtain ⟨hin, hw⟩ := hw
        refine q_iast hC (hF.ar 65 (by decide) (fun _ => rfl)) hin dX5_sheet_36 37 rfl (fun M4 eM4 => ?_)
        have hw := hw M4 eM4
        refine q_iconst (v := 0) hC dX5_sheet_37 rfl 38 rfl ?_
        refine q_istore (L' := [(4, .int 0), (0, .ref (gA g 52)), (1, .int v1), (2, .int v2), (3, .int v3)]) hC dX5_sheet_38 (by decide) rfl 40 rfl ?_
        obtain ⟨n0, hw⟩ := hw
        exact XX.sub [1, 2, 0] rfl (B40 n0 M4 0 hw)
      · refine q_bipush (v := (-14)) hC dX5_sheet_20 (by decide) 22 rfl ?_
        exact r_iret hR dX5_sheet_22 hw
    · refine q_iconst (v := (-1)) hC dX5_sheet_14 rfl 15 rfl ?_
      exact r_iret hR dX5_sheet_15 hw
set_option maxRecDepth 20000 in
theorem inX5_lay_X5 : ∀ w ∈ u_ws RX5 TX5 26, w ∈ wsX5_lay := by decide +kernel
set_option maxRecDepth 100000 in
set_option maxHeartbeats 4000000 in
theorem ctX5_lay (l : Launch) (g : GG) (M : MM) (v1 : Int32) (v2 : Int32) (v3 : Int32) (Q : Int32 → MM → Prop) (hF : full g) (hw : wX5_lay Q M v1 v2 v3) : MI g l yX5_lay wsX5_lay (rmOf 2 46) [.ref (gA g 52), .int v1, .int v2, .int v3] M Q := by
  refine mk_MI (cc := cX5_lay) (maxL := 4) (by decide) rfl (Nat.le_of_ble_eq_true rfl) ?_
  intro z Qf hC hR
  show XX z g Qf 4 0 [(0, .ref (gA g 52)), (1, .int v1), (2, .int v2), (3, .int v3)] [] M
  have B85 : ∀ (M : MM) (p0 : Int32) (p1 : Int32), wX5_lay_85 Q v1 v2 v3 M p0 p1 → XX z g Qf 4 85 [] [.int p0, .int p1, .ref (gA g 66)] M := by
    intro M p0 p1 hw
    obtain ⟨hin, hw⟩ := hw
    refine q_iast hC (hF.ar 66 (by decide) (fun _ => rfl)) hin dX5_lay_85 86 rfl (fun M5 eM5 => ?_)
    have hw := hw M5 eM5
    refine q_iconst (v := 1) hC dX5_lay_86 rfl 87 rfl ?_
    exact r_iret hR dX5_lay_87 hw
  refine q_iload_n hC dX5_lay_0 1 rfl 1 rfl ?_
  refine q_iconst (v := 0) hC dX5_lay_1 rfl 2 rfl ?_
  refine r_callI hC (go_T (As := [.int v1, .int 0]) (rest := []) hC (ctX5_isSheet (zl z) g M v1 0 _ hw) 2 gX5_lay_X5_isSheet rfl ⟨rfl, rfl⟩ (by decide +kernel) ⟨Nat.le_of_ble_eq_true rfl, Nat.le_of_ble_eq_true rfl⟩ rfl rfl (Nat.le_of_ble_eq_true rfl) dX5_lay_2) 5 rfl (fun r1 M2 hw => ?_)
  refine q_if_ne hC 10 dX5_lay_5 (by decide) 8 rfl hw (fun hw => ?_) (fun hw => ?_)
  · refine q_aload_n hC dX5_lay_10 0 rfl 11 rfl ?_
    refine q_getR (C := RX5) (T := TX5) (N := 26) (ci := 5) hC inX5_lay_X5 (hF.ob 52 (by decide) (fun _ => rfl)) rfl 22 (by decide) (List.mem_of_getElem? (i := 1) (by decide +kernel)) rfl 64 (fun _ => rfl) dX5_lay_11 14 rfl ?_
    refine q_iload_n hC dX5_lay_14 1 rfl 15 rfl ?_
    obtain ⟨hin, hw⟩ := hw
    refine q_iald hC (hF.ar 64 (by decide) (fun _ => rfl)) hin dX5_lay_15 16 rfl ?_
    refine q_bipush (v := (-4)) hC dX5_lay_16 (by decide) 18 rfl ?_
    refine q_icmp_ne hC 24 dX5_lay_18 (by decide) 21 rfl hw (fun hw => ?_) (fun hw => ?_)
    · refine q_iload_n hC dX5_lay_24 2 rfl 25 rfl ?_
      refine q_i2l hC dX5_lay_25 26 rfl ?_
      refine q_lconst (v := 0) hC dX5_lay_26 rfl 27 rfl ?_
      refine q_aload_n hC dX5_lay_27 0 rfl 28 rfl ?_
      refine q_getR (C := RX5) (T := TX5) (N := 26) (ci := 5) hC inX5_lay_X5 (hF.ob 52 (by decide) (fun _ => rfl)) rfl 23 (by decide) (List.mem_of_getElem? (i := 2) (by decide +kernel)) rfl 65 (fun _ => rfl) dX5_lay_28 31 rfl ?_
      refine q_iload_n hC dX5_lay_31 1 rfl 32 rfl ?_
      obtain ⟨hin, hw⟩ := hw
      refine q_iald hC (hF.ar 65 (by decide) (fun _ => rfl)) hin dX5_lay_32 33 rfl ?_
      refine q_iconst (v := 1) hC dX5_lay_33 rfl 34 rfl ?_
      refine q_isub hC dX5_lay_34 35 rfl ?_
      refine q_i2l hC dX5_lay_35 36 rfl ?_
      refine r_callI hC (go_T (As := [.long (v2.toInt64), .long 0, .long (((M2 65 v1.toNatClampNeg) - (1 : Int32)).toInt64)]) (rest := []) hC (ctX5_in (zl z) g M2 (v2.toInt64) 0 (((M2 65 v1.toNatClampNeg) - (1 : Int32)).toInt64) _ hw) 3 gX5_lay_X5_in rfl ⟨rfl, rfl⟩ (by decide +kernel) ⟨Nat.le_of_ble_eq_true rfl, Nat.le_of_ble_eq_true rfl⟩ rfl rfl (Nat.le_of_ble_eq_true rfl) dX5_lay_36) 39 rfl (fun r3 M4 hw => ?_)
      refine q_if_ne hC 45 dX5_lay_39 (by decide) 42 rfl hw (fun hw => ?_) (fun hw => ?_)
      · refine q_aload_n hC dX5_lay_45 0 rfl 46 rfl ?_
        refine q_getR (C := RX5) (T := TX5) (N := 26) (ci := 5) hC inX5_lay_X5 (hF.ob 52 (by decide) (fun _ => rfl)) rfl 24 (by decide) (List.mem_of_getElem? (i := 3) (by decide +kernel)) rfl 66 (fun _ => rfl) dX5_lay_46 49 rfl ?_
        refine q_bipush (v := 40) hC dX5_lay_49 (by decide) 51 rfl ?_
        refine q_iload_n hC dX5_lay_51 1 rfl 52 rfl ?_
        refine q_imul hC dX5_lay_52 53 rfl ?_
        refine q_iload_n hC dX5_lay_53 2 rfl 54 rfl ?_
        refine q_iadd hC dX5_lay_54 55 rfl ?_
        refine q_aload_n hC dX5_lay_55 0 rfl 56 rfl ?_
        refine q_getR (C := RX5) (T := TX5) (N := 26) (ci := 5) hC inX5_lay_X5 (hF.ob 52 (by decide) (fun _ => rfl)) rfl 22 (by decide) (List.mem_of_getElem? (i := 1) (by decide +kernel)) rfl 64 (fun _ => rfl) dX5_lay_56 59 rfl ?_
        refine q_iload_n hC dX5_lay_59 1 rfl 60 rfl ?_
        obtain ⟨hin, hw⟩ := hw
        refine q_iald hC (hF.ar 64 (by decide) (fun _ => rfl)) hin dX5_lay_60 61 rfl ?_
        refine q_if_ne hC 69 dX5_lay_61 (by decide) 64 rfl hw (fun hw => ?_) (fun hw => ?_)
        · refine q_aload_n hC dX5_lay_69 0 rfl 70 rfl ?_
          refine q_getR (C := RX5) (T := TX5) (N := 26) (ci := 5) hC inX5_lay_X5 (hF.ob 52 (by decide) (fun _ => rfl)) rfl 22 (by decide) (List.mem_of_getElem? (i := 1) (by decide +kernel)) rfl 64 (fun _ => rfl) dX5_lay_70 73 rfl ?_
          refine q_iload_n hC dX5_lay_73 1 rfl 74 rfl ?_
          obtain ⟨hin, hw⟩ := hw
          refine q_iald hC (hF.ar 64 (by decide) (fun _ => rfl)) hin dX5_lay_74 75 rfl ?_
          refine q_iconst (v := 1) hC dX5_lay_75 rfl 76 rfl ?_
          refine q_icmp_ne hC 84 dX5_lay_76 (by decide) 79 rfl hw (fun hw => ?_) (fun hw => ?_)
          · refine q_iload_n hC dX5_lay_84 3 rfl 85 rfl ?_
            exact XX.sub [] rfl (B85 M4 v3 (((40 : Int32) * v1) + v2) hw)
          · refine q_iload_n hC dX5_lay_79 3 rfl 80 rfl ?_
            refine q_i2s hC dX5_lay_80 81 rfl ?_
            refine q_goto hC 85 dX5_lay_81 (by decide) ?_
            exact XX.sub [] rfl (B85 M4 (v3.toInt16.toInt32) (((40 : Int32) * v1) + v2) hw)
        · refine q_iload_n hC dX5_lay_64 3 rfl 65 rfl ?_
          refine q_i2b hC dX5_lay_65 66 rfl ?_
          refine q_goto hC 85 dX5_lay_66 (by decide) ?_
          exact XX.sub [] rfl (B85 M4 (v3.toInt8.toInt32) (((40 : Int32) * v1) + v2) hw)
      · refine q_bipush (v := (-12)) hC dX5_lay_42 (by decide) 44 rfl ?_
        exact r_iret hR dX5_lay_44 hw
    · refine q_bipush (v := (-11)) hC dX5_lay_21 (by decide) 23 rfl ?_
      exact r_iret hR dX5_lay_23 hw
  · refine q_iconst (v := (-1)) hC dX5_lay_8 rfl 9 rfl ?_
    exact r_iret hR dX5_lay_9 hw
set_option maxRecDepth 20000 in
theorem inX5_read_X5 : ∀ w ∈ u_ws RX5 TX5 26, w ∈ wsX5_read := by decide +kernel
set_option maxRecDepth 100000 in
set_option maxHeartbeats 4000000 in
theorem ctX5_read (l : Launch) (g : GG) (M : MM) (v1 : Int32) (v2 : Int32) (v3 : Int32) (v4 : Int32) (Q : Int32 → MM → Prop) (hF : full g) (hw : wX5_read Q M v1 v2 v3 v4) : MI g l yX5_read wsX5_read (rmOf 2 46) [.ref (gA g 52), .int v1, .int v2, .int v3, .int v4] M Q := by
  refine mk_MI (cc := cX5_read) (maxL := 10) (by decide) rfl (Nat.le_of_ble_eq_true rfl) ?_
  intro z Qf hC hR
  show XX z g Qf 10 0 [(0, .ref (gA g 52)), (1, .int v1), (2, .int v2), (3, .int v3), (4, .int v4)] [] M
  have B181 : ∀ (n : Nat) (M : MM) (v6 : Int32) (v7 : Int32) , wX5_read_181 Q v1 v2 v3 v4 n M v6 v7 → XX z g Qf 10 181 [(0, .ref (gA g 52)), (1, .int v1), (3, .int v3), (6, .int v6), (7, .int v7)] [] M := by
    intro n
    induction n with
    | zero =>
      intro M v6 v7 hw
      exact hw.elim
    | succ n ih =>
      intro M v6 v7 hw
      refine q_iload hC dX5_read_181 4 rfl 183 rfl ?_
      refine q_iload hC dX5_read_183 3 rfl 185 rfl ?_
      refine q_icmp_ge hC 213 dX5_read_185 (by decide) 188 rfl hw (fun hw => ?_) (fun hw => ?_)
      · refine q_iload hC dX5_read_213 3 rfl 215 rfl ?_
        exact r_iret hR dX5_read_215 hw
      · refine q_aload_n hC dX5_read_188 0 rfl 189 rfl ?_
        refine q_aload_n hC dX5_read_189 0 rfl 190 rfl ?_
        refine q_getR (C := RX5) (T := TX5) (N := 26) (ci := 5) hC inX5_read_X5 (hF.ob 52 (by decide) (fun _ => rfl)) rfl 24 (by decide) (List.mem_of_getElem? (i := 4) (by decide +kernel)) rfl 66 (fun _ => rfl) dX5_read_190 193 rfl ?_
        refine q_bipush (v := 40) hC dX5_read_193 (by decide) 195 rfl ?_
        refine q_iload_n hC dX5_read_195 1 rfl 196 rfl ?_
        refine q_imul hC dX5_read_196 197 rfl ?_
        refine q_iload_n hC dX5_read_197 2 rfl 198 rfl ?_
        refine q_iadd hC dX5_read_198 199 rfl ?_
        refine q_iload hC dX5_read_199 4 rfl 201 rfl ?_
        refine q_iadd hC dX5_read_201 202 rfl ?_
        obtain ⟨hin, hw⟩ := hw
        refine q_iald hC (hF.ar 66 (by decide) (fun _ => rfl)) hin dX5_read_202 203 rfl ?_
        refine r_callI hC (go_V (q := (RX5, TX5, 26)) (As := [.int (M 66 ((((40 : Int32) * v1) + v3) + v7).toNatClampNeg)]) (rest := []) hC (ctX5_type (zl z) g M (M 66 ((((40 : Int32) * v1) + v3) + v7).toNatClampNeg) _ hF hw) 1 gX5_read_X5_type rfl ⟨rfl, rfl⟩ (by decide +kernel) ⟨Nat.le_of_ble_eq_true rfl, Nat.le_of_ble_eq_true rfl⟩ (hF.ob 52 (by decide) (fun _ => rfl)) rfl rfl rfl (Nat.le_of_ble_eq_true rfl) dX5_read_203) 206 rfl (fun r9 M10 hw => ?_)
        refine q_pop hC dX5_read_206 rfl 207 rfl ?_
        refine q_iinc (v := v7 + 1) (L' := [(7, .int (v7 + 1)), (0, .ref (gA g 52)), (1, .int v1), (3, .int v3), (6, .int v6)]) hC dX5_read_207 4 rfl rfl (by decide) rfl 210 rfl ?_
        refine q_goto hC 181 dX5_read_210 (by decide) ?_
        exact XX.sub [1, 2, 3, 4, 0] rfl (ih M10 v6 (v7 + 1) hw)
  have B172 : ∀ (M : MM) (v5 : Int32) (v6 : Int32), wX5_read_172 Q v1 v2 v3 v4 M v5 v6 → XX z g Qf 10 172 [(0, .ref (gA g 52)), (1, .int v1), (3, .int v3), (5, .int v5), (6, .int v6)] [] M := by
    intro M v5 v6 hw
    refine q_aload_n hC dX5_read_172 0 rfl 173 rfl ?_
    refine q_iload hC dX5_read_173 3 rfl 175 rfl ?_
    refine q_putI (C := RX5) (T := TX5) (N := 26) (ci := 5) hC inX5_read_X5 tyX5 tyX5_ok nmX5 (hF.ob 52 (by decide) (fun _ => rfl)) rfl 25 (by decide) (List.mem_of_getElem? (i := 7) (by decide +kernel)) rfl rfl rfl (fun _ => Nat.le_of_ble_eq_true rfl) (fun _ => rfl) dX5_read_175 178 rfl (fun M8 eM8 => ?_)
    have hw := hw M8 eM8
    refine q_iconst (v := 0) hC dX5_read_178 rfl 179 rfl ?_
    refine q_istore (L' := [(7, .int 0), (0, .ref (gA g 52)), (1, .int v1), (3, .int v3), (5, .int v5), (6, .int v6)]) hC dX5_read_179 (by decide) rfl 181 rfl ?_
    obtain ⟨n0, hw⟩ := hw
    exact XX.sub [1, 2, 3, 5, 0] rfl (B181 n0 M8 v6 0 hw)
  have B166 : ∀ (K32 : MM → Int32 → Int32 → Int32 → Prop) (hK32 : ∀ (M : MM) (v5 : Int32) (v6 : Int32) (v7 : Int32) , K32 M v5 v6 v7 → XX z g Qf 10 32 [(0, .ref (gA g 52)), (1, .int v1), (2, .int v2), (3, .int v3), (4, .int v4), (5, .int v5), (6, .int v6), (7, .int v7)] [] M) (M : MM) (v5 : Int32) (v6 : Int32) (v7 : Int32), wX5_read_166 Q K32 v1 v2 v3 v4 M v5 v6 v7 → XX z g Qf 10 166 [(0, .ref (gA g 52)), (1, .int v1), (2, .int v2), (3, .int v3), (4, .int v4), (5, .int v5), (6, .int v6), (7, .int v7)] [] M := by
    intro K32 hK32 M v5 v6 v7 hw
    refine q_iinc (v := v7 + 1) (L' := [(7, .int (v7 + 1)), (0, .ref (gA g 52)), (1, .int v1), (2, .int v2), (3, .int v3), (4, .int v4), (5, .int v5), (6, .int v6)]) hC dX5_read_166 7 rfl rfl (by decide) rfl 169 rfl ?_
    refine q_goto hC 32 dX5_read_169 (by decide) ?_
    exact XX.sub [1, 2, 3, 4, 5, 6, 7, 0] rfl (hK32 M v5 v6 (v7 + 1) hw)
  have B106 : ∀ (K32 : MM → Int32 → Int32 → Int32 → Prop) (hK32 : ∀ (M : MM) (v5 : Int32) (v6 : Int32) (v7 : Int32) , K32 M v5 v6 v7 → XX z g Qf 10 32 [(0, .ref (gA g 52)), (1, .int v1), (2, .int v2), (3, .int v3), (4, .int v4), (5, .int v5), (6, .int v6), (7, .int v7)] [] M) (M : MM) (v6 : Int32) (v7 : Int32) (p0 : Int32), wX5_read_106 Q K32 v1 v2 v3 v4 M v6 v7 p0 → XX z g Qf 10 106 [(0, .ref (gA g 52)), (1, .int v1), (2, .int v2), (3, .int v3), (4, .int v4), (6, .int v6), (7, .int v7)] [.int p0] M := by
    intro K32 hK32 M v6 v7 p0 hw
    refine q_istore (L' := [(5, .int p0), (0, .ref (gA g 52)), (1, .int v1), (2, .int v2), (3, .int v3), (4, .int v4), (6, .int v6), (7, .int v7)]) hC dX5_read_106 (by decide) rfl 108 rfl ?_
    refine q_iload hC dX5_read_108 0 rfl 110 rfl ?_
    refine q_if_ne hC 166 dX5_read_110 (by decide) 113 rfl hw (fun hw => ?_) (fun hw => ?_)
    · exact XX.sub [1, 2, 3, 4, 5, 0, 6, 7] rfl (B166 _ hK32 M p0 v6 v7 hw)
    · refine q_aload_n hC dX5_read_113 1 rfl 114 rfl ?_
      refine q_getR (C := RX5) (T := TX5) (N := 26) (ci := 5) hC inX5_read_X5 (hF.ob 52 (by decide) (fun _ => rfl)) rfl 24 (by decide) (List.mem_of_getElem? (i := 4) (by decide +kernel)) rfl 66 (fun _ => rfl) dX5_read_114 117 rfl ?_
      refine q_bipush (v := 40) hC dX5_read_117 (by decide) 119 rfl ?_
      refine q_iload_n hC dX5_read_119 2 rfl 120 rfl ?_
      refine q_imul hC dX5_read_120 121 rfl ?_
      refine q_iload_n hC dX5_read_121 4 rfl 122 rfl ?_
      refine q_iadd hC dX5_read_122 123 rfl ?_
      refine q_iload hC dX5_read_123 7 rfl 125 rfl ?_
      refine q_iadd hC dX5_read_125 126 rfl ?_
      obtain ⟨hin, hw⟩ := hw
      refine q_iald hC (hF.ar 66 (by decide) (fun _ => rfl)) hin dX5_read_126 127 rfl ?_
      refine q_i2l hC dX5_read_127 128 rfl ?_
      refine q_lconst (v := 0) hC dX5_read_128 rfl 129 rfl ?_
      refine q_ldc2 (v := 255) hC (List.mem_of_getElem? (i := 5) (by decide +kernel)) dX5_read_129 132 rfl ?_
      refine r_callI hC (go_T (As := [.long ((M 66 ((((40 : Int32) * v1) + v3) + v7).toNatClampNeg).toInt64), .long 0, .long 255]) (rest := []) hC (ctX5_in (zl z) g M ((M 66 ((((40 : Int32) * v1) + v3) + v7).toNatClampNeg).toInt64) 0 255 _ hw) 3 gX5_read_X5_in rfl ⟨rfl, rfl⟩ (by decide +kernel) ⟨Nat.le_of_ble_eq_true rfl, Nat.le_of_ble_eq_true rfl⟩ rfl rfl (Nat.le_of_ble_eq_true rfl) dX5_read_132) 135 rfl (fun r6 M7 hw => ?_)
      refine q_if_ne hC 144 dX5_read_135 (by decide) 138 rfl hw (fun hw => ?_) (fun hw => ?_)
      · refine q_aload_n hC dX5_read_144 1 rfl 145 rfl ?_
        refine q_getR (C := RX5) (T := TX5) (N := 26) (ci := 5) hC inX5_read_X5 (hF.ob 52 (by decide) (fun _ => rfl)) rfl 0 (by decide) (List.mem_of_getElem? (i := 6) (by decide +kernel)) rfl 53 (fun _ => rfl) dX5_read_145 148 rfl ?_
        refine q_sipush (v := 327) hC dX5_read_148 (by decide) 151 rfl ?_
        obtain ⟨hin, hw⟩ := hw
        refine q_iald hC (hF.ar 53 (by decide) (fun _ => rfl)) hin dX5_read_151 152 rfl ?_
        refine q_iload hC dX5_read_152 6 rfl 154 rfl ?_
        refine q_iadd hC dX5_read_154 155 rfl ?_
        refine q_bipush (v := 12) hC dX5_read_155 (by decide) 157 rfl ?_
        refine q_icmp_ne hC 163 dX5_read_157 (by decide) 160 rfl hw (fun hw => ?_) (fun hw => ?_)
        · refine q_iinc (v := v6 + 1) (L' := [(6, .int (v6 + 1)), (5, .int p0), (0, .ref (gA g 52)), (1, .int v1), (2, .int v2), (3, .int v3), (4, .int v4), (7, .int v7)]) hC dX5_read_163 6 rfl rfl (by decide) rfl 166 rfl ?_
          exact XX.sub [2, 3, 4, 5, 6, 1, 0, 7] rfl (B166 _ hK32 M7 p0 (v6 + 1) v7 hw)
        · refine q_bipush (v := (-3)) hC dX5_read_160 (by decide) 162 rfl ?_
          exact r_iret hR dX5_read_162 hw
      · refine q_bipush (v := (-20)) hC dX5_read_138 (by decide) 140 rfl ?_
        refine q_iload hC dX5_read_140 7 rfl 142 rfl ?_
        refine q_isub hC dX5_read_142 143 rfl ?_
        exact r_iret hR dX5_read_143 hw
  have B101 : ∀ (K32 : MM → Int32 → Int32 → Int32 → Prop) (hK32 : ∀ (M : MM) (v5 : Int32) (v6 : Int32) (v7 : Int32) , K32 M v5 v6 v7 → XX z g Qf 10 32 [(0, .ref (gA g 52)), (1, .int v1), (2, .int v2), (3, .int v3), (4, .int v4), (5, .int v5), (6, .int v6), (7, .int v7)] [] M) (M : MM) (v6 : Int32) (v7 : Int32), wX5_read_101 Q K32 v1 v2 v3 v4 M v6 v7 → XX z g Qf 10 101 [(0, .ref (gA g 52)), (1, .int v1), (2, .int v2), (3, .int v3), (4, .int v4), (6, .int v6), (7, .int v7)] [] M := by
    intro K32 hK32 M v6 v7 hw
    refine q_iconst (v := 2) hC dX5_read_101 rfl 102 rfl ?_
    refine q_goto hC 106 dX5_read_102 (by decide) ?_
    exact XX.sub [0, 1, 2, 3, 4, 5, 6] rfl (B106 _ hK32 M v6 v7 2 hw)
  have B32 : ∀ (n : Nat) (M : MM) (v5 : Int32) (v6 : Int32) (v7 : Int32) , wX5_read_32 Q v1 v2 v3 v4 n M v5 v6 v7 → XX z g Qf 10 32 [(0, .ref (gA g 52)), (1, .int v1), (2, .int v2), (3, .int v3), (4, .int v4), (5, .int v5), (6, .int v6), (7, .int v7)] [] M := by
    intro n
    induction n with
    | zero =>
      intro M v5 v6 v7 hw
      exact hw.elim
    | succ n ih =>
      intro M v5 v6 v7 hw
      refine q_iload hC dX5_read_32 7 rfl 34 rfl ?_
      refine q_iload hC dX5_read_34 4 rfl 36 rfl ?_
      refine q_icmp_ge hC 172 dX5_read_36 (by decide) 39 rfl hw (fun hw => ?_) (fun hw => ?_)
      · exact XX.sub [0, 1, 3, 5, 6] rfl (B172 M v5 v6 hw)
      · refine q_iload hC dX5_read_39 5 rfl 41 rfl ?_
        refine q_if_ne hC 172 dX5_read_41 (by decide) 44 rfl hw (fun hw => ?_) (fun hw => ?_)
        · exact XX.sub [0, 1, 3, 5, 6] rfl (B172 M v5 v6 hw)
        · refine q_iload_n hC dX5_read_44 3 rfl 45 rfl ?_
          refine q_i2l hC dX5_read_45 46 rfl ?_
          refine q_iload hC dX5_read_46 7 rfl 48 rfl ?_
          refine q_i2l hC dX5_read_48 49 rfl ?_
          refine q_ladd hC dX5_read_49 50 rfl ?_
          refine q_nameJ (fun x5 ex5 => ?_)
          have hw := hw x5 ex5
          refine q_lstore (L' := [(8, .long x5), (0, .ref (gA g 52)), (1, .int v1), (2, .int v2), (3, .int v3), (4, .int v4), (5, .int v5), (6, .int v6), (7, .int v7)]) hC dX5_read_50 (by decide) rfl 52 rfl ?_
          refine q_aload_n hC dX5_read_52 1 rfl 53 rfl ?_
          refine q_getR (C := RX5) (T := TX5) (N := 26) (ci := 5) hC inX5_read_X5 (hF.ob 52 (by decide) (fun _ => rfl)) rfl 22 (by decide) (List.mem_of_getElem? (i := 2) (by decide +kernel)) rfl 64 (fun _ => rfl) dX5_read_53 56 rfl ?_
          refine q_iload_n hC dX5_read_56 2 rfl 57 rfl ?_
          obtain ⟨hin, hw⟩ := hw
          refine q_iald hC (hF.ar 64 (by decide) (fun _ => rfl)) hin dX5_read_57 58 rfl ?_
          refine q_bipush (v := (-4)) hC dX5_read_58 (by decide) 60 rfl ?_
          refine q_icmp_ne hC 67 dX5_read_60 (by decide) 63 rfl hw (fun hw => ?_) (fun hw => ?_)
          · refine q_aload_n hC dX5_read_67 1 rfl 68 rfl ?_
            refine q_getR (C := RX5) (T := TX5) (N := 26) (ci := 5) hC inX5_read_X5 (hF.ob 52 (by decide) (fun _ => rfl)) rfl 22 (by decide) (List.mem_of_getElem? (i := 2) (by decide +kernel)) rfl 64 (fun _ => rfl) dX5_read_68 71 rfl ?_
            refine q_iload_n hC dX5_read_71 2 rfl 72 rfl ?_
            obtain ⟨hin, hw⟩ := hw
            refine q_iald hC (hF.ar 64 (by decide) (fun _ => rfl)) hin dX5_read_72 73 rfl ?_
            refine q_iload_n hC dX5_read_73 3 rfl 74 rfl ?_
            refine q_icmp_eq hC 81 dX5_read_74 (by decide) 77 rfl hw (fun hw => ?_) (fun hw => ?_)
            · refine q_lload hC dX5_read_81 0 rfl 83 rfl ?_
              refine q_lconst (v := 0) hC dX5_read_83 rfl 84 rfl ?_
              refine q_lcmp hC dX5_read_84 85 rfl ?_
              refine q_if_lt hC 101 dX5_read_85 (by decide) 88 rfl hw (fun hw => ?_) (fun hw => ?_)
              · exact XX.sub [1, 2, 3, 4, 5, 7, 8] rfl (B101 _ (fun M v5 v6 v7 hw => ih M v5 v6 v7 hw) M v6 v7 hw)
              · refine q_lload hC dX5_read_88 0 rfl 90 rfl ?_
                refine q_aload_n hC dX5_read_90 1 rfl 91 rfl ?_
                refine q_getR (C := RX5) (T := TX5) (N := 26) (ci := 5) hC inX5_read_X5 (hF.ob 52 (by decide) (fun _ => rfl)) rfl 23 (by decide) (List.mem_of_getElem? (i := 3) (by decide +kernel)) rfl 65 (fun _ => rfl) dX5_read_91 94 rfl ?_
                refine q_iload_n hC dX5_read_94 2 rfl 95 rfl ?_
                obtain ⟨hin, hw⟩ := hw
                refine q_iald hC (hF.ar 65 (by decide) (fun _ => rfl)) hin dX5_read_95 96 rfl ?_
                refine q_i2l hC dX5_read_96 97 rfl ?_
                refine q_lcmp hC dX5_read_97 98 rfl ?_
                refine q_if_lt hC 105 dX5_read_98 (by decide) 101 rfl hw (fun hw => ?_) (fun hw => ?_)
                · refine q_iconst (v := 0) hC dX5_read_105 rfl 106 rfl ?_
                  exact XX.sub [1, 2, 3, 4, 5, 7, 8] rfl (B106 _ (fun M v5 v6 v7 hw => ih M v5 v6 v7 hw) M v6 v7 0 hw)
                · exact XX.sub [1, 2, 3, 4, 5, 7, 8] rfl (B101 _ (fun M v5 v6 v7 hw => ih M v5 v6 v7 hw) M v6 v7 hw)
            · refine q_iconst (v := 3) hC dX5_read_77 rfl 78 rfl ?_
              refine q_goto hC 106 dX5_read_78 (by decide) ?_
              exact XX.sub [1, 2, 3, 4, 5, 7, 8] rfl (B106 _ (fun M v5 v6 v7 hw => ih M v5 v6 v7 hw) M v6 v7 3 hw)
          · refine q_iconst (v := 1) hC dX5_read_63 rfl 64 rfl ?_
            refine q_goto hC 106 dX5_read_64 (by decide) ?_
            exact XX.sub [1, 2, 3, 4, 5, 7, 8] rfl (B106 _ (fun M v5 v6 v7 hw => ih M v5 v6 v7 hw) M v6 v7 1 hw)
  refine q_iload_n hC dX5_read_0 1 rfl 1 rfl ?_
  refine q_iload_n hC dX5_read_1 2 rfl 2 rfl ?_
  refine r_callI hC (go_T (As := [.int v1, .int v2]) (rest := []) hC (ctX5_isSheet (zl z) g M v1 v2 _ hw) 2 gX5_read_X5_isSheet rfl ⟨rfl, rfl⟩ (by decide +kernel) ⟨Nat.le_of_ble_eq_true rfl, Nat.le_of_ble_eq_true rfl⟩ rfl rfl (Nat.le_of_ble_eq_true rfl) dX5_read_2) 5 rfl (fun r1 M2 hw => ?_)
  refine q_if_eq hC 21 dX5_read_5 (by decide) 8 rfl hw (fun hw => ?_) (fun hw => ?_)
  · refine q_iconst (v := (-1)) hC dX5_read_21 rfl 22 rfl ?_
    exact r_iret hR dX5_read_22 hw
  · refine q_iload hC dX5_read_8 4 rfl 10 rfl ?_
    refine q_i2l hC dX5_read_10 11 rfl ?_
    refine q_lconst (v := 0) hC dX5_read_11 rfl 12 rfl ?_
    refine q_ldc2 (v := 12) hC (List.mem_of_getElem? (i := 1) (by decide +kernel)) dX5_read_12 15 rfl ?_
    refine r_callI hC (go_T (As := [.long (v4.toInt64), .long 0, .long 12]) (rest := []) hC (ctX5_in (zl z) g M2 (v4.toInt64) 0 12 _ hw) 3 gX5_read_X5_in rfl ⟨rfl, rfl⟩ (by decide +kernel) ⟨Nat.le_of_ble_eq_true rfl, Nat.le_of_ble_eq_true rfl⟩ rfl rfl (Nat.le_of_ble_eq_true rfl) dX5_read_15) 18 rfl (fun r3 M4 hw => ?_)
    refine q_if_ne hC 23 dX5_read_18 (by decide) 21 rfl hw (fun hw => ?_) (fun hw => ?_)
    · refine q_iconst (v := 0) hC dX5_read_23 rfl 24 rfl ?_
      refine q_istore (L' := [(5, .int 0), (0, .ref (gA g 52)), (1, .int v1), (2, .int v2), (3, .int v3), (4, .int v4)]) hC dX5_read_24 (by decide) rfl 26 rfl ?_
      refine q_iconst (v := 0) hC dX5_read_26 rfl 27 rfl ?_
      refine q_istore (L' := [(6, .int 0), (5, .int 0), (0, .ref (gA g 52)), (1, .int v1), (2, .int v2), (3, .int v3), (4, .int v4)]) hC dX5_read_27 (by decide) rfl 29 rfl ?_
      refine q_iconst (v := 0) hC dX5_read_29 rfl 30 rfl ?_
      refine q_istore (L' := [(7, .int 0), (6, .int 0), (5, .int 0), (0, .ref (gA g 52)), (1, .int v1), (2, .int v2), (3, .int v3), (4, .int v4)]) hC dX5_read_30 (by decide) rfl 32 rfl ?_
      obtain ⟨n0, hw⟩ := hw
      exact XX.sub [3, 4, 5, 6, 7, 2, 1, 0] rfl (B32 n0 M4 0 0 0 hw)
    · refine q_iconst (v := (-1)) hC dX5_read_21 rfl 22 rfl ?_
      exact r_iret hR dX5_read_22 hw
