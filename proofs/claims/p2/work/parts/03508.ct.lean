theorem inX5_reads_X5 : ∀ w ∈ u_ws RX5 TX5 26, w ∈ wsX5_reads := uX5_reads__wsX50
set_option maxRecDepth 100000 in
set_option maxHeartbeats 4000000 in
theorem ctX5_reads (l : Launch) (g : GG) (M : MM) (v1 : Int32) (Q : Int32 → MM → Prop) (hF : ful5 g) (hw : wX5_reads Q M v1) : MI g l yX5_reads wsX5_reads (rmOf 7 162) [.ref (gA g 52), .int v1] M Q := by
  refine mk_MI (cc := cX5_reads) (maxL := 4) (by decide) rfl (Nat.le_of_ble_eq_true rfl) ?_
  intro z Qf hC hR
  show XX z g Qf 4 0 [(0, .ref (gA g 52)), (1, .int v1)] [] M
  have B67 : ∀ (M : MM) (v2 : Int32) (p0 : Int32), wX5_reads_67 Q v1 M v2 p0 → XX z g Qf 4 67 [(0, .ref (gA g 52)), (2, .int v2)] [.int p0] M := by
    intro M v2 p0 hw
    refine q_istore_n (L' := [(3, .int p0), (0, .ref (gA g 52)), (2, .int v2)]) hC dX5_reads_67 (by decide) rfl 68 rfl ?_
    refine q_aload_n hC dX5_reads_68 1 rfl 69 rfl ?_
    refine q_getR (C := RX5) (T := TX5) (N := 26) (ci := 5) hC inX5_reads_X5 (obF52 hF) rfl 0 (by decide) (uX5_reads__X5_areBlocks _ (List.mem_of_getElem? (l := owX5_areBlocks) (i := 1) rfl)) rfl 53 (fun _ => rfl) dX5_reads_69 72 rfl ?_
    refine q_sipush (v := 326) hC dX5_reads_72 (by decide) 75 rfl ?_
    refine q_dup2 hC dX5_reads_75 rfl rfl 76 rfl ?_
    refine q_ialdL hC (arF53 hF) 326 (by decide +kernel) (by decide +kernel) dX5_reads_76 77 rfl ?_
    refine q_iload_n hC dX5_reads_77 2 rfl 78 rfl ?_
    refine q_iadd hC dX5_reads_78 79 rfl ?_
    refine q_iastL hC (arF53 hF) 326 (by decide +kernel) (by decide +kernel) dX5_reads_79 80 rfl (fun M10 eM10 => ?_)
    have hw := hw M10 eM10
    refine q_aload_n hC dX5_reads_80 1 rfl 81 rfl ?_
    refine q_getR (C := RX5) (T := TX5) (N := 26) (ci := 5) hC inX5_reads_X5 (obF52 hF) rfl 0 (by decide) (uX5_reads__X5_areBlocks _ (List.mem_of_getElem? (l := owX5_areBlocks) (i := 1) rfl)) rfl 53 (fun _ => rfl) dX5_reads_81 84 rfl ?_
    refine q_sipush (v := 325) hC dX5_reads_84 (by decide) 87 rfl ?_
    refine q_iload_n hC dX5_reads_87 0 rfl 88 rfl ?_
    refine q_iastL hC (arF53 hF) 325 (by decide +kernel) (by decide +kernel) dX5_reads_88 89 rfl (fun M11 eM11 => ?_)
    have hw := hw M11 eM11
    refine q_iload_n hC dX5_reads_89 2 rfl 90 rfl ?_
    exact r_iret hR dX5_reads_90 hw
  refine q_aload_n hC dX5_reads_0 0 rfl 1 rfl ?_
  refine q_iload_n hC dX5_reads_1 1 rfl 2 rfl ?_
  refine r_callI hC (go_V (q := (RX5, TX5, 26)) (As := [.int v1]) (rest := []) hC (ctX5_areBlocks (zl z) g M v1 _ hF hw) 1 gX5_reads_X5_areBlocks rfl ⟨rfl, rfl⟩ hdV_X5_areBlocks ⟨Nat.le_of_ble_eq_true rfl, Nat.le_of_ble_eq_true rfl⟩ (obF52 hF) rfl rfl rfl (Nat.le_of_ble_eq_true rfl) dX5_reads_2) 5 rfl (fun r1 M2 hw => ?_)
  refine q_if_ne hC 10 dX5_reads_5 (by decide) 8 rfl hw (fun hw => ?_) (fun hw => ?_)
  · refine q_iload_n hC dX5_reads_10 1 rfl 11 rfl ?_
    refine r_callI hC (go_T (As := [.int v1]) (rest := []) hC (ctX5_countOf (zl z) g M2 v1 _ hw) 1 gX5_reads_X5_countOf rfl ⟨rfl, rfl⟩ hdT_X5_countOf ⟨Nat.le_of_ble_eq_true rfl, Nat.le_of_ble_eq_true rfl⟩ rfl rfl (Nat.le_of_ble_eq_true rfl) dX5_reads_11) 14 rfl (fun r3 M4 hw => ?_)
    refine q_bipush (v := 8) hC dX5_reads_14 (by decide) 16 rfl ?_
    refine q_icmp_le hC 22 dX5_reads_16 (by decide) 19 rfl hw (fun hw => ?_) (fun hw => ?_)
    · refine q_aload_n hC dX5_reads_22 0 rfl 23 rfl ?_
      refine q_iload_n hC dX5_reads_23 1 rfl 24 rfl ?_
      refine r_callV hC (go_V (q := (RX5, TX5, 26)) (As := [.int v1]) (rest := []) hC (ctX5_layRest (zl z) g M4 v1 _ hF hw) 1 gX5_reads_X5_layRest rfl ⟨rfl, rfl⟩ hdV_X5_layRest ⟨Nat.le_of_ble_eq_true rfl, Nat.le_of_ble_eq_true rfl⟩ (obF52 hF) rfl rfl rfl (Nat.le_of_ble_eq_true rfl) dX5_reads_24) 27 rfl (fun M5 hw => ?_)
      refine q_aload_n hC dX5_reads_27 0 rfl 28 rfl ?_
      refine q_getR (C := RX5) (T := TX5) (N := 26) (ci := 5) hC inX5_reads_X5 (obF52 hF) rfl 18 (by decide) (uX5_reads__X5_layRest _ (List.mem_of_getElem? (l := owX5_layRest) (i := 3) rfl)) rfl 62 (fun _ => rfl) dX5_reads_28 31 rfl ?_
      refine q_bipush (v := 8) hC dX5_reads_31 (by decide) 33 rfl ?_
      refine q_ialdL hC (arF62 hF) 8 (by decide +kernel) (by decide +kernel) dX5_reads_33 34 rfl ?_
      refine q_istore_n (L' := [(2, .int (M5 62 8)), (0, .ref (gA g 52)), (1, .int v1)]) hC dX5_reads_34 (by decide) rfl 35 rfl ?_
      refine q_aload_n hC dX5_reads_35 1 rfl 36 rfl ?_
      refine q_getI (C := RX5) (T := TX5) (N := 26) (ci := 5) hC inX5_reads_X5 (obF52 hF) rfl 20 (by decide) (uX5_reads__X5_layRest _ (List.mem_of_getElem? (l := owX5_layRest) (i := 1) rfl)) rfl (fun _ => rfl) dX5_reads_36 39 rfl ?_
      refine q_if_ne hC 53 dX5_reads_39 (by decide) 42 rfl hw (fun hw => ?_) (fun hw => ?_)
      · refine q_aload_n hC dX5_reads_53 1 rfl 54 rfl ?_
        refine q_aload_n hC dX5_reads_54 1 rfl 55 rfl ?_
        refine q_aload_n hC dX5_reads_55 1 rfl 56 rfl ?_
        refine q_getI (C := RX5) (T := TX5) (N := 26) (ci := 5) hC inX5_reads_X5 (obF52 hF) rfl 20 (by decide) (uX5_reads__X5_layRest _ (List.mem_of_getElem? (l := owX5_layRest) (i := 1) rfl)) rfl (fun _ => rfl) dX5_reads_56 59 rfl ?_
        refine q_iconst (v := 1) hC dX5_reads_59 rfl 60 rfl ?_
        refine q_isub hC dX5_reads_60 61 rfl ?_
        refine r_callI hC (go_V (q := (RX5, TX5, 26)) (As := [.int ((M5 52 20) - (1 : Int32))]) (rest := [.ref (gA g 52)]) hC (ctX5_nthOf (zl z) g M5 ((M5 52 20) - (1 : Int32)) _ hF hw) 1 gX5_reads_X5_nthOf rfl ⟨rfl, rfl⟩ hdV_X5_nthOf ⟨Nat.le_of_ble_eq_true rfl, Nat.le_of_ble_eq_true rfl⟩ (obF52 hF) rfl rfl rfl (Nat.le_of_ble_eq_true rfl) dX5_reads_61) 64 rfl (fun r6 M7 hw => ?_)
        refine r_callI hC (go_V (q := (RX5, TX5, 26)) (As := [.int r6]) (rest := []) hC (ctX5_endOf (zl z) g M7 r6 _ hF hw) 1 gX5_reads_X5_endOf rfl ⟨rfl, rfl⟩ hdV_X5_endOf ⟨Nat.le_of_ble_eq_true rfl, Nat.le_of_ble_eq_true rfl⟩ (obF52 hF) rfl rfl rfl (Nat.le_of_ble_eq_true rfl) dX5_reads_64) 67 rfl (fun r8 M9 hw => ?_)
        exact XX.sub [1, 0] rfl (B67 M9 (M5 62 8) r8 hw)
      · refine q_aload_n hC dX5_reads_42 1 rfl 43 rfl ?_
        refine q_getR (C := RX5) (T := TX5) (N := 26) (ci := 5) hC inX5_reads_X5 (obF52 hF) rfl 0 (by decide) (uX5_reads__X5_areBlocks _ (List.mem_of_getElem? (l := owX5_areBlocks) (i := 1) rfl)) rfl 53 (fun _ => rfl) dX5_reads_43 46 rfl ?_
        refine q_sipush (v := 325) hC dX5_reads_46 (by decide) 49 rfl ?_
        refine q_ialdL hC (arF53 hF) 325 (by decide +kernel) (by decide +kernel) dX5_reads_49 50 rfl ?_
        refine q_goto hC 67 dX5_reads_50 (by decide) ?_
        exact XX.sub [1, 0] rfl (B67 M5 (M5 62 8) (M5 53 325) hw)
    · refine q_bipush (v := (-2)) hC dX5_reads_19 (by decide) 21 rfl ?_
      exact r_iret hR dX5_reads_21 hw
  · refine q_iconst (v := (-1)) hC dX5_reads_8 rfl 9 rfl ?_
    exact r_iret hR dX5_reads_9 hw
theorem inX5_moves_X5 : ∀ w ∈ u_ws RX5 TX5 26, w ∈ wsX5_moves := uX5_moves__wsX50
set_option maxRecDepth 100000 in
set_option maxHeartbeats 4000000 in
theorem ctX5_moves (l : Launch) (g : GG) (M : MM) (v1 : Int32) (v2 : Int32) (v3 : Int32) (Q : MM → Prop) (hF : ful5 g) (hw : wX5_moves Q M v1 v2 v3) : MV g l yX5_moves wsX5_moves (rmOf 0 0) [.ref (gA g 52), .int v1, .int v2, .int v3] M Q := by
  refine mk_MV (cc := cX5_moves) (maxL := 5) (by decide) rfl (Nat.le_of_ble_eq_true rfl) ?_
  intro z Qf hC hR
  show XX z g Qf 5 0 [(0, .ref (gA g 52)), (1, .int v1), (2, .int v2), (3, .int v3)] [] M
  have B85 : ∀ (n : Nat) (M : MM) (v4 : Int32) , wX5_moves_85 Q v1 v2 v3 n M v4 → XX z g Qf 5 85 [(0, .ref (gA g 52)), (1, .int v1), (2, .int v2), (4, .int v4)] [] M := by
    intro n
    induction n with
    | zero =>
      intro M v4 hw
      exact hw.elim
    | succ n ih =>
      intro M v4 hw
      refine q_iload hC dX5_moves_85 3 rfl 87 rfl ?_
      refine q_bipush (v := 12) hC dX5_moves_87 (by decide) 89 rfl ?_
      refine q_icmp_ge hC 130 dX5_moves_89 (by decide) 92 rfl hw (fun hw => ?_) (fun hw => ?_)
      · exact r_vret hR dX5_moves_130 hw
      · refine q_aload_n hC dX5_moves_92 0 rfl 93 rfl ?_
        refine q_getR (C := RX5) (T := TX5) (N := 26) (ci := 5) hC inX5_moves_X5 (obF52 hF) rfl 0 (by decide) (uX5_moves__o _ (List.mem_of_getElem? (l := owX5_moves) (i := 1) rfl)) rfl 53 (fun _ => rfl) dX5_moves_93 96 rfl ?_
        refine q_sipush (v := 181) hC dX5_moves_96 (by decide) 99 rfl ?_
        refine q_bipush (v := 12) hC dX5_moves_99 (by decide) 101 rfl ?_
        refine q_iload_n hC dX5_moves_101 1 rfl 102 rfl ?_
        refine q_imul hC dX5_moves_102 103 rfl ?_
        refine q_iadd hC dX5_moves_103 104 rfl ?_
        refine q_iload hC dX5_moves_104 3 rfl 106 rfl ?_
        refine q_iadd hC dX5_moves_106 107 rfl ?_
        refine q_aload_n hC dX5_moves_107 0 rfl 108 rfl ?_
        refine q_getR (C := RX5) (T := TX5) (N := 26) (ci := 5) hC inX5_moves_X5 (obF52 hF) rfl 0 (by decide) (uX5_moves__o _ (List.mem_of_getElem? (l := owX5_moves) (i := 1) rfl)) rfl 53 (fun _ => rfl) dX5_moves_108 111 rfl ?_
        refine q_sipush (v := 181) hC dX5_moves_111 (by decide) 114 rfl ?_
        refine q_bipush (v := 12) hC dX5_moves_114 (by decide) 116 rfl ?_
        refine q_iload_n hC dX5_moves_116 2 rfl 117 rfl ?_
        refine q_imul hC dX5_moves_117 118 rfl ?_
        refine q_iadd hC dX5_moves_118 119 rfl ?_
        refine q_iload hC dX5_moves_119 3 rfl 121 rfl ?_
        refine q_iadd hC dX5_moves_121 122 rfl ?_
        obtain ⟨hin, hw⟩ := hw
        refine q_iald hC (arF53 hF) hin dX5_moves_122 123 rfl ?_
        obtain ⟨hin, hw⟩ := hw
        refine q_iast hC (arF53 hF) hin dX5_moves_123 124 rfl (fun M4 eM4 => ?_)
        have hw := hw M4 eM4
        refine q_iinc (v := v4 + 1) (L' := [(4, .int (v4 + 1)), (0, .ref (gA g 52)), (1, .int v1), (2, .int v2)]) hC dX5_moves_124 3 rfl rfl (by decide) rfl 127 rfl ?_
        refine q_goto hC 85 dX5_moves_127 (by decide) ?_
        exact XX.sub [1, 2, 3, 0] rfl (ih M4 (v4 + 1) hw)
  have B39 : ∀ (n : Nat) (M : MM) (v4 : Int32) , wX5_moves_39 Q v1 v2 v3 n M v4 → XX z g Qf 5 39 [(0, .ref (gA g 52)), (1, .int v1), (2, .int v2), (4, .int v4)] [] M := by
    intro n
    induction n with
    | zero =>
      intro M v4 hw
      exact hw.elim
    | succ n ih =>
      intro M v4 hw
      refine q_iload hC dX5_moves_39 3 rfl 41 rfl ?_
      refine q_bipush (v := 13) hC dX5_moves_41 (by decide) 43 rfl ?_
      refine q_icmp_ge hC 82 dX5_moves_43 (by decide) 46 rfl hw (fun hw => ?_) (fun hw => ?_)
      · refine q_iconst (v := 0) hC dX5_moves_82 rfl 83 rfl ?_
        refine q_istore (L' := [(4, .int 0), (0, .ref (gA g 52)), (1, .int v1), (2, .int v2)]) hC dX5_moves_83 (by decide) rfl 85 rfl ?_
        obtain ⟨n0, hw⟩ := hw
        exact XX.sub [1, 2, 3, 0] rfl (B85 n0 M 0 hw)
      · refine q_aload_n hC dX5_moves_46 0 rfl 47 rfl ?_
        refine q_getR (C := RX5) (T := TX5) (N := 26) (ci := 5) hC inX5_moves_X5 (obF52 hF) rfl 0 (by decide) (uX5_moves__o _ (List.mem_of_getElem? (l := owX5_moves) (i := 1) rfl)) rfl 53 (fun _ => rfl) dX5_moves_47 50 rfl ?_
        refine q_bipush (v := 25) hC dX5_moves_50 (by decide) 52 rfl ?_
        refine q_bipush (v := 13) hC dX5_moves_52 (by decide) 54 rfl ?_
        refine q_iload_n hC dX5_moves_54 1 rfl 55 rfl ?_
        refine q_imul hC dX5_moves_55 56 rfl ?_
        refine q_iadd hC dX5_moves_56 57 rfl ?_
        refine q_iload hC dX5_moves_57 3 rfl 59 rfl ?_
        refine q_iadd hC dX5_moves_59 60 rfl ?_
        refine q_aload_n hC dX5_moves_60 0 rfl 61 rfl ?_
        refine q_getR (C := RX5) (T := TX5) (N := 26) (ci := 5) hC inX5_moves_X5 (obF52 hF) rfl 0 (by decide) (uX5_moves__o _ (List.mem_of_getElem? (l := owX5_moves) (i := 1) rfl)) rfl 53 (fun _ => rfl) dX5_moves_61 64 rfl ?_
        refine q_bipush (v := 25) hC dX5_moves_64 (by decide) 66 rfl ?_
        refine q_bipush (v := 13) hC dX5_moves_66 (by decide) 68 rfl ?_
        refine q_iload_n hC dX5_moves_68 2 rfl 69 rfl ?_
        refine q_imul hC dX5_moves_69 70 rfl ?_
        refine q_iadd hC dX5_moves_70 71 rfl ?_
        refine q_iload hC dX5_moves_71 3 rfl 73 rfl ?_
        refine q_iadd hC dX5_moves_73 74 rfl ?_
        obtain ⟨hin, hw⟩ := hw
        refine q_iald hC (arF53 hF) hin dX5_moves_74 75 rfl ?_
        obtain ⟨hin, hw⟩ := hw
        refine q_iast hC (arF53 hF) hin dX5_moves_75 76 rfl (fun M3 eM3 => ?_)
        have hw := hw M3 eM3
        refine q_iinc (v := v4 + 1) (L' := [(4, .int (v4 + 1)), (0, .ref (gA g 52)), (1, .int v1), (2, .int v2)]) hC dX5_moves_76 3 rfl rfl (by decide) rfl 79 rfl ?_
        refine q_goto hC 39 dX5_moves_79 (by decide) ?_
        exact XX.sub [1, 2, 3, 0] rfl (ih M3 (v4 + 1) hw)
  refine q_aload_n hC dX5_moves_0 0 rfl 1 rfl ?_
  refine q_getR (C := RX5) (T := TX5) (N := 26) (ci := 5) hC inX5_moves_X5 (obF52 hF) rfl 0 (by decide) (uX5_moves__o _ (List.mem_of_getElem? (l := owX5_moves) (i := 1) rfl)) rfl 53 (fun _ => rfl) dX5_moves_1 4 rfl ?_
  refine q_iconst (v := 1) hC dX5_moves_4 rfl 5 rfl ?_
  refine q_iload_n hC dX5_moves_5 1 rfl 6 rfl ?_
  refine q_iadd hC dX5_moves_6 7 rfl ?_
  refine q_aload_n hC dX5_moves_7 0 rfl 8 rfl ?_
  refine q_getR (C := RX5) (T := TX5) (N := 26) (ci := 5) hC inX5_moves_X5 (obF52 hF) rfl 0 (by decide) (uX5_moves__o _ (List.mem_of_getElem? (l := owX5_moves) (i := 1) rfl)) rfl 53 (fun _ => rfl) dX5_moves_8 11 rfl ?_
  refine q_iconst (v := 1) hC dX5_moves_11 rfl 12 rfl ?_
  refine q_iload_n hC dX5_moves_12 2 rfl 13 rfl ?_
  refine q_iadd hC dX5_moves_13 14 rfl ?_
  obtain ⟨hin, hw⟩ := hw
  refine q_iald hC (arF53 hF) hin dX5_moves_14 15 rfl ?_
  refine q_iload_n hC dX5_moves_15 3 rfl 16 rfl ?_
  refine q_isub hC dX5_moves_16 17 rfl ?_
  obtain ⟨hin, hw⟩ := hw
  refine q_iast hC (arF53 hF) hin dX5_moves_17 18 rfl (fun M1 eM1 => ?_)
  have hw := hw M1 eM1
  refine q_aload_n hC dX5_moves_18 0 rfl 19 rfl ?_
  refine q_getR (C := RX5) (T := TX5) (N := 26) (ci := 5) hC inX5_moves_X5 (obF52 hF) rfl 0 (by decide) (uX5_moves__o _ (List.mem_of_getElem? (l := owX5_moves) (i := 1) rfl)) rfl 53 (fun _ => rfl) dX5_moves_19 22 rfl ?_
  refine q_bipush (v := 13) hC dX5_moves_22 (by decide) 24 rfl ?_
  refine q_iload_n hC dX5_moves_24 1 rfl 25 rfl ?_
  refine q_iadd hC dX5_moves_25 26 rfl ?_
  refine q_aload_n hC dX5_moves_26 0 rfl 27 rfl ?_
  refine q_getR (C := RX5) (T := TX5) (N := 26) (ci := 5) hC inX5_moves_X5 (obF52 hF) rfl 0 (by decide) (uX5_moves__o _ (List.mem_of_getElem? (l := owX5_moves) (i := 1) rfl)) rfl 53 (fun _ => rfl) dX5_moves_27 30 rfl ?_
  refine q_bipush (v := 13) hC dX5_moves_30 (by decide) 32 rfl ?_
  refine q_iload_n hC dX5_moves_32 2 rfl 33 rfl ?_
  refine q_iadd hC dX5_moves_33 34 rfl ?_
  obtain ⟨hin, hw⟩ := hw
  refine q_iald hC (arF53 hF) hin dX5_moves_34 35 rfl ?_
  obtain ⟨hin, hw⟩ := hw
  refine q_iast hC (arF53 hF) hin dX5_moves_35 36 rfl (fun M2 eM2 => ?_)
  have hw := hw M2 eM2
  refine q_iconst (v := 0) hC dX5_moves_36 rfl 37 rfl ?_
  refine q_istore (L' := [(4, .int 0), (0, .ref (gA g 52)), (1, .int v1), (2, .int v2), (3, .int v3)]) hC dX5_moves_37 (by decide) rfl 39 rfl ?_
  obtain ⟨n0, hw⟩ := hw
  exact XX.sub [1, 2, 3, 0] rfl (B39 n0 M2 0 hw)
theorem hdV_X5_moves : yX5_moves.cls = RX5 ∧ yX5_moves.cls ≠ "java/lang/invoke/MethodHandle" ∧ yX5_moves.cls ≠ "java/lang/invoke/VarHandle" ∧ (parseMethodDescriptor yX5_moves.desc).map (fun d => d.parameters.length) = some 3 := by decide +kernel
theorem inX5_cut_X5 : ∀ w ∈ u_ws RX5 TX5 26, w ∈ wsX5_cut := uX5_cut__wsX50
set_option maxRecDepth 100000 in
set_option maxHeartbeats 4000000 in
theorem ctX5_cut (l : Launch) (g : GG) (M : MM) (v1 : Int32) (v2 : Int32) (Q : Int32 → MM → Prop) (hF : ful5 g) (hw : wX5_cut Q M v1 v2) : MI g l yX5_cut wsX5_cut (rmOf 2 46) [.ref (gA g 52), .int v1, .int v2] M Q := by
  refine mk_MI (cc := cX5_cut) (maxL := 7) (by decide) rfl (Nat.le_of_ble_eq_true rfl) ?_
  intro z Qf hC hR
  show XX z g Qf 7 0 [(0, .ref (gA g 52)), (1, .int v1), (2, .int v2)] [] M
  have B191 : ∀ (M : MM) (v3 : Int32) (v4 : Int32) (p0 : Int32) (p1 : Int32), wX5_cut_191 Q v1 v2 M v3 v4 p0 p1 → XX z g Qf 7 191 [(0, .ref (gA g 52)), (1, .int v1), (2, .int v2), (3, .int v3), (4, .int v4)] [.int p0, .int p1, .ref (gA g 53)] M := by
    intro M v3 v4 p0 p1 hw
    obtain ⟨hin, hw⟩ := hw
    refine q_iast hC (arF53 hF) hin dX5_cut_191 192 rfl (fun M8 eM8 => ?_)
    have hw := hw M8 eM8
    refine q_aload_n hC dX5_cut_192 0 rfl 193 rfl ?_
    refine q_getR (C := RX5) (T := TX5) (N := 26) (ci := 5) hC inX5_cut_X5 (obF52 hF) rfl 0 (by decide) (uX5_cut__X5_isPlace _ (List.mem_of_getElem? (l := owX5_isPlace) (i := 1) rfl)) rfl 53 (fun _ => rfl) dX5_cut_193 196 rfl ?_
    refine q_sipush (v := 366) hC dX5_cut_196 (by decide) 199 rfl ?_
    refine q_dup2 hC dX5_cut_199 rfl rfl 200 rfl ?_
    refine q_ialdL hC (arF53 hF) 366 (by decide +kernel) (by decide +kernel) dX5_cut_200 201 rfl ?_
    refine q_iload_n hC dX5_cut_201 2 rfl 202 rfl ?_
    refine q_iload_n hC dX5_cut_202 1 rfl 203 rfl ?_
    refine q_isub hC dX5_cut_203 204 rfl ?_
    refine q_isub hC dX5_cut_204 205 rfl ?_
    refine q_iastL hC (arF53 hF) 366 (by decide +kernel) (by decide +kernel) dX5_cut_205 206 rfl (fun M9 eM9 => ?_)
    have hw := hw M9 eM9
    refine q_iload hC dX5_cut_206 4 rfl 208 rfl ?_
    refine q_iload_n hC dX5_cut_208 3 rfl 209 rfl ?_
    refine q_isub hC dX5_cut_209 210 rfl ?_
    exact r_iret hR dX5_cut_210 hw
  have B120 : ∀ (K56 : MM → Int32 → Int32 → Int32 → Prop) (hK56 : ∀ (M : MM) (v3 : Int32) (v4 : Int32) (v5 : Int32) , K56 M v3 v4 v5 → XX z g Qf 7 56 [(0, .ref (gA g 52)), (1, .int v1), (2, .int v2), (3, .int v3), (4, .int v4), (5, .int v5)] [] M) (M : MM) (v3 : Int32) (v4 : Int32) (v5 : Int32), wX5_cut_120 Q K56 v1 v2 M v3 v4 v5 → XX z g Qf 7 120 [(0, .ref (gA g 52)), (1, .int v1), (2, .int v2), (3, .int v3), (4, .int v4), (5, .int v5)] [] M := by
    intro K56 hK56 M v3 v4 v5 hw
    refine q_iinc (v := v5 + 1) (L' := [(5, .int (v5 + 1)), (0, .ref (gA g 52)), (1, .int v1), (2, .int v2), (3, .int v3), (4, .int v4)]) hC dX5_cut_120 5 rfl rfl (by decide) rfl 123 rfl ?_
    refine q_goto hC 56 dX5_cut_123 (by decide) ?_
    exact XX.sub [1, 2, 3, 4, 5, 0] rfl (hK56 M v3 v4 (v5 + 1) hw)
  have B114 : ∀ (K56 : MM → Int32 → Int32 → Int32 → Prop) (hK56 : ∀ (M : MM) (v3 : Int32) (v4 : Int32) (v5 : Int32) , K56 M v3 v4 v5 → XX z g Qf 7 56 [(0, .ref (gA g 52)), (1, .int v1), (2, .int v2), (3, .int v3), (4, .int v4), (5, .int v5)] [] M) (M : MM) (v3 : Int32) (v4 : Int32) (v5 : Int32) (p0 : Int32) (p1 : Int32) (p2 : Int32), wX5_cut_114 Q K56 v1 v2 M v3 v4 v5 p0 p1 p2 → XX z g Qf 7 114 [(0, .ref (gA g 52)), (1, .int v1), (2, .int v2), (3, .int v3), (4, .int v4), (5, .int v5)] [.int p0, .int p1, .int p2, .ref (gA g 52)] M := by
    intro K56 hK56 M v3 v4 v5 p0 p1 p2 hw
    refine r_callV hC (go_V (q := (RX5, TX5, 26)) (As := [.int p2, .int p1, .int p0]) (rest := []) hC (ctX5_moves (zl z) g M p2 p1 p0 _ hF hw) 3 gX5_cut_X5_moves rfl ⟨rfl, rfl⟩ hdV_X5_moves ⟨Nat.le_of_ble_eq_true rfl, Nat.le_of_ble_eq_true rfl⟩ (obF52 hF) rfl rfl rfl (Nat.le_of_ble_eq_true rfl) dX5_cut_114) 117 rfl (fun M10 hw => ?_)
    refine q_iinc (v := v3 + 1) (L' := [(3, .int (v3 + 1)), (0, .ref (gA g 52)), (1, .int v1), (2, .int v2), (4, .int v4), (5, .int v5)]) hC dX5_cut_117 3 rfl rfl (by decide) rfl 120 rfl ?_
    exact XX.sub [1, 2, 3, 0, 4, 5] rfl (B120 _ hK56 M10 (v3 + 1) v4 v5 hw)
  have B98 : ∀ (K56 : MM → Int32 → Int32 → Int32 → Prop) (hK56 : ∀ (M : MM) (v3 : Int32) (v4 : Int32) (v5 : Int32) , K56 M v3 v4 v5 → XX z g Qf 7 56 [(0, .ref (gA g 52)), (1, .int v1), (2, .int v2), (3, .int v3), (4, .int v4), (5, .int v5)] [] M) (M : MM) (v3 : Int32) (v4 : Int32) (v5 : Int32) (v6 : Int32), wX5_cut_98 Q K56 v1 v2 M v3 v4 v5 v6 → XX z g Qf 7 98 [(0, .ref (gA g 52)), (1, .int v1), (2, .int v2), (3, .int v3), (4, .int v4), (5, .int v5), (6, .int v6)] [] M := by
    intro K56 hK56 M v3 v4 v5 v6 hw
    refine q_aload_n hC dX5_cut_98 0 rfl 99 rfl ?_
    refine q_iload_n hC dX5_cut_99 3 rfl 100 rfl ?_
    refine q_iload hC dX5_cut_100 5 rfl 102 rfl ?_
    refine q_iload hC dX5_cut_102 6 rfl 104 rfl ?_
    refine q_if_eq hC 113 dX5_cut_104 (by decide) 107 rfl hw (fun hw => ?_) (fun hw => ?_)
    · refine q_iconst (v := 0) hC dX5_cut_113 rfl 114 rfl ?_
      exact XX.sub [0, 1, 2, 3, 4, 5] rfl (B114 _ hK56 M v3 v4 v5 0 v5 v3 hw)
    · refine q_iload_n hC dX5_cut_107 2 rfl 108 rfl ?_
      refine q_iload_n hC dX5_cut_108 1 rfl 109 rfl ?_
      refine q_isub hC dX5_cut_109 110 rfl ?_
      refine q_goto hC 114 dX5_cut_110 (by decide) ?_
      exact XX.sub [0, 1, 2, 3, 4, 5] rfl (B114 _ hK56 M v3 v4 v5 (v2 - v1) v5 v3 hw)
  have B81 : ∀ (K56 : MM → Int32 → Int32 → Int32 → Prop) (hK56 : ∀ (M : MM) (v3 : Int32) (v4 : Int32) (v5 : Int32) , K56 M v3 v4 v5 → XX z g Qf 7 56 [(0, .ref (gA g 52)), (1, .int v1), (2, .int v2), (3, .int v3), (4, .int v4), (5, .int v5)] [] M) (M : MM) (v3 : Int32) (v4 : Int32) (v5 : Int32) (p0 : Int32), wX5_cut_81 Q K56 v1 v2 M v3 v4 v5 p0 → XX z g Qf 7 81 [(0, .ref (gA g 52)), (1, .int v1), (2, .int v2), (3, .int v3), (4, .int v4), (5, .int v5)] [.int p0] M := by
    intro K56 hK56 M v3 v4 v5 p0 hw
    refine q_istore (L' := [(6, .int p0), (0, .ref (gA g 52)), (1, .int v1), (2, .int v2), (3, .int v3), (4, .int v4), (5, .int v5)]) hC dX5_cut_81 (by decide) rfl 83 rfl ?_
    refine q_iload hC dX5_cut_83 0 rfl 85 rfl ?_
    refine q_if_ne hC 98 dX5_cut_85 (by decide) 88 rfl hw (fun hw => ?_) (fun hw => ?_)
    · exact XX.sub [1, 2, 3, 4, 5, 6, 0] rfl (B98 _ hK56 M v3 v4 v5 p0 hw)
    · refine q_aload_n hC dX5_cut_88 1 rfl 89 rfl ?_
      refine q_iload hC dX5_cut_89 6 rfl 91 rfl ?_
      refine r_callI hC (go_V (q := (RX5, TX5, 26)) (As := [.int v5]) (rest := []) hC (ctX5_endOf (zl z) g M v5 _ hF hw) 1 gX5_cut_X5_endOf rfl ⟨rfl, rfl⟩ hdV_X5_endOf ⟨Nat.le_of_ble_eq_true rfl, Nat.le_of_ble_eq_true rfl⟩ (obF52 hF) rfl rfl rfl (Nat.le_of_ble_eq_true rfl) dX5_cut_91) 94 rfl (fun r6 M7 hw => ?_)
      refine q_iload_n hC dX5_cut_94 2 rfl 95 rfl ?_
      refine q_icmp_gt hC 120 dX5_cut_95 (by decide) 98 rfl hw (fun hw => ?_) (fun hw => ?_)
      · exact XX.sub [1, 2, 3, 4, 5, 6] rfl (B120 _ hK56 M7 v3 v4 v5 hw)
      · exact XX.sub [1, 2, 3, 4, 5, 6, 0] rfl (B98 _ hK56 M7 v3 v4 v5 p0 hw)
  have B56 : ∀ (n : Nat) (M : MM) (v3 : Int32) (v4 : Int32) (v5 : Int32) , wX5_cut_56 Q v1 v2 n M v3 v4 v5 → XX z g Qf 7 56 [(0, .ref (gA g 52)), (1, .int v1), (2, .int v2), (3, .int v3), (4, .int v4), (5, .int v5)] [] M := by
    intro n
    induction n with
    | zero =>
      intro M v3 v4 v5 hw
      exact hw.elim
    | succ n ih =>
      intro M v3 v4 v5 hw
      refine q_iload hC dX5_cut_56 5 rfl 58 rfl ?_
      refine q_iload hC dX5_cut_58 4 rfl 60 rfl ?_
      refine q_icmp_ge hC 126 dX5_cut_60 (by decide) 63 rfl hw (fun hw => ?_) (fun hw => ?_)
      · refine q_aload_n hC dX5_cut_126 0 rfl 127 rfl ?_
        refine q_getR (C := RX5) (T := TX5) (N := 26) (ci := 5) hC inX5_cut_X5 (obF52 hF) rfl 0 (by decide) (uX5_cut__X5_isPlace _ (List.mem_of_getElem? (l := owX5_isPlace) (i := 1) rfl)) rfl 53 (fun _ => rfl) dX5_cut_127 130 rfl ?_
        refine q_iconst (v := 0) hC dX5_cut_130 rfl 131 rfl ?_
        refine q_iload_n hC dX5_cut_131 3 rfl 132 rfl ?_
        refine q_iastL hC (arF53 hF) 0 (by decide +kernel) (by decide +kernel) dX5_cut_132 133 rfl (fun M5 eM5 => ?_)
        have hw := hw M5 eM5
        refine q_aload_n hC dX5_cut_133 0 rfl 134 rfl ?_
        refine q_getR (C := RX5) (T := TX5) (N := 26) (ci := 5) hC inX5_cut_X5 (obF52 hF) rfl 0 (by decide) (uX5_cut__X5_isPlace _ (List.mem_of_getElem? (l := owX5_isPlace) (i := 1) rfl)) rfl 53 (fun _ => rfl) dX5_cut_134 137 rfl ?_
        refine q_sipush (v := 325) hC dX5_cut_137 (by decide) 140 rfl ?_
        refine q_aload_n hC dX5_cut_140 0 rfl 141 rfl ?_
        refine q_getR (C := RX5) (T := TX5) (N := 26) (ci := 5) hC inX5_cut_X5 (obF52 hF) rfl 0 (by decide) (uX5_cut__X5_isPlace _ (List.mem_of_getElem? (l := owX5_isPlace) (i := 1) rfl)) rfl 53 (fun _ => rfl) dX5_cut_141 144 rfl ?_
        refine q_sipush (v := 325) hC dX5_cut_144 (by decide) 147 rfl ?_
        refine q_ialdL hC (arF53 hF) 325 (by decide +kernel) (by decide +kernel) dX5_cut_147 148 rfl ?_
        refine q_iload_n hC dX5_cut_148 2 rfl 149 rfl ?_
        refine q_icmp_lt hC 167 dX5_cut_149 (by decide) 152 rfl hw (fun hw => ?_) (fun hw => ?_)
        · refine q_aload_n hC dX5_cut_167 0 rfl 168 rfl ?_
          refine q_getR (C := RX5) (T := TX5) (N := 26) (ci := 5) hC inX5_cut_X5 (obF52 hF) rfl 0 (by decide) (uX5_cut__X5_isPlace _ (List.mem_of_getElem? (l := owX5_isPlace) (i := 1) rfl)) rfl 53 (fun _ => rfl) dX5_cut_168 171 rfl ?_
          refine q_sipush (v := 325) hC dX5_cut_171 (by decide) 174 rfl ?_
          refine q_ialdL hC (arF53 hF) 325 (by decide +kernel) (by decide +kernel) dX5_cut_174 175 rfl ?_
          refine q_iload_n hC dX5_cut_175 1 rfl 176 rfl ?_
          refine q_icmp_le hC 183 dX5_cut_176 (by decide) 179 rfl hw (fun hw => ?_) (fun hw => ?_)
          · refine q_aload_n hC dX5_cut_183 0 rfl 184 rfl ?_
            refine q_getR (C := RX5) (T := TX5) (N := 26) (ci := 5) hC inX5_cut_X5 (obF52 hF) rfl 0 (by decide) (uX5_cut__X5_isPlace _ (List.mem_of_getElem? (l := owX5_isPlace) (i := 1) rfl)) rfl 53 (fun _ => rfl) dX5_cut_184 187 rfl ?_
            refine q_sipush (v := 325) hC dX5_cut_187 (by decide) 190 rfl ?_
            refine q_ialdL hC (arF53 hF) 325 (by decide +kernel) (by decide +kernel) dX5_cut_190 191 rfl ?_
            exact XX.sub [0, 1, 2, 3, 4] rfl (B191 M5 v3 v4 (M5 53 325) 325 hw)
          · refine q_iload_n hC dX5_cut_179 1 rfl 180 rfl ?_
            refine q_goto hC 191 dX5_cut_180 (by decide) ?_
            exact XX.sub [0, 1, 2, 3, 4] rfl (B191 M5 v3 v4 v1 325 hw)
        · refine q_aload_n hC dX5_cut_152 0 rfl 153 rfl ?_
          refine q_getR (C := RX5) (T := TX5) (N := 26) (ci := 5) hC inX5_cut_X5 (obF52 hF) rfl 0 (by decide) (uX5_cut__X5_isPlace _ (List.mem_of_getElem? (l := owX5_isPlace) (i := 1) rfl)) rfl 53 (fun _ => rfl) dX5_cut_153 156 rfl ?_
          refine q_sipush (v := 325) hC dX5_cut_156 (by decide) 159 rfl ?_
          refine q_ialdL hC (arF53 hF) 325 (by decide +kernel) (by decide +kernel) dX5_cut_159 160 rfl ?_
          refine q_iload_n hC dX5_cut_160 2 rfl 161 rfl ?_
          refine q_iload_n hC dX5_cut_161 1 rfl 162 rfl ?_
          refine q_isub hC dX5_cut_162 163 rfl ?_
          refine q_isub hC dX5_cut_163 164 rfl ?_
          refine q_goto hC 191 dX5_cut_164 (by decide) ?_
          exact XX.sub [0, 1, 2, 3, 4] rfl (B191 M5 v3 v4 ((M5 53 325) - (v2 - v1)) 325 hw)
      · refine q_aload_n hC dX5_cut_63 0 rfl 64 rfl ?_
        refine q_getR (C := RX5) (T := TX5) (N := 26) (ci := 5) hC inX5_cut_X5 (obF52 hF) rfl 0 (by decide) (uX5_cut__X5_isPlace _ (List.mem_of_getElem? (l := owX5_isPlace) (i := 1) rfl)) rfl 53 (fun _ => rfl) dX5_cut_64 67 rfl ?_
        refine q_iconst (v := 1) hC dX5_cut_67 rfl 68 rfl ?_
        refine q_iload hC dX5_cut_68 5 rfl 70 rfl ?_
        refine q_iadd hC dX5_cut_70 71 rfl ?_
        obtain ⟨hin, hw⟩ := hw
        refine q_iald hC (arF53 hF) hin dX5_cut_71 72 rfl ?_
        refine q_iload_n hC dX5_cut_72 2 rfl 73 rfl ?_
        refine q_icmp_lt hC 80 dX5_cut_73 (by decide) 76 rfl hw (fun hw => ?_) (fun hw => ?_)
        · refine q_iconst (v := 0) hC dX5_cut_80 rfl 81 rfl ?_
          exact XX.sub [0, 1, 2, 3, 4, 5] rfl (B81 _ (fun M v3 v4 v5 hw => ih M v3 v4 v5 hw) M v3 v4 v5 0 hw)
        · refine q_iconst (v := 1) hC dX5_cut_76 rfl 77 rfl ?_
          refine q_goto hC 81 dX5_cut_77 (by decide) ?_
          exact XX.sub [0, 1, 2, 3, 4, 5] rfl (B81 _ (fun M v3 v4 v5 hw => ih M v3 v4 v5 hw) M v3 v4 v5 1 hw)
  refine q_aload_n hC dX5_cut_0 0 rfl 1 rfl ?_
  refine q_iload_n hC dX5_cut_1 1 rfl 2 rfl ?_
  refine r_callI hC (go_V (q := (RX5, TX5, 26)) (As := [.int v1]) (rest := []) hC (ctX5_isPlace (zl z) g M v1 _ hF hw) 1 gX5_cut_X5_isPlace rfl ⟨rfl, rfl⟩ hdV_X5_isPlace ⟨Nat.le_of_ble_eq_true rfl, Nat.le_of_ble_eq_true rfl⟩ (obF52 hF) rfl rfl rfl (Nat.le_of_ble_eq_true rfl) dX5_cut_2) 5 rfl (fun r1 M2 hw => ?_)
  refine q_if_eq hC 21 dX5_cut_5 (by decide) 8 rfl hw (fun hw => ?_) (fun hw => ?_)
  · refine q_iconst (v := (-1)) hC dX5_cut_21 rfl 22 rfl ?_
    exact r_iret hR dX5_cut_22 hw
  · refine q_aload_n hC dX5_cut_8 0 rfl 9 rfl ?_
    refine q_iload_n hC dX5_cut_9 2 rfl 10 rfl ?_
    refine r_callI hC (go_V (q := (RX5, TX5, 26)) (As := [.int v2]) (rest := []) hC (ctX5_isPlace (zl z) g M2 v2 _ hF hw) 1 gX5_cut_X5_isPlace rfl ⟨rfl, rfl⟩ hdV_X5_isPlace ⟨Nat.le_of_ble_eq_true rfl, Nat.le_of_ble_eq_true rfl⟩ (obF52 hF) rfl rfl rfl (Nat.le_of_ble_eq_true rfl) dX5_cut_10) 13 rfl (fun r3 M4 hw => ?_)
    refine q_if_eq hC 21 dX5_cut_13 (by decide) 16 rfl hw (fun hw => ?_) (fun hw => ?_)
    · refine q_iconst (v := (-1)) hC dX5_cut_21 rfl 22 rfl ?_
      exact r_iret hR dX5_cut_22 hw
    · refine q_iload_n hC dX5_cut_16 2 rfl 17 rfl ?_
      refine q_iload_n hC dX5_cut_17 1 rfl 18 rfl ?_
      refine q_icmp_gt hC 23 dX5_cut_18 (by decide) 21 rfl hw (fun hw => ?_) (fun hw => ?_)
      · refine q_aload_n hC dX5_cut_23 0 rfl 24 rfl ?_
        refine q_getR (C := RX5) (T := TX5) (N := 26) (ci := 5) hC inX5_cut_X5 (obF52 hF) rfl 0 (by decide) (uX5_cut__X5_isPlace _ (List.mem_of_getElem? (l := owX5_isPlace) (i := 1) rfl)) rfl 53 (fun _ => rfl) dX5_cut_24 27 rfl ?_
        refine q_sipush (v := 366) hC dX5_cut_27 (by decide) 30 rfl ?_
        refine q_ialdL hC (arF53 hF) 366 (by decide +kernel) (by decide +kernel) dX5_cut_30 31 rfl ?_
        refine q_iload_n hC dX5_cut_31 2 rfl 32 rfl ?_
        refine q_iload_n hC dX5_cut_32 1 rfl 33 rfl ?_
        refine q_isub hC dX5_cut_33 34 rfl ?_
        refine q_isub hC dX5_cut_34 35 rfl ?_
        refine q_bipush (v := 20) hC dX5_cut_35 (by decide) 37 rfl ?_
        refine q_icmp_ge hC 43 dX5_cut_37 (by decide) 40 rfl hw (fun hw => ?_) (fun hw => ?_)
        · refine q_iconst (v := 0) hC dX5_cut_43 rfl 44 rfl ?_
          refine q_istore_n (L' := [(3, .int 0), (0, .ref (gA g 52)), (1, .int v1), (2, .int v2)]) hC dX5_cut_44 (by decide) rfl 45 rfl ?_
          refine q_aload_n hC dX5_cut_45 1 rfl 46 rfl ?_
          refine q_getR (C := RX5) (T := TX5) (N := 26) (ci := 5) hC inX5_cut_X5 (obF52 hF) rfl 0 (by decide) (uX5_cut__X5_isPlace _ (List.mem_of_getElem? (l := owX5_isPlace) (i := 1) rfl)) rfl 53 (fun _ => rfl) dX5_cut_46 49 rfl ?_
          refine q_iconst (v := 0) hC dX5_cut_49 rfl 50 rfl ?_
          refine q_ialdL hC (arF53 hF) 0 (by decide +kernel) (by decide +kernel) dX5_cut_50 51 rfl ?_
          refine q_istore (L' := [(4, .int (M4 53 0)), (3, .int 0), (0, .ref (gA g 52)), (1, .int v1), (2, .int v2)]) hC dX5_cut_51 (by decide) rfl 53 rfl ?_
          refine q_iconst (v := 0) hC dX5_cut_53 rfl 54 rfl ?_
          refine q_istore (L' := [(5, .int 0), (4, .int (M4 53 0)), (3, .int 0), (0, .ref (gA g 52)), (1, .int v1), (2, .int v2)]) hC dX5_cut_54 (by decide) rfl 56 rfl ?_
          obtain ⟨n0, hw⟩ := hw
          exact XX.sub [3, 4, 5, 2, 1, 0] rfl (B56 n0 M4 0 (M4 53 0) 0 hw)
        · refine q_bipush (v := (-2)) hC dX5_cut_40 (by decide) 42 rfl ?_
          exact r_iret hR dX5_cut_42 hw
      · refine q_iconst (v := (-1)) hC dX5_cut_21 rfl 22 rfl ?_
        exact r_iret hR dX5_cut_22 hw
theorem inX5_holdsOf_X5 : ∀ w ∈ u_ws RX5 TX5 26, w ∈ wsX5_holdsOf := uX5_holdsOf__wsX50
set_option maxRecDepth 100000 in
set_option maxHeartbeats 4000000 in
theorem ctX5_holdsOf (l : Launch) (g : GG) (M : MM) (v1 : Int32) (Q : Int32 → MM → Prop) (hF : ful5 g) (hw : wX5_holdsOf Q M v1) : MI g l yX5_holdsOf wsX5_holdsOf (rmOf 1 21) [.ref (gA g 52), .int v1] M Q := by
  refine mk_MI (cc := cX5_holdsOf) (maxL := 2) (by decide) rfl (Nat.le_of_ble_eq_true rfl) ?_
  intro z Qf hC hR
  show XX z g Qf 2 0 [(0, .ref (gA g 52)), (1, .int v1)] [] M
  refine q_aload_n hC dX5_holdsOf_0 0 rfl 1 rfl ?_
  refine q_getR (C := RX5) (T := TX5) (N := 26) (ci := 5) hC inX5_holdsOf_X5 (obF52 hF) rfl 0 (by decide) (uX5_holdsOf__o _ (List.mem_of_getElem? (l := owX5_holdsOf) (i := 1) rfl)) rfl 53 (fun _ => rfl) dX5_holdsOf_1 4 rfl ?_
  refine q_sipush (v := 366) hC dX5_holdsOf_4 (by decide) 7 rfl ?_
  refine q_ialdL hC (arF53 hF) 366 (by decide +kernel) (by decide +kernel) dX5_holdsOf_7 8 rfl ?_
  refine q_aload_n hC dX5_holdsOf_8 0 rfl 9 rfl ?_
  refine q_getR (C := RX5) (T := TX5) (N := 26) (ci := 5) hC inX5_holdsOf_X5 (obF52 hF) rfl 2 (by decide) (uX5_holdsOf__X5_longOf _ (List.mem_of_getElem? (l := owX5_longOf) (i := 1) rfl)) rfl 55 (fun _ => rfl) dX5_holdsOf_9 12 rfl ?_
  refine q_bipush (v := 6) hC dX5_holdsOf_12 (by decide) 14 rfl ?_
  refine q_ialdL hC (arF55 hF) 6 (by decide +kernel) (by decide +kernel) dX5_holdsOf_14 15 rfl ?_
  refine q_aload_n hC dX5_holdsOf_15 0 rfl 16 rfl ?_
  refine q_iload_n hC dX5_holdsOf_16 1 rfl 17 rfl ?_
  refine r_callI hC (go_V (q := (RX5, TX5, 26)) (As := [.int v1]) (rest := [.int (M 55 6), .int (M 53 366)]) hC (ctX5_longOf (zl z) g M v1 _ hF hw) 1 gX5_holdsOf_X5_longOf rfl ⟨rfl, rfl⟩ hdV_X5_longOf ⟨Nat.le_of_ble_eq_true rfl, Nat.le_of_ble_eq_true rfl⟩ (obF52 hF) rfl rfl rfl (Nat.le_of_ble_eq_true rfl) dX5_holdsOf_17) 20 rfl (fun r1 M2 hw => ?_)
  refine q_iadd hC dX5_holdsOf_20 21 rfl ?_
  obtain ⟨hne, hw⟩ := hw
  refine q_idiv hC dX5_holdsOf_21 hne 22 rfl ?_
  exact r_iret hR dX5_holdsOf_22 hw
theorem hdV_X5_holdsOf : yX5_holdsOf.cls = RX5 ∧ yX5_holdsOf.cls ≠ "java/lang/invoke/MethodHandle" ∧ yX5_holdsOf.cls ≠ "java/lang/invoke/VarHandle" ∧ (parseMethodDescriptor yX5_holdsOf.desc).map (fun d => d.parameters.length) = some 1 := by decide +kernel
set_option maxRecDepth 100000 in
set_option maxHeartbeats 4000000 in
theorem ctX5_holds (l : Launch) (g : GG) (M : MM) (v1 : Int32) (Q : Int32 → MM → Prop) (hF : ful5 g) (hw : wX5_holds Q M v1) : MI g l yX5_holds wsX5_holds (rmOf 2 42) [.ref (gA g 52), .int v1] M Q := by
  refine mk_MI (cc := cX5_holds) (maxL := 2) (by decide) rfl (Nat.le_of_ble_eq_true rfl) ?_
  intro z Qf hC hR
  show XX z g Qf 2 0 [(0, .ref (gA g 52)), (1, .int v1)] [] M
  refine q_iload_n hC dX5_holds_0 1 rfl 1 rfl ?_
  refine q_i2l hC dX5_holds_1 2 rfl ?_
  refine q_lconst (v := 1) hC dX5_holds_2 rfl 3 rfl ?_
  refine q_ldc2 (v := 99) hC (uX5_holds__o _ (List.mem_of_getElem? (l := owX5_holds) (i := 1) rfl)) dX5_holds_3 6 rfl ?_
  refine r_callI hC (go_T (As := [.long (v1.toInt64), .long 1, .long 99]) (rest := []) hC (ctX5_in (zl z) g M (v1.toInt64) 1 99 _ hw) 3 gX5_holds_X5_in rfl ⟨rfl, rfl⟩ hdT_X5_in ⟨Nat.le_of_ble_eq_true rfl, Nat.le_of_ble_eq_true rfl⟩ rfl rfl (Nat.le_of_ble_eq_true rfl) dX5_holds_6) 9 rfl (fun r1 M2 hw => ?_)
  refine q_if_eq hC 20 dX5_holds_9 (by decide) 12 rfl hw (fun hw => ?_) (fun hw => ?_)
  · refine q_iconst (v := (-1)) hC dX5_holds_20 rfl 21 rfl ?_
    exact r_iret hR dX5_holds_21 hw
  · refine q_aload_n hC dX5_holds_12 0 rfl 13 rfl ?_
    refine q_iload_n hC dX5_holds_13 1 rfl 14 rfl ?_
    refine r_callI hC (go_V (q := (RX5, TX5, 26)) (As := [.int v1]) (rest := []) hC (ctX5_holdsOf (zl z) g M2 v1 _ hF hw) 1 gX5_holds_X5_holdsOf rfl ⟨rfl, rfl⟩ hdV_X5_holdsOf ⟨Nat.le_of_ble_eq_true rfl, Nat.le_of_ble_eq_true rfl⟩ (obF52 hF) rfl rfl rfl (Nat.le_of_ble_eq_true rfl) dX5_holds_14) 17 rfl (fun r3 M4 hw => ?_)
    refine q_goto hC 21 dX5_holds_17 (by decide) ?_
    exact r_iret hR dX5_holds_21 hw
set_option maxRecDepth 100000 in
set_option maxHeartbeats 4000000 in
theorem ctX5_most (l : Launch) (g : GG) (M : MM) (v1 : Int32) (Q : Int32 → MM → Prop) (hF : ful5 g) (hw : wX5_most Q M v1) : MI g l yX5_most wsX5_most (rmOf 2 42) [.ref (gA g 52), .int v1] M Q := by
  refine mk_MI (cc := cX5_most) (maxL := 4) (by decide) rfl (Nat.le_of_ble_eq_true rfl) ?_
  intro z Qf hC hR
  show XX z g Qf 4 0 [(0, .ref (gA g 52)), (1, .int v1)] [] M
  have B44 : ∀ (K16 : MM → Int32 → Int32 → Prop) (hK16 : ∀ (M : MM) (v2 : Int32) (v3 : Int32) , K16 M v2 v3 → XX z g Qf 4 16 [(0, .ref (gA g 52)), (1, .int v1), (2, .int v2), (3, .int v3)] [] M) (M : MM) (v3 : Int32) (p0 : Int32), wX5_most_44 Q K16 v1 M v3 p0 → XX z g Qf 4 44 [(0, .ref (gA g 52)), (1, .int v1), (3, .int v3)] [.int p0] M := by
    intro K16 hK16 M v3 p0 hw
    refine q_istore_n (L' := [(2, .int p0), (0, .ref (gA g 52)), (1, .int v1), (3, .int v3)]) hC dX5_most_44 (by decide) rfl 45 rfl ?_
    refine q_iinc (v := v3 + 1) (L' := [(3, .int (v3 + 1)), (2, .int p0), (0, .ref (gA g 52)), (1, .int v1)]) hC dX5_most_45 3 rfl rfl (by decide) rfl 48 rfl ?_
    refine q_goto hC 16 dX5_most_48 (by decide) ?_
    exact XX.sub [2, 3, 1, 0] rfl (hK16 M p0 (v3 + 1) hw)
  have B16 : ∀ (n : Nat) (M : MM) (v2 : Int32) (v3 : Int32) , wX5_most_16 Q v1 n M v2 v3 → XX z g Qf 4 16 [(0, .ref (gA g 52)), (1, .int v1), (2, .int v2), (3, .int v3)] [] M := by
    intro n
    induction n with
    | zero =>
      intro M v2 v3 hw
      exact hw.elim
    | succ n ih =>
      intro M v2 v3 hw
      refine q_iload_n hC dX5_most_16 3 rfl 17 rfl ?_
      refine q_bipush (v := 100) hC dX5_most_17 (by decide) 19 rfl ?_
      refine q_icmp_ge hC 51 dX5_most_19 (by decide) 22 rfl hw (fun hw => ?_) (fun hw => ?_)
      · refine q_iload_n hC dX5_most_51 1 rfl 52 rfl ?_
        refine q_if_ne hC 59 dX5_most_52 (by decide) 55 rfl hw (fun hw => ?_) (fun hw => ?_)
        · refine q_iload_n hC dX5_most_59 2 rfl 60 rfl ?_
          refine q_aload_n hC dX5_most_60 0 rfl 61 rfl ?_
          refine q_iload_n hC dX5_most_61 2 rfl 62 rfl ?_
          refine r_callI hC (go_V (q := (RX5, TX5, 26)) (As := [.int v2]) (rest := [.int v2]) hC (ctX5_holdsOf (zl z) g M v2 _ hF hw) 1 gX5_most_X5_holdsOf rfl ⟨rfl, rfl⟩ hdV_X5_holdsOf ⟨Nat.le_of_ble_eq_true rfl, Nat.le_of_ble_eq_true rfl⟩ (obF52 hF) rfl rfl rfl (Nat.le_of_ble_eq_true rfl) dX5_most_62) 65 rfl (fun r3 M4 hw => ?_)
          refine q_imul hC dX5_most_65 66 rfl ?_
          exact r_iret hR dX5_most_66 hw
        · refine q_iload_n hC dX5_most_55 2 rfl 56 rfl ?_
          refine q_goto hC 66 dX5_most_56 (by decide) ?_
          exact r_iret hR dX5_most_66 hw
      · refine q_iload_n hC dX5_most_22 3 rfl 23 rfl ?_
        refine q_aload_n hC dX5_most_23 0 rfl 24 rfl ?_
        refine q_iload_n hC dX5_most_24 3 rfl 25 rfl ?_
        refine r_callI hC (go_V (q := (RX5, TX5, 26)) (As := [.int v3]) (rest := [.int v3]) hC (ctX5_holdsOf (zl z) g M v3 _ hF hw) 1 gX5_most_X5_holdsOf rfl ⟨rfl, rfl⟩ hdV_X5_holdsOf ⟨Nat.le_of_ble_eq_true rfl, Nat.le_of_ble_eq_true rfl⟩ (obF52 hF) rfl rfl rfl (Nat.le_of_ble_eq_true rfl) dX5_most_25) 28 rfl (fun r5 M6 hw => ?_)
        refine q_imul hC dX5_most_28 29 rfl ?_
        refine q_iload_n hC dX5_most_29 2 rfl 30 rfl ?_
        refine q_aload_n hC dX5_most_30 0 rfl 31 rfl ?_
        refine q_iload_n hC dX5_most_31 2 rfl 32 rfl ?_
        refine r_callI hC (go_V (q := (RX5, TX5, 26)) (As := [.int v2]) (rest := [.int v2, .int (v3 * r5)]) hC (ctX5_holdsOf (zl z) g M6 v2 _ hF hw) 1 gX5_most_X5_holdsOf rfl ⟨rfl, rfl⟩ hdV_X5_holdsOf ⟨Nat.le_of_ble_eq_true rfl, Nat.le_of_ble_eq_true rfl⟩ (obF52 hF) rfl rfl rfl (Nat.le_of_ble_eq_true rfl) dX5_most_32) 35 rfl (fun r7 M8 hw => ?_)
        refine q_imul hC dX5_most_35 36 rfl ?_
        refine q_icmp_le hC 43 dX5_most_36 (by decide) 39 rfl hw (fun hw => ?_) (fun hw => ?_)
        · refine q_iload_n hC dX5_most_43 2 rfl 44 rfl ?_
          exact XX.sub [0, 1, 3] rfl (B44 _ (fun M v2 v3 hw => ih M v2 v3 hw) M8 v3 v2 hw)
        · refine q_iload_n hC dX5_most_39 3 rfl 40 rfl ?_
          refine q_goto hC 44 dX5_most_40 (by decide) ?_
          exact XX.sub [0, 1, 3] rfl (B44 _ (fun M v2 v3 hw => ih M v2 v3 hw) M8 v3 v3 hw)
  refine q_iload_n hC dX5_most_0 1 rfl 1 rfl ?_
  refine q_i2l hC dX5_most_1 2 rfl ?_
  refine q_lconst (v := 0) hC dX5_most_2 rfl 3 rfl ?_
  refine q_lconst (v := 1) hC dX5_most_3 rfl 4 rfl ?_
  refine r_callI hC (go_T (As := [.long (v1.toInt64), .long 0, .long 1]) (rest := []) hC (ctX5_in (zl z) g M (v1.toInt64) 0 1 _ hw) 3 gX5_most_X5_in rfl ⟨rfl, rfl⟩ hdT_X5_in ⟨Nat.le_of_ble_eq_true rfl, Nat.le_of_ble_eq_true rfl⟩ rfl rfl (Nat.le_of_ble_eq_true rfl) dX5_most_4) 7 rfl (fun r1 M2 hw => ?_)
  refine q_if_ne hC 12 dX5_most_7 (by decide) 10 rfl hw (fun hw => ?_) (fun hw => ?_)
  · refine q_iconst (v := 1) hC dX5_most_12 rfl 13 rfl ?_
    refine q_istore_n (L' := [(2, .int 1), (0, .ref (gA g 52)), (1, .int v1)]) hC dX5_most_13 (by decide) rfl 14 rfl ?_
    refine q_iconst (v := 2) hC dX5_most_14 rfl 15 rfl ?_
    refine q_istore_n (L' := [(3, .int 2), (2, .int 1), (0, .ref (gA g 52)), (1, .int v1)]) hC dX5_most_15 (by decide) rfl 16 rfl ?_
    obtain ⟨n0, hw⟩ := hw
    exact XX.sub [2, 3, 1, 0] rfl (B16 n0 M2 1 2 hw)
  · refine q_iconst (v := (-1)) hC dX5_most_10 rfl 11 rfl ?_
    exact r_iret hR dX5_most_11 hw
