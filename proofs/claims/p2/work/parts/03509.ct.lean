theorem inX5_streams_X5 : ∀ w ∈ u_ws RX5 TX5 26, w ∈ wsX5_streams := uX5_streams__wsX50
set_option maxRecDepth 100000 in
set_option maxHeartbeats 4000000 in
theorem ctX5_streams (l : Launch) (g : GG) (M : MM) (v1 : Int32) (v2 : Int32) (v3 : Int32) (v4 : Int32) (Q : Int32 → MM → Prop) (hF : ful5 g) (hw : wX5_streams Q M v1 v2 v3 v4) : MI g l yX5_streams wsX5_streams (rmOf 1 21) [.ref (gA g 52), .int v1, .int v2, .int v3, .int v4] M Q := by
  refine mk_MI (cc := cX5_streams) (maxL := 9) (by decide) rfl (Nat.le_of_ble_eq_true rfl) ?_
  intro z Qf hC hR
  show XX z g Qf 9 0 [(0, .ref (gA g 52)), (1, .int v1), (2, .int v2), (3, .int v3), (4, .int v4)] [] M
  have B136 : ∀ (K14 : MM → Int32 → Int32 → Int32 → Prop) (hK14 : ∀ (M : MM) (v5 : Int32) (v6 : Int32) (v7 : Int32) , K14 M v5 v6 v7 → XX z g Qf 9 14 [(0, .ref (gA g 52)), (1, .int v1), (2, .int v2), (3, .int v3), (4, .int v4), (5, .int v5), (6, .int v6), (7, .int v7)] [] M) (M : MM) (v6 : Int32) (v7 : Int32) (p0 : Int32) (p1 : Int32), wX5_streams_136 Q K14 v1 v2 v3 v4 M v6 v7 p0 p1 → XX z g Qf 9 136 [(0, .ref (gA g 52)), (1, .int v1), (2, .int v2), (3, .int v3), (4, .int v4), (6, .int v6), (7, .int v7)] [.int p0, .int p1] M := by
    intro K14 hK14 M v6 v7 p0 p1 hw
    refine q_iadd hC dX5_streams_136 137 rfl ?_
    refine q_istore (L' := [(5, .int (p1 + p0)), (0, .ref (gA g 52)), (1, .int v1), (2, .int v2), (3, .int v3), (4, .int v4), (6, .int v6), (7, .int v7)]) hC dX5_streams_137 (by decide) rfl 139 rfl ?_
    refine q_goto hC 14 dX5_streams_139 (by decide) ?_
    exact XX.sub [1, 2, 3, 4, 5, 0, 6, 7] rfl (hK14 M (p1 + p0) v6 v7 hw)
  have B102 : ∀ (K14 : MM → Int32 → Int32 → Int32 → Prop) (hK14 : ∀ (M : MM) (v5 : Int32) (v6 : Int32) (v7 : Int32) , K14 M v5 v6 v7 → XX z g Qf 9 14 [(0, .ref (gA g 52)), (1, .int v1), (2, .int v2), (3, .int v3), (4, .int v4), (5, .int v5), (6, .int v6), (7, .int v7)] [] M) (M : MM) (v5 : Int32) (v6 : Int32) (p0 : Int32), wX5_streams_102 Q K14 v1 v2 v3 v4 M v5 v6 p0 → XX z g Qf 9 102 [(0, .ref (gA g 52)), (1, .int v1), (2, .int v2), (3, .int v3), (4, .int v4), (5, .int v5), (6, .int v6)] [.int p0] M := by
    intro K14 hK14 M v5 v6 p0 hw
    refine q_istore (L' := [(7, .int p0), (0, .ref (gA g 52)), (1, .int v1), (2, .int v2), (3, .int v3), (4, .int v4), (5, .int v5), (6, .int v6)]) hC dX5_streams_102 (by decide) rfl 104 rfl ?_
    refine q_aload_n hC dX5_streams_104 1 rfl 105 rfl ?_
    refine q_dup hC dX5_streams_105 rfl 106 rfl ?_
    refine q_getI (C := RX5) (T := TX5) (N := 26) (ci := 5) hC inX5_streams_X5 (obF52 hF) rfl 21 (by decide) (uX5_streams__o _ (List.mem_of_getElem? (l := owX5_streams) (i := 1) rfl)) rfl (fun _ => rfl) dX5_streams_106 109 rfl ?_
    refine q_iload hC dX5_streams_109 0 rfl 111 rfl ?_
    refine r_callI hC (go_T (As := [.int p0]) (rest := [.int (M 52 21), .ref (gA g 52)]) hC (ctX5_flag (zl z) g M p0 _ hw) 1 gX5_streams_X5_flag rfl ⟨rfl, rfl⟩ hdT_X5_flag ⟨Nat.le_of_ble_eq_true rfl, Nat.le_of_ble_eq_true rfl⟩ rfl rfl (Nat.le_of_ble_eq_true rfl) dX5_streams_111) 114 rfl (fun r6 M7 hw => ?_)
    refine q_iadd hC dX5_streams_114 115 rfl ?_
    refine q_putI (C := RX5) (T := TX5) (N := 26) (ci := 5) hC inX5_streams_X5 tyX5 tyX5_ok nmX5 (obF52 hF) rfl 21 (by decide) (uX5_streams__o _ (List.mem_of_getElem? (l := owX5_streams) (i := 1) rfl)) rfl rfl rfl (fun _ => Nat.le_of_ble_eq_true rfl) (fun _ => rfl) dX5_streams_115 118 rfl (fun M8 eM8 => ?_)
    have hw := hw M8 eM8
    refine q_iload hC dX5_streams_118 6 rfl 120 rfl ?_
    refine q_iload hC dX5_streams_120 0 rfl 122 rfl ?_
    refine q_if_eq hC 135 dX5_streams_122 (by decide) 125 rfl hw (fun hw => ?_) (fun hw => ?_)
    · refine q_iconst (v := 0) hC dX5_streams_135 rfl 136 rfl ?_
      exact XX.sub [1, 2, 3, 4, 5, 7, 0] rfl (B136 _ hK14 M8 v6 p0 0 v5 hw)
    · refine q_aload_n hC dX5_streams_125 1 rfl 126 rfl ?_
      refine q_getR (C := RX5) (T := TX5) (N := 26) (ci := 5) hC inX5_streams_X5 (obF52 hF) rfl 2 (by decide) (uX5_streams__o _ (List.mem_of_getElem? (l := owX5_streams) (i := 2) rfl)) rfl 55 (fun _ => rfl) dX5_streams_126 129 rfl ?_
      refine q_bipush (v := 8) hC dX5_streams_129 (by decide) 131 rfl ?_
      refine q_ialdL hC (arF55 hF) 8 (by decide +kernel) (by decide +kernel) dX5_streams_131 132 rfl ?_
      refine q_goto hC 136 dX5_streams_132 (by decide) ?_
      exact XX.sub [1, 2, 3, 4, 5, 7, 0] rfl (B136 _ hK14 M8 v6 p0 (M8 55 8) v5 hw)
  have B101 : ∀ (K14 : MM → Int32 → Int32 → Int32 → Prop) (hK14 : ∀ (M : MM) (v5 : Int32) (v6 : Int32) (v7 : Int32) , K14 M v5 v6 v7 → XX z g Qf 9 14 [(0, .ref (gA g 52)), (1, .int v1), (2, .int v2), (3, .int v3), (4, .int v4), (5, .int v5), (6, .int v6), (7, .int v7)] [] M) (M : MM) (v5 : Int32) (v6 : Int32), wX5_streams_101 Q K14 v1 v2 v3 v4 M v5 v6 → XX z g Qf 9 101 [(0, .ref (gA g 52)), (1, .int v1), (2, .int v2), (3, .int v3), (4, .int v4), (5, .int v5), (6, .int v6)] [] M := by
    intro K14 hK14 M v5 v6 hw
    refine q_iconst (v := 0) hC dX5_streams_101 rfl 102 rfl ?_
    exact XX.sub [0, 1, 2, 3, 4, 5, 6] rfl (B102 _ hK14 M v5 v6 0 hw)
  have B56 : ∀ (K14 : MM → Int32 → Int32 → Int32 → Prop) (hK14 : ∀ (M : MM) (v5 : Int32) (v6 : Int32) (v7 : Int32) , K14 M v5 v6 v7 → XX z g Qf 9 14 [(0, .ref (gA g 52)), (1, .int v1), (2, .int v2), (3, .int v3), (4, .int v4), (5, .int v5), (6, .int v6), (7, .int v7)] [] M) (M : MM) (v6 : Int32) (p0 : Int32), wX5_streams_56 Q K14 v1 v2 v3 v4 M v6 p0 → XX z g Qf 9 56 [(0, .ref (gA g 52)), (1, .int v1), (2, .int v2), (3, .int v3), (4, .int v4), (6, .int v6)] [.int p0] M := by
    intro K14 hK14 M v6 p0 hw
    refine q_istore (L' := [(5, .int p0), (0, .ref (gA g 52)), (1, .int v1), (2, .int v2), (3, .int v3), (4, .int v4), (6, .int v6)]) hC dX5_streams_56 (by decide) rfl 58 rfl ?_
    refine q_iload hC dX5_streams_58 0 rfl 60 rfl ?_
    refine q_aload_n hC dX5_streams_60 1 rfl 61 rfl ?_
    refine q_getR (C := RX5) (T := TX5) (N := 26) (ci := 5) hC inX5_streams_X5 (obF52 hF) rfl 2 (by decide) (uX5_streams__o _ (List.mem_of_getElem? (l := owX5_streams) (i := 2) rfl)) rfl 55 (fun _ => rfl) dX5_streams_61 64 rfl ?_
    refine q_iconst (v := 3) hC dX5_streams_64 rfl 65 rfl ?_
    refine q_ialdL hC (arF55 hF) 3 (by decide +kernel) (by decide +kernel) dX5_streams_65 66 rfl ?_
    refine q_iload_n hC dX5_streams_66 3 rfl 67 rfl ?_
    refine q_aload_n hC dX5_streams_67 1 rfl 68 rfl ?_
    refine q_getR (C := RX5) (T := TX5) (N := 26) (ci := 5) hC inX5_streams_X5 (obF52 hF) rfl 2 (by decide) (uX5_streams__o _ (List.mem_of_getElem? (l := owX5_streams) (i := 2) rfl)) rfl 55 (fun _ => rfl) dX5_streams_68 71 rfl ?_
    refine q_bipush (v := 6) hC dX5_streams_71 (by decide) 73 rfl ?_
    refine q_ialdL hC (arF55 hF) 6 (by decide +kernel) (by decide +kernel) dX5_streams_73 74 rfl ?_
    refine q_iadd hC dX5_streams_74 75 rfl ?_
    refine q_imul hC dX5_streams_75 76 rfl ?_
    refine q_iadd hC dX5_streams_76 77 rfl ?_
    refine q_nameI (fun x5 ex5 => ?_)
    have hw := hw x5 ex5
    refine q_istore (L' := [(5, .int x5), (0, .ref (gA g 52)), (1, .int v1), (2, .int v2), (3, .int v3), (4, .int v4), (6, .int v6)]) hC dX5_streams_77 (by decide) rfl 79 rfl ?_
    refine q_iinc (v := v6 + 1) (L' := [(6, .int (v6 + 1)), (5, .int x5), (0, .ref (gA g 52)), (1, .int v1), (2, .int v2), (3, .int v3), (4, .int v4)]) hC dX5_streams_79 6 rfl rfl (by decide) rfl 82 rfl ?_
    refine q_iload hC dX5_streams_82 0 rfl 84 rfl ?_
    refine q_iload_n hC dX5_streams_84 3 rfl 85 rfl ?_
    refine q_icmp_ge hC 101 dX5_streams_85 (by decide) 88 rfl hw (fun hw => ?_) (fun hw => ?_)
    · exact XX.sub [2, 3, 4, 5, 6, 1, 0] rfl (B101 _ hK14 M x5 (v6 + 1) hw)
    · refine q_iload hC dX5_streams_88 0 rfl 90 rfl ?_
      refine q_iload_n hC dX5_streams_90 5 rfl 91 rfl ?_
      refine q_imul hC dX5_streams_91 92 rfl ?_
      refine q_iload hC dX5_streams_92 1 rfl 94 rfl ?_
      refine q_icmp_le hC 101 dX5_streams_94 (by decide) 97 rfl hw (fun hw => ?_) (fun hw => ?_)
      · exact XX.sub [2, 3, 4, 5, 6, 1, 0] rfl (B101 _ hK14 M x5 (v6 + 1) hw)
      · refine q_iconst (v := 1) hC dX5_streams_97 rfl 98 rfl ?_
        refine q_goto hC 102 dX5_streams_98 (by decide) ?_
        exact XX.sub [2, 3, 4, 5, 6, 1, 0] rfl (B102 _ hK14 M x5 (v6 + 1) 1 hw)
  have B54 : ∀ (K14 : MM → Int32 → Int32 → Int32 → Prop) (hK14 : ∀ (M : MM) (v5 : Int32) (v6 : Int32) (v7 : Int32) , K14 M v5 v6 v7 → XX z g Qf 9 14 [(0, .ref (gA g 52)), (1, .int v1), (2, .int v2), (3, .int v3), (4, .int v4), (5, .int v5), (6, .int v6), (7, .int v7)] [] M) (M : MM) (v5 : Int32) (v6 : Int32), wX5_streams_54 Q K14 v1 v2 v3 v4 M v5 v6 → XX z g Qf 9 54 [(0, .ref (gA g 52)), (1, .int v1), (2, .int v2), (3, .int v3), (4, .int v4), (5, .int v5), (6, .int v6)] [] M := by
    intro K14 hK14 M v5 v6 hw
    refine q_iload hC dX5_streams_54 5 rfl 56 rfl ?_
    exact XX.sub [0, 1, 2, 3, 4, 6] rfl (B56 _ hK14 M v6 v5 hw)
  have B14 : ∀ (n : Nat) (M : MM) (v5 : Int32) (v6 : Int32) (v7 : Int32) , wX5_streams_14 Q v1 v2 v3 v4 n M v5 v6 v7 → XX z g Qf 9 14 [(0, .ref (gA g 52)), (1, .int v1), (2, .int v2), (3, .int v3), (4, .int v4), (5, .int v5), (6, .int v6), (7, .int v7)] [] M := by
    intro n
    induction n with
    | zero =>
      intro M v5 v6 v7 hw
      exact hw.elim
    | succ n ih =>
      intro M v5 v6 v7 hw
      refine q_iload hC dX5_streams_14 6 rfl 16 rfl ?_
      refine q_iload_n hC dX5_streams_16 1 rfl 17 rfl ?_
      refine q_icmp_ge hC 142 dX5_streams_17 (by decide) 20 rfl hw (fun hw => ?_) (fun hw => ?_)
      · refine q_iload hC dX5_streams_142 5 rfl 144 rfl ?_
        exact r_iret hR dX5_streams_144 hw
      · refine q_iload hC dX5_streams_20 6 rfl 22 rfl ?_
        refine q_iload hC dX5_streams_22 4 rfl 24 rfl ?_
        refine q_iadd hC dX5_streams_24 25 rfl ?_
        refine q_iload_n hC dX5_streams_25 1 rfl 26 rfl ?_
        refine r_callI hC (go_T (As := [.int (v6 + v4), .int v1]) (rest := []) hC (ctX5_less (zl z) g M (v6 + v4) v1 _ hw) 2 gX5_streams_X5_less rfl ⟨rfl, rfl⟩ hdT_X5_less ⟨Nat.le_of_ble_eq_true rfl, Nat.le_of_ble_eq_true rfl⟩ rfl rfl (Nat.le_of_ble_eq_true rfl) dX5_streams_26) 29 rfl (fun r2 M3 hw => ?_)
        refine q_iconst (v := 1) hC dX5_streams_29 rfl 30 rfl ?_
        refine q_isub hC dX5_streams_30 31 rfl ?_
        refine q_nameI (fun x4 ex4 => ?_)
        have hw := hw x4 ex4
        refine q_istore (L' := [(8, .int x4), (0, .ref (gA g 52)), (1, .int v1), (2, .int v2), (3, .int v3), (4, .int v4), (5, .int v5), (6, .int v6), (7, .int v7)]) hC dX5_streams_31 (by decide) rfl 33 rfl ?_
        refine q_iload hC dX5_streams_33 8 rfl 35 rfl ?_
        refine q_if_eq hC 54 dX5_streams_35 (by decide) 38 rfl hw (fun hw => ?_) (fun hw => ?_)
        · exact XX.sub [1, 2, 3, 4, 5, 6, 7] rfl (B54 _ (fun M v5 v6 v7 hw => ih M v5 v6 v7 hw) M3 v5 v6 hw)
        · refine q_iload hC dX5_streams_38 0 rfl 40 rfl ?_
          refine q_iload_n hC dX5_streams_40 4 rfl 41 rfl ?_
          refine q_imul hC dX5_streams_41 42 rfl ?_
          refine q_iload hC dX5_streams_42 6 rfl 44 rfl ?_
          refine q_icmp_le hC 54 dX5_streams_44 (by decide) 47 rfl hw (fun hw => ?_) (fun hw => ?_)
          · exact XX.sub [1, 2, 3, 4, 5, 6, 7] rfl (B54 _ (fun M v5 v6 v7 hw => ih M v5 v6 v7 hw) M3 v5 v6 hw)
          · refine q_iload hC dX5_streams_47 0 rfl 49 rfl ?_
            refine q_iload_n hC dX5_streams_49 4 rfl 50 rfl ?_
            refine q_imul hC dX5_streams_50 51 rfl ?_
            refine q_goto hC 56 dX5_streams_51 (by decide) ?_
            exact XX.sub [1, 2, 3, 4, 5, 7] rfl (B56 _ (fun M v5 v6 v7 hw => ih M v5 v6 v7 hw) M3 v6 (x4 * v3) hw)
  refine q_iconst (v := 0) hC dX5_streams_0 rfl 1 rfl ?_
  refine q_istore (L' := [(5, .int 0), (0, .ref (gA g 52)), (1, .int v1), (2, .int v2), (3, .int v3), (4, .int v4)]) hC dX5_streams_1 (by decide) rfl 3 rfl ?_
  refine q_iconst (v := 0) hC dX5_streams_3 rfl 4 rfl ?_
  refine q_istore (L' := [(6, .int 0), (5, .int 0), (0, .ref (gA g 52)), (1, .int v1), (2, .int v2), (3, .int v3), (4, .int v4)]) hC dX5_streams_4 (by decide) rfl 6 rfl ?_
  refine q_iconst (v := 1) hC dX5_streams_6 rfl 7 rfl ?_
  refine q_istore (L' := [(7, .int 1), (6, .int 0), (5, .int 0), (0, .ref (gA g 52)), (1, .int v1), (2, .int v2), (3, .int v3), (4, .int v4)]) hC dX5_streams_7 (by decide) rfl 9 rfl ?_
  refine q_aload_n hC dX5_streams_9 3 rfl 10 rfl ?_
  refine q_iconst (v := 0) hC dX5_streams_10 rfl 11 rfl ?_
  refine q_putI (C := RX5) (T := TX5) (N := 26) (ci := 5) hC inX5_streams_X5 tyX5 tyX5_ok nmX5 (obF52 hF) rfl 21 (by decide) (uX5_streams__o _ (List.mem_of_getElem? (l := owX5_streams) (i := 1) rfl)) rfl rfl rfl (fun _ => Nat.le_of_ble_eq_true rfl) (fun _ => rfl) dX5_streams_11 14 rfl (fun M1 eM1 => ?_)
  have hw := hw M1 eM1
  obtain ⟨n0, hw⟩ := hw
  exact XX.sub [3, 4, 5, 6, 7, 2, 1, 0] rfl (B14 n0 M1 0 0 1 hw)
set_option maxRecDepth 100000 in
set_option maxHeartbeats 4000000 in
theorem ctX5_isStream (l : Launch) (g : GG) (M : MM) (v0 : Int32) (v1 : Int32) (v2 : Int32) (Q : Int32 → MM → Prop)  (hw : wX5_isStream Q M v0 v1 v2) : MI g l yX5_isStream wsX5_isStream (rmOf 1 25) [.int v0, .int v1, .int v2] M Q := by
  refine mk_MZ (cc := cX5_isStream) (maxL := 3) (by decide) rfl (Nat.le_of_ble_eq_true rfl) ?_
  intro z Qf hC hR
  show XX z g Qf 3 0 [(0, .int v0), (1, .int v1), (2, .int v2)] [] M
  have B40 : ∀ (M : MM), wX5_isStream_40 Q v0 v1 v2 M → XX z g Qf 3 40 [] [] M := by
    intro M hw
    refine q_iconst (v := 0) hC dX5_isStream_40 rfl 41 rfl ?_
    exact r_iret hR dX5_isStream_41 ⟨nb_0, hw⟩
  refine q_iload_n hC dX5_isStream_0 0 rfl 1 rfl ?_
  refine q_i2l hC dX5_isStream_1 2 rfl ?_
  refine q_lconst (v := 1) hC dX5_isStream_2 rfl 3 rfl ?_
  refine q_ldc2 (v := 99) hC (uX5_isStream__o _ (List.mem_of_getElem? (l := owX5_isStream) (i := 1) rfl)) dX5_isStream_3 6 rfl ?_
  refine r_callI hC (go_T (As := [.long (v0.toInt64), .long 1, .long 99]) (rest := []) hC (ctX5_in (zl z) g M (v0.toInt64) 1 99 _ hw) 3 gX5_isStream_X5_in rfl ⟨rfl, rfl⟩ hdT_X5_in ⟨Nat.le_of_ble_eq_true rfl, Nat.le_of_ble_eq_true rfl⟩ rfl rfl (Nat.le_of_ble_eq_true rfl) dX5_isStream_6) 9 rfl (fun r1 M2 hw => ?_)
  refine q_if_eq hC 40 dX5_isStream_9 (by decide) 12 rfl hw (fun hw => ?_) (fun hw => ?_)
  · exact XX.sub [] rfl (B40 M2 hw)
  · refine q_iload_n hC dX5_isStream_12 1 rfl 13 rfl ?_
    refine q_i2l hC dX5_isStream_13 14 rfl ?_
    refine q_lconst (v := 1) hC dX5_isStream_14 rfl 15 rfl ?_
    refine q_ldc2 (v := 99) hC (uX5_isStream__o _ (List.mem_of_getElem? (l := owX5_isStream) (i := 1) rfl)) dX5_isStream_15 18 rfl ?_
    refine r_callI hC (go_T (As := [.long (v1.toInt64), .long 1, .long 99]) (rest := []) hC (ctX5_in (zl z) g M2 (v1.toInt64) 1 99 _ hw) 3 gX5_isStream_X5_in rfl ⟨rfl, rfl⟩ hdT_X5_in ⟨Nat.le_of_ble_eq_true rfl, Nat.le_of_ble_eq_true rfl⟩ rfl rfl (Nat.le_of_ble_eq_true rfl) dX5_isStream_18) 21 rfl (fun r3 M4 hw => ?_)
    refine q_if_eq hC 40 dX5_isStream_21 (by decide) 24 rfl hw (fun hw => ?_) (fun hw => ?_)
    · exact XX.sub [] rfl (B40 M4 hw)
    · refine q_iload_n hC dX5_isStream_24 2 rfl 25 rfl ?_
      refine q_i2l hC dX5_isStream_25 26 rfl ?_
      refine q_lconst (v := 0) hC dX5_isStream_26 rfl 27 rfl ?_
      refine q_ldc2 (v := 9999) hC (uX5_isStream__o _ (List.mem_of_getElem? (l := owX5_isStream) (i := 2) rfl)) dX5_isStream_27 30 rfl ?_
      refine r_callI hC (go_T (As := [.long (v2.toInt64), .long 0, .long 9999]) (rest := []) hC (ctX5_in (zl z) g M4 (v2.toInt64) 0 9999 _ hw) 3 gX5_isStream_X5_in rfl ⟨rfl, rfl⟩ hdT_X5_in ⟨Nat.le_of_ble_eq_true rfl, Nat.le_of_ble_eq_true rfl⟩ rfl rfl (Nat.le_of_ble_eq_true rfl) dX5_isStream_30) 33 rfl (fun r5 M6 hw => ?_)
      refine q_if_eq hC 40 dX5_isStream_33 (by decide) 36 rfl hw (fun hw => ?_) (fun hw => ?_)
      · exact XX.sub [] rfl (B40 M6 hw)
      · refine q_iconst (v := 1) hC dX5_isStream_36 rfl 37 rfl ?_
        refine q_goto hC 41 dX5_isStream_37 (by decide) ?_
        exact r_iret hR dX5_isStream_41 ⟨nb_1, hw⟩
theorem hdT_X5_isStream : yX5_isStream.cls ≠ "java/lang/invoke/MethodHandle" ∧ yX5_isStream.cls ≠ "java/lang/invoke/VarHandle" ∧ (parseMethodDescriptor yX5_isStream.desc).map (fun d => d.parameters.length) = some 3 := by decide +kernel
theorem hdV_X5_streams : yX5_streams.cls = RX5 ∧ yX5_streams.cls ≠ "java/lang/invoke/MethodHandle" ∧ yX5_streams.cls ≠ "java/lang/invoke/VarHandle" ∧ (parseMethodDescriptor yX5_streams.desc).map (fun d => d.parameters.length) = some 4 := by decide +kernel
theorem inX5_stream_X5 : ∀ w ∈ u_ws RX5 TX5 26, w ∈ wsX5_stream := uX5_stream__wsX50
set_option maxRecDepth 100000 in
set_option maxHeartbeats 4000000 in
theorem ctX5_stream (l : Launch) (g : GG) (M : MM) (v1 : Int32) (v2 : Int32) (v3 : Int32) (v4 : Int32) (v5 : Int32) (Q : Int32 → MM → Prop) (hF : ful5 g) (hw : wX5_stream Q M v1 v2 v3 v4 v5) : MI g l yX5_stream wsX5_stream (rmOf 2 49) [.ref (gA g 52), .int v1, .int v2, .int v3, .int v4, .int v5] M Q := by
  refine mk_MI (cc := cX5_stream) (maxL := 7) (by decide) rfl (Nat.le_of_ble_eq_true rfl) ?_
  intro z Qf hC hR
  show XX z g Qf 7 0 [(0, .ref (gA g 52)), (1, .int v1), (2, .int v2), (3, .int v3), (4, .int v4), (5, .int v5)] [] M
  refine q_iload_n hC dX5_stream_0 1 rfl 1 rfl ?_
  refine q_iload_n hC dX5_stream_1 2 rfl 2 rfl ?_
  refine q_iload_n hC dX5_stream_2 3 rfl 3 rfl ?_
  refine r_callI hC (go_T (As := [.int v1, .int v2, .int v3]) (rest := []) hC (ctX5_isStream (zl z) g M v1 v2 v3 _ hw) 3 gX5_stream_X5_isStream rfl ⟨rfl, rfl⟩ hdT_X5_isStream ⟨Nat.le_of_ble_eq_true rfl, Nat.le_of_ble_eq_true rfl⟩ rfl rfl (Nat.le_of_ble_eq_true rfl) dX5_stream_3) 6 rfl (fun r1 M2 hw => ?_)
  refine q_if_eq hC 33 dX5_stream_6 (by decide) 9 rfl hw (fun hw => ?_) (fun hw => ?_)
  · refine q_iconst (v := (-1)) hC dX5_stream_33 rfl 34 rfl ?_
    exact r_iret hR dX5_stream_34 hw
  · refine q_iload hC dX5_stream_9 4 rfl 11 rfl ?_
    refine q_i2l hC dX5_stream_11 12 rfl ?_
    refine q_lconst (v := 1) hC dX5_stream_12 rfl 13 rfl ?_
    refine q_ldc2 (v := 99) hC (uX5_stream__X5_isStream _ (List.mem_of_getElem? (l := owX5_isStream) (i := 1) rfl)) dX5_stream_13 16 rfl ?_
    refine r_callI hC (go_T (As := [.long (v4.toInt64), .long 1, .long 99]) (rest := []) hC (ctX5_in (zl z) g M2 (v4.toInt64) 1 99 _ hw) 3 gX5_stream_X5_in rfl ⟨rfl, rfl⟩ hdT_X5_in ⟨Nat.le_of_ble_eq_true rfl, Nat.le_of_ble_eq_true rfl⟩ rfl rfl (Nat.le_of_ble_eq_true rfl) dX5_stream_16) 19 rfl (fun r3 M4 hw => ?_)
    refine q_if_eq hC 33 dX5_stream_19 (by decide) 22 rfl hw (fun hw => ?_) (fun hw => ?_)
    · refine q_iconst (v := (-1)) hC dX5_stream_33 rfl 34 rfl ?_
      exact r_iret hR dX5_stream_34 hw
    · refine q_iload hC dX5_stream_22 5 rfl 24 rfl ?_
      refine q_i2l hC dX5_stream_24 25 rfl ?_
      refine q_lconst (v := 0) hC dX5_stream_25 rfl 26 rfl ?_
      refine q_lconst (v := 1) hC dX5_stream_26 rfl 27 rfl ?_
      refine r_callI hC (go_T (As := [.long (v5.toInt64), .long 0, .long 1]) (rest := []) hC (ctX5_in (zl z) g M4 (v5.toInt64) 0 1 _ hw) 3 gX5_stream_X5_in rfl ⟨rfl, rfl⟩ hdT_X5_in ⟨Nat.le_of_ble_eq_true rfl, Nat.le_of_ble_eq_true rfl⟩ rfl rfl (Nat.le_of_ble_eq_true rfl) dX5_stream_27) 30 rfl (fun r5 M6 hw => ?_)
      refine q_if_ne hC 35 dX5_stream_30 (by decide) 33 rfl hw (fun hw => ?_) (fun hw => ?_)
      · refine q_aload_n hC dX5_stream_35 0 rfl 36 rfl ?_
        refine q_iload_n hC dX5_stream_36 1 rfl 37 rfl ?_
        refine q_iload_n hC dX5_stream_37 2 rfl 38 rfl ?_
        refine q_iload_n hC dX5_stream_38 3 rfl 39 rfl ?_
        refine q_iload hC dX5_stream_39 4 rfl 41 rfl ?_
        refine r_callI hC (go_V (q := (RX5, TX5, 26)) (As := [.int v1, .int v2, .int v3, .int v4]) (rest := []) hC (ctX5_streams (zl z) g M6 v1 v2 v3 v4 _ hF hw) 4 gX5_stream_X5_streams rfl ⟨rfl, rfl⟩ hdV_X5_streams ⟨Nat.le_of_ble_eq_true rfl, Nat.le_of_ble_eq_true rfl⟩ (obF52 hF) rfl rfl rfl (Nat.le_of_ble_eq_true rfl) dX5_stream_41) 44 rfl (fun r7 M8 hw => ?_)
        refine q_istore (L' := [(6, .int r7), (0, .ref (gA g 52)), (1, .int v1), (2, .int v2), (3, .int v3), (4, .int v4), (5, .int v5)]) hC dX5_stream_44 (by decide) rfl 46 rfl ?_
        refine q_iload hC dX5_stream_46 6 rfl 48 rfl ?_
        refine q_if_ne hC 56 dX5_stream_48 (by decide) 51 rfl hw (fun hw => ?_) (fun hw => ?_)
        · refine q_aload_n hC dX5_stream_56 1 rfl 57 rfl ?_
          refine q_getI (C := RX5) (T := TX5) (N := 26) (ci := 5) hC inX5_stream_X5 (obF52 hF) rfl 21 (by decide) (uX5_stream__X5_streams _ (List.mem_of_getElem? (l := owX5_streams) (i := 1) rfl)) rfl (fun _ => rfl) dX5_stream_57 60 rfl ?_
          exact r_iret hR dX5_stream_60 hw
        · refine q_iload hC dX5_stream_51 0 rfl 53 rfl ?_
          refine q_goto hC 60 dX5_stream_53 (by decide) ?_
          exact r_iret hR dX5_stream_60 hw
      · refine q_iconst (v := (-1)) hC dX5_stream_33 rfl 34 rfl ?_
        exact r_iret hR dX5_stream_34 hw
set_option maxRecDepth 100000 in
set_option maxHeartbeats 4000000 in
theorem ctX5_buffer (l : Launch) (g : GG) (M : MM) (v1 : Int32) (v2 : Int32) (v3 : Int32) (v4 : Int32) (Q : Int32 → MM → Prop) (hF : ful5 g) (hw : wX5_buffer Q M v1 v2 v3 v4) : MI g l yX5_buffer wsX5_buffer (rmOf 2 49) [.ref (gA g 52), .int v1, .int v2, .int v3, .int v4] M Q := by
  refine mk_MI (cc := cX5_buffer) (maxL := 9) (by decide) rfl (Nat.le_of_ble_eq_true rfl) ?_
  intro z Qf hC hR
  show XX z g Qf 9 0 [(0, .ref (gA g 52)), (1, .int v1), (2, .int v2), (3, .int v3), (4, .int v4)] [] M
  have B69 : ∀ (K38 : MM → Int32 → Int32 → Int32 → Prop) (hK38 : ∀ (M : MM) (v5 : Int32) (v6 : Int32) (v7 : Int32) , K38 M v5 v6 v7 → XX z g Qf 9 38 [(0, .ref (gA g 52)), (1, .int v1), (2, .int v2), (3, .int v3), (4, .int v4), (5, .int v5), (6, .int v6), (7, .int v7)] [] M) (M : MM) (v6 : Int32) (v7 : Int32) (v8 : Int32) (p0 : Int32), wX5_buffer_69 Q K38 v1 v2 v3 v4 M v6 v7 v8 p0 → XX z g Qf 9 69 [(0, .ref (gA g 52)), (1, .int v1), (2, .int v2), (3, .int v3), (4, .int v4), (6, .int v6), (7, .int v7), (8, .int v8)] [.int p0] M := by
    intro K38 hK38 M v6 v7 v8 p0 hw
    refine q_istore (L' := [(5, .int p0), (0, .ref (gA g 52)), (1, .int v1), (2, .int v2), (3, .int v3), (4, .int v4), (6, .int v6), (7, .int v7), (8, .int v8)]) hC dX5_buffer_69 (by decide) rfl 71 rfl ?_
    refine q_iload hC dX5_buffer_71 8 rfl 73 rfl ?_
    refine q_iload hC dX5_buffer_73 6 rfl 75 rfl ?_
    refine r_callI hC (go_T (As := [.int v8, .int v6]) (rest := []) hC (ctX5_less (zl z) g M v8 v6 _ hw) 2 gX5_buffer_X5_less rfl ⟨rfl, rfl⟩ hdT_X5_less ⟨Nat.le_of_ble_eq_true rfl, Nat.le_of_ble_eq_true rfl⟩ rfl rfl (Nat.le_of_ble_eq_true rfl) dX5_buffer_75) 78 rfl (fun r9 M10 hw => ?_)
    refine q_istore (L' := [(6, .int r9), (5, .int p0), (0, .ref (gA g 52)), (1, .int v1), (2, .int v2), (3, .int v3), (4, .int v4), (7, .int v7), (8, .int v8)]) hC dX5_buffer_78 (by decide) rfl 80 rfl ?_
    refine q_iinc (v := v7 + 1) (L' := [(7, .int (v7 + 1)), (6, .int r9), (5, .int p0), (0, .ref (gA g 52)), (1, .int v1), (2, .int v2), (3, .int v3), (4, .int v4), (8, .int v8)]) hC dX5_buffer_80 7 rfl rfl (by decide) rfl 83 rfl ?_
    refine q_goto hC 38 dX5_buffer_83 (by decide) ?_
    exact XX.sub [3, 4, 5, 6, 7, 2, 1, 0] rfl (hK38 M10 p0 r9 (v7 + 1) hw)
  have B38 : ∀ (n : Nat) (M : MM) (v5 : Int32) (v6 : Int32) (v7 : Int32) , wX5_buffer_38 Q v1 v2 v3 v4 n M v5 v6 v7 → XX z g Qf 9 38 [(0, .ref (gA g 52)), (1, .int v1), (2, .int v2), (3, .int v3), (4, .int v4), (5, .int v5), (6, .int v6), (7, .int v7)] [] M := by
    intro n
    induction n with
    | zero =>
      intro M v5 v6 v7 hw
      exact hw.elim
    | succ n ih =>
      intro M v5 v6 v7 hw
      refine q_iload hC dX5_buffer_38 7 rfl 40 rfl ?_
      refine q_iload_n hC dX5_buffer_40 1 rfl 41 rfl ?_
      refine q_icmp_gt hC 86 dX5_buffer_41 (by decide) 44 rfl hw (fun hw => ?_) (fun hw => ?_)
      · refine q_iload hC dX5_buffer_86 4 rfl 88 rfl ?_
        refine q_if_ne hC 96 dX5_buffer_88 (by decide) 91 rfl hw (fun hw => ?_) (fun hw => ?_)
        · refine q_iload hC dX5_buffer_96 6 rfl 98 rfl ?_
          exact r_iret hR dX5_buffer_98 hw
        · refine q_iload hC dX5_buffer_91 5 rfl 93 rfl ?_
          refine q_goto hC 98 dX5_buffer_93 (by decide) ?_
          exact r_iret hR dX5_buffer_98 hw
      · refine q_aload_n hC dX5_buffer_44 0 rfl 45 rfl ?_
        refine q_iload_n hC dX5_buffer_45 1 rfl 46 rfl ?_
        refine q_iload_n hC dX5_buffer_46 2 rfl 47 rfl ?_
        refine q_iload_n hC dX5_buffer_47 3 rfl 48 rfl ?_
        refine q_iload hC dX5_buffer_48 7 rfl 50 rfl ?_
        refine r_callI hC (go_V (q := (RX5, TX5, 26)) (As := [.int v1, .int v2, .int v3, .int v7]) (rest := []) hC (ctX5_streams (zl z) g M v1 v2 v3 v7 _ hF hw) 4 gX5_buffer_X5_streams rfl ⟨rfl, rfl⟩ hdV_X5_streams ⟨Nat.le_of_ble_eq_true rfl, Nat.le_of_ble_eq_true rfl⟩ (obF52 hF) rfl rfl rfl (Nat.le_of_ble_eq_true rfl) dX5_buffer_50) 53 rfl (fun r7 M8 hw => ?_)
        refine q_istore (L' := [(8, .int r7), (0, .ref (gA g 52)), (1, .int v1), (2, .int v2), (3, .int v3), (4, .int v4), (5, .int v5), (6, .int v6), (7, .int v7)]) hC dX5_buffer_53 (by decide) rfl 55 rfl ?_
        refine q_iload hC dX5_buffer_55 0 rfl 57 rfl ?_
        refine q_iload hC dX5_buffer_57 7 rfl 59 rfl ?_
        refine q_icmp_ge hC 67 dX5_buffer_59 (by decide) 62 rfl hw (fun hw => ?_) (fun hw => ?_)
        · refine q_iload hC dX5_buffer_67 6 rfl 69 rfl ?_
          exact XX.sub [1, 2, 3, 4, 5, 7, 8, 0] rfl (B69 _ (fun M v5 v6 v7 hw => ih M v5 v6 v7 hw) M8 v6 v7 r7 v5 hw)
        · refine q_iload hC dX5_buffer_62 8 rfl 64 rfl ?_
          refine q_goto hC 69 dX5_buffer_64 (by decide) ?_
          exact XX.sub [1, 2, 3, 4, 5, 7, 8, 0] rfl (B69 _ (fun M v5 v6 v7 hw => ih M v5 v6 v7 hw) M8 v6 v7 r7 v7 hw)
  refine q_iload_n hC dX5_buffer_0 1 rfl 1 rfl ?_
  refine q_iload_n hC dX5_buffer_1 2 rfl 2 rfl ?_
  refine q_iload_n hC dX5_buffer_2 3 rfl 3 rfl ?_
  refine r_callI hC (go_T (As := [.int v1, .int v2, .int v3]) (rest := []) hC (ctX5_isStream (zl z) g M v1 v2 v3 _ hw) 3 gX5_buffer_X5_isStream rfl ⟨rfl, rfl⟩ hdT_X5_isStream ⟨Nat.le_of_ble_eq_true rfl, Nat.le_of_ble_eq_true rfl⟩ rfl rfl (Nat.le_of_ble_eq_true rfl) dX5_buffer_3) 6 rfl (fun r1 M2 hw => ?_)
  refine q_if_eq hC 20 dX5_buffer_6 (by decide) 9 rfl hw (fun hw => ?_) (fun hw => ?_)
  · refine q_iconst (v := (-1)) hC dX5_buffer_20 rfl 21 rfl ?_
    exact r_iret hR dX5_buffer_21 hw
  · refine q_iload hC dX5_buffer_9 4 rfl 11 rfl ?_
    refine q_i2l hC dX5_buffer_11 12 rfl ?_
    refine q_lconst (v := 0) hC dX5_buffer_12 rfl 13 rfl ?_
    refine q_lconst (v := 1) hC dX5_buffer_13 rfl 14 rfl ?_
    refine r_callI hC (go_T (As := [.long (v4.toInt64), .long 0, .long 1]) (rest := []) hC (ctX5_in (zl z) g M2 (v4.toInt64) 0 1 _ hw) 3 gX5_buffer_X5_in rfl ⟨rfl, rfl⟩ hdT_X5_in ⟨Nat.le_of_ble_eq_true rfl, Nat.le_of_ble_eq_true rfl⟩ rfl rfl (Nat.le_of_ble_eq_true rfl) dX5_buffer_14) 17 rfl (fun r3 M4 hw => ?_)
    refine q_if_ne hC 22 dX5_buffer_17 (by decide) 20 rfl hw (fun hw => ?_) (fun hw => ?_)
    · refine q_iconst (v := 1) hC dX5_buffer_22 rfl 23 rfl ?_
      refine q_istore (L' := [(5, .int 1), (0, .ref (gA g 52)), (1, .int v1), (2, .int v2), (3, .int v3), (4, .int v4)]) hC dX5_buffer_23 (by decide) rfl 25 rfl ?_
      refine q_aload_n hC dX5_buffer_25 1 rfl 26 rfl ?_
      refine q_iload_n hC dX5_buffer_26 2 rfl 27 rfl ?_
      refine q_iload_n hC dX5_buffer_27 3 rfl 28 rfl ?_
      refine q_iload_n hC dX5_buffer_28 4 rfl 29 rfl ?_
      refine q_iconst (v := 1) hC dX5_buffer_29 rfl 30 rfl ?_
      refine r_callI hC (go_V (q := (RX5, TX5, 26)) (As := [.int v1, .int v2, .int v3, .int 1]) (rest := []) hC (ctX5_streams (zl z) g M4 v1 v2 v3 1 _ hF hw) 4 gX5_buffer_X5_streams rfl ⟨rfl, rfl⟩ hdV_X5_streams ⟨Nat.le_of_ble_eq_true rfl, Nat.le_of_ble_eq_true rfl⟩ (obF52 hF) rfl rfl rfl (Nat.le_of_ble_eq_true rfl) dX5_buffer_30) 33 rfl (fun r5 M6 hw => ?_)
      refine q_istore (L' := [(6, .int r5), (5, .int 1), (0, .ref (gA g 52)), (1, .int v1), (2, .int v2), (3, .int v3), (4, .int v4)]) hC dX5_buffer_33 (by decide) rfl 35 rfl ?_
      refine q_iconst (v := 2) hC dX5_buffer_35 rfl 36 rfl ?_
      refine q_istore (L' := [(7, .int 2), (6, .int r5), (5, .int 1), (0, .ref (gA g 52)), (1, .int v1), (2, .int v2), (3, .int v3), (4, .int v4)]) hC dX5_buffer_36 (by decide) rfl 38 rfl ?_
      obtain ⟨n0, hw⟩ := hw
      exact XX.sub [3, 4, 5, 6, 7, 2, 1, 0] rfl (B38 n0 M6 1 r5 2 hw)
    · refine q_iconst (v := (-1)) hC dX5_buffer_20 rfl 21 rfl ?_
      exact r_iret hR dX5_buffer_21 hw
theorem inX5_saw_X5 : ∀ w ∈ u_ws RX5 TX5 26, w ∈ wsX5_saw := uX5_saw__wsX50
set_option maxRecDepth 100000 in
set_option maxHeartbeats 4000000 in
theorem ctX5_saw (l : Launch) (g : GG) (M : MM) (v1 : Int32) (v2 : Int32) (Q : Int32 → MM → Prop) (hF : ful5 g) (hw : wX5_saw Q M v1 v2) : MI g l yX5_saw wsX5_saw (rmOf 1 25) [.ref (gA g 52), .int v1, .int v2] M Q := by
  refine mk_MI (cc := cX5_saw) (maxL := 3) (by decide) rfl (Nat.le_of_ble_eq_true rfl) ?_
  intro z Qf hC hR
  show XX z g Qf 3 0 [(0, .ref (gA g 52)), (1, .int v1), (2, .int v2)] [] M
  refine q_iload_n hC dX5_saw_0 1 rfl 1 rfl ?_
  refine q_i2l hC dX5_saw_1 2 rfl ?_
  refine q_lconst (v := 0) hC dX5_saw_2 rfl 3 rfl ?_
  refine q_ldc2 (v := 999) hC (uX5_saw__o _ (List.mem_of_getElem? (l := owX5_saw) (i := 1) rfl)) dX5_saw_3 6 rfl ?_
  refine r_callI hC (go_T (As := [.long (v1.toInt64), .long 0, .long 999]) (rest := []) hC (ctX5_in (zl z) g M (v1.toInt64) 0 999 _ hw) 3 gX5_saw_X5_in rfl ⟨rfl, rfl⟩ hdT_X5_in ⟨Nat.le_of_ble_eq_true rfl, Nat.le_of_ble_eq_true rfl⟩ rfl rfl (Nat.le_of_ble_eq_true rfl) dX5_saw_6) 9 rfl (fun r1 M2 hw => ?_)
  refine q_if_eq hC 24 dX5_saw_9 (by decide) 12 rfl hw (fun hw => ?_) (fun hw => ?_)
  · refine q_iconst (v := (-1)) hC dX5_saw_24 rfl 25 rfl ?_
    exact r_iret hR dX5_saw_25 hw
  · refine q_iload_n hC dX5_saw_12 2 rfl 13 rfl ?_
    refine q_i2l hC dX5_saw_13 14 rfl ?_
    refine q_lconst (v := 0) hC dX5_saw_14 rfl 15 rfl ?_
    refine q_ldc2 (v := 9999) hC (uX5_saw__o _ (List.mem_of_getElem? (l := owX5_saw) (i := 2) rfl)) dX5_saw_15 18 rfl ?_
    refine r_callI hC (go_T (As := [.long (v2.toInt64), .long 0, .long 9999]) (rest := []) hC (ctX5_in (zl z) g M2 (v2.toInt64) 0 9999 _ hw) 3 gX5_saw_X5_in rfl ⟨rfl, rfl⟩ hdT_X5_in ⟨Nat.le_of_ble_eq_true rfl, Nat.le_of_ble_eq_true rfl⟩ rfl rfl (Nat.le_of_ble_eq_true rfl) dX5_saw_18) 21 rfl (fun r3 M4 hw => ?_)
    refine q_if_ne hC 26 dX5_saw_21 (by decide) 24 rfl hw (fun hw => ?_) (fun hw => ?_)
    · refine q_aload_n hC dX5_saw_26 0 rfl 27 rfl ?_
      refine q_getR (C := RX5) (T := TX5) (N := 26) (ci := 5) hC inX5_saw_X5 (obF52 hF) rfl 0 (by decide) (uX5_saw__o _ (List.mem_of_getElem? (l := owX5_saw) (i := 3) rfl)) rfl 53 (fun _ => rfl) dX5_saw_27 30 rfl ?_
      refine q_sipush (v := 341) hC dX5_saw_30 (by decide) 33 rfl ?_
      refine q_ialdL hC (arF53 hF) 341 (by decide +kernel) (by decide +kernel) dX5_saw_33 34 rfl ?_
      refine q_bipush (v := 12) hC dX5_saw_34 (by decide) 36 rfl ?_
      refine q_icmp_ne hC 42 dX5_saw_36 (by decide) 39 rfl hw (fun hw => ?_) (fun hw => ?_)
      · refine q_aload_n hC dX5_saw_42 0 rfl 43 rfl ?_
        refine q_getR (C := RX5) (T := TX5) (N := 26) (ci := 5) hC inX5_saw_X5 (obF52 hF) rfl 0 (by decide) (uX5_saw__o _ (List.mem_of_getElem? (l := owX5_saw) (i := 3) rfl)) rfl 53 (fun _ => rfl) dX5_saw_43 46 rfl ?_
        refine q_sipush (v := 342) hC dX5_saw_46 (by decide) 49 rfl ?_
        refine q_iconst (v := 2) hC dX5_saw_49 rfl 50 rfl ?_
        refine q_aload_n hC dX5_saw_50 0 rfl 51 rfl ?_
        refine q_getR (C := RX5) (T := TX5) (N := 26) (ci := 5) hC inX5_saw_X5 (obF52 hF) rfl 0 (by decide) (uX5_saw__o _ (List.mem_of_getElem? (l := owX5_saw) (i := 3) rfl)) rfl 53 (fun _ => rfl) dX5_saw_51 54 rfl ?_
        refine q_sipush (v := 341) hC dX5_saw_54 (by decide) 57 rfl ?_
        refine q_ialdL hC (arF53 hF) 341 (by decide +kernel) (by decide +kernel) dX5_saw_57 58 rfl ?_
        refine q_imul hC dX5_saw_58 59 rfl ?_
        refine q_iadd hC dX5_saw_59 60 rfl ?_
        refine q_iload_n hC dX5_saw_60 1 rfl 61 rfl ?_
        obtain ⟨hin, hw⟩ := hw
        refine q_iast hC (arF53 hF) hin dX5_saw_61 62 rfl (fun M5 eM5 => ?_)
        have hw := hw M5 eM5
        refine q_aload_n hC dX5_saw_62 0 rfl 63 rfl ?_
        refine q_getR (C := RX5) (T := TX5) (N := 26) (ci := 5) hC inX5_saw_X5 (obF52 hF) rfl 0 (by decide) (uX5_saw__o _ (List.mem_of_getElem? (l := owX5_saw) (i := 3) rfl)) rfl 53 (fun _ => rfl) dX5_saw_63 66 rfl ?_
        refine q_sipush (v := 342) hC dX5_saw_66 (by decide) 69 rfl ?_
        refine q_iconst (v := 2) hC dX5_saw_69 rfl 70 rfl ?_
        refine q_aload_n hC dX5_saw_70 0 rfl 71 rfl ?_
        refine q_getR (C := RX5) (T := TX5) (N := 26) (ci := 5) hC inX5_saw_X5 (obF52 hF) rfl 0 (by decide) (uX5_saw__o _ (List.mem_of_getElem? (l := owX5_saw) (i := 3) rfl)) rfl 53 (fun _ => rfl) dX5_saw_71 74 rfl ?_
        refine q_sipush (v := 341) hC dX5_saw_74 (by decide) 77 rfl ?_
        refine q_ialdL hC (arF53 hF) 341 (by decide +kernel) (by decide +kernel) dX5_saw_77 78 rfl ?_
        refine q_imul hC dX5_saw_78 79 rfl ?_
        refine q_iadd hC dX5_saw_79 80 rfl ?_
        refine q_iconst (v := 1) hC dX5_saw_80 rfl 81 rfl ?_
        refine q_iadd hC dX5_saw_81 82 rfl ?_
        refine q_iload_n hC dX5_saw_82 2 rfl 83 rfl ?_
        obtain ⟨hin, hw⟩ := hw
        refine q_iast hC (arF53 hF) hin dX5_saw_83 84 rfl (fun M6 eM6 => ?_)
        have hw := hw M6 eM6
        refine q_aload_n hC dX5_saw_84 0 rfl 85 rfl ?_
        refine q_getR (C := RX5) (T := TX5) (N := 26) (ci := 5) hC inX5_saw_X5 (obF52 hF) rfl 0 (by decide) (uX5_saw__o _ (List.mem_of_getElem? (l := owX5_saw) (i := 3) rfl)) rfl 53 (fun _ => rfl) dX5_saw_85 88 rfl ?_
        refine q_sipush (v := 341) hC dX5_saw_88 (by decide) 91 rfl ?_
        refine q_dup2 hC dX5_saw_91 rfl rfl 92 rfl ?_
        refine q_ialdL hC (arF53 hF) 341 (by decide +kernel) (by decide +kernel) dX5_saw_92 93 rfl ?_
        refine q_iconst (v := 1) hC dX5_saw_93 rfl 94 rfl ?_
        refine q_iadd hC dX5_saw_94 95 rfl ?_
        refine q_iastL hC (arF53 hF) 341 (by decide +kernel) (by decide +kernel) dX5_saw_95 96 rfl (fun M7 eM7 => ?_)
        have hw := hw M7 eM7
        refine q_aload_n hC dX5_saw_96 0 rfl 97 rfl ?_
        refine q_getR (C := RX5) (T := TX5) (N := 26) (ci := 5) hC inX5_saw_X5 (obF52 hF) rfl 0 (by decide) (uX5_saw__o _ (List.mem_of_getElem? (l := owX5_saw) (i := 3) rfl)) rfl 53 (fun _ => rfl) dX5_saw_97 100 rfl ?_
        refine q_sipush (v := 341) hC dX5_saw_100 (by decide) 103 rfl ?_
        refine q_ialdL hC (arF53 hF) 341 (by decide +kernel) (by decide +kernel) dX5_saw_103 104 rfl ?_
        exact r_iret hR dX5_saw_104 hw
      · refine q_bipush (v := (-3)) hC dX5_saw_39 (by decide) 41 rfl ?_
        exact r_iret hR dX5_saw_41 hw
    · refine q_iconst (v := (-1)) hC dX5_saw_24 rfl 25 rfl ?_
      exact r_iret hR dX5_saw_25 hw
theorem inX5_forget_X5 : ∀ w ∈ u_ws RX5 TX5 26, w ∈ wsX5_forget := uX5_forget__wsX50
set_option maxRecDepth 100000 in
set_option maxHeartbeats 4000000 in
theorem ctX5_forget (l : Launch) (g : GG) (M : MM)  (Q : Int32 → MM → Prop) (hF : ful5 g) (hw : wX5_forget Q M ) : MI g l yX5_forget wsX5_forget (rmOf 0 0) [.ref (gA g 52)] M Q := by
  refine mk_MI (cc := cX5_forget) (maxL := 2) (by decide) rfl (Nat.le_of_ble_eq_true rfl) ?_
  intro z Qf hC hR
  show XX z g Qf 2 0 [(0, .ref (gA g 52))] [] M
  refine q_aload_n hC dX5_forget_0 0 rfl 1 rfl ?_
  refine q_getR (C := RX5) (T := TX5) (N := 26) (ci := 5) hC inX5_forget_X5 (obF52 hF) rfl 0 (by decide) (uX5_forget__o _ (List.mem_of_getElem? (l := owX5_forget) (i := 1) rfl)) rfl 53 (fun _ => rfl) dX5_forget_1 4 rfl ?_
  refine q_sipush (v := 341) hC dX5_forget_4 (by decide) 7 rfl ?_
  refine q_ialdL hC (arF53 hF) 341 (by decide +kernel) (by decide +kernel) dX5_forget_7 8 rfl ?_
  refine q_istore_n (L' := [(1, .int (M 53 341)), (0, .ref (gA g 52))]) hC dX5_forget_8 (by decide) rfl 9 rfl ?_
  refine q_aload_n hC dX5_forget_9 1 rfl 10 rfl ?_
  refine q_getR (C := RX5) (T := TX5) (N := 26) (ci := 5) hC inX5_forget_X5 (obF52 hF) rfl 0 (by decide) (uX5_forget__o _ (List.mem_of_getElem? (l := owX5_forget) (i := 1) rfl)) rfl 53 (fun _ => rfl) dX5_forget_10 13 rfl ?_
  refine q_sipush (v := 341) hC dX5_forget_13 (by decide) 16 rfl ?_
  refine q_iconst (v := 0) hC dX5_forget_16 rfl 17 rfl ?_
  refine q_iastL hC (arF53 hF) 341 (by decide +kernel) (by decide +kernel) dX5_forget_17 18 rfl (fun M1 eM1 => ?_)
  have hw := hw M1 eM1
  refine q_iload_n hC dX5_forget_18 0 rfl 19 rfl ?_
  exact r_iret hR dX5_forget_19 hw
theorem inX5_canBe_X5 : ∀ w ∈ u_ws RX5 TX5 26, w ∈ wsX5_canBe := uX5_canBe__wsX50
set_option maxRecDepth 100000 in
set_option maxHeartbeats 4000000 in
theorem ctX5_canBe (l : Launch) (g : GG) (M : MM) (v1 : Int32) (v2 : Int32) (Q : Int32 → MM → Prop) (hF : ful5 g) (hw : wX5_canBe Q M v1 v2) : MI g l yX5_canBe wsX5_canBe (rmOf 1 24) [.ref (gA g 52), .int v1, .int v2] M Q := by
  refine mk_MZ (cc := cX5_canBe) (maxL := 4) (by decide) rfl (Nat.le_of_ble_eq_true rfl) ?_
  intro z Qf hC hR
  show XX z g Qf 4 0 [(0, .ref (gA g 52)), (1, .int v1), (2, .int v2)] [] M
  have B2 : ∀ (n : Nat) (M : MM) (v3 : Int32) , wX5_canBe_2 Q v1 v2 n M v3 → XX z g Qf 4 2 [(0, .ref (gA g 52)), (1, .int v1), (2, .int v2), (3, .int v3)] [] M := by
    intro n
    induction n with
    | zero =>
      intro M v3 hw
      exact hw.elim
    | succ n ih =>
      intro M v3 hw
      refine q_iload_n hC dX5_canBe_2 3 rfl 3 rfl ?_
      refine q_aload_n hC dX5_canBe_3 0 rfl 4 rfl ?_
      refine q_getR (C := RX5) (T := TX5) (N := 26) (ci := 5) hC inX5_canBe_X5 (obF52 hF) rfl 0 (by decide) (uX5_canBe__o _ (List.mem_of_getElem? (l := owX5_canBe) (i := 1) rfl)) rfl 53 (fun _ => rfl) dX5_canBe_4 7 rfl ?_
      refine q_sipush (v := 341) hC dX5_canBe_7 (by decide) 10 rfl ?_
      refine q_ialdL hC (arF53 hF) 341 (by decide +kernel) (by decide +kernel) dX5_canBe_10 11 rfl ?_
      refine q_icmp_ge hC 56 dX5_canBe_11 (by decide) 14 rfl hw (fun hw => ?_) (fun hw => ?_)
      · refine q_iconst (v := 1) hC dX5_canBe_56 rfl 57 rfl ?_
        exact r_iret hR dX5_canBe_57 ⟨nb_1, hw⟩
      · refine q_aload_n hC dX5_canBe_14 0 rfl 15 rfl ?_
        refine q_getR (C := RX5) (T := TX5) (N := 26) (ci := 5) hC inX5_canBe_X5 (obF52 hF) rfl 0 (by decide) (uX5_canBe__o _ (List.mem_of_getElem? (l := owX5_canBe) (i := 1) rfl)) rfl 53 (fun _ => rfl) dX5_canBe_15 18 rfl ?_
        refine q_sipush (v := 342) hC dX5_canBe_18 (by decide) 21 rfl ?_
        refine q_iconst (v := 2) hC dX5_canBe_21 rfl 22 rfl ?_
        refine q_iload_n hC dX5_canBe_22 3 rfl 23 rfl ?_
        refine q_imul hC dX5_canBe_23 24 rfl ?_
        refine q_iadd hC dX5_canBe_24 25 rfl ?_
        refine q_iconst (v := 1) hC dX5_canBe_25 rfl 26 rfl ?_
        refine q_iadd hC dX5_canBe_26 27 rfl ?_
        obtain ⟨hin, hw⟩ := hw
        refine q_iald hC (arF53 hF) hin dX5_canBe_27 28 rfl ?_
        refine q_iload_n hC dX5_canBe_28 1 rfl 29 rfl ?_
        refine q_iload_n hC dX5_canBe_29 2 rfl 30 rfl ?_
        refine r_callI hC (go_T (As := [.int (M 53 (((342 : Int32) + ((2 : Int32) * v3)) + (1 : Int32)).toNatClampNeg), .int v1, .int v2]) (rest := []) hC (ctX5_turnsOf (zl z) g M (M 53 (((342 : Int32) + ((2 : Int32) * v3)) + (1 : Int32)).toNatClampNeg) v1 v2 _ hw) 3 gX5_canBe_X5_turnsOf rfl ⟨rfl, rfl⟩ hdT_X5_turnsOf ⟨Nat.le_of_ble_eq_true rfl, Nat.le_of_ble_eq_true rfl⟩ rfl rfl (Nat.le_of_ble_eq_true rfl) dX5_canBe_30) 33 rfl (fun r1 M2 hw => ?_)
        refine q_aload_n hC dX5_canBe_33 0 rfl 34 rfl ?_
        refine q_getR (C := RX5) (T := TX5) (N := 26) (ci := 5) hC inX5_canBe_X5 (obF52 hF) rfl 0 (by decide) (uX5_canBe__o _ (List.mem_of_getElem? (l := owX5_canBe) (i := 1) rfl)) rfl 53 (fun _ => rfl) dX5_canBe_34 37 rfl ?_
        refine q_sipush (v := 342) hC dX5_canBe_37 (by decide) 40 rfl ?_
        refine q_iconst (v := 2) hC dX5_canBe_40 rfl 41 rfl ?_
        refine q_iload_n hC dX5_canBe_41 3 rfl 42 rfl ?_
        refine q_imul hC dX5_canBe_42 43 rfl ?_
        refine q_iadd hC dX5_canBe_43 44 rfl ?_
        obtain ⟨hin, hw⟩ := hw
        refine q_iald hC (arF53 hF) hin dX5_canBe_44 45 rfl ?_
        refine q_icmp_eq hC 50 dX5_canBe_45 (by decide) 48 rfl hw (fun hw => ?_) (fun hw => ?_)
        · refine q_iinc (v := v3 + 1) (L' := [(3, .int (v3 + 1)), (0, .ref (gA g 52)), (1, .int v1), (2, .int v2)]) hC dX5_canBe_50 3 rfl rfl (by decide) rfl 53 rfl ?_
          refine q_goto hC 2 dX5_canBe_53 (by decide) ?_
          exact XX.sub [1, 2, 3, 0] rfl (ih M2 (v3 + 1) hw)
        · refine q_iconst (v := 0) hC dX5_canBe_48 rfl 49 rfl ?_
          exact r_iret hR dX5_canBe_49 ⟨nb_0, hw⟩
  refine q_iconst (v := 0) hC dX5_canBe_0 rfl 1 rfl ?_
  refine q_istore_n (L' := [(3, .int 0), (0, .ref (gA g 52)), (1, .int v1), (2, .int v2)]) hC dX5_canBe_1 (by decide) rfl 2 rfl ?_
  obtain ⟨n0, hw⟩ := hw
  exact XX.sub [1, 2, 3, 0] rfl (B2 n0 M 0 hw)
theorem hdV_X5_canBe : yX5_canBe.cls = RX5 ∧ yX5_canBe.cls ≠ "java/lang/invoke/MethodHandle" ∧ yX5_canBe.cls ≠ "java/lang/invoke/VarHandle" ∧ (parseMethodDescriptor yX5_canBe.desc).map (fun d => d.parameters.length) = some 2 := by decide +kernel
set_option maxRecDepth 100000 in
set_option maxHeartbeats 4000000 in
theorem ctX5_fits (l : Launch) (g : GG) (M : MM) (v1 : Int32) (Q : Int32 → MM → Prop) (hF : ful5 g) (hw : wX5_fits Q M v1) : MI g l yX5_fits wsX5_fits (rmOf 2 47) [.ref (gA g 52), .int v1] M Q := by
  refine mk_MI (cc := cX5_fits) (maxL := 6) (by decide) rfl (Nat.le_of_ble_eq_true rfl) ?_
  intro z Qf hC hR
  show XX z g Qf 6 0 [(0, .ref (gA g 52)), (1, .int v1)] [] M
  have B72 : ∀ (K22 : MM → Int32 → Int32 → Int32 → Prop) (hK22 : ∀ (M : MM) (v2 : Int32) (v3 : Int32) (v4 : Int32) , K22 M v2 v3 v4 → XX z g Qf 6 22 [(0, .ref (gA g 52)), (1, .int v1), (2, .int v2), (3, .int v3), (4, .int v4)] [] M) (K32 : MM → Int32 → Int32 → Int32 → Int32 → Prop) (hK32 : ∀ (M : MM) (v2 : Int32) (v3 : Int32) (v4 : Int32) (v5 : Int32) , K32 M v2 v3 v4 v5 → XX z g Qf 6 32 [(0, .ref (gA g 52)), (1, .int v1), (2, .int v2), (3, .int v3), (4, .int v4), (5, .int v5)] [] M) (M : MM) (v2 : Int32) (v3 : Int32) (v4 : Int32) (v5 : Int32), wX5_fits_72 Q K22 K32 v1 M v2 v3 v4 v5 → XX z g Qf 6 72 [(0, .ref (gA g 52)), (1, .int v1), (2, .int v2), (3, .int v3), (4, .int v4), (5, .int v5)] [] M := by
    intro K22 hK22 K32 hK32 M v2 v3 v4 v5 hw
    refine q_iinc (v := v5 + 1) (L' := [(5, .int (v5 + 1)), (0, .ref (gA g 52)), (1, .int v1), (2, .int v2), (3, .int v3), (4, .int v4)]) hC dX5_fits_72 5 rfl rfl (by decide) rfl 75 rfl ?_
    refine q_goto hC 32 dX5_fits_75 (by decide) ?_
    exact XX.sub [1, 2, 3, 4, 5, 0] rfl (hK32 M v2 v3 v4 (v5 + 1) hw)
  have B68 : ∀ (K22 : MM → Int32 → Int32 → Int32 → Prop) (hK22 : ∀ (M : MM) (v2 : Int32) (v3 : Int32) (v4 : Int32) , K22 M v2 v3 v4 → XX z g Qf 6 22 [(0, .ref (gA g 52)), (1, .int v1), (2, .int v2), (3, .int v3), (4, .int v4)] [] M) (K32 : MM → Int32 → Int32 → Int32 → Int32 → Prop) (hK32 : ∀ (M : MM) (v2 : Int32) (v3 : Int32) (v4 : Int32) (v5 : Int32) , K32 M v2 v3 v4 v5 → XX z g Qf 6 32 [(0, .ref (gA g 52)), (1, .int v1), (2, .int v2), (3, .int v3), (4, .int v4), (5, .int v5)] [] M) (M : MM) (v2 : Int32) (v4 : Int32) (v5 : Int32) (p0 : Int32), wX5_fits_68 Q K22 K32 v1 M v2 v4 v5 p0 → XX z g Qf 6 68 [(0, .ref (gA g 52)), (1, .int v1), (2, .int v2), (4, .int v4), (5, .int v5)] [.int p0] M := by
    intro K22 hK22 K32 hK32 M v2 v4 v5 p0 hw
    refine q_istore_n (L' := [(3, .int p0), (0, .ref (gA g 52)), (1, .int v1), (2, .int v2), (4, .int v4), (5, .int v5)]) hC dX5_fits_68 (by decide) rfl 69 rfl ?_
    refine q_iinc (v := v2 + 1) (L' := [(2, .int (v2 + 1)), (3, .int p0), (0, .ref (gA g 52)), (1, .int v1), (4, .int v4), (5, .int v5)]) hC dX5_fits_69 3 rfl rfl (by decide) rfl 72 rfl ?_
    exact XX.sub [2, 3, 0, 1, 4, 5] rfl (B72 _ hK22 _ hK32 M (v2 + 1) p0 v4 v5 hw)
  have B32 : ∀ (K22 : MM → Int32 → Int32 → Int32 → Prop) (hK22 : ∀ (M : MM) (v2 : Int32) (v3 : Int32) (v4 : Int32) , K22 M v2 v3 v4 → XX z g Qf 6 22 [(0, .ref (gA g 52)), (1, .int v1), (2, .int v2), (3, .int v3), (4, .int v4)] [] M) (n : Nat) (M : MM) (v2 : Int32) (v3 : Int32) (v4 : Int32) (v5 : Int32) , wX5_fits_32 Q K22 v1 n M v2 v3 v4 v5 → XX z g Qf 6 32 [(0, .ref (gA g 52)), (1, .int v1), (2, .int v2), (3, .int v3), (4, .int v4), (5, .int v5)] [] M := by
    intro K22 hK22 n
    induction n with
    | zero =>
      intro M v2 v3 v4 v5 hw
      exact hw.elim
    | succ n ih =>
      intro M v2 v3 v4 v5 hw
      refine q_iload hC dX5_fits_32 5 rfl 34 rfl ?_
      refine q_bipush (v := 10) hC dX5_fits_34 (by decide) 36 rfl ?_
      refine q_icmp_ge hC 78 dX5_fits_36 (by decide) 39 rfl hw (fun hw => ?_) (fun hw => ?_)
      · refine q_iinc (v := v4 + 1) (L' := [(4, .int (v4 + 1)), (0, .ref (gA g 52)), (1, .int v1), (2, .int v2), (3, .int v3), (5, .int v5)]) hC dX5_fits_78 4 rfl rfl (by decide) rfl 81 rfl ?_
        refine q_goto hC 22 dX5_fits_81 (by decide) ?_
        exact XX.sub [1, 2, 3, 4, 0] rfl (hK22 M v2 v3 (v4 + 1) hw)
      · refine q_aload_n hC dX5_fits_39 0 rfl 40 rfl ?_
        refine q_iload hC dX5_fits_40 4 rfl 42 rfl ?_
        refine q_iload hC dX5_fits_42 5 rfl 44 rfl ?_
        refine r_callI hC (go_V (q := (RX5, TX5, 26)) (As := [.int v4, .int v5]) (rest := []) hC (ctX5_canBe (zl z) g M v4 v5 _ hF hw) 2 gX5_fits_X5_canBe rfl ⟨rfl, rfl⟩ hdV_X5_canBe ⟨Nat.le_of_ble_eq_true rfl, Nat.le_of_ble_eq_true rfl⟩ (obF52 hF) rfl rfl rfl (Nat.le_of_ble_eq_true rfl) dX5_fits_44) 47 rfl (fun r3 M4 hw => ?_)
        refine q_if_eq hC 72 dX5_fits_47 (by decide) 50 rfl hw (fun hw => ?_) (fun hw => ?_)
        · exact XX.sub [0, 1, 2, 3, 4, 5] rfl (B72 _ hK22 _ (fun M v2 v3 v4 v5 hw => ih M v2 v3 v4 v5 hw) M4 v2 v3 v4 v5 hw)
        · refine q_iload_n hC dX5_fits_50 3 rfl 51 rfl ?_
          refine q_bipush (v := (-4)) hC dX5_fits_51 (by decide) 53 rfl ?_
          refine q_icmp_ne hC 67 dX5_fits_53 (by decide) 56 rfl hw (fun hw => ?_) (fun hw => ?_)
          · refine q_iload_n hC dX5_fits_67 3 rfl 68 rfl ?_
            exact XX.sub [0, 1, 2, 4, 5] rfl (B68 _ hK22 _ (fun M v2 v3 v4 v5 hw => ih M v2 v3 v4 v5 hw) M4 v2 v4 v5 v3 hw)
          · refine q_bipush (v := 10) hC dX5_fits_56 (by decide) 58 rfl ?_
            refine q_iload hC dX5_fits_58 4 rfl 60 rfl ?_
            refine q_imul hC dX5_fits_60 61 rfl ?_
            refine q_iload hC dX5_fits_61 5 rfl 63 rfl ?_
            refine q_iadd hC dX5_fits_63 64 rfl ?_
            refine q_goto hC 68 dX5_fits_64 (by decide) ?_
            exact XX.sub [0, 1, 2, 4, 5] rfl (B68 _ hK22 _ (fun M v2 v3 v4 v5 hw => ih M v2 v3 v4 v5 hw) M4 v2 v4 v5 (((10 : Int32) * v4) + v5) hw)
  have B22 : ∀ (n : Nat) (M : MM) (v2 : Int32) (v3 : Int32) (v4 : Int32) , wX5_fits_22 Q v1 n M v2 v3 v4 → XX z g Qf 6 22 [(0, .ref (gA g 52)), (1, .int v1), (2, .int v2), (3, .int v3), (4, .int v4)] [] M := by
    intro n
    induction n with
    | zero =>
      intro M v2 v3 v4 hw
      exact hw.elim
    | succ n ih =>
      intro M v2 v3 v4 hw
      refine q_iload hC dX5_fits_22 4 rfl 24 rfl ?_
      refine q_bipush (v := 100) hC dX5_fits_24 (by decide) 26 rfl ?_
      refine q_icmp_ge hC 84 dX5_fits_26 (by decide) 29 rfl hw (fun hw => ?_) (fun hw => ?_)
      · refine q_iload_n hC dX5_fits_84 1 rfl 85 rfl ?_
        refine q_if_ne hC 92 dX5_fits_85 (by decide) 88 rfl hw (fun hw => ?_) (fun hw => ?_)
        · refine q_iload_n hC dX5_fits_92 3 rfl 93 rfl ?_
          refine q_bipush (v := (-4)) hC dX5_fits_93 (by decide) 95 rfl ?_
          refine q_icmp_ne hC 103 dX5_fits_95 (by decide) 98 rfl hw (fun hw => ?_) (fun hw => ?_)
          · refine q_iload_n hC dX5_fits_103 1 rfl 104 rfl ?_
            refine q_iconst (v := 1) hC dX5_fits_104 rfl 105 rfl ?_
            refine q_icmp_ne hC 115 dX5_fits_105 (by decide) 108 rfl hw (fun hw => ?_) (fun hw => ?_)
            · refine q_iload_n hC dX5_fits_115 3 rfl 116 rfl ?_
              refine q_bipush (v := 10) hC dX5_fits_116 (by decide) 118 rfl ?_
              refine q_irem hC dX5_fits_118 (by decide) 119 rfl ?_
              exact r_iret hR dX5_fits_119 hw
            · refine q_iload_n hC dX5_fits_108 3 rfl 109 rfl ?_
              refine q_bipush (v := 10) hC dX5_fits_109 (by decide) 111 rfl ?_
              refine q_idiv hC dX5_fits_111 (by decide) 112 rfl ?_
              refine q_goto hC 119 dX5_fits_112 (by decide) ?_
              exact r_iret hR dX5_fits_119 hw
          · refine q_bipush (v := (-4)) hC dX5_fits_98 (by decide) 100 rfl ?_
            refine q_goto hC 119 dX5_fits_100 (by decide) ?_
            exact r_iret hR dX5_fits_119 hw
        · refine q_iload_n hC dX5_fits_88 2 rfl 89 rfl ?_
          refine q_goto hC 119 dX5_fits_89 (by decide) ?_
          exact r_iret hR dX5_fits_119 hw
      · refine q_iconst (v := 1) hC dX5_fits_29 rfl 30 rfl ?_
        refine q_istore (L' := [(5, .int 1), (0, .ref (gA g 52)), (1, .int v1), (2, .int v2), (3, .int v3), (4, .int v4)]) hC dX5_fits_30 (by decide) rfl 32 rfl ?_
        obtain ⟨n0, hw⟩ := hw
        exact XX.sub [1, 2, 3, 4, 5, 0] rfl (B32 _ (fun M v2 v3 v4 hw => ih M v2 v3 v4 hw) n0 M v2 v3 v4 1 hw)
  refine q_iload_n hC dX5_fits_0 1 rfl 1 rfl ?_
  refine q_i2l hC dX5_fits_1 2 rfl ?_
  refine q_lconst (v := 0) hC dX5_fits_2 rfl 3 rfl ?_
  refine q_ldc2 (v := 2) hC (uX5_fits__o _ (List.mem_of_getElem? (l := owX5_fits) (i := 1) rfl)) dX5_fits_3 6 rfl ?_
  refine r_callI hC (go_T (As := [.long (v1.toInt64), .long 0, .long 2]) (rest := []) hC (ctX5_in (zl z) g M (v1.toInt64) 0 2 _ hw) 3 gX5_fits_X5_in rfl ⟨rfl, rfl⟩ hdT_X5_in ⟨Nat.le_of_ble_eq_true rfl, Nat.le_of_ble_eq_true rfl⟩ rfl rfl (Nat.le_of_ble_eq_true rfl) dX5_fits_6) 9 rfl (fun r1 M2 hw => ?_)
  refine q_if_ne hC 14 dX5_fits_9 (by decide) 12 rfl hw (fun hw => ?_) (fun hw => ?_)
  · refine q_iconst (v := 0) hC dX5_fits_14 rfl 15 rfl ?_
    refine q_istore_n (L' := [(2, .int 0), (0, .ref (gA g 52)), (1, .int v1)]) hC dX5_fits_15 (by decide) rfl 16 rfl ?_
    refine q_bipush (v := (-4)) hC dX5_fits_16 (by decide) 18 rfl ?_
    refine q_istore_n (L' := [(3, .int (-4)), (2, .int 0), (0, .ref (gA g 52)), (1, .int v1)]) hC dX5_fits_18 (by decide) rfl 19 rfl ?_
    refine q_iconst (v := 5) hC dX5_fits_19 rfl 20 rfl ?_
    refine q_istore (L' := [(4, .int 5), (3, .int (-4)), (2, .int 0), (0, .ref (gA g 52)), (1, .int v1)]) hC dX5_fits_20 (by decide) rfl 22 rfl ?_
    obtain ⟨n0, hw⟩ := hw
    exact XX.sub [3, 4, 2, 1, 0] rfl (B22 n0 M2 0 (-4) 5 hw)
  · refine q_iconst (v := (-1)) hC dX5_fits_12 rfl 13 rfl ?_
    exact r_iret hR dX5_fits_13 hw
