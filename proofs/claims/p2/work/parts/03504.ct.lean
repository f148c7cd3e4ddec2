theorem hdV_X5_goesTo : yX5_goesTo.cls = RX5 ∧ yX5_goesTo.cls ≠ "java/lang/invoke/MethodHandle" ∧ yX5_goesTo.cls ≠ "java/lang/invoke/VarHandle" ∧ (parseMethodDescriptor yX5_goesTo.desc).map (fun d => d.parameters.length) = some 1 := by decide +kernel
set_option maxRecDepth 100000 in
set_option maxHeartbeats 4000000 in
theorem ctX5_go (l : Launch) (g : GG) (M : MM) (v1 : Int32) (Q : Int32 → MM → Prop) (hF : ful5 g) (hw : wX5_go Q M v1) : MI g l yX5_go wsX5_go (rmOf 5 112) [.ref (gA g 52), .int v1] M Q := by
  refine mk_MI (cc := cX5_go) (maxL := 2) (by decide) rfl (Nat.le_of_ble_eq_true rfl) ?_
  intro z Qf hC hR
  show XX z g Qf 2 0 [(0, .ref (gA g 52)), (1, .int v1)] [] M
  refine q_aload_n hC dX5_go_0 0 rfl 1 rfl ?_
  refine q_iload_n hC dX5_go_1 1 rfl 2 rfl ?_
  refine r_callI hC (go_V (q := (RX5, TX5, 26)) (As := [.int v1]) (rest := []) hC (ctX5_isPlace (zl z) g M v1 _ hF hw) 1 gX5_go_X5_isPlace rfl ⟨rfl, rfl⟩ hdV_X5_isPlace ⟨Nat.le_of_ble_eq_true rfl, Nat.le_of_ble_eq_true rfl⟩ (obF52 hF) rfl rfl rfl (Nat.le_of_ble_eq_true rfl) dX5_go_2) 5 rfl (fun r1 M2 hw => ?_)
  refine q_if_eq hC 16 dX5_go_5 (by decide) 8 rfl hw (fun hw => ?_) (fun hw => ?_)
  · refine q_iconst (v := (-1)) hC dX5_go_16 rfl 17 rfl ?_
    exact r_iret hR dX5_go_17 hw
  · refine q_aload_n hC dX5_go_8 0 rfl 9 rfl ?_
    refine q_iload_n hC dX5_go_9 1 rfl 10 rfl ?_
    refine r_callI hC (go_V (q := (RX5, TX5, 26)) (As := [.int v1]) (rest := []) hC (ctX5_goesTo (zl z) g M2 v1 _ hF hw) 1 gX5_go_X5_goesTo rfl ⟨rfl, rfl⟩ hdV_X5_goesTo ⟨Nat.le_of_ble_eq_true rfl, Nat.le_of_ble_eq_true rfl⟩ (obF52 hF) rfl rfl rfl (Nat.le_of_ble_eq_true rfl) dX5_go_10) 13 rfl (fun r3 M4 hw => ?_)
    refine q_goto hC 17 dX5_go_13 (by decide) ?_
    exact r_iret hR dX5_go_17 hw
theorem inX5_endOfAll_X5 : ∀ w ∈ u_ws RX5 TX5 26, w ∈ wsX5_endOfAll := uX5_endOfAll__wsX50
set_option maxRecDepth 100000 in
set_option maxHeartbeats 4000000 in
theorem ctX5_endOfAll (l : Launch) (g : GG) (M : MM)  (Q : Int32 → MM → Prop) (hF : ful5 g) (hw : wX5_endOfAll Q M ) : MI g l yX5_endOfAll wsX5_endOfAll (rmOf 2 42) [.ref (gA g 52)] M Q := by
  refine mk_MI (cc := cX5_endOfAll) (maxL := 1) (by decide) rfl (Nat.le_of_ble_eq_true rfl) ?_
  intro z Qf hC hR
  show XX z g Qf 1 0 [(0, .ref (gA g 52))] [] M
  refine q_aload_n hC dX5_endOfAll_0 0 rfl 1 rfl ?_
  refine q_getR (C := RX5) (T := TX5) (N := 26) (ci := 5) hC inX5_endOfAll_X5 (obF52 hF) rfl 0 (by decide) (uX5_endOfAll__X5_endOf _ (List.mem_of_getElem? (l := owX5_endOf) (i := 1) rfl)) rfl 53 (fun _ => rfl) dX5_endOfAll_1 4 rfl ?_
  refine q_iconst (v := 0) hC dX5_endOfAll_4 rfl 5 rfl ?_
  refine q_ialdL hC (arF53 hF) 0 (by decide +kernel) (by decide +kernel) dX5_endOfAll_5 6 rfl ?_
  refine q_if_ne hC 13 dX5_endOfAll_6 (by decide) 9 rfl hw (fun hw => ?_) (fun hw => ?_)
  · refine q_aload_n hC dX5_endOfAll_13 0 rfl 14 rfl ?_
    refine q_aload_n hC dX5_endOfAll_14 0 rfl 15 rfl ?_
    refine q_getR (C := RX5) (T := TX5) (N := 26) (ci := 5) hC inX5_endOfAll_X5 (obF52 hF) rfl 0 (by decide) (uX5_endOfAll__X5_endOf _ (List.mem_of_getElem? (l := owX5_endOf) (i := 1) rfl)) rfl 53 (fun _ => rfl) dX5_endOfAll_15 18 rfl ?_
    refine q_iconst (v := 0) hC dX5_endOfAll_18 rfl 19 rfl ?_
    refine q_ialdL hC (arF53 hF) 0 (by decide +kernel) (by decide +kernel) dX5_endOfAll_19 20 rfl ?_
    refine q_iconst (v := 1) hC dX5_endOfAll_20 rfl 21 rfl ?_
    refine q_isub hC dX5_endOfAll_21 22 rfl ?_
    refine r_callI hC (go_V (q := (RX5, TX5, 26)) (As := [.int ((M 53 0) - (1 : Int32))]) (rest := []) hC (ctX5_endOf (zl z) g M ((M 53 0) - (1 : Int32)) _ hF hw) 1 gX5_endOfAll_X5_endOf rfl ⟨rfl, rfl⟩ hdV_X5_endOf ⟨Nat.le_of_ble_eq_true rfl, Nat.le_of_ble_eq_true rfl⟩ (obF52 hF) rfl rfl rfl (Nat.le_of_ble_eq_true rfl) dX5_endOfAll_22) 25 rfl (fun r1 M2 hw => ?_)
    exact r_iret hR dX5_endOfAll_25 hw
  · refine q_iconst (v := 0) hC dX5_endOfAll_9 rfl 10 rfl ?_
    refine q_goto hC 25 dX5_endOfAll_10 (by decide) ?_
    exact r_iret hR dX5_endOfAll_25 hw
theorem hdV_X5_endOfAll : yX5_endOfAll.cls = RX5 ∧ yX5_endOfAll.cls ≠ "java/lang/invoke/MethodHandle" ∧ yX5_endOfAll.cls ≠ "java/lang/invoke/VarHandle" ∧ (parseMethodDescriptor yX5_endOfAll.desc).map (fun d => d.parameters.length) = some 0 := by decide +kernel
theorem inX5_now_X5 : ∀ w ∈ u_ws RX5 TX5 26, w ∈ wsX5_now := uX5_now__wsX50
set_option maxRecDepth 100000 in
set_option maxHeartbeats 4000000 in
theorem ctX5_now (l : Launch) (g : GG) (M : MM) (v1 : Int32) (Q : Int32 → MM → Prop) (hF : ful5 g) (hw : wX5_now Q M v1) : MI g l yX5_now wsX5_now (rmOf 3 62) [.ref (gA g 52), .int v1] M Q := by
  refine mk_MI (cc := cX5_now) (maxL := 2) (by decide) rfl (Nat.le_of_ble_eq_true rfl) ?_
  intro z Qf hC hR
  show XX z g Qf 2 0 [(0, .ref (gA g 52)), (1, .int v1)] [] M
  refine q_iload_n hC dX5_now_0 1 rfl 1 rfl ?_
  by_cases c0 : v1 = 0
  · have hw := hw.1 c0
    refine q_tabIn hC 40 dX5_now_1 (by rw [c0]; decide) (by rw [c0]; decide) (by rw [c0]; rfl) (by decide) ?_
    refine q_aload_n hC dX5_now_40 0 rfl 41 rfl ?_
    refine q_getR (C := RX5) (T := TX5) (N := 26) (ci := 5) hC inX5_now_X5 (obF52 hF) rfl 0 (by decide) (uX5_now__X5_endOf _ (List.mem_of_getElem? (l := owX5_endOf) (i := 1) rfl)) rfl 53 (fun _ => rfl) dX5_now_41 44 rfl ?_
    refine q_sipush (v := 325) hC dX5_now_44 (by decide) 47 rfl ?_
    refine q_ialdL hC (arF53 hF) 325 (by decide +kernel) (by decide +kernel) dX5_now_47 48 rfl ?_
    exact r_iret hR dX5_now_48 hw
  · have hw := hw.2 c0
    by_cases c1 : v1 = 1
    · have hw := hw.1 c1
      refine q_tabIn hC 49 dX5_now_1 (by rw [c1]; decide) (by rw [c1]; decide) (by rw [c1]; rfl) (by decide) ?_
      refine q_aload_n hC dX5_now_49 0 rfl 50 rfl ?_
      refine q_getR (C := RX5) (T := TX5) (N := 26) (ci := 5) hC inX5_now_X5 (obF52 hF) rfl 0 (by decide) (uX5_now__X5_endOf _ (List.mem_of_getElem? (l := owX5_endOf) (i := 1) rfl)) rfl 53 (fun _ => rfl) dX5_now_50 53 rfl ?_
      refine q_sipush (v := 326) hC dX5_now_53 (by decide) 56 rfl ?_
      refine q_ialdL hC (arF53 hF) 326 (by decide +kernel) (by decide +kernel) dX5_now_56 57 rfl ?_
      exact r_iret hR dX5_now_57 hw
    · have hw := hw.2 c1
      by_cases c2 : v1 = 2
      · have hw := hw.1 c2
        refine q_tabIn hC 58 dX5_now_1 (by rw [c2]; decide) (by rw [c2]; decide) (by rw [c2]; rfl) (by decide) ?_
        refine q_aload_n hC dX5_now_58 0 rfl 59 rfl ?_
        refine q_aload_n hC dX5_now_59 0 rfl 60 rfl ?_
        refine q_getR (C := RX5) (T := TX5) (N := 26) (ci := 5) hC inX5_now_X5 (obF52 hF) rfl 0 (by decide) (uX5_now__X5_endOf _ (List.mem_of_getElem? (l := owX5_endOf) (i := 1) rfl)) rfl 53 (fun _ => rfl) dX5_now_60 63 rfl ?_
        refine q_sipush (v := 325) hC dX5_now_63 (by decide) 66 rfl ?_
        refine q_ialdL hC (arF53 hF) 325 (by decide +kernel) (by decide +kernel) dX5_now_66 67 rfl ?_
        refine r_callI hC (go_V (q := (RX5, TX5, 26)) (As := [.int (M 53 325)]) (rest := []) hC (ctX5_turnsAt (zl z) g M (M 53 325) _ hF hw) 1 gX5_now_X5_turnsAt rfl ⟨rfl, rfl⟩ hdV_X5_turnsAt ⟨Nat.le_of_ble_eq_true rfl, Nat.le_of_ble_eq_true rfl⟩ (obF52 hF) rfl rfl rfl (Nat.le_of_ble_eq_true rfl) dX5_now_67) 70 rfl (fun r1 M2 hw => ?_)
        exact r_iret hR dX5_now_70 hw
      · have hw := hw.2 c2
        by_cases c3 : v1 = 3
        · have hw := hw.1 c3
          refine q_tabIn hC 71 dX5_now_1 (by rw [c3]; decide) (by rw [c3]; decide) (by rw [c3]; rfl) (by decide) ?_
          refine q_aload_n hC dX5_now_71 0 rfl 72 rfl ?_
          refine q_getR (C := RX5) (T := TX5) (N := 26) (ci := 5) hC inX5_now_X5 (obF52 hF) rfl 0 (by decide) (uX5_now__X5_endOf _ (List.mem_of_getElem? (l := owX5_endOf) (i := 1) rfl)) rfl 53 (fun _ => rfl) dX5_now_72 75 rfl ?_
          refine q_sipush (v := 340) hC dX5_now_75 (by decide) 78 rfl ?_
          refine q_ialdL hC (arF53 hF) 340 (by decide +kernel) (by decide +kernel) dX5_now_78 79 rfl ?_
          exact r_iret hR dX5_now_79 hw
        · have hw := hw.2 c3
          by_cases c4 : v1 = 4
          · have hw := hw.1 c4
            refine q_tabIn hC 80 dX5_now_1 (by rw [c4]; decide) (by rw [c4]; decide) (by rw [c4]; rfl) (by decide) ?_
            refine q_aload_n hC dX5_now_80 0 rfl 81 rfl ?_
            refine q_getR (C := RX5) (T := TX5) (N := 26) (ci := 5) hC inX5_now_X5 (obF52 hF) rfl 0 (by decide) (uX5_now__X5_endOf _ (List.mem_of_getElem? (l := owX5_endOf) (i := 1) rfl)) rfl 53 (fun _ => rfl) dX5_now_81 84 rfl ?_
            refine q_sipush (v := 327) hC dX5_now_84 (by decide) 87 rfl ?_
            refine q_ialdL hC (arF53 hF) 327 (by decide +kernel) (by decide +kernel) dX5_now_87 88 rfl ?_
            exact r_iret hR dX5_now_88 hw
          · have hw := hw.2 c4
            by_cases c5 : v1 = 5
            · have hw := hw.1 c5
              refine q_tabIn hC 89 dX5_now_1 (by rw [c5]; decide) (by rw [c5]; decide) (by rw [c5]; rfl) (by decide) ?_
              refine q_aload_n hC dX5_now_89 0 rfl 90 rfl ?_
              refine q_getR (C := RX5) (T := TX5) (N := 26) (ci := 5) hC inX5_now_X5 (obF52 hF) rfl 0 (by decide) (uX5_now__X5_endOf _ (List.mem_of_getElem? (l := owX5_endOf) (i := 1) rfl)) rfl 53 (fun _ => rfl) dX5_now_90 93 rfl ?_
              refine q_sipush (v := 366) hC dX5_now_93 (by decide) 96 rfl ?_
              refine q_ialdL hC (arF53 hF) 366 (by decide +kernel) (by decide +kernel) dX5_now_96 97 rfl ?_
              refine q_aload_n hC dX5_now_97 0 rfl 98 rfl ?_
              refine r_callI hC (go_V (q := (RX5, TX5, 26)) (As := []) (rest := [.int (M 53 366)]) hC (ctX5_endOfAll (zl z) g M _ hF hw) 0 gX5_now_X5_endOfAll rfl ⟨rfl, rfl⟩ hdV_X5_endOfAll ⟨Nat.le_of_ble_eq_true rfl, Nat.le_of_ble_eq_true rfl⟩ (obF52 hF) rfl rfl rfl (Nat.le_of_ble_eq_true rfl) dX5_now_98) 101 rfl (fun r3 M4 hw => ?_)
              refine q_isub hC dX5_now_101 102 rfl ?_
              exact r_iret hR dX5_now_102 hw
            · have hw := hw.2 c5
              refine q_tabOut hC 103 dX5_now_1 (tab_out5 c0 c1 c2 c3 c4 c5) (by decide) ?_
              refine q_iconst (v := (-1)) hC dX5_now_103 rfl 104 rfl ?_
              exact r_iret hR dX5_now_104 hw
theorem inX5_within_X5 : ∀ w ∈ u_ws RX5 TX5 26, w ∈ wsX5_within := uX5_within__wsX50
set_option maxRecDepth 100000 in
set_option maxHeartbeats 4000000 in
theorem ctX5_within (l : Launch) (g : GG) (M : MM) (v1 : Int32) (v2 : Int32) (Q : Int32 → MM → Prop) (hF : ful5 g) (hw : wX5_within Q M v1 v2) : MI g l yX5_within wsX5_within (rmOf 4 90) [.ref (gA g 52), .int v1, .int v2] M Q := by
  refine mk_MI (cc := cX5_within) (maxL := 5) (by decide) rfl (Nat.le_of_ble_eq_true rfl) ?_
  intro z Qf hC hR
  show XX z g Qf 5 0 [(0, .ref (gA g 52)), (1, .int v1), (2, .int v2)] [] M
  have B124 : ∀ (K83 : MM → Int32 → Int32 → Prop) (hK83 : ∀ (M : MM) (v3 : Int32) (v4 : Int32) , K83 M v3 v4 → XX z g Qf 5 83 [(0, .ref (gA g 52)), (1, .int v1), (2, .int v2), (3, .int v3), (4, .int v4)] [] M) (M : MM) (v4 : Int32) (p0 : Int32), wX5_within_124 Q K83 v1 v2 M v4 p0 → XX z g Qf 5 124 [(0, .ref (gA g 52)), (1, .int v1), (2, .int v2), (4, .int v4)] [.int p0] M := by
    intro K83 hK83 M v4 p0 hw
    refine q_istore_n (L' := [(3, .int p0), (0, .ref (gA g 52)), (1, .int v1), (2, .int v2), (4, .int v4)]) hC dX5_within_124 (by decide) rfl 125 rfl ?_
    refine q_iinc (v := v4 + 1) (L' := [(4, .int (v4 + 1)), (3, .int p0), (0, .ref (gA g 52)), (1, .int v1), (2, .int v2)]) hC dX5_within_125 4 rfl rfl (by decide) rfl 128 rfl ?_
    refine q_goto hC 83 dX5_within_128 (by decide) ?_
    exact XX.sub [2, 3, 4, 1, 0] rfl (hK83 M p0 (v4 + 1) hw)
  have B83 : ∀ (n : Nat) (M : MM) (v3 : Int32) (v4 : Int32) , wX5_within_83 Q v1 v2 n M v3 v4 → XX z g Qf 5 83 [(0, .ref (gA g 52)), (1, .int v1), (2, .int v2), (3, .int v3), (4, .int v4)] [] M := by
    intro n
    induction n with
    | zero =>
      intro M v3 v4 hw
      exact hw.elim
    | succ n ih =>
      intro M v3 v4 hw
      refine q_iload hC dX5_within_83 4 rfl 85 rfl ?_
      refine q_aload_n hC dX5_within_85 0 rfl 86 rfl ?_
      refine q_getR (C := RX5) (T := TX5) (N := 26) (ci := 5) hC inX5_within_X5 (obF52 hF) rfl 0 (by decide) (uX5_within__X5_woundTo _ (List.mem_of_getElem? (l := owX5_woundTo) (i := 1) rfl)) rfl 53 (fun _ => rfl) dX5_within_86 89 rfl ?_
      refine q_sipush (v := 366) hC dX5_within_89 (by decide) 92 rfl ?_
      refine q_ialdL hC (arF53 hF) 366 (by decide +kernel) (by decide +kernel) dX5_within_92 93 rfl ?_
      refine q_icmp_gt hC 131 dX5_within_93 (by decide) 96 rfl hw (fun hw => ?_) (fun hw => ?_)
      · refine q_iload_n hC dX5_within_131 3 rfl 132 rfl ?_
        exact r_iret hR dX5_within_132 hw
      · refine q_iload_n hC dX5_within_96 2 rfl 97 rfl ?_
        refine q_if_ne hC 131 dX5_within_97 (by decide) 100 rfl hw (fun hw => ?_) (fun hw => ?_)
        · refine q_iload_n hC dX5_within_131 3 rfl 132 rfl ?_
          exact r_iret hR dX5_within_132 hw
        · refine q_aload_n hC dX5_within_100 0 rfl 101 rfl ?_
          refine q_aload_n hC dX5_within_101 0 rfl 102 rfl ?_
          refine q_getR (C := RX5) (T := TX5) (N := 26) (ci := 5) hC inX5_within_X5 (obF52 hF) rfl 0 (by decide) (uX5_within__X5_woundTo _ (List.mem_of_getElem? (l := owX5_woundTo) (i := 1) rfl)) rfl 53 (fun _ => rfl) dX5_within_102 105 rfl ?_
          refine q_sipush (v := 325) hC dX5_within_105 (by decide) 108 rfl ?_
          refine q_ialdL hC (arF53 hF) 325 (by decide +kernel) (by decide +kernel) dX5_within_108 109 rfl ?_
          refine q_iload hC dX5_within_109 4 rfl 111 rfl ?_
          refine r_callI hC (go_V (q := (RX5, TX5, 26)) (As := [.int (M 53 325), .int v4]) (rest := []) hC (ctX5_sooner (zl z) g M (M 53 325) v4 _ hF hw) 2 gX5_within_X5_sooner rfl ⟨rfl, rfl⟩ hdV_X5_sooner ⟨Nat.le_of_ble_eq_true rfl, Nat.le_of_ble_eq_true rfl⟩ (obF52 hF) rfl rfl rfl (Nat.le_of_ble_eq_true rfl) dX5_within_111) 114 rfl (fun r5 M6 hw => ?_)
          refine q_iload_n hC dX5_within_114 1 rfl 115 rfl ?_
          refine q_icmp_gt hC 123 dX5_within_115 (by decide) 118 rfl hw (fun hw => ?_) (fun hw => ?_)
          · refine q_iload_n hC dX5_within_123 3 rfl 124 rfl ?_
            exact XX.sub [0, 1, 2, 4] rfl (B124 _ (fun M v3 v4 hw => ih M v3 v4 hw) M6 v4 v3 hw)
          · refine q_iload hC dX5_within_118 4 rfl 120 rfl ?_
            refine q_goto hC 124 dX5_within_120 (by decide) ?_
            exact XX.sub [0, 1, 2, 4] rfl (B124 _ (fun M v3 v4 hw => ih M v3 v4 hw) M6 v4 v4 hw)
  have B73 : ∀ (M : MM) (v3 : Int32), wX5_within_73 Q v1 v2 M v3 → XX z g Qf 5 73 [(0, .ref (gA g 52)), (1, .int v1), (2, .int v2), (3, .int v3)] [] M := by
    intro M v3 hw
    refine q_aload_n hC dX5_within_73 0 rfl 74 rfl ?_
    refine q_getR (C := RX5) (T := TX5) (N := 26) (ci := 5) hC inX5_within_X5 (obF52 hF) rfl 0 (by decide) (uX5_within__X5_woundTo _ (List.mem_of_getElem? (l := owX5_woundTo) (i := 1) rfl)) rfl 53 (fun _ => rfl) dX5_within_74 77 rfl ?_
    refine q_sipush (v := 325) hC dX5_within_77 (by decide) 80 rfl ?_
    refine q_ialdL hC (arF53 hF) 325 (by decide +kernel) (by decide +kernel) dX5_within_80 81 rfl ?_
    refine q_istore (L' := [(4, .int (M 53 325)), (0, .ref (gA g 52)), (1, .int v1), (2, .int v2), (3, .int v3)]) hC dX5_within_81 (by decide) rfl 83 rfl ?_
    obtain ⟨n0, hw⟩ := hw
    exact XX.sub [1, 2, 3, 4, 0] rfl (B83 n0 M v3 (M 53 325) hw)
  have B66 : ∀ (K33 : MM → Int32 → Int32 → Prop) (hK33 : ∀ (M : MM) (v3 : Int32) (v4 : Int32) , K33 M v3 v4 → XX z g Qf 5 33 [(0, .ref (gA g 52)), (1, .int v1), (2, .int v2), (3, .int v3), (4, .int v4)] [] M) (M : MM) (v4 : Int32) (p0 : Int32), wX5_within_66 Q K33 v1 v2 M v4 p0 → XX z g Qf 5 66 [(0, .ref (gA g 52)), (1, .int v1), (2, .int v2), (4, .int v4)] [.int p0] M := by
    intro K33 hK33 M v4 p0 hw
    refine q_istore_n (L' := [(3, .int p0), (0, .ref (gA g 52)), (1, .int v1), (2, .int v2), (4, .int v4)]) hC dX5_within_66 (by decide) rfl 67 rfl ?_
    refine q_iinc (v := v4 + (-1)) (L' := [(4, .int (v4 + (-1))), (3, .int p0), (0, .ref (gA g 52)), (1, .int v1), (2, .int v2)]) hC dX5_within_67 4 rfl rfl (by decide) rfl 70 rfl ?_
    refine q_goto hC 33 dX5_within_70 (by decide) ?_
    exact XX.sub [2, 3, 4, 1, 0] rfl (hK33 M p0 (v4 + (-1)) hw)
  have B33 : ∀ (n : Nat) (M : MM) (v3 : Int32) (v4 : Int32) , wX5_within_33 Q v1 v2 n M v3 v4 → XX z g Qf 5 33 [(0, .ref (gA g 52)), (1, .int v1), (2, .int v2), (3, .int v3), (4, .int v4)] [] M := by
    intro n
    induction n with
    | zero =>
      intro M v3 v4 hw
      exact hw.elim
    | succ n ih =>
      intro M v3 v4 hw
      refine q_iload hC dX5_within_33 4 rfl 35 rfl ?_
      refine q_if_lt hC 73 dX5_within_35 (by decide) 38 rfl hw (fun hw => ?_) (fun hw => ?_)
      · exact XX.sub [0, 1, 2, 3] rfl (B73 M v3 hw)
      · refine q_iload_n hC dX5_within_38 2 rfl 39 rfl ?_
        refine q_if_eq hC 73 dX5_within_39 (by decide) 42 rfl hw (fun hw => ?_) (fun hw => ?_)
        · exact XX.sub [0, 1, 2, 3] rfl (B73 M v3 hw)
        · refine q_aload_n hC dX5_within_42 0 rfl 43 rfl ?_
          refine q_aload_n hC dX5_within_43 0 rfl 44 rfl ?_
          refine q_getR (C := RX5) (T := TX5) (N := 26) (ci := 5) hC inX5_within_X5 (obF52 hF) rfl 0 (by decide) (uX5_within__X5_woundTo _ (List.mem_of_getElem? (l := owX5_woundTo) (i := 1) rfl)) rfl 53 (fun _ => rfl) dX5_within_44 47 rfl ?_
          refine q_sipush (v := 325) hC dX5_within_47 (by decide) 50 rfl ?_
          refine q_ialdL hC (arF53 hF) 325 (by decide +kernel) (by decide +kernel) dX5_within_50 51 rfl ?_
          refine q_iload hC dX5_within_51 4 rfl 53 rfl ?_
          refine r_callI hC (go_V (q := (RX5, TX5, 26)) (As := [.int (M 53 325), .int v4]) (rest := []) hC (ctX5_sooner (zl z) g M (M 53 325) v4 _ hF hw) 2 gX5_within_X5_sooner rfl ⟨rfl, rfl⟩ hdV_X5_sooner ⟨Nat.le_of_ble_eq_true rfl, Nat.le_of_ble_eq_true rfl⟩ (obF52 hF) rfl rfl rfl (Nat.le_of_ble_eq_true rfl) dX5_within_53) 56 rfl (fun r3 M4 hw => ?_)
          refine q_iload_n hC dX5_within_56 1 rfl 57 rfl ?_
          refine q_icmp_gt hC 65 dX5_within_57 (by decide) 60 rfl hw (fun hw => ?_) (fun hw => ?_)
          · refine q_iload_n hC dX5_within_65 3 rfl 66 rfl ?_
            exact XX.sub [0, 1, 2, 4] rfl (B66 _ (fun M v3 v4 hw => ih M v3 v4 hw) M4 v4 v3 hw)
          · refine q_iload hC dX5_within_60 4 rfl 62 rfl ?_
            refine q_goto hC 66 dX5_within_62 (by decide) ?_
            exact XX.sub [0, 1, 2, 4] rfl (B66 _ (fun M v3 v4 hw => ih M v3 v4 hw) M4 v4 v4 hw)
  refine q_iload_n hC dX5_within_0 1 rfl 1 rfl ?_
  refine q_i2l hC dX5_within_1 2 rfl ?_
  refine q_lconst (v := 0) hC dX5_within_2 rfl 3 rfl ?_
  refine q_ldc2 (v := 999999) hC (uX5_within__o _ (List.mem_of_getElem? (l := owX5_within) (i := 1) rfl)) dX5_within_3 6 rfl ?_
  refine r_callI hC (go_T (As := [.long (v1.toInt64), .long 0, .long 999999]) (rest := []) hC (ctX5_in (zl z) g M (v1.toInt64) 0 999999 _ hw) 3 gX5_within_X5_in rfl ⟨rfl, rfl⟩ hdT_X5_in ⟨Nat.le_of_ble_eq_true rfl, Nat.le_of_ble_eq_true rfl⟩ rfl rfl (Nat.le_of_ble_eq_true rfl) dX5_within_6) 9 rfl (fun r1 M2 hw => ?_)
  refine q_if_ne hC 14 dX5_within_9 (by decide) 12 rfl hw (fun hw => ?_) (fun hw => ?_)
  · refine q_aload_n hC dX5_within_14 0 rfl 15 rfl ?_
    refine q_getR (C := RX5) (T := TX5) (N := 26) (ci := 5) hC inX5_within_X5 (obF52 hF) rfl 0 (by decide) (uX5_within__X5_woundTo _ (List.mem_of_getElem? (l := owX5_woundTo) (i := 1) rfl)) rfl 53 (fun _ => rfl) dX5_within_15 18 rfl ?_
    refine q_sipush (v := 325) hC dX5_within_18 (by decide) 21 rfl ?_
    refine q_ialdL hC (arF53 hF) 325 (by decide +kernel) (by decide +kernel) dX5_within_21 22 rfl ?_
    refine q_istore_n (L' := [(3, .int (M2 53 325)), (0, .ref (gA g 52)), (1, .int v1), (2, .int v2)]) hC dX5_within_22 (by decide) rfl 23 rfl ?_
    refine q_aload_n hC dX5_within_23 1 rfl 24 rfl ?_
    refine q_getR (C := RX5) (T := TX5) (N := 26) (ci := 5) hC inX5_within_X5 (obF52 hF) rfl 0 (by decide) (uX5_within__X5_woundTo _ (List.mem_of_getElem? (l := owX5_woundTo) (i := 1) rfl)) rfl 53 (fun _ => rfl) dX5_within_24 27 rfl ?_
    refine q_sipush (v := 325) hC dX5_within_27 (by decide) 30 rfl ?_
    refine q_ialdL hC (arF53 hF) 325 (by decide +kernel) (by decide +kernel) dX5_within_30 31 rfl ?_
    refine q_istore (L' := [(4, .int (M2 53 325)), (3, .int (M2 53 325)), (0, .ref (gA g 52)), (1, .int v1), (2, .int v2)]) hC dX5_within_31 (by decide) rfl 33 rfl ?_
    obtain ⟨n0, hw⟩ := hw
    exact XX.sub [2, 3, 4, 1, 0] rfl (B33 n0 M2 (M2 53 325) (M2 53 325) hw)
  · refine q_iconst (v := (-1)) hC dX5_within_12 rfl 13 rfl ?_
    exact r_iret hR dX5_within_13 hw
theorem inX5_isBlock_X5 : ∀ w ∈ u_ws RX5 TX5 26, w ∈ wsX5_isBlock := uX5_isBlock__wsX50
set_option maxRecDepth 100000 in
set_option maxHeartbeats 4000000 in
theorem ctX5_isBlock (l : Launch) (g : GG) (M : MM) (v1 : Int32) (Q : Int32 → MM → Prop) (hF : ful5 g) (hw : wX5_isBlock Q M v1) : MI g l yX5_isBlock wsX5_isBlock (rmOf 1 25) [.ref (gA g 52), .int v1] M Q := by
  refine mk_MZ (cc := cX5_isBlock) (maxL := 2) (by decide) rfl (Nat.le_of_ble_eq_true rfl) ?_
  intro z Qf hC hR
  show XX z g Qf 2 0 [(0, .ref (gA g 52)), (1, .int v1)] [] M
  refine q_iload_n hC dX5_isBlock_0 1 rfl 1 rfl ?_
  refine q_i2l hC dX5_isBlock_1 2 rfl ?_
  refine q_lconst (v := 0) hC dX5_isBlock_2 rfl 3 rfl ?_
  refine q_aload_n hC dX5_isBlock_3 0 rfl 4 rfl ?_
  refine q_getR (C := RX5) (T := TX5) (N := 26) (ci := 5) hC inX5_isBlock_X5 (obF52 hF) rfl 0 (by decide) (uX5_isBlock__o _ (List.mem_of_getElem? (l := owX5_isBlock) (i := 1) rfl)) rfl 53 (fun _ => rfl) dX5_isBlock_4 7 rfl ?_
  refine q_iconst (v := 0) hC dX5_isBlock_7 rfl 8 rfl ?_
  refine q_ialdL hC (arF53 hF) 0 (by decide +kernel) (by decide +kernel) dX5_isBlock_8 9 rfl ?_
  refine q_iconst (v := 1) hC dX5_isBlock_9 rfl 10 rfl ?_
  refine q_isub hC dX5_isBlock_10 11 rfl ?_
  refine q_i2l hC dX5_isBlock_11 12 rfl ?_
  refine r_callI hC (go_T (As := [.long (v1.toInt64), .long 0, .long (((M 53 0) - (1 : Int32)).toInt64)]) (rest := []) hC (ctX5_in (zl z) g M (v1.toInt64) 0 (((M 53 0) - (1 : Int32)).toInt64) _ hw) 3 gX5_isBlock_X5_in rfl ⟨rfl, rfl⟩ hdT_X5_in ⟨Nat.le_of_ble_eq_true rfl, Nat.le_of_ble_eq_true rfl⟩ rfl rfl (Nat.le_of_ble_eq_true rfl) dX5_isBlock_12) 15 rfl (fun r1 M2 hw => ?_)
  exact r_iret hR dX5_isBlock_15 hw
theorem inX5_columnOf_X5 : ∀ w ∈ u_ws RX5 TX5 26, w ∈ wsX5_columnOf := uX5_columnOf__wsX50
set_option maxRecDepth 100000 in
set_option maxHeartbeats 4000000 in
theorem ctX5_columnOf (l : Launch) (g : GG) (M : MM) (v1 : Int32) (v2 : Int32) (Q : Int32 → MM → Prop) (hF : ful5 g) (hw : wX5_columnOf Q M v1 v2) : MI g l yX5_columnOf wsX5_columnOf (rmOf 0 0) [.ref (gA g 52), .int v1, .int v2] M Q := by
  refine mk_MI (cc := cX5_columnOf) (maxL := 3) (by decide) rfl (Nat.le_of_ble_eq_true rfl) ?_
  intro z Qf hC hR
  show XX z g Qf 3 0 [(0, .ref (gA g 52)), (1, .int v1), (2, .int v2)] [] M
  refine q_aload_n hC dX5_columnOf_0 0 rfl 1 rfl ?_
  refine q_getR (C := RX5) (T := TX5) (N := 26) (ci := 5) hC inX5_columnOf_X5 (obF52 hF) rfl 0 (by decide) (uX5_columnOf__o _ (List.mem_of_getElem? (l := owX5_columnOf) (i := 1) rfl)) rfl 53 (fun _ => rfl) dX5_columnOf_1 4 rfl ?_
  refine q_bipush (v := 25) hC dX5_columnOf_4 (by decide) 6 rfl ?_
  refine q_bipush (v := 13) hC dX5_columnOf_6 (by decide) 8 rfl ?_
  refine q_iload_n hC dX5_columnOf_8 1 rfl 9 rfl ?_
  refine q_imul hC dX5_columnOf_9 10 rfl ?_
  refine q_iadd hC dX5_columnOf_10 11 rfl ?_
  refine q_iload_n hC dX5_columnOf_11 2 rfl 12 rfl ?_
  refine q_iadd hC dX5_columnOf_12 13 rfl ?_
  obtain ⟨hin, hw⟩ := hw
  refine q_iald hC (arF53 hF) hin dX5_columnOf_13 14 rfl ?_
  exact r_iret hR dX5_columnOf_14 hw
theorem hdV_X5_isBlock : yX5_isBlock.cls = RX5 ∧ yX5_isBlock.cls ≠ "java/lang/invoke/MethodHandle" ∧ yX5_isBlock.cls ≠ "java/lang/invoke/VarHandle" ∧ (parseMethodDescriptor yX5_isBlock.desc).map (fun d => d.parameters.length) = some 1 := by decide +kernel
theorem hdV_X5_columnOf : yX5_columnOf.cls = RX5 ∧ yX5_columnOf.cls ≠ "java/lang/invoke/MethodHandle" ∧ yX5_columnOf.cls ≠ "java/lang/invoke/VarHandle" ∧ (parseMethodDescriptor yX5_columnOf.desc).map (fun d => d.parameters.length) = some 2 := by decide +kernel
theorem inX5_block_X5 : ∀ w ∈ u_ws RX5 TX5 26, w ∈ wsX5_block := uX5_block__wsX50
set_option maxRecDepth 100000 in
set_option maxHeartbeats 4000000 in
theorem ctX5_block (l : Launch) (g : GG) (M : MM) (v1 : Int32) (v2 : Int32) (Q : Int32 → MM → Prop) (hF : ful5 g) (hw : wX5_block Q M v1 v2) : MI g l yX5_block wsX5_block (rmOf 2 46) [.ref (gA g 52), .int v1, .int v2] M Q := by
  refine mk_MI (cc := cX5_block) (maxL := 4) (by decide) rfl (Nat.le_of_ble_eq_true rfl) ?_
  intro z Qf hC hR
  show XX z g Qf 4 0 [(0, .ref (gA g 52)), (1, .int v1), (2, .int v2)] [] M
  refine q_aload_n hC dX5_block_0 0 rfl 1 rfl ?_
  refine q_iload_n hC dX5_block_1 1 rfl 2 rfl ?_
  refine r_callI hC (go_V (q := (RX5, TX5, 26)) (As := [.int v1]) (rest := []) hC (ctX5_isBlock (zl z) g M v1 _ hF hw) 1 gX5_block_X5_isBlock rfl ⟨rfl, rfl⟩ hdV_X5_isBlock ⟨Nat.le_of_ble_eq_true rfl, Nat.le_of_ble_eq_true rfl⟩ (obF52 hF) rfl rfl rfl (Nat.le_of_ble_eq_true rfl) dX5_block_2) 5 rfl (fun r1 M2 hw => ?_)
  refine q_if_ne hC 10 dX5_block_5 (by decide) 8 rfl hw (fun hw => ?_) (fun hw => ?_)
  · refine q_aload_n hC dX5_block_10 0 rfl 11 rfl ?_
    refine q_getR (C := RX5) (T := TX5) (N := 26) (ci := 5) hC inX5_block_X5 (obF52 hF) rfl 0 (by decide) (uX5_block__X5_isBlock _ (List.mem_of_getElem? (l := owX5_isBlock) (i := 1) rfl)) rfl 53 (fun _ => rfl) dX5_block_11 14 rfl ?_
    refine q_bipush (v := 13) hC dX5_block_14 (by decide) 16 rfl ?_
    refine q_iload_n hC dX5_block_16 1 rfl 17 rfl ?_
    refine q_iadd hC dX5_block_17 18 rfl ?_
    obtain ⟨hin, hw⟩ := hw
    refine q_iald hC (arF53 hF) hin dX5_block_18 19 rfl ?_
    refine q_nameI (fun x3 ex3 => ?_)
    have hw := hw x3 ex3
    refine q_istore_n (L' := [(3, .int x3), (0, .ref (gA g 52)), (1, .int v1), (2, .int v2)]) hC dX5_block_19 (by decide) rfl 20 rfl ?_
    refine q_iload_n hC dX5_block_20 3 rfl 21 rfl ?_
    by_cases c0 : v2 = 0
    · have hw := hw.1 c0
      refine q_tabIn hC 56 dX5_block_21 (by rw [c0]; decide) (by rw [c0]; decide) (by rw [c0]; rfl) (by decide) ?_
      refine q_aload_n hC dX5_block_56 1 rfl 57 rfl ?_
      refine q_getR (C := RX5) (T := TX5) (N := 26) (ci := 5) hC inX5_block_X5 (obF52 hF) rfl 0 (by decide) (uX5_block__X5_isBlock _ (List.mem_of_getElem? (l := owX5_isBlock) (i := 1) rfl)) rfl 53 (fun _ => rfl) dX5_block_57 60 rfl ?_
      refine q_iconst (v := 1) hC dX5_block_60 rfl 61 rfl ?_
      refine q_iload_n hC dX5_block_61 2 rfl 62 rfl ?_
      refine q_iadd hC dX5_block_62 63 rfl ?_
      obtain ⟨hin, hw⟩ := hw
      refine q_iald hC (arF53 hF) hin dX5_block_63 64 rfl ?_
      exact r_iret hR dX5_block_64 hw
    · have hw := hw.2 c0
      by_cases c1 : v2 = 1
      · have hw := hw.1 c1
        refine q_tabIn hC 65 dX5_block_21 (by rw [c1]; decide) (by rw [c1]; decide) (by rw [c1]; rfl) (by decide) ?_
        refine q_aload_n hC dX5_block_65 1 rfl 66 rfl ?_
        refine q_iload_n hC dX5_block_66 0 rfl 67 rfl ?_
        refine r_callI hC (go_V (q := (RX5, TX5, 26)) (As := [.int x3]) (rest := []) hC (ctX5_longOf (zl z) g M2 x3 _ hF hw) 1 gX5_block_X5_longOf rfl ⟨rfl, rfl⟩ hdV_X5_longOf ⟨Nat.le_of_ble_eq_true rfl, Nat.le_of_ble_eq_true rfl⟩ (obF52 hF) rfl rfl rfl (Nat.le_of_ble_eq_true rfl) dX5_block_67) 70 rfl (fun r4 M5 hw => ?_)
        exact r_iret hR dX5_block_70 hw
      · have hw := hw.2 c1
        by_cases c2 : v2 = 2
        · have hw := hw.1 c2
          refine q_tabIn hC 71 dX5_block_21 (by rw [c2]; decide) (by rw [c2]; decide) (by rw [c2]; rfl) (by decide) ?_
          refine q_iload_n hC dX5_block_71 0 rfl 72 rfl ?_
          exact r_iret hR dX5_block_72 hw
        · have hw := hw.2 c2
          by_cases c3 : v2 = 3
          · have hw := hw.1 c3
            refine q_tabIn hC 73 dX5_block_21 (by rw [c3]; decide) (by rw [c3]; decide) (by rw [c3]; rfl) (by decide) ?_
            refine q_iload_n hC dX5_block_73 0 rfl 74 rfl ?_
            refine q_if_ne hC 81 dX5_block_74 (by decide) 77 rfl hw (fun hw => ?_) (fun hw => ?_)
            · refine q_aload_n hC dX5_block_81 1 rfl 82 rfl ?_
              refine q_iload_n hC dX5_block_82 2 rfl 83 rfl ?_
              refine q_iload_n hC dX5_block_83 0 rfl 84 rfl ?_
              refine r_callI hC (go_V (q := (RX5, TX5, 26)) (As := [.int v1, .int x3]) (rest := []) hC (ctX5_columnOf (zl z) g M2 v1 x3 _ hF hw) 2 gX5_block_X5_columnOf rfl ⟨rfl, rfl⟩ hdV_X5_columnOf ⟨Nat.le_of_ble_eq_true rfl, Nat.le_of_ble_eq_true rfl⟩ (obF52 hF) rfl rfl rfl (Nat.le_of_ble_eq_true rfl) dX5_block_84) 87 rfl (fun r6 M7 hw => ?_)
              exact r_iret hR dX5_block_87 hw
            · refine q_iconst (v := 0) hC dX5_block_77 rfl 78 rfl ?_
              refine q_goto hC 87 dX5_block_78 (by decide) ?_
              exact r_iret hR dX5_block_87 hw
          · have hw := hw.2 c3
            by_cases c4 : v2 = 4
            · have hw := hw.1 c4
              refine q_tabIn hC 88 dX5_block_21 (by rw [c4]; decide) (by rw [c4]; decide) (by rw [c4]; rfl) (by decide) ?_
              refine q_aload_n hC dX5_block_88 1 rfl 89 rfl ?_
              refine q_iload_n hC dX5_block_89 2 rfl 90 rfl ?_
              refine r_callI hC (go_V (q := (RX5, TX5, 26)) (As := [.int v1]) (rest := []) hC (ctX5_endOf (zl z) g M2 v1 _ hF hw) 1 gX5_block_X5_endOf rfl ⟨rfl, rfl⟩ hdV_X5_endOf ⟨Nat.le_of_ble_eq_true rfl, Nat.le_of_ble_eq_true rfl⟩ (obF52 hF) rfl rfl rfl (Nat.le_of_ble_eq_true rfl) dX5_block_90) 93 rfl (fun r8 M9 hw => ?_)
              exact r_iret hR dX5_block_93 hw
            · have hw := hw.2 c4
              refine q_tabOut hC 94 dX5_block_21 (tab_out4 c0 c1 c2 c3 c4) (by decide) ?_
              refine q_iconst (v := (-1)) hC dX5_block_94 rfl 95 rfl ?_
              exact r_iret hR dX5_block_95 hw
  · refine q_iconst (v := (-1)) hC dX5_block_8 rfl 9 rfl ?_
    exact r_iret hR dX5_block_9 hw
theorem inX5_blockAt_X5 : ∀ w ∈ u_ws RX5 TX5 26, w ∈ wsX5_blockAt := uX5_blockAt__wsX50
set_option maxRecDepth 100000 in
set_option maxHeartbeats 4000000 in
theorem ctX5_blockAt (l : Launch) (g : GG) (M : MM) (v1 : Int32) (Q : Int32 → MM → Prop) (hF : ful5 g) (hw : wX5_blockAt Q M v1) : MI g l yX5_blockAt wsX5_blockAt (rmOf 2 46) [.ref (gA g 52), .int v1] M Q := by
  refine mk_MI (cc := cX5_blockAt) (maxL := 4) (by decide) rfl (Nat.le_of_ble_eq_true rfl) ?_
  intro z Qf hC hR
  show XX z g Qf 4 0 [(0, .ref (gA g 52)), (1, .int v1)] [] M
  have B55 : ∀ (K15 : MM → Int32 → Int32 → Prop) (hK15 : ∀ (M : MM) (v2 : Int32) (v3 : Int32) , K15 M v2 v3 → XX z g Qf 4 15 [(0, .ref (gA g 52)), (1, .int v1), (2, .int v2), (3, .int v3)] [] M) (M : MM) (v3 : Int32) (p0 : Int32), wX5_blockAt_55 Q K15 v1 M v3 p0 → XX z g Qf 4 55 [(0, .ref (gA g 52)), (1, .int v1), (3, .int v3)] [.int p0] M := by
    intro K15 hK15 M v3 p0 hw
    refine q_istore_n (L' := [(2, .int p0), (0, .ref (gA g 52)), (1, .int v1), (3, .int v3)]) hC dX5_blockAt_55 (by decide) rfl 56 rfl ?_
    refine q_iinc (v := v3 + 1) (L' := [(3, .int (v3 + 1)), (2, .int p0), (0, .ref (gA g 52)), (1, .int v1)]) hC dX5_blockAt_56 3 rfl rfl (by decide) rfl 59 rfl ?_
    refine q_goto hC 15 dX5_blockAt_59 (by decide) ?_
    exact XX.sub [2, 3, 1, 0] rfl (hK15 M p0 (v3 + 1) hw)
  have B15 : ∀ (n : Nat) (M : MM) (v2 : Int32) (v3 : Int32) , wX5_blockAt_15 Q v1 n M v2 v3 → XX z g Qf 4 15 [(0, .ref (gA g 52)), (1, .int v1), (2, .int v2), (3, .int v3)] [] M := by
    intro n
    induction n with
    | zero =>
      intro M v2 v3 hw
      exact hw.elim
    | succ n ih =>
      intro M v2 v3 hw
      refine q_iload_n hC dX5_blockAt_15 3 rfl 16 rfl ?_
      refine q_aload_n hC dX5_blockAt_16 0 rfl 17 rfl ?_
      refine q_getR (C := RX5) (T := TX5) (N := 26) (ci := 5) hC inX5_blockAt_X5 (obF52 hF) rfl 0 (by decide) (uX5_blockAt__X5_isPlace _ (List.mem_of_getElem? (l := owX5_isPlace) (i := 1) rfl)) rfl 53 (fun _ => rfl) dX5_blockAt_17 20 rfl ?_
      refine q_iconst (v := 0) hC dX5_blockAt_20 rfl 21 rfl ?_
      refine q_ialdL hC (arF53 hF) 0 (by decide +kernel) (by decide +kernel) dX5_blockAt_21 22 rfl ?_
      refine q_icmp_ge hC 62 dX5_blockAt_22 (by decide) 25 rfl hw (fun hw => ?_) (fun hw => ?_)
      · refine q_iload_n hC dX5_blockAt_62 2 rfl 63 rfl ?_
        exact r_iret hR dX5_blockAt_63 hw
      · refine q_iload_n hC dX5_blockAt_25 1 rfl 26 rfl ?_
        refine q_i2l hC dX5_blockAt_26 27 rfl ?_
        refine q_aload_n hC dX5_blockAt_27 0 rfl 28 rfl ?_
        refine q_getR (C := RX5) (T := TX5) (N := 26) (ci := 5) hC inX5_blockAt_X5 (obF52 hF) rfl 0 (by decide) (uX5_blockAt__X5_isPlace _ (List.mem_of_getElem? (l := owX5_isPlace) (i := 1) rfl)) rfl 53 (fun _ => rfl) dX5_blockAt_28 31 rfl ?_
        refine q_iconst (v := 1) hC dX5_blockAt_31 rfl 32 rfl ?_
        refine q_iload_n hC dX5_blockAt_32 3 rfl 33 rfl ?_
        refine q_iadd hC dX5_blockAt_33 34 rfl ?_
        obtain ⟨hin, hw⟩ := hw
        refine q_iald hC (arF53 hF) hin dX5_blockAt_34 35 rfl ?_
        refine q_i2l hC dX5_blockAt_35 36 rfl ?_
        refine q_aload_n hC dX5_blockAt_36 0 rfl 37 rfl ?_
        refine q_iload_n hC dX5_blockAt_37 3 rfl 38 rfl ?_
        refine r_callI hC (go_V (q := (RX5, TX5, 26)) (As := [.int v3]) (rest := [.long ((M 53 ((1 : Int32) + v3).toNatClampNeg).toInt64), .long (v1.toInt64)]) hC (ctX5_endOf (zl z) g M v3 _ hF hw) 1 gX5_blockAt_X5_endOf rfl ⟨rfl, rfl⟩ hdV_X5_endOf ⟨Nat.le_of_ble_eq_true rfl, Nat.le_of_ble_eq_true rfl⟩ (obF52 hF) rfl rfl rfl (Nat.le_of_ble_eq_true rfl) dX5_blockAt_38) 41 rfl (fun r3 M4 hw => ?_)
        refine q_iconst (v := 1) hC dX5_blockAt_41 rfl 42 rfl ?_
        refine q_isub hC dX5_blockAt_42 43 rfl ?_
        refine q_i2l hC dX5_blockAt_43 44 rfl ?_
        refine r_callI hC (go_T (As := [.long (v1.toInt64), .long ((M 53 ((1 : Int32) + v3).toNatClampNeg).toInt64), .long ((r3 - (1 : Int32)).toInt64)]) (rest := []) hC (ctX5_in (zl z) g M4 (v1.toInt64) ((M 53 ((1 : Int32) + v3).toNatClampNeg).toInt64) ((r3 - (1 : Int32)).toInt64) _ hw) 3 gX5_blockAt_X5_in rfl ⟨rfl, rfl⟩ hdT_X5_in ⟨Nat.le_of_ble_eq_true rfl, Nat.le_of_ble_eq_true rfl⟩ rfl rfl (Nat.le_of_ble_eq_true rfl) dX5_blockAt_44) 47 rfl (fun r5 M6 hw => ?_)
        refine q_if_eq hC 54 dX5_blockAt_47 (by decide) 50 rfl hw (fun hw => ?_) (fun hw => ?_)
        · refine q_iload_n hC dX5_blockAt_54 2 rfl 55 rfl ?_
          exact XX.sub [0, 1, 3] rfl (B55 _ (fun M v2 v3 hw => ih M v2 v3 hw) M6 v3 v2 hw)
        · refine q_iload_n hC dX5_blockAt_50 3 rfl 51 rfl ?_
          refine q_goto hC 55 dX5_blockAt_51 (by decide) ?_
          exact XX.sub [0, 1, 3] rfl (B55 _ (fun M v2 v3 hw => ih M v2 v3 hw) M6 v3 v3 hw)
  refine q_aload_n hC dX5_blockAt_0 0 rfl 1 rfl ?_
  refine q_iload_n hC dX5_blockAt_1 1 rfl 2 rfl ?_
  refine r_callI hC (go_V (q := (RX5, TX5, 26)) (As := [.int v1]) (rest := []) hC (ctX5_isPlace (zl z) g M v1 _ hF hw) 1 gX5_blockAt_X5_isPlace rfl ⟨rfl, rfl⟩ hdV_X5_isPlace ⟨Nat.le_of_ble_eq_true rfl, Nat.le_of_ble_eq_true rfl⟩ (obF52 hF) rfl rfl rfl (Nat.le_of_ble_eq_true rfl) dX5_blockAt_2) 5 rfl (fun r1 M2 hw => ?_)
  refine q_if_ne hC 10 dX5_blockAt_5 (by decide) 8 rfl hw (fun hw => ?_) (fun hw => ?_)
  · refine q_bipush (v := (-4)) hC dX5_blockAt_10 (by decide) 12 rfl ?_
    refine q_istore_n (L' := [(2, .int (-4)), (0, .ref (gA g 52)), (1, .int v1)]) hC dX5_blockAt_12 (by decide) rfl 13 rfl ?_
    refine q_iconst (v := 0) hC dX5_blockAt_13 rfl 14 rfl ?_
    refine q_istore_n (L' := [(3, .int 0), (2, .int (-4)), (0, .ref (gA g 52)), (1, .int v1)]) hC dX5_blockAt_14 (by decide) rfl 15 rfl ?_
    obtain ⟨n0, hw⟩ := hw
    exact XX.sub [2, 3, 1, 0] rfl (B15 n0 M2 (-4) 0 hw)
  · refine q_iconst (v := (-1)) hC dX5_blockAt_8 rfl 9 rfl ?_
    exact r_iret hR dX5_blockAt_9 hw
theorem inX5_type_X5 : ∀ w ∈ u_ws RX5 TX5 26, w ∈ wsX5_type := uX5_type__wsX50
set_option maxRecDepth 100000 in
set_option maxHeartbeats 4000000 in
theorem ctX5_type (l : Launch) (g : GG) (M : MM) (v1 : Int32) (Q : Int32 → MM → Prop) (hF : ful5 g) (hw : wX5_type Q M v1) : MI g l yX5_type wsX5_type (rmOf 1 25) [.ref (gA g 52), .int v1] M Q := by
  refine mk_MI (cc := cX5_type) (maxL := 2) (by decide) rfl (Nat.le_of_ble_eq_true rfl) ?_
  intro z Qf hC hR
  show XX z g Qf 2 0 [(0, .ref (gA g 52)), (1, .int v1)] [] M
  refine q_iload_n hC dX5_type_0 1 rfl 1 rfl ?_
  refine q_i2l hC dX5_type_1 2 rfl ?_
  refine q_lconst (v := 0) hC dX5_type_2 rfl 3 rfl ?_
  refine q_ldc2 (v := 255) hC (uX5_type__o _ (List.mem_of_getElem? (l := owX5_type) (i := 1) rfl)) dX5_type_3 6 rfl ?_
  refine r_callI hC (go_T (As := [.long (v1.toInt64), .long 0, .long 255]) (rest := []) hC (ctX5_in (zl z) g M (v1.toInt64) 0 255 _ hw) 3 gX5_type_X5_in rfl ⟨rfl, rfl⟩ hdT_X5_in ⟨Nat.le_of_ble_eq_true rfl, Nat.le_of_ble_eq_true rfl⟩ rfl rfl (Nat.le_of_ble_eq_true rfl) dX5_type_6) 9 rfl (fun r1 M2 hw => ?_)
  refine q_if_ne hC 14 dX5_type_9 (by decide) 12 rfl hw (fun hw => ?_) (fun hw => ?_)
  · refine q_aload_n hC dX5_type_14 0 rfl 15 rfl ?_
    refine q_getR (C := RX5) (T := TX5) (N := 26) (ci := 5) hC inX5_type_X5 (obF52 hF) rfl 0 (by decide) (uX5_type__o _ (List.mem_of_getElem? (l := owX5_type) (i := 2) rfl)) rfl 53 (fun _ => rfl) dX5_type_15 18 rfl ?_
    refine q_sipush (v := 327) hC dX5_type_18 (by decide) 21 rfl ?_
    refine q_ialdL hC (arF53 hF) 327 (by decide +kernel) (by decide +kernel) dX5_type_21 22 rfl ?_
    refine q_bipush (v := 12) hC dX5_type_22 (by decide) 24 rfl ?_
    refine q_icmp_ne hC 30 dX5_type_24 (by decide) 27 rfl hw (fun hw => ?_) (fun hw => ?_)
    · refine q_aload_n hC dX5_type_30 0 rfl 31 rfl ?_
      refine q_getR (C := RX5) (T := TX5) (N := 26) (ci := 5) hC inX5_type_X5 (obF52 hF) rfl 0 (by decide) (uX5_type__o _ (List.mem_of_getElem? (l := owX5_type) (i := 2) rfl)) rfl 53 (fun _ => rfl) dX5_type_31 34 rfl ?_
      refine q_sipush (v := 328) hC dX5_type_34 (by decide) 37 rfl ?_
      refine q_aload_n hC dX5_type_37 0 rfl 38 rfl ?_
      refine q_getR (C := RX5) (T := TX5) (N := 26) (ci := 5) hC inX5_type_X5 (obF52 hF) rfl 0 (by decide) (uX5_type__o _ (List.mem_of_getElem? (l := owX5_type) (i := 2) rfl)) rfl 53 (fun _ => rfl) dX5_type_38 41 rfl ?_
      refine q_sipush (v := 327) hC dX5_type_41 (by decide) 44 rfl ?_
      refine q_ialdL hC (arF53 hF) 327 (by decide +kernel) (by decide +kernel) dX5_type_44 45 rfl ?_
      refine q_iadd hC dX5_type_45 46 rfl ?_
      refine q_iload_n hC dX5_type_46 1 rfl 47 rfl ?_
      obtain ⟨hin, hw⟩ := hw
      refine q_iast hC (arF53 hF) hin dX5_type_47 48 rfl (fun M3 eM3 => ?_)
      have hw := hw M3 eM3
      refine q_aload_n hC dX5_type_48 0 rfl 49 rfl ?_
      refine q_getR (C := RX5) (T := TX5) (N := 26) (ci := 5) hC inX5_type_X5 (obF52 hF) rfl 0 (by decide) (uX5_type__o _ (List.mem_of_getElem? (l := owX5_type) (i := 2) rfl)) rfl 53 (fun _ => rfl) dX5_type_49 52 rfl ?_
      refine q_sipush (v := 327) hC dX5_type_52 (by decide) 55 rfl ?_
      refine q_dup2 hC dX5_type_55 rfl rfl 56 rfl ?_
      refine q_ialdL hC (arF53 hF) 327 (by decide +kernel) (by decide +kernel) dX5_type_56 57 rfl ?_
      refine q_iconst (v := 1) hC dX5_type_57 rfl 58 rfl ?_
      refine q_iadd hC dX5_type_58 59 rfl ?_
      refine q_iastL hC (arF53 hF) 327 (by decide +kernel) (by decide +kernel) dX5_type_59 60 rfl (fun M4 eM4 => ?_)
      have hw := hw M4 eM4
      refine q_aload_n hC dX5_type_60 0 rfl 61 rfl ?_
      refine q_getR (C := RX5) (T := TX5) (N := 26) (ci := 5) hC inX5_type_X5 (obF52 hF) rfl 0 (by decide) (uX5_type__o _ (List.mem_of_getElem? (l := owX5_type) (i := 2) rfl)) rfl 53 (fun _ => rfl) dX5_type_61 64 rfl ?_
      refine q_sipush (v := 327) hC dX5_type_64 (by decide) 67 rfl ?_
      refine q_ialdL hC (arF53 hF) 327 (by decide +kernel) (by decide +kernel) dX5_type_67 68 rfl ?_
      exact r_iret hR dX5_type_68 hw
    · refine q_bipush (v := (-3)) hC dX5_type_27 (by decide) 29 rfl ?_
      exact r_iret hR dX5_type_29 hw
  · refine q_iconst (v := (-1)) hC dX5_type_12 rfl 13 rfl ?_
    exact r_iret hR dX5_type_13 hw
theorem inX5_writes_X5 : ∀ w ∈ u_ws RX5 TX5 26, w ∈ wsX5_writes := uX5_writes__wsX50
set_option maxRecDepth 100000 in
set_option maxHeartbeats 4000000 in
theorem ctX5_writes (l : Launch) (g : GG) (M : MM) (v1 : Int32) (v2 : Int32) (Q : Int32 → MM → Prop) (hF : ful5 g) (hw : wX5_writes Q M v1 v2) : MI g l yX5_writes wsX5_writes (rmOf 5 112) [.ref (gA g 52), .int v1, .int v2] M Q := by
  refine mk_MI (cc := cX5_writes) (maxL := 4) (by decide) rfl (Nat.le_of_ble_eq_true rfl) ?_
  intro z Qf hC hR
  show XX z g Qf 4 0 [(0, .ref (gA g 52)), (1, .int v1), (2, .int v2)] [] M
  refine q_iload_n hC dX5_writes_0 1 rfl 1 rfl ?_
  refine q_bipush (v := 12) hC dX5_writes_1 (by decide) 3 rfl ?_
  refine q_icmp_eq hC 28 dX5_writes_3 (by decide) 6 rfl hw (fun hw => ?_) (fun hw => ?_)
  · refine q_bipush (v := (-3)) hC dX5_writes_28 (by decide) 30 rfl ?_
    exact r_iret hR dX5_writes_30 hw
  · refine q_aload_n hC dX5_writes_6 0 rfl 7 rfl ?_
    refine q_iload_n hC dX5_writes_7 1 rfl 8 rfl ?_
    refine r_callI hC (go_V (q := (RX5, TX5, 26)) (As := [.int v1]) (rest := []) hC (ctX5_beginOf (zl z) g M v1 _ hF hw) 1 gX5_writes_X5_beginOf rfl ⟨rfl, rfl⟩ hdV_X5_beginOf ⟨Nat.le_of_ble_eq_true rfl, Nat.le_of_ble_eq_true rfl⟩ (obF52 hF) rfl rfl rfl (Nat.le_of_ble_eq_true rfl) dX5_writes_8) 11 rfl (fun r1 M2 hw => ?_)
    refine q_aload_n hC dX5_writes_11 0 rfl 12 rfl ?_
    refine q_iload_n hC dX5_writes_12 2 rfl 13 rfl ?_
    refine r_callI hC (go_V (q := (RX5, TX5, 26)) (As := [.int v2]) (rest := [.int r1]) hC (ctX5_longOf (zl z) g M2 v2 _ hF hw) 1 gX5_writes_X5_longOf rfl ⟨rfl, rfl⟩ hdV_X5_longOf ⟨Nat.le_of_ble_eq_true rfl, Nat.le_of_ble_eq_true rfl⟩ (obF52 hF) rfl rfl rfl (Nat.le_of_ble_eq_true rfl) dX5_writes_13) 16 rfl (fun r3 M4 hw => ?_)
    refine q_iadd hC dX5_writes_16 17 rfl ?_
    refine q_aload_n hC dX5_writes_17 0 rfl 18 rfl ?_
    refine q_getR (C := RX5) (T := TX5) (N := 26) (ci := 5) hC inX5_writes_X5 (obF52 hF) rfl 0 (by decide) (uX5_writes__X5_endOf _ (List.mem_of_getElem? (l := owX5_endOf) (i := 1) rfl)) rfl 53 (fun _ => rfl) dX5_writes_18 21 rfl ?_
    refine q_sipush (v := 366) hC dX5_writes_21 (by decide) 24 rfl ?_
    refine q_ialdL hC (arF53 hF) 366 (by decide +kernel) (by decide +kernel) dX5_writes_24 25 rfl ?_
    refine q_icmp_le hC 31 dX5_writes_25 (by decide) 28 rfl hw (fun hw => ?_) (fun hw => ?_)
    · refine q_aload_n hC dX5_writes_31 0 rfl 32 rfl ?_
      refine q_getR (C := RX5) (T := TX5) (N := 26) (ci := 5) hC inX5_writes_X5 (obF52 hF) rfl 0 (by decide) (uX5_writes__X5_endOf _ (List.mem_of_getElem? (l := owX5_endOf) (i := 1) rfl)) rfl 53 (fun _ => rfl) dX5_writes_32 35 rfl ?_
      refine q_iconst (v := 0) hC dX5_writes_35 rfl 36 rfl ?_
      refine q_iload_n hC dX5_writes_36 1 rfl 37 rfl ?_
      refine q_iastL hC (arF53 hF) 0 (by decide +kernel) (by decide +kernel) dX5_writes_37 38 rfl (fun M5 eM5 => ?_)
      have hw := hw M5 eM5
      refine q_aload_n hC dX5_writes_38 0 rfl 39 rfl ?_
      refine q_aload_n hC dX5_writes_39 0 rfl 40 rfl ?_
      refine q_iload_n hC dX5_writes_40 1 rfl 41 rfl ?_
      refine r_callI hC (go_V (q := (RX5, TX5, 26)) (As := [.int v1]) (rest := [.ref (gA g 52)]) hC (ctX5_beginOf (zl z) g M5 v1 _ hF hw) 1 gX5_writes_X5_beginOf rfl ⟨rfl, rfl⟩ hdV_X5_beginOf ⟨Nat.le_of_ble_eq_true rfl, Nat.le_of_ble_eq_true rfl⟩ (obF52 hF) rfl rfl rfl (Nat.le_of_ble_eq_true rfl) dX5_writes_41) 44 rfl (fun r6 M7 hw => ?_)
      refine r_callI hC (go_V (q := (RX5, TX5, 26)) (As := [.int r6]) (rest := []) hC (ctX5_goesTo (zl z) g M7 r6 _ hF hw) 1 gX5_writes_X5_goesTo rfl ⟨rfl, rfl⟩ hdV_X5_goesTo ⟨Nat.le_of_ble_eq_true rfl, Nat.le_of_ble_eq_true rfl⟩ (obF52 hF) rfl rfl rfl (Nat.le_of_ble_eq_true rfl) dX5_writes_44) 47 rfl (fun r8 M9 hw => ?_)
      refine q_aload_n hC dX5_writes_47 0 rfl 48 rfl ?_
      refine q_getR (C := RX5) (T := TX5) (N := 26) (ci := 5) hC inX5_writes_X5 (obF52 hF) rfl 2 (by decide) (uX5_writes__X5_longOf _ (List.mem_of_getElem? (l := owX5_longOf) (i := 1) rfl)) rfl 55 (fun _ => rfl) dX5_writes_48 51 rfl ?_
      refine q_iconst (v := 3) hC dX5_writes_51 rfl 52 rfl ?_
      refine q_ialdL hC (arF55 hF) 3 (by decide +kernel) (by decide +kernel) dX5_writes_52 53 rfl ?_
      refine q_aload_n hC dX5_writes_53 0 rfl 54 rfl ?_
      refine q_iload_n hC dX5_writes_54 2 rfl 55 rfl ?_
      refine r_callI hC (go_V (q := (RX5, TX5, 26)) (As := [.int v2]) (rest := [.int (M9 55 3), .int r8]) hC (ctX5_longOf (zl z) g M9 v2 _ hF hw) 1 gX5_writes_X5_longOf rfl ⟨rfl, rfl⟩ hdV_X5_longOf ⟨Nat.le_of_ble_eq_true rfl, Nat.le_of_ble_eq_true rfl⟩ (obF52 hF) rfl rfl rfl (Nat.le_of_ble_eq_true rfl) dX5_writes_55) 58 rfl (fun r10 M11 hw => ?_)
      refine q_imul hC dX5_writes_58 59 rfl ?_
      refine q_iadd hC dX5_writes_59 60 rfl ?_
      refine q_nameI (fun x12 ex12 => ?_)
      have hw := hw x12 ex12
      refine q_istore_n (L' := [(3, .int x12), (0, .ref (gA g 52)), (1, .int v1), (2, .int v2)]) hC dX5_writes_60 (by decide) rfl 61 rfl ?_
      refine q_aload_n hC dX5_writes_61 1 rfl 62 rfl ?_
      refine q_iload_n hC dX5_writes_62 3 rfl 63 rfl ?_
      refine r_callV hC (go_V (q := (RX5, TX5, 26)) (As := [.int v2]) (rest := []) hC (ctX5_lays (zl z) g M11 v2 _ hF hw) 1 gX5_writes_X5_lays rfl ⟨rfl, rfl⟩ hdV_X5_lays ⟨Nat.le_of_ble_eq_true rfl, Nat.le_of_ble_eq_true rfl⟩ (obF52 hF) rfl rfl rfl (Nat.le_of_ble_eq_true rfl) dX5_writes_63) 66 rfl (fun M13 hw => ?_)
      refine q_aload_n hC dX5_writes_66 1 rfl 67 rfl ?_
      refine q_getR (C := RX5) (T := TX5) (N := 26) (ci := 5) hC inX5_writes_X5 (obF52 hF) rfl 0 (by decide) (uX5_writes__X5_endOf _ (List.mem_of_getElem? (l := owX5_endOf) (i := 1) rfl)) rfl 53 (fun _ => rfl) dX5_writes_67 70 rfl ?_
      refine q_sipush (v := 326) hC dX5_writes_70 (by decide) 73 rfl ?_
      refine q_dup2 hC dX5_writes_73 rfl rfl 74 rfl ?_
      refine q_ialdL hC (arF53 hF) 326 (by decide +kernel) (by decide +kernel) dX5_writes_74 75 rfl ?_
      refine q_aload_n hC dX5_writes_75 1 rfl 76 rfl ?_
      refine q_getR (C := RX5) (T := TX5) (N := 26) (ci := 5) hC inX5_writes_X5 (obF52 hF) rfl 2 (by decide) (uX5_writes__X5_longOf _ (List.mem_of_getElem? (l := owX5_longOf) (i := 1) rfl)) rfl 55 (fun _ => rfl) dX5_writes_76 79 rfl ?_
      refine q_iconst (v := 3) hC dX5_writes_79 rfl 80 rfl ?_
      refine q_ialdL hC (arF55 hF) 3 (by decide +kernel) (by decide +kernel) dX5_writes_80 81 rfl ?_
      refine q_aload_n hC dX5_writes_81 1 rfl 82 rfl ?_
      refine q_iload_n hC dX5_writes_82 3 rfl 83 rfl ?_
      refine r_callI hC (go_V (q := (RX5, TX5, 26)) (As := [.int v2]) (rest := [.int (M13 55 3), .int (M13 53 326), .int 326, .ref (gA g 53)]) hC (ctX5_longOf (zl z) g M13 v2 _ hF hw) 1 gX5_writes_X5_longOf rfl ⟨rfl, rfl⟩ hdV_X5_longOf ⟨Nat.le_of_ble_eq_true rfl, Nat.le_of_ble_eq_true rfl⟩ (obF52 hF) rfl rfl rfl (Nat.le_of_ble_eq_true rfl) dX5_writes_83) 86 rfl (fun r14 M15 hw => ?_)
      refine q_imul hC dX5_writes_86 87 rfl ?_
      refine q_iadd hC dX5_writes_87 88 rfl ?_
      refine q_iastL hC (arF53 hF) 326 (by decide +kernel) (by decide +kernel) dX5_writes_88 89 rfl (fun M16 eM16 => ?_)
      have hw := hw M16 eM16
      refine q_aload_n hC dX5_writes_89 1 rfl 90 rfl ?_
      refine q_getR (C := RX5) (T := TX5) (N := 26) (ci := 5) hC inX5_writes_X5 (obF52 hF) rfl 0 (by decide) (uX5_writes__X5_endOf _ (List.mem_of_getElem? (l := owX5_endOf) (i := 1) rfl)) rfl 53 (fun _ => rfl) dX5_writes_90 93 rfl ?_
      refine q_sipush (v := 325) hC dX5_writes_93 (by decide) 96 rfl ?_
      refine q_aload_n hC dX5_writes_96 1 rfl 97 rfl ?_
      refine q_iload_n hC dX5_writes_97 2 rfl 98 rfl ?_
      refine r_callI hC (go_V (q := (RX5, TX5, 26)) (As := [.int v1]) (rest := [.int 325, .ref (gA g 53)]) hC (ctX5_endOf (zl z) g M16 v1 _ hF hw) 1 gX5_writes_X5_endOf rfl ⟨rfl, rfl⟩ hdV_X5_endOf ⟨Nat.le_of_ble_eq_true rfl, Nat.le_of_ble_eq_true rfl⟩ (obF52 hF) rfl rfl rfl (Nat.le_of_ble_eq_true rfl) dX5_writes_98) 101 rfl (fun r17 M18 hw => ?_)
      refine q_iastL hC (arF53 hF) 325 (by decide +kernel) (by decide +kernel) dX5_writes_101 102 rfl (fun M19 eM19 => ?_)
      have hw := hw M19 eM19
      refine q_iload_n hC dX5_writes_102 0 rfl 103 rfl ?_
      exact r_iret hR dX5_writes_103 hw
    · refine q_bipush (v := (-3)) hC dX5_writes_28 (by decide) 30 rfl ?_
      exact r_iret hR dX5_writes_30 hw
