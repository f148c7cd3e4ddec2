theorem inX5_feed_X5 : ∀ w ∈ u_ws RX5 TX5 26, w ∈ wsX5_feed := uX5_feed__wsX50
set_option maxRecDepth 100000 in
set_option maxHeartbeats 4000000 in
theorem ctX5_feed (l : Launch) (g : GG) (M : MM) (v1 : Int64) (Q : Int32 → MM → Prop) (hF : ful5 g) (hw : wX5_feed Q M v1) : MI g l yX5_feed wsX5_feed (rmOf 0 0) [.ref (gA g 52), .long v1] M Q := by
  refine mk_MI (cc := cX5_feed) (maxL := 4) (by decide) rfl (Nat.le_of_ble_eq_true rfl) ?_
  intro z Qf hC hR
  show XX z g Qf 4 0 [(0, .ref (gA g 52)), (1, .long v1)] [] M
  have B19 : ∀ (n : Nat) (M : MM) (v3 : Int32) , wX5_feed_19 Q v1 n M v3 → XX z g Qf 4 19 [(0, .ref (gA g 52)), (1, .long v1), (3, .int v3)] [] M := by
    intro n
    induction n with
    | zero =>
      intro M v3 hw
      exact hw.elim
    | succ n ih =>
      intro M v3 hw
      refine q_iload_n hC dX5_feed_19 2 rfl 20 rfl ?_
      refine q_if_lt hC 56 dX5_feed_20 (by decide) 23 rfl hw (fun hw => ?_) (fun hw => ?_)
      · refine q_aload_n hC dX5_feed_56 0 rfl 57 rfl ?_
        refine q_getI (C := RX5) (T := TX5) (N := 26) (ci := 5) hC inX5_feed_X5 (obF52 hF) rfl 9 (by decide) (uX5_feed__o _ (List.mem_of_getElem? (l := owX5_feed) (i := 1) rfl)) rfl (fun _ => rfl) dX5_feed_57 60 rfl ?_
        exact r_iret hR dX5_feed_60 hw
      · refine q_aload_n hC dX5_feed_23 0 rfl 24 rfl ?_
        refine q_getR (C := RX5) (T := TX5) (N := 26) (ci := 5) hC inX5_feed_X5 (obF52 hF) rfl 8 (by decide) (uX5_feed__o _ (List.mem_of_getElem? (l := owX5_feed) (i := 2) rfl)) rfl 59 (fun _ => rfl) dX5_feed_24 27 rfl ?_
        refine q_aload_n hC dX5_feed_27 0 rfl 28 rfl ?_
        refine q_getI (C := RX5) (T := TX5) (N := 26) (ci := 5) hC inX5_feed_X5 (obF52 hF) rfl 9 (by decide) (uX5_feed__o _ (List.mem_of_getElem? (l := owX5_feed) (i := 1) rfl)) rfl (fun _ => rfl) dX5_feed_28 31 rfl ?_
        refine q_lload_n hC dX5_feed_31 1 rfl 32 rfl ?_
        refine q_iload_n hC dX5_feed_32 2 rfl 33 rfl ?_
        refine q_lshr hC dX5_feed_33 34 rfl ?_
        refine q_ldc2 (v := 255) hC (uX5_feed__o _ (List.mem_of_getElem? (l := owX5_feed) (i := 3) rfl)) dX5_feed_34 37 rfl ?_
        refine q_land hC dX5_feed_37 38 rfl ?_
        refine q_l2i hC dX5_feed_38 39 rfl ?_
        obtain ⟨hin, hw⟩ := hw
        refine q_iast hC (arF59 hF) hin dX5_feed_39 40 rfl (fun M1 eM1 => ?_)
        have hw := hw M1 eM1
        refine q_aload_n hC dX5_feed_40 0 rfl 41 rfl ?_
        refine q_dup hC dX5_feed_41 rfl 42 rfl ?_
        refine q_getI (C := RX5) (T := TX5) (N := 26) (ci := 5) hC inX5_feed_X5 (obF52 hF) rfl 9 (by decide) (uX5_feed__o _ (List.mem_of_getElem? (l := owX5_feed) (i := 1) rfl)) rfl (fun _ => rfl) dX5_feed_42 45 rfl ?_
        refine q_iconst (v := 1) hC dX5_feed_45 rfl 46 rfl ?_
        refine q_iadd hC dX5_feed_46 47 rfl ?_
        refine q_putI (C := RX5) (T := TX5) (N := 26) (ci := 5) hC inX5_feed_X5 tyX5 tyX5_ok nmX5 (obF52 hF) rfl 9 (by decide) (uX5_feed__o _ (List.mem_of_getElem? (l := owX5_feed) (i := 1) rfl)) rfl rfl rfl (fun _ => Nat.le_of_ble_eq_true rfl) (fun _ => rfl) dX5_feed_47 50 rfl (fun M2 eM2 => ?_)
        have hw := hw M2 eM2
        refine q_iinc (v := v3 + (-8)) (L' := [(3, .int (v3 + (-8))), (0, .ref (gA g 52)), (1, .long v1)]) hC dX5_feed_50 2 rfl rfl (by decide) rfl 53 rfl ?_
        refine q_goto hC 19 dX5_feed_53 (by decide) ?_
        exact XX.sub [1, 2, 0] rfl (ih M2 (v3 + (-8)) hw)
  refine q_aload_n hC dX5_feed_0 0 rfl 1 rfl ?_
  refine q_getI (C := RX5) (T := TX5) (N := 26) (ci := 5) hC inX5_feed_X5 (obF52 hF) rfl 9 (by decide) (uX5_feed__o _ (List.mem_of_getElem? (l := owX5_feed) (i := 1) rfl)) rfl (fun _ => rfl) dX5_feed_1 4 rfl ?_
  refine q_bipush (v := 8) hC dX5_feed_4 (by decide) 6 rfl ?_
  refine q_iadd hC dX5_feed_6 7 rfl ?_
  refine q_sipush (v := 400) hC dX5_feed_7 (by decide) 10 rfl ?_
  refine q_icmp_le hC 16 dX5_feed_10 (by decide) 13 rfl hw (fun hw => ?_) (fun hw => ?_)
  · refine q_bipush (v := 56) hC dX5_feed_16 (by decide) 18 rfl ?_
    refine q_istore_n (L' := [(3, .int 56), (0, .ref (gA g 52)), (1, .long v1)]) hC dX5_feed_18 (by decide) rfl 19 rfl ?_
    obtain ⟨n0, hw⟩ := hw
    exact XX.sub [1, 2, 0] rfl (B19 n0 M 56 hw)
  · refine q_bipush (v := (-3)) hC dX5_feed_13 (by decide) 15 rfl ?_
    exact r_iret hR dX5_feed_15 hw
theorem hdT_X5_in : yX5_in.cls ≠ "java/lang/invoke/MethodHandle" ∧ yX5_in.cls ≠ "java/lang/invoke/VarHandle" ∧ (parseMethodDescriptor yX5_in.desc).map (fun d => d.parameters.length) = some 3 := by decide +kernel
theorem inX5_end_X5 : ∀ w ∈ u_ws RX5 TX5 26, w ∈ wsX5_end := uX5_end__wsX50
set_option maxRecDepth 100000 in
set_option maxHeartbeats 4000000 in
theorem ctX5_end (l : Launch) (g : GG) (M : MM) (v1 : Int32) (Q : Int32 → MM → Prop) (hF : ful5 g) (hw : wX5_end Q M v1) : MI g l yX5_end wsX5_end (rmOf 1 25) [.ref (gA g 52), .int v1] M Q := by
  refine mk_MI (cc := cX5_end) (maxL := 3) (by decide) rfl (Nat.le_of_ble_eq_true rfl) ?_
  intro z Qf hC hR
  show XX z g Qf 3 0 [(0, .ref (gA g 52)), (1, .int v1)] [] M
  refine q_iload_n hC dX5_end_0 1 rfl 1 rfl ?_
  refine q_i2l hC dX5_end_1 2 rfl ?_
  refine q_lconst (v := 0) hC dX5_end_2 rfl 3 rfl ?_
  refine q_aload_n hC dX5_end_3 0 rfl 4 rfl ?_
  refine q_getI (C := RX5) (T := TX5) (N := 26) (ci := 5) hC inX5_end_X5 (obF52 hF) rfl 9 (by decide) (uX5_end__o _ (List.mem_of_getElem? (l := owX5_end) (i := 1) rfl)) rfl (fun _ => rfl) dX5_end_4 7 rfl ?_
  refine q_i2l hC dX5_end_7 8 rfl ?_
  refine r_callI hC (go_T (As := [.long (v1.toInt64), .long 0, .long ((M 52 9).toInt64)]) (rest := []) hC (ctX5_in (zl z) g M (v1.toInt64) 0 ((M 52 9).toInt64) _ hw) 3 gX5_end_X5_in rfl ⟨rfl, rfl⟩ hdT_X5_in ⟨Nat.le_of_ble_eq_true rfl, Nat.le_of_ble_eq_true rfl⟩ rfl rfl (Nat.le_of_ble_eq_true rfl) dX5_end_8) 11 rfl (fun r1 M2 hw => ?_)
  refine q_if_ne hC 16 dX5_end_11 (by decide) 14 rfl hw (fun hw => ?_) (fun hw => ?_)
  · refine q_aload_n hC dX5_end_16 0 rfl 17 rfl ?_
    refine q_getI (C := RX5) (T := TX5) (N := 26) (ci := 5) hC inX5_end_X5 (obF52 hF) rfl 9 (by decide) (uX5_end__o _ (List.mem_of_getElem? (l := owX5_end) (i := 1) rfl)) rfl (fun _ => rfl) dX5_end_17 20 rfl ?_
    refine q_istore_n (L' := [(2, .int (M2 52 9)), (0, .ref (gA g 52)), (1, .int v1)]) hC dX5_end_20 (by decide) rfl 21 rfl ?_
    refine q_aload_n hC dX5_end_21 1 rfl 22 rfl ?_
    refine q_iload_n hC dX5_end_22 2 rfl 23 rfl ?_
    refine q_putI (C := RX5) (T := TX5) (N := 26) (ci := 5) hC inX5_end_X5 tyX5 tyX5_ok nmX5 (obF52 hF) rfl 9 (by decide) (uX5_end__o _ (List.mem_of_getElem? (l := owX5_end) (i := 1) rfl)) rfl rfl rfl (fun _ => Nat.le_of_ble_eq_true rfl) (fun _ => rfl) dX5_end_23 26 rfl (fun M3 eM3 => ?_)
    have hw := hw M3 eM3
    refine q_iload_n hC dX5_end_26 0 rfl 27 rfl ?_
    exact r_iret hR dX5_end_27 hw
  · refine q_iconst (v := (-1)) hC dX5_end_14 rfl 15 rfl ?_
    exact r_iret hR dX5_end_15 hw
theorem inX5_needs_X5 : ∀ w ∈ u_ws RX5 TX5 26, w ∈ wsX5_needs := uX5_needs__wsX50
set_option maxRecDepth 100000 in
set_option maxHeartbeats 4000000 in
theorem ctX5_needs (l : Launch) (g : GG) (M : MM) (v1 : Int32) (v2 : Int32) (Q : MM → Prop) (hF : ful5 g) (hw : wX5_needs Q M v1 v2) : MV g l yX5_needs wsX5_needs (rmOf 0 0) [.ref (gA g 52), .int v1, .int v2] M Q := by
  refine mk_MV (cc := cX5_needs) (maxL := 3) (by decide) rfl (Nat.le_of_ble_eq_true rfl) ?_
  intro z Qf hC hR
  show XX z g Qf 3 0 [(0, .ref (gA g 52)), (1, .int v1), (2, .int v2)] [] M
  refine q_iload_n hC dX5_needs_0 1 rfl 1 rfl ?_
  refine q_if_ne hC 24 dX5_needs_1 (by decide) 4 rfl hw (fun hw => ?_) (fun hw => ?_)
  · exact r_vret hR dX5_needs_24 hw
  · refine q_aload_n hC dX5_needs_4 0 rfl 5 rfl ?_
    refine q_getI (C := RX5) (T := TX5) (N := 26) (ci := 5) hC inX5_needs_X5 (obF52 hF) rfl 14 (by decide) (uX5_needs__o _ (List.mem_of_getElem? (l := owX5_needs) (i := 1) rfl)) rfl (fun _ => rfl) dX5_needs_5 8 rfl ?_
    refine q_if_ne hC 24 dX5_needs_8 (by decide) 11 rfl hw (fun hw => ?_) (fun hw => ?_)
    · exact r_vret hR dX5_needs_24 hw
    · refine q_aload_n hC dX5_needs_11 0 rfl 12 rfl ?_
      refine q_iload_n hC dX5_needs_12 2 rfl 13 rfl ?_
      refine q_putI (C := RX5) (T := TX5) (N := 26) (ci := 5) hC inX5_needs_X5 tyX5 tyX5_ok nmX5 (obF52 hF) rfl 14 (by decide) (uX5_needs__o _ (List.mem_of_getElem? (l := owX5_needs) (i := 1) rfl)) rfl rfl rfl (fun _ => Nat.le_of_ble_eq_true rfl) (fun _ => rfl) dX5_needs_13 16 rfl (fun M1 eM1 => ?_)
      have hw := hw M1 eM1
      refine q_aload_n hC dX5_needs_16 0 rfl 17 rfl ?_
      refine q_aload_n hC dX5_needs_17 0 rfl 18 rfl ?_
      refine q_getI (C := RX5) (T := TX5) (N := 26) (ci := 5) hC inX5_needs_X5 (obF52 hF) rfl 11 (by decide) (uX5_needs__o _ (List.mem_of_getElem? (l := owX5_needs) (i := 2) rfl)) rfl (fun _ => rfl) dX5_needs_18 21 rfl ?_
      refine q_putI (C := RX5) (T := TX5) (N := 26) (ci := 5) hC inX5_needs_X5 tyX5 tyX5_ok nmX5 (obF52 hF) rfl 15 (by decide) (uX5_needs__o _ (List.mem_of_getElem? (l := owX5_needs) (i := 3) rfl)) rfl rfl rfl (fun _ => Nat.le_of_ble_eq_true rfl) (fun _ => rfl) dX5_needs_21 24 rfl (fun M2 eM2 => ?_)
      have hw := hw M2 eM2
      exact r_vret hR dX5_needs_24 hw
theorem inX5_look_X5 : ∀ w ∈ u_ws RX5 TX5 26, w ∈ wsX5_look := uX5_look__wsX50
set_option maxRecDepth 100000 in
set_option maxHeartbeats 4000000 in
theorem ctX5_look (l : Launch) (g : GG) (M : MM) (v1 : Int32) (Q : Int32 → MM → Prop) (hF : ful5 g) (hw : wX5_look Q M v1) : MI g l yX5_look wsX5_look (rmOf 0 0) [.ref (gA g 52), .int v1] M Q := by
  refine mk_MI (cc := cX5_look) (maxL := 2) (by decide) rfl (Nat.le_of_ble_eq_true rfl) ?_
  intro z Qf hC hR
  show XX z g Qf 2 0 [(0, .ref (gA g 52)), (1, .int v1)] [] M
  refine q_iload_n hC dX5_look_0 1 rfl 1 rfl ?_
  refine q_aload_n hC dX5_look_1 0 rfl 2 rfl ?_
  refine q_getI (C := RX5) (T := TX5) (N := 26) (ci := 5) hC inX5_look_X5 (obF52 hF) rfl 9 (by decide) (uX5_look__o _ (List.mem_of_getElem? (l := owX5_look) (i := 1) rfl)) rfl (fun _ => rfl) dX5_look_2 5 rfl ?_
  refine q_icmp_ge hC 17 dX5_look_5 (by decide) 8 rfl hw (fun hw => ?_) (fun hw => ?_)
  · refine q_iconst (v := (-1)) hC dX5_look_17 rfl 18 rfl ?_
    exact r_iret hR dX5_look_18 hw
  · refine q_aload_n hC dX5_look_8 0 rfl 9 rfl ?_
    refine q_getR (C := RX5) (T := TX5) (N := 26) (ci := 5) hC inX5_look_X5 (obF52 hF) rfl 8 (by decide) (uX5_look__o _ (List.mem_of_getElem? (l := owX5_look) (i := 2) rfl)) rfl 59 (fun _ => rfl) dX5_look_9 12 rfl ?_
    refine q_iload_n hC dX5_look_12 1 rfl 13 rfl ?_
    obtain ⟨hin, hw⟩ := hw
    refine q_iald hC (arF59 hF) hin dX5_look_13 14 rfl ?_
    refine q_goto hC 18 dX5_look_14 (by decide) ?_
    exact r_iret hR dX5_look_18 hw
theorem hdV_X5_look : yX5_look.cls = RX5 ∧ yX5_look.cls ≠ "java/lang/invoke/MethodHandle" ∧ yX5_look.cls ≠ "java/lang/invoke/VarHandle" ∧ (parseMethodDescriptor yX5_look.desc).map (fun d => d.parameters.length) = some 1 := by decide +kernel
theorem inX5_is_X5 : ∀ w ∈ u_ws RX5 TX5 26, w ∈ wsX5_is := uX5_is__wsX50
set_option maxRecDepth 100000 in
set_option maxHeartbeats 4000000 in
theorem ctX5_is (l : Launch) (g : GG) (M : MM) (v1 : Int32) (v2 : Int32) (v3 : Int32) (v4 : Int32) (v5 : Int32) (Q : Int32 → MM → Prop) (hF : ful5 g) (hw : wX5_is Q M v1 v2 v3 v4 v5) : MI g l yX5_is wsX5_is (rmOf 1 21) [.ref (gA g 52), .int v1, .int v2, .int v3, .int v4, .int v5] M Q := by
  refine mk_MZ (cc := cX5_is) (maxL := 6) (by decide) rfl (Nat.le_of_ble_eq_true rfl) ?_
  intro z Qf hC hR
  show XX z g Qf 6 0 [(0, .ref (gA g 52)), (1, .int v1), (2, .int v2), (3, .int v3), (4, .int v4), (5, .int v5)] [] M
  have B78 : ∀ (M : MM), wX5_is_78 Q v1 v2 v3 v4 v5 M → XX z g Qf 6 78 [] [] M := by
    intro M hw
    refine q_iconst (v := 0) hC dX5_is_78 rfl 79 rfl ?_
    exact r_iret hR dX5_is_79 ⟨nb_0, hw⟩
  have B74 : ∀ (M : MM), wX5_is_74 Q v1 v2 v3 v4 v5 M → XX z g Qf 6 74 [] [] M := by
    intro M hw
    refine q_iconst (v := 1) hC dX5_is_74 rfl 75 rfl ?_
    refine q_goto hC 79 dX5_is_75 (by decide) ?_
    exact r_iret hR dX5_is_79 ⟨nb_1, hw⟩
  refine q_aload_n hC dX5_is_0 0 rfl 1 rfl ?_
  refine q_getI (C := RX5) (T := TX5) (N := 26) (ci := 5) hC inX5_is_X5 (obF52 hF) rfl 10 (by decide) (uX5_is__o _ (List.mem_of_getElem? (l := owX5_is) (i := 1) rfl)) rfl (fun _ => rfl) dX5_is_1 4 rfl ?_
  refine q_aload_n hC dX5_is_4 0 rfl 5 rfl ?_
  refine q_getI (C := RX5) (T := TX5) (N := 26) (ci := 5) hC inX5_is_X5 (obF52 hF) rfl 11 (by decide) (uX5_is__o _ (List.mem_of_getElem? (l := owX5_is) (i := 2) rfl)) rfl (fun _ => rfl) dX5_is_5 8 rfl ?_
  refine q_isub hC dX5_is_8 9 rfl ?_
  refine q_iload_n hC dX5_is_9 1 rfl 10 rfl ?_
  refine q_icmp_ne hC 78 dX5_is_10 (by decide) 13 rfl hw (fun hw => ?_) (fun hw => ?_)
  · exact XX.sub [] rfl (B78 M hw)
  · refine q_aload_n hC dX5_is_13 0 rfl 14 rfl ?_
    refine q_aload_n hC dX5_is_14 0 rfl 15 rfl ?_
    refine q_getI (C := RX5) (T := TX5) (N := 26) (ci := 5) hC inX5_is_X5 (obF52 hF) rfl 11 (by decide) (uX5_is__o _ (List.mem_of_getElem? (l := owX5_is) (i := 2) rfl)) rfl (fun _ => rfl) dX5_is_15 18 rfl ?_
    refine r_callI hC (go_V (q := (RX5, TX5, 26)) (As := [.int (M 52 11)]) (rest := []) hC (ctX5_look (zl z) g M (M 52 11) _ hF hw) 1 gX5_is_X5_look rfl ⟨rfl, rfl⟩ hdV_X5_look ⟨Nat.le_of_ble_eq_true rfl, Nat.le_of_ble_eq_true rfl⟩ (obF52 hF) rfl rfl rfl (Nat.le_of_ble_eq_true rfl) dX5_is_18) 21 rfl (fun r1 M2 hw => ?_)
    refine q_iload_n hC dX5_is_21 2 rfl 22 rfl ?_
    refine q_icmp_ne hC 78 dX5_is_22 (by decide) 25 rfl hw (fun hw => ?_) (fun hw => ?_)
    · exact XX.sub [] rfl (B78 M2 hw)
    · refine q_aload_n hC dX5_is_25 0 rfl 26 rfl ?_
      refine q_aload_n hC dX5_is_26 0 rfl 27 rfl ?_
      refine q_getI (C := RX5) (T := TX5) (N := 26) (ci := 5) hC inX5_is_X5 (obF52 hF) rfl 11 (by decide) (uX5_is__o _ (List.mem_of_getElem? (l := owX5_is) (i := 2) rfl)) rfl (fun _ => rfl) dX5_is_27 30 rfl ?_
      refine q_iconst (v := 1) hC dX5_is_30 rfl 31 rfl ?_
      refine q_iadd hC dX5_is_31 32 rfl ?_
      refine r_callI hC (go_V (q := (RX5, TX5, 26)) (As := [.int ((M2 52 11) + (1 : Int32))]) (rest := []) hC (ctX5_look (zl z) g M2 ((M2 52 11) + (1 : Int32)) _ hF hw) 1 gX5_is_X5_look rfl ⟨rfl, rfl⟩ hdV_X5_look ⟨Nat.le_of_ble_eq_true rfl, Nat.le_of_ble_eq_true rfl⟩ (obF52 hF) rfl rfl rfl (Nat.le_of_ble_eq_true rfl) dX5_is_32) 35 rfl (fun r3 M4 hw => ?_)
      refine q_iload_n hC dX5_is_35 3 rfl 36 rfl ?_
      refine q_icmp_ne hC 78 dX5_is_36 (by decide) 39 rfl hw (fun hw => ?_) (fun hw => ?_)
      · exact XX.sub [] rfl (B78 M4 hw)
      · refine q_aload_n hC dX5_is_39 0 rfl 40 rfl ?_
        refine q_aload_n hC dX5_is_40 0 rfl 41 rfl ?_
        refine q_getI (C := RX5) (T := TX5) (N := 26) (ci := 5) hC inX5_is_X5 (obF52 hF) rfl 11 (by decide) (uX5_is__o _ (List.mem_of_getElem? (l := owX5_is) (i := 2) rfl)) rfl (fun _ => rfl) dX5_is_41 44 rfl ?_
        refine q_iconst (v := 2) hC dX5_is_44 rfl 45 rfl ?_
        refine q_iadd hC dX5_is_45 46 rfl ?_
        refine r_callI hC (go_V (q := (RX5, TX5, 26)) (As := [.int ((M4 52 11) + (2 : Int32))]) (rest := []) hC (ctX5_look (zl z) g M4 ((M4 52 11) + (2 : Int32)) _ hF hw) 1 gX5_is_X5_look rfl ⟨rfl, rfl⟩ hdV_X5_look ⟨Nat.le_of_ble_eq_true rfl, Nat.le_of_ble_eq_true rfl⟩ (obF52 hF) rfl rfl rfl (Nat.le_of_ble_eq_true rfl) dX5_is_46) 49 rfl (fun r5 M6 hw => ?_)
        refine q_iload hC dX5_is_49 4 rfl 51 rfl ?_
        refine q_icmp_ne hC 78 dX5_is_51 (by decide) 54 rfl hw (fun hw => ?_) (fun hw => ?_)
        · exact XX.sub [] rfl (B78 M6 hw)
        · refine q_iload_n hC dX5_is_54 1 rfl 55 rfl ?_
          refine q_iconst (v := 4) hC dX5_is_55 rfl 56 rfl ?_
          refine q_icmp_lt hC 74 dX5_is_56 (by decide) 59 rfl hw (fun hw => ?_) (fun hw => ?_)
          · exact XX.sub [] rfl (B74 M6 hw)
          · refine q_aload_n hC dX5_is_59 0 rfl 60 rfl ?_
            refine q_aload_n hC dX5_is_60 0 rfl 61 rfl ?_
            refine q_getI (C := RX5) (T := TX5) (N := 26) (ci := 5) hC inX5_is_X5 (obF52 hF) rfl 11 (by decide) (uX5_is__o _ (List.mem_of_getElem? (l := owX5_is) (i := 2) rfl)) rfl (fun _ => rfl) dX5_is_61 64 rfl ?_
            refine q_iconst (v := 3) hC dX5_is_64 rfl 65 rfl ?_
            refine q_iadd hC dX5_is_65 66 rfl ?_
            refine r_callI hC (go_V (q := (RX5, TX5, 26)) (As := [.int ((M6 52 11) + (3 : Int32))]) (rest := []) hC (ctX5_look (zl z) g M6 ((M6 52 11) + (3 : Int32)) _ hF hw) 1 gX5_is_X5_look rfl ⟨rfl, rfl⟩ hdV_X5_look ⟨Nat.le_of_ble_eq_true rfl, Nat.le_of_ble_eq_true rfl⟩ (obF52 hF) rfl rfl rfl (Nat.le_of_ble_eq_true rfl) dX5_is_66) 69 rfl (fun r7 M8 hw => ?_)
            refine q_iload hC dX5_is_69 5 rfl 71 rfl ?_
            refine q_icmp_ne hC 78 dX5_is_71 (by decide) 74 rfl hw (fun hw => ?_) (fun hw => ?_)
            · exact XX.sub [] rfl (B78 M8 hw)
            · exact XX.sub [] rfl (B74 M8 hw)
theorem hdV_X5_is : yX5_is.cls = RX5 ∧ yX5_is.cls ≠ "java/lang/invoke/MethodHandle" ∧ yX5_is.cls ≠ "java/lang/invoke/VarHandle" ∧ (parseMethodDescriptor yX5_is.desc).map (fun d => d.parameters.length) = some 5 := by decide +kernel
theorem inX5_nameNow_X5 : ∀ w ∈ u_ws RX5 TX5 26, w ∈ wsX5_nameNow := uX5_nameNow__wsX50
set_option maxRecDepth 100000 in
set_option maxHeartbeats 4000000 in
theorem ctX5_nameNow (l : Launch) (g : GG) (M : MM)  (Q : Int32 → MM → Prop) (hF : ful5 g) (hw : wX5_nameNow Q M ) : MI g l yX5_nameNow wsX5_nameNow (rmOf 2 46) [.ref (gA g 52)] M Q := by
  refine mk_MI (cc := cX5_nameNow) (maxL := 1) (by decide) rfl (Nat.le_of_ble_eq_true rfl) ?_
  intro z Qf hC hR
  show XX z g Qf 1 0 [(0, .ref (gA g 52))] [] M
  have B275 : ∀ (M : MM), wX5_nameNow_275 Q M → XX z g Qf 1 275 [(0, .ref (gA g 52))] [] M := by
    intro M hw
    refine q_aload_n hC dX5_nameNow_275 0 rfl 276 rfl ?_
    refine q_iconst (v := 4) hC dX5_nameNow_276 rfl 277 rfl ?_
    refine q_bipush (v := 109) hC dX5_nameNow_277 (by decide) 279 rfl ?_
    refine q_bipush (v := 97) hC dX5_nameNow_279 (by decide) 281 rfl ?_
    refine q_bipush (v := 114) hC dX5_nameNow_281 (by decide) 283 rfl ?_
    refine q_bipush (v := 107) hC dX5_nameNow_283 (by decide) 285 rfl ?_
    refine r_callI hC (go_V (q := (RX5, TX5, 26)) (As := [.int 4, .int 109, .int 97, .int 114, .int 107]) (rest := []) hC (ctX5_is (zl z) g M 4 109 97 114 107 _ hF hw) 5 gX5_nameNow_X5_is rfl ⟨rfl, rfl⟩ hdV_X5_is ⟨Nat.le_of_ble_eq_true rfl, Nat.le_of_ble_eq_true rfl⟩ (obF52 hF) rfl rfl rfl (Nat.le_of_ble_eq_true rfl) dX5_nameNow_285) 288 rfl (fun r33 M34 hw => ?_)
    refine q_if_eq hC 296 dX5_nameNow_288 (by decide) 291 rfl hw (fun hw => ?_) (fun hw => ?_)
    · refine q_bipush (v := (-4)) hC dX5_nameNow_296 (by decide) 298 rfl ?_
      exact r_iret hR dX5_nameNow_298 hw
    · refine q_bipush (v := 11) hC dX5_nameNow_291 (by decide) 293 rfl ?_
      refine q_goto hC 298 dX5_nameNow_293 (by decide) ?_
      exact r_iret hR dX5_nameNow_298 hw
  have B239 : ∀ (M : MM), wX5_nameNow_239 Q M → XX z g Qf 1 239 [(0, .ref (gA g 52))] [] M := by
    intro M hw
    refine q_aload_n hC dX5_nameNow_239 0 rfl 240 rfl ?_
    refine q_iconst (v := 5) hC dX5_nameNow_240 rfl 241 rfl ?_
    refine q_bipush (v := 98) hC dX5_nameNow_241 (by decide) 243 rfl ?_
    refine q_bipush (v := 108) hC dX5_nameNow_243 (by decide) 245 rfl ?_
    refine q_bipush (v := 111) hC dX5_nameNow_245 (by decide) 247 rfl ?_
    refine q_bipush (v := 99) hC dX5_nameNow_247 (by decide) 249 rfl ?_
    refine r_callI hC (go_V (q := (RX5, TX5, 26)) (As := [.int 5, .int 98, .int 108, .int 111, .int 99]) (rest := []) hC (ctX5_is (zl z) g M 5 98 108 111 99 _ hF hw) 5 gX5_nameNow_X5_is rfl ⟨rfl, rfl⟩ hdV_X5_is ⟨Nat.le_of_ble_eq_true rfl, Nat.le_of_ble_eq_true rfl⟩ (obF52 hF) rfl rfl rfl (Nat.le_of_ble_eq_true rfl) dX5_nameNow_249) 252 rfl (fun r29 M30 hw => ?_)
    refine q_if_eq hC 275 dX5_nameNow_252 (by decide) 255 rfl hw (fun hw => ?_) (fun hw => ?_)
    · exact XX.sub [0] rfl (B275 M30 hw)
    · refine q_aload_n hC dX5_nameNow_255 0 rfl 256 rfl ?_
      refine q_aload_n hC dX5_nameNow_256 0 rfl 257 rfl ?_
      refine q_getI (C := RX5) (T := TX5) (N := 26) (ci := 5) hC inX5_nameNow_X5 (obF52 hF) rfl 11 (by decide) (uX5_nameNow__X5_is _ (List.mem_of_getElem? (l := owX5_is) (i := 2) rfl)) rfl (fun _ => rfl) dX5_nameNow_257 260 rfl ?_
      refine q_iconst (v := 4) hC dX5_nameNow_260 rfl 261 rfl ?_
      refine q_iadd hC dX5_nameNow_261 262 rfl ?_
      refine r_callI hC (go_V (q := (RX5, TX5, 26)) (As := [.int ((M30 52 11) + (4 : Int32))]) (rest := []) hC (ctX5_look (zl z) g M30 ((M30 52 11) + (4 : Int32)) _ hF hw) 1 gX5_nameNow_X5_look rfl ⟨rfl, rfl⟩ hdV_X5_look ⟨Nat.le_of_ble_eq_true rfl, Nat.le_of_ble_eq_true rfl⟩ (obF52 hF) rfl rfl rfl (Nat.le_of_ble_eq_true rfl) dX5_nameNow_262) 265 rfl (fun r31 M32 hw => ?_)
      refine q_bipush (v := 107) hC dX5_nameNow_265 (by decide) 267 rfl ?_
      refine q_icmp_ne hC 275 dX5_nameNow_267 (by decide) 270 rfl hw (fun hw => ?_) (fun hw => ?_)
      · exact XX.sub [0] rfl (B275 M32 hw)
      · refine q_bipush (v := 10) hC dX5_nameNow_270 (by decide) 272 rfl ?_
        refine q_goto hC 298 dX5_nameNow_272 (by decide) ?_
        exact r_iret hR dX5_nameNow_298 hw
  have B205 : ∀ (M : MM), wX5_nameNow_205 Q M → XX z g Qf 1 205 [(0, .ref (gA g 52))] [] M := by
    intro M hw
    refine q_aload_n hC dX5_nameNow_205 0 rfl 206 rfl ?_
    refine q_iconst (v := 5) hC dX5_nameNow_206 rfl 207 rfl ?_
    refine q_bipush (v := 104) hC dX5_nameNow_207 (by decide) 209 rfl ?_
    refine q_bipush (v := 105) hC dX5_nameNow_209 (by decide) 211 rfl ?_
    refine q_bipush (v := 116) hC dX5_nameNow_211 (by decide) 213 rfl ?_
    refine q_bipush (v := 99) hC dX5_nameNow_213 (by decide) 215 rfl ?_
    refine r_callI hC (go_V (q := (RX5, TX5, 26)) (As := [.int 5, .int 104, .int 105, .int 116, .int 99]) (rest := []) hC (ctX5_is (zl z) g M 5 104 105 116 99 _ hF hw) 5 gX5_nameNow_X5_is rfl ⟨rfl, rfl⟩ hdV_X5_is ⟨Nat.le_of_ble_eq_true rfl, Nat.le_of_ble_eq_true rfl⟩ (obF52 hF) rfl rfl rfl (Nat.le_of_ble_eq_true rfl) dX5_nameNow_215) 218 rfl (fun r25 M26 hw => ?_)
    refine q_if_eq hC 239 dX5_nameNow_218 (by decide) 221 rfl hw (fun hw => ?_) (fun hw => ?_)
    · exact XX.sub [0] rfl (B239 M26 hw)
    · refine q_aload_n hC dX5_nameNow_221 0 rfl 222 rfl ?_
      refine q_aload_n hC dX5_nameNow_222 0 rfl 223 rfl ?_
      refine q_getI (C := RX5) (T := TX5) (N := 26) (ci := 5) hC inX5_nameNow_X5 (obF52 hF) rfl 11 (by decide) (uX5_nameNow__X5_is _ (List.mem_of_getElem? (l := owX5_is) (i := 2) rfl)) rfl (fun _ => rfl) dX5_nameNow_223 226 rfl ?_
      refine q_iconst (v := 4) hC dX5_nameNow_226 rfl 227 rfl ?_
      refine q_iadd hC dX5_nameNow_227 228 rfl ?_
      refine r_callI hC (go_V (q := (RX5, TX5, 26)) (As := [.int ((M26 52 11) + (4 : Int32))]) (rest := []) hC (ctX5_look (zl z) g M26 ((M26 52 11) + (4 : Int32)) _ hF hw) 1 gX5_nameNow_X5_look rfl ⟨rfl, rfl⟩ hdV_X5_look ⟨Nat.le_of_ble_eq_true rfl, Nat.le_of_ble_eq_true rfl⟩ (obF52 hF) rfl rfl rfl (Nat.le_of_ble_eq_true rfl) dX5_nameNow_228) 231 rfl (fun r27 M28 hw => ?_)
      refine q_bipush (v := 104) hC dX5_nameNow_231 (by decide) 233 rfl ?_
      refine q_icmp_ne hC 239 dX5_nameNow_233 (by decide) 236 rfl hw (fun hw => ?_) (fun hw => ?_)
      · exact XX.sub [0] rfl (B239 M28 hw)
      · refine q_bipush (v := 8) hC dX5_nameNow_236 (by decide) 238 rfl ?_
        exact r_iret hR dX5_nameNow_238 hw
  have B99 : ∀ (M : MM), wX5_nameNow_99 Q M → XX z g Qf 1 99 [(0, .ref (gA g 52))] [] M := by
    intro M hw
    refine q_aload_n hC dX5_nameNow_99 0 rfl 100 rfl ?_
    refine q_iconst (v := 4) hC dX5_nameNow_100 rfl 101 rfl ?_
    refine q_bipush (v := 112) hC dX5_nameNow_101 (by decide) 103 rfl ?_
    refine q_bipush (v := 108) hC dX5_nameNow_103 (by decide) 105 rfl ?_
    refine q_bipush (v := 97) hC dX5_nameNow_105 (by decide) 107 rfl ?_
    refine q_bipush (v := 121) hC dX5_nameNow_107 (by decide) 109 rfl ?_
    refine r_callI hC (go_V (q := (RX5, TX5, 26)) (As := [.int 4, .int 112, .int 108, .int 97, .int 121]) (rest := []) hC (ctX5_is (zl z) g M 4 112 108 97 121 _ hF hw) 5 gX5_nameNow_X5_is rfl ⟨rfl, rfl⟩ hdV_X5_is ⟨Nat.le_of_ble_eq_true rfl, Nat.le_of_ble_eq_true rfl⟩ (obF52 hF) rfl rfl rfl (Nat.le_of_ble_eq_true rfl) dX5_nameNow_109) 112 rfl (fun r13 M14 hw => ?_)
    refine q_if_eq hC 117 dX5_nameNow_112 (by decide) 115 rfl hw (fun hw => ?_) (fun hw => ?_)
    · refine q_aload_n hC dX5_nameNow_117 0 rfl 118 rfl ?_
      refine q_iconst (v := 4) hC dX5_nameNow_118 rfl 119 rfl ?_
      refine q_bipush (v := 119) hC dX5_nameNow_119 (by decide) 121 rfl ?_
      refine q_bipush (v := 105) hC dX5_nameNow_121 (by decide) 123 rfl ?_
      refine q_bipush (v := 110) hC dX5_nameNow_123 (by decide) 125 rfl ?_
      refine q_bipush (v := 100) hC dX5_nameNow_125 (by decide) 127 rfl ?_
      refine r_callI hC (go_V (q := (RX5, TX5, 26)) (As := [.int 4, .int 119, .int 105, .int 110, .int 100]) (rest := []) hC (ctX5_is (zl z) g M14 4 119 105 110 100 _ hF hw) 5 gX5_nameNow_X5_is rfl ⟨rfl, rfl⟩ hdV_X5_is ⟨Nat.le_of_ble_eq_true rfl, Nat.le_of_ble_eq_true rfl⟩ (obF52 hF) rfl rfl rfl (Nat.le_of_ble_eq_true rfl) dX5_nameNow_127) 130 rfl (fun r15 M16 hw => ?_)
      refine q_if_eq hC 135 dX5_nameNow_130 (by decide) 133 rfl hw (fun hw => ?_) (fun hw => ?_)
      · refine q_aload_n hC dX5_nameNow_135 0 rfl 136 rfl ?_
        refine q_iconst (v := 4) hC dX5_nameNow_136 rfl 137 rfl ?_
        refine q_bipush (v := 114) hC dX5_nameNow_137 (by decide) 139 rfl ?_
        refine q_bipush (v := 97) hC dX5_nameNow_139 (by decide) 141 rfl ?_
        refine q_bipush (v := 109) hC dX5_nameNow_141 (by decide) 143 rfl ?_
        refine q_bipush (v := 112) hC dX5_nameNow_143 (by decide) 145 rfl ?_
        refine r_callI hC (go_V (q := (RX5, TX5, 26)) (As := [.int 4, .int 114, .int 97, .int 109, .int 112]) (rest := []) hC (ctX5_is (zl z) g M16 4 114 97 109 112 _ hF hw) 5 gX5_nameNow_X5_is rfl ⟨rfl, rfl⟩ hdV_X5_is ⟨Nat.le_of_ble_eq_true rfl, Nat.le_of_ble_eq_true rfl⟩ (obF52 hF) rfl rfl rfl (Nat.le_of_ble_eq_true rfl) dX5_nameNow_145) 148 rfl (fun r17 M18 hw => ?_)
        refine q_if_eq hC 153 dX5_nameNow_148 (by decide) 151 rfl hw (fun hw => ?_) (fun hw => ?_)
        · refine q_aload_n hC dX5_nameNow_153 0 rfl 154 rfl ?_
          refine q_iconst (v := 3) hC dX5_nameNow_154 rfl 155 rfl ?_
          refine q_bipush (v := 103) hC dX5_nameNow_155 (by decide) 157 rfl ?_
          refine q_bipush (v := 97) hC dX5_nameNow_157 (by decide) 159 rfl ?_
          refine q_bipush (v := 112) hC dX5_nameNow_159 (by decide) 161 rfl ?_
          refine q_iconst (v := 0) hC dX5_nameNow_161 rfl 162 rfl ?_
          refine r_callI hC (go_V (q := (RX5, TX5, 26)) (As := [.int 3, .int 103, .int 97, .int 112, .int 0]) (rest := []) hC (ctX5_is (zl z) g M18 3 103 97 112 0 _ hF hw) 5 gX5_nameNow_X5_is rfl ⟨rfl, rfl⟩ hdV_X5_is ⟨Nat.le_of_ble_eq_true rfl, Nat.le_of_ble_eq_true rfl⟩ (obF52 hF) rfl rfl rfl (Nat.le_of_ble_eq_true rfl) dX5_nameNow_162) 165 rfl (fun r19 M20 hw => ?_)
          refine q_if_eq hC 171 dX5_nameNow_165 (by decide) 168 rfl hw (fun hw => ?_) (fun hw => ?_)
          · refine q_aload_n hC dX5_nameNow_171 0 rfl 172 rfl ?_
            refine q_iconst (v := 5) hC dX5_nameNow_172 rfl 173 rfl ?_
            refine q_bipush (v := 100) hC dX5_nameNow_173 (by decide) 175 rfl ?_
            refine q_bipush (v := 101) hC dX5_nameNow_175 (by decide) 177 rfl ?_
            refine q_bipush (v := 110) hC dX5_nameNow_177 (by decide) 179 rfl ?_
            refine q_bipush (v := 115) hC dX5_nameNow_179 (by decide) 181 rfl ?_
            refine r_callI hC (go_V (q := (RX5, TX5, 26)) (As := [.int 5, .int 100, .int 101, .int 110, .int 115]) (rest := []) hC (ctX5_is (zl z) g M20 5 100 101 110 115 _ hF hw) 5 gX5_nameNow_X5_is rfl ⟨rfl, rfl⟩ hdV_X5_is ⟨Nat.le_of_ble_eq_true rfl, Nat.le_of_ble_eq_true rfl⟩ (obF52 hF) rfl rfl rfl (Nat.le_of_ble_eq_true rfl) dX5_nameNow_181) 184 rfl (fun r21 M22 hw => ?_)
            refine q_if_eq hC 205 dX5_nameNow_184 (by decide) 187 rfl hw (fun hw => ?_) (fun hw => ?_)
            · exact XX.sub [0] rfl (B205 M22 hw)
            · refine q_aload_n hC dX5_nameNow_187 0 rfl 188 rfl ?_
              refine q_aload_n hC dX5_nameNow_188 0 rfl 189 rfl ?_
              refine q_getI (C := RX5) (T := TX5) (N := 26) (ci := 5) hC inX5_nameNow_X5 (obF52 hF) rfl 11 (by decide) (uX5_nameNow__X5_is _ (List.mem_of_getElem? (l := owX5_is) (i := 2) rfl)) rfl (fun _ => rfl) dX5_nameNow_189 192 rfl ?_
              refine q_iconst (v := 4) hC dX5_nameNow_192 rfl 193 rfl ?_
              refine q_iadd hC dX5_nameNow_193 194 rfl ?_
              refine r_callI hC (go_V (q := (RX5, TX5, 26)) (As := [.int ((M22 52 11) + (4 : Int32))]) (rest := []) hC (ctX5_look (zl z) g M22 ((M22 52 11) + (4 : Int32)) _ hF hw) 1 gX5_nameNow_X5_look rfl ⟨rfl, rfl⟩ hdV_X5_look ⟨Nat.le_of_ble_eq_true rfl, Nat.le_of_ble_eq_true rfl⟩ (obF52 hF) rfl rfl rfl (Nat.le_of_ble_eq_true rfl) dX5_nameNow_194) 197 rfl (fun r23 M24 hw => ?_)
              refine q_bipush (v := 101) hC dX5_nameNow_197 (by decide) 199 rfl ?_
              refine q_icmp_ne hC 205 dX5_nameNow_199 (by decide) 202 rfl hw (fun hw => ?_) (fun hw => ?_)
              · exact XX.sub [0] rfl (B205 M24 hw)
              · refine q_bipush (v := 7) hC dX5_nameNow_202 (by decide) 204 rfl ?_
                exact r_iret hR dX5_nameNow_204 hw
          · refine q_bipush (v := 6) hC dX5_nameNow_168 (by decide) 170 rfl ?_
            exact r_iret hR dX5_nameNow_170 hw
        · refine q_iconst (v := 5) hC dX5_nameNow_151 rfl 152 rfl ?_
          exact r_iret hR dX5_nameNow_152 hw
      · refine q_iconst (v := 4) hC dX5_nameNow_133 rfl 134 rfl ?_
        exact r_iret hR dX5_nameNow_134 hw
    · refine q_iconst (v := 3) hC dX5_nameNow_115 rfl 116 rfl ?_
      exact r_iret hR dX5_nameNow_116 hw
  have B49 : ∀ (M : MM), wX5_nameNow_49 Q M → XX z g Qf 1 49 [(0, .ref (gA g 52))] [] M := by
    intro M hw
    refine q_aload_n hC dX5_nameNow_49 0 rfl 50 rfl ?_
    refine q_iconst (v := 3) hC dX5_nameNow_50 rfl 51 rfl ?_
    refine q_bipush (v := 104) hC dX5_nameNow_51 (by decide) 53 rfl ?_
    refine q_bipush (v := 117) hC dX5_nameNow_53 (by decide) 55 rfl ?_
    refine q_bipush (v := 98) hC dX5_nameNow_55 (by decide) 57 rfl ?_
    refine q_iconst (v := 0) hC dX5_nameNow_57 rfl 58 rfl ?_
    refine r_callI hC (go_V (q := (RX5, TX5, 26)) (As := [.int 3, .int 104, .int 117, .int 98, .int 0]) (rest := []) hC (ctX5_is (zl z) g M 3 104 117 98 0 _ hF hw) 5 gX5_nameNow_X5_is rfl ⟨rfl, rfl⟩ hdV_X5_is ⟨Nat.le_of_ble_eq_true rfl, Nat.le_of_ble_eq_true rfl⟩ (obF52 hF) rfl rfl rfl (Nat.le_of_ble_eq_true rfl) dX5_nameNow_58) 61 rfl (fun r7 M8 hw => ?_)
    refine q_if_eq hC 66 dX5_nameNow_61 (by decide) 64 rfl hw (fun hw => ?_) (fun hw => ?_)
    · refine q_aload_n hC dX5_nameNow_66 0 rfl 67 rfl ?_
      refine q_iconst (v := 5) hC dX5_nameNow_67 rfl 68 rfl ?_
      refine q_bipush (v := 116) hC dX5_nameNow_68 (by decide) 70 rfl ?_
      refine q_bipush (v := 104) hC dX5_nameNow_70 (by decide) 72 rfl ?_
      refine q_bipush (v := 105) hC dX5_nameNow_72 (by decide) 74 rfl ?_
      refine q_bipush (v := 99) hC dX5_nameNow_74 (by decide) 76 rfl ?_
      refine r_callI hC (go_V (q := (RX5, TX5, 26)) (As := [.int 5, .int 116, .int 104, .int 105, .int 99]) (rest := []) hC (ctX5_is (zl z) g M8 5 116 104 105 99 _ hF hw) 5 gX5_nameNow_X5_is rfl ⟨rfl, rfl⟩ hdV_X5_is ⟨Nat.le_of_ble_eq_true rfl, Nat.le_of_ble_eq_true rfl⟩ (obF52 hF) rfl rfl rfl (Nat.le_of_ble_eq_true rfl) dX5_nameNow_76) 79 rfl (fun r9 M10 hw => ?_)
      refine q_if_eq hC 99 dX5_nameNow_79 (by decide) 82 rfl hw (fun hw => ?_) (fun hw => ?_)
      · exact XX.sub [0] rfl (B99 M10 hw)
      · refine q_aload_n hC dX5_nameNow_82 0 rfl 83 rfl ?_
        refine q_aload_n hC dX5_nameNow_83 0 rfl 84 rfl ?_
        refine q_getI (C := RX5) (T := TX5) (N := 26) (ci := 5) hC inX5_nameNow_X5 (obF52 hF) rfl 11 (by decide) (uX5_nameNow__X5_is _ (List.mem_of_getElem? (l := owX5_is) (i := 2) rfl)) rfl (fun _ => rfl) dX5_nameNow_84 87 rfl ?_
        refine q_iconst (v := 4) hC dX5_nameNow_87 rfl 88 rfl ?_
        refine q_iadd hC dX5_nameNow_88 89 rfl ?_
        refine r_callI hC (go_V (q := (RX5, TX5, 26)) (As := [.int ((M10 52 11) + (4 : Int32))]) (rest := []) hC (ctX5_look (zl z) g M10 ((M10 52 11) + (4 : Int32)) _ hF hw) 1 gX5_nameNow_X5_look rfl ⟨rfl, rfl⟩ hdV_X5_look ⟨Nat.le_of_ble_eq_true rfl, Nat.le_of_ble_eq_true rfl⟩ (obF52 hF) rfl rfl rfl (Nat.le_of_ble_eq_true rfl) dX5_nameNow_89) 92 rfl (fun r11 M12 hw => ?_)
        refine q_bipush (v := 107) hC dX5_nameNow_92 (by decide) 94 rfl ?_
        refine q_icmp_ne hC 99 dX5_nameNow_94 (by decide) 97 rfl hw (fun hw => ?_) (fun hw => ?_)
        · exact XX.sub [0] rfl (B99 M12 hw)
        · refine q_iconst (v := 2) hC dX5_nameNow_97 rfl 98 rfl ?_
          exact r_iret hR dX5_nameNow_98 hw
    · refine q_iconst (v := 1) hC dX5_nameNow_64 rfl 65 rfl ?_
      exact r_iret hR dX5_nameNow_65 hw
  refine q_aload_n hC dX5_nameNow_0 0 rfl 1 rfl ?_
  refine q_bipush (v := 6) hC dX5_nameNow_1 (by decide) 3 rfl ?_
  refine q_bipush (v := 108) hC dX5_nameNow_3 (by decide) 5 rfl ?_
  refine q_bipush (v := 101) hC dX5_nameNow_5 (by decide) 7 rfl ?_
  refine q_bipush (v := 110) hC dX5_nameNow_7 (by decide) 9 rfl ?_
  refine q_bipush (v := 103) hC dX5_nameNow_9 (by decide) 11 rfl ?_
  refine r_callI hC (go_V (q := (RX5, TX5, 26)) (As := [.int 6, .int 108, .int 101, .int 110, .int 103]) (rest := []) hC (ctX5_is (zl z) g M 6 108 101 110 103 _ hF hw) 5 gX5_nameNow_X5_is rfl ⟨rfl, rfl⟩ hdV_X5_is ⟨Nat.le_of_ble_eq_true rfl, Nat.le_of_ble_eq_true rfl⟩ (obF52 hF) rfl rfl rfl (Nat.le_of_ble_eq_true rfl) dX5_nameNow_11) 14 rfl (fun r1 M2 hw => ?_)
  refine q_if_eq hC 49 dX5_nameNow_14 (by decide) 17 rfl hw (fun hw => ?_) (fun hw => ?_)
  · exact XX.sub [0] rfl (B49 M2 hw)
  · refine q_aload_n hC dX5_nameNow_17 0 rfl 18 rfl ?_
    refine q_aload_n hC dX5_nameNow_18 0 rfl 19 rfl ?_
    refine q_getI (C := RX5) (T := TX5) (N := 26) (ci := 5) hC inX5_nameNow_X5 (obF52 hF) rfl 11 (by decide) (uX5_nameNow__X5_is _ (List.mem_of_getElem? (l := owX5_is) (i := 2) rfl)) rfl (fun _ => rfl) dX5_nameNow_19 22 rfl ?_
    refine q_iconst (v := 4) hC dX5_nameNow_22 rfl 23 rfl ?_
    refine q_iadd hC dX5_nameNow_23 24 rfl ?_
    refine r_callI hC (go_V (q := (RX5, TX5, 26)) (As := [.int ((M2 52 11) + (4 : Int32))]) (rest := []) hC (ctX5_look (zl z) g M2 ((M2 52 11) + (4 : Int32)) _ hF hw) 1 gX5_nameNow_X5_look rfl ⟨rfl, rfl⟩ hdV_X5_look ⟨Nat.le_of_ble_eq_true rfl, Nat.le_of_ble_eq_true rfl⟩ (obF52 hF) rfl rfl rfl (Nat.le_of_ble_eq_true rfl) dX5_nameNow_24) 27 rfl (fun r3 M4 hw => ?_)
    refine q_bipush (v := 116) hC dX5_nameNow_27 (by decide) 29 rfl ?_
    refine q_icmp_ne hC 49 dX5_nameNow_29 (by decide) 32 rfl hw (fun hw => ?_) (fun hw => ?_)
    · exact XX.sub [0] rfl (B49 M4 hw)
    · refine q_aload_n hC dX5_nameNow_32 0 rfl 33 rfl ?_
      refine q_aload_n hC dX5_nameNow_33 0 rfl 34 rfl ?_
      refine q_getI (C := RX5) (T := TX5) (N := 26) (ci := 5) hC inX5_nameNow_X5 (obF52 hF) rfl 11 (by decide) (uX5_nameNow__X5_is _ (List.mem_of_getElem? (l := owX5_is) (i := 2) rfl)) rfl (fun _ => rfl) dX5_nameNow_34 37 rfl ?_
      refine q_iconst (v := 5) hC dX5_nameNow_37 rfl 38 rfl ?_
      refine q_iadd hC dX5_nameNow_38 39 rfl ?_
      refine r_callI hC (go_V (q := (RX5, TX5, 26)) (As := [.int ((M4 52 11) + (5 : Int32))]) (rest := []) hC (ctX5_look (zl z) g M4 ((M4 52 11) + (5 : Int32)) _ hF hw) 1 gX5_nameNow_X5_look rfl ⟨rfl, rfl⟩ hdV_X5_look ⟨Nat.le_of_ble_eq_true rfl, Nat.le_of_ble_eq_true rfl⟩ (obF52 hF) rfl rfl rfl (Nat.le_of_ble_eq_true rfl) dX5_nameNow_39) 42 rfl (fun r5 M6 hw => ?_)
      refine q_bipush (v := 104) hC dX5_nameNow_42 (by decide) 44 rfl ?_
      refine q_icmp_ne hC 49 dX5_nameNow_44 (by decide) 47 rfl hw (fun hw => ?_) (fun hw => ?_)
      · exact XX.sub [0] rfl (B49 M6 hw)
      · refine q_iconst (v := 0) hC dX5_nameNow_47 rfl 48 rfl ?_
        exact r_iret hR dX5_nameNow_48 hw
theorem hdV_X5_needs : yX5_needs.cls = RX5 ∧ yX5_needs.cls ≠ "java/lang/invoke/MethodHandle" ∧ yX5_needs.cls ≠ "java/lang/invoke/VarHandle" ∧ (parseMethodDescriptor yX5_needs.desc).map (fun d => d.parameters.length) = some 2 := by decide +kernel
theorem inX5_next_X5 : ∀ w ∈ u_ws RX5 TX5 26, w ∈ wsX5_next := uX5_next__wsX50
set_option maxRecDepth 100000 in
set_option maxHeartbeats 4000000 in
theorem ctX5_next (l : Launch) (g : GG) (M : MM)  (Q : MM → Prop) (hF : ful5 g) (hw : wX5_next Q M ) : MV g l yX5_next wsX5_next (rmOf 1 25) [.ref (gA g 52)] M Q := by
  refine mk_MV (cc := cX5_next) (maxL := 2) (by decide) rfl (Nat.le_of_ble_eq_true rfl) ?_
  intro z Qf hC hR
  show XX z g Qf 2 0 [(0, .ref (gA g 52))] [] M
  have B260 : ∀ (M : MM) (p0 : Int32), wX5_next_260 Q M p0 → XX z g Qf 2 260 [(0, .ref (gA g 52))] [.int p0, .ref (gA g 52)] M := by
    intro M p0 hw
    refine q_iconst (v := 1) hC dX5_next_260 rfl 261 rfl ?_
    refine r_callV hC (go_V (q := (RX5, TX5, 26)) (As := [.int p0, .int 1]) (rest := []) hC (ctX5_needs (zl z) g M p0 1 _ hF hw) 2 gX5_next_X5_needs rfl ⟨rfl, rfl⟩ hdV_X5_needs ⟨Nat.le_of_ble_eq_true rfl, Nat.le_of_ble_eq_true rfl⟩ (obF52 hF) rfl rfl rfl (Nat.le_of_ble_eq_true rfl) dX5_next_261) 264 rfl (fun M27 hw => ?_)
    refine q_aload_n hC dX5_next_264 0 rfl 265 rfl ?_
    refine q_dup hC dX5_next_265 rfl 266 rfl ?_
    refine q_getI (C := RX5) (T := TX5) (N := 26) (ci := 5) hC inX5_next_X5 (obF52 hF) rfl 10 (by decide) (uX5_next__o _ (List.mem_of_getElem? (l := owX5_next) (i := 1) rfl)) rfl (fun _ => rfl) dX5_next_266 269 rfl ?_
    refine q_iconst (v := 1) hC dX5_next_269 rfl 270 rfl ?_
    refine q_iadd hC dX5_next_270 271 rfl ?_
    refine q_putI (C := RX5) (T := TX5) (N := 26) (ci := 5) hC inX5_next_X5 tyX5 tyX5_ok nmX5 (obF52 hF) rfl 10 (by decide) (uX5_next__o _ (List.mem_of_getElem? (l := owX5_next) (i := 1) rfl)) rfl rfl rfl (fun _ => Nat.le_of_ble_eq_true rfl) (fun _ => rfl) dX5_next_271 274 rfl (fun M28 eM28 => ?_)
    have hw := hw M28 eM28
    exact r_vret hR dX5_next_274 hw
  have B236 : ∀ (M : MM) (p0 : Int32), wX5_next_236 Q M p0 → XX z g Qf 2 236 [] [.int p0, .ref (gA g 52)] M := by
    intro M p0 hw
    refine q_iconst (v := 1) hC dX5_next_236 rfl 237 rfl ?_
    refine r_callV hC (go_V (q := (RX5, TX5, 26)) (As := [.int p0, .int 1]) (rest := []) hC (ctX5_needs (zl z) g M p0 1 _ hF hw) 2 gX5_next_X5_needs rfl ⟨rfl, rfl⟩ hdV_X5_needs ⟨Nat.le_of_ble_eq_true rfl, Nat.le_of_ble_eq_true rfl⟩ (obF52 hF) rfl rfl rfl (Nat.le_of_ble_eq_true rfl) dX5_next_237) 240 rfl (fun M31 hw => ?_)
    refine q_goto hC 274 dX5_next_240 (by decide) ?_
    exact r_vret hR dX5_next_274 hw
  have B201 : ∀ (K140 : MM → Prop) (hK140 : ∀ (M : MM) , K140 M → XX z g Qf 2 140 [(0, .ref (gA g 52))] [] M) (M : MM) (p0 : Int32), wX5_next_201 Q K140 M p0 → XX z g Qf 2 201 [(0, .ref (gA g 52))] [.int p0, .ref (gA g 52)] M := by
    intro K140 hK140 M p0 hw
    refine q_putI (C := RX5) (T := TX5) (N := 26) (ci := 5) hC inX5_next_X5 tyX5 tyX5_ok nmX5 (obF52 hF) rfl 13 (by decide) (uX5_next__o _ (List.mem_of_getElem? (l := owX5_next) (i := 7) rfl)) rfl rfl rfl (fun _ => Nat.le_of_ble_eq_true rfl) (fun _ => rfl) dX5_next_201 204 rfl (fun M29 eM29 => ?_)
    have hw := hw M29 eM29
    refine q_aload_n hC dX5_next_204 0 rfl 205 rfl ?_
    refine q_dup hC dX5_next_205 rfl 206 rfl ?_
    refine q_getI (C := RX5) (T := TX5) (N := 26) (ci := 5) hC inX5_next_X5 (obF52 hF) rfl 10 (by decide) (uX5_next__o _ (List.mem_of_getElem? (l := owX5_next) (i := 1) rfl)) rfl (fun _ => rfl) dX5_next_206 209 rfl ?_
    refine q_iconst (v := 1) hC dX5_next_209 rfl 210 rfl ?_
    refine q_iadd hC dX5_next_210 211 rfl ?_
    refine q_putI (C := RX5) (T := TX5) (N := 26) (ci := 5) hC inX5_next_X5 tyX5 tyX5_ok nmX5 (obF52 hF) rfl 10 (by decide) (uX5_next__o _ (List.mem_of_getElem? (l := owX5_next) (i := 1) rfl)) rfl rfl rfl (fun _ => Nat.le_of_ble_eq_true rfl) (fun _ => rfl) dX5_next_211 214 rfl (fun M30 eM30 => ?_)
    have hw := hw M30 eM30
    refine q_goto hC 140 dX5_next_214 (by decide) ?_
    exact XX.sub [0] rfl (hK140 M30 hw)
  have B140 : ∀ (n : Nat) (M : MM) , wX5_next_140 Q n M → XX z g Qf 2 140 [(0, .ref (gA g 52))] [] M := by
    intro n
    induction n with
    | zero =>
      intro M hw
      exact hw.elim
    | succ n ih =>
      intro M hw
      refine q_aload_n hC dX5_next_140 0 rfl 141 rfl ?_
      refine q_aload_n hC dX5_next_141 0 rfl 142 rfl ?_
      refine q_getI (C := RX5) (T := TX5) (N := 26) (ci := 5) hC inX5_next_X5 (obF52 hF) rfl 10 (by decide) (uX5_next__o _ (List.mem_of_getElem? (l := owX5_next) (i := 1) rfl)) rfl (fun _ => rfl) dX5_next_142 145 rfl ?_
      refine r_callI hC (go_V (q := (RX5, TX5, 26)) (As := [.int (M 52 10)]) (rest := []) hC (ctX5_look (zl z) g M (M 52 10) _ hF hw) 1 gX5_next_X5_look rfl ⟨rfl, rfl⟩ hdV_X5_look ⟨Nat.le_of_ble_eq_true rfl, Nat.le_of_ble_eq_true rfl⟩ (obF52 hF) rfl rfl rfl (Nat.le_of_ble_eq_true rfl) dX5_next_145) 148 rfl (fun r21 M22 hw => ?_)
      refine q_i2l hC dX5_next_148 149 rfl ?_
      refine q_ldc2 (v := 48) hC (uX5_next__o _ (List.mem_of_getElem? (l := owX5_next) (i := 5) rfl)) dX5_next_149 152 rfl ?_
      refine q_ldc2 (v := 57) hC (uX5_next__o _ (List.mem_of_getElem? (l := owX5_next) (i := 6) rfl)) dX5_next_152 155 rfl ?_
      refine r_callI hC (go_T (As := [.long (r21.toInt64), .long 48, .long 57]) (rest := []) hC (ctX5_in (zl z) g M22 (r21.toInt64) 48 57 _ hw) 3 gX5_next_X5_in rfl ⟨rfl, rfl⟩ hdT_X5_in ⟨Nat.le_of_ble_eq_true rfl, Nat.le_of_ble_eq_true rfl⟩ rfl rfl (Nat.le_of_ble_eq_true rfl) dX5_next_155) 158 rfl (fun r23 M24 hw => ?_)
      refine q_if_eq hC 217 dX5_next_158 (by decide) 161 rfl hw (fun hw => ?_) (fun hw => ?_)
      · refine q_aload_n hC dX5_next_217 0 rfl 218 rfl ?_
        refine q_aload_n hC dX5_next_218 0 rfl 219 rfl ?_
        refine q_getI (C := RX5) (T := TX5) (N := 26) (ci := 5) hC inX5_next_X5 (obF52 hF) rfl 10 (by decide) (uX5_next__o _ (List.mem_of_getElem? (l := owX5_next) (i := 1) rfl)) rfl (fun _ => rfl) dX5_next_219 222 rfl ?_
        refine q_aload_n hC dX5_next_222 0 rfl 223 rfl ?_
        refine q_getI (C := RX5) (T := TX5) (N := 26) (ci := 5) hC inX5_next_X5 (obF52 hF) rfl 11 (by decide) (uX5_next__X5_needs _ (List.mem_of_getElem? (l := owX5_needs) (i := 2) rfl)) rfl (fun _ => rfl) dX5_next_223 226 rfl ?_
        refine q_isub hC dX5_next_226 227 rfl ?_
        refine q_iconst (v := 4) hC dX5_next_227 rfl 228 rfl ?_
        refine q_icmp_gt hC 235 dX5_next_228 (by decide) 231 rfl hw (fun hw => ?_) (fun hw => ?_)
        · refine q_iconst (v := 0) hC dX5_next_235 rfl 236 rfl ?_
          exact XX.sub [] rfl (B236 M24 0 hw)
        · refine q_iconst (v := 1) hC dX5_next_231 rfl 232 rfl ?_
          refine q_goto hC 236 dX5_next_232 (by decide) ?_
          exact XX.sub [] rfl (B236 M24 1 hw)
      · refine q_aload_n hC dX5_next_161 0 rfl 162 rfl ?_
        refine q_aload_n hC dX5_next_162 0 rfl 163 rfl ?_
        refine q_getI (C := RX5) (T := TX5) (N := 26) (ci := 5) hC inX5_next_X5 (obF52 hF) rfl 10 (by decide) (uX5_next__o _ (List.mem_of_getElem? (l := owX5_next) (i := 1) rfl)) rfl (fun _ => rfl) dX5_next_163 166 rfl ?_
        refine q_aload_n hC dX5_next_166 0 rfl 167 rfl ?_
        refine q_getI (C := RX5) (T := TX5) (N := 26) (ci := 5) hC inX5_next_X5 (obF52 hF) rfl 11 (by decide) (uX5_next__X5_needs _ (List.mem_of_getElem? (l := owX5_needs) (i := 2) rfl)) rfl (fun _ => rfl) dX5_next_167 170 rfl ?_
        refine q_isub hC dX5_next_170 171 rfl ?_
        refine q_iconst (v := 4) hC dX5_next_171 rfl 172 rfl ?_
        refine q_icmp_ge hC 197 dX5_next_172 (by decide) 175 rfl hw (fun hw => ?_) (fun hw => ?_)
        · refine q_aload_n hC dX5_next_197 0 rfl 198 rfl ?_
          refine q_getI (C := RX5) (T := TX5) (N := 26) (ci := 5) hC inX5_next_X5 (obF52 hF) rfl 13 (by decide) (uX5_next__o _ (List.mem_of_getElem? (l := owX5_next) (i := 7) rfl)) rfl (fun _ => rfl) dX5_next_198 201 rfl ?_
          exact XX.sub [0] rfl (B201 _ (fun M hw => ih M hw) M24 (M24 52 13) hw)
        · refine q_bipush (v := 10) hC dX5_next_175 (by decide) 177 rfl ?_
          refine q_aload_n hC dX5_next_177 0 rfl 178 rfl ?_
          refine q_getI (C := RX5) (T := TX5) (N := 26) (ci := 5) hC inX5_next_X5 (obF52 hF) rfl 13 (by decide) (uX5_next__o _ (List.mem_of_getElem? (l := owX5_next) (i := 7) rfl)) rfl (fun _ => rfl) dX5_next_178 181 rfl ?_
          refine q_imul hC dX5_next_181 182 rfl ?_
          refine q_aload_n hC dX5_next_182 0 rfl 183 rfl ?_
          refine q_aload_n hC dX5_next_183 0 rfl 184 rfl ?_
          refine q_getI (C := RX5) (T := TX5) (N := 26) (ci := 5) hC inX5_next_X5 (obF52 hF) rfl 10 (by decide) (uX5_next__o _ (List.mem_of_getElem? (l := owX5_next) (i := 1) rfl)) rfl (fun _ => rfl) dX5_next_184 187 rfl ?_
          refine r_callI hC (go_V (q := (RX5, TX5, 26)) (As := [.int (M24 52 10)]) (rest := [.int ((10 : Int32) * (M24 52 13)), .ref (gA g 52)]) hC (ctX5_look (zl z) g M24 (M24 52 10) _ hF hw) 1 gX5_next_X5_look rfl ⟨rfl, rfl⟩ hdV_X5_look ⟨Nat.le_of_ble_eq_true rfl, Nat.le_of_ble_eq_true rfl⟩ (obF52 hF) rfl rfl rfl (Nat.le_of_ble_eq_true rfl) dX5_next_187) 190 rfl (fun r25 M26 hw => ?_)
          refine q_iadd hC dX5_next_190 191 rfl ?_
          refine q_bipush (v := 48) hC dX5_next_191 (by decide) 193 rfl ?_
          refine q_isub hC dX5_next_193 194 rfl ?_
          refine q_goto hC 201 dX5_next_194 (by decide) ?_
          exact XX.sub [0] rfl (B201 _ (fun M hw => ih M hw) M26 ((((10 : Int32) * (M24 52 13)) + r25) - (48 : Int32)) hw)
  have B82 : ∀ (n : Nat) (M : MM) , wX5_next_82 Q n M → XX z g Qf 2 82 [(0, .ref (gA g 52))] [] M := by
    intro n
    induction n with
    | zero =>
      intro M hw
      exact hw.elim
    | succ n ih =>
      intro M hw
      refine q_aload_n hC dX5_next_82 0 rfl 83 rfl ?_
      refine q_aload_n hC dX5_next_83 0 rfl 84 rfl ?_
      refine q_getI (C := RX5) (T := TX5) (N := 26) (ci := 5) hC inX5_next_X5 (obF52 hF) rfl 10 (by decide) (uX5_next__o _ (List.mem_of_getElem? (l := owX5_next) (i := 1) rfl)) rfl (fun _ => rfl) dX5_next_84 87 rfl ?_
      refine r_callI hC (go_V (q := (RX5, TX5, 26)) (As := [.int (M 52 10)]) (rest := []) hC (ctX5_look (zl z) g M (M 52 10) _ hF hw) 1 gX5_next_X5_look rfl ⟨rfl, rfl⟩ hdV_X5_look ⟨Nat.le_of_ble_eq_true rfl, Nat.le_of_ble_eq_true rfl⟩ (obF52 hF) rfl rfl rfl (Nat.le_of_ble_eq_true rfl) dX5_next_87) 90 rfl (fun r16 M17 hw => ?_)
      refine q_i2l hC dX5_next_90 91 rfl ?_
      refine q_ldc2 (v := 97) hC (uX5_next__o _ (List.mem_of_getElem? (l := owX5_next) (i := 3) rfl)) dX5_next_91 94 rfl ?_
      refine q_ldc2 (v := 122) hC (uX5_next__o _ (List.mem_of_getElem? (l := owX5_next) (i := 4) rfl)) dX5_next_94 97 rfl ?_
      refine r_callI hC (go_T (As := [.long (r16.toInt64), .long 97, .long 122]) (rest := []) hC (ctX5_in (zl z) g M17 (r16.toInt64) 97 122 _ hw) 3 gX5_next_X5_in rfl ⟨rfl, rfl⟩ hdT_X5_in ⟨Nat.le_of_ble_eq_true rfl, Nat.le_of_ble_eq_true rfl⟩ rfl rfl (Nat.le_of_ble_eq_true rfl) dX5_next_97) 100 rfl (fun r18 M19 hw => ?_)
      refine q_if_eq hC 274 dX5_next_100 (by decide) 103 rfl hw (fun hw => ?_) (fun hw => ?_)
      · exact r_vret hR dX5_next_274 hw
      · refine q_aload_n hC dX5_next_103 0 rfl 104 rfl ?_
        refine q_dup hC dX5_next_104 rfl 105 rfl ?_
        refine q_getI (C := RX5) (T := TX5) (N := 26) (ci := 5) hC inX5_next_X5 (obF52 hF) rfl 10 (by decide) (uX5_next__o _ (List.mem_of_getElem? (l := owX5_next) (i := 1) rfl)) rfl (fun _ => rfl) dX5_next_105 108 rfl ?_
        refine q_iconst (v := 1) hC dX5_next_108 rfl 109 rfl ?_
        refine q_iadd hC dX5_next_109 110 rfl ?_
        refine q_putI (C := RX5) (T := TX5) (N := 26) (ci := 5) hC inX5_next_X5 tyX5 tyX5_ok nmX5 (obF52 hF) rfl 10 (by decide) (uX5_next__o _ (List.mem_of_getElem? (l := owX5_next) (i := 1) rfl)) rfl rfl rfl (fun _ => Nat.le_of_ble_eq_true rfl) (fun _ => rfl) dX5_next_110 113 rfl (fun M20 eM20 => ?_)
        have hw := hw M20 eM20
        refine q_goto hC 82 dX5_next_113 (by decide) ?_
        exact XX.sub [0] rfl (ih M20 hw)
  have B8 : ∀ (n : Nat) (M : MM) , wX5_next_8 Q n M → XX z g Qf 2 8 [(0, .ref (gA g 52))] [] M := by
    intro n
    induction n with
    | zero =>
      intro M hw
      exact hw.elim
    | succ n ih =>
      intro M hw
      refine q_aload_n hC dX5_next_8 0 rfl 9 rfl ?_
      refine q_aload_n hC dX5_next_9 0 rfl 10 rfl ?_
      refine q_getI (C := RX5) (T := TX5) (N := 26) (ci := 5) hC inX5_next_X5 (obF52 hF) rfl 10 (by decide) (uX5_next__o _ (List.mem_of_getElem? (l := owX5_next) (i := 1) rfl)) rfl (fun _ => rfl) dX5_next_10 13 rfl ?_
      refine r_callI hC (go_V (q := (RX5, TX5, 26)) (As := [.int (M 52 10)]) (rest := []) hC (ctX5_look (zl z) g M (M 52 10) _ hF hw) 1 gX5_next_X5_look rfl ⟨rfl, rfl⟩ hdV_X5_look ⟨Nat.le_of_ble_eq_true rfl, Nat.le_of_ble_eq_true rfl⟩ (obF52 hF) rfl rfl rfl (Nat.le_of_ble_eq_true rfl) dX5_next_13) 16 rfl (fun r1 M2 hw => ?_)
      refine q_bipush (v := 32) hC dX5_next_16 (by decide) 18 rfl ?_
      refine q_icmp_ne hC 34 dX5_next_18 (by decide) 21 rfl hw (fun hw => ?_) (fun hw => ?_)
      · refine q_aload_n hC dX5_next_34 0 rfl 35 rfl ?_
        refine q_aload_n hC dX5_next_35 0 rfl 36 rfl ?_
        refine q_getI (C := RX5) (T := TX5) (N := 26) (ci := 5) hC inX5_next_X5 (obF52 hF) rfl 10 (by decide) (uX5_next__o _ (List.mem_of_getElem? (l := owX5_next) (i := 1) rfl)) rfl (fun _ => rfl) dX5_next_36 39 rfl ?_
        refine q_putI (C := RX5) (T := TX5) (N := 26) (ci := 5) hC inX5_next_X5 tyX5 tyX5_ok nmX5 (obF52 hF) rfl 11 (by decide) (uX5_next__X5_needs _ (List.mem_of_getElem? (l := owX5_needs) (i := 2) rfl)) rfl rfl rfl (fun _ => Nat.le_of_ble_eq_true rfl) (fun _ => rfl) dX5_next_39 42 rfl (fun M3 eM3 => ?_)
        have hw := hw M3 eM3
        refine q_aload_n hC dX5_next_42 0 rfl 43 rfl ?_
        refine q_aload_n hC dX5_next_43 0 rfl 44 rfl ?_
        refine q_getI (C := RX5) (T := TX5) (N := 26) (ci := 5) hC inX5_next_X5 (obF52 hF) rfl 10 (by decide) (uX5_next__o _ (List.mem_of_getElem? (l := owX5_next) (i := 1) rfl)) rfl (fun _ => rfl) dX5_next_44 47 rfl ?_
        refine r_callI hC (go_V (q := (RX5, TX5, 26)) (As := [.int (M3 52 10)]) (rest := []) hC (ctX5_look (zl z) g M3 (M3 52 10) _ hF hw) 1 gX5_next_X5_look rfl ⟨rfl, rfl⟩ hdV_X5_look ⟨Nat.le_of_ble_eq_true rfl, Nat.le_of_ble_eq_true rfl⟩ (obF52 hF) rfl rfl rfl (Nat.le_of_ble_eq_true rfl) dX5_next_47) 50 rfl (fun r4 M5 hw => ?_)
        refine q_istore_n (L' := [(1, .int r4), (0, .ref (gA g 52))]) hC dX5_next_50 (by decide) rfl 51 rfl ?_
        refine q_iload_n hC dX5_next_51 0 rfl 52 rfl ?_
        refine q_if_ge hC 63 dX5_next_52 (by decide) 55 rfl hw (fun hw => ?_) (fun hw => ?_)
        · refine q_iload_n hC dX5_next_63 0 rfl 64 rfl ?_
          refine q_i2l hC dX5_next_64 65 rfl ?_
          refine q_ldc2 (v := 97) hC (uX5_next__o _ (List.mem_of_getElem? (l := owX5_next) (i := 3) rfl)) dX5_next_65 68 rfl ?_
          refine q_ldc2 (v := 122) hC (uX5_next__o _ (List.mem_of_getElem? (l := owX5_next) (i := 4) rfl)) dX5_next_68 71 rfl ?_
          refine r_callI hC (go_T (As := [.long (r4.toInt64), .long 97, .long 122]) (rest := []) hC (ctX5_in (zl z) g M5 (r4.toInt64) 97 122 _ hw) 3 gX5_next_X5_in rfl ⟨rfl, rfl⟩ hdT_X5_in ⟨Nat.le_of_ble_eq_true rfl, Nat.le_of_ble_eq_true rfl⟩ rfl rfl (Nat.le_of_ble_eq_true rfl) dX5_next_71) 74 rfl (fun r6 M7 hw => ?_)
          refine q_if_eq hC 116 dX5_next_74 (by decide) 77 rfl hw (fun hw => ?_) (fun hw => ?_)
          · refine q_iload_n hC dX5_next_116 0 rfl 117 rfl ?_
            refine q_i2l hC dX5_next_117 118 rfl ?_
            refine q_ldc2 (v := 48) hC (uX5_next__o _ (List.mem_of_getElem? (l := owX5_next) (i := 5) rfl)) dX5_next_118 121 rfl ?_
            refine q_ldc2 (v := 57) hC (uX5_next__o _ (List.mem_of_getElem? (l := owX5_next) (i := 6) rfl)) dX5_next_121 124 rfl ?_
            refine r_callI hC (go_T (As := [.long (r4.toInt64), .long 48, .long 57]) (rest := []) hC (ctX5_in (zl z) g M7 (r4.toInt64) 48 57 _ hw) 3 gX5_next_X5_in rfl ⟨rfl, rfl⟩ hdT_X5_in ⟨Nat.le_of_ble_eq_true rfl, Nat.le_of_ble_eq_true rfl⟩ rfl rfl (Nat.le_of_ble_eq_true rfl) dX5_next_124) 127 rfl (fun r8 M9 hw => ?_)
            refine q_if_eq hC 243 dX5_next_127 (by decide) 130 rfl hw (fun hw => ?_) (fun hw => ?_)
            · refine q_aload_n hC dX5_next_243 1 rfl 244 rfl ?_
              refine q_iconst (v := 3) hC dX5_next_244 rfl 245 rfl ?_
              refine q_putI (C := RX5) (T := TX5) (N := 26) (ci := 5) hC inX5_next_X5 tyX5 tyX5_ok nmX5 (obF52 hF) rfl 12 (by decide) (uX5_next__o _ (List.mem_of_getElem? (l := owX5_next) (i := 2) rfl)) rfl rfl rfl (fun _ => Nat.le_of_ble_eq_true rfl) (fun _ => rfl) dX5_next_245 248 rfl (fun M10 eM10 => ?_)
              have hw := hw M10 eM10
              refine q_aload_n hC dX5_next_248 1 rfl 249 rfl ?_
              refine q_iload_n hC dX5_next_249 0 rfl 250 rfl ?_
              refine q_bipush (v := 59) hC dX5_next_250 (by decide) 252 rfl ?_
              refine q_icmp_ne hC 259 dX5_next_252 (by decide) 255 rfl hw (fun hw => ?_) (fun hw => ?_)
              · refine q_iconst (v := 0) hC dX5_next_259 rfl 260 rfl ?_
                exact XX.sub [1] rfl (B260 M10 0 hw)
              · refine q_iconst (v := 1) hC dX5_next_255 rfl 256 rfl ?_
                refine q_goto hC 260 dX5_next_256 (by decide) ?_
                exact XX.sub [1] rfl (B260 M10 1 hw)
            · refine q_aload_n hC dX5_next_130 1 rfl 131 rfl ?_
              refine q_iconst (v := 2) hC dX5_next_131 rfl 132 rfl ?_
              refine q_putI (C := RX5) (T := TX5) (N := 26) (ci := 5) hC inX5_next_X5 tyX5 tyX5_ok nmX5 (obF52 hF) rfl 12 (by decide) (uX5_next__o _ (List.mem_of_getElem? (l := owX5_next) (i := 2) rfl)) rfl rfl rfl (fun _ => Nat.le_of_ble_eq_true rfl) (fun _ => rfl) dX5_next_132 135 rfl (fun M11 eM11 => ?_)
              have hw := hw M11 eM11
              refine q_aload_n hC dX5_next_135 1 rfl 136 rfl ?_
              refine q_iconst (v := 0) hC dX5_next_136 rfl 137 rfl ?_
              refine q_putI (C := RX5) (T := TX5) (N := 26) (ci := 5) hC inX5_next_X5 tyX5 tyX5_ok nmX5 (obF52 hF) rfl 13 (by decide) (uX5_next__o _ (List.mem_of_getElem? (l := owX5_next) (i := 7) rfl)) rfl rfl rfl (fun _ => Nat.le_of_ble_eq_true rfl) (fun _ => rfl) dX5_next_137 140 rfl (fun M12 eM12 => ?_)
              have hw := hw M12 eM12
              obtain ⟨n0, hw⟩ := hw
              exact XX.sub [1] rfl (B140 n0 M12 hw)
          · refine q_aload_n hC dX5_next_77 1 rfl 78 rfl ?_
            refine q_iconst (v := 1) hC dX5_next_78 rfl 79 rfl ?_
            refine q_putI (C := RX5) (T := TX5) (N := 26) (ci := 5) hC inX5_next_X5 tyX5 tyX5_ok nmX5 (obF52 hF) rfl 12 (by decide) (uX5_next__o _ (List.mem_of_getElem? (l := owX5_next) (i := 2) rfl)) rfl rfl rfl (fun _ => Nat.le_of_ble_eq_true rfl) (fun _ => rfl) dX5_next_79 82 rfl (fun M13 eM13 => ?_)
            have hw := hw M13 eM13
            obtain ⟨n0, hw⟩ := hw
            exact XX.sub [1] rfl (B82 n0 M13 hw)
        · refine q_aload_n hC dX5_next_55 1 rfl 56 rfl ?_
          refine q_iconst (v := 0) hC dX5_next_56 rfl 57 rfl ?_
          refine q_putI (C := RX5) (T := TX5) (N := 26) (ci := 5) hC inX5_next_X5 tyX5 tyX5_ok nmX5 (obF52 hF) rfl 12 (by decide) (uX5_next__o _ (List.mem_of_getElem? (l := owX5_next) (i := 2) rfl)) rfl rfl rfl (fun _ => Nat.le_of_ble_eq_true rfl) (fun _ => rfl) dX5_next_57 60 rfl (fun M14 eM14 => ?_)
          have hw := hw M14 eM14
          refine q_goto hC 274 dX5_next_60 (by decide) ?_
          exact r_vret hR dX5_next_274 hw
      · refine q_aload_n hC dX5_next_21 0 rfl 22 rfl ?_
        refine q_dup hC dX5_next_22 rfl 23 rfl ?_
        refine q_getI (C := RX5) (T := TX5) (N := 26) (ci := 5) hC inX5_next_X5 (obF52 hF) rfl 10 (by decide) (uX5_next__o _ (List.mem_of_getElem? (l := owX5_next) (i := 1) rfl)) rfl (fun _ => rfl) dX5_next_23 26 rfl ?_
        refine q_iconst (v := 1) hC dX5_next_26 rfl 27 rfl ?_
        refine q_iadd hC dX5_next_27 28 rfl ?_
        refine q_putI (C := RX5) (T := TX5) (N := 26) (ci := 5) hC inX5_next_X5 tyX5 tyX5_ok nmX5 (obF52 hF) rfl 10 (by decide) (uX5_next__o _ (List.mem_of_getElem? (l := owX5_next) (i := 1) rfl)) rfl rfl rfl (fun _ => Nat.le_of_ble_eq_true rfl) (fun _ => rfl) dX5_next_28 31 rfl (fun M15 eM15 => ?_)
        have hw := hw M15 eM15
        refine q_goto hC 8 dX5_next_31 (by decide) ?_
        exact XX.sub [0] rfl (ih M15 hw)
  refine q_aload_n hC dX5_next_0 0 rfl 1 rfl ?_
  refine q_getI (C := RX5) (T := TX5) (N := 26) (ci := 5) hC inX5_next_X5 (obF52 hF) rfl 14 (by decide) (uX5_next__X5_needs _ (List.mem_of_getElem? (l := owX5_needs) (i := 1) rfl)) rfl (fun _ => rfl) dX5_next_1 4 rfl ?_
  refine q_if_le hC 8 dX5_next_4 (by decide) 7 rfl hw (fun hw => ?_) (fun hw => ?_)
  · obtain ⟨n0, hw⟩ := hw
    exact XX.sub [0] rfl (B8 n0 M hw)
  · exact r_vret hR dX5_next_7 hw
