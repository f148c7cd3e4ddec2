theorem inX5_fault_X5 : ∀ w ∈ u_ws RX5 TX5 26, w ∈ wsX5_fault := uX5_fault__wsX50
set_option maxRecDepth 100000 in
set_option maxHeartbeats 4000000 in
theorem ctX5_fault (l : Launch) (g : GG) (M : MM)  (Q : Int32 → MM → Prop) (hF : ful5 g) (hw : wX5_fault Q M ) : MI g l yX5_fault wsX5_fault (rmOf 0 0) [.ref (gA g 52)] M Q := by
  refine mk_MI (cc := cX5_fault) (maxL := 1) (by decide) rfl (Nat.le_of_ble_eq_true rfl) ?_
  intro z Qf hC hR
  show XX z g Qf 1 0 [(0, .ref (gA g 52))] [] M
  refine q_aload_n hC dX5_fault_0 0 rfl 1 rfl ?_
  refine q_getI (C := RX5) (T := TX5) (N := 26) (ci := 5) hC inX5_fault_X5 (obF52 hF) rfl 14 (by decide) (uX5_fault__o _ (List.mem_of_getElem? (l := owX5_fault) (i := 1) rfl)) rfl (fun _ => rfl) dX5_fault_1 4 rfl ?_
  exact r_iret hR dX5_fault_4 hw
theorem inX5_rule_X5 : ∀ w ∈ u_ws RX5 TX5 26, w ∈ wsX5_rule := uX5_rule__wsX50
set_option maxRecDepth 100000 in
set_option maxHeartbeats 4000000 in
theorem ctX5_rule (l : Launch) (g : GG) (M : MM) (v1 : Int32) (Q : Int32 → MM → Prop) (hF : ful5 g) (hw : wX5_rule Q M v1) : MI g l yX5_rule wsX5_rule (rmOf 1 25) [.ref (gA g 52), .int v1] M Q := by
  refine mk_MI (cc := cX5_rule) (maxL := 2) (by decide) rfl (Nat.le_of_ble_eq_true rfl) ?_
  intro z Qf hC hR
  show XX z g Qf 2 0 [(0, .ref (gA g 52)), (1, .int v1)] [] M
  refine q_iload_n hC dX5_rule_0 1 rfl 1 rfl ?_
  refine q_if_ne hC 15 dX5_rule_1 (by decide) 4 rfl hw (fun hw => ?_) (fun hw => ?_)
  · refine q_iload_n hC dX5_rule_15 1 rfl 16 rfl ?_
    refine q_i2l hC dX5_rule_16 17 rfl ?_
    refine q_lconst (v := 1) hC dX5_rule_17 rfl 18 rfl ?_
    refine q_ldc2 (v := 8) hC (uX5_rule__o _ (List.mem_of_getElem? (l := owX5_rule) (i := 2) rfl)) dX5_rule_18 21 rfl ?_
    refine r_callI hC (go_T (As := [.long (v1.toInt64), .long 1, .long 8]) (rest := []) hC (ctX5_in (zl z) g M (v1.toInt64) 1 8 _ hw) 3 gX5_rule_X5_in rfl ⟨rfl, rfl⟩ hdT_X5_in ⟨Nat.le_of_ble_eq_true rfl, Nat.le_of_ble_eq_true rfl⟩ rfl rfl (Nat.le_of_ble_eq_true rfl) dX5_rule_21) 24 rfl (fun r1 M2 hw => ?_)
    refine q_if_eq hC 36 dX5_rule_24 (by decide) 27 rfl hw (fun hw => ?_) (fun hw => ?_)
    · refine q_iconst (v := (-1)) hC dX5_rule_36 rfl 37 rfl ?_
      exact r_iret hR dX5_rule_37 hw
    · refine q_aload_n hC dX5_rule_27 0 rfl 28 rfl ?_
      refine q_getR (C := RX5) (T := TX5) (N := 26) (ci := 5) hC inX5_rule_X5 (obF52 hF) rfl 2 (by decide) (uX5_rule__o _ (List.mem_of_getElem? (l := owX5_rule) (i := 3) rfl)) rfl 55 (fun _ => rfl) dX5_rule_28 31 rfl ?_
      refine q_iload_n hC dX5_rule_31 1 rfl 32 rfl ?_
      obtain ⟨hin, hw⟩ := hw
      refine q_iald hC (arF55 hF) hin dX5_rule_32 33 rfl ?_
      refine q_goto hC 37 dX5_rule_33 (by decide) ?_
      exact r_iret hR dX5_rule_37 hw
  · refine q_aload_n hC dX5_rule_4 0 rfl 5 rfl ?_
    refine q_getR (C := RX5) (T := TX5) (N := 26) (ci := 5) hC inX5_rule_X5 (obF52 hF) rfl 0 (by decide) (uX5_rule__o _ (List.mem_of_getElem? (l := owX5_rule) (i := 1) rfl)) rfl 53 (fun _ => rfl) dX5_rule_5 8 rfl ?_
    refine q_sipush (v := 366) hC dX5_rule_8 (by decide) 11 rfl ?_
    refine q_ialdL hC (arF53 hF) 366 (by decide +kernel) (by decide +kernel) dX5_rule_11 12 rfl ?_
    refine q_goto hC 37 dX5_rule_12 (by decide) ?_
    exact r_iret hR dX5_rule_37 hw
set_option maxRecDepth 100000 in
set_option maxHeartbeats 4000000 in
theorem ctX5_turnsOf (l : Launch) (g : GG) (M : MM) (v0 : Int32) (v1 : Int32) (v2 : Int32) (Q : Int32 → MM → Prop)  (hw : wX5_turnsOf Q M v0 v1 v2) : MI g l yX5_turnsOf wsX5_turnsOf (rmOf 0 0) [.int v0, .int v1, .int v2] M Q := by
  refine mk_MI (cc := cX5_turnsOf) (maxL := 5) (by decide) rfl (Nat.le_of_ble_eq_true rfl) ?_
  intro z Qf hC hR
  show XX z g Qf 5 0 [(0, .int v0), (1, .int v1), (2, .int v2)] [] M
  have B5 : ∀ (n : Nat) (M : MM) (v3 : Int32) (v4 : Int32) , wX5_turnsOf_5 Q v0 v1 v2 n M v3 v4 → XX z g Qf 5 5 [(0, .int v0), (1, .int v1), (2, .int v2), (3, .int v3), (4, .int v4)] [] M := by
    intro n
    induction n with
    | zero =>
      intro M v3 v4 hw
      exact hw.elim
    | succ n ih =>
      intro M v3 v4 hw
      refine q_iload hC dX5_turnsOf_5 4 rfl 7 rfl ?_
      refine q_iload_n hC dX5_turnsOf_7 1 rfl 8 rfl ?_
      refine q_iadd hC dX5_turnsOf_8 9 rfl ?_
      refine q_iload_n hC dX5_turnsOf_9 2 rfl 10 rfl ?_
      refine q_iload_n hC dX5_turnsOf_10 3 rfl 11 rfl ?_
      refine q_imul hC dX5_turnsOf_11 12 rfl ?_
      refine q_iadd hC dX5_turnsOf_12 13 rfl ?_
      refine q_iload_n hC dX5_turnsOf_13 0 rfl 14 rfl ?_
      refine q_icmp_gt hC 33 dX5_turnsOf_14 (by decide) 17 rfl hw (fun hw => ?_) (fun hw => ?_)
      · refine q_iload_n hC dX5_turnsOf_33 3 rfl 34 rfl ?_
        exact r_iret hR dX5_turnsOf_34 hw
      · refine q_iload hC dX5_turnsOf_17 4 rfl 19 rfl ?_
        refine q_iload_n hC dX5_turnsOf_19 1 rfl 20 rfl ?_
        refine q_iload_n hC dX5_turnsOf_20 2 rfl 21 rfl ?_
        refine q_iload_n hC dX5_turnsOf_21 3 rfl 22 rfl ?_
        refine q_imul hC dX5_turnsOf_22 23 rfl ?_
        refine q_iadd hC dX5_turnsOf_23 24 rfl ?_
        refine q_iadd hC dX5_turnsOf_24 25 rfl ?_
        refine q_nameI (fun x1 ex1 => ?_)
        have hw := hw x1 ex1
        refine q_istore (L' := [(4, .int x1), (0, .int v0), (1, .int v1), (2, .int v2), (3, .int v3)]) hC dX5_turnsOf_25 (by decide) rfl 27 rfl ?_
        refine q_iinc (v := v3 + 1) (L' := [(3, .int (v3 + 1)), (4, .int x1), (0, .int v0), (1, .int v1), (2, .int v2)]) hC dX5_turnsOf_27 4 rfl rfl (by decide) rfl 30 rfl ?_
        refine q_goto hC 5 dX5_turnsOf_30 (by decide) ?_
        exact XX.sub [2, 3, 4, 0, 1] rfl (ih M (v3 + 1) x1 hw)
  refine q_iconst (v := 0) hC dX5_turnsOf_0 rfl 1 rfl ?_
  refine q_istore_n (L' := [(3, .int 0), (0, .int v0), (1, .int v1), (2, .int v2)]) hC dX5_turnsOf_1 (by decide) rfl 2 rfl ?_
  refine q_iconst (v := 0) hC dX5_turnsOf_2 rfl 3 rfl ?_
  refine q_istore (L' := [(4, .int 0), (3, .int 0), (0, .int v0), (1, .int v1), (2, .int v2)]) hC dX5_turnsOf_3 (by decide) rfl 5 rfl ?_
  obtain ⟨n0, hw⟩ := hw
  exact XX.sub [2, 3, 4, 1, 0] rfl (B5 n0 M 0 0 hw)
theorem hdT_X5_turnsOf : yX5_turnsOf.cls ≠ "java/lang/invoke/MethodHandle" ∧ yX5_turnsOf.cls ≠ "java/lang/invoke/VarHandle" ∧ (parseMethodDescriptor yX5_turnsOf.desc).map (fun d => d.parameters.length) = some 3 := by decide +kernel
theorem inX5_turnsAt_X5 : ∀ w ∈ u_ws RX5 TX5 26, w ∈ wsX5_turnsAt := uX5_turnsAt__wsX50
set_option maxRecDepth 100000 in
set_option maxHeartbeats 4000000 in
theorem ctX5_turnsAt (l : Launch) (g : GG) (M : MM) (v1 : Int32) (Q : Int32 → MM → Prop) (hF : ful5 g) (hw : wX5_turnsAt Q M v1) : MI g l yX5_turnsAt wsX5_turnsAt (rmOf 1 24) [.ref (gA g 52), .int v1] M Q := by
  refine mk_MI (cc := cX5_turnsAt) (maxL := 2) (by decide) rfl (Nat.le_of_ble_eq_true rfl) ?_
  intro z Qf hC hR
  show XX z g Qf 2 0 [(0, .ref (gA g 52)), (1, .int v1)] [] M
  refine q_iload_n hC dX5_turnsAt_0 1 rfl 1 rfl ?_
  refine q_aload_n hC dX5_turnsAt_1 0 rfl 2 rfl ?_
  refine q_getR (C := RX5) (T := TX5) (N := 26) (ci := 5) hC inX5_turnsAt_X5 (obF52 hF) rfl 2 (by decide) (uX5_turnsAt__o _ (List.mem_of_getElem? (l := owX5_turnsAt) (i := 1) rfl)) rfl 55 (fun _ => rfl) dX5_turnsAt_2 5 rfl ?_
  refine q_iconst (v := 1) hC dX5_turnsAt_5 rfl 6 rfl ?_
  refine q_ialdL hC (arF55 hF) 1 (by decide +kernel) (by decide +kernel) dX5_turnsAt_6 7 rfl ?_
  refine q_aload_n hC dX5_turnsAt_7 0 rfl 8 rfl ?_
  refine q_getR (C := RX5) (T := TX5) (N := 26) (ci := 5) hC inX5_turnsAt_X5 (obF52 hF) rfl 2 (by decide) (uX5_turnsAt__o _ (List.mem_of_getElem? (l := owX5_turnsAt) (i := 1) rfl)) rfl 55 (fun _ => rfl) dX5_turnsAt_8 11 rfl ?_
  refine q_iconst (v := 2) hC dX5_turnsAt_11 rfl 12 rfl ?_
  refine q_ialdL hC (arF55 hF) 2 (by decide +kernel) (by decide +kernel) dX5_turnsAt_12 13 rfl ?_
  refine r_callI hC (go_T (As := [.int v1, .int (M 55 1), .int (M 55 2)]) (rest := []) hC (ctX5_turnsOf (zl z) g M v1 (M 55 1) (M 55 2) _ hw) 3 gX5_turnsAt_X5_turnsOf rfl ⟨rfl, rfl⟩ hdT_X5_turnsOf ⟨Nat.le_of_ble_eq_true rfl, Nat.le_of_ble_eq_true rfl⟩ rfl rfl (Nat.le_of_ble_eq_true rfl) dX5_turnsAt_13) 16 rfl (fun r1 M2 hw => ?_)
  exact r_iret hR dX5_turnsAt_16 hw
theorem inX5_isPlace_X5 : ∀ w ∈ u_ws RX5 TX5 26, w ∈ wsX5_isPlace := uX5_isPlace__wsX50
set_option maxRecDepth 100000 in
set_option maxHeartbeats 4000000 in
theorem ctX5_isPlace (l : Launch) (g : GG) (M : MM) (v1 : Int32) (Q : Int32 → MM → Prop) (hF : ful5 g) (hw : wX5_isPlace Q M v1) : MI g l yX5_isPlace wsX5_isPlace (rmOf 1 25) [.ref (gA g 52), .int v1] M Q := by
  refine mk_MZ (cc := cX5_isPlace) (maxL := 2) (by decide) rfl (Nat.le_of_ble_eq_true rfl) ?_
  intro z Qf hC hR
  show XX z g Qf 2 0 [(0, .ref (gA g 52)), (1, .int v1)] [] M
  refine q_iload_n hC dX5_isPlace_0 1 rfl 1 rfl ?_
  refine q_i2l hC dX5_isPlace_1 2 rfl ?_
  refine q_lconst (v := 0) hC dX5_isPlace_2 rfl 3 rfl ?_
  refine q_aload_n hC dX5_isPlace_3 0 rfl 4 rfl ?_
  refine q_getR (C := RX5) (T := TX5) (N := 26) (ci := 5) hC inX5_isPlace_X5 (obF52 hF) rfl 0 (by decide) (uX5_isPlace__o _ (List.mem_of_getElem? (l := owX5_isPlace) (i := 1) rfl)) rfl 53 (fun _ => rfl) dX5_isPlace_4 7 rfl ?_
  refine q_sipush (v := 366) hC dX5_isPlace_7 (by decide) 10 rfl ?_
  refine q_ialdL hC (arF53 hF) 366 (by decide +kernel) (by decide +kernel) dX5_isPlace_10 11 rfl ?_
  refine q_i2l hC dX5_isPlace_11 12 rfl ?_
  refine r_callI hC (go_T (As := [.long (v1.toInt64), .long 0, .long ((M 53 366).toInt64)]) (rest := []) hC (ctX5_in (zl z) g M (v1.toInt64) 0 ((M 53 366).toInt64) _ hw) 3 gX5_isPlace_X5_in rfl ⟨rfl, rfl⟩ hdT_X5_in ⟨Nat.le_of_ble_eq_true rfl, Nat.le_of_ble_eq_true rfl⟩ rfl rfl (Nat.le_of_ble_eq_true rfl) dX5_isPlace_12) 15 rfl (fun r1 M2 hw => ?_)
  exact r_iret hR dX5_isPlace_15 hw
theorem hdV_X5_isPlace : yX5_isPlace.cls = RX5 ∧ yX5_isPlace.cls ≠ "java/lang/invoke/MethodHandle" ∧ yX5_isPlace.cls ≠ "java/lang/invoke/VarHandle" ∧ (parseMethodDescriptor yX5_isPlace.desc).map (fun d => d.parameters.length) = some 1 := by decide +kernel
theorem hdV_X5_turnsAt : yX5_turnsAt.cls = RX5 ∧ yX5_turnsAt.cls ≠ "java/lang/invoke/MethodHandle" ∧ yX5_turnsAt.cls ≠ "java/lang/invoke/VarHandle" ∧ (parseMethodDescriptor yX5_turnsAt.desc).map (fun d => d.parameters.length) = some 1 := by decide +kernel
theorem inX5_turns_X5 : ∀ w ∈ u_ws RX5 TX5 26, w ∈ wsX5_turns := uX5_turns__wsX50
set_option maxRecDepth 100000 in
set_option maxHeartbeats 4000000 in
theorem ctX5_turns (l : Launch) (g : GG) (M : MM) (v1 : Int32) (v2 : Int32) (Q : Int32 → MM → Prop) (hF : ful5 g) (hw : wX5_turns Q M v1 v2) : MI g l yX5_turns wsX5_turns (rmOf 2 46) [.ref (gA g 52), .int v1, .int v2] M Q := by
  refine mk_MI (cc := cX5_turns) (maxL := 3) (by decide) rfl (Nat.le_of_ble_eq_true rfl) ?_
  intro z Qf hC hR
  show XX z g Qf 3 0 [(0, .ref (gA g 52)), (1, .int v1), (2, .int v2)] [] M
  have B31 : ∀ (M : MM) (p0 : Int32), wX5_turns_31 Q v1 v2 M p0 → XX z g Qf 3 31 [] [.int p0, .ref (gA g 52)] M := by
    intro M p0 hw
    refine r_callI hC (go_V (q := (RX5, TX5, 26)) (As := [.int p0]) (rest := []) hC (ctX5_turnsAt (zl z) g M p0 _ hF hw) 1 gX5_turns_X5_turnsAt rfl ⟨rfl, rfl⟩ hdV_X5_turnsAt ⟨Nat.le_of_ble_eq_true rfl, Nat.le_of_ble_eq_true rfl⟩ (obF52 hF) rfl rfl rfl (Nat.le_of_ble_eq_true rfl) dX5_turns_31) 34 rfl (fun r3 M4 hw => ?_)
    exact r_iret hR dX5_turns_34 hw
  refine q_aload_n hC dX5_turns_0 0 rfl 1 rfl ?_
  refine q_iload_n hC dX5_turns_1 1 rfl 2 rfl ?_
  refine r_callI hC (go_V (q := (RX5, TX5, 26)) (As := [.int v1]) (rest := []) hC (ctX5_isPlace (zl z) g M v1 _ hF hw) 1 gX5_turns_X5_isPlace rfl ⟨rfl, rfl⟩ hdV_X5_isPlace ⟨Nat.le_of_ble_eq_true rfl, Nat.le_of_ble_eq_true rfl⟩ (obF52 hF) rfl rfl rfl (Nat.le_of_ble_eq_true rfl) dX5_turns_2) 5 rfl (fun r1 M2 hw => ?_)
  refine q_if_ne hC 12 dX5_turns_5 (by decide) 8 rfl hw (fun hw => ?_) (fun hw => ?_)
  · refine q_aload_n hC dX5_turns_12 0 rfl 13 rfl ?_
    refine q_iload_n hC dX5_turns_13 2 rfl 14 rfl ?_
    refine q_if_eq hC 30 dX5_turns_14 (by decide) 17 rfl hw (fun hw => ?_) (fun hw => ?_)
    · refine q_iload_n hC dX5_turns_30 1 rfl 31 rfl ?_
      exact XX.sub [] rfl (B31 M2 v1 hw)
    · refine q_aload_n hC dX5_turns_17 0 rfl 18 rfl ?_
      refine q_getR (C := RX5) (T := TX5) (N := 26) (ci := 5) hC inX5_turns_X5 (obF52 hF) rfl 0 (by decide) (uX5_turns__X5_isPlace _ (List.mem_of_getElem? (l := owX5_isPlace) (i := 1) rfl)) rfl 53 (fun _ => rfl) dX5_turns_18 21 rfl ?_
      refine q_sipush (v := 366) hC dX5_turns_21 (by decide) 24 rfl ?_
      refine q_ialdL hC (arF53 hF) 366 (by decide +kernel) (by decide +kernel) dX5_turns_24 25 rfl ?_
      refine q_iload_n hC dX5_turns_25 1 rfl 26 rfl ?_
      refine q_isub hC dX5_turns_26 27 rfl ?_
      refine q_goto hC 31 dX5_turns_27 (by decide) ?_
      exact XX.sub [] rfl (B31 M2 ((M2 53 366) - v1) hw)
  · refine q_iconst (v := (-1)) hC dX5_turns_8 rfl 9 rfl ?_
    refine q_goto hC 34 dX5_turns_9 (by decide) ?_
    exact r_iret hR dX5_turns_34 hw
theorem inX5_shows_X5 : ∀ w ∈ u_ws RX5 TX5 26, w ∈ wsX5_shows := uX5_shows__wsX50
set_option maxRecDepth 100000 in
set_option maxHeartbeats 4000000 in
theorem ctX5_shows (l : Launch) (g : GG) (M : MM) (v1 : Int32) (v2 : Int32) (Q : Int32 → MM → Prop) (hF : ful5 g) (hw : wX5_shows Q M v1 v2) : MI g l yX5_shows wsX5_shows (rmOf 2 45) [.ref (gA g 52), .int v1, .int v2] M Q := by
  refine mk_MI (cc := cX5_shows) (maxL := 6) (by decide) rfl (Nat.le_of_ble_eq_true rfl) ?_
  intro z Qf hC hR
  show XX z g Qf 6 0 [(0, .ref (gA g 52)), (1, .int v1), (2, .int v2)] [] M
  have B66 : ∀ (K26 : MM → Int32 → Int32 → Int32 → Prop) (hK26 : ∀ (M : MM) (v3 : Int32) (v4 : Int32) (v5 : Int32) , K26 M v3 v4 v5 → XX z g Qf 6 26 [(0, .ref (gA g 52)), (1, .int v1), (2, .int v2), (3, .int v3), (4, .int v4), (5, .int v5)] [] M) (M : MM) (v3 : Int32) (v4 : Int32) (v5 : Int32), wX5_shows_66 Q K26 v1 v2 M v3 v4 v5 → XX z g Qf 6 66 [(0, .ref (gA g 52)), (1, .int v1), (2, .int v2), (3, .int v3), (4, .int v4), (5, .int v5)] [] M := by
    intro K26 hK26 M v3 v4 v5 hw
    refine q_iinc (v := v5 + 1) (L' := [(5, .int (v5 + 1)), (0, .ref (gA g 52)), (1, .int v1), (2, .int v2), (3, .int v3), (4, .int v4)]) hC dX5_shows_66 5 rfl rfl (by decide) rfl 69 rfl ?_
    refine q_goto hC 26 dX5_shows_69 (by decide) ?_
    exact XX.sub [1, 2, 3, 4, 5, 0] rfl (hK26 M v3 v4 (v5 + 1) hw)
  have B61 : ∀ (K26 : MM → Int32 → Int32 → Int32 → Prop) (hK26 : ∀ (M : MM) (v3 : Int32) (v4 : Int32) (v5 : Int32) , K26 M v3 v4 v5 → XX z g Qf 6 26 [(0, .ref (gA g 52)), (1, .int v1), (2, .int v2), (3, .int v3), (4, .int v4), (5, .int v5)] [] M) (M : MM) (v5 : Int32) (p0 : Int32), wX5_shows_61 Q K26 v1 v2 M v5 p0 → XX z g Qf 6 61 [(0, .ref (gA g 52)), (1, .int v1), (2, .int v2), (5, .int v5)] [.int p0] M := by
    intro K26 hK26 M v5 p0 hw
    refine q_istore_n (L' := [(3, .int p0), (0, .ref (gA g 52)), (1, .int v1), (2, .int v2), (5, .int v5)]) hC dX5_shows_61 (by decide) rfl 62 rfl ?_
    refine q_iload hC dX5_shows_62 4 rfl 64 rfl ?_
    refine q_istore (L' := [(4, .int v5), (3, .int p0), (0, .ref (gA g 52)), (1, .int v1), (2, .int v2), (5, .int v5)]) hC dX5_shows_64 (by decide) rfl 66 rfl ?_
    exact XX.sub [2, 3, 4, 1, 0, 5] rfl (B66 _ hK26 M p0 v5 v5 hw)
  have B26 : ∀ (n : Nat) (M : MM) (v3 : Int32) (v4 : Int32) (v5 : Int32) , wX5_shows_26 Q v1 v2 n M v3 v4 v5 → XX z g Qf 6 26 [(0, .ref (gA g 52)), (1, .int v1), (2, .int v2), (3, .int v3), (4, .int v4), (5, .int v5)] [] M := by
    intro n
    induction n with
    | zero =>
      intro M v3 v4 v5 hw
      exact hw.elim
    | succ n ih =>
      intro M v3 v4 v5 hw
      refine q_iload hC dX5_shows_26 5 rfl 28 rfl ?_
      refine q_aload_n hC dX5_shows_28 0 rfl 29 rfl ?_
      refine q_getR (C := RX5) (T := TX5) (N := 26) (ci := 5) hC inX5_shows_X5 (obF52 hF) rfl 0 (by decide) (uX5_shows__o _ (List.mem_of_getElem? (l := owX5_shows) (i := 1) rfl)) rfl 53 (fun _ => rfl) dX5_shows_29 32 rfl ?_
      refine q_sipush (v := 366) hC dX5_shows_32 (by decide) 35 rfl ?_
      refine q_ialdL hC (arF53 hF) 366 (by decide +kernel) (by decide +kernel) dX5_shows_35 36 rfl ?_
      refine q_icmp_gt hC 72 dX5_shows_36 (by decide) 39 rfl hw (fun hw => ?_) (fun hw => ?_)
      · refine q_iload_n hC dX5_shows_72 2 rfl 73 rfl ?_
        refine q_if_ne hC 80 dX5_shows_73 (by decide) 76 rfl hw (fun hw => ?_) (fun hw => ?_)
        · refine q_iload hC dX5_shows_80 4 rfl 82 rfl ?_
          exact r_iret hR dX5_shows_82 hw
        · refine q_iload_n hC dX5_shows_76 3 rfl 77 rfl ?_
          refine q_goto hC 82 dX5_shows_77 (by decide) ?_
          exact r_iret hR dX5_shows_82 hw
      · refine q_aload_n hC dX5_shows_39 0 rfl 40 rfl ?_
        refine q_iload hC dX5_shows_40 5 rfl 42 rfl ?_
        refine r_callI hC (go_V (q := (RX5, TX5, 26)) (As := [.int v5]) (rest := []) hC (ctX5_turnsAt (zl z) g M v5 _ hF hw) 1 gX5_shows_X5_turnsAt rfl ⟨rfl, rfl⟩ hdV_X5_turnsAt ⟨Nat.le_of_ble_eq_true rfl, Nat.le_of_ble_eq_true rfl⟩ (obF52 hF) rfl rfl rfl (Nat.le_of_ble_eq_true rfl) dX5_shows_42) 45 rfl (fun r3 M4 hw => ?_)
        refine q_iload_n hC dX5_shows_45 1 rfl 46 rfl ?_
        refine q_icmp_ne hC 66 dX5_shows_46 (by decide) 49 rfl hw (fun hw => ?_) (fun hw => ?_)
        · exact XX.sub [0, 1, 2, 3, 4, 5] rfl (B66 _ (fun M v3 v4 v5 hw => ih M v3 v4 v5 hw) M4 v3 v4 v5 hw)
        · refine q_iload_n hC dX5_shows_49 3 rfl 50 rfl ?_
          refine q_bipush (v := (-4)) hC dX5_shows_50 (by decide) 52 rfl ?_
          refine q_icmp_ne hC 60 dX5_shows_52 (by decide) 55 rfl hw (fun hw => ?_) (fun hw => ?_)
          · refine q_iload_n hC dX5_shows_60 3 rfl 61 rfl ?_
            exact XX.sub [0, 1, 2, 5] rfl (B61 _ (fun M v3 v4 v5 hw => ih M v3 v4 v5 hw) M4 v5 v3 hw)
          · refine q_iload hC dX5_shows_55 5 rfl 57 rfl ?_
            refine q_goto hC 61 dX5_shows_57 (by decide) ?_
            exact XX.sub [0, 1, 2, 5] rfl (B61 _ (fun M v3 v4 v5 hw => ih M v3 v4 v5 hw) M4 v5 v5 hw)
  refine q_iload_n hC dX5_shows_0 1 rfl 1 rfl ?_
  refine q_if_lt hC 14 dX5_shows_1 (by decide) 4 rfl hw (fun hw => ?_) (fun hw => ?_)
  · refine q_iconst (v := (-1)) hC dX5_shows_14 rfl 15 rfl ?_
    exact r_iret hR dX5_shows_15 hw
  · refine q_iload_n hC dX5_shows_4 2 rfl 5 rfl ?_
    refine q_i2l hC dX5_shows_5 6 rfl ?_
    refine q_lconst (v := 0) hC dX5_shows_6 rfl 7 rfl ?_
    refine q_lconst (v := 1) hC dX5_shows_7 rfl 8 rfl ?_
    refine r_callI hC (go_T (As := [.long (v2.toInt64), .long 0, .long 1]) (rest := []) hC (ctX5_in (zl z) g M (v2.toInt64) 0 1 _ hw) 3 gX5_shows_X5_in rfl ⟨rfl, rfl⟩ hdT_X5_in ⟨Nat.le_of_ble_eq_true rfl, Nat.le_of_ble_eq_true rfl⟩ rfl rfl (Nat.le_of_ble_eq_true rfl) dX5_shows_8) 11 rfl (fun r1 M2 hw => ?_)
    refine q_if_ne hC 16 dX5_shows_11 (by decide) 14 rfl hw (fun hw => ?_) (fun hw => ?_)
    · refine q_bipush (v := (-4)) hC dX5_shows_16 (by decide) 18 rfl ?_
      refine q_istore_n (L' := [(3, .int (-4)), (0, .ref (gA g 52)), (1, .int v1), (2, .int v2)]) hC dX5_shows_18 (by decide) rfl 19 rfl ?_
      refine q_bipush (v := (-4)) hC dX5_shows_19 (by decide) 21 rfl ?_
      refine q_istore (L' := [(4, .int (-4)), (3, .int (-4)), (0, .ref (gA g 52)), (1, .int v1), (2, .int v2)]) hC dX5_shows_21 (by decide) rfl 23 rfl ?_
      refine q_iconst (v := 0) hC dX5_shows_23 rfl 24 rfl ?_
      refine q_istore (L' := [(5, .int 0), (4, .int (-4)), (3, .int (-4)), (0, .ref (gA g 52)), (1, .int v1), (2, .int v2)]) hC dX5_shows_24 (by decide) rfl 26 rfl ?_
      obtain ⟨n0, hw⟩ := hw
      exact XX.sub [3, 4, 5, 2, 1, 0] rfl (B26 n0 M2 (-4) (-4) 0 hw)
    · refine q_iconst (v := (-1)) hC dX5_shows_14 rfl 15 rfl ?_
      exact r_iret hR dX5_shows_15 hw
theorem inX5_meet_X5 : ∀ w ∈ u_ws RX5 TX5 26, w ∈ wsX5_meet := uX5_meet__wsX50
set_option maxRecDepth 100000 in
set_option maxHeartbeats 4000000 in
theorem ctX5_meet (l : Launch) (g : GG) (M : MM)  (Q : Int32 → MM → Prop) (hF : ful5 g) (hw : wX5_meet Q M ) : MI g l yX5_meet wsX5_meet (rmOf 2 45) [.ref (gA g 52)] M Q := by
  refine mk_MI (cc := cX5_meet) (maxL := 2) (by decide) rfl (Nat.le_of_ble_eq_true rfl) ?_
  intro z Qf hC hR
  show XX z g Qf 2 0 [(0, .ref (gA g 52))] [] M
  have B2 : ∀ (n : Nat) (M : MM) (v1 : Int32) , wX5_meet_2 Q n M v1 → XX z g Qf 2 2 [(0, .ref (gA g 52)), (1, .int v1)] [] M := by
    intro n
    induction n with
    | zero =>
      intro M v1 hw
      exact hw.elim
    | succ n ih =>
      intro M v1 hw
      refine q_aload_n hC dX5_meet_2 0 rfl 3 rfl ?_
      refine q_iload_n hC dX5_meet_3 1 rfl 4 rfl ?_
      refine r_callI hC (go_V (q := (RX5, TX5, 26)) (As := [.int v1]) (rest := []) hC (ctX5_turnsAt (zl z) g M v1 _ hF hw) 1 gX5_meet_X5_turnsAt rfl ⟨rfl, rfl⟩ hdV_X5_turnsAt ⟨Nat.le_of_ble_eq_true rfl, Nat.le_of_ble_eq_true rfl⟩ (obF52 hF) rfl rfl rfl (Nat.le_of_ble_eq_true rfl) dX5_meet_4) 7 rfl (fun r1 M2 hw => ?_)
      refine q_aload_n hC dX5_meet_7 0 rfl 8 rfl ?_
      refine q_aload_n hC dX5_meet_8 0 rfl 9 rfl ?_
      refine q_getR (C := RX5) (T := TX5) (N := 26) (ci := 5) hC inX5_meet_X5 (obF52 hF) rfl 0 (by decide) (uX5_meet__o _ (List.mem_of_getElem? (l := owX5_meet) (i := 1) rfl)) rfl 53 (fun _ => rfl) dX5_meet_9 12 rfl ?_
      refine q_sipush (v := 366) hC dX5_meet_12 (by decide) 15 rfl ?_
      refine q_ialdL hC (arF53 hF) 366 (by decide +kernel) (by decide +kernel) dX5_meet_15 16 rfl ?_
      refine q_iload_n hC dX5_meet_16 1 rfl 17 rfl ?_
      refine q_isub hC dX5_meet_17 18 rfl ?_
      refine r_callI hC (go_V (q := (RX5, TX5, 26)) (As := [.int ((M2 53 366) - v1)]) (rest := [.int r1]) hC (ctX5_turnsAt (zl z) g M2 ((M2 53 366) - v1) _ hF hw) 1 gX5_meet_X5_turnsAt rfl ⟨rfl, rfl⟩ hdV_X5_turnsAt ⟨Nat.le_of_ble_eq_true rfl, Nat.le_of_ble_eq_true rfl⟩ (obF52 hF) rfl rfl rfl (Nat.le_of_ble_eq_true rfl) dX5_meet_18) 21 rfl (fun r3 M4 hw => ?_)
      refine q_icmp_ge hC 30 dX5_meet_21 (by decide) 24 rfl hw (fun hw => ?_) (fun hw => ?_)
      · refine q_iload_n hC dX5_meet_30 1 rfl 31 rfl ?_
        exact r_iret hR dX5_meet_31 hw
      · refine q_iinc (v := v1 + 1) (L' := [(1, .int (v1 + 1)), (0, .ref (gA g 52))]) hC dX5_meet_24 1 rfl rfl (by decide) rfl 27 rfl ?_
        refine q_goto hC 2 dX5_meet_27 (by decide) ?_
        exact XX.sub [1, 0] rfl (ih M4 (v1 + 1) hw)
  refine q_iconst (v := 0) hC dX5_meet_0 rfl 1 rfl ?_
  refine q_istore_n (L' := [(1, .int 0), (0, .ref (gA g 52))]) hC dX5_meet_1 (by decide) rfl 2 rfl ?_
  obtain ⟨n0, hw⟩ := hw
  exact XX.sub [1, 0] rfl (B2 n0 M 0 hw)
set_option maxRecDepth 100000 in
set_option maxHeartbeats 4000000 in
theorem ctX5_apart (l : Launch) (g : GG) (M : MM) (v0 : Int32) (v1 : Int32) (Q : Int32 → MM → Prop)  (hw : wX5_apart Q M v0 v1) : MI g l yX5_apart wsX5_apart (rmOf 0 0) [.int v0, .int v1] M Q := by
  refine mk_MI (cc := cX5_apart) (maxL := 2) (by decide) rfl (Nat.le_of_ble_eq_true rfl) ?_
  intro z Qf hC hR
  show XX z g Qf 2 0 [(0, .int v0), (1, .int v1)] [] M
  refine q_iload_n hC dX5_apart_0 0 rfl 1 rfl ?_
  refine q_iload_n hC dX5_apart_1 1 rfl 2 rfl ?_
  refine q_icmp_ge hC 11 dX5_apart_2 (by decide) 5 rfl hw (fun hw => ?_) (fun hw => ?_)
  · refine q_iload_n hC dX5_apart_11 0 rfl 12 rfl ?_
    refine q_iload_n hC dX5_apart_12 1 rfl 13 rfl ?_
    refine q_isub hC dX5_apart_13 14 rfl ?_
    exact r_iret hR dX5_apart_14 hw
  · refine q_iload_n hC dX5_apart_5 1 rfl 6 rfl ?_
    refine q_iload_n hC dX5_apart_6 0 rfl 7 rfl ?_
    refine q_isub hC dX5_apart_7 8 rfl ?_
    refine q_goto hC 14 dX5_apart_8 (by decide) ?_
    exact r_iret hR dX5_apart_14 hw
theorem hdT_X5_apart : yX5_apart.cls ≠ "java/lang/invoke/MethodHandle" ∧ yX5_apart.cls ≠ "java/lang/invoke/VarHandle" ∧ (parseMethodDescriptor yX5_apart.desc).map (fun d => d.parameters.length) = some 2 := by decide +kernel
theorem inX5_playedTo_X5 : ∀ w ∈ u_ws RX5 TX5 26, w ∈ wsX5_playedTo := uX5_playedTo__wsX50
set_option maxRecDepth 100000 in
set_option maxHeartbeats 4000000 in
theorem ctX5_playedTo (l : Launch) (g : GG) (M : MM) (v1 : Int32) (v2 : Int32) (Q : Int32 → MM → Prop) (hF : ful5 g) (hw : wX5_playedTo Q M v1 v2) : MI g l yX5_playedTo wsX5_playedTo (rmOf 1 21) [.ref (gA g 52), .int v1, .int v2] M Q := by
  refine mk_MI (cc := cX5_playedTo) (maxL := 3) (by decide) rfl (Nat.le_of_ble_eq_true rfl) ?_
  intro z Qf hC hR
  show XX z g Qf 3 0 [(0, .ref (gA g 52)), (1, .int v1), (2, .int v2)] [] M
  refine q_iload_n hC dX5_playedTo_0 1 rfl 1 rfl ?_
  refine q_iload_n hC dX5_playedTo_1 2 rfl 2 rfl ?_
  refine q_icmp_ne hC 9 dX5_playedTo_2 (by decide) 5 rfl hw (fun hw => ?_) (fun hw => ?_)
  · refine q_aload_n hC dX5_playedTo_9 0 rfl 10 rfl ?_
    refine q_getR (C := RX5) (T := TX5) (N := 26) (ci := 5) hC inX5_playedTo_X5 (obF52 hF) rfl 2 (by decide) (uX5_playedTo__o _ (List.mem_of_getElem? (l := owX5_playedTo) (i := 1) rfl)) rfl 55 (fun _ => rfl) dX5_playedTo_10 13 rfl ?_
    refine q_iconst (v := 5) hC dX5_playedTo_13 rfl 14 rfl ?_
    refine q_ialdL hC (arF55 hF) 5 (by decide +kernel) (by decide +kernel) dX5_playedTo_14 15 rfl ?_
    refine q_aload_n hC dX5_playedTo_15 0 rfl 16 rfl ?_
    refine q_getR (C := RX5) (T := TX5) (N := 26) (ci := 5) hC inX5_playedTo_X5 (obF52 hF) rfl 2 (by decide) (uX5_playedTo__o _ (List.mem_of_getElem? (l := owX5_playedTo) (i := 1) rfl)) rfl 55 (fun _ => rfl) dX5_playedTo_16 19 rfl ?_
    refine q_iconst (v := 3) hC dX5_playedTo_19 rfl 20 rfl ?_
    refine q_ialdL hC (arF55 hF) 3 (by decide +kernel) (by decide +kernel) dX5_playedTo_20 21 rfl ?_
    refine q_iload_n hC dX5_playedTo_21 1 rfl 22 rfl ?_
    refine q_iload_n hC dX5_playedTo_22 2 rfl 23 rfl ?_
    refine r_callI hC (go_T (As := [.int v1, .int v2]) (rest := [.int (M 55 3), .int (M 55 5)]) hC (ctX5_apart (zl z) g M v1 v2 _ hw) 2 gX5_playedTo_X5_apart rfl ⟨rfl, rfl⟩ hdT_X5_apart ⟨Nat.le_of_ble_eq_true rfl, Nat.le_of_ble_eq_true rfl⟩ rfl rfl (Nat.le_of_ble_eq_true rfl) dX5_playedTo_23) 26 rfl (fun r1 M2 hw => ?_)
    refine q_imul hC dX5_playedTo_26 27 rfl ?_
    refine q_iadd hC dX5_playedTo_27 28 rfl ?_
    exact r_iret hR dX5_playedTo_28 hw
  · refine q_iconst (v := 0) hC dX5_playedTo_5 rfl 6 rfl ?_
    refine q_goto hC 28 dX5_playedTo_6 (by decide) ?_
    exact r_iret hR dX5_playedTo_28 hw
theorem inX5_woundTo_X5 : ∀ w ∈ u_ws RX5 TX5 26, w ∈ wsX5_woundTo := uX5_woundTo__wsX50
set_option maxRecDepth 100000 in
set_option maxHeartbeats 4000000 in
theorem ctX5_woundTo (l : Launch) (g : GG) (M : MM) (v1 : Int32) (v2 : Int32) (Q : Int32 → MM → Prop) (hF : ful5 g) (hw : wX5_woundTo Q M v1 v2) : MI g l yX5_woundTo wsX5_woundTo (rmOf 2 45) [.ref (gA g 52), .int v1, .int v2] M Q := by
  refine mk_MI (cc := cX5_woundTo) (maxL := 4) (by decide) rfl (Nat.le_of_ble_eq_true rfl) ?_
  intro z Qf hC hR
  show XX z g Qf 4 0 [(0, .ref (gA g 52)), (1, .int v1), (2, .int v2)] [] M
  have B55 : ∀ (M : MM) (p0 : Int32), wX5_woundTo_55 Q v1 v2 M p0 → XX z g Qf 4 55 [(0, .ref (gA g 52))] [.int p0] M := by
    intro M p0 hw
    refine q_istore_n (L' := [(3, .int p0), (0, .ref (gA g 52))]) hC dX5_woundTo_55 (by decide) rfl 56 rfl ?_
    refine q_iconst (v := 2) hC dX5_woundTo_56 rfl 57 rfl ?_
    refine q_aload_n hC dX5_woundTo_57 1 rfl 58 rfl ?_
    refine q_getR (C := RX5) (T := TX5) (N := 26) (ci := 5) hC inX5_woundTo_X5 (obF52 hF) rfl 2 (by decide) (uX5_woundTo__X5_turnsAt _ (List.mem_of_getElem? (l := owX5_turnsAt) (i := 1) rfl)) rfl 55 (fun _ => rfl) dX5_woundTo_58 61 rfl ?_
    refine q_iconst (v := 5) hC dX5_woundTo_61 rfl 62 rfl ?_
    refine q_ialdL hC (arF55 hF) 5 (by decide +kernel) (by decide +kernel) dX5_woundTo_62 63 rfl ?_
    refine q_imul hC dX5_woundTo_63 64 rfl ?_
    refine q_aload_n hC dX5_woundTo_64 1 rfl 65 rfl ?_
    refine q_getR (C := RX5) (T := TX5) (N := 26) (ci := 5) hC inX5_woundTo_X5 (obF52 hF) rfl 2 (by decide) (uX5_woundTo__X5_turnsAt _ (List.mem_of_getElem? (l := owX5_turnsAt) (i := 1) rfl)) rfl 55 (fun _ => rfl) dX5_woundTo_65 68 rfl ?_
    refine q_iconst (v := 4) hC dX5_woundTo_68 rfl 69 rfl ?_
    refine q_ialdL hC (arF55 hF) 4 (by decide +kernel) (by decide +kernel) dX5_woundTo_69 70 rfl ?_
    refine q_iload_n hC dX5_woundTo_70 0 rfl 71 rfl ?_
    refine q_imul hC dX5_woundTo_71 72 rfl ?_
    refine q_iadd hC dX5_woundTo_72 73 rfl ?_
    exact r_iret hR dX5_woundTo_73 hw
  refine q_iload_n hC dX5_woundTo_0 1 rfl 1 rfl ?_
  refine q_iload_n hC dX5_woundTo_1 2 rfl 2 rfl ?_
  refine q_icmp_ne hC 7 dX5_woundTo_2 (by decide) 5 rfl hw (fun hw => ?_) (fun hw => ?_)
  · refine q_iload_n hC dX5_woundTo_7 2 rfl 8 rfl ?_
    refine q_iload_n hC dX5_woundTo_8 1 rfl 9 rfl ?_
    refine q_icmp_le hC 26 dX5_woundTo_9 (by decide) 12 rfl hw (fun hw => ?_) (fun hw => ?_)
    · refine q_aload_n hC dX5_woundTo_26 0 rfl 27 rfl ?_
      refine q_aload_n hC dX5_woundTo_27 0 rfl 28 rfl ?_
      refine q_getR (C := RX5) (T := TX5) (N := 26) (ci := 5) hC inX5_woundTo_X5 (obF52 hF) rfl 0 (by decide) (uX5_woundTo__o _ (List.mem_of_getElem? (l := owX5_woundTo) (i := 1) rfl)) rfl 53 (fun _ => rfl) dX5_woundTo_28 31 rfl ?_
      refine q_sipush (v := 366) hC dX5_woundTo_31 (by decide) 34 rfl ?_
      refine q_ialdL hC (arF53 hF) 366 (by decide +kernel) (by decide +kernel) dX5_woundTo_34 35 rfl ?_
      refine q_iload_n hC dX5_woundTo_35 2 rfl 36 rfl ?_
      refine q_isub hC dX5_woundTo_36 37 rfl ?_
      refine r_callI hC (go_V (q := (RX5, TX5, 26)) (As := [.int ((M 53 366) - v2)]) (rest := []) hC (ctX5_turnsAt (zl z) g M ((M 53 366) - v2) _ hF hw) 1 gX5_woundTo_X5_turnsAt rfl ⟨rfl, rfl⟩ hdV_X5_turnsAt ⟨Nat.le_of_ble_eq_true rfl, Nat.le_of_ble_eq_true rfl⟩ (obF52 hF) rfl rfl rfl (Nat.le_of_ble_eq_true rfl) dX5_woundTo_37) 40 rfl (fun r1 M2 hw => ?_)
      refine q_aload_n hC dX5_woundTo_40 0 rfl 41 rfl ?_
      refine q_aload_n hC dX5_woundTo_41 0 rfl 42 rfl ?_
      refine q_getR (C := RX5) (T := TX5) (N := 26) (ci := 5) hC inX5_woundTo_X5 (obF52 hF) rfl 0 (by decide) (uX5_woundTo__o _ (List.mem_of_getElem? (l := owX5_woundTo) (i := 1) rfl)) rfl 53 (fun _ => rfl) dX5_woundTo_42 45 rfl ?_
      refine q_sipush (v := 366) hC dX5_woundTo_45 (by decide) 48 rfl ?_
      refine q_ialdL hC (arF53 hF) 366 (by decide +kernel) (by decide +kernel) dX5_woundTo_48 49 rfl ?_
      refine q_iload_n hC dX5_woundTo_49 1 rfl 50 rfl ?_
      refine q_isub hC dX5_woundTo_50 51 rfl ?_
      refine r_callI hC (go_V (q := (RX5, TX5, 26)) (As := [.int ((M2 53 366) - v1)]) (rest := [.int r1]) hC (ctX5_turnsAt (zl z) g M2 ((M2 53 366) - v1) _ hF hw) 1 gX5_woundTo_X5_turnsAt rfl ⟨rfl, rfl⟩ hdV_X5_turnsAt ⟨Nat.le_of_ble_eq_true rfl, Nat.le_of_ble_eq_true rfl⟩ (obF52 hF) rfl rfl rfl (Nat.le_of_ble_eq_true rfl) dX5_woundTo_51) 54 rfl (fun r3 M4 hw => ?_)
      refine q_isub hC dX5_woundTo_54 55 rfl ?_
      exact XX.sub [0] rfl (B55 M4 (r1 - r3) hw)
    · refine q_aload_n hC dX5_woundTo_12 0 rfl 13 rfl ?_
      refine q_iload_n hC dX5_woundTo_13 2 rfl 14 rfl ?_
      refine r_callI hC (go_V (q := (RX5, TX5, 26)) (As := [.int v2]) (rest := []) hC (ctX5_turnsAt (zl z) g M v2 _ hF hw) 1 gX5_woundTo_X5_turnsAt rfl ⟨rfl, rfl⟩ hdV_X5_turnsAt ⟨Nat.le_of_ble_eq_true rfl, Nat.le_of_ble_eq_true rfl⟩ (obF52 hF) rfl rfl rfl (Nat.le_of_ble_eq_true rfl) dX5_woundTo_14) 17 rfl (fun r5 M6 hw => ?_)
      refine q_aload_n hC dX5_woundTo_17 0 rfl 18 rfl ?_
      refine q_iload_n hC dX5_woundTo_18 1 rfl 19 rfl ?_
      refine r_callI hC (go_V (q := (RX5, TX5, 26)) (As := [.int v1]) (rest := [.int r5]) hC (ctX5_turnsAt (zl z) g M6 v1 _ hF hw) 1 gX5_woundTo_X5_turnsAt rfl ⟨rfl, rfl⟩ hdV_X5_turnsAt ⟨Nat.le_of_ble_eq_true rfl, Nat.le_of_ble_eq_true rfl⟩ (obF52 hF) rfl rfl rfl (Nat.le_of_ble_eq_true rfl) dX5_woundTo_19) 22 rfl (fun r7 M8 hw => ?_)
      refine q_isub hC dX5_woundTo_22 23 rfl ?_
      refine q_goto hC 55 dX5_woundTo_23 (by decide) ?_
      exact XX.sub [0] rfl (B55 M8 (r5 - r7) hw)
  · refine q_iconst (v := 0) hC dX5_woundTo_5 rfl 6 rfl ?_
    exact r_iret hR dX5_woundTo_6 hw
theorem hdV_X5_playedTo : yX5_playedTo.cls = RX5 ∧ yX5_playedTo.cls ≠ "java/lang/invoke/MethodHandle" ∧ yX5_playedTo.cls ≠ "java/lang/invoke/VarHandle" ∧ (parseMethodDescriptor yX5_playedTo.desc).map (fun d => d.parameters.length) = some 2 := by decide +kernel
theorem hdV_X5_woundTo : yX5_woundTo.cls = RX5 ∧ yX5_woundTo.cls ≠ "java/lang/invoke/MethodHandle" ∧ yX5_woundTo.cls ≠ "java/lang/invoke/VarHandle" ∧ (parseMethodDescriptor yX5_woundTo.desc).map (fun d => d.parameters.length) = some 2 := by decide +kernel
theorem hdT_X5_less : yX5_less.cls ≠ "java/lang/invoke/MethodHandle" ∧ yX5_less.cls ≠ "java/lang/invoke/VarHandle" ∧ (parseMethodDescriptor yX5_less.desc).map (fun d => d.parameters.length) = some 2 := by decide +kernel
set_option maxRecDepth 100000 in
set_option maxHeartbeats 4000000 in
theorem ctX5_sooner (l : Launch) (g : GG) (M : MM) (v1 : Int32) (v2 : Int32) (Q : Int32 → MM → Prop) (hF : ful5 g) (hw : wX5_sooner Q M v1 v2) : MI g l yX5_sooner wsX5_sooner (rmOf 3 68) [.ref (gA g 52), .int v1, .int v2] M Q := by
  refine mk_MI (cc := cX5_sooner) (maxL := 3) (by decide) rfl (Nat.le_of_ble_eq_true rfl) ?_
  intro z Qf hC hR
  show XX z g Qf 3 0 [(0, .ref (gA g 52)), (1, .int v1), (2, .int v2)] [] M
  refine q_aload_n hC dX5_sooner_0 0 rfl 1 rfl ?_
  refine q_iload_n hC dX5_sooner_1 1 rfl 2 rfl ?_
  refine q_iload_n hC dX5_sooner_2 2 rfl 3 rfl ?_
  refine r_callI hC (go_V (q := (RX5, TX5, 26)) (As := [.int v1, .int v2]) (rest := []) hC (ctX5_playedTo (zl z) g M v1 v2 _ hF hw) 2 gX5_sooner_X5_playedTo rfl ⟨rfl, rfl⟩ hdV_X5_playedTo ⟨Nat.le_of_ble_eq_true rfl, Nat.le_of_ble_eq_true rfl⟩ (obF52 hF) rfl rfl rfl (Nat.le_of_ble_eq_true rfl) dX5_sooner_3) 6 rfl (fun r1 M2 hw => ?_)
  refine q_aload_n hC dX5_sooner_6 0 rfl 7 rfl ?_
  refine q_iload_n hC dX5_sooner_7 1 rfl 8 rfl ?_
  refine q_iload_n hC dX5_sooner_8 2 rfl 9 rfl ?_
  refine r_callI hC (go_V (q := (RX5, TX5, 26)) (As := [.int v1, .int v2]) (rest := [.int r1]) hC (ctX5_woundTo (zl z) g M2 v1 v2 _ hF hw) 2 gX5_sooner_X5_woundTo rfl ⟨rfl, rfl⟩ hdV_X5_woundTo ⟨Nat.le_of_ble_eq_true rfl, Nat.le_of_ble_eq_true rfl⟩ (obF52 hF) rfl rfl rfl (Nat.le_of_ble_eq_true rfl) dX5_sooner_9) 12 rfl (fun r3 M4 hw => ?_)
  refine r_callI hC (go_T (As := [.int r1, .int r3]) (rest := []) hC (ctX5_less (zl z) g M4 r1 r3 _ hw) 2 gX5_sooner_X5_less rfl ⟨rfl, rfl⟩ hdT_X5_less ⟨Nat.le_of_ble_eq_true rfl, Nat.le_of_ble_eq_true rfl⟩ rfl rfl (Nat.le_of_ble_eq_true rfl) dX5_sooner_12) 15 rfl (fun r5 M6 hw => ?_)
  exact r_iret hR dX5_sooner_15 hw
theorem hdV_X5_sooner : yX5_sooner.cls = RX5 ∧ yX5_sooner.cls ≠ "java/lang/invoke/MethodHandle" ∧ yX5_sooner.cls ≠ "java/lang/invoke/VarHandle" ∧ (parseMethodDescriptor yX5_sooner.desc).map (fun d => d.parameters.length) = some 2 := by decide +kernel
set_option maxRecDepth 100000 in
set_option maxHeartbeats 4000000 in
theorem ctX5_ticks (l : Launch) (g : GG) (M : MM) (v1 : Int32) (v2 : Int32) (v3 : Int32) (Q : Int32 → MM → Prop) (hF : ful5 g) (hw : wX5_ticks Q M v1 v2 v3) : MI g l yX5_ticks wsX5_ticks (rmOf 4 90) [.ref (gA g 52), .int v1, .int v2, .int v3] M Q := by
  refine mk_MI (cc := cX5_ticks) (maxL := 4) (by decide) rfl (Nat.le_of_ble_eq_true rfl) ?_
  intro z Qf hC hR
  show XX z g Qf 4 0 [(0, .ref (gA g 52)), (1, .int v1), (2, .int v2), (3, .int v3)] [] M
  refine q_aload_n hC dX5_ticks_0 0 rfl 1 rfl ?_
  refine q_iload_n hC dX5_ticks_1 1 rfl 2 rfl ?_
  refine r_callI hC (go_V (q := (RX5, TX5, 26)) (As := [.int v1]) (rest := []) hC (ctX5_isPlace (zl z) g M v1 _ hF hw) 1 gX5_ticks_X5_isPlace rfl ⟨rfl, rfl⟩ hdV_X5_isPlace ⟨Nat.le_of_ble_eq_true rfl, Nat.le_of_ble_eq_true rfl⟩ (obF52 hF) rfl rfl rfl (Nat.le_of_ble_eq_true rfl) dX5_ticks_2) 5 rfl (fun r1 M2 hw => ?_)
  refine q_if_eq hC 28 dX5_ticks_5 (by decide) 8 rfl hw (fun hw => ?_) (fun hw => ?_)
  · refine q_iconst (v := (-1)) hC dX5_ticks_28 rfl 29 rfl ?_
    exact r_iret hR dX5_ticks_29 hw
  · refine q_aload_n hC dX5_ticks_8 0 rfl 9 rfl ?_
    refine q_iload_n hC dX5_ticks_9 2 rfl 10 rfl ?_
    refine r_callI hC (go_V (q := (RX5, TX5, 26)) (As := [.int v2]) (rest := []) hC (ctX5_isPlace (zl z) g M2 v2 _ hF hw) 1 gX5_ticks_X5_isPlace rfl ⟨rfl, rfl⟩ hdV_X5_isPlace ⟨Nat.le_of_ble_eq_true rfl, Nat.le_of_ble_eq_true rfl⟩ (obF52 hF) rfl rfl rfl (Nat.le_of_ble_eq_true rfl) dX5_ticks_10) 13 rfl (fun r3 M4 hw => ?_)
    refine q_if_eq hC 28 dX5_ticks_13 (by decide) 16 rfl hw (fun hw => ?_) (fun hw => ?_)
    · refine q_iconst (v := (-1)) hC dX5_ticks_28 rfl 29 rfl ?_
      exact r_iret hR dX5_ticks_29 hw
    · refine q_iload_n hC dX5_ticks_16 3 rfl 17 rfl ?_
      refine q_i2l hC dX5_ticks_17 18 rfl ?_
      refine q_lconst (v := 0) hC dX5_ticks_18 rfl 19 rfl ?_
      refine q_ldc2 (v := 2) hC (uX5_ticks__o _ (List.mem_of_getElem? (l := owX5_ticks) (i := 1) rfl)) dX5_ticks_19 22 rfl ?_
      refine r_callI hC (go_T (As := [.long (v3.toInt64), .long 0, .long 2]) (rest := []) hC (ctX5_in (zl z) g M4 (v3.toInt64) 0 2 _ hw) 3 gX5_ticks_X5_in rfl ⟨rfl, rfl⟩ hdT_X5_in ⟨Nat.le_of_ble_eq_true rfl, Nat.le_of_ble_eq_true rfl⟩ rfl rfl (Nat.le_of_ble_eq_true rfl) dX5_ticks_22) 25 rfl (fun r5 M6 hw => ?_)
      refine q_if_ne hC 30 dX5_ticks_25 (by decide) 28 rfl hw (fun hw => ?_) (fun hw => ?_)
      · refine q_iload_n hC dX5_ticks_30 3 rfl 31 rfl ?_
        refine q_if_ne hC 43 dX5_ticks_31 (by decide) 34 rfl hw (fun hw => ?_) (fun hw => ?_)
        · refine q_iload_n hC dX5_ticks_43 3 rfl 44 rfl ?_
          refine q_iconst (v := 1) hC dX5_ticks_44 rfl 45 rfl ?_
          refine q_icmp_ne hC 57 dX5_ticks_45 (by decide) 48 rfl hw (fun hw => ?_) (fun hw => ?_)
          · refine q_aload_n hC dX5_ticks_57 0 rfl 58 rfl ?_
            refine q_iload_n hC dX5_ticks_58 1 rfl 59 rfl ?_
            refine q_iload_n hC dX5_ticks_59 2 rfl 60 rfl ?_
            refine r_callI hC (go_V (q := (RX5, TX5, 26)) (As := [.int v1, .int v2]) (rest := []) hC (ctX5_sooner (zl z) g M6 v1 v2 _ hF hw) 2 gX5_ticks_X5_sooner rfl ⟨rfl, rfl⟩ hdV_X5_sooner ⟨Nat.le_of_ble_eq_true rfl, Nat.le_of_ble_eq_true rfl⟩ (obF52 hF) rfl rfl rfl (Nat.le_of_ble_eq_true rfl) dX5_ticks_60) 63 rfl (fun r7 M8 hw => ?_)
            exact r_iret hR dX5_ticks_63 hw
          · refine q_aload_n hC dX5_ticks_48 0 rfl 49 rfl ?_
            refine q_iload_n hC dX5_ticks_49 1 rfl 50 rfl ?_
            refine q_iload_n hC dX5_ticks_50 2 rfl 51 rfl ?_
            refine r_callI hC (go_V (q := (RX5, TX5, 26)) (As := [.int v1, .int v2]) (rest := []) hC (ctX5_woundTo (zl z) g M6 v1 v2 _ hF hw) 2 gX5_ticks_X5_woundTo rfl ⟨rfl, rfl⟩ hdV_X5_woundTo ⟨Nat.le_of_ble_eq_true rfl, Nat.le_of_ble_eq_true rfl⟩ (obF52 hF) rfl rfl rfl (Nat.le_of_ble_eq_true rfl) dX5_ticks_51) 54 rfl (fun r9 M10 hw => ?_)
            refine q_goto hC 63 dX5_ticks_54 (by decide) ?_
            exact r_iret hR dX5_ticks_63 hw
        · refine q_aload_n hC dX5_ticks_34 0 rfl 35 rfl ?_
          refine q_iload_n hC dX5_ticks_35 1 rfl 36 rfl ?_
          refine q_iload_n hC dX5_ticks_36 2 rfl 37 rfl ?_
          refine r_callI hC (go_V (q := (RX5, TX5, 26)) (As := [.int v1, .int v2]) (rest := []) hC (ctX5_playedTo (zl z) g M6 v1 v2 _ hF hw) 2 gX5_ticks_X5_playedTo rfl ⟨rfl, rfl⟩ hdV_X5_playedTo ⟨Nat.le_of_ble_eq_true rfl, Nat.le_of_ble_eq_true rfl⟩ (obF52 hF) rfl rfl rfl (Nat.le_of_ble_eq_true rfl) dX5_ticks_37) 40 rfl (fun r11 M12 hw => ?_)
          refine q_goto hC 63 dX5_ticks_40 (by decide) ?_
          exact r_iret hR dX5_ticks_63 hw
      · refine q_iconst (v := (-1)) hC dX5_ticks_28 rfl 29 rfl ?_
        exact r_iret hR dX5_ticks_29 hw
theorem inX5_goesTo_X5 : ∀ w ∈ u_ws RX5 TX5 26, w ∈ wsX5_goesTo := uX5_goesTo__wsX50
set_option maxRecDepth 100000 in
set_option maxHeartbeats 4000000 in
theorem ctX5_goesTo (l : Launch) (g : GG) (M : MM) (v1 : Int32) (Q : Int32 → MM → Prop) (hF : ful5 g) (hw : wX5_goesTo Q M v1) : MI g l yX5_goesTo wsX5_goesTo (rmOf 4 90) [.ref (gA g 52), .int v1] M Q := by
  refine mk_MI (cc := cX5_goesTo) (maxL := 3) (by decide) rfl (Nat.le_of_ble_eq_true rfl) ?_
  intro z Qf hC hR
  show XX z g Qf 3 0 [(0, .ref (gA g 52)), (1, .int v1)] [] M
  refine q_aload_n hC dX5_goesTo_0 0 rfl 1 rfl ?_
  refine q_aload_n hC dX5_goesTo_1 0 rfl 2 rfl ?_
  refine q_getR (C := RX5) (T := TX5) (N := 26) (ci := 5) hC inX5_goesTo_X5 (obF52 hF) rfl 0 (by decide) (uX5_goesTo__X5_woundTo _ (List.mem_of_getElem? (l := owX5_woundTo) (i := 1) rfl)) rfl 53 (fun _ => rfl) dX5_goesTo_2 5 rfl ?_
  refine q_sipush (v := 325) hC dX5_goesTo_5 (by decide) 8 rfl ?_
  refine q_ialdL hC (arF53 hF) 325 (by decide +kernel) (by decide +kernel) dX5_goesTo_8 9 rfl ?_
  refine q_iload_n hC dX5_goesTo_9 1 rfl 10 rfl ?_
  refine r_callI hC (go_V (q := (RX5, TX5, 26)) (As := [.int (M 53 325), .int v1]) (rest := []) hC (ctX5_sooner (zl z) g M (M 53 325) v1 _ hF hw) 2 gX5_goesTo_X5_sooner rfl ⟨rfl, rfl⟩ hdV_X5_sooner ⟨Nat.le_of_ble_eq_true rfl, Nat.le_of_ble_eq_true rfl⟩ (obF52 hF) rfl rfl rfl (Nat.le_of_ble_eq_true rfl) dX5_goesTo_10) 13 rfl (fun r1 M2 hw => ?_)
  refine q_istore_n (L' := [(2, .int r1), (0, .ref (gA g 52)), (1, .int v1)]) hC dX5_goesTo_13 (by decide) rfl 14 rfl ?_
  refine q_aload_n hC dX5_goesTo_14 1 rfl 15 rfl ?_
  refine q_getR (C := RX5) (T := TX5) (N := 26) (ci := 5) hC inX5_goesTo_X5 (obF52 hF) rfl 0 (by decide) (uX5_goesTo__X5_woundTo _ (List.mem_of_getElem? (l := owX5_woundTo) (i := 1) rfl)) rfl 53 (fun _ => rfl) dX5_goesTo_15 18 rfl ?_
  refine q_sipush (v := 325) hC dX5_goesTo_18 (by decide) 21 rfl ?_
  refine q_iload_n hC dX5_goesTo_21 2 rfl 22 rfl ?_
  refine q_iastL hC (arF53 hF) 325 (by decide +kernel) (by decide +kernel) dX5_goesTo_22 23 rfl (fun M3 eM3 => ?_)
  have hw := hw M3 eM3
  refine q_aload_n hC dX5_goesTo_23 1 rfl 24 rfl ?_
  refine q_getR (C := RX5) (T := TX5) (N := 26) (ci := 5) hC inX5_goesTo_X5 (obF52 hF) rfl 0 (by decide) (uX5_goesTo__X5_woundTo _ (List.mem_of_getElem? (l := owX5_woundTo) (i := 1) rfl)) rfl 53 (fun _ => rfl) dX5_goesTo_24 27 rfl ?_
  refine q_sipush (v := 326) hC dX5_goesTo_27 (by decide) 30 rfl ?_
  refine q_dup2 hC dX5_goesTo_30 rfl rfl 31 rfl ?_
  refine q_ialdL hC (arF53 hF) 326 (by decide +kernel) (by decide +kernel) dX5_goesTo_31 32 rfl ?_
  refine q_iload_n hC dX5_goesTo_32 0 rfl 33 rfl ?_
  refine q_iadd hC dX5_goesTo_33 34 rfl ?_
  refine q_iastL hC (arF53 hF) 326 (by decide +kernel) (by decide +kernel) dX5_goesTo_34 35 rfl (fun M4 eM4 => ?_)
  have hw := hw M4 eM4
  refine q_iload_n hC dX5_goesTo_35 0 rfl 36 rfl ?_
  exact r_iret hR dX5_goesTo_36 hw
