set_option maxRecDepth 100000 in
set_option maxHeartbeats 4000000 in
theorem ctX5_in (l : Launch) (g : GG) (M : MM) (v0 : Int64) (v2 : Int64) (v4 : Int64) (Q : Int32 → MM → Prop)  (hw : wX5_in Q M v0 v2 v4) : MI g l yX5_in wsX5_in (rmOf 0 0) [.long v0, .long v2, .long v4] M Q := by
  refine mk_MZ (cc := cX5_in) (maxL := 6) (by decide) rfl (Nat.le_of_ble_eq_true rfl) ?_
  intro z Qf hC hR
  show XX z g Qf 6 0 [(0, .long v0), (2, .long v2), (4, .long v4)] [] M
  have B17 : ∀ (M : MM), wX5_in_17 Q v0 v2 v4 M → XX z g Qf 6 17 [] [] M := by
    intro M hw
    refine q_iconst (v := 0) hC dX5_in_17 rfl 18 rfl ?_
    exact r_iret hR dX5_in_18 ⟨nb_0, hw⟩
  refine q_lload_n hC dX5_in_0 0 rfl 1 rfl ?_
  refine q_lload_n hC dX5_in_1 1 rfl 2 rfl ?_
  refine q_lcmp hC dX5_in_2 3 rfl ?_
  refine q_if_lt hC 17 dX5_in_3 (by decide) 6 rfl hw (fun hw => ?_) (fun hw => ?_)
  · exact XX.sub [] rfl (B17 M hw)
  · refine q_lload_n hC dX5_in_6 0 rfl 7 rfl ?_
    refine q_lload hC dX5_in_7 2 rfl 9 rfl ?_
    refine q_lcmp hC dX5_in_9 10 rfl ?_
    refine q_if_gt hC 17 dX5_in_10 (by decide) 13 rfl hw (fun hw => ?_) (fun hw => ?_)
    · exact XX.sub [] rfl (B17 M hw)
    · refine q_iconst (v := 1) hC dX5_in_13 rfl 14 rfl ?_
      refine q_goto hC 18 dX5_in_14 (by decide) ?_
      exact r_iret hR dX5_in_18 ⟨nb_1, hw⟩
set_option maxRecDepth 100000 in
set_option maxHeartbeats 4000000 in
theorem ctX5_flag (l : Launch) (g : GG) (M : MM) (v0 : Int32) (Q : Int32 → MM → Prop)  (hw : wX5_flag Q M v0) : MI g l yX5_flag wsX5_flag (rmOf 0 0) [.int v0] M Q := by
  refine mk_MI (cc := cX5_flag) (maxL := 1) (by decide) rfl (Nat.le_of_ble_eq_true rfl) ?_
  intro z Qf hC hR
  show XX z g Qf 1 0 [(0, .int v0)] [] M
  refine q_iload_n hC dX5_flag_0 0 rfl 1 rfl ?_
  refine q_if_eq hC 8 dX5_flag_1 (by decide) 4 rfl hw (fun hw => ?_) (fun hw => ?_)
  · refine q_iconst (v := 0) hC dX5_flag_8 rfl 9 rfl ?_
    exact r_iret hR dX5_flag_9 hw
  · refine q_iconst (v := 1) hC dX5_flag_4 rfl 5 rfl ?_
    refine q_goto hC 9 dX5_flag_5 (by decide) ?_
    exact r_iret hR dX5_flag_9 hw
set_option maxRecDepth 100000 in
set_option maxHeartbeats 4000000 in
theorem ctX5_less (l : Launch) (g : GG) (M : MM) (v0 : Int32) (v1 : Int32) (Q : Int32 → MM → Prop)  (hw : wX5_less Q M v0 v1) : MI g l yX5_less wsX5_less (rmOf 0 0) [.int v0, .int v1] M Q := by
  refine mk_MI (cc := cX5_less) (maxL := 2) (by decide) rfl (Nat.le_of_ble_eq_true rfl) ?_
  intro z Qf hC hR
  show XX z g Qf 2 0 [(0, .int v0), (1, .int v1)] [] M
  refine q_iload_n hC dX5_less_0 0 rfl 1 rfl ?_
  refine q_iload_n hC dX5_less_1 1 rfl 2 rfl ?_
  refine q_icmp_ge hC 9 dX5_less_2 (by decide) 5 rfl hw (fun hw => ?_) (fun hw => ?_)
  · refine q_iload_n hC dX5_less_9 1 rfl 10 rfl ?_
    exact r_iret hR dX5_less_10 hw
  · refine q_iload_n hC dX5_less_5 0 rfl 6 rfl ?_
    refine q_goto hC 10 dX5_less_6 (by decide) ?_
    exact r_iret hR dX5_less_10 hw
set_option maxRecDepth 100000 in
set_option maxHeartbeats 4000000 in
theorem ctX5_odd (l : Launch) (g : GG) (M : MM) (v0 : Int32) (Q : Int32 → MM → Prop)  (hw : wX5_odd Q M v0) : MI g l yX5_odd wsX5_odd (rmOf 0 0) [.int v0] M Q := by
  refine mk_MI (cc := cX5_odd) (maxL := 3) (by decide) rfl (Nat.le_of_ble_eq_true rfl) ?_
  intro z Qf hC hR
  show XX z g Qf 3 0 [(0, .int v0)] [] M
  have B4 : ∀ (n : Nat) (M : MM) (v1 : Int32) (v2 : Int32) , wX5_odd_4 Q v0 n M v1 v2 → XX z g Qf 3 4 [(0, .int v0), (1, .int v1), (2, .int v2)] [] M := by
    intro n
    induction n with
    | zero =>
      intro M v1 v2 hw
      exact hw.elim
    | succ n ih =>
      intro M v1 v2 hw
      refine q_iload_n hC dX5_odd_4 2 rfl 5 rfl ?_
      refine q_bipush (v := 9) hC dX5_odd_5 (by decide) 7 rfl ?_
      refine q_icmp_ge hC 24 dX5_odd_7 (by decide) 10 rfl hw (fun hw => ?_) (fun hw => ?_)
      · refine q_iload_n hC dX5_odd_24 1 rfl 25 rfl ?_
        refine q_iconst (v := 2) hC dX5_odd_25 rfl 26 rfl ?_
        refine q_irem hC dX5_odd_26 (by decide) 27 rfl ?_
        exact r_iret hR dX5_odd_27 hw
      · refine q_iload_n hC dX5_odd_10 1 rfl 11 rfl ?_
        refine q_iload_n hC dX5_odd_11 0 rfl 12 rfl ?_
        refine q_iload_n hC dX5_odd_12 2 rfl 13 rfl ?_
        refine q_ishr hC dX5_odd_13 14 rfl ?_
        refine q_iconst (v := 1) hC dX5_odd_14 rfl 15 rfl ?_
        refine q_iand hC dX5_odd_15 16 rfl ?_
        refine q_iadd hC dX5_odd_16 17 rfl ?_
        refine q_nameI (fun x1 ex1 => ?_)
        have hw := hw x1 ex1
        refine q_istore_n (L' := [(1, .int x1), (0, .int v0), (2, .int v2)]) hC dX5_odd_17 (by decide) rfl 18 rfl ?_
        refine q_iinc (v := v2 + 1) (L' := [(2, .int (v2 + 1)), (1, .int x1), (0, .int v0)]) hC dX5_odd_18 2 rfl rfl (by decide) rfl 21 rfl ?_
        refine q_goto hC 4 dX5_odd_21 (by decide) ?_
        exact XX.sub [2, 1, 0] rfl (ih M x1 (v2 + 1) hw)
  refine q_iconst (v := 0) hC dX5_odd_0 rfl 1 rfl ?_
  refine q_istore_n (L' := [(1, .int 0), (0, .int v0)]) hC dX5_odd_1 (by decide) rfl 2 rfl ?_
  refine q_iconst (v := 0) hC dX5_odd_2 rfl 3 rfl ?_
  refine q_istore_n (L' := [(2, .int 0), (1, .int 0), (0, .int v0)]) hC dX5_odd_3 (by decide) rfl 4 rfl ?_
  obtain ⟨n0, hw⟩ := hw
  exact XX.sub [2, 1, 0] rfl (B4 n0 M 0 0 hw)
theorem inX5_firstDraft_X5 : ∀ w ∈ u_ws RX5 TX5 26, w ∈ wsX5_firstDraft := uX5_firstDraft__wsX50
set_option maxRecDepth 100000 in
set_option maxHeartbeats 4000000 in
theorem ctX5_firstDraft (l : Launch) (g : GG) (M : MM)  (Q : MM → Prop) (hF : ful5 g) (hw : wX5_firstDraft Q M ) : MV g l yX5_firstDraft wsX5_firstDraft (rmOf 0 0) [.ref (gA g 52)] M Q := by
  refine mk_MV (cc := cX5_firstDraft) (maxL := 1) (by decide) rfl (Nat.le_of_ble_eq_true rfl) ?_
  intro z Qf hC hR
  show XX z g Qf 1 0 [(0, .ref (gA g 52))] [] M
  refine q_aload_n hC dX5_firstDraft_0 0 rfl 1 rfl ?_
  refine q_getR (C := RX5) (T := TX5) (N := 26) (ci := 5) hC inX5_firstDraft_X5 (obF52 hF) rfl 3 (by decide) (uX5_firstDraft__o _ (List.mem_of_getElem? (l := owX5_firstDraft) (i := 1) rfl)) rfl 56 (fun _ => rfl) dX5_firstDraft_1 4 rfl ?_
  refine q_iconst (v := 0) hC dX5_firstDraft_4 rfl 5 rfl ?_
  refine q_sipush (v := 1000) hC dX5_firstDraft_5 (by decide) 8 rfl ?_
  refine q_iastL hC (arF56 hF) 0 (by decide +kernel) (by decide +kernel) dX5_firstDraft_8 9 rfl (fun M1 eM1 => ?_)
  have hw := hw M1 eM1
  refine q_aload_n hC dX5_firstDraft_9 0 rfl 10 rfl ?_
  refine q_getR (C := RX5) (T := TX5) (N := 26) (ci := 5) hC inX5_firstDraft_X5 (obF52 hF) rfl 3 (by decide) (uX5_firstDraft__o _ (List.mem_of_getElem? (l := owX5_firstDraft) (i := 1) rfl)) rfl 56 (fun _ => rfl) dX5_firstDraft_10 13 rfl ?_
  refine q_iconst (v := 1) hC dX5_firstDraft_13 rfl 14 rfl ?_
  refine q_bipush (v := 20) hC dX5_firstDraft_14 (by decide) 16 rfl ?_
  refine q_iastL hC (arF56 hF) 1 (by decide +kernel) (by decide +kernel) dX5_firstDraft_16 17 rfl (fun M2 eM2 => ?_)
  have hw := hw M2 eM2
  refine q_aload_n hC dX5_firstDraft_17 0 rfl 18 rfl ?_
  refine q_getR (C := RX5) (T := TX5) (N := 26) (ci := 5) hC inX5_firstDraft_X5 (obF52 hF) rfl 3 (by decide) (uX5_firstDraft__o _ (List.mem_of_getElem? (l := owX5_firstDraft) (i := 1) rfl)) rfl 56 (fun _ => rfl) dX5_firstDraft_18 21 rfl ?_
  refine q_iconst (v := 2) hC dX5_firstDraft_21 rfl 22 rfl ?_
  refine q_iconst (v := 2) hC dX5_firstDraft_22 rfl 23 rfl ?_
  refine q_iastL hC (arF56 hF) 2 (by decide +kernel) (by decide +kernel) dX5_firstDraft_23 24 rfl (fun M3 eM3 => ?_)
  have hw := hw M3 eM3
  refine q_aload_n hC dX5_firstDraft_24 0 rfl 25 rfl ?_
  refine q_getR (C := RX5) (T := TX5) (N := 26) (ci := 5) hC inX5_firstDraft_X5 (obF52 hF) rfl 3 (by decide) (uX5_firstDraft__o _ (List.mem_of_getElem? (l := owX5_firstDraft) (i := 1) rfl)) rfl 56 (fun _ => rfl) dX5_firstDraft_25 28 rfl ?_
  refine q_iconst (v := 3) hC dX5_firstDraft_28 rfl 29 rfl ?_
  refine q_bipush (v := 10) hC dX5_firstDraft_29 (by decide) 31 rfl ?_
  refine q_iastL hC (arF56 hF) 3 (by decide +kernel) (by decide +kernel) dX5_firstDraft_31 32 rfl (fun M4 eM4 => ?_)
  have hw := hw M4 eM4
  refine q_aload_n hC dX5_firstDraft_32 0 rfl 33 rfl ?_
  refine q_getR (C := RX5) (T := TX5) (N := 26) (ci := 5) hC inX5_firstDraft_X5 (obF52 hF) rfl 3 (by decide) (uX5_firstDraft__o _ (List.mem_of_getElem? (l := owX5_firstDraft) (i := 1) rfl)) rfl 56 (fun _ => rfl) dX5_firstDraft_33 36 rfl ?_
  refine q_iconst (v := 4) hC dX5_firstDraft_36 rfl 37 rfl ?_
  refine q_iconst (v := 5) hC dX5_firstDraft_37 rfl 38 rfl ?_
  refine q_iastL hC (arF56 hF) 4 (by decide +kernel) (by decide +kernel) dX5_firstDraft_38 39 rfl (fun M5 eM5 => ?_)
  have hw := hw M5 eM5
  refine q_aload_n hC dX5_firstDraft_39 0 rfl 40 rfl ?_
  refine q_getR (C := RX5) (T := TX5) (N := 26) (ci := 5) hC inX5_firstDraft_X5 (obF52 hF) rfl 3 (by decide) (uX5_firstDraft__o _ (List.mem_of_getElem? (l := owX5_firstDraft) (i := 1) rfl)) rfl 56 (fun _ => rfl) dX5_firstDraft_40 43 rfl ?_
  refine q_iconst (v := 5) hC dX5_firstDraft_43 rfl 44 rfl ?_
  refine q_iconst (v := 3) hC dX5_firstDraft_44 rfl 45 rfl ?_
  refine q_iastL hC (arF56 hF) 5 (by decide +kernel) (by decide +kernel) dX5_firstDraft_45 46 rfl (fun M6 eM6 => ?_)
  have hw := hw M6 eM6
  refine q_aload_n hC dX5_firstDraft_46 0 rfl 47 rfl ?_
  refine q_getR (C := RX5) (T := TX5) (N := 26) (ci := 5) hC inX5_firstDraft_X5 (obF52 hF) rfl 3 (by decide) (uX5_firstDraft__o _ (List.mem_of_getElem? (l := owX5_firstDraft) (i := 1) rfl)) rfl 56 (fun _ => rfl) dX5_firstDraft_47 50 rfl ?_
  refine q_bipush (v := 6) hC dX5_firstDraft_50 (by decide) 52 rfl ?_
  refine q_bipush (v := 6) hC dX5_firstDraft_52 (by decide) 54 rfl ?_
  refine q_iastL hC (arF56 hF) 6 (by decide +kernel) (by decide +kernel) dX5_firstDraft_54 55 rfl (fun M7 eM7 => ?_)
  have hw := hw M7 eM7
  refine q_aload_n hC dX5_firstDraft_55 0 rfl 56 rfl ?_
  refine q_getR (C := RX5) (T := TX5) (N := 26) (ci := 5) hC inX5_firstDraft_X5 (obF52 hF) rfl 3 (by decide) (uX5_firstDraft__o _ (List.mem_of_getElem? (l := owX5_firstDraft) (i := 1) rfl)) rfl 56 (fun _ => rfl) dX5_firstDraft_56 59 rfl ?_
  refine q_bipush (v := 7) hC dX5_firstDraft_59 (by decide) 61 rfl ?_
  refine q_iconst (v := 2) hC dX5_firstDraft_61 rfl 62 rfl ?_
  refine q_iastL hC (arF56 hF) 7 (by decide +kernel) (by decide +kernel) dX5_firstDraft_62 63 rfl (fun M8 eM8 => ?_)
  have hw := hw M8 eM8
  refine q_aload_n hC dX5_firstDraft_63 0 rfl 64 rfl ?_
  refine q_getR (C := RX5) (T := TX5) (N := 26) (ci := 5) hC inX5_firstDraft_X5 (obF52 hF) rfl 3 (by decide) (uX5_firstDraft__o _ (List.mem_of_getElem? (l := owX5_firstDraft) (i := 1) rfl)) rfl 56 (fun _ => rfl) dX5_firstDraft_64 67 rfl ?_
  refine q_bipush (v := 8) hC dX5_firstDraft_67 (by decide) 69 rfl ?_
  refine q_bipush (v := 20) hC dX5_firstDraft_69 (by decide) 71 rfl ?_
  refine q_iastL hC (arF56 hF) 8 (by decide +kernel) (by decide +kernel) dX5_firstDraft_71 72 rfl (fun M9 eM9 => ?_)
  have hw := hw M9 eM9
  refine q_aload_n hC dX5_firstDraft_72 0 rfl 73 rfl ?_
  refine q_iconst (v := 0) hC dX5_firstDraft_73 rfl 74 rfl ?_
  refine q_putI (C := RX5) (T := TX5) (N := 26) (ci := 5) hC inX5_firstDraft_X5 tyX5 tyX5_ok nmX5 (obF52 hF) rfl 4 (by decide) (uX5_firstDraft__o _ (List.mem_of_getElem? (l := owX5_firstDraft) (i := 2) rfl)) rfl rfl rfl (fun _ => Nat.le_of_ble_eq_true rfl) (fun _ => rfl) dX5_firstDraft_74 77 rfl (fun M10 eM10 => ?_)
  have hw := hw M10 eM10
  refine q_aload_n hC dX5_firstDraft_77 0 rfl 78 rfl ?_
  refine q_iconst (v := 0) hC dX5_firstDraft_78 rfl 79 rfl ?_
  refine q_putI (C := RX5) (T := TX5) (N := 26) (ci := 5) hC inX5_firstDraft_X5 tyX5 tyX5_ok nmX5 (obF52 hF) rfl 7 (by decide) (uX5_firstDraft__o _ (List.mem_of_getElem? (l := owX5_firstDraft) (i := 3) rfl)) rfl rfl rfl (fun _ => Nat.le_of_ble_eq_true rfl) (fun _ => rfl) dX5_firstDraft_79 82 rfl (fun M11 eM11 => ?_)
  have hw := hw M11 eM11
  exact r_vret hR dX5_firstDraft_82 hw
theorem inX5_longOf_X5 : ∀ w ∈ u_ws RX5 TX5 26, w ∈ wsX5_longOf := uX5_longOf__wsX50
set_option maxRecDepth 100000 in
set_option maxHeartbeats 4000000 in
theorem ctX5_longOf (l : Launch) (g : GG) (M : MM) (v1 : Int32) (Q : Int32 → MM → Prop) (hF : ful5 g) (hw : wX5_longOf Q M v1) : MI g l yX5_longOf wsX5_longOf (rmOf 0 0) [.ref (gA g 52), .int v1] M Q := by
  refine mk_MI (cc := cX5_longOf) (maxL := 2) (by decide) rfl (Nat.le_of_ble_eq_true rfl) ?_
  intro z Qf hC hR
  show XX z g Qf 2 0 [(0, .ref (gA g 52)), (1, .int v1)] [] M
  refine q_iload_n hC dX5_longOf_0 1 rfl 1 rfl ?_
  refine q_if_ne hC 8 dX5_longOf_1 (by decide) 4 rfl hw (fun hw => ?_) (fun hw => ?_)
  · refine q_iload_n hC dX5_longOf_8 1 rfl 9 rfl ?_
    refine q_aload_n hC dX5_longOf_9 0 rfl 10 rfl ?_
    refine q_getR (C := RX5) (T := TX5) (N := 26) (ci := 5) hC inX5_longOf_X5 (obF52 hF) rfl 2 (by decide) (uX5_longOf__o _ (List.mem_of_getElem? (l := owX5_longOf) (i := 1) rfl)) rfl 55 (fun _ => rfl) dX5_longOf_10 13 rfl ?_
    refine q_bipush (v := 7) hC dX5_longOf_13 (by decide) 15 rfl ?_
    refine q_ialdL hC (arF55 hF) 7 (by decide +kernel) (by decide +kernel) dX5_longOf_15 16 rfl ?_
    refine q_iadd hC dX5_longOf_16 17 rfl ?_
    refine q_aload_n hC dX5_longOf_17 0 rfl 18 rfl ?_
    refine q_getR (C := RX5) (T := TX5) (N := 26) (ci := 5) hC inX5_longOf_X5 (obF52 hF) rfl 2 (by decide) (uX5_longOf__o _ (List.mem_of_getElem? (l := owX5_longOf) (i := 1) rfl)) rfl 55 (fun _ => rfl) dX5_longOf_18 21 rfl ?_
    refine q_bipush (v := 7) hC dX5_longOf_21 (by decide) 23 rfl ?_
    refine q_ialdL hC (arF55 hF) 7 (by decide +kernel) (by decide +kernel) dX5_longOf_23 24 rfl ?_
    obtain ⟨hne, hw⟩ := hw
    refine q_idiv hC dX5_longOf_24 hne 25 rfl ?_
    exact r_iret hR dX5_longOf_25 hw
  · refine q_iconst (v := 1) hC dX5_longOf_4 rfl 5 rfl ?_
    refine q_goto hC 25 dX5_longOf_5 (by decide) ?_
    exact r_iret hR dX5_longOf_25 hw
theorem inX5_draftEnd_X5 : ∀ w ∈ u_ws RX5 TX5 26, w ∈ wsX5_draftEnd := uX5_draftEnd__wsX50
set_option maxRecDepth 100000 in
set_option maxHeartbeats 4000000 in
theorem ctX5_draftEnd (l : Launch) (g : GG) (M : MM)  (Q : Int32 → MM → Prop) (hF : ful5 g) (hw : wX5_draftEnd Q M ) : MI g l yX5_draftEnd wsX5_draftEnd (rmOf 0 0) [.ref (gA g 52)] M Q := by
  refine mk_MI (cc := cX5_draftEnd) (maxL := 3) (by decide) rfl (Nat.le_of_ble_eq_true rfl) ?_
  intro z Qf hC hR
  show XX z g Qf 3 0 [(0, .ref (gA g 52))] [] M
  have B55 : ∀ (K4 : MM → Int32 → Int32 → Prop) (hK4 : ∀ (M : MM) (v1 : Int32) (v2 : Int32) , K4 M v1 v2 → XX z g Qf 3 4 [(0, .ref (gA g 52)), (1, .int v1), (2, .int v2)] [] M) (M : MM) (v2 : Int32) (p0 : Int32) (p1 : Int32) (p2 : Int32), wX5_draftEnd_55 Q K4 M v2 p0 p1 p2 → XX z g Qf 3 55 [(0, .ref (gA g 52)), (2, .int v2)] [.int p0, .int p1, .int p2] M := by
    intro K4 hK4 M v2 p0 p1 p2 hw
    refine q_iadd hC dX5_draftEnd_55 56 rfl ?_
    refine q_iadd hC dX5_draftEnd_56 57 rfl ?_
    refine q_nameI (fun x1 ex1 => ?_)
    have hw := hw x1 ex1
    refine q_istore_n (L' := [(1, .int x1), (0, .ref (gA g 52)), (2, .int v2)]) hC dX5_draftEnd_57 (by decide) rfl 58 rfl ?_
    refine q_iinc (v := v2 + 1) (L' := [(2, .int (v2 + 1)), (1, .int x1), (0, .ref (gA g 52))]) hC dX5_draftEnd_58 2 rfl rfl (by decide) rfl 61 rfl ?_
    refine q_goto hC 4 dX5_draftEnd_61 (by decide) ?_
    exact XX.sub [2, 1, 0] rfl (hK4 M x1 (v2 + 1) hw)
  have B4 : ∀ (n : Nat) (M : MM) (v1 : Int32) (v2 : Int32) , wX5_draftEnd_4 Q n M v1 v2 → XX z g Qf 3 4 [(0, .ref (gA g 52)), (1, .int v1), (2, .int v2)] [] M := by
    intro n
    induction n with
    | zero =>
      intro M v1 v2 hw
      exact hw.elim
    | succ n ih =>
      intro M v1 v2 hw
      refine q_iload_n hC dX5_draftEnd_4 2 rfl 5 rfl ?_
      refine q_aload_n hC dX5_draftEnd_5 0 rfl 6 rfl ?_
      refine q_getI (C := RX5) (T := TX5) (N := 26) (ci := 5) hC inX5_draftEnd_X5 (obF52 hF) rfl 4 (by decide) (uX5_draftEnd__o _ (List.mem_of_getElem? (l := owX5_draftEnd) (i := 1) rfl)) rfl (fun _ => rfl) dX5_draftEnd_6 9 rfl ?_
      refine q_icmp_ge hC 64 dX5_draftEnd_9 (by decide) 12 rfl hw (fun hw => ?_) (fun hw => ?_)
      · refine q_iload_n hC dX5_draftEnd_64 1 rfl 65 rfl ?_
        exact r_iret hR dX5_draftEnd_65 hw
      · refine q_iload_n hC dX5_draftEnd_12 1 rfl 13 rfl ?_
        refine q_aload_n hC dX5_draftEnd_13 0 rfl 14 rfl ?_
        refine q_getR (C := RX5) (T := TX5) (N := 26) (ci := 5) hC inX5_draftEnd_X5 (obF52 hF) rfl 3 (by decide) (uX5_draftEnd__o _ (List.mem_of_getElem? (l := owX5_draftEnd) (i := 2) rfl)) rfl 56 (fun _ => rfl) dX5_draftEnd_14 17 rfl ?_
        refine q_bipush (v := 6) hC dX5_draftEnd_17 (by decide) 19 rfl ?_
        refine q_ialdL hC (arF56 hF) 6 (by decide +kernel) (by decide +kernel) dX5_draftEnd_19 20 rfl ?_
        refine q_aload_n hC dX5_draftEnd_20 0 rfl 21 rfl ?_
        refine q_getR (C := RX5) (T := TX5) (N := 26) (ci := 5) hC inX5_draftEnd_X5 (obF52 hF) rfl 5 (by decide) (uX5_draftEnd__o _ (List.mem_of_getElem? (l := owX5_draftEnd) (i := 3) rfl)) rfl 57 (fun _ => rfl) dX5_draftEnd_21 24 rfl ?_
        refine q_iload_n hC dX5_draftEnd_24 2 rfl 25 rfl ?_
        obtain ⟨hin, hw⟩ := hw
        refine q_iald hC (arF57 hF) hin dX5_draftEnd_25 26 rfl ?_
        refine q_if_ne hC 33 dX5_draftEnd_26 (by decide) 29 rfl hw (fun hw => ?_) (fun hw => ?_)
        · refine q_aload_n hC dX5_draftEnd_33 0 rfl 34 rfl ?_
          refine q_getR (C := RX5) (T := TX5) (N := 26) (ci := 5) hC inX5_draftEnd_X5 (obF52 hF) rfl 5 (by decide) (uX5_draftEnd__o _ (List.mem_of_getElem? (l := owX5_draftEnd) (i := 3) rfl)) rfl 57 (fun _ => rfl) dX5_draftEnd_34 37 rfl ?_
          refine q_iload_n hC dX5_draftEnd_37 2 rfl 38 rfl ?_
          obtain ⟨hin, hw⟩ := hw
          refine q_iald hC (arF57 hF) hin dX5_draftEnd_38 39 rfl ?_
          refine q_aload_n hC dX5_draftEnd_39 0 rfl 40 rfl ?_
          refine q_getR (C := RX5) (T := TX5) (N := 26) (ci := 5) hC inX5_draftEnd_X5 (obF52 hF) rfl 3 (by decide) (uX5_draftEnd__o _ (List.mem_of_getElem? (l := owX5_draftEnd) (i := 2) rfl)) rfl 56 (fun _ => rfl) dX5_draftEnd_40 43 rfl ?_
          refine q_bipush (v := 7) hC dX5_draftEnd_43 (by decide) 45 rfl ?_
          refine q_ialdL hC (arF56 hF) 7 (by decide +kernel) (by decide +kernel) dX5_draftEnd_45 46 rfl ?_
          refine q_iadd hC dX5_draftEnd_46 47 rfl ?_
          refine q_aload_n hC dX5_draftEnd_47 0 rfl 48 rfl ?_
          refine q_getR (C := RX5) (T := TX5) (N := 26) (ci := 5) hC inX5_draftEnd_X5 (obF52 hF) rfl 3 (by decide) (uX5_draftEnd__o _ (List.mem_of_getElem? (l := owX5_draftEnd) (i := 2) rfl)) rfl 56 (fun _ => rfl) dX5_draftEnd_48 51 rfl ?_
          refine q_bipush (v := 7) hC dX5_draftEnd_51 (by decide) 53 rfl ?_
          refine q_ialdL hC (arF56 hF) 7 (by decide +kernel) (by decide +kernel) dX5_draftEnd_53 54 rfl ?_
          obtain ⟨hne, hw⟩ := hw
          refine q_idiv hC dX5_draftEnd_54 hne 55 rfl ?_
          exact XX.sub [0, 2] rfl (B55 _ (fun M v1 v2 hw => ih M v1 v2 hw) M v2 (((M 57 v2.toNatClampNeg) + (M 56 7)) / (M 56 7)) (M 56 6) v1 hw)
        · refine q_iconst (v := 1) hC dX5_draftEnd_29 rfl 30 rfl ?_
          refine q_goto hC 55 dX5_draftEnd_30 (by decide) ?_
          exact XX.sub [0, 2] rfl (B55 _ (fun M v1 v2 hw => ih M v1 v2 hw) M v2 1 (M 56 6) v1 hw)
  refine q_iconst (v := 0) hC dX5_draftEnd_0 rfl 1 rfl ?_
  refine q_istore_n (L' := [(1, .int 0), (0, .ref (gA g 52))]) hC dX5_draftEnd_1 (by decide) rfl 2 rfl ?_
  refine q_iconst (v := 0) hC dX5_draftEnd_2 rfl 3 rfl ?_
  refine q_istore_n (L' := [(2, .int 0), (1, .int 0), (0, .ref (gA g 52))]) hC dX5_draftEnd_3 (by decide) rfl 4 rfl ?_
  obtain ⟨n0, hw⟩ := hw
  exact XX.sub [2, 1, 0] rfl (B4 n0 M 0 0 hw)
theorem hdV_X5_longOf : yX5_longOf.cls = RX5 ∧ yX5_longOf.cls ≠ "java/lang/invoke/MethodHandle" ∧ yX5_longOf.cls ≠ "java/lang/invoke/VarHandle" ∧ (parseMethodDescriptor yX5_longOf.desc).map (fun d => d.parameters.length) = some 1 := by decide +kernel
theorem inX5_endOf_X5 : ∀ w ∈ u_ws RX5 TX5 26, w ∈ wsX5_endOf := uX5_endOf__wsX50
set_option maxRecDepth 100000 in
set_option maxHeartbeats 4000000 in
theorem ctX5_endOf (l : Launch) (g : GG) (M : MM) (v1 : Int32) (Q : Int32 → MM → Prop) (hF : ful5 g) (hw : wX5_endOf Q M v1) : MI g l yX5_endOf wsX5_endOf (rmOf 1 21) [.ref (gA g 52), .int v1] M Q := by
  refine mk_MI (cc := cX5_endOf) (maxL := 2) (by decide) rfl (Nat.le_of_ble_eq_true rfl) ?_
  intro z Qf hC hR
  show XX z g Qf 2 0 [(0, .ref (gA g 52)), (1, .int v1)] [] M
  refine q_aload_n hC dX5_endOf_0 0 rfl 1 rfl ?_
  refine q_getR (C := RX5) (T := TX5) (N := 26) (ci := 5) hC inX5_endOf_X5 (obF52 hF) rfl 0 (by decide) (uX5_endOf__o _ (List.mem_of_getElem? (l := owX5_endOf) (i := 1) rfl)) rfl 53 (fun _ => rfl) dX5_endOf_1 4 rfl ?_
  refine q_iconst (v := 1) hC dX5_endOf_4 rfl 5 rfl ?_
  refine q_iload_n hC dX5_endOf_5 1 rfl 6 rfl ?_
  refine q_iadd hC dX5_endOf_6 7 rfl ?_
  obtain ⟨hin, hw⟩ := hw
  refine q_iald hC (arF53 hF) hin dX5_endOf_7 8 rfl ?_
  refine q_aload_n hC dX5_endOf_8 0 rfl 9 rfl ?_
  refine q_aload_n hC dX5_endOf_9 0 rfl 10 rfl ?_
  refine q_getR (C := RX5) (T := TX5) (N := 26) (ci := 5) hC inX5_endOf_X5 (obF52 hF) rfl 0 (by decide) (uX5_endOf__o _ (List.mem_of_getElem? (l := owX5_endOf) (i := 1) rfl)) rfl 53 (fun _ => rfl) dX5_endOf_10 13 rfl ?_
  refine q_bipush (v := 13) hC dX5_endOf_13 (by decide) 15 rfl ?_
  refine q_iload_n hC dX5_endOf_15 1 rfl 16 rfl ?_
  refine q_iadd hC dX5_endOf_16 17 rfl ?_
  obtain ⟨hin, hw⟩ := hw
  refine q_iald hC (arF53 hF) hin dX5_endOf_17 18 rfl ?_
  refine r_callI hC (go_V (q := (RX5, TX5, 26)) (As := [.int (M 53 ((13 : Int32) + v1).toNatClampNeg)]) (rest := [.int (M 53 ((1 : Int32) + v1).toNatClampNeg)]) hC (ctX5_longOf (zl z) g M (M 53 ((13 : Int32) + v1).toNatClampNeg) _ hF hw) 1 gX5_endOf_X5_longOf rfl ⟨rfl, rfl⟩ hdV_X5_longOf ⟨Nat.le_of_ble_eq_true rfl, Nat.le_of_ble_eq_true rfl⟩ (obF52 hF) rfl rfl rfl (Nat.le_of_ble_eq_true rfl) dX5_endOf_18) 21 rfl (fun r1 M2 hw => ?_)
  refine q_iadd hC dX5_endOf_21 22 rfl ?_
  exact r_iret hR dX5_endOf_22 hw
theorem hdV_X5_endOf : yX5_endOf.cls = RX5 ∧ yX5_endOf.cls ≠ "java/lang/invoke/MethodHandle" ∧ yX5_endOf.cls ≠ "java/lang/invoke/VarHandle" ∧ (parseMethodDescriptor yX5_endOf.desc).map (fun d => d.parameters.length) = some 1 := by decide +kernel
theorem inX5_beginOf_X5 : ∀ w ∈ u_ws RX5 TX5 26, w ∈ wsX5_beginOf := uX5_beginOf__wsX50
set_option maxRecDepth 100000 in
set_option maxHeartbeats 4000000 in
theorem ctX5_beginOf (l : Launch) (g : GG) (M : MM) (v1 : Int32) (Q : Int32 → MM → Prop) (hF : ful5 g) (hw : wX5_beginOf Q M v1) : MI g l yX5_beginOf wsX5_beginOf (rmOf 2 42) [.ref (gA g 52), .int v1] M Q := by
  refine mk_MI (cc := cX5_beginOf) (maxL := 2) (by decide) rfl (Nat.le_of_ble_eq_true rfl) ?_
  intro z Qf hC hR
  show XX z g Qf 2 0 [(0, .ref (gA g 52)), (1, .int v1)] [] M
  refine q_aload_n hC dX5_beginOf_0 0 rfl 1 rfl ?_
  refine q_getR (C := RX5) (T := TX5) (N := 26) (ci := 5) hC inX5_beginOf_X5 (obF52 hF) rfl 2 (by decide) (uX5_beginOf__X5_longOf _ (List.mem_of_getElem? (l := owX5_longOf) (i := 1) rfl)) rfl 55 (fun _ => rfl) dX5_beginOf_1 4 rfl ?_
  refine q_bipush (v := 6) hC dX5_beginOf_4 (by decide) 6 rfl ?_
  refine q_ialdL hC (arF55 hF) 6 (by decide +kernel) (by decide +kernel) dX5_beginOf_6 7 rfl ?_
  refine q_iload_n hC dX5_beginOf_7 1 rfl 8 rfl ?_
  refine q_if_ne hC 15 dX5_beginOf_8 (by decide) 11 rfl hw (fun hw => ?_) (fun hw => ?_)
  · refine q_aload_n hC dX5_beginOf_15 0 rfl 16 rfl ?_
    refine q_iload_n hC dX5_beginOf_16 1 rfl 17 rfl ?_
    refine q_iconst (v := 1) hC dX5_beginOf_17 rfl 18 rfl ?_
    refine q_isub hC dX5_beginOf_18 19 rfl ?_
    refine r_callI hC (go_V (q := (RX5, TX5, 26)) (As := [.int (v1 - (1 : Int32))]) (rest := [.int (M 55 6)]) hC (ctX5_endOf (zl z) g M (v1 - (1 : Int32)) _ hF hw) 1 gX5_beginOf_X5_endOf rfl ⟨rfl, rfl⟩ hdV_X5_endOf ⟨Nat.le_of_ble_eq_true rfl, Nat.le_of_ble_eq_true rfl⟩ (obF52 hF) rfl rfl rfl (Nat.le_of_ble_eq_true rfl) dX5_beginOf_19) 22 rfl (fun r1 M2 hw => ?_)
    refine q_iadd hC dX5_beginOf_22 23 rfl ?_
    exact r_iret hR dX5_beginOf_23 hw
  · refine q_iconst (v := 0) hC dX5_beginOf_11 rfl 12 rfl ?_
    refine q_goto hC 22 dX5_beginOf_12 (by decide) ?_
    refine q_iadd hC dX5_beginOf_22 23 rfl ?_
    exact r_iret hR dX5_beginOf_23 hw
theorem hdV_X5_beginOf : yX5_beginOf.cls = RX5 ∧ yX5_beginOf.cls ≠ "java/lang/invoke/MethodHandle" ∧ yX5_beginOf.cls ≠ "java/lang/invoke/VarHandle" ∧ (parseMethodDescriptor yX5_beginOf.desc).map (fun d => d.parameters.length) = some 1 := by decide +kernel
theorem hdT_X5_odd : yX5_odd.cls ≠ "java/lang/invoke/MethodHandle" ∧ yX5_odd.cls ≠ "java/lang/invoke/VarHandle" ∧ (parseMethodDescriptor yX5_odd.desc).map (fun d => d.parameters.length) = some 1 := by decide +kernel
theorem inX5_lays_X5 : ∀ w ∈ u_ws RX5 TX5 26, w ∈ wsX5_lays := uX5_lays__wsX50
set_option maxRecDepth 100000 in
set_option maxHeartbeats 4000000 in
theorem ctX5_lays (l : Launch) (g : GG) (M : MM) (v1 : Int32) (Q : MM → Prop) (hF : ful5 g) (hw : wX5_lays Q M v1) : MV g l yX5_lays wsX5_lays (rmOf 3 63) [.ref (gA g 52), .int v1] M Q := by
  refine mk_MV (cc := cX5_lays) (maxL := 6) (by decide) rfl (Nat.le_of_ble_eq_true rfl) ?_
  intro z Qf hC hR
  show XX z g Qf 6 0 [(0, .ref (gA g 52)), (1, .int v1)] [] M
  have B68 : ∀ (K35 : MM → Int32 → Int32 → Int32 → Prop) (hK35 : ∀ (M : MM) (v2 : Int32) (v3 : Int32) (v4 : Int32) , K35 M v2 v3 v4 → XX z g Qf 6 35 [(0, .ref (gA g 52)), (1, .int v1), (2, .int v2), (3, .int v3), (4, .int v4)] [] M) (M : MM) (v2 : Int32) (v3 : Int32) (v4 : Int32) (p0 : Int32) (p1 : Int32), wX5_lays_68 Q K35 v1 M v2 v3 v4 p0 p1 → XX z g Qf 6 68 [(0, .ref (gA g 52)), (1, .int v1), (2, .int v2), (3, .int v3), (4, .int v4)] [.int p0, .int p1] M := by
    intro K35 hK35 M v2 v3 v4 p0 p1 hw
    refine q_ior hC dX5_lays_68 69 rfl ?_
    refine q_istore (L' := [(5, .int (p1 ||| p0)), (0, .ref (gA g 52)), (1, .int v1), (2, .int v2), (3, .int v3), (4, .int v4)]) hC dX5_lays_69 (by decide) rfl 71 rfl ?_
    refine q_aload_n hC dX5_lays_71 1 rfl 72 rfl ?_
    refine q_getR (C := RX5) (T := TX5) (N := 26) (ci := 5) hC inX5_lays_X5 (obF52 hF) rfl 0 (by decide) (uX5_lays__X5_endOf _ (List.mem_of_getElem? (l := owX5_endOf) (i := 1) rfl)) rfl 53 (fun _ => rfl) dX5_lays_72 75 rfl ?_
    refine q_bipush (v := 25) hC dX5_lays_75 (by decide) 77 rfl ?_
    refine q_bipush (v := 13) hC dX5_lays_77 (by decide) 79 rfl ?_
    refine q_iload_n hC dX5_lays_79 3 rfl 80 rfl ?_
    refine q_imul hC dX5_lays_80 81 rfl ?_
    refine q_iadd hC dX5_lays_81 82 rfl ?_
    refine q_iload hC dX5_lays_82 5 rfl 84 rfl ?_
    refine q_iadd hC dX5_lays_84 85 rfl ?_
    refine q_iload hC dX5_lays_85 0 rfl 87 rfl ?_
    obtain ⟨hin, hw⟩ := hw
    refine q_iast hC (arF53 hF) hin dX5_lays_87 88 rfl (fun M9 eM9 => ?_)
    have hw := hw M9 eM9
    refine q_aload_n hC dX5_lays_88 1 rfl 89 rfl ?_
    refine q_getR (C := RX5) (T := TX5) (N := 26) (ci := 5) hC inX5_lays_X5 (obF52 hF) rfl 0 (by decide) (uX5_lays__X5_endOf _ (List.mem_of_getElem? (l := owX5_endOf) (i := 1) rfl)) rfl 53 (fun _ => rfl) dX5_lays_89 92 rfl ?_
    refine q_sipush (v := 181) hC dX5_lays_92 (by decide) 95 rfl ?_
    refine q_bipush (v := 12) hC dX5_lays_95 (by decide) 97 rfl ?_
    refine q_iload_n hC dX5_lays_97 3 rfl 98 rfl ?_
    refine q_imul hC dX5_lays_98 99 rfl ?_
    refine q_iadd hC dX5_lays_99 100 rfl ?_
    refine q_iload hC dX5_lays_100 5 rfl 102 rfl ?_
    refine q_iadd hC dX5_lays_102 103 rfl ?_
    refine q_aload_n hC dX5_lays_103 1 rfl 104 rfl ?_
    refine q_getR (C := RX5) (T := TX5) (N := 26) (ci := 5) hC inX5_lays_X5 (obF52 hF) rfl 16 (by decide) (uX5_lays__o _ (List.mem_of_getElem? (l := owX5_lays) (i := 1) rfl)) rfl 60 (fun _ => rfl) dX5_lays_104 107 rfl ?_
    refine q_iload hC dX5_lays_107 5 rfl 109 rfl ?_
    obtain ⟨hin, hw⟩ := hw
    refine q_iald hC (arF60 hF) hin dX5_lays_109 110 rfl ?_
    obtain ⟨hin, hw⟩ := hw
    refine q_iast hC (arF53 hF) hin dX5_lays_110 111 rfl (fun M10 eM10 => ?_)
    have hw := hw M10 eM10
    refine q_iload_n hC dX5_lays_111 4 rfl 112 rfl ?_
    refine q_iload hC dX5_lays_112 0 rfl 114 rfl ?_
    refine q_ixor hC dX5_lays_114 115 rfl ?_
    refine q_nameI (fun x11 ex11 => ?_)
    have hw := hw x11 ex11
    refine q_istore_n (L' := [(3, .int x11), (5, .int (p1 ||| p0)), (0, .ref (gA g 52)), (1, .int v1), (2, .int v2), (4, .int v4)]) hC dX5_lays_115 (by decide) rfl 116 rfl ?_
    refine q_iinc (v := v4 + 1) (L' := [(4, .int (v4 + 1)), (3, .int x11), (5, .int (p1 ||| p0)), (0, .ref (gA g 52)), (1, .int v1), (2, .int v2)]) hC dX5_lays_116 5 rfl rfl (by decide) rfl 119 rfl ?_
    refine q_goto hC 35 dX5_lays_119 (by decide) ?_
    exact XX.sub [3, 4, 5, 1, 0] rfl (hK35 M10 v2 x11 (v4 + 1) hw)
  have B35 : ∀ (n : Nat) (M : MM) (v2 : Int32) (v3 : Int32) (v4 : Int32) , wX5_lays_35 Q v1 n M v2 v3 v4 → XX z g Qf 6 35 [(0, .ref (gA g 52)), (1, .int v1), (2, .int v2), (3, .int v3), (4, .int v4)] [] M := by
    intro n
    induction n with
    | zero =>
      intro M v2 v3 v4 hw
      exact hw.elim
    | succ n ih =>
      intro M v2 v3 v4 hw
      refine q_iload hC dX5_lays_35 4 rfl 37 rfl ?_
      refine q_iload_n hC dX5_lays_37 1 rfl 38 rfl ?_
      refine q_icmp_ge hC 122 dX5_lays_38 (by decide) 41 rfl hw (fun hw => ?_) (fun hw => ?_)
      · refine q_aload_n hC dX5_lays_122 0 rfl 123 rfl ?_
        refine q_getR (C := RX5) (T := TX5) (N := 26) (ci := 5) hC inX5_lays_X5 (obF52 hF) rfl 0 (by decide) (uX5_lays__X5_endOf _ (List.mem_of_getElem? (l := owX5_endOf) (i := 1) rfl)) rfl 53 (fun _ => rfl) dX5_lays_123 126 rfl ?_
        refine q_bipush (v := 25) hC dX5_lays_126 (by decide) 128 rfl ?_
        refine q_bipush (v := 13) hC dX5_lays_128 (by decide) 130 rfl ?_
        refine q_iload_n hC dX5_lays_130 2 rfl 131 rfl ?_
        refine q_imul hC dX5_lays_131 132 rfl ?_
        refine q_iadd hC dX5_lays_132 133 rfl ?_
        refine q_iload_n hC dX5_lays_133 1 rfl 134 rfl ?_
        refine q_iadd hC dX5_lays_134 135 rfl ?_
        refine q_iload_n hC dX5_lays_135 3 rfl 136 rfl ?_
        obtain ⟨hin, hw⟩ := hw
        refine q_iast hC (arF53 hF) hin dX5_lays_136 137 rfl (fun M5 eM5 => ?_)
        have hw := hw M5 eM5
        refine q_aload_n hC dX5_lays_137 0 rfl 138 rfl ?_
        refine q_getR (C := RX5) (T := TX5) (N := 26) (ci := 5) hC inX5_lays_X5 (obF52 hF) rfl 0 (by decide) (uX5_lays__X5_endOf _ (List.mem_of_getElem? (l := owX5_endOf) (i := 1) rfl)) rfl 53 (fun _ => rfl) dX5_lays_138 141 rfl ?_
        refine q_iconst (v := 0) hC dX5_lays_141 rfl 142 rfl ?_
        refine q_iload_n hC dX5_lays_142 2 rfl 143 rfl ?_
        refine q_iconst (v := 1) hC dX5_lays_143 rfl 144 rfl ?_
        refine q_iadd hC dX5_lays_144 145 rfl ?_
        refine q_iastL hC (arF53 hF) 0 (by decide +kernel) (by decide +kernel) dX5_lays_145 146 rfl (fun M6 eM6 => ?_)
        have hw := hw M6 eM6
        exact r_vret hR dX5_lays_146 hw
      · refine q_aload_n hC dX5_lays_41 0 rfl 42 rfl ?_
        refine q_getR (C := RX5) (T := TX5) (N := 26) (ci := 5) hC inX5_lays_X5 (obF52 hF) rfl 16 (by decide) (uX5_lays__o _ (List.mem_of_getElem? (l := owX5_lays) (i := 1) rfl)) rfl 60 (fun _ => rfl) dX5_lays_42 45 rfl ?_
        refine q_iload hC dX5_lays_45 4 rfl 47 rfl ?_
        obtain ⟨hin, hw⟩ := hw
        refine q_iald hC (arF60 hF) hin dX5_lays_47 48 rfl ?_
        refine q_aload_n hC dX5_lays_48 0 rfl 49 rfl ?_
        refine q_getR (C := RX5) (T := TX5) (N := 26) (ci := 5) hC inX5_lays_X5 (obF52 hF) rfl 16 (by decide) (uX5_lays__o _ (List.mem_of_getElem? (l := owX5_lays) (i := 1) rfl)) rfl 60 (fun _ => rfl) dX5_lays_49 52 rfl ?_
        refine q_iload hC dX5_lays_52 4 rfl 54 rfl ?_
        obtain ⟨hin, hw⟩ := hw
        refine q_iald hC (arF60 hF) hin dX5_lays_54 55 rfl ?_
        refine r_callI hC (go_T (As := [.int (M 60 v4.toNatClampNeg)]) (rest := [.int (M 60 v4.toNatClampNeg)]) hC (ctX5_odd (zl z) g M (M 60 v4.toNatClampNeg) _ hw) 1 gX5_lays_X5_odd rfl ⟨rfl, rfl⟩ hdT_X5_odd ⟨Nat.le_of_ble_eq_true rfl, Nat.le_of_ble_eq_true rfl⟩ rfl rfl (Nat.le_of_ble_eq_true rfl) dX5_lays_55) 58 rfl (fun r7 M8 hw => ?_)
        refine q_if_ne hC 67 dX5_lays_58 (by decide) 61 rfl hw (fun hw => ?_) (fun hw => ?_)
        · refine q_iconst (v := 0) hC dX5_lays_67 rfl 68 rfl ?_
          exact XX.sub [0, 1, 2, 3, 4] rfl (B68 _ (fun M v2 v3 v4 hw => ih M v2 v3 v4 hw) M8 v2 v3 v4 0 (M 60 v4.toNatClampNeg) hw)
        · refine q_sipush (v := 256) hC dX5_lays_61 (by decide) 64 rfl ?_
          refine q_goto hC 68 dX5_lays_64 (by decide) ?_
          exact XX.sub [0, 1, 2, 3, 4] rfl (B68 _ (fun M v2 v3 v4 hw => ih M v2 v3 v4 hw) M8 v2 v3 v4 256 (M 60 v4.toNatClampNeg) hw)
  refine q_aload_n hC dX5_lays_0 0 rfl 1 rfl ?_
  refine q_getR (C := RX5) (T := TX5) (N := 26) (ci := 5) hC inX5_lays_X5 (obF52 hF) rfl 0 (by decide) (uX5_lays__X5_endOf _ (List.mem_of_getElem? (l := owX5_endOf) (i := 1) rfl)) rfl 53 (fun _ => rfl) dX5_lays_1 4 rfl ?_
  refine q_iconst (v := 0) hC dX5_lays_4 rfl 5 rfl ?_
  refine q_ialdL hC (arF53 hF) 0 (by decide +kernel) (by decide +kernel) dX5_lays_5 6 rfl ?_
  refine q_istore_n (L' := [(2, .int (M 53 0)), (0, .ref (gA g 52)), (1, .int v1)]) hC dX5_lays_6 (by decide) rfl 7 rfl ?_
  refine q_iconst (v := 0) hC dX5_lays_7 rfl 8 rfl ?_
  refine q_istore_n (L' := [(3, .int 0), (2, .int (M 53 0)), (0, .ref (gA g 52)), (1, .int v1)]) hC dX5_lays_8 (by decide) rfl 9 rfl ?_
  refine q_aload_n hC dX5_lays_9 2 rfl 10 rfl ?_
  refine q_getR (C := RX5) (T := TX5) (N := 26) (ci := 5) hC inX5_lays_X5 (obF52 hF) rfl 0 (by decide) (uX5_lays__X5_endOf _ (List.mem_of_getElem? (l := owX5_endOf) (i := 1) rfl)) rfl 53 (fun _ => rfl) dX5_lays_10 13 rfl ?_
  refine q_iconst (v := 1) hC dX5_lays_13 rfl 14 rfl ?_
  refine q_iload_n hC dX5_lays_14 1 rfl 15 rfl ?_
  refine q_iadd hC dX5_lays_15 16 rfl ?_
  refine q_aload_n hC dX5_lays_16 2 rfl 17 rfl ?_
  refine q_iload_n hC dX5_lays_17 1 rfl 18 rfl ?_
  refine r_callI hC (go_V (q := (RX5, TX5, 26)) (As := [.int (M 53 0)]) (rest := [.int ((1 : Int32) + (M 53 0)), .ref (gA g 53)]) hC (ctX5_beginOf (zl z) g M (M 53 0) _ hF hw) 1 gX5_lays_X5_beginOf rfl ⟨rfl, rfl⟩ hdV_X5_beginOf ⟨Nat.le_of_ble_eq_true rfl, Nat.le_of_ble_eq_true rfl⟩ (obF52 hF) rfl rfl rfl (Nat.le_of_ble_eq_true rfl) dX5_lays_18) 21 rfl (fun r1 M2 hw => ?_)
  obtain ⟨hin, hw⟩ := hw
  refine q_iast hC (arF53 hF) hin dX5_lays_21 22 rfl (fun M3 eM3 => ?_)
  have hw := hw M3 eM3
  refine q_aload_n hC dX5_lays_22 2 rfl 23 rfl ?_
  refine q_getR (C := RX5) (T := TX5) (N := 26) (ci := 5) hC inX5_lays_X5 (obF52 hF) rfl 0 (by decide) (uX5_lays__X5_endOf _ (List.mem_of_getElem? (l := owX5_endOf) (i := 1) rfl)) rfl 53 (fun _ => rfl) dX5_lays_23 26 rfl ?_
  refine q_bipush (v := 13) hC dX5_lays_26 (by decide) 28 rfl ?_
  refine q_iload_n hC dX5_lays_28 1 rfl 29 rfl ?_
  refine q_iadd hC dX5_lays_29 30 rfl ?_
  refine q_iload_n hC dX5_lays_30 3 rfl 31 rfl ?_
  obtain ⟨hin, hw⟩ := hw
  refine q_iast hC (arF53 hF) hin dX5_lays_31 32 rfl (fun M4 eM4 => ?_)
  have hw := hw M4 eM4
  refine q_iconst (v := 0) hC dX5_lays_32 rfl 33 rfl ?_
  refine q_istore (L' := [(4, .int 0), (3, .int 0), (2, .int (M 53 0)), (0, .ref (gA g 52)), (1, .int v1)]) hC dX5_lays_33 (by decide) rfl 35 rfl ?_
  obtain ⟨n0, hw⟩ := hw
  exact XX.sub [3, 4, 2, 1, 0] rfl (B35 n0 M4 (M 53 0) 0 0 hw)
theorem hdV_X5_lays : yX5_lays.cls = RX5 ∧ yX5_lays.cls ≠ "java/lang/invoke/MethodHandle" ∧ yX5_lays.cls ≠ "java/lang/invoke/VarHandle" ∧ (parseMethodDescriptor yX5_lays.desc).map (fun d => d.parameters.length) = some 1 := by decide +kernel
theorem inX5_keepDraft_X5 : ∀ w ∈ u_ws RX5 TX5 26, w ∈ wsX5_keepDraft := uX5_keepDraft__wsX50
set_option maxRecDepth 100000 in
set_option maxHeartbeats 4000000 in
theorem ctX5_keepDraft (l : Launch) (g : GG) (M : MM)  (Q : MM → Prop) (hF : ful5 g) (hw : wX5_keepDraft Q M ) : MV g l yX5_keepDraft wsX5_keepDraft (rmOf 4 88) [.ref (gA g 52)] M Q := by
  refine mk_MV (cc := cX5_keepDraft) (maxL := 3) (by decide) rfl (Nat.le_of_ble_eq_true rfl) ?_
  intro z Qf hC hR
  show XX z g Qf 3 0 [(0, .ref (gA g 52))] [] M
  have B98 : ∀ (K88 : MM → Int32 → Prop) (hK88 : ∀ (M : MM) (v1 : Int32) , K88 M v1 → XX z g Qf 3 88 [(0, .ref (gA g 52)), (1, .int v1)] [] M) (n : Nat) (M : MM) (v1 : Int32) (v2 : Int32) , wX5_keepDraft_98 Q K88 n M v1 v2 → XX z g Qf 3 98 [(0, .ref (gA g 52)), (1, .int v1), (2, .int v2)] [] M := by
    intro K88 hK88 n
    induction n with
    | zero =>
      intro M v1 v2 hw
      exact hw.elim
    | succ n ih =>
      intro M v1 v2 hw
      refine q_iload_n hC dX5_keepDraft_98 2 rfl 99 rfl ?_
      refine q_aload_n hC dX5_keepDraft_99 0 rfl 100 rfl ?_
      refine q_getR (C := RX5) (T := TX5) (N := 26) (ci := 5) hC inX5_keepDraft_X5 (obF52 hF) rfl 5 (by decide) (uX5_keepDraft__o _ (List.mem_of_getElem? (l := owX5_keepDraft) (i := 4) rfl)) rfl 57 (fun _ => rfl) dX5_keepDraft_100 103 rfl ?_
      refine q_iload_n hC dX5_keepDraft_103 1 rfl 104 rfl ?_
      obtain ⟨hin, hw⟩ := hw
      refine q_iald hC (arF57 hF) hin dX5_keepDraft_104 105 rfl ?_
      refine q_icmp_ge hC 131 dX5_keepDraft_105 (by decide) 108 rfl hw (fun hw => ?_) (fun hw => ?_)
      · refine q_aload_n hC dX5_keepDraft_131 0 rfl 132 rfl ?_
        refine q_aload_n hC dX5_keepDraft_132 0 rfl 133 rfl ?_
        refine q_getR (C := RX5) (T := TX5) (N := 26) (ci := 5) hC inX5_keepDraft_X5 (obF52 hF) rfl 5 (by decide) (uX5_keepDraft__o _ (List.mem_of_getElem? (l := owX5_keepDraft) (i := 4) rfl)) rfl 57 (fun _ => rfl) dX5_keepDraft_133 136 rfl ?_
        refine q_iload_n hC dX5_keepDraft_136 1 rfl 137 rfl ?_
        obtain ⟨hin, hw⟩ := hw
        refine q_iald hC (arF57 hF) hin dX5_keepDraft_137 138 rfl ?_
        refine r_callV hC (go_V (q := (RX5, TX5, 26)) (As := [.int (M 57 v1.toNatClampNeg)]) (rest := []) hC (ctX5_lays (zl z) g M (M 57 v1.toNatClampNeg) _ hF hw) 1 gX5_keepDraft_X5_lays rfl ⟨rfl, rfl⟩ hdV_X5_lays ⟨Nat.le_of_ble_eq_true rfl, Nat.le_of_ble_eq_true rfl⟩ (obF52 hF) rfl rfl rfl (Nat.le_of_ble_eq_true rfl) dX5_keepDraft_138) 141 rfl (fun M7 hw => ?_)
        refine q_iinc (v := v1 + 1) (L' := [(1, .int (v1 + 1)), (0, .ref (gA g 52)), (2, .int v2)]) hC dX5_keepDraft_141 1 rfl rfl (by decide) rfl 144 rfl ?_
        refine q_goto hC 88 dX5_keepDraft_144 (by decide) ?_
        exact XX.sub [1, 0] rfl (hK88 M7 (v1 + 1) hw)
      · refine q_aload_n hC dX5_keepDraft_108 0 rfl 109 rfl ?_
        refine q_getR (C := RX5) (T := TX5) (N := 26) (ci := 5) hC inX5_keepDraft_X5 (obF52 hF) rfl 16 (by decide) (uX5_keepDraft__X5_lays _ (List.mem_of_getElem? (l := owX5_lays) (i := 1) rfl)) rfl 60 (fun _ => rfl) dX5_keepDraft_109 112 rfl ?_
        refine q_iload_n hC dX5_keepDraft_112 2 rfl 113 rfl ?_
        refine q_aload_n hC dX5_keepDraft_113 0 rfl 114 rfl ?_
        refine q_getR (C := RX5) (T := TX5) (N := 26) (ci := 5) hC inX5_keepDraft_X5 (obF52 hF) rfl 6 (by decide) (uX5_keepDraft__o _ (List.mem_of_getElem? (l := owX5_keepDraft) (i := 5) rfl)) rfl 58 (fun _ => rfl) dX5_keepDraft_114 117 rfl ?_
        refine q_bipush (v := 12) hC dX5_keepDraft_117 (by decide) 119 rfl ?_
        refine q_iload_n hC dX5_keepDraft_119 1 rfl 120 rfl ?_
        refine q_imul hC dX5_keepDraft_120 121 rfl ?_
        refine q_iload_n hC dX5_keepDraft_121 2 rfl 122 rfl ?_
        refine q_iadd hC dX5_keepDraft_122 123 rfl ?_
        obtain ⟨hin, hw⟩ := hw
        refine q_iald hC (arF58 hF) hin dX5_keepDraft_123 124 rfl ?_
        obtain ⟨hin, hw⟩ := hw
        refine q_iast hC (arF60 hF) hin dX5_keepDraft_124 125 rfl (fun M8 eM8 => ?_)
        have hw := hw M8 eM8
        refine q_iinc (v := v2 + 1) (L' := [(2, .int (v2 + 1)), (0, .ref (gA g 52)), (1, .int v1)]) hC dX5_keepDraft_125 2 rfl rfl (by decide) rfl 128 rfl ?_
        refine q_goto hC 98 dX5_keepDraft_128 (by decide) ?_
        exact XX.sub [1, 2, 0] rfl (ih M8 v1 (v2 + 1) hw)
  have B88 : ∀ (n : Nat) (M : MM) (v1 : Int32) , wX5_keepDraft_88 Q n M v1 → XX z g Qf 3 88 [(0, .ref (gA g 52)), (1, .int v1)] [] M := by
    intro n
    induction n with
    | zero =>
      intro M v1 hw
      exact hw.elim
    | succ n ih =>
      intro M v1 hw
      refine q_iload_n hC dX5_keepDraft_88 1 rfl 89 rfl ?_
      refine q_aload_n hC dX5_keepDraft_89 0 rfl 90 rfl ?_
      refine q_getI (C := RX5) (T := TX5) (N := 26) (ci := 5) hC inX5_keepDraft_X5 (obF52 hF) rfl 4 (by decide) (uX5_keepDraft__o _ (List.mem_of_getElem? (l := owX5_keepDraft) (i := 3) rfl)) rfl (fun _ => rfl) dX5_keepDraft_90 93 rfl ?_
      refine q_icmp_ge hC 147 dX5_keepDraft_93 (by decide) 96 rfl hw (fun hw => ?_) (fun hw => ?_)
      · exact r_vret hR dX5_keepDraft_147 hw
      · refine q_iconst (v := 0) hC dX5_keepDraft_96 rfl 97 rfl ?_
        refine q_istore_n (L' := [(2, .int 0), (0, .ref (gA g 52)), (1, .int v1)]) hC dX5_keepDraft_97 (by decide) rfl 98 rfl ?_
        obtain ⟨n0, hw⟩ := hw
        exact XX.sub [1, 2, 0] rfl (B98 _ (fun M v1 hw => ih M v1 hw) n0 M v1 0 hw)
  have B28 : ∀ (n : Nat) (M : MM) (v1 : Int32) , wX5_keepDraft_28 Q n M v1 → XX z g Qf 3 28 [(0, .ref (gA g 52)), (1, .int v1)] [] M := by
    intro n
    induction n with
    | zero =>
      intro M v1 hw
      exact hw.elim
    | succ n ih =>
      intro M v1 hw
      refine q_iload_n hC dX5_keepDraft_28 1 rfl 29 rfl ?_
      refine q_sipush (v := 400) hC dX5_keepDraft_29 (by decide) 32 rfl ?_
      refine q_icmp_ge hC 48 dX5_keepDraft_32 (by decide) 35 rfl hw (fun hw => ?_) (fun hw => ?_)
      · refine q_aload_n hC dX5_keepDraft_48 0 rfl 49 rfl ?_
        refine q_getR (C := RX5) (T := TX5) (N := 26) (ci := 5) hC inX5_keepDraft_X5 (obF52 hF) rfl 0 (by decide) (uX5_keepDraft__X5_endOf _ (List.mem_of_getElem? (l := owX5_endOf) (i := 1) rfl)) rfl 53 (fun _ => rfl) dX5_keepDraft_49 52 rfl ?_
        refine q_sipush (v := 340) hC dX5_keepDraft_52 (by decide) 55 rfl ?_
        refine q_bipush (v := (-4)) hC dX5_keepDraft_55 (by decide) 57 rfl ?_
        refine q_iastL hC (arF53 hF) 340 (by decide +kernel) (by decide +kernel) dX5_keepDraft_57 58 rfl (fun M2 eM2 => ?_)
        have hw := hw M2 eM2
        refine q_aload_n hC dX5_keepDraft_58 0 rfl 59 rfl ?_
        refine q_getR (C := RX5) (T := TX5) (N := 26) (ci := 5) hC inX5_keepDraft_X5 (obF52 hF) rfl 0 (by decide) (uX5_keepDraft__X5_endOf _ (List.mem_of_getElem? (l := owX5_endOf) (i := 1) rfl)) rfl 53 (fun _ => rfl) dX5_keepDraft_59 62 rfl ?_
        refine q_sipush (v := 366) hC dX5_keepDraft_62 (by decide) 65 rfl ?_
        refine q_aload_n hC dX5_keepDraft_65 0 rfl 66 rfl ?_
        refine q_getR (C := RX5) (T := TX5) (N := 26) (ci := 5) hC inX5_keepDraft_X5 (obF52 hF) rfl 2 (by decide) (uX5_keepDraft__X5_longOf _ (List.mem_of_getElem? (l := owX5_longOf) (i := 1) rfl)) rfl 55 (fun _ => rfl) dX5_keepDraft_66 69 rfl ?_
        refine q_iconst (v := 0) hC dX5_keepDraft_69 rfl 70 rfl ?_
        refine q_ialdL hC (arF55 hF) 0 (by decide +kernel) (by decide +kernel) dX5_keepDraft_70 71 rfl ?_
        refine q_iastL hC (arF53 hF) 366 (by decide +kernel) (by decide +kernel) dX5_keepDraft_71 72 rfl (fun M3 eM3 => ?_)
        have hw := hw M3 eM3
        refine q_aload_n hC dX5_keepDraft_72 0 rfl 73 rfl ?_
        refine q_getR (C := RX5) (T := TX5) (N := 26) (ci := 5) hC inX5_keepDraft_X5 (obF52 hF) rfl 1 (by decide) (uX5_keepDraft__o _ (List.mem_of_getElem? (l := owX5_keepDraft) (i := 2) rfl)) rfl 54 (fun _ => rfl) dX5_keepDraft_73 76 rfl ?_
        refine q_iconst (v := 0) hC dX5_keepDraft_76 rfl 77 rfl ?_
        refine q_iconst (v := 0) hC dX5_keepDraft_77 rfl 78 rfl ?_
        refine q_zastL (w := 0) hC (arF54 hF) 0 (by decide +kernel) (by decide +kernel) (by decide +kernel) dX5_keepDraft_78 79 rfl (fun M4 eM4 => ?_)
        have hw := hw M4 eM4
        refine q_aload_n hC dX5_keepDraft_79 0 rfl 80 rfl ?_
        refine q_getR (C := RX5) (T := TX5) (N := 26) (ci := 5) hC inX5_keepDraft_X5 (obF52 hF) rfl 1 (by decide) (uX5_keepDraft__o _ (List.mem_of_getElem? (l := owX5_keepDraft) (i := 2) rfl)) rfl 54 (fun _ => rfl) dX5_keepDraft_80 83 rfl ?_
        refine q_iconst (v := 1) hC dX5_keepDraft_83 rfl 84 rfl ?_
        refine q_iconst (v := 0) hC dX5_keepDraft_84 rfl 85 rfl ?_
        refine q_zastL (w := 0) hC (arF54 hF) 1 (by decide +kernel) (by decide +kernel) (by decide +kernel) dX5_keepDraft_85 86 rfl (fun M5 eM5 => ?_)
        have hw := hw M5 eM5
        refine q_iconst (v := 0) hC dX5_keepDraft_86 rfl 87 rfl ?_
        refine q_istore_n (L' := [(1, .int 0), (0, .ref (gA g 52))]) hC dX5_keepDraft_87 (by decide) rfl 88 rfl ?_
        obtain ⟨n0, hw⟩ := hw
        exact XX.sub [1, 0] rfl (B88 n0 M5 0 hw)
      · refine q_aload_n hC dX5_keepDraft_35 0 rfl 36 rfl ?_
        refine q_getR (C := RX5) (T := TX5) (N := 26) (ci := 5) hC inX5_keepDraft_X5 (obF52 hF) rfl 0 (by decide) (uX5_keepDraft__X5_endOf _ (List.mem_of_getElem? (l := owX5_endOf) (i := 1) rfl)) rfl 53 (fun _ => rfl) dX5_keepDraft_36 39 rfl ?_
        refine q_iload_n hC dX5_keepDraft_39 1 rfl 40 rfl ?_
        refine q_iconst (v := 0) hC dX5_keepDraft_40 rfl 41 rfl ?_
        obtain ⟨hin, hw⟩ := hw
        refine q_iast hC (arF53 hF) hin dX5_keepDraft_41 42 rfl (fun M6 eM6 => ?_)
        have hw := hw M6 eM6
        refine q_iinc (v := v1 + 1) (L' := [(1, .int (v1 + 1)), (0, .ref (gA g 52))]) hC dX5_keepDraft_42 1 rfl rfl (by decide) rfl 45 rfl ?_
        refine q_goto hC 28 dX5_keepDraft_45 (by decide) ?_
        exact XX.sub [1, 0] rfl (ih M6 (v1 + 1) hw)
  have B2 : ∀ (n : Nat) (M : MM) (v1 : Int32) , wX5_keepDraft_2 Q n M v1 → XX z g Qf 3 2 [(0, .ref (gA g 52)), (1, .int v1)] [] M := by
    intro n
    induction n with
    | zero =>
      intro M v1 hw
      exact hw.elim
    | succ n ih =>
      intro M v1 hw
      refine q_iload_n hC dX5_keepDraft_2 1 rfl 3 rfl ?_
      refine q_bipush (v := 9) hC dX5_keepDraft_3 (by decide) 5 rfl ?_
      refine q_icmp_ge hC 26 dX5_keepDraft_5 (by decide) 8 rfl hw (fun hw => ?_) (fun hw => ?_)
      · refine q_iconst (v := 0) hC dX5_keepDraft_26 rfl 27 rfl ?_
        refine q_istore_n (L' := [(1, .int 0), (0, .ref (gA g 52))]) hC dX5_keepDraft_27 (by decide) rfl 28 rfl ?_
        obtain ⟨n0, hw⟩ := hw
        exact XX.sub [1, 0] rfl (B28 n0 M 0 hw)
      · refine q_aload_n hC dX5_keepDraft_8 0 rfl 9 rfl ?_
        refine q_getR (C := RX5) (T := TX5) (N := 26) (ci := 5) hC inX5_keepDraft_X5 (obF52 hF) rfl 2 (by decide) (uX5_keepDraft__X5_longOf _ (List.mem_of_getElem? (l := owX5_longOf) (i := 1) rfl)) rfl 55 (fun _ => rfl) dX5_keepDraft_9 12 rfl ?_
        refine q_iload_n hC dX5_keepDraft_12 1 rfl 13 rfl ?_
        refine q_aload_n hC dX5_keepDraft_13 0 rfl 14 rfl ?_
        refine q_getR (C := RX5) (T := TX5) (N := 26) (ci := 5) hC inX5_keepDraft_X5 (obF52 hF) rfl 3 (by decide) (uX5_keepDraft__o _ (List.mem_of_getElem? (l := owX5_keepDraft) (i := 1) rfl)) rfl 56 (fun _ => rfl) dX5_keepDraft_14 17 rfl ?_
        refine q_iload_n hC dX5_keepDraft_17 1 rfl 18 rfl ?_
        obtain ⟨hin, hw⟩ := hw
        refine q_iald hC (arF56 hF) hin dX5_keepDraft_18 19 rfl ?_
        obtain ⟨hin, hw⟩ := hw
        refine q_iast hC (arF55 hF) hin dX5_keepDraft_19 20 rfl (fun M1 eM1 => ?_)
        have hw := hw M1 eM1
        refine q_iinc (v := v1 + 1) (L' := [(1, .int (v1 + 1)), (0, .ref (gA g 52))]) hC dX5_keepDraft_20 1 rfl rfl (by decide) rfl 23 rfl ?_
        refine q_goto hC 2 dX5_keepDraft_23 (by decide) ?_
        exact XX.sub [1, 0] rfl (ih M1 (v1 + 1) hw)
  refine q_iconst (v := 0) hC dX5_keepDraft_0 rfl 1 rfl ?_
  refine q_istore_n (L' := [(1, .int 0), (0, .ref (gA g 52))]) hC dX5_keepDraft_1 (by decide) rfl 2 rfl ?_
  obtain ⟨n0, hw⟩ := hw
  exact XX.sub [1, 0] rfl (B2 n0 M 0 hw)
