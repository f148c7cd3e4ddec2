set_option maxRecDepth 100000 in
set_option maxHeartbeats 4000000 in
theorem ctX5_in (l : Launch) (g : GG) (M : MM) (v0 : Int64) (v2 : Int64) (v4 : Int64) (Q : Int32 → MM → Prop)  (hw : wX5_in Q M v0 v2 v4) : MI g l yX5_in wsX5_in (rmOf 0 0) [.long v0, .long v2, .long v4] M Q := by
  refine mk_MZ (cc := cX5_in) (maxL := 6) (by decide) rfl (Nat.le_of_ble_eq_true rfl) ?_
  intro z Qf hC hR
  show XX z g Qf 6 0 [(0, .long v0), (2, .long v2), (4, .long v4)] [] M
  have B17 : ∀ (M : MM), wX5_in_17 Q v0 v2 v4 M → XX z g Qf 6 17 [] [] M := by
    intro M hw
    refine q_iconst (v := 0) hC dX5_in_17 rfl 18 rfl ?_
    exact r_iret hR dX5_in_18 ⟨nb_0, hw⟩
  refine q_lload_n hC dX5_in_0 0 rfl 1 rfl ?_
  refine q_lload_n hC dX5_in_1 1 rfl 2 rfl ?_
  refine q_lcmp hC dX5_in_2 3 rfl ?_
  refine q_if_lt hC 17 dX5_in_3 (by decide) 6 rfl hw (fun hw => ?_) (fun hw => ?_)
  · exact XX.sub [] rfl (B17 M hw)
  · refine q_lload_n hC dX5_in_6 0 rfl 7 rfl ?_
    refine q_lload hC dX5_in_7 2 rfl 9 rfl ?_
    refine q_lcmp hC dX5_in_9 10 rfl ?_
    refine q_if_gt hC 17 dX5_in_10 (by decide) 13 rfl hw (fun hw => ?_) (fun hw => ?_)
    · exact XX.sub [] rfl (B17 M hw)
    · refine q_iconst (v := 1) hC dX5_in_13 rfl 14 rfl ?_
      refine q_goto hC 18 dX5_in_14 (by decide) ?_
      exact r_iret hR dX5_in_18 ⟨nb_1, hw⟩
set_option maxRecDepth 100000 in
set_option maxHeartbeats 4000000 in
theorem ctX5_flag (l : Launch) (g : GG) (M : MM) (v0 : Int32) (Q : Int32 → MM → Prop)  (hw : wX5_flag Q M v0) : MI g l yX5_flag wsX5_flag (rmOf 0 0) [.int v0] M Q := by
  refine mk_MI (cc := cX5_flag) (maxL := 1) (by decide) rfl (Nat.le_of_ble_eq_true rfl) ?_
  intro z Qf hC hR
  show XX z g Qf 1 0 [(0, .int v0)] [] M
  refine q_iload_n hC dX5_flag_0 0 rfl 1 rfl ?_
  refine q_if_eq hC 8 dX5_flag_1 (by decide) 4 rfl hw (fun hw => ?_) (fun hw => ?_)
  · refine q_iconst (v := 0) hC dX5_flag_8 rfl 9 rfl ?_
    exact r_iret hR dX5_flag_9 hw
  · refine q_iconst (v := 1) hC dX5_flag_4 rfl 5 rfl ?_
    refine q_goto hC 9 dX5_flag_5 (by decide) ?_
    exact r_iret hR dX5_flag_9 hw
set_option maxRecDepth 100000 in
set_option maxHeartbeats 4000000 in
theorem ctX5_less (l : Launch) (g : GG) (M : MM) (v0 : Int32) (v1 : Int32) (Q : Int32 → MM → Prop)  (hw : wX5_less Q M v0 v1) : MI g l yX5_less wsX5_less (rmOf 0 0) [.int v0, .int v1] M Q := by
  refine mk_MI (cc := cX5_less) (maxL := 2) (by decide) rfl (Nat.le_of_ble_eq_true rfl) ?_
  intro z Qf hC hR
  show XX z g Qf 2 0 [(0, .int v0), (1, .int v1)] [] M
  refine q_iload_n hC dX5_less_0 0 rfl 1 rfl ?_
  refine q_iload_n hC dX5_less_1 1 rfl 2 rfl ?_
  refine q_icmp_ge hC 9 dX5_less_2 (by decide) 5 rfl hw (fun hw => ?_) (fun hw => ?_)
  · refine q_iload_n hC dX5_less_9 1 rfl 10 rfl ?_
    exact r_iret hR dX5_less_10 hw
  · refine q_iload_n hC dX5_less_5 0 rfl 6 rfl ?_
    refine q_goto hC 10 dX5_less_6 (by decide) ?_
    exact r_iret hR dX5_less_10 hw
set_option maxRecDepth 100000 in
set_option maxHeartbeats 4000000 in
theorem ctX5_odd (l : Launch) (g : GG) (M : MM) (v0 : Int32) (Q : Int32 → MM → Prop)  (hw : wX5_odd Q M v0) : MI g l yX5_odd wsX5_odd (rmOf 0 0) [.int v0] M Q := by
  refine mk_MI (cc := cX5_odd) (maxL := 3) (by decide) rfl (Nat.le_of_ble_eq_true rfl) ?_
  intro z Qf hC hR
  show XX z g Qf 3 0 [(0, .int v0)] [] M
  have B4 : ∀ (n : Nat) (M : MM) (v1 : Int32) (v2 : Int32) , wX5_odd_4 Q v0 n M v1 v2 → XX z g Qf 3 4 [(0, .int v0), (1, .int v1), (2, .int v2)] [] M := by
    intro n
    induction n with
    | zero =>
      intro M v1 v2 hw
      exact hw.elim
    | succ n ih =>
      intro M v1 v2 hw
      refine q_iload_n hC dX5_odd_4 2 rfl 5 rfl ?_
      refine q_bipush (v := 9) hC dX5_odd_5 (by decide) 7 rfl ?_
      refine q_icmp_ge hC 24 dX5_odd_7 (by decide) 10 rfl hw (fun hw => ?_) (fun hw => ?_)
      · refine q_iload_n hC dX5_odd_24 1 rfl 25 rfl ?_
        refine q_iconst (v := 2) hC dX5_odd_25 rfl 26 rfl ?_
        refine q_irem hC dX5_odd_26 (by decide) 27 rfl ?_
        exact r_iret hR dX5_odd_27 hw
      · refine q_iload_n hC dX5_odd_10 1 rfl 11 rfl ?_
        refine q_iload_n hC dX5_odd_11 0 rfl 12 rfl ?_
        refine q_iload_n hC dX5_odd_12 2 rfl 13 rfl ?_
        refine q_ishr hC dX5_odd_13 14 rfl ?_
        refine q_iconst (v := 1) hC dX5_odd_14 rfl 15 rfl ?_
        refine q_iand hC dX5_odd_15 16 rfl ?_
        refine q_iadd hC dX5_odd_16 17 rfl ?_
        refine q_nameI (fun x1 ex1 => ?_)
        have hw := hw x1 ex1
        refine q_istore_n (L' := [(1, .int x1), (0, .int v0), (2, .int v2)]) hC dX5_odd_17 (by decide) rfl 18 rfl ?_
        refine q_iinc (v := v2 + 1) (L' := [(2, .int (v2 + 1)), (1, .int x1), (0, .int v0)]) hC dX5_odd_18 2 rfl rfl (by decide) rfl 21 rfl ?_
        refine q_goto hC 4 dX5_odd_21 (by decide) ?_
        exact XX.sub [2, 1, 0] rfl (ih M x1 (v2 + 1) hw)
  refine q_iconst (v := 0) hC dX5_odd_0 rfl 1 rfl ?_
  refine q_istore_n (L' := [(1, .int 0), (0, .int v0)]) hC dX5_odd_1 (by decide) rfl 2 rfl ?_
  refine q_iconst (v := 0) hC dX5_odd_2 rfl 3 rfl ?_
  refine q_istore_n (L' := [(2, .int 0), (1, .int 0), (0, .int v0)]) hC dX5_odd_3 (by decide) rfl 4 rfl ?_
  obtain ⟨n0, hw⟩ := hw
  exact XX.sub [2, 1, 0] rfl (B4 n0 M 0 0 hw)
theorem inX5_firstDraft_X5 : ∀ w ∈ u_ws RX5 TX5 26, w ∈ wsX5_firstDraft := uX5_firstDraft__wsX50
set_option maxRecDepth 100000 in
set_option maxHeartbeats 4000000 in
theorem ctX5_firstDraft (l : Launch) (g : GG) (M : MM)  (Q : MM → Prop) (hF : ful5 g) (hw : wX5_firstDraft Q M ) : MV g l yX5_firstDraft wsX5_firstDraft (rmOf 0 0) [.ref (gA g 52)] M Q := by
  refine mk_MV (cc := cX5_firstDraft) (maxL := 1) (by decide) rfl (Nat.le_of_ble_eq_true rfl) ?_
  intro z Qf hC hR
  show XX z g Qf 1 0 [(0, .ref (gA g 52))] [] M
  refine q_aload_n hC dX5_firstDraft_0 0 rfl 1 rfl ?_
  refine q_getR (C := RX5) (T := TX5) (N := 26) (ci := 5) hC inX5_firstDraft_X5 (obF52 hF) rfl 3 (by decide) (uX5_firstDraft__o _ (List.mem_of_getElem? (l := owX5_firstDraft) (i := 1) rfl)) rfl 56 (fun _ => rfl) dX5_firstDraft_1 4 rfl ?_
  refine q_iconst (v := 0) hC dX5_firstDraft_4 rfl 5 rfl ?_
  refine q_sipush (v := 1000) hC dX5_firstDraft_5 (by decide) 8 rfl ?_
  refine q_iastL hC (arF56 hF) 0 (by decide +kernel) (by decide +kernel) dX5_firstDraft_8 9 rfl (fun M1 eM1 => ?_)
  have hw := hw M1 eM1
  refine q_aload_n hC dX5_firstDraft_9 0 rfl 10 rfl ?_
  refine q_getR (C := RX5) (T := TX5) (N := 26) (ci := 5) hC inX5_firstDraft_X5 (obF52 hF) rfl 3 (by decide) (uX5_firstDraft__o _ (List.mem_of_getElem? (l := owX5_firstDraft) (i := 1) rfl)) rfl 56 (fun _ => rfl) dX5_firstDraft_10 13 rfl ?_
  refine q_iconst (v := 1) hC dX5_firstDraft_13 rfl 14 rfl ?_
  refine q_bipush (v := 20) hC dX5_firstDraft_14 (by decide) 16 rfl ?_
  refine q_iastL hC (arF56 hF) 1 (by decide +kernel) (by decide +kernel) dX5_firstDraft_16 17 rfl (fun M2 eM2 => ?_)
  have hw := hw M2 eM2
  refine q_aload_n hC dX5_firstDraft_17 0 rfl 18 rfl ?_
  refine q_getR (C := RX5) (T := TX5) (N := 26) (ci := 5) hC inX5_firstDraft_X5 (obF52 hF) rfl 3 (by decide) (uX5_firstDraft__o _ (List.mem_of_getElem? (l := owX5_firstDraft) (i := 1) rfl)) rfl 56 (fun _ => rfl) dX5_firstDraft_18 21 rfl ?_
  refine q_iconst (v := 2) hC dX5_firstDraft_21 rfl 22 rfl ?_
  refine q_iconst (v := 2) hC dX5_firstDraft_22 rfl 23 rfl ?_
  refine q_iastL hC (arF56 hF) 2 (by decide +kernel) (by decide +kernel) dX5_firstDraft_23 24 rfl (fun M3 eM3 => ?_)
  have hw := hw M3 eM3
  refine q_aload_n hC dX5_firstDraft_24 0 rfl 25 rfl ?_
  refine q_getR (C := RX5) (T := TX5) (N := 26) (ci := 5) hC inX5_firstDraft_X5 (obF52 hF) rfl 3 (by decide) (uX5_firstDraft__o _ (List.mem_of_getElem? (l := owX5_firstDraft) (i := 1) rfl)) rfl 56 (fun _ => rfl) dX5_firstDraft_25 28 rfl ?_
  refine q_iconst (v := 3) hC dX5_firstDraft_28 rfl 29 rfl ?_
  refine q_bipush (v := 10) hC dX5_firstDraft_29 (by decide) 31 rfl ?_
  refine q_iastL hC (arF56 hF) 3 (by decide +kernel) (by decide +kernel) dX5_firstDraft_31 32 rfl (fun M4 eM4 => ?_)
  have hw := hw M4 eM4
  refine q_aload_n hC dX5_firstDraft_32 0 rfl 33 rfl ?_
  refine q_getR (C := RX5) (T := TX5) (N := 26) (ci := 5) hC inX5_firstDraft_X5 (obF52 hF) rfl 3 (by decide) (uX5_firstDraft__o _ (List.mem_of_getElem? (l := owX5_firstDraft) (i := 1) rfl)) rfl 56 (fun _ => rfl) dX5_firstDraft_33 36 rfl ?_
  refine q_iconst (v := 4) hC dX5_firstDraft_36 rfl 37 rfl ?_
  refine q_iconst (v := 5) hC dX5_firstDraft_37 rfl 38 rfl ?_
  refine q_iastL hC (arF56 hF) 4 (by decide +kernel) (by decide +kernel) dX5_firstDraft_38 39 rfl (fun M5 eM5 => ?_)
  have hw := hw M5 eM5
  refine q_aload_n hC dX5_firstDraft_39 0 rfl 40 rfl ?_
  refine q_getR (C := RX5) (T := TX5) (N := 26) (ci := 5) hC inX5_firstDraft_X5 (obF52 hF) rfl 3 (by decide) (uX5_firstDraft__o _ (List.mem_of_getElem? (l := owX5_firstDraft) (i := 1) rfl)) rfl 56 (fun _ => rfl) dX5_firstDraft_40 43 rfl ?_
  refine q_iconst (v := 5) hC dX5_firstDraft_43 rfl 44 rfl ?_
  refine q_iconst (v := 3) hC dX5_firstDraft_44 rfl 45 rfl ?_
  refine q_iastL hC (arF56 hF) 5 (by decide +kernel) (by decide +kernel) dX5_firstDraft_45 46 rfl (fun M6 eM6 => ?_)
  have hw := hw M6 eM6
  refine q_aload_n hC dX5_firstDraft_46 0 rfl 47 rfl ?_
  refine q_getR (C := RX5) (T := TX5) (N := 26) (ci := 5) hC inX5_firstDraft_X5 (obF52 hF) rfl 3 (by decide) (uX5_firstDraft__o _ (List.mem_of_getElem? (l := owX5_firstDraft) (i := 1) rfl)) rfl 56 (fun _ => rfl) dX5_firstDraft_47 50 rfl ?_
  refine q_bipush (v := 6) hC dX5_firstDraft_50 (by decide) 52 rfl ?_
  refine q_bipush (v := 6) hC dX5_firstDraft_52 (by decide) 54 rfl ?_
  refine q_iastL hC (arF56 hF) 6 (by decide +kernel) (by decide +kernel) dX5_firstDraft_54 55 rfl (fun M7 eM7 => ?_)
  have hw := hw M7 eM7
  refine q_aload_n hC dX5_firstDraft_55 0 rfl 56 rfl ?_
  refine q_getR (C := RX5) (T := TX5) (N := 26) (ci := 5) hC inX5_firstDraft_X5 (obF52 hF) rfl 3 (by decide) (uX5_firstDraft__o _ (List.mem_of_getElem? (l := owX5_firstDraft) (i := 1) rfl)) rfl 56 (fun _ => rfl) dX5_firstDraft_56 59 rfl ?_
  refine q_bipush (v := 7) hC dX5_firstDraft_59 (by decide) 61 rfl ?_
  refine q_iconst (v := 2) hC dX5_firstDraft_61 rfl 62 rfl ?_
  refine q_iastL hC (arF56 hF) 7 (by decide +kernel) (by decide +kernel) dX5_firstDraft_62 63 rfl (fun M8 eM8 => ?_)
  have hw := hw M8 eM8
  refine q_aload_n hC dX5_firstDraft_63 0 rfl 64 rfl ?_
  refine q_getR (C := RX5) (T := TX5) (N := 26) (ci := 5) hC inX5_firstDraft_X5 (obF52 hF) rfl 3 (by decide) (uX5_firstDraft__o _ (List.mem_of_getElem? (l := owX5_firstDraft) (i := 1) rfl)) rfl 56 (fun _ => rfl) dX5_firstDraft_64 67 rfl ?_
  refine q_bipush (v := 8) hC dX5_firstDraft_67 (by decide) 69 rfl ?_
  refine q_bipush (v := 20) hC dX5_firstDraft_69 (by decide) 71 rfl ?_
  refine q_iastL hC (arF56 hF) 8 (by decide +kernel) (by decide +kernel) dX5_firstDraft_71 72 rfl (fun M9 eM9 => ?_)
  have hw := hw M9 eM9
  refine q_aload_n hC dX5_firstDraft_72 0 rfl 73 rfl ?_
  refine q_iconst (v := 0) hC dX5_firstDraft_73 rfl 74 rfl ?_
  refine q_putI (C := RX5) (T := TX5) (N := 26) (ci := 5) hC inX5_firstDraft_X5 tyX5 tyX5_ok nmX5 (obF52 hF) rfl 4 (by decide) (uX5_firstDraft__o _ (List.mem_of_getElem? (l := owX5_firstDraft) (i := 2) rfl)) rfl rfl rfl (fun _ => Nat.le_of_ble_eq_true rfl) (fun _ => rfl) dX5_firstDraft_74 77 rfl (fun M10 eM10 => ?_)
  have hw := hw M10 eM10
  refine q_aload_n hC dX5_firstDraft_77 0 rfl 78 rfl ?_
  refine q_iconst (v := 0) hC dX5_firstDraft_78 rfl 79 rfl ?_
  refine q_putI (C := RX5) (T := TX5) (N := 26) (ci := 5) hC inX5_firstDraft_X5 tyX5 tyX5_ok nmX5 (obF52 hF) rfl 7 (by decide) (uX5_firstDraft__o _ (List.mem_of_getElem? (l := owX5_firstDraft) (i := 3) rfl)) rfl rfl rfl (fun _ => Nat.le_of_ble_eq_true rfl) (fun _ => rfl) dX5_firstDraft_79 82 rfl (fun M11 eM11 => ?_)
  have hw := hw M11 eM11
  exact r_vret hR dX5_firstDraft_82 hw
theorem inX5_longOf_X5 : ∀ w ∈ u_ws RX5 TX5 26, w ∈ wsX5_longOf := uX5_longOf__wsX50
set_option maxRecDepth 100000 in
set_option maxHeartbeats 4000000 in
theorem ctX5_longOf (l : Launch) (g : GG) (M : MM) (v1 : Int32) (Q : Int32 → MM → Prop) (hF : ful5 g) (hw : wX5_longOf Q M v1) : MI g l yX5_longOf wsX5_longOf (rmOf 0 0) [.ref (gA g 52), .int v1] M Q := by
  refine mk_MI (cc := cX5_longOf) (maxL := 2) (by decide) rfl (Nat.le_of_ble_eq_true rfl) ?_
  intro z Qf hC hR
  show XX z g Qf 2 0 [(0, .ref (gA g 52)), (1, .int v1)] [] M
  refine q_iload_n hC dX5_longOf_0 1 rfl 1 rfl ?_
  refine q_if_ne hC 8 dX5_longOf_1 (by decide) 4 rfl hw (fun hw => ?_) (fun hw => ?_)
  · refine q_iload_n hC dX5_longOf_8 1 rfl 9 rfl ?_
    refine q_aload_n hC dX5_longOf_9 0 rfl 10 rfl ?_
    refine q_getR (C := RX5) (T := TX5) (N := 26) (ci := 5) hC inX5_longOf_X5 (obF52 hF) rfl 2 (by decide) (uX5_longOf__o _ (List.mem_of_getElem? (l := owX5_longOf) (i := 1) rfl)) rfl 55 (fun _ => rfl) dX5_longOf_10 13 rfl ?_
    refine q_bipush (v := 7) hC dX5_longOf_13 (by decide) 15 rfl ?_
    refine q_ialdL hC (arF55 hF) 7 (by decide +kernel) (by decide +kernel) dX5_longOf_15 16 rfl ?_
    refine q_iadd hC dX5_longOf_16 17 rfl ?_
    refine q_aload_n hC dX5_longOf_17 0 rfl 18 rfl ?_
    refine q_getR (C := RX5) (T := TX5) (N := 26) (ci := 5) hC inX5_longOf_X5 (obF52 hF) rfl 2 (by decide) (uX5_longOf__o _ (List.mem_of_getElem? (l := owX5_longOf) (i := 1) rfl)) rfl 55 (fun _ => rfl) dX5_longOf_18 21 rfl ?_
    refine q_bipush (v := 7) hC dX5_longOf_21 (by decide) 23 rfl ?_
    refine q_ialdL hC (arF55 hF) 7 (by decide +kernel) (by decide +kernel) dX5_longOf_23 24 rfl ?_
    obtain ⟨hne, hw⟩ := hw
    refine q_idiv hC dX5_longOf_24 hne 25 rfl ?_
    exact r_iret hR dX5_longOf_25 hw
  · refine q_iconst (v := 1) hC dX5_longOf_4 rfl 5 rfl ?_
    refine q_goto hC 25 dX5_longOf_5 (by decide) ?_
    exact r_iret hR dX5_longOf_25 hw
theorem inX5_draftEnd_X5 : ∀ w ∈ u_ws RX5 TX5 26, w ∈ wsX5_draftEnd := uX5_draftEnd__wsX50
set_option maxRecDepth 100000 in
set_option maxHeartbeats 4000000 in
theorem ctX5_draftEnd (l : Launch) (g : GG) (M : MM)  (Q : Int32 → MM → Prop) (hF : ful5 g) (hw : wX5_draftEnd Q M ) : MI g l yX5_draftEnd wsX5_draftEnd (rmOf 0 0) [.ref (gA g 52)] M Q := by
  refine mk_MI (cc := cX5_draftEnd) (maxL := 3) (by decide) rfl (Nat.le_of_ble_eq_true rfl) ?_
  intro z Qf hC hR
  show XX z g Qf 3 0 [(0, .ref (gA g 52))] [] M
  have B55 : ∀ (K4 : MM → Int32 → Int32 → Prop) (hK4 : ∀ (M : MM) (v1 : Int32) (v2 : Int32) , K4 M v1 v2 → XX z g Qf 3 4 [(0, .ref (gA g 52)), (1, .int v1), (2, .int v2)] [] M) (M : MM) (v2 : Int32) (p0 : Int32) (p1 : Int32) (p2 : Int32), wX5_draftEnd_55 Q K4 M v2 p0 p1 p2 → XX z g Qf 3 55 [(0, .ref (gA g 52)), (2, .int v2)] [.int p0, .int p1, .int p2] M := by
    intro K4 hK4 M v2 p0 p1 p2 hw
    refine q_iadd hC dX5_draftEnd_55 56 rfl ?_
    refine q_iadd hC dX5_draftEnd_56 57 rfl ?_
    refine q_nameI (fun x1 ex1 => ?_)
    have hw := hw x1 ex1
    refine q_istore_n (L' := [(1, .int x1), (0, .ref (gA g 52)), (2, .int v2)]) hC dX5_draftEnd_57 (by decide) rfl 58 rfl ?_
    refine q_iinc (v := v2 + 1) (L' := [(2, .int (v2 + 1)), (1, .int x1), (0, .ref (gA g 52))]) hC dX5_draftEnd_58 2 rfl rfl (by decide) rfl 61 rfl ?_
    refine q_goto hC 4 dX5_draftEnd_61 (by decide) ?_
    exact XX.sub [2, 1, 0] rfl (hK4 M x1 (v2 + 1) hw)
  have B4 : ∀ (n : Nat) (M : MM) (v1 : Int32) (v2 : Int32) , wX5_draftEnd_4 Q n M v1 v2 → XX z g Qf 3 4 [(0, .ref (gA g 52)), (1, .int v1), (2, .int v2)] [] M := by
    intro n
    induction n with
    | zero =>
      intro M v1 v2 hw
      exact hw.elim
    | succ n ih =>
      intro M v1 v2 hw
      refine q_iload_n hC dX5_draftEnd_4 2 rfl 5 rfl ?_
      refine q_aload_n hC dX5_draftEnd_5 0 rfl 6 rfl ?_
      refine q_getI (C := RX5) (T := TX5) (N := 26) (ci := 5) hC inX5_draftEnd_X5 (obF52 hF) rfl 4 (by decide) (uX5_draftEnd__o _ (List.mem_of_getElem? (l := owX5_draftEnd) (i := 1) rfl)) rfl (fun _ => rfl) dX5_draftEnd_6 9 rfl ?_
      refine q_icmp_ge hC 64 dX5_draftEnd_9 (by decide) 12 rfl hw (fun hw => ?_) (fun hw => ?_)
      · refine q_iload_n hC dX5_draftEnd_64 1 rfl 65 rfl ?_
        exact r_iret hR dX5_draftEnd_65 hw
      · refine q_iload_n hC dX5_draftEnd_12 1 rfl 13 rfl ?_
        refine q_aload_n hC dX5_draftEnd_13 0 rfl 14 rfl ?_
        refine q_getR (C := RX5) (T := TX5) (N := 26) (ci := 5) hC inX5_draftEnd_X5 (obF52 hF) rfl 3 (by decide) (uX5_draftEnd__o _ (List.mem_of_getElem? (l := owX5_draftEnd) (i := 2) rfl)) rfl 56 (fun _ => rfl) dX5_draftEnd_14 17 rfl ?_
        refine q_bipush (v := 6) hC dX5_draftEnd_17 (by decide) 19 rfl ?_
        refine q_ialdL hC (arF56 hF) 6 (by decide +kernel) (by decide +kernel) dX5_draftEnd_19 20 rfl ?_
        refine q_aload_n hC dX5_draftEnd_20 0 rfl 21 rfl ?_
        refine q_getR (C := RX5) (T := TX5) (N := 26) (ci := 5) hC inX5_draftEnd_X5 (obF52 hF) rfl 5 (by decide) (uX5_draftEnd__o _ (List.mem_of_getElem? (l := owX5_draftEnd) (i := 3) rfl)) rfl 57 (fun _ => rfl) dX5_draftEnd_21 24 rfl ?_
        refine q_iload_n hC dX5_draftEnd_24 2 rfl 25 rfl ?_
        obtain ⟨hin, hw⟩ := hw
        refine q_iald hC (arF57 hF) hin dX5_draftEnd_25 26 rfl ?_
        refine q_if_ne hC 33 dX5_draftEnd_26 (by decide) 29 rfl hw (fun hw => ?_) (fun hw => ?_)
        · refine q_aload_n hC dX5_draftEnd_33 0 rfl 34 rfl ?_
          refine q_getR (C := RX5) (T := TX5) (N := 26) (ci := 5) hC inX5_draftEnd_X5 (obF52 hF) rfl 5 (by decide) (uX5_draftEnd__o _ (List.mem_of_getElem? (l := owX5_draftEnd) (i := 3) rfl)) rfl 57 (fun _ => rfl) dX5_draftEnd_34 37 rfl ?_
          refine q_iload_n hC dX5_draftEnd_37 2 rfl 38 rfl ?_
          obtain ⟨hin, hw⟩ := hw
          refine q_iald hC (arF57 hF) hin dX5_draftEnd_38 39 rfl ?_
          refine q_aload_n hC dX5_draftEnd_39 0 rfl 40 rfl ?_
          refine q_getR (C := RX5) (T := TX5) (N := 26) (ci := 5) hC inX5_draftEnd_X5 (obF52 hF) rfl 3 (by decide) (uX5_draftEnd__o _ (List.mem_of_getElem? (l := owX5_draftEnd) (i := 2) rfl)) rfl 56 (fun _ => rfl) dX5_draftEnd_40 43 rfl ?_
          refine q_bipush (v := 7) hC dX5_draftEnd_43 (by decide) 45 rfl ?_
          refine q_ialdL hC (arF56 hF) 7 (by decide +kernel) (by decide +kernel) dX5_draftEnd_45 46 rfl ?_
          refine q_iadd hC dX5_draftEnd_46 47 rfl ?_
          refine q_aload_n hC dX5_draftEnd_47 0 rfl 48 rfl ?_
          refine q_getR (C := RX5) (T := TX5) (N := 26) (ci := 5) hC inX5_draftEnd_X5 (obF52 hF) rfl 3 (by decide) (uX5_draftEnd__o _ (List.mem_of_getElem? (l := owX5_draftEnd) (i := 2) rfl)) rfl 56 (fun _ => rfl) dX5_draftEnd_48 51 rfl ?_
          refine q_bipush (v := 7) hC dX5_draftEnd_51 (by decide) 53 rfl ?_
          refine q_ialdL hC (arF56 hF) 7 (by decide +kernel) (by decide +kernel) dX5_draftEnd_53 54 rfl ?_
          obtain ⟨hne, hw⟩ := hw
          refine q_idiv hC dX5_draftEnd_54 hne 55 rfl ?_
          exact XX.sub [0, 2] rfl (B55 _ (fun M v1 v2 hw => ih M v1 v2 hw) M v2 (((M 57 v2.toNatClampNeg) + (M 56 7)) / (M 56 7)) (M 56 6) v1 hw)
        · refine q_iconst (v := 1) hC dX5_draftEnd_29 rfl 30 rfl ?_
          refine q_goto hC 55 dX5_draftEnd_30 (by decide) ?_
          exact XX.sub [0, 2] rfl (B55 _ (fun M v1 v2 hw => ih M v1 v2 hw) M v2 1 (M 56 6) v1 hw)
  refine q_iconst (v := 0) hC dX5_draftEnd_0 rfl 1 rfl ?_
  refine q_istore_n (L' := [(1, .int 0), (0, .ref (gA g 52))]) hC dX5_draftEnd_1 (by decide) rfl 2 rfl ?_
  refine q_iconst (v := 0) hC dX5_draftEnd_2 rfl 3 rfl ?_
  refine q_istore_n (L' := [(2, .int 0), (1, .int 0), (0, .ref (gA g 52))]) hC dX5_draftEnd_3 (by decide) rfl 4 rfl ?_
  obtain ⟨n0, hw⟩ := hw
  exact XX.sub [2, 1, 0] rfl (B4 n0 M 0 0 hw)
theorem hdV_X5_longOf : yX5_longOf.cls = RX5 ∧ yX5_longOf.cls ≠ "java/lang/invoke/MethodHandle" ∧ yX5_longOf.cls ≠ "java/lang/invoke/VarHandle" ∧ (parseMethodDescriptor yX5_longOf.desc).map (fun d => d.parameters.length) = some 1 := by decide +kernel
theorem inX5_endOf_X5 : ∀ w ∈ u_ws RX5 TX5 26, w ∈ wsX5_endOf := uX5_endOf__wsX50
set_option maxRecDepth 100000 in
set_option maxHeartbeats 4000000 in
theorem ctX5_endOf (l : Launch) (g : GG) (M : MM) (v1 : Int32) (Q : Int32 → MM → Prop) (hF : ful5 g) (hw : wX5_endOf Q M v1) : MI g l yX5_endOf wsX5_endOf (rmOf 1 21) [.ref (gA g 52), .int v1] M Q := by
  refine mk_MI (cc := cX5_endOf) (maxL := 2) (by decide) rfl (Nat.le_of_ble_eq_true rfl) ?_
  intro z Qf hC hR
  show XX z g Qf 2 0 [(0, .ref (gA g 52)), (1, .int v1)] [] M
  refine q_aload_n hC dX5_endOf_0 0 rfl 1 rfl ?_
  refine q_getR (C := RX5) (T := TX5) (N := 26) (ci := 5) hC inX5_endOf_X5 (obF52 hF) rfl 0 (by decide) (uX5_endOf__o _ (List.mem_of_getElem? (l := owX5_endOf) (i := 1) rfl)) rfl 53 (fun _ => rfl) dX5_endOf_1 4 rfl ?_
  refine q_iconst (v := 1) hC dX5_endOf_4 rfl 5 rfl ?_
  refine q_iload_n hC dX5_endOf_5 1 rfl 6 rfl ?_
  refine q_iadd hC dX5_endOf_6 7 rfl ?_
  obtain ⟨hin, hw⟩ := hw
  refine q_iald hC (arF53 hF) hin dX5_endOf_7 8 rfl ?_
  refine q_aload_n hC dX5_endOf_8 0 rfl 9 rfl ?_
  refine q_aload_n hC dX5_endOf_9 0 rfl 10 rfl ?_
  refine q_getR (C := RX5) (T := TX5) (N := 26) (ci := 5) hC inX5_endOf_X5 (obF52 hF) rfl 0 (by decide) (uX5_endOf__o _ (List.mem_of_getElem? (l := owX5_endOf) (i := 1) rfl)) rfl 53 (fun _ => rfl) dX5_endOf_10 13 rfl ?_
  refine q_bipush (v := 13) hC dX5_endOf_13 (by decide) 15 rfl ?_
  refine q_iload_n hC dX5_endOf_15 1 rfl 16 rfl ?_
  refine q_iadd hC dX5_endOf_16 17 rfl ?_
  obtain ⟨hin, hw⟩ := hw
  refine q_iald hC (arF53 hF) hin dX5_endOf_17 18 rfl ?_
  refine r_callI hC (go_V (q := (RX5, TX5, 26)) (As := [.int (M 53 ((13 : Int32) + v1).toNatClampNeg)]) (rest := [.int (M 53 ((1 : Int32) + v1).toNatClampNeg)]) hC (ctX5_longOf (zl z) g M (M 53 ((13 : Int32) + v1).toNatClampNeg) _ hF hw) 1 gX5_endOf_X5_longOf rfl ⟨rfl, rfl⟩ hdV_X5_longOf ⟨Nat.le_of_ble_eq_true rfl, Nat.le_of_ble_eq_true rfl⟩ (obF52 hF) rfl rfl rfl (Nat.le_of_ble_eq_true rfl) dX5_endOf_18) 21 rfl (fun r1 M2 hw => ?_)
  refine q_iadd hC dX5_endOf_21 22 rfl ?_
  exact r_iret hR dX5_endOf_22 hw
theorem hdV_X5_endOf : yX5_endOf.cls = RX5 ∧ yX5_endOf.cls ≠ "java/lang/invoke/MethodHandle" ∧ yX5_endOf.cls ≠ "java/lang/invoke/VarHandle" ∧ (parseMethodDescriptor yX5_endOf.desc).map (fun d => d.parameters.length) = some 1 := by decide +kernel
theorem inX5_beginOf_X5 : ∀ w ∈ u_ws RX5 TX5 26, w ∈ wsX5_beginOf := uX5_beginOf__wsX50
set_option maxRecDepth 100000 in
set_option maxHeartbeats 4000000 in
theorem ctX5_beginOf (l : Launch) (g : GG) (M : MM) (v1 : Int32) (Q : Int32 → MM → Prop) (hF : ful5 g) (hw : wX5_beginOf Q M v1) : MI g l yX5_beginOf wsX5_beginOf (rmOf 2 42) [.ref (gA g 52), .int v1] M Q := by
  refine mk_MI (cc := cX5_beginOf) (maxL := 2) (by decide) rfl (Nat.le_of_ble_eq_true rfl) ?_
  intro z Qf hC hR
  show XX z g Qf 2 0 [(0, .ref (gA g 52)), (1, .int v1)] [] M
  refine q_aload_n hC dX5_beginOf_0 0 rfl 1 rfl ?_
  refine q_getR (C := RX5) (T := TX5) (N := 26) (ci := 5) hC inX5_beginOf_X5 (obF52 hF) rfl 2 (by decide) (uX5_beginOf__X5_longOf _ (List.mem_of_getElem? (l := owX5_longOf) (i := 1) rfl)) rfl 55 (fun _ => rfl) dX5_beginOf_1 4 rfl ?_
  refine q_bipush (v := 6) hC dX5_beginOf_4 (by decide) 6 rfl ?_
  refine q_ialdL hC (arF55 hF) 6 (by decide +kernel) (by decide +kernel) dX5_beginOf_6 7 rfl ?_
  refine q_iload_n hC dX5_beginOf_7 1 rfl 8 rfl ?_
  refine q_if_ne hC 15 dX5_beginOf_8 (by decide) 11 rfl hw (fun hw => ?_) (fun hw => ?_)
  · refine q_aload_n hC dX5_beginOf_15 0 rfl 16 rfl ?_
    refine q_iload_n hC dX5_beginOf_16 1 rfl 17 rfl ?_
    refine q_iconst (v := 1) hC dX5_beginOf_17 rfl 18 rfl ?_
    refine q_isub hC dX5_beginOf_18 19 rfl ?_
    refine r_callI hC (go_V (q := (RX5, TX5, 26)) (As := [.int (v1 - (1 : Int32))]) (rest := [.int (M 55 6)]) hC (ctX5_endOf (zl z) g M (v1 - (1 : Int32)) _ hF hw) 1 gX5_beginOf_X5_endOf rfl ⟨rfl, rfl⟩ hdV_X5_endOf ⟨Nat.le_of_ble_eq_true rfl, Nat.le_of_ble_eq_true rfl⟩ (obF52 hF) rfl rfl rfl (Nat.le_of_ble_eq_true rfl) dX5_beginOf_19) 22 rfl (fun r1 M2 hw => ?_)
    refine q_iadd hC dX5_beginOf_22 23 rfl ?_
    exact r_iret hR dX5_beginOf_23 hw
  · refine q_iconst (v := 0) hC dX5_beginOf_11 rfl 12 rfl ?_
    refine q_goto hC 22 dX5_beginOf_12 (by decide) ?_
    refine q_iadd hC dX5_beginOf_22 23 rfl ?_
    exact r_iret hR dX5_beginOf_23 hw
theorem hdV_X5_beginOf : yX5_beginOf.cls = RX5 ∧ yX5_beginOf.cls ≠ "java/lang/invoke/MethodHandle" ∧ yX5_beginOf.cls ≠ "java/lang/invoke/VarHandle" ∧ (parseMethodDescriptor yX5_beginOf.desc).map (fun d => d.parameters.length) = some 1 := by decide +kernel
theorem hdT_X5_odd : yX5_odd.cls ≠ "java/lang/invoke/MethodHandle" ∧ yX5_odd.cls ≠ "java/lang/invoke/VarHandle" ∧ (parseMethodDescriptor yX5_odd.desc).map (fun d => d.parameters.length) = some 1 := by decide +kernel
theorem inX5_lays_X5 : ∀ w ∈ u_ws RX5 TX5 26, w ∈ wsX5_lays := uX5_lays__wsX50
set_option maxRecDepth 100000 in
set_option maxHeartbeats 4000000 in
theorem ctX5_lays (l : Launch) (g : GG) (M : MM) (v1 : Int32) (Q : MM → Prop) (hF : ful5 g) (hw : wX5_lays Q M v1) : MV g l yX5_lays wsX5_lays (rmOf 3 63) [.ref (gA g 52), .int v1] M Q := by
  refine mk_MV (cc := cX5_lays) (maxL := 6) (by decide) rfl (Nat.le_of_ble_eq_true rfl) ?_
  intro z Qf hC hR
  show XX z g Qf 6 0 [(0, .ref (gA g 52)), (1, .int v1)] [] M
  have B68 : ∀ (K35 : MM → Int32 → Int32 → Int32 → Prop) (hK35 : ∀ (M : MM) (v2 : Int32) (v3 : Int32) (v4 : Int32) , K35 M v2 v3 v4 → XX z g Qf 6 35 [(0, .ref (gA g 52)), (1, .int v1), (2, .int v2), (3, .int v3), (4, .int v4)] [] M) (M : MM) (v2 : Int32) (v3 : Int32) (v4 : Int32) (p0 : Int32) (p1 : Int32), wX5_lays_68 Q K35 v1 M v2 v3 v4 p0 p1 → XX z g Qf 6 68 [(0, .ref (gA g 52)), (1, .int v1), (2, .int v2), (3, .int v3), (4, .int v4)] [.int p0, .int p1] M := by
    intro K35 hK35 M v2 v3 v4 p0 p1 hw
    refine q_ior hC dX5_lays_68 69 rfl ?_
    refine q_istore (L' := [(5, .int (p1 ||| p0)), (0, .ref (gA g 52)), (1, .int v1), (2, .int v2), (3, .int v3), (4, .int v4)]) hC dX5_lays_69 (by decide) rfl 71 rfl ?_
    refine q_aload_n hC dX5_lays_71 1 rfl 72 rfl ?_
    refine q_getR (C := RX5) (T := TX5) (N := 26) (ci := 5) hC inX5_lays_X5 (obF52 hF) rfl 0 (by decide) (uX5_lays__X5_endOf _ (List.mem_of_getElem? (l := owX5_endOf) (i := 1) rfl)) rfl 53 (fun _ => rfl) dX5_lays_72 75 rfl ?_
    refine q_bipush (v := 25) hC dX5_lays_75 (by decide) 77 rfl ?_
    refine q_bipush (v := 13) hC dX5_lays_77 (by decide) 79 rfl ?_
    refine q_iload_n hC dX5_lays_79 3 rfl 80 rfl ?_
    refine q_imul hC dX5_lays_80 81 rfl ?_
    refine q_iadd hC dX5_lays_81 82 rfl ?_
    refine q_iload hC dX5_lays_82 5 rfl 84 rfl ?_
    refine q_iadd hC dX5_lays_84 85 rfl ?_
    refine q_iload hC dX5_lays_85 0 rfl 87 rfl ?_
    obtain ⟨hin, hw⟩ := hw
    refine q_iast hC (arF53 hF) hin dX5_lays_87 88 rfl (fun M9 eM9 => ?_)
    have hw := hw M9 eM9
    refine q_aload_n hC dX5_lays_88 1 rfl 89 rfl ?_
    refine q_getR (C := RX5) (T := TX5) (N := 26) (ci := 5) hC inX5_lays_X5 (obF52 hF) rfl 0 (by decide) (uX5_lays__X5_endOf _ (List.mem_of_getElem? (l := owX5_endOf) (i := 1) rfl)) rfl 53 (fun _ => rfl) dX5_lays_89 92 rfl ?_
    refine q_sipush (v := 181) hC dX5_lays_92 (by decide) 95 rfl ?_
    refine q_bipush (v := 12) hC dX5_lays_95 (by decide) 97 rfl ?_
    refine q_iload_n hC dX5_lays_97 3 rfl 98 rfl ?_
    refine q_imul hC dX5_lays_98 99 rfl ?_
    refine q_iadd hC dX5_lays_99 100 rfl ?_
    refine q_iload hC dX5_lays_100 5 rfl 102 rfl ?_
    refine q_iadd hC dX5_lays_102 103 rfl ?_
    refine q_aload_n hC dX5_lays_103 1 rfl 104 rfl ?_
    refine q_getR (C := RX5) (T := TX5) (N := 26) (ci := 5) hC inX5_lays_X5 (obF52 hF) rfl 16 (by decide) (uX5_lays__o _ (List.mem_of_getElem? (l := owX5_lays) (i := 1) rfl)) rfl 60 (fun _ => rfl) dX5_lays_104 107 rfl ?_
    refine q_iload hC dX5_lays_107 5 rfl 109 rfl ?_
    obtain ⟨hin, hw⟩ := hw
    refine q_iald hC (arF60 hF) hin dX5_lays_109 110 rfl ?_
    obtain ⟨hin, hw⟩ := hw
    refine q_iast hC (arF53 hF) hin dX5_lays_110 111 rfl (fun M10 eM10 => ?_)
    have hw := hw M10 eM10
    refine q_iload_n hC dX5_lays_111 4 rfl 112 rfl ?_
    refine q_iload hC dX5_lays_112 0 rfl 114 rfl ?_
    refine q_ixor hC dX5_lays_114 115 rfl ?_
    refine q_nameI (fun x11 ex11 => ?_)
    have hw := hw x11 ex11
    refine q_istore_n (L' := [(3, .int x11), (5, .int (p1 ||| p0)), (0, .ref (gA g 52)), (1, .int v1), (2, .int v2), (4, .int v4)]) hC dX5_lays_115 (by decide) rfl 116 rfl ?_
    refine q_iinc (v := v4 + 1) (L' := [(4, .int (v4 + 1)), (3, .int x11), (5, .int (p1 ||| p0)), (0, .ref (gA g 52)), (1, .int v1), (2, .int v2)]) hC dX5_lays_116 5 rfl rfl (by decide) rfl 119 rfl ?_
    refine q_goto hC 35 dX5_lays_119 (by decide) ?_
    exact XX.sub [3, 4, 5, 1, 0] rfl (hK35 M10 v2 x11 (v4 + 1) hw)
  have B35 : ∀ (n : Nat) (M : MM) (v2 : Int32) (v3 : Int32) (v4 : Int32) , wX5_lays_35 Q v1 n M v2 v3 v4 → XX z g Qf 6 35 [(0, .ref (gA g 52)), (1, .int v1), (2, .int v2), (3, .int v3), (4, .int v4)] [] M := by
    intro n
    induction n with
    | zero =>
      intro M v2 v3 v4 hw
      exact hw.elim
    | succ n ih =>
      intro M v2 v3 v4 hw
      refine q_iload hC dX5_lays_35 4 rfl 37 rfl ?_
      refine q_iload_n hC dX5_lays_37 1 rfl 38 rfl ?_
      refine q_icmp_ge hC 122 dX5_lays_38 (by decide) 41 rfl hw (fun hw => ?_) (fun hw => ?_)
      · refine q_aload_n hC dX5_lays_122 0 rfl 123 rfl ?_
        refine q_getR (C := RX5) (T := TX5) (N := 26) (ci := 5) hC inX5_lays_X5 (obF52 hF) rfl 0 (by decide) (uX5_lays__X5_endOf _ (List.mem_of_getElem? (l := owX5_endOf) (i := 1) rfl)) rfl 53 (fun _ => rfl) dX5_lays_123 126 rfl ?_
        refine q_bipush (v := 25) hC dX5_lays_126 (by decide) 128 rfl ?_
        refine q_bipush (v := 13) hC dX5_lays_128 (by decide) 130 rfl ?_
        refine q_iload_n hC dX5_lays_130 2 rfl 131 rfl ?_
        refine q_imul hC dX5_lays_131 132 rfl ?_
        refine q_iadd hC dX5_lays_132 133 rfl ?_
        refine q_iload_n hC dX5_lays_133 1 rfl 134 rfl ?_
        refine q_iadd hC dX5_lays_134 135 rfl ?_
        refine q_iload_n hC dX5_lays_135 3 rfl 136 rfl ?_
        obtain ⟨hin, hw⟩ := hw
        refine q_iast hC (arF53 hF) hin dX5_lays_136 137 rfl (fun M5 eM5 => ?_)
        have hw := hw M5 eM5
        refine q_aload_n hC dX5_lays_137 0 rfl 138 rfl ?_
        refine q_getR (C := RX5) (T := TX5) (N := 26) (ci := 5) hC inX5_lays_X5 (obF52 hF) rfl 0 (by decide) (uX5_lays__X5_endOf _ (List.mem_of_getElem? (l := owX5_endOf) (i := 1) rfl)) rfl 53 (fun _ => rfl) dX5_lays_138 141 rfl ?_
        refine q_iconst (v := 0) hC dX5_lays_141 rfl 142 rfl ?_
        refine q_iload_n hC dX5_lays_142 2 rfl 143 rfl ?_
        refine q_iconst (v := 1) hC dX5_lays_143 rfl 144 rfl ?_
        refine q_iadd hC dX5_lays_144 145 rfl ?_
        refine q_iastL hC (arF53 hF) 0 (by decide +kernel) (by decide +kernel) dX5_lays_145 146 rfl (fun M6 eM6 => ?_)
        have hw := hw M6 eM6
        exact r_vret hR dX5_lays_146 hw
      · refine q_aload_n hC dX5_lays_41 0 rfl 42 rfl ?_
        refine q_getR (C := RX5) (T := TX5) (N := 26) (ci := 5) hC inX5_lays_X5 (obF52 hF) rfl 16 (by decide) (uX5_lays__o _ (List.mem_of_getElem? (l := owX5_lays) (i := 1) rfl)) rfl 60 (fun _ => rfl) dX5_lays_42 45 rfl ?_
        refine q_iload hC dX5_lays_45 4 rfl 47 rfl ?_
        obtain ⟨hin, hw⟩ := hw
        refine q_iald hC (arF60 hF) hin dX5_lays_47 48 rfl ?_
        refine q_aload_n hC dX5_lays_48 0 rfl 49 rfl ?_
        refine q_getR (C := RX5) (T := TX5) (N := 26) (ci := 5) hC inX5_lays_X5 (obF52 hF) rfl 16 (by decide) (uX5_lays__o _ (List.mem_of_getElem? (l := owX5_lays) (i := 1) rfl)) rfl 60 (fun _ => rfl) dX5_lays_49 52 rfl ?_
        refine q_iload hC dX5_lays_52 4 rfl 54 rfl ?_
        obtain ⟨hin, hw⟩ := hw
        refine q_iald hC (arF60 hF) hin dX5_lays_54 55 rfl ?_
        refine r_callI hC (go_T (As := [.int (M 60 v4.toNatClampNeg)]) (rest := [.int (M 60 v4.toNatClampNeg)]) hC (ctX5_odd (zl z) g M (M 60 v4.toNatClampNeg) _ hw) 1 gX5_lays_X5_odd rfl ⟨rfl, rfl⟩ hdT_X5_odd ⟨Nat.le_of_ble_eq_true rfl, Nat.le_of_ble_eq_true rfl⟩ rfl rfl (Nat.le_of_ble_eq_true rfl) dX5_lays_55) 58 rfl (fun r7 M8 hw => ?_)
        refine q_if_ne hC 67 dX5_lays_58 (by decide) 61 rfl hw (fun hw => ?_) (fun hw => ?_)
        · refine q_iconst (v := 0) hC dX5_lays_67 rfl 68 rfl ?_
          exact XX.sub [0, 1, 2, 3, 4] rfl (B68 _ (fun M v2 v3 v4 hw => ih M v2 v3 v4 hw) M8 v2 v3 v4 0 (M 60 v4.toNatClampNeg) hw)
        · refine q_sipush (v := 256) hC dX5_lays_61 (by decide) 64 rfl ?_
          refine q_goto hC 68 dX5_lays_64 (by decide) ?_
          exact XX.sub [0, 1, 2, 3, 4] rfl (B68 _ (fun M v2 v3 v4 hw => ih M v2 v3 v4 hw) M8 v2 v3 v4 256 (M 60 v4.toNatClampNeg) hw)
  refine q_aload_n hC dX5_lays_0 0 rfl 1 rfl ?_
  refine q_getR (C := RX5) (T := TX5) (N := 26) (ci := 5) hC inX5_lays_X5 (obF52 hF) rfl 0 (by decide) (uX5_lays__X5_endOf _ (List.mem_of_getElem? (l := owX5_endOf) (i := 1) rfl)) rfl 53 (fun _ => rfl) dX5_lays_1 4 rfl ?_
  refine q_iconst (v := 0) hC dX5_lays_4 rfl 5 rfl ?_
  refine q_ialdL hC (arF53 hF) 0 (by decide +kernel) (by decide +kernel) dX5_lays_5 6 rfl ?_
  refine q_istore_n (L' := [(2, .int (M 53 0)), (0, .ref (gA g 52)), (1, .int v1)]) hC dX5_lays_6 (by decide) rfl 7 rfl ?_
  refine q_iconst (v := 0) hC dX5_lays_7 rfl 8 rfl ?_
  refine q_istore_n (L' := [(3, .int 0), (2, .int (M 53 0)), (0, .ref (gA g 52)), (1, .int v1)]) hC dX5_lays_8 (by decide) rfl 9 rfl ?_
  refine q_aload_n hC dX5_lays_9 2 rfl 10 rfl ?_
  refine q_getR (C := RX5) (T := TX5) (N := 26) (ci := 5) hC inX5_lays_X5 (obF52 hF) rfl 0 (by decide) (uX5_lays__X5_endOf _ (List.mem_of_getElem? (l := owX5_endOf) (i := 1) rfl)) rfl 53 (fun _ => rfl) dX5_lays_10 13 rfl ?_
  refine q_iconst (v := 1) hC dX5_lays_13 rfl 14 rfl ?_
  refine q_iload_n hC dX5_lays_14 1 rfl 15 rfl ?_
  refine q_iadd hC dX5_lays_15 16 rfl ?_
  refine q_aload_n hC dX5_lays_16 2 rfl 17 rfl ?_
  refine q_iload_n hC dX5_lays_17 1 rfl 18 rfl ?_
  refine r_callI hC (go_V (q := (RX5, TX5, 26)) (As := [.int (M 53 0)]) (rest := [.int ((1 : Int32) + (M 53 0)), .ref (gA g 53)]) hC (ctX5_beginOf (zl z) g M (M 53 0) _ hF hw) 1 gX5_lays_X5_beginOf rfl ⟨rfl, rfl⟩ hdV_X5_beginOf ⟨Nat.le_of_ble_eq_true rfl, Nat.le_of_ble_eq_true rfl⟩ (obF52 hF) rfl rfl rfl (Nat.le_of_ble_eq_true rfl) dX5_lays_18) 21 rfl (fun r1 M2 hw => ?_)
  obtain ⟨hin, hw⟩ := hw
  refine q_iast hC (arF53 hF) hin dX5_lays_21 22 rfl (fun M3 eM3 => ?_)
  have hw := hw M3 eM3
  refine q_aload_n hC dX5_lays_22 2 rfl 23 rfl ?_
  refine q_getR (C := RX5) (T := TX5) (N := 26) (ci := 5) hC inX5_lays_X5 (obF52 hF) rfl 0 (by decide) (uX5_lays__X5_endOf _ (List.mem_of_getElem? (l := owX5_endOf) (i := 1) rfl)) rfl 53 (fun _ => rfl) dX5_lays_23 26 rfl ?_
  refine q_bipush (v := 13) hC dX5_lays_26 (by decide) 28 rfl ?_
  refine q_iload_n hC dX5_lays_28 1 rfl 29 rfl ?_
  refine q_iadd hC dX5_lays_29 30 rfl ?_
  refine q_iload_n hC dX5_lays_30 3 rfl 31 rfl ?_
  obtain ⟨hin, hw⟩ := hw
  refine q_iast hC (arF53 hF) hin dX5_lays_31 32 rfl (fun M4 eM4 => ?_)
  have hw := hw M4 eM4
  refine q_iconst (v := 0) hC dX5_lays_32 rfl 33 rfl ?_
  refine q_istore (L' := [(4, .int 0), (3, .int 0), (2, .int (M 53 0)), (0, .ref (gA g 52)), (1, .int v1)]) hC dX5_lays_33 (by decide) rfl 35 rfl ?_
  obtain ⟨n0, hw⟩ := hw
  exact XX.sub [3, 4, 2, 1, 0] rfl (B35 n0 M4 (M 53 0) 0 0 hw)
theorem hdV_X5_lays : yX5_lays.cls = RX5 ∧ yX5_lays.cls ≠ "java/lang/invoke/MethodHandle" ∧ yX5_lays.cls ≠ "java/lang/invoke/VarHandle" ∧ (parseMethodDescriptor yX5_lays.desc).map (fun d => d.parameters.length) = some 1 := by decide +kernel
theorem inX5_keepDraft_X5 : ∀ w ∈ u_ws RX5 TX5 26, w ∈ wsX5_keepDraft := uX5_keepDraft__wsX50
set_option maxRecDepth 100000 in
set_option maxHeartbeats 4000000 in
theorem ctX5_keepDraft (l : Launch) (g : GG) (M : MM)  (Q : MM → Prop) (hF : ful5 g) (hw : wX5_keepDraft Q M ) : MV g l yX5_keepDraft wsX5_keepDraft (rmOf 4 88) [.ref (gA g 52)] M Q := by
  refine mk_MV (cc := cX5_keepDraft) (maxL := 3) (by decide) rfl (Nat.le_of_ble_eq_true rfl) ?_
  intro z Qf hC hR
  show XX z g Qf 3 0 [(0, .ref (gA g 52))] [] M
  have B98 : ∀ (K88 : MM → Int32 → Prop) (hK88 : ∀ (M : MM) (v1 : Int32) , K88 M v1 → XX z g Qf 3 88 [(0, .ref (gA g 52)), (1, .int v1)] [] M) (n : Nat) (M : MM) (v1 : Int32) (v2 : Int32) , wX5_keepDraft_98 Q K88 n M v1 v2 → XX z g Qf 3 98 [(0, .ref (gA g 52)), (1, .int v1), (2, .int v2)] [] M := by
    intro K88 hK88 n
    induction n with
    | zero =>
      intro M v1 v2 hw
      exact hw.elim
    | succ n ih =>
      intro M v1 v2 hw
      refine q_iload_n hC dX5_keepDraft_98 2 rfl 99 rfl ?_
      refine q_aload_n hC dX5_keepDraft_99 0 rfl 100 rfl ?_
      refine q_getR (C := RX5) (T := TX5) (N := 26) (ci := 5) hC inX5_keepDraft_X5 (obF52 hF) rfl 5 (by decide) (uX5_keepDraft__o _ (List.mem_of_getElem? (l := owX5_keepDraft) (i := 4) rfl)) rfl 57 (fun _ => rfl) dX5_keepDraft_100 103 rfl ?_
      refine q_iload_n hC dX5_keepDraft_103 1 rfl 104 rfl ?_
      obtain ⟨hin, hw⟩ := hw
      refine q_iald hC (arF57 hF) hin dX5_keepDraft_104 105 rfl ?_
      refine q_icmp_ge hC 131 dX5_keepDraft_105 (by decide) 108 rfl hw (fun hw => ?_) (fun hw => ?_)
      · refine q_aload_n hC dX5_keepDraft_131 0 rfl 132 rfl ?_
        refine q_aload_n hC dX5_keepDraft_132 0 rfl 133 rfl ?_
        refine q_getR (C := RX5) (T := TX5) (N := 26) (ci := 5) hC inX5_keepDraft_X5 (obF52 hF) rfl 5 (by decide) (uX5_keepDraft__o _ (List.mem_of_getElem? (l := owX5_keepDraft) (i := 4) rfl)) rfl 57 (fun _ => rfl) dX5_keepDraft_133 136 rfl ?_
        refine q_iload_n hC dX5_keepDraft_136 1 rfl 137 rfl ?_
        obtain ⟨hin, hw⟩ := hw
        refine q_iald hC (arF57 hF) hin dX5_keepDraft_137 138 rfl ?_
        refine r_callV hC (go_V (q := (RX5, TX5, 26)) (As := [.int (M 57 v1.toNatClampNeg)]) (rest := []) hC (ctX5_lays (zl z) g M (M 57 v1.toNatClampNeg) _ hF hw) 1 gX5_keepDraft_X5_lays rfl ⟨rfl, rfl⟩ hdV_X5_lays ⟨Nat.le_of_ble_eq_true rfl, Nat.le_of_ble_eq_true rfl⟩ (obF52 hF) rfl rfl rfl (Nat.le_of_ble_eq_true rfl) dX5_keepDraft_138) 141 rfl (fun M7 hw => ?_)
        refine q_iinc (v := v1 + 1) (L' := [(1, .int (v1 + 1)), (0, .ref (gA g 52)), (2, .int v2)]) hC dX5_keepDraft_141 1 rfl rfl (by decide) rfl 144 rfl ?_
        refine q_goto hC 88 dX5_keepDraft_144 (by decide) ?_
        exact XX.sub [1, 0] rfl (hK88 M7 (v1 + 1) hw)
      · refine q_aload_n hC dX5_keepDraft_108 0 rfl 109 rfl ?_
        refine q_getR (C := RX5) (T := TX5) (N := 26) (ci := 5) hC inX5_keepDraft_X5 (obF52 hF) rfl 16 (by decide) (uX5_keepDraft__X5_lays _ (List.mem_of_getElem? (l := owX5_lays) (i := 1) rfl)) rfl 60 (fun _ => rfl) dX5_keepDraft_109 112 rfl ?_
        refine q_iload_n hC dX5_keepDraft_112 2 rfl 113 rfl ?_
        refine q_aload_n hC dX5_keepDraft_113 0 rfl 114 rfl ?_
        refine q_getR (C := RX5) (T := TX5) (N := 26) (ci := 5) hC inX5_keepDraft_X5 (obF52 hF) rfl 6 (by decide) (uX5_keepDraft__o _ (List.mem_of_getElem? (l := owX5_keepDraft) (i := 5) rfl)) rfl 58 (fun _ => rfl) dX5_keepDraft_114 117 rfl ?_
        refine q_bipush (v := 12) hC dX5_keepDraft_117 (by decide) 119 rfl ?_
        refine q_iload_n hC dX5_keepDraft_119 1 rfl 120 rfl ?_
        refine q_imul hC dX5_keepDraft_120 121 rfl ?_
        refine q_iload_n hC dX5_keepDraft_121 2 rfl 122 rfl ?_
        refine q_iadd hC dX5_keepDraft_122 123 rfl ?_
        obtain ⟨hin, hw⟩ := hw
        refine q_iald hC (arF58 hF) hin dX5_keepDraft_123 124 rfl ?_
        obtain ⟨hin, hw⟩ := hw
        refine q_iast hC (arF60 hF) hin dX5_keepDraft_124 125 rfl (fun M8 eM8 => ?_)
        have hw := hw M8 eM8
        refine q_iinc (v := v2 + 1) (L' := [(2, .int (v2 + 1)), (0, .ref (gA g 52)), (1, .int v1)]) hC dX5_keepDraft_125 2 rfl rfl (by decide) rfl 128 rfl ?_
        refine q_goto hC 98 dX5_keepDraft_128 (by decide) ?_
        exact XX.sub [1, 2, 0] rfl (ih M8 v1 (v2 + 1) hw)
  have B88 : ∀ (n : Nat) (M : MM) (v1 : Int32) , wX5_keepDraft_88 Q n M v1 → XX z g Qf 3 88 [(0, .ref (gA g 52)), (1, .int v1)] [] M := by
    intro n
    induction n with
    | zero =>
      intro M v1 hw
      exact hw.elim
    | succ n ih =>
      intro M v1 hw
      refine q_iload_n hC dX5_keepDraft_88 1 rfl 89 rfl ?_
      refine q_aload_n hC dX5_keepDraft_89 0 rfl 90 rfl ?_
      refine q_getI (C := RX5) (T := TX5) (N := 26) (ci := 5) hC inX5_keepDraft_X5 (obF52 hF) rfl 4 (by decide) (uX5_keepDraft__o _ (List.mem_of_getElem? (l := owX5_keepDraft) (i := 3) rfl)) rfl (fun _ => rfl) dX5_keepDraft_90 93 rfl ?_
      refine q_icmp_ge hC 147 dX5_keepDraft_93 (by decide) 96 rfl hw (fun hw => ?_) (fun hw => ?_)
      · exact r_vret hR dX5_keepDraft_147 hw
      · refine q_iconst (v := 0) hC dX5_keepDraft_96 rfl 97 rfl ?_
        refine q_istore_n (L' := [(2, .int 0), (0, .ref (gA g 52)), (1, .int v1)]) hC dX5_keepDraft_97 (by decide) rfl 98 rfl ?_
        obtain ⟨n0, hw⟩ := hw
        exact XX.sub [1, 2, 0] rfl (B98 _ (fun M v1 hw => ih M v1 hw) n0 M v1 0 hw)
  have B28 : ∀ (n : Nat) (M : MM) (v1 : Int32) , wX5_keepDraft_28 Q n M v1 → XX z g Qf 3 28 [(0, .ref (gA g 52)), (1, .int v1)] [] M := by
    intro n
    induction n with
    | zero =>
      intro M v1 hw
      exact hw.elim
    | succ n ih =>
      intro M v1 hw
      refine q_iload_n hC dX5_keepDraft_28 1 rfl 29 rfl ?_
      refine q_sipush (v := 400) hC dX5_keepDraft_29 (by decide) 32 rfl ?_
      refine q_icmp_ge hC 48 dX5_keepDraft_32 (by decide) 35 rfl hw (fun hw => ?_) (fun hw => ?_)
      · refine q_aload_n hC dX5_keepDraft_48 0 rfl 49 rfl ?_
        refine q_getR (C := RX5) (T := TX5) (N := 26) (ci := 5) hC inX5_keepDraft_X5 (obF52 hF) rfl 0 (by decide) (uX5_keepDraft__X5_endOf _ (List.mem_of_getElem? (l := owX5_endOf) (i := 1) rfl)) rfl 53 (fun _ => rfl) dX5_keepDraft_49 52 rfl ?_
        refine q_sipush (v := 340) hC dX5_keepDraft_52 (by decide) 55 rfl ?_
        refine q_bipush (v := (-4)) hC dX5_keepDraft_55 (by decide) 57 rfl ?_
        refine q_iastL hC (arF53 hF) 340 (by decide +kernel) (by decide +kernel) dX5_keepDraft_57 58 rfl (fun M2 eM2 => ?_)
        have hw := hw M2 eM2
        refine q_aload_n hC dX5_keepDraft_58 0 rfl 59 rfl ?_
        refine q_getR (C := RX5) (T := TX5) (N := 26) (ci := 5) hC inX5_keepDraft_X5 (obF52 hF) rfl 0 (by decide) (uX5_keepDraft__X5_endOf _ (List.mem_of_getElem? (l := owX5_endOf) (i := 1) rfl)) rfl 53 (fun _ => rfl) dX5_keepDraft_59 62 rfl ?_
        refine q_sipush (v := 366) hC dX5_keepDraft_62 (by decide) 65 rfl ?_
        refine q_aload_n hC dX5_keepDraft_65 0 rfl 66 rfl ?_
        refine q_getR (C := RX5) (T := TX5) (N := 26) (ci := 5) hC inX5_keepDraft_X5 (obF52 hF) rfl 2 (by decide) (uX5_keepDraft__X5_longOf _ (List.mem_of_getElem? (l := owX5_longOf) (i := 1) rfl)) rfl 55 (fun _ => rfl) dX5_keepDraft_66 69 rfl ?_
        refine q_iconst (v := 0) hC dX5_keepDraft_69 rfl 70 rfl ?_
        refine q_ialdL hC (arF55 hF) 0 (by decide +kernel) (by decide +kernel) dX5_keepDraft_70 71 rfl ?_
        refine q_iastL hC (arF53 hF) 366 (by decide +kernel) (by decide +kernel) dX5_keepDraft_71 72 rfl (fun M3 eM3 => ?_)
        have hw := hw M3 eM3
        refine q_aload_n hC dX5_keepDraft_72 0 rfl 73 rfl ?_
        refine q_getR (C := RX5) (T := TX5) (N := 26) (ci := 5) hC inX5_keepDraft_X5 (obF52 hF) rfl 1 (by decide) (uX5_keepDraft__o _ (List.mem_of_getElem? (l := owX5_keepDraft) (i := 2) rfl)) rfl 54 (fun _ => rfl) dX5_keepDraft_73 76 rfl ?_
        refine q_iconst (v := 0) hC dX5_keepDraft_76 rfl 77 rfl ?_
        refine q_iconst (v := 0) hC dX5_keepDraft_77 rfl 78 rfl ?_
        refine q_zastL (w := 0) hC (arF54 hF) 0 (by decide +kernel) (by decide +kernel) (by decide +kernel) dX5_keepDraft_78 79 rfl (fun M4 eM4 => ?_)
        have hw := hw M4 eM4
        refine q_aload_n hC dX5_keepDraft_79 0 rfl 80 rfl ?_
        refine q_getR (C := RX5) (T := TX5) (N := 26) (ci := 5) hC inX5_keepDraft_X5 (obF52 hF) rfl 1 (by decide) (uX5_keepDraft__o _ (List.mem_of_getElem? (l := owX5_keepDraft) (i := 2) rfl)) rfl 54 (fun _ => rfl) dX5_keepDraft_80 83 rfl ?_
        refine q_iconst (v := 1) hC dX5_keepDraft_83 rfl 84 rfl ?_
        refine q_iconst (v := 0) hC dX5_keepDraft_84 rfl 85 rfl ?_
        refine q_zastL (w := 0) hC (arF54 hF) 1 (by decide +kernel) (by decide +kernel) (by decide +kernel) dX5_keepDraft_85 86 rfl (fun M5 eM5 => ?_)
        have hw := hw M5 eM5
        refine q_iconst (v := 0) hC dX5_keepDraft_86 rfl 87 rfl ?_
        refine q_istore_n (L' := [(1, .int 0), (0, .ref (gA g 52))]) hC dX5_keepDraft_87 (by decide) rfl 88 rfl ?_
        obtain ⟨n0, hw⟩ := hw
        exact XX.sub [1, 0] rfl (B88 n0 M5 0 hw)
      · refine q_aload_n hC dX5_keepDraft_35 0 rfl 36 rfl ?_
        refine q_getR (C := RX5) (T := TX5) (N := 26) (ci := 5) hC inX5_keepDraft_X5 (obF52 hF) rfl 0 (by decide) (uX5_keepDraft__X5_endOf _ (List.mem_of_getElem? (l := owX5_endOf) (i := 1) rfl)) rfl 53 (fun _ => rfl) dX5_keepDraft_36 39 rfl ?_
        refine q_iload_n hC dX5_keepDraft_39 1 rfl 40 rfl ?_
        refine q_iconst (v := 0) hC dX5_keepDraft_40 rfl 41 rfl ?_
        obtain ⟨hin, hw⟩ := hw
        refine q_iast hC (arF53 hF) hin dX5_keepDraft_41 42 rfl (fun M6 eM6 => ?_)
        have hw := hw M6 eM6
        refine q_iinc (v := v1 + 1) (L' := [(1, .int (v1 + 1)), (0, .ref (gA g 52))]) hC dX5_keepDraft_42 1 rfl rfl (by decide) rfl 45 rfl ?_
        refine q_goto hC 28 dX5_keepDraft_45 (by decide) ?_
        exact XX.sub [1, 0] rfl (ih M6 (v1 + 1) hw)
  have B2 : ∀ (n : Nat) (M : MM) (v1 : Int32) , wX5_keepDraft_2 Q n M v1 → XX z g Qf 3 2 [(0, .ref (gA g 52)), (1, .int v1)] [] M := by
    intro n
    induction n with
    | zero =>
      intro M v1 hw
      exact hw.elim
    | succ n ih =>
      intro M v1 hw
      refine q_iload_n hC dX5_keepDraft_2 1 rfl 3 rfl ?_
      refine q_bipush (v := 9) hC dX5_keepDraft_3 (by decide) 5 rfl ?_
      refine q_icmp_ge hC 26 dX5_keepDraft_5 (by decide) 8 rfl hw (fun hw => ?_) (fun hw => ?_)
      · refine q_iconst (v := 0) hC dX5_keepDraft_26 rfl 27 rfl ?_
        refine q_istore_n (L' := [(1, .int 0), (0, .ref (gA g 52))]) hC dX5_keepDraft_27 (by decide) rfl 28 rfl ?_
        obtain ⟨n0, hw⟩ := hw
        exact XX.sub [1, 0] rfl (B28 n0 M 0 hw)
      · refine q_aload_n hC dX5_keepDraft_8 0 rfl 9 rfl ?_
        refine q_getR (C := RX5) (T := TX5) (N := 26) (ci := 5) hC inX5_keepDraft_X5 (obF52 hF) rfl 2 (by decide) (uX5_keepDraft__X5_longOf _ (List.mem_of_getElem? (l := owX5_longOf) (i := 1) rfl)) rfl 55 (fun _ => rfl) dX5_keepDraft_9 12 rfl ?_
        refine q_iload_n hC dX5_keepDraft_12 1 rfl 13 rfl ?_
        refine q_aload_n hC dX5_keepDraft_13 0 rfl 14 rfl ?_
        refine q_getR (C := RX5) (T := TX5) (N := 26) (ci := 5) hC inX5_keepDraft_X5 (obF52 hF) rfl 3 (by decide) (uX5_keepDraft__o _ (List.mem_of_getElem? (l := owX5_keepDraft) (i := 1) rfl)) rfl 56 (fun _ => rfl) dX5_keepDraft_14 17 rfl ?_
        refine q_iload_n hC dX5_keepDraft_17 1 rfl 18 rfl ?_
        obtain ⟨hin, hw⟩ := hw
        refine q_iald hC (arF56 hF) hin dX5_keepDraft_18 19 rfl ?_
        obtain ⟨hin, hw⟩ := hw
        refine q_iast hC (arF55 hF) hin dX5_keepDraft_19 20 rfl (fun M1 eM1 => ?_)
        have hw := hw M1 eM1
        refine q_iinc (v := v1 + 1) (L' := [(1, .int (v1 + 1)), (0, .ref (gA g 52))]) hC dX5_keepDraft_20 1 rfl rfl (by decide) rfl 23 rfl ?_
        refine q_goto hC 2 dX5_keepDraft_23 (by decide) ?_
        exact XX.sub [1, 0] rfl (ih M1 (v1 + 1) hw)
  refine q_iconst (v := 0) hC dX5_keepDraft_0 rfl 1 rfl ?_
  refine q_istore_n (L' := [(1, .int 0), (0, .ref (gA g 52))]) hC dX5_keepDraft_1 (by decide) rfl 2 rfl ?_
  obtain ⟨n0, hw⟩ := hw
  exact XX.sub [1, 0] rfl (B2 n0 M 0 hw)
theorem inX5_feed_X5 : ∀ w ∈ u_ws RX5 TX5 26, w ∈ wsX5_feed := uX5_feed__wsX50
set_option maxRecDepth 100000 in
set_option maxHeartbeats 4000000 in
theorem ctX5_feed (l : Launch) (g : GG) (M : MM) (v1 : Int64) (Q : Int32 → MM → Prop) (hF : ful5 g) (hw : wX5_feed Q M v1) : MI g l yX5_feed wsX5_feed (rmOf 0 0) [.ref (gA g 52), .long v1] M Q := by
  refine mk_MI (cc := cX5_feed) (maxL := 4) (by decide) rfl (Nat.le_of_ble_eq_true rfl) ?_
  intro z Qf hC hR
  show XX z g Qf 4 0 [(0, .ref (gA g 52)), (1, .long v1)] [] M
  have B19 : ∀ (n : Nat) (M : MM) (v3 : Int32) , wX5_feed_19 Q v1 n M v3 → XX z g Qf 4 19 [(0, .ref (gA g 52)), (1, .long v1), (3, .int v3)] [] M := by
    intro n
    induction n with
    | zero =>
      intro M v3 hw
      exact hw.elim
    | succ n ih =>
      intro M v3 hw
      refine q_iload_n hC dX5_feed_19 2 rfl 20 rfl ?_
      refine q_if_lt hC 56 dX5_feed_20 (by decide) 23 rfl hw (fun hw => ?_) (fun hw => ?_)
      · refine q_aload_n hC dX5_feed_56 0 rfl 57 rfl ?_
        refine q_getI (C := RX5) (T := TX5) (N := 26) (ci := 5) hC inX5_feed_X5 (obF52 hF) rfl 9 (by decide) (uX5_feed__o _ (List.mem_of_getElem? (l := owX5_feed) (i := 1) rfl)) rfl (fun _ => rfl) dX5_feed_57 60 rfl ?_
        exact r_iret hR dX5_feed_60 hw
      · refine q_aload_n hC dX5_feed_23 0 rfl 24 rfl ?_
        refine q_getR (C := RX5) (T := TX5) (N := 26) (ci := 5) hC inX5_feed_X5 (obF52 hF) rfl 8 (by decide) (uX5_feed__o _ (List.mem_of_getElem? (l := owX5_feed) (i := 2) rfl)) rfl 59 (fun _ => rfl) dX5_feed_24 27 rfl ?_
        refine q_aload_n hC dX5_feed_27 0 rfl 28 rfl ?_
        refine q_getI (C := RX5) (T := TX5) (N := 26) (ci := 5) hC inX5_feed_X5 (obF52 hF) rfl 9 (by decide) (uX5_feed__o _ (List.mem_of_getElem? (l := owX5_feed) (i := 1) rfl)) rfl (fun _ => rfl) dX5_feed_28 31 rfl ?_
        refine q_lload_n hC dX5_feed_31 1 rfl 32 rfl ?_
        refine q_iload_n hC dX5_feed_32 2 rfl 33 rfl ?_
        refine q_lshr hC dX5_feed_33 34 rfl ?_
        refine q_ldc2 (v := 255) hC (uX5_feed__o _ (List.mem_of_getElem? (l := owX5_feed) (i := 3) rfl)) dX5_feed_34 37 rfl ?_
        refine q_land hC dX5_feed_37 38 rfl ?_
        refine q_l2i hC dX5_feed_38 39 rfl ?_
        obtain ⟨hin, hw⟩ := hw
        refine q_iast hC (arF59 hF) hin dX5_feed_39 40 rfl (fun M1 eM1 => ?_)
        have hw := hw M1 eM1
        refine q_aload_n hC dX5_feed_40 0 rfl 41 rfl ?_
        refine q_dup hC dX5_feed_41 rfl 42 rfl ?_
        refine q_getI (C := RX5) (T := TX5) (N := 26) (ci := 5) hC inX5_feed_X5 (obF52 hF) rfl 9 (by decide) (uX5_feed__o _ (List.mem_of_getElem? (l := owX5_feed) (i := 1) rfl)) rfl (fun _ => rfl) dX5_feed_42 45 rfl ?_
        refine q_iconst (v := 1) hC dX5_feed_45 rfl 46 rfl ?_
        refine q_iadd hC dX5_feed_46 47 rfl ?_
        refine q_putI (C := RX5) (T := TX5) (N := 26) (ci := 5) hC inX5_feed_X5 tyX5 tyX5_ok nmX5 (obF52 hF) rfl 9 (by decide) (uX5_feed__o _ (List.mem_of_getElem? (l := owX5_feed) (i := 1) rfl)) rfl rfl rfl (fun _ => Nat.le_of_ble_eq_true rfl) (fun _ => rfl) dX5_feed_47 50 rfl (fun M2 eM2 => ?_)
        have hw := hw M2 eM2
        refine q_iinc (v := v3 + (-8)) (L' := [(3, .int (v3 + (-8))), (0, .ref (gA g 52)), (1, .long v1)]) hC dX5_feed_50 2 rfl rfl (by decide) rfl 53 rfl ?_
        refine q_goto hC 19 dX5_feed_53 (by decide) ?_
        exact XX.sub [1, 2, 0] rfl (ih M2 (v3 + (-8)) hw)
  refine q_aload_n hC dX5_feed_0 0 rfl 1 rfl ?_
  refine q_getI (C := RX5) (T := TX5) (N := 26) (ci := 5) hC inX5_feed_X5 (obF52 hF) rfl 9 (by decide) (uX5_feed__o _ (List.mem_of_getElem? (l := owX5_feed) (i := 1) rfl)) rfl (fun _ => rfl) dX5_feed_1 4 rfl ?_
  refine q_bipush (v := 8) hC dX5_feed_4 (by decide) 6 rfl ?_
  refine q_iadd hC dX5_feed_6 7 rfl ?_
  refine q_sipush (v := 400) hC dX5_feed_7 (by decide) 10 rfl ?_
  refine q_icmp_le hC 16 dX5_feed_10 (by decide) 13 rfl hw (fun hw => ?_) (fun hw => ?_)
  · refine q_bipush (v := 56) hC dX5_feed_16 (by decide) 18 rfl ?_
    refine q_istore_n (L' := [(3, .int 56), (0, .ref (gA g 52)), (1, .long v1)]) hC dX5_feed_18 (by decide) rfl 19 rfl ?_
    obtain ⟨n0, hw⟩ := hw
    exact XX.sub [1, 2, 0] rfl (B19 n0 M 56 hw)
  · refine q_bipush (v := (-3)) hC dX5_feed_13 (by decide) 15 rfl ?_
    exact r_iret hR dX5_feed_15 hw
theorem hdT_X5_in : yX5_in.cls ≠ "java/lang/invoke/MethodHandle" ∧ yX5_in.cls ≠ "java/lang/invoke/VarHandle" ∧ (parseMethodDescriptor yX5_in.desc).map (fun d => d.parameters.length) = some 3 := by decide +kernel
theorem inX5_end_X5 : ∀ w ∈ u_ws RX5 TX5 26, w ∈ wsX5_end := uX5_end__wsX50
set_option maxRecDepth 100000 in
set_option maxHeartbeats 4000000 in
theorem ctX5_end (l : Launch) (g : GG) (M : MM) (v1 : Int32) (Q : Int32 → MM → Prop) (hF : ful5 g) (hw : wX5_end Q M v1) : MI g l yX5_end wsX5_end (rmOf 1 25) [.ref (gA g 52), .int v1] M Q := by
  refine mk_MI (cc := cX5_end) (maxL := 3) (by decide) rfl (Nat.le_of_ble_eq_true rfl) ?_
  intro z Qf hC hR
  show XX z g Qf 3 0 [(0, .ref (gA g 52)), (1, .int v1)] [] M
  refine q_iload_n hC dX5_end_0 1 rfl 1 rfl ?_
  refine q_i2l hC dX5_end_1 2 rfl ?_
  refine q_lconst (v := 0) hC dX5_end_2 rfl 3 rfl ?_
  refine q_aload_n hC dX5_end_3 0 rfl 4 rfl ?_
  refine q_getI (C := RX5) (T := TX5) (N := 26) (ci := 5) hC inX5_end_X5 (obF52 hF) rfl 9 (by decide) (uX5_end__o _ (List.mem_of_getElem? (l := owX5_end) (i := 1) rfl)) rfl (fun _ => rfl) dX5_end_4 7 rfl ?_
  refine q_i2l hC dX5_end_7 8 rfl ?_
  refine r_callI hC (go_T (As := [.long (v1.toInt64), .long 0, .long ((M 52 9).toInt64)]) (rest := []) hC (ctX5_in (zl z) g M (v1.toInt64) 0 ((M 52 9).toInt64) _ hw) 3 gX5_end_X5_in rfl ⟨rfl, rfl⟩ hdT_X5_in ⟨Nat.le_of_ble_eq_true rfl, Nat.le_of_ble_eq_true rfl⟩ rfl rfl (Nat.le_of_ble_eq_true rfl) dX5_end_8) 11 rfl (fun r1 M2 hw => ?_)
  refine q_if_ne hC 16 dX5_end_11 (by decide) 14 rfl hw (fun hw => ?_) (fun hw => ?_)
  · refine q_aload_n hC dX5_end_16 0 rfl 17 rfl ?_
    refine q_getI (C := RX5) (T := TX5) (N := 26) (ci := 5) hC inX5_end_X5 (obF52 hF) rfl 9 (by decide) (uX5_end__o _ (List.mem_of_getElem? (l := owX5_end) (i := 1) rfl)) rfl (fun _ => rfl) dX5_end_17 20 rfl ?_
    refine q_istore_n (L' := [(2, .int (M2 52 9)), (0, .ref (gA g 52)), (1, .int v1)]) hC dX5_end_20 (by decide) rfl 21 rfl ?_
    refine q_aload_n hC dX5_end_21 1 rfl 22 rfl ?_
    refine q_iload_n hC dX5_end_22 2 rfl 23 rfl ?_
    refine q_putI (C := RX5) (T := TX5) (N := 26) (ci := 5) hC inX5_end_X5 tyX5 tyX5_ok nmX5 (obF52 hF) rfl 9 (by decide) (uX5_end__o _ (List.mem_of_getElem? (l := owX5_end) (i := 1) rfl)) rfl rfl rfl (fun _ => Nat.le_of_ble_eq_true rfl) (fun _ => rfl) dX5_end_23 26 rfl (fun M3 eM3 => ?_)
    have hw := hw M3 eM3
    refine q_iload_n hC dX5_end_26 0 rfl 27 rfl ?_
    exact r_iret hR dX5_end_27 hw
  · refine q_iconst (v := (-1)) hC dX5_end_14 rfl 15 rfl ?_
    exact r_iret hR dX5_end_15 hw
theorem inX5_needs_X5 : ∀ w ∈ u_ws RX5 TX5 26, w ∈ wsX5_needs := uX5_needs__wsX50
set_option maxRecDepth 100000 in
set_option maxHeartbeats 4000000 in
theorem ctX5_needs (l : Launch) (g : GG) (M : MM) (v1 : Int32) (v2 : Int32) (Q : MM → Prop) (hF : ful5 g) (hw : wX5_needs Q M v1 v2) : MV g l yX5_needs wsX5_needs (rmOf 0 0) [.ref (gA g 52), .int v1, .int v2] M Q := by
  refine mk_MV (cc := cX5_needs) (maxL := 3) (by decide) rfl (Nat.le_of_ble_eq_true rfl) ?_
  intro z Qf hC hR
  show XX z g Qf 3 0 [(0, .ref (gA g 52)), (1, .int v1), (2, .int v2)] [] M
  refine q_iload_n hC dX5_needs_0 1 rfl 1 rfl ?_
  refine q_if_ne hC 24 dX5_needs_1 (by decide) 4 rfl hw (fun hw => ?_) (fun hw => ?_)
  · exact r_vret hR dX5_needs_24 hw
  · refine q_aload_n hC dX5_needs_4 0 rfl 5 rfl ?_
    refine q_getI (C := RX5) (T := TX5) (N := 26) (ci := 5) hC inX5_needs_X5 (obF52 hF) rfl 14 (by decide) (uX5_needs__o _ (List.mem_of_getElem? (l := owX5_needs) (i := 1) rfl)) rfl (fun _ => rfl) dX5_needs_5 8 rfl ?_
    refine q_if_ne hC 24 dX5_needs_8 (by decide) 11 rfl hw (fun hw => ?_) (fun hw => ?_)
    · exact r_vret hR dX5_needs_24 hw
    · refine q_aload_n hC dX5_needs_11 0 rfl 12 rfl ?_
      refine q_iload_n hC dX5_needs_12 2 rfl 13 rfl ?_
      refine q_putI (C := RX5) (T := TX5) (N := 26) (ci := 5) hC inX5_needs_X5 tyX5 tyX5_ok nmX5 (obF52 hF) rfl 14 (by decide) (uX5_needs__o _ (List.mem_of_getElem? (l := owX5_needs) (i := 1) rfl)) rfl rfl rfl (fun _ => Nat.le_of_ble_eq_true rfl) (fun _ => rfl) dX5_needs_13 16 rfl (fun M1 eM1 => ?_)
      have hw := hw M1 eM1
      refine q_aload_n hC dX5_needs_16 0 rfl 17 rfl ?_
      refine q_aload_n hC dX5_needs_17 0 rfl 18 rfl ?_
      refine q_getI (C := RX5) (T := TX5) (N := 26) (ci := 5) hC inX5_needs_X5 (obF52 hF) rfl 11 (by decide) (uX5_needs__o _ (List.mem_of_getElem? (l := owX5_needs) (i := 2) rfl)) rfl (fun _ => rfl) dX5_needs_18 21 rfl ?_
      refine q_putI (C := RX5) (T := TX5) (N := 26) (ci := 5) hC inX5_needs_X5 tyX5 tyX5_ok nmX5 (obF52 hF) rfl 15 (by decide) (uX5_needs__o _ (List.mem_of_getElem? (l := owX5_needs) (i := 3) rfl)) rfl rfl rfl (fun _ => Nat.le_of_ble_eq_true rfl) (fun _ => rfl) dX5_needs_21 24 rfl (fun M2 eM2 => ?_)
      have hw := hw M2 eM2
      exact r_vret hR dX5_needs_24 hw
theorem inX5_look_X5 : ∀ w ∈ u_ws RX5 TX5 26, w ∈ wsX5_look := uX5_look__wsX50
set_option maxRecDepth 100000 in
set_option maxHeartbeats 4000000 in
theorem ctX5_look (l : Launch) (g : GG) (M : MM) (v1 : Int32) (Q : Int32 → MM → Prop) (hF : ful5 g) (hw : wX5_look Q M v1) : MI g l yX5_look wsX5_look (rmOf 0 0) [.ref (gA g 52), .int v1] M Q := by
  refine mk_MI (cc := cX5_look) (maxL := 2) (by decide) rfl (Nat.le_of_ble_eq_true rfl) ?_
  intro z Qf hC hR
  show XX z g Qf 2 0 [(0, .ref (gA g 52)), (1, .int v1)] [] M
  refine q_iload_n hC dX5_look_0 1 rfl 1 rfl ?_
  refine q_aload_n hC dX5_look_1 0 rfl 2 rfl ?_
  refine q_getI (C := RX5) (T := TX5) (N := 26) (ci := 5) hC inX5_look_X5 (obF52 hF) rfl 9 (by decide) (uX5_look__o _ (List.mem_of_getElem? (l := owX5_look) (i := 1) rfl)) rfl (fun _ => rfl) dX5_look_2 5 rfl ?_
  refine q_icmp_ge hC 17 dX5_look_5 (by decide) 8 rfl hw (fun hw => ?_) (fun hw => ?_)
  · refine q_iconst (v := (-1)) hC dX5_look_17 rfl 18 rfl ?_
    exact r_iret hR dX5_look_18 hw
  · refine q_aload_n hC dX5_look_8 0 rfl 9 rfl ?_
    refine q_getR (C := RX5) (T := TX5) (N := 26) (ci := 5) hC inX5_look_X5 (obF52 hF) rfl 8 (by decide) (uX5_look__o _ (List.mem_of_getElem? (l := owX5_look) (i := 2) rfl)) rfl 59 (fun _ => rfl) dX5_look_9 12 rfl ?_
    refine q_iload_n hC dX5_look_12 1 rfl 13 rfl ?_
    obtain ⟨hin, hw⟩ := hw
    refine q_iald hC (arF59 hF) hin dX5_look_13 14 rfl ?_
    refine q_goto hC 18 dX5_look_14 (by decide) ?_
    exact r_iret hR dX5_look_18 hw
theorem hdV_X5_look : yX5_look.cls = RX5 ∧ yX5_look.cls ≠ "java/lang/invoke/MethodHandle" ∧ yX5_look.cls ≠ "java/lang/invoke/VarHandle" ∧ (parseMethodDescriptor yX5_look.desc).map (fun d => d.parameters.length) = some 1 := by decide +kernel
theorem inX5_is_X5 : ∀ w ∈ u_ws RX5 TX5 26, w ∈ wsX5_is := uX5_is__wsX50
set_option maxRecDepth 100000 in
set_option maxHeartbeats 4000000 in
theorem ctX5_is (l : Launch) (g : GG) (M : MM) (v1 : Int32) (v2 : Int32) (v3 : Int32) (v4 : Int32) (v5 : Int32) (Q : Int32 → MM → Prop) (hF : ful5 g) (hw : wX5_is Q M v1 v2 v3 v4 v5) : MI g l yX5_is wsX5_is (rmOf 1 21) [.ref (gA g 52), .int v1, .int v2, .int v3, .int v4, .int v5] M Q := by
  refine mk_MZ (cc := cX5_is) (maxL := 6) (by decide) rfl (Nat.le_of_ble_eq_true rfl) ?_
  intro z Qf hC hR
  show XX z g Qf 6 0 [(0, .ref (gA g 52)), (1, .int v1), (2, .int v2), (3, .int v3), (4, .int v4), (5, .int v5)] [] M
  have B78 : ∀ (M : MM), wX5_is_78 Q v1 v2 v3 v4 v5 M → XX z g Qf 6 78 [] [] M := by
    intro M hw
    refine q_iconst (v := 0) hC dX5_is_78 rfl 79 rfl ?_
    exact r_iret hR dX5_is_79 ⟨nb_0, hw⟩
  have B74 : ∀ (M : MM), wX5_is_74 Q v1 v2 v3 v4 v5 M → XX z g Qf 6 74 [] [] M := by
    intro M hw
    refine q_iconst (v := 1) hC dX5_is_74 rfl 75 rfl ?_
    refine q_goto hC 79 dX5_is_75 (by decide) ?_
    exact r_iret hR dX5_is_79 ⟨nb_1, hw⟩
  refine q_aload_n hC dX5_is_0 0 rfl 1 rfl ?_
  refine q_getI (C := RX5) (T := TX5) (N := 26) (ci := 5) hC inX5_is_X5 (obF52 hF) rfl 10 (by decide) (uX5_is__o _ (List.mem_of_getElem? (l := owX5_is) (i := 1) rfl)) rfl (fun _ => rfl) dX5_is_1 4 rfl ?_
  refine q_aload_n hC dX5_is_4 0 rfl 5 rfl ?_
  refine q_getI (C := RX5) (T := TX5) (N := 26) (ci := 5) hC inX5_is_X5 (obF52 hF) rfl 11 (by decide) (uX5_is__o _ (List.mem_of_getElem? (l := owX5_is) (i := 2) rfl)) rfl (fun _ => rfl) dX5_is_5 8 rfl ?_
  refine q_isub hC dX5_is_8 9 rfl ?_
  refine q_iload_n hC dX5_is_9 1 rfl 10 rfl ?_
  refine q_icmp_ne hC 78 dX5_is_10 (by decide) 13 rfl hw (fun hw => ?_) (fun hw => ?_)
  · exact XX.sub [] rfl (B78 M hw)
  · refine q_aload_n hC dX5_is_13 0 rfl 14 rfl ?_
    refine q_aload_n hC dX5_is_14 0 rfl 15 rfl ?_
    refine q_getI (C := RX5) (T := TX5) (N := 26) (ci := 5) hC inX5_is_X5 (obF52 hF) rfl 11 (by decide) (uX5_is__o _ (List.mem_of_getElem? (l := owX5_is) (i := 2) rfl)) rfl (fun _ => rfl) dX5_is_15 18 rfl ?_
    refine r_callI hC (go_V (q := (RX5, TX5, 26)) (As := [.int (M 52 11)]) (rest := []) hC (ctX5_look (zl z) g M (M 52 11) _ hF hw) 1 gX5_is_X5_look rfl ⟨rfl, rfl⟩ hdV_X5_look ⟨Nat.le_of_ble_eq_true rfl, Nat.le_of_ble_eq_true rfl⟩ (obF52 hF) rfl rfl rfl (Nat.le_of_ble_eq_true rfl) dX5_is_18) 21 rfl (fun r1 M2 hw => ?_)
    refine q_iload_n hC dX5_is_21 2 rfl 22 rfl ?_
    refine q_icmp_ne hC 78 dX5_is_22 (by decide) 25 rfl hw (fun hw => ?_) (fun hw => ?_)
    · exact XX.sub [] rfl (B78 M2 hw)
    · refine q_aload_n hC dX5_is_25 0 rfl 26 rfl ?_
      refine q_aload_n hC dX5_is_26 0 rfl 27 rfl ?_
      refine q_getI (C := RX5) (T := TX5) (N := 26) (ci := 5) hC inX5_is_X5 (obF52 hF) rfl 11 (by decide) (uX5_is__o _ (List.mem_of_getElem? (l := owX5_is) (i := 2) rfl)) rfl (fun _ => rfl) dX5_is_27 30 rfl ?_
      refine q_iconst (v := 1) hC dX5_is_30 rfl 31 rfl ?_
      refine q_iadd hC dX5_is_31 32 rfl ?_
      refine r_callI hC (go_V (q := (RX5, TX5, 26)) (As := [.int ((M2 52 11) + (1 : Int32))]) (rest := []) hC (ctX5_look (zl z) g M2 ((M2 52 11) + (1 : Int32)) _ hF hw) 1 gX5_is_X5_look rfl ⟨rfl, rfl⟩ hdV_X5_look ⟨Nat.le_of_ble_eq_true rfl, Nat.le_of_ble_eq_true rfl⟩ (obF52 hF) rfl rfl rfl (Nat.le_of_ble_eq_true rfl) dX5_is_32) 35 rfl (fun r3 M4 hw => ?_)
      refine q_iload_n hC dX5_is_35 3 rfl 36 rfl ?_
      refine q_icmp_ne hC 78 dX5_is_36 (by decide) 39 rfl hw (fun hw => ?_) (fun hw => ?_)
      · exact XX.sub [] rfl (B78 M4 hw)
      · refine q_aload_n hC dX5_is_39 0 rfl 40 rfl ?_
        refine q_aload_n hC dX5_is_40 0 rfl 41 rfl ?_
        refine q_getI (C := RX5) (T := TX5) (N := 26) (ci := 5) hC inX5_is_X5 (obF52 hF) rfl 11 (by decide) (uX5_is__o _ (List.mem_of_getElem? (l := owX5_is) (i := 2) rfl)) rfl (fun _ => rfl) dX5_is_41 44 rfl ?_
        refine q_iconst (v := 2) hC dX5_is_44 rfl 45 rfl ?_
        refine q_iadd hC dX5_is_45 46 rfl ?_
        refine r_callI hC (go_V (q := (RX5, TX5, 26)) (As := [.int ((M4 52 11) + (2 : Int32))]) (rest := []) hC (ctX5_look (zl z) g M4 ((M4 52 11) + (2 : Int32)) _ hF hw) 1 gX5_is_X5_look rfl ⟨rfl, rfl⟩ hdV_X5_look ⟨Nat.le_of_ble_eq_true rfl, Nat.le_of_ble_eq_true rfl⟩ (obF52 hF) rfl rfl rfl (Nat.le_of_ble_eq_true rfl) dX5_is_46) 49 rfl (fun r5 M6 hw => ?_)
        refine q_iload hC dX5_is_49 4 rfl 51 rfl ?_
        refine q_icmp_ne hC 78 dX5_is_51 (by decide) 54 rfl hw (fun hw => ?_) (fun hw => ?_)
        · exact XX.sub [] rfl (B78 M6 hw)
        · refine q_iload_n hC dX5_is_54 1 rfl 55 rfl ?_
          refine q_iconst (v := 4) hC dX5_is_55 rfl 56 rfl ?_
          refine q_icmp_lt hC 74 dX5_is_56 (by decide) 59 rfl hw (fun hw => ?_) (fun hw => ?_)
          · exact XX.sub [] rfl (B74 M6 hw)
          · refine q_aload_n hC dX5_is_59 0 rfl 60 rfl ?_
            refine q_aload_n hC dX5_is_60 0 rfl 61 rfl ?_
            refine q_getI (C := RX5) (T := TX5) (N := 26) (ci := 5) hC inX5_is_X5 (obF52 hF) rfl 11 (by decide) (uX5_is__o _ (List.mem_of_getElem? (l := owX5_is) (i := 2) rfl)) rfl (fun _ => rfl) dX5_is_61 64 rfl ?_
            refine q_iconst (v := 3) hC dX5_is_64 rfl 65 rfl ?_
            refine q_iadd hC dX5_is_65 66 rfl ?_
            refine r_callI hC (go_V (q := (RX5, TX5, 26)) (As := [.int ((M6 52 11) + (3 : Int32))]) (rest := []) hC (ctX5_look (zl z) g M6 ((M6 52 11) + (3 : Int32)) _ hF hw) 1 gX5_is_X5_look rfl ⟨rfl, rfl⟩ hdV_X5_look ⟨Nat.le_of_ble_eq_true rfl, Nat.le_of_ble_eq_true rfl⟩ (obF52 hF) rfl rfl rfl (Nat.le_of_ble_eq_true rfl) dX5_is_66) 69 rfl (fun r7 M8 hw => ?_)
            refine q_iload hC dX5_is_69 5 rfl 71 rfl ?_
            refine q_icmp_ne hC 78 dX5_is_71 (by decide) 74 rfl hw (fun hw => ?_) (fun hw => ?_)
            · exact XX.sub [] rfl (B78 M8 hw)
            · exact XX.sub [] rfl (B74 M8 hw)
theorem hdV_X5_is : yX5_is.cls = RX5 ∧ yX5_is.cls ≠ "java/lang/invoke/MethodHandle" ∧ yX5_is.cls ≠ "java/lang/invoke/VarHandle" ∧ (parseMethodDescriptor yX5_is.desc).map (fun d => d.parameters.length) = some 5 := by decide +kernel
theorem inX5_nameNow_X5 : ∀ w ∈ u_ws RX5 TX5 26, w ∈ wsX5_nameNow := uX5_nameNow__wsX50
set_option maxRecDepth 100000 in
set_option maxHeartbeats 4000000 in
theorem ctX5_nameNow (l : Launch) (g : GG) (M : MM)  (Q : Int32 → MM → Prop) (hF : ful5 g) (hw : wX5_nameNow Q M ) : MI g l yX5_nameNow wsX5_nameNow (rmOf 2 46) [.ref (gA g 52)] M Q := by
  refine mk_MI (cc := cX5_nameNow) (maxL := 1) (by decide) rfl (Nat.le_of_ble_eq_true rfl) ?_
  intro z Qf hC hR
  show XX z g Qf 1 0 [(0, .ref (gA g 52))] [] M
  have B275 : ∀ (M : MM), wX5_nameNow_275 Q M → XX z g Qf 1 275 [(0, .ref (gA g 52))] [] M := by
    intro M hw
    refine q_aload_n hC dX5_nameNow_275 0 rfl 276 rfl ?_
    refine q_iconst (v := 4) hC dX5_nameNow_276 rfl 277 rfl ?_
    refine q_bipush (v := 109) hC dX5_nameNow_277 (by decide) 279 rfl ?_
    refine q_bipush (v := 97) hC dX5_nameNow_279 (by decide) 281 rfl ?_
    refine q_bipush (v := 114) hC dX5_nameNow_281 (by decide) 283 rfl ?_
    refine q_bipush (v := 107) hC dX5_nameNow_283 (by decide) 285 rfl ?_
    refine r_callI hC (go_V (q := (RX5, TX5, 26)) (As := [.int 4, .int 109, .int 97, .int 114, .int 107]) (rest := []) hC (ctX5_is (zl z) g M 4 109 97 114 107 _ hF hw) 5 gX5_nameNow_X5_is rfl ⟨rfl, rfl⟩ hdV_X5_is ⟨Nat.le_of_ble_eq_true rfl, Nat.le_of_ble_eq_true rfl⟩ (obF52 hF) rfl rfl rfl (Nat.le_of_ble_eq_true rfl) dX5_nameNow_285) 288 rfl (fun r33 M34 hw => ?_)
    refine q_if_eq hC 296 dX5_nameNow_288 (by decide) 291 rfl hw (fun hw => ?_) (fun hw => ?_)
    · refine q_bipush (v := (-4)) hC dX5_nameNow_296 (by decide) 298 rfl ?_
      exact r_iret hR dX5_nameNow_298 hw
    · refine q_bipush (v := 11) hC dX5_nameNow_291 (by decide) 293 rfl ?_
      refine q_goto hC 298 dX5_nameNow_293 (by decide) ?_
      exact r_iret hR dX5_nameNow_298 hw
  have B239 : ∀ (M : MM), wX5_nameNow_239 Q M → XX z g Qf 1 239 [(0, .ref (gA g 52))] [] M := by
    intro M hw
    refine q_aload_n hC dX5_nameNow_239 0 rfl 240 rfl ?_
    refine q_iconst (v := 5) hC dX5_nameNow_240 rfl 241 rfl ?_
    refine q_bipush (v := 98) hC dX5_nameNow_241 (by decide) 243 rfl ?_
    refine q_bipush (v := 108) hC dX5_nameNow_243 (by decide) 245 rfl ?_
    refine q_bipush (v := 111) hC dX5_nameNow_245 (by decide) 247 rfl ?_
    refine q_bipush (v := 99) hC dX5_nameNow_247 (by decide) 249 rfl ?_
    refine r_callI hC (go_V (q := (RX5, TX5, 26)) (As := [.int 5, .int 98, .int 108, .int 111, .int 99]) (rest := []) hC (ctX5_is (zl z) g M 5 98 108 111 99 _ hF hw) 5 gX5_nameNow_X5_is rfl ⟨rfl, rfl⟩ hdV_X5_is ⟨Nat.le_of_ble_eq_true rfl, Nat.le_of_ble_eq_true rfl⟩ (obF52 hF) rfl rfl rfl (Nat.le_of_ble_eq_true rfl) dX5_nameNow_249) 252 rfl (fun r29 M30 hw => ?_)
    refine q_if_eq hC 275 dX5_nameNow_252 (by decide) 255 rfl hw (fun hw => ?_) (fun hw => ?_)
    · exact XX.sub [0] rfl (B275 M30 hw)
    · refine q_aload_n hC dX5_nameNow_255 0 rfl 256 rfl ?_
      refine q_aload_n hC dX5_nameNow_256 0 rfl 257 rfl ?_
      refine q_getI (C := RX5) (T := TX5) (N := 26) (ci := 5) hC inX5_nameNow_X5 (obF52 hF) rfl 11 (by decide) (uX5_nameNow__X5_is _ (List.mem_of_getElem? (l := owX5_is) (i := 2) rfl)) rfl (fun _ => rfl) dX5_nameNow_257 260 rfl ?_
      refine q_iconst (v := 4) hC dX5_nameNow_260 rfl 261 rfl ?_
      refine q_iadd hC dX5_nameNow_261 262 rfl ?_
      refine r_callI hC (go_V (q := (RX5, TX5, 26)) (As := [.int ((M30 52 11) + (4 : Int32))]) (rest := []) hC (ctX5_look (zl z) g M30 ((M30 52 11) + (4 : Int32)) _ hF hw) 1 gX5_nameNow_X5_look rfl ⟨rfl, rfl⟩ hdV_X5_look ⟨Nat.le_of_ble_eq_true rfl, Nat.le_of_ble_eq_true rfl⟩ (obF52 hF) rfl rfl rfl (Nat.le_of_ble_eq_true rfl) dX5_nameNow_262) 265 rfl (fun r31 M32 hw => ?_)
      refine q_bipush (v := 107) hC dX5_nameNow_265 (by decide) 267 rfl ?_
      refine q_icmp_ne hC 275 dX5_nameNow_267 (by decide) 270 rfl hw (fun hw => ?_) (fun hw => ?_)
      · exact XX.sub [0] rfl (B275 M32 hw)
      · refine q_bipush (v := 10) hC dX5_nameNow_270 (by decide) 272 rfl ?_
        refine q_goto hC 298 dX5_nameNow_272 (by decide) ?_
        exact r_iret hR dX5_nameNow_298 hw
  have B205 : ∀ (M : MM), wX5_nameNow_205 Q M → XX z g Qf 1 205 [(0, .ref (gA g 52))] [] M := by
    intro M hw
    refine q_aload_n hC dX5_nameNow_205 0 rfl 206 rfl ?_
    refine q_iconst (v := 5) hC dX5_nameNow_206 rfl 207 rfl ?_
    refine q_bipush (v := 104) hC dX5_nameNow_207 (by decide) 209 rfl ?_
    refine q_bipush (v := 105) hC dX5_nameNow_209 (by decide) 211 rfl ?_
    refine q_bipush (v := 116) hC dX5_nameNow_211 (by decide) 213 rfl ?_
    refine q_bipush (v := 99) hC dX5_nameNow_213 (by decide) 215 rfl ?_
    refine r_callI hC (go_V (q := (RX5, TX5, 26)) (As := [.int 5, .int 104, .int 105, .int 116, .int 99]) (rest := []) hC (ctX5_is (zl z) g M 5 104 105 116 99 _ hF hw) 5 gX5_nameNow_X5_is rfl ⟨rfl, rfl⟩ hdV_X5_is ⟨Nat.le_of_ble_eq_true rfl, Nat.le_of_ble_eq_true rfl⟩ (obF52 hF) rfl rfl rfl (Nat.le_of_ble_eq_true rfl) dX5_nameNow_215) 218 rfl (fun r25 M26 hw => ?_)
    refine q_if_eq hC 239 dX5_nameNow_218 (by decide) 221 rfl hw (fun hw => ?_) (fun hw => ?_)
    · exact XX.sub [0] rfl (B239 M26 hw)
    · refine q_aload_n hC dX5_nameNow_221 0 rfl 222 rfl ?_
      refine q_aload_n hC dX5_nameNow_222 0 rfl 223 rfl ?_
      refine q_getI (C := RX5) (T := TX5) (N := 26) (ci := 5) hC inX5_nameNow_X5 (obF52 hF) rfl 11 (by decide) (uX5_nameNow__X5_is _ (List.mem_of_getElem? (l := owX5_is) (i := 2) rfl)) rfl (fun _ => rfl) dX5_nameNow_223 226 rfl ?_
      refine q_iconst (v := 4) hC dX5_nameNow_226 rfl 227 rfl ?_
      refine q_iadd hC dX5_nameNow_227 228 rfl ?_
      refine r_callI hC (go_V (q := (RX5, TX5, 26)) (As := [.int ((M26 52 11) + (4 : Int32))]) (rest := []) hC (ctX5_look (zl z) g M26 ((M26 52 11) + (4 : Int32)) _ hF hw) 1 gX5_nameNow_X5_look rfl ⟨rfl, rfl⟩ hdV_X5_look ⟨Nat.le_of_ble_eq_true rfl, Nat.le_of_ble_eq_true rfl⟩ (obF52 hF) rfl rfl rfl (Nat.le_of_ble_eq_true rfl) dX5_nameNow_228) 231 rfl (fun r27 M28 hw => ?_)
      refine q_bipush (v := 104) hC dX5_nameNow_231 (by decide) 233 rfl ?_
      refine q_icmp_ne hC 239 dX5_nameNow_233 (by decide) 236 rfl hw (fun hw => ?_) (fun hw => ?_)
      · exact XX.sub [0] rfl (B239 M28 hw)
      · refine q_bipush (v := 8) hC dX5_nameNow_236 (by decide) 238 rfl ?_
        exact r_iret hR dX5_nameNow_238 hw
  have B99 : ∀ (M : MM), wX5_nameNow_99 Q M → XX z g Qf 1 99 [(0, .ref (gA g 52))] [] M := by
    intro M hw
    refine q_aload_n hC dX5_nameNow_99 0 rfl 100 rfl ?_
    refine q_iconst (v := 4) hC dX5_nameNow_100 rfl 101 rfl ?_
    refine q_bipush (v := 112) hC dX5_nameNow_101 (by decide) 103 rfl ?_
    refine q_bipush (v := 108) hC dX5_nameNow_103 (by decide) 105 rfl ?_
    refine q_bipush (v := 97) hC dX5_nameNow_105 (by decide) 107 rfl ?_
    refine q_bipush (v := 121) hC dX5_nameNow_107 (by decide) 109 rfl ?_
    refine r_callI hC (go_V (q := (RX5, TX5, 26)) (As := [.int 4, .int 112, .int 108, .int 97, .int 121]) (rest := []) hC (ctX5_is (zl z) g M 4 112 108 97 121 _ hF hw) 5 gX5_nameNow_X5_is rfl ⟨rfl, rfl⟩ hdV_X5_is ⟨Nat.le_of_ble_eq_true rfl, Nat.le_of_ble_eq_true rfl⟩ (obF52 hF) rfl rfl rfl (Nat.le_of_ble_eq_true rfl) dX5_nameNow_109) 112 rfl (fun r13 M14 hw => ?_)
    refine q_if_eq hC 117 dX5_nameNow_112 (by decide) 115 rfl hw (fun hw => ?_) (fun hw => ?_)
    · refine q_aload_n hC dX5_nameNow_117 0 rfl 118 rfl ?_
      refine q_iconst (v := 4) hC dX5_nameNow_118 rfl 119 rfl ?_
      refine q_bipush (v := 119) hC dX5_nameNow_119 (by decide) 121 rfl ?_
      refine q_bipush (v := 105) hC dX5_nameNow_121 (by decide) 123 rfl ?_
      refine q_bipush (v := 110) hC dX5_nameNow_123 (by decide) 125 rfl ?_
      refine q_bipush (v := 100) hC dX5_nameNow_125 (by decide) 127 rfl ?_
      refine r_callI hC (go_V (q := (RX5, TX5, 26)) (As := [.int 4, .int 119, .int 105, .int 110, .int 100]) (rest := []) hC (ctX5_is (zl z) g M14 4 119 105 110 100 _ hF hw) 5 gX5_nameNow_X5_is rfl ⟨rfl, rfl⟩ hdV_X5_is ⟨Nat.le_of_ble_eq_true rfl, Nat.le_of_ble_eq_true rfl⟩ (obF52 hF) rfl rfl rfl (Nat.le_of_ble_eq_true rfl) dX5_nameNow_127) 130 rfl (fun r15 M16 hw => ?_)
      refine q_if_eq hC 135 dX5_nameNow_130 (by decide) 133 rfl hw (fun hw => ?_) (fun hw => ?_)
      · refine q_aload_n hC dX5_nameNow_135 0 rfl 136 rfl ?_
        refine q_iconst (v := 4) hC dX5_nameNow_136 rfl 137 rfl ?_
        refine q_bipush (v := 114) hC dX5_nameNow_137 (by decide) 139 rfl ?_
        refine q_bipush (v := 97) hC dX5_nameNow_139 (by decide) 141 rfl ?_
        refine q_bipush (v := 109) hC dX5_nameNow_141 (by decide) 143 rfl ?_
        refine q_bipush (v := 112) hC dX5_nameNow_143 (by decide) 145 rfl ?_
        refine r_callI hC (go_V (q := (RX5, TX5, 26)) (As := [.int 4, .int 114, .int 97, .int 109, .int 112]) (rest := []) hC (ctX5_is (zl z) g M16 4 114 97 109 112 _ hF hw) 5 gX5_nameNow_X5_is rfl ⟨rfl, rfl⟩ hdV_X5_is ⟨Nat.le_of_ble_eq_true rfl, Nat.le_of_ble_eq_true rfl⟩ (obF52 hF) rfl rfl rfl (Nat.le_of_ble_eq_true rfl) dX5_nameNow_145) 148 rfl (fun r17 M18 hw => ?_)
        refine q_if_eq hC 153 dX5_nameNow_148 (by decide) 151 rfl hw (fun hw => ?_) (fun hw => ?_)
        · refine q_aload_n hC dX5_nameNow_153 0 rfl 154 rfl ?_
          refine q_iconst (v := 3) hC dX5_nameNow_154 rfl 155 rfl ?_
          refine q_bipush (v := 103) hC dX5_nameNow_155 (by decide) 157 rfl ?_
          refine q_bipush (v := 97) hC dX5_nameNow_157 (by decide) 159 rfl ?_
          refine q_bipush (v := 112) hC dX5_nameNow_159 (by decide) 161 rfl ?_
          refine q_iconst (v := 0) hC dX5_nameNow_161 rfl 162 rfl ?_
          refine r_callI hC (go_V (q := (RX5, TX5, 26)) (As := [.int 3, .int 103, .int 97, .int 112, .int 0]) (rest := []) hC (ctX5_is (zl z) g M18 3 103 97 112 0 _ hF hw) 5 gX5_nameNow_X5_is rfl ⟨rfl, rfl⟩ hdV_X5_is ⟨Nat.le_of_ble_eq_true rfl, Nat.le_of_ble_eq_true rfl⟩ (obF52 hF) rfl rfl rfl (Nat.le_of_ble_eq_true rfl) dX5_nameNow_162) 165 rfl (fun r19 M20 hw => ?_)
          refine q_if_eq hC 171 dX5_nameNow_165 (by decide) 168 rfl hw (fun hw => ?_) (fun hw => ?_)
          · refine q_aload_n hC dX5_nameNow_171 0 rfl 172 rfl ?_
            refine q_iconst (v := 5) hC dX5_nameNow_172 rfl 173 rfl ?_
            refine q_bipush (v := 100) hC dX5_nameNow_173 (by decide) 175 rfl ?_
            refine q_bipush (v := 101) hC dX5_nameNow_175 (by decide) 177 rfl ?_
            refine q_bipush (v := 110) hC dX5_nameNow_177 (by decide) 179 rfl ?_
            refine q_bipush (v := 115) hC dX5_nameNow_179 (by decide) 181 rfl ?_
            refine r_callI hC (go_V (q := (RX5, TX5, 26)) (As := [.int 5, .int 100, .int 101, .int 110, .int 115]) (rest := []) hC (ctX5_is (zl z) g M20 5 100 101 110 115 _ hF hw) 5 gX5_nameNow_X5_is rfl ⟨rfl, rfl⟩ hdV_X5_is ⟨Nat.le_of_ble_eq_true rfl, Nat.le_of_ble_eq_true rfl⟩ (obF52 hF) rfl rfl rfl (Nat.le_of_ble_eq_true rfl) dX5_nameNow_181) 184 rfl (fun r21 M22 hw => ?_)
            refine q_if_eq hC 205 dX5_nameNow_184 (by decide) 187 rfl hw (fun hw => ?_) (fun hw => ?_)
            · exact XX.sub [0] rfl (B205 M22 hw)
            · refine q_aload_n hC dX5_nameNow_187 0 rfl 188 rfl ?_
              refine q_aload_n hC dX5_nameNow_188 0 rfl 189 rfl ?_
              refine q_getI (C := RX5) (T := TX5) (N := 26) (ci := 5) hC inX5_nameNow_X5 (obF52 hF) rfl 11 (by decide) (uX5_nameNow__X5_is _ (List.mem_of_getElem? (l := owX5_is) (i := 2) rfl)) rfl (fun _ => rfl) dX5_nameNow_189 192 rfl ?_
              refine q_iconst (v := 4) hC dX5_nameNow_192 rfl 193 rfl ?_
              refine q_iadd hC dX5_nameNow_193 194 rfl ?_
              refine r_callI hC (go_V (q := (RX5, TX5, 26)) (As := [.int ((M22 52 11) + (4 : Int32))]) (rest := []) hC (ctX5_look (zl z) g M22 ((M22 52 11) + (4 : Int32)) _ hF hw) 1 gX5_nameNow_X5_look rfl ⟨rfl, rfl⟩ hdV_X5_look ⟨Nat.le_of_ble_eq_true rfl, Nat.le_of_ble_eq_true rfl⟩ (obF52 hF) rfl rfl rfl (Nat.le_of_ble_eq_true rfl) dX5_nameNow_194) 197 rfl (fun r23 M24 hw => ?_)
              refine q_bipush (v := 101) hC dX5_nameNow_197 (by decide) 199 rfl ?_
              refine q_icmp_ne hC 205 dX5_nameNow_199 (by decide) 202 rfl hw (fun hw => ?_) (fun hw => ?_)
              · exact XX.sub [0] rfl (B205 M24 hw)
              · refine q_bipush (v := 7) hC dX5_nameNow_202 (by decide) 204 rfl ?_
                exact r_iret hR dX5_nameNow_204 hw
          · refine q_bipush (v := 6) hC dX5_nameNow_168 (by decide) 170 rfl ?_
            exact r_iret hR dX5_nameNow_170 hw
        · refine q_iconst (v := 5) hC dX5_nameNow_151 rfl 152 rfl ?_
          exact r_iret hR dX5_nameNow_152 hw
      · refine q_iconst (v := 4) hC dX5_nameNow_133 rfl 134 rfl ?_
        exact r_iret hR dX5_nameNow_134 hw
    · refine q_iconst (v := 3) hC dX5_nameNow_115 rfl 116 rfl ?_
      exact r_iret hR dX5_nameNow_116 hw
  have B49 : ∀ (M : MM), wX5_nameNow_49 Q M → XX z g Qf 1 49 [(0, .ref (gA g 52))] [] M := by
    intro M hw
    refine q_aload_n hC dX5_nameNow_49 0 rfl 50 rfl ?_
    refine q_iconst (v := 3) hC dX5_nameNow_50 rfl 51 rfl ?_
    refine q_bipush (v := 104) hC dX5_nameNow_51 (by decide) 53 rfl ?_
    refine q_bipush (v := 117) hC dX5_nameNow_53 (by decide) 55 rfl ?_
    refine q_bipush (v := 98) hC dX5_nameNow_55 (by decide) 57 rfl ?_
    refine q_iconst (v := 0) hC dX5_nameNow_57 rfl 58 rfl ?_
    refine r_callI hC (go_V (q := (RX5, TX5, 26)) (As := [.int 3, .int 104, .int 117, .int 98, .int 0]) (rest := []) hC (ctX5_is (zl z) g M 3 104 117 98 0 _ hF hw) 5 gX5_nameNow_X5_is rfl ⟨rfl, rfl⟩ hdV_X5_is ⟨Nat.le_of_ble_eq_true rfl, Nat.le_of_ble_eq_true rfl⟩ (obF52 hF) rfl rfl rfl (Nat.le_of_ble_eq_true rfl) dX5_nameNow_58) 61 rfl (fun r7 M8 hw => ?_)
    refine q_if_eq hC 66 dX5_nameNow_61 (by decide) 64 rfl hw (fun hw => ?_) (fun hw => ?_)
    · refine q_aload_n hC dX5_nameNow_66 0 rfl 67 rfl ?_
      refine q_iconst (v := 5) hC dX5_nameNow_67 rfl 68 rfl ?_
      refine q_bipush (v := 116) hC dX5_nameNow_68 (by decide) 70 rfl ?_
      refine q_bipush (v := 104) hC dX5_nameNow_70 (by decide) 72 rfl ?_
      refine q_bipush (v := 105) hC dX5_nameNow_72 (by decide) 74 rfl ?_
      refine q_bipush (v := 99) hC dX5_nameNow_74 (by decide) 76 rfl ?_
      refine r_callI hC (go_V (q := (RX5, TX5, 26)) (As := [.int 5, .int 116, .int 104, .int 105, .int 99]) (rest := []) hC (ctX5_is (zl z) g M8 5 116 104 105 99 _ hF hw) 5 gX5_nameNow_X5_is rfl ⟨rfl, rfl⟩ hdV_X5_is ⟨Nat.le_of_ble_eq_true rfl, Nat.le_of_ble_eq_true rfl⟩ (obF52 hF) rfl rfl rfl (Nat.le_of_ble_eq_true rfl) dX5_nameNow_76) 79 rfl (fun r9 M10 hw => ?_)
      refine q_if_eq hC 99 dX5_nameNow_79 (by decide) 82 rfl hw (fun hw => ?_) (fun hw => ?_)
      · exact XX.sub [0] rfl (B99 M10 hw)
      · refine q_aload_n hC dX5_nameNow_82 0 rfl 83 rfl ?_
        refine q_aload_n hC dX5_nameNow_83 0 rfl 84 rfl ?_
        refine q_getI (C := RX5) (T := TX5) (N := 26) (ci := 5) hC inX5_nameNow_X5 (obF52 hF) rfl 11 (by decide) (uX5_nameNow__X5_is _ (List.mem_of_getElem? (l := owX5_is) (i := 2) rfl)) rfl (fun _ => rfl) dX5_nameNow_84 87 rfl ?_
        refine q_iconst (v := 4) hC dX5_nameNow_87 rfl 88 rfl ?_
        refine q_iadd hC dX5_nameNow_88 89 rfl ?_
        refine r_callI hC (go_V (q := (RX5, TX5, 26)) (As := [.int ((M10 52 11) + (4 : Int32))]) (rest := []) hC (ctX5_look (zl z) g M10 ((M10 52 11) + (4 : Int32)) _ hF hw) 1 gX5_nameNow_X5_look rfl ⟨rfl, rfl⟩ hdV_X5_look ⟨Nat.le_of_ble_eq_true rfl, Nat.le_of_ble_eq_true rfl⟩ (obF52 hF) rfl rfl rfl (Nat.le_of_ble_eq_true rfl) dX5_nameNow_89) 92 rfl (fun r11 M12 hw => ?_)
        refine q_bipush (v := 107) hC dX5_nameNow_92 (by decide) 94 rfl ?_
        refine q_icmp_ne hC 99 dX5_nameNow_94 (by decide) 97 rfl hw (fun hw => ?_) (fun hw => ?_)
        · exact XX.sub [0] rfl (B99 M12 hw)
        · refine q_iconst (v := 2) hC dX5_nameNow_97 rfl 98 rfl ?_
          exact r_iret hR dX5_nameNow_98 hw
    · refine q_iconst (v := 1) hC dX5_nameNow_64 rfl 65 rfl ?_
      exact r_iret hR dX5_nameNow_65 hw
  refine q_aload_n hC dX5_nameNow_0 0 rfl 1 rfl ?_
  refine q_bipush (v := 6) hC dX5_nameNow_1 (by decide) 3 rfl ?_
  refine q_bipush (v := 108) hC dX5_nameNow_3 (by decide) 5 rfl ?_
  refine q_bipush (v := 101) hC dX5_nameNow_5 (by decide) 7 rfl ?_
  refine q_bipush (v := 110) hC dX5_nameNow_7 (by decide) 9 rfl ?_
  refine q_bipush (v := 103) hC dX5_nameNow_9 (by decide) 11 rfl ?_
  refine r_callI hC (go_V (q := (RX5, TX5, 26)) (As := [.int 6, .int 108, .int 101, .int 110, .int 103]) (rest := []) hC (ctX5_is (zl z) g M 6 108 101 110 103 _ hF hw) 5 gX5_nameNow_X5_is rfl ⟨rfl, rfl⟩ hdV_X5_is ⟨Nat.le_of_ble_eq_true rfl, Nat.le_of_ble_eq_true rfl⟩ (obF52 hF) rfl rfl rfl (Nat.le_of_ble_eq_true rfl) dX5_nameNow_11) 14 rfl (fun r1 M2 hw => ?_)
  refine q_if_eq hC 49 dX5_nameNow_14 (by decide) 17 rfl hw (fun hw => ?_) (fun hw => ?_)
  · exact XX.sub [0] rfl (B49 M2 hw)
  · refine q_aload_n hC dX5_nameNow_17 0 rfl 18 rfl ?_
    refine q_aload_n hC dX5_nameNow_18 0 rfl 19 rfl ?_
    refine q_getI (C := RX5) (T := TX5) (N := 26) (ci := 5) hC inX5_nameNow_X5 (obF52 hF) rfl 11 (by decide) (uX5_nameNow__X5_is _ (List.mem_of_getElem? (l := owX5_is) (i := 2) rfl)) rfl (fun _ => rfl) dX5_nameNow_19 22 rfl ?_
    refine q_iconst (v := 4) hC dX5_nameNow_22 rfl 23 rfl ?_
    refine q_iadd hC dX5_nameNow_23 24 rfl ?_
    refine r_callI hC (go_V (q := (RX5, TX5, 26)) (As := [.int ((M2 52 11) + (4 : Int32))]) (rest := []) hC (ctX5_look (zl z) g M2 ((M2 52 11) + (4 : Int32)) _ hF hw) 1 gX5_nameNow_X5_look rfl ⟨rfl, rfl⟩ hdV_X5_look ⟨Nat.le_of_ble_eq_true rfl, Nat.le_of_ble_eq_true rfl⟩ (obF52 hF) rfl rfl rfl (Nat.le_of_ble_eq_true rfl) dX5_nameNow_24) 27 rfl (fun r3 M4 hw => ?_)
    refine q_bipush (v := 116) hC dX5_nameNow_27 (by decide) 29 rfl ?_
    refine q_icmp_ne hC 49 dX5_nameNow_29 (by decide) 32 rfl hw (fun hw => ?_) (fun hw => ?_)
    · exact XX.sub [0] rfl (B49 M4 hw)
    · refine q_aload_n hC dX5_nameNow_32 0 rfl 33 rfl ?_
      refine q_aload_n hC dX5_nameNow_33 0 rfl 34 rfl ?_
      refine q_getI (C := RX5) (T := TX5) (N := 26) (ci := 5) hC inX5_nameNow_X5 (obF52 hF) rfl 11 (by decide) (uX5_nameNow__X5_is _ (List.mem_of_getElem? (l := owX5_is) (i := 2) rfl)) rfl (fun _ => rfl) dX5_nameNow_34 37 rfl ?_
      refine q_iconst (v := 5) hC dX5_nameNow_37 rfl 38 rfl ?_
      refine q_iadd hC dX5_nameNow_38 39 rfl ?_
      refine r_callI hC (go_V (q := (RX5, TX5, 26)) (As := [.int ((M4 52 11) + (5 : Int32))]) (rest := []) hC (ctX5_look (zl z) g M4 ((M4 52 11) + (5 : Int32)) _ hF hw) 1 gX5_nameNow_X5_look rfl ⟨rfl, rfl⟩ hdV_X5_look ⟨Nat.le_of_ble_eq_true rfl, Nat.le_of_ble_eq_true rfl⟩ (obF52 hF) rfl rfl rfl (Nat.le_of_ble_eq_true rfl) dX5_nameNow_39) 42 rfl (fun r5 M6 hw => ?_)
      refine q_bipush (v := 104) hC dX5_nameNow_42 (by decide) 44 rfl ?_
      refine q_icmp_ne hC 49 dX5_nameNow_44 (by decide) 47 rfl hw (fun hw => ?_) (fun hw => ?_)
      · exact XX.sub [0] rfl (B49 M6 hw)
      · refine q_iconst (v := 0) hC dX5_nameNow_47 rfl 48 rfl ?_
        exact r_iret hR dX5_nameNow_48 hw
theorem hdV_X5_needs : yX5_needs.cls = RX5 ∧ yX5_needs.cls ≠ "java/lang/invoke/MethodHandle" ∧ yX5_needs.cls ≠ "java/lang/invoke/VarHandle" ∧ (parseMethodDescriptor yX5_needs.desc).map (fun d => d.parameters.length) = some 2 := by decide +kernel
theorem inX5_next_X5 : ∀ w ∈ u_ws RX5 TX5 26, w ∈ wsX5_next := uX5_next__wsX50
set_option maxRecDepth 100000 in
set_option maxHeartbeats 4000000 in
theorem ctX5_next (l : Launch) (g : GG) (M : MM)  (Q : MM → Prop) (hF : ful5 g) (hw : wX5_next Q M ) : MV g l yX5_next wsX5_next (rmOf 1 25) [.ref (gA g 52)] M Q := by
  refine mk_MV (cc := cX5_next) (maxL := 2) (by decide) rfl (Nat.le_of_ble_eq_true rfl) ?_
  intro z Qf hC hR
  show XX z g Qf 2 0 [(0, .ref (gA g 52))] [] M
  have B260 : ∀ (M : MM) (p0 : Int32), wX5_next_260 Q M p0 → XX z g Qf 2 260 [(0, .ref (gA g 52))] [.int p0, .ref (gA g 52)] M := by
    intro M p0 hw
    refine q_iconst (v := 1) hC dX5_next_260 rfl 261 rfl ?_
    refine r_callV hC (go_V (q := (RX5, TX5, 26)) (As := [.int p0, .int 1]) (rest := []) hC (ctX5_needs (zl z) g M p0 1 _ hF hw) 2 gX5_next_X5_needs rfl ⟨rfl, rfl⟩ hdV_X5_needs ⟨Nat.le_of_ble_eq_true rfl, Nat.le_of_ble_eq_true rfl⟩ (obF52 hF) rfl rfl rfl (Nat.le_of_ble_eq_true rfl) dX5_next_261) 264 rfl (fun M27 hw => ?_)
    refine q_aload_n hC dX5_next_264 0 rfl 265 rfl ?_
    refine q_dup hC dX5_next_265 rfl 266 rfl ?_
    refine q_getI (C := RX5) (T := TX5) (N := 26) (ci := 5) hC inX5_next_X5 (obF52 hF) rfl 10 (by decide) (uX5_next__o _ (List.mem_of_getElem? (l := owX5_next) (i := 1) rfl)) rfl (fun _ => rfl) dX5_next_266 269 rfl ?_
    refine q_iconst (v := 1) hC dX5_next_269 rfl 270 rfl ?_
    refine q_iadd hC dX5_next_270 271 rfl ?_
    refine q_putI (C := RX5) (T := TX5) (N := 26) (ci := 5) hC inX5_next_X5 tyX5 tyX5_ok nmX5 (obF52 hF) rfl 10 (by decide) (uX5_next__o _ (List.mem_of_getElem? (l := owX5_next) (i := 1) rfl)) rfl rfl rfl (fun _ => Nat.le_of_ble_eq_true rfl) (fun _ => rfl) dX5_next_271 274 rfl (fun M28 eM28 => ?_)
    have hw := hw M28 eM28
    exact r_vret hR dX5_next_274 hw
  have B236 : ∀ (M : MM) (p0 : Int32), wX5_next_236 Q M p0 → XX z g Qf 2 236 [] [.int p0, .ref (gA g 52)] M := by
    intro M p0 hw
    refine q_iconst (v := 1) hC dX5_next_236 rfl 237 rfl ?_
    refine r_callV hC (go_V (q := (RX5, TX5, 26)) (As := [.int p0, .int 1]) (rest := []) hC (ctX5_needs (zl z) g M p0 1 _ hF hw) 2 gX5_next_X5_needs rfl ⟨rfl, rfl⟩ hdV_X5_needs ⟨Nat.le_of_ble_eq_true rfl, Nat.le_of_ble_eq_true rfl⟩ (obF52 hF) rfl rfl rfl (Nat.le_of_ble_eq_true rfl) dX5_next_237) 240 rfl (fun M31 hw => ?_)
    refine q_goto hC 274 dX5_next_240 (by decide) ?_
    exact r_vret hR dX5_next_274 hw
  have B201 : ∀ (K140 : MM → Prop) (hK140 : ∀ (M : MM) , K140 M → XX z g Qf 2 140 [(0, .ref (gA g 52))] [] M) (M : MM) (p0 : Int32), wX5_next_201 Q K140 M p0 → XX z g Qf 2 201 [(0, .ref (gA g 52))] [.int p0, .ref (gA g 52)] M := by
    intro K140 hK140 M p0 hw
    refine q_putI (C := RX5) (T := TX5) (N := 26) (ci := 5) hC inX5_next_X5 tyX5 tyX5_ok nmX5 (obF52 hF) rfl 13 (by decide) (uX5_next__o _ (List.mem_of_getElem? (l := owX5_next) (i := 7) rfl)) rfl rfl rfl (fun _ => Nat.le_of_ble_eq_true rfl) (fun _ => rfl) dX5_next_201 204 rfl (fun M29 eM29 => ?_)
    have hw := hw M29 eM29
    refine q_aload_n hC dX5_next_204 0 rfl 205 rfl ?_
    refine q_dup hC dX5_next_205 rfl 206 rfl ?_
    refine q_getI (C := RX5) (T := TX5) (N := 26) (ci := 5) hC inX5_next_X5 (obF52 hF) rfl 10 (by decide) (uX5_next__o _ (List.mem_of_getElem? (l := owX5_next) (i := 1) rfl)) rfl (fun _ => rfl) dX5_next_206 209 rfl ?_
    refine q_iconst (v := 1) hC dX5_next_209 rfl 210 rfl ?_
    refine q_iadd hC dX5_next_210 211 rfl ?_
    refine q_putI (C := RX5) (T := TX5) (N := 26) (ci := 5) hC inX5_next_X5 tyX5 tyX5_ok nmX5 (obF52 hF) rfl 10 (by decide) (uX5_next__o _ (List.mem_of_getElem? (l := owX5_next) (i := 1) rfl)) rfl rfl rfl (fun _ => Nat.le_of_ble_eq_true rfl) (fun _ => rfl) dX5_next_211 214 rfl (fun M30 eM30 => ?_)
    have hw := hw M30 eM30
    refine q_goto hC 140 dX5_next_214 (by decide) ?_
    exact XX.sub [0] rfl (hK140 M30 hw)
  have B140 : ∀ (n : Nat) (M : MM) , wX5_next_140 Q n M → XX z g Qf 2 140 [(0, .ref (gA g 52))] [] M := by
    intro n
    induction n with
    | zero =>
      intro M hw
      exact hw.elim
    | succ n ih =>
      intro M hw
      refine q_aload_n hC dX5_next_140 0 rfl 141 rfl ?_
      refine q_aload_n hC dX5_next_141 0 rfl 142 rfl ?_
      refine q_getI (C := RX5) (T := TX5) (N := 26) (ci := 5) hC inX5_next_X5 (obF52 hF) rfl 10 (by decide) (uX5_next__o _ (List.mem_of_getElem? (l := owX5_next) (i := 1) rfl)) rfl (fun _ => rfl) dX5_next_142 145 rfl ?_
      refine r_callI hC (go_V (q := (RX5, TX5, 26)) (As := [.int (M 52 10)]) (rest := []) hC (ctX5_look (zl z) g M (M 52 10) _ hF hw) 1 gX5_next_X5_look rfl ⟨rfl, rfl⟩ hdV_X5_look ⟨Nat.le_of_ble_eq_true rfl, Nat.le_of_ble_eq_true rfl⟩ (obF52 hF) rfl rfl rfl (Nat.le_of_ble_eq_true rfl) dX5_next_145) 148 rfl (fun r21 M22 hw => ?_)
      refine q_i2l hC dX5_next_148 149 rfl ?_
      refine q_ldc2 (v := 48) hC (uX5_next__o _ (List.mem_of_getElem? (l := owX5_next) (i := 5) rfl)) dX5_next_149 152 rfl ?_
      refine q_ldc2 (v := 57) hC (uX5_next__o _ (List.mem_of_getElem? (l := owX5_next) (i := 6) rfl)) dX5_next_152 155 rfl ?_
      refine r_callI hC (go_T (As := [.long (r21.toInt64), .long 48, .long 57]) (rest := []) hC (ctX5_in (zl z) g M22 (r21.toInt64) 48 57 _ hw) 3 gX5_next_X5_in rfl ⟨rfl, rfl⟩ hdT_X5_in ⟨Nat.le_of_ble_eq_true rfl, Nat.le_of_ble_eq_true rfl⟩ rfl rfl (Nat.le_of_ble_eq_true rfl) dX5_next_155) 158 rfl (fun r23 M24 hw => ?_)
      refine q_if_eq hC 217 dX5_next_158 (by decide) 161 rfl hw (fun hw => ?_) (fun hw => ?_)
      · refine q_aload_n hC dX5_next_217 0 rfl 218 rfl ?_
        refine q_aload_n hC dX5_next_218 0 rfl 219 rfl ?_
        refine q_getI (C := RX5) (T := TX5) (N := 26) (ci := 5) hC inX5_next_X5 (obF52 hF) rfl 10 (by decide) (uX5_next__o _ (List.mem_of_getElem? (l := owX5_next) (i := 1) rfl)) rfl (fun _ => rfl) dX5_next_219 222 rfl ?_
        refine q_aload_n hC dX5_next_222 0 rfl 223 rfl ?_
        refine q_getI (C := RX5) (T := TX5) (N := 26) (ci := 5) hC inX5_next_X5 (obF52 hF) rfl 11 (by decide) (uX5_next__X5_needs _ (List.mem_of_getElem? (l := owX5_needs) (i := 2) rfl)) rfl (fun _ => rfl) dX5_next_223 226 rfl ?_
        refine q_isub hC dX5_next_226 227 rfl ?_
        refine q_iconst (v := 4) hC dX5_next_227 rfl 228 rfl ?_
        refine q_icmp_gt hC 235 dX5_next_228 (by decide) 231 rfl hw (fun hw => ?_) (fun hw => ?_)
        · refine q_iconst (v := 0) hC dX5_next_235 rfl 236 rfl ?_
          exact XX.sub [] rfl (B236 M24 0 hw)
        · refine q_iconst (v := 1) hC dX5_next_231 rfl 232 rfl ?_
          refine q_goto hC 236 dX5_next_232 (by decide) ?_
          exact XX.sub [] rfl (B236 M24 1 hw)
      · refine q_aload_n hC dX5_next_161 0 rfl 162 rfl ?_
        refine q_aload_n hC dX5_next_162 0 rfl 163 rfl ?_
        refine q_getI (C := RX5) (T := TX5) (N := 26) (ci := 5) hC inX5_next_X5 (obF52 hF) rfl 10 (by decide) (uX5_next__o _ (List.mem_of_getElem? (l := owX5_next) (i := 1) rfl)) rfl (fun _ => rfl) dX5_next_163 166 rfl ?_
        refine q_aload_n hC dX5_next_166 0 rfl 167 rfl ?_
        refine q_getI (C := RX5) (T := TX5) (N := 26) (ci := 5) hC inX5_next_X5 (obF52 hF) rfl 11 (by decide) (uX5_next__X5_needs _ (List.mem_of_getElem? (l := owX5_needs) (i := 2) rfl)) rfl (fun _ => rfl) dX5_next_167 170 rfl ?_
        refine q_isub hC dX5_next_170 171 rfl ?_
        refine q_iconst (v := 4) hC dX5_next_171 rfl 172 rfl ?_
        refine q_icmp_ge hC 197 dX5_next_172 (by decide) 175 rfl hw (fun hw => ?_) (fun hw => ?_)
        · refine q_aload_n hC dX5_next_197 0 rfl 198 rfl ?_
          refine q_getI (C := RX5) (T := TX5) (N := 26) (ci := 5) hC inX5_next_X5 (obF52 hF) rfl 13 (by decide) (uX5_next__o _ (List.mem_of_getElem? (l := owX5_next) (i := 7) rfl)) rfl (fun _ => rfl) dX5_next_198 201 rfl ?_
          exact XX.sub [0] rfl (B201 _ (fun M hw => ih M hw) M24 (M24 52 13) hw)
        · refine q_bipush (v := 10) hC dX5_next_175 (by decide) 177 rfl ?_
          refine q_aload_n hC dX5_next_177 0 rfl 178 rfl ?_
          refine q_getI (C := RX5) (T := TX5) (N := 26) (ci := 5) hC inX5_next_X5 (obF52 hF) rfl 13 (by decide) (uX5_next__o _ (List.mem_of_getElem? (l := owX5_next) (i := 7) rfl)) rfl (fun _ => rfl) dX5_next_178 181 rfl ?_
          refine q_imul hC dX5_next_181 182 rfl ?_
          refine q_aload_n hC dX5_next_182 0 rfl 183 rfl ?_
          refine q_aload_n hC dX5_next_183 0 rfl 184 rfl ?_
          refine q_getI (C := RX5) (T := TX5) (N := 26) (ci := 5) hC inX5_next_X5 (obF52 hF) rfl 10 (by decide) (uX5_next__o _ (List.mem_of_getElem? (l := owX5_next) (i := 1) rfl)) rfl (fun _ => rfl) dX5_next_184 187 rfl ?_
          refine r_callI hC (go_V (q := (RX5, TX5, 26)) (As := [.int (M24 52 10)]) (rest := [.int ((10 : Int32) * (M24 52 13)), .ref (gA g 52)]) hC (ctX5_look (zl z) g M24 (M24 52 10) _ hF hw) 1 gX5_next_X5_look rfl ⟨rfl, rfl⟩ hdV_X5_look ⟨Nat.le_of_ble_eq_true rfl, Nat.le_of_ble_eq_true rfl⟩ (obF52 hF) rfl rfl rfl (Nat.le_of_ble_eq_true rfl) dX5_next_187) 190 rfl (fun r25 M26 hw => ?_)
          refine q_iadd hC dX5_next_190 191 rfl ?_
          refine q_bipush (v := 48) hC dX5_next_191 (by decide) 193 rfl ?_
          refine q_isub hC dX5_next_193 194 rfl ?_
          refine q_goto hC 201 dX5_next_194 (by decide) ?_
          exact XX.sub [0] rfl (B201 _ (fun M hw => ih M hw) M26 ((((10 : Int32) * (M24 52 13)) + r25) - (48 : Int32)) hw)
  have B82 : ∀ (n : Nat) (M : MM) , wX5_next_82 Q n M → XX z g Qf 2 82 [(0, .ref (gA g 52))] [] M := by
    intro n
    induction n with
    | zero =>
      intro M hw
      exact hw.elim
    | succ n ih =>
      intro M hw
      refine q_aload_n hC dX5_next_82 0 rfl 83 rfl ?_
      refine q_aload_n hC dX5_next_83 0 rfl 84 rfl ?_
      refine q_getI (C := RX5) (T := TX5) (N := 26) (ci := 5) hC inX5_next_X5 (obF52 hF) rfl 10 (by decide) (uX5_next__o _ (List.mem_of_getElem? (l := owX5_next) (i := 1) rfl)) rfl (fun _ => rfl) dX5_next_84 87 rfl ?_
      refine r_callI hC (go_V (q := (RX5, TX5, 26)) (As := [.int (M 52 10)]) (rest := []) hC (ctX5_look (zl z) g M (M 52 10) _ hF hw) 1 gX5_next_X5_look rfl ⟨rfl, rfl⟩ hdV_X5_look ⟨Nat.le_of_ble_eq_true rfl, Nat.le_of_ble_eq_true rfl⟩ (obF52 hF) rfl rfl rfl (Nat.le_of_ble_eq_true rfl) dX5_next_87) 90 rfl (fun r16 M17 hw => ?_)
      refine q_i2l hC dX5_next_90 91 rfl ?_
      refine q_ldc2 (v := 97) hC (uX5_next__o _ (List.mem_of_getElem? (l := owX5_next) (i := 3) rfl)) dX5_next_91 94 rfl ?_
      refine q_ldc2 (v := 122) hC (uX5_next__o _ (List.mem_of_getElem? (l := owX5_next) (i := 4) rfl)) dX5_next_94 97 rfl ?_
      refine r_callI hC (go_T (As := [.long (r16.toInt64), .long 97, .long 122]) (rest := []) hC (ctX5_in (zl z) g M17 (r16.toInt64) 97 122 _ hw) 3 gX5_next_X5_in rfl ⟨rfl, rfl⟩ hdT_X5_in ⟨Nat.le_of_ble_eq_true rfl, Nat.le_of_ble_eq_true rfl⟩ rfl rfl (Nat.le_of_ble_eq_true rfl) dX5_next_97) 100 rfl (fun r18 M19 hw => ?_)
      refine q_if_eq hC 274 dX5_next_100 (by decide) 103 rfl hw (fun hw => ?_) (fun hw => ?_)
      · exact r_vret hR dX5_next_274 hw
      · refine q_aload_n hC dX5_next_103 0 rfl 104 rfl ?_
        refine q_dup hC dX5_next_104 rfl 105 rfl ?_
        refine q_getI (C := RX5) (T := TX5) (N := 26) (ci := 5) hC inX5_next_X5 (obF52 hF) rfl 10 (by decide) (uX5_next__o _ (List.mem_of_getElem? (l := owX5_next) (i := 1) rfl)) rfl (fun _ => rfl) dX5_next_105 108 rfl ?_
        refine q_iconst (v := 1) hC dX5_next_108 rfl 109 rfl ?_
        refine q_iadd hC dX5_next_109 110 rfl ?_
        refine q_putI (C := RX5) (T := TX5) (N := 26) (ci := 5) hC inX5_next_X5 tyX5 tyX5_ok nmX5 (obF52 hF) rfl 10 (by decide) (uX5_next__o _ (List.mem_of_getElem? (l := owX5_next) (i := 1) rfl)) rfl rfl rfl (fun _ => Nat.le_of_ble_eq_true rfl) (fun _ => rfl) dX5_next_110 113 rfl (fun M20 eM20 => ?_)
        have hw := hw M20 eM20
        refine q_goto hC 82 dX5_next_113 (by decide) ?_
        exact XX.sub [0] rfl (ih M20 hw)
  have B8 : ∀ (n : Nat) (M : MM) , wX5_next_8 Q n M → XX z g Qf 2 8 [(0, .ref (gA g 52))] [] M := by
    intro n
    induction n with
    | zero =>
      intro M hw
      exact hw.elim
    | succ n ih =>
      intro M hw
      refine q_aload_n hC dX5_next_8 0 rfl 9 rfl ?_
      refine q_aload_n hC dX5_next_9 0 rfl 10 rfl ?_
      refine q_getI (C := RX5) (T := TX5) (N := 26) (ci := 5) hC inX5_next_X5 (obF52 hF) rfl 10 (by decide) (uX5_next__o _ (List.mem_of_getElem? (l := owX5_next) (i := 1) rfl)) rfl (fun _ => rfl) dX5_next_10 13 rfl ?_
      refine r_callI hC (go_V (q := (RX5, TX5, 26)) (As := [.int (M 52 10)]) (rest := []) hC (ctX5_look (zl z) g M (M 52 10) _ hF hw) 1 gX5_next_X5_look rfl ⟨rfl, rfl⟩ hdV_X5_look ⟨Nat.le_of_ble_eq_true rfl, Nat.le_of_ble_eq_true rfl⟩ (obF52 hF) rfl rfl rfl (Nat.le_of_ble_eq_true rfl) dX5_next_13) 16 rfl (fun r1 M2 hw => ?_)
      refine q_bipush (v := 32) hC dX5_next_16 (by decide) 18 rfl ?_
      refine q_icmp_ne hC 34 dX5_next_18 (by decide) 21 rfl hw (fun hw => ?_) (fun hw => ?_)
      · refine q_aload_n hC dX5_next_34 0 rfl 35 rfl ?_
        refine q_aload_n hC dX5_next_35 0 rfl 36 rfl ?_
        refine q_getI (C := RX5) (T := TX5) (N := 26) (ci := 5) hC inX5_next_X5 (obF52 hF) rfl 10 (by decide) (uX5_next__o _ (List.mem_of_getElem? (l := owX5_next) (i := 1) rfl)) rfl (fun _ => rfl) dX5_next_36 39 rfl ?_
        refine q_putI (C := RX5) (T := TX5) (N := 26) (ci := 5) hC inX5_next_X5 tyX5 tyX5_ok nmX5 (obF52 hF) rfl 11 (by decide) (uX5_next__X5_needs _ (List.mem_of_getElem? (l := owX5_needs) (i := 2) rfl)) rfl rfl rfl (fun _ => Nat.le_of_ble_eq_true rfl) (fun _ => rfl) dX5_next_39 42 rfl (fun M3 eM3 => ?_)
        have hw := hw M3 eM3
        refine q_aload_n hC dX5_next_42 0 rfl 43 rfl ?_
        refine q_aload_n hC dX5_next_43 0 rfl 44 rfl ?_
        refine q_getI (C := RX5) (T := TX5) (N := 26) (ci := 5) hC inX5_next_X5 (obF52 hF) rfl 10 (by decide) (uX5_next__o _ (List.mem_of_getElem? (l := owX5_next) (i := 1) rfl)) rfl (fun _ => rfl) dX5_next_44 47 rfl ?_
        refine r_callI hC (go_V (q := (RX5, TX5, 26)) (As := [.int (M3 52 10)]) (rest := []) hC (ctX5_look (zl z) g M3 (M3 52 10) _ hF hw) 1 gX5_next_X5_look rfl ⟨rfl, rfl⟩ hdV_X5_look ⟨Nat.le_of_ble_eq_true rfl, Nat.le_of_ble_eq_true rfl⟩ (obF52 hF) rfl rfl rfl (Nat.le_of_ble_eq_true rfl) dX5_next_47) 50 rfl (fun r4 M5 hw => ?_)
        refine q_istore_n (L' := [(1, .int r4), (0, .ref (gA g 52))]) hC dX5_next_50 (by decide) rfl 51 rfl ?_
        refine q_iload_n hC dX5_next_51 0 rfl 52 rfl ?_
        refine q_if_ge hC 63 dX5_next_52 (by decide) 55 rfl hw (fun hw => ?_) (fun hw => ?_)
        · refine q_iload_n hC dX5_next_63 0 rfl 64 rfl ?_
          refine q_i2l hC dX5_next_64 65 rfl ?_
          refine q_ldc2 (v := 97) hC (uX5_next__o _ (List.mem_of_getElem? (l := owX5_next) (i := 3) rfl)) dX5_next_65 68 rfl ?_
          refine q_ldc2 (v := 122) hC (uX5_next__o _ (List.mem_of_getElem? (l := owX5_next) (i := 4) rfl)) dX5_next_68 71 rfl ?_
          refine r_callI hC (go_T (As := [.long (r4.toInt64), .long 97, .long 122]) (rest := []) hC (ctX5_in (zl z) g M5 (r4.toInt64) 97 122 _ hw) 3 gX5_next_X5_in rfl ⟨rfl, rfl⟩ hdT_X5_in ⟨Nat.le_of_ble_eq_true rfl, Nat.le_of_ble_eq_true rfl⟩ rfl rfl (Nat.le_of_ble_eq_true rfl) dX5_next_71) 74 rfl (fun r6 M7 hw => ?_)
          refine q_if_eq hC 116 dX5_next_74 (by decide) 77 rfl hw (fun hw => ?_) (fun hw => ?_)
          · refine q_iload_n hC dX5_next_116 0 rfl 117 rfl ?_
            refine q_i2l hC dX5_next_117 118 rfl ?_
            refine q_ldc2 (v := 48) hC (uX5_next__o _ (List.mem_of_getElem? (l := owX5_next) (i := 5) rfl)) dX5_next_118 121 rfl ?_
            refine q_ldc2 (v := 57) hC (uX5_next__o _ (List.mem_of_getElem? (l := owX5_next) (i := 6) rfl)) dX5_next_121 124 rfl ?_
            refine r_callI hC (go_T (As := [.long (r4.toInt64), .long 48, .long 57]) (rest := []) hC (ctX5_in (zl z) g M7 (r4.toInt64) 48 57 _ hw) 3 gX5_next_X5_in rfl ⟨rfl, rfl⟩ hdT_X5_in ⟨Nat.le_of_ble_eq_true rfl, Nat.le_of_ble_eq_true rfl⟩ rfl rfl (Nat.le_of_ble_eq_true rfl) dX5_next_124) 127 rfl (fun r8 M9 hw => ?_)
            refine q_if_eq hC 243 dX5_next_127 (by decide) 130 rfl hw (fun hw => ?_) (fun hw => ?_)
            · refine q_aload_n hC dX5_next_243 1 rfl 244 rfl ?_
              refine q_iconst (v := 3) hC dX5_next_244 rfl 245 rfl ?_
              refine q_putI (C := RX5) (T := TX5) (N := 26) (ci := 5) hC inX5_next_X5 tyX5 tyX5_ok nmX5 (obF52 hF) rfl 12 (by decide) (uX5_next__o _ (List.mem_of_getElem? (l := owX5_next) (i := 2) rfl)) rfl rfl rfl (fun _ => Nat.le_of_ble_eq_true rfl) (fun _ => rfl) dX5_next_245 248 rfl (fun M10 eM10 => ?_)
              have hw := hw M10 eM10
              refine q_aload_n hC dX5_next_248 1 rfl 249 rfl ?_
              refine q_iload_n hC dX5_next_249 0 rfl 250 rfl ?_
              refine q_bipush (v := 59) hC dX5_next_250 (by decide) 252 rfl ?_
              refine q_icmp_ne hC 259 dX5_next_252 (by decide) 255 rfl hw (fun hw => ?_) (fun hw => ?_)
              · refine q_iconst (v := 0) hC dX5_next_259 rfl 260 rfl ?_
                exact XX.sub [1] rfl (B260 M10 0 hw)
              · refine q_iconst (v := 1) hC dX5_next_255 rfl 256 rfl ?_
                refine q_goto hC 260 dX5_next_256 (by decide) ?_
                exact XX.sub [1] rfl (B260 M10 1 hw)
            · refine q_aload_n hC dX5_next_130 1 rfl 131 rfl ?_
              refine q_iconst (v := 2) hC dX5_next_131 rfl 132 rfl ?_
              refine q_putI (C := RX5) (T := TX5) (N := 26) (ci := 5) hC inX5_next_X5 tyX5 tyX5_ok nmX5 (obF52 hF) rfl 12 (by decide) (uX5_next__o _ (List.mem_of_getElem? (l := owX5_next) (i := 2) rfl)) rfl rfl rfl (fun _ => Nat.le_of_ble_eq_true rfl) (fun _ => rfl) dX5_next_132 135 rfl (fun M11 eM11 => ?_)
              have hw := hw M11 eM11
              refine q_aload_n hC dX5_next_135 1 rfl 136 rfl ?_
              refine q_iconst (v := 0) hC dX5_next_136 rfl 137 rfl ?_
              refine q_putI (C := RX5) (T := TX5) (N := 26) (ci := 5) hC inX5_next_X5 tyX5 tyX5_ok nmX5 (obF52 hF) rfl 13 (by decide) (uX5_next__o _ (List.mem_of_getElem? (l := owX5_next) (i := 7) rfl)) rfl rfl rfl (fun _ => Nat.le_of_ble_eq_true rfl) (fun _ => rfl) dX5_next_137 140 rfl (fun M12 eM12 => ?_)
              have hw := hw M12 eM12
              obtain ⟨n0, hw⟩ := hw
              exact XX.sub [1] rfl (B140 n0 M12 hw)
          · refine q_aload_n hC dX5_next_77 1 rfl 78 rfl ?_
            refine q_iconst (v := 1) hC dX5_next_78 rfl 79 rfl ?_
            refine q_putI (C := RX5) (T := TX5) (N := 26) (ci := 5) hC inX5_next_X5 tyX5 tyX5_ok nmX5 (obF52 hF) rfl 12 (by decide) (uX5_next__o _ (List.mem_of_getElem? (l := owX5_next) (i := 2) rfl)) rfl rfl rfl (fun _ => Nat.le_of_ble_eq_true rfl) (fun _ => rfl) dX5_next_79 82 rfl (fun M13 eM13 => ?_)
            have hw := hw M13 eM13
            obtain ⟨n0, hw⟩ := hw
            exact XX.sub [1] rfl (B82 n0 M13 hw)
        · refine q_aload_n hC dX5_next_55 1 rfl 56 rfl ?_
          refine q_iconst (v := 0) hC dX5_next_56 rfl 57 rfl ?_
          refine q_putI (C := RX5) (T := TX5) (N := 26) (ci := 5) hC inX5_next_X5 tyX5 tyX5_ok nmX5 (obF52 hF) rfl 12 (by decide) (uX5_next__o _ (List.mem_of_getElem? (l := owX5_next) (i := 2) rfl)) rfl rfl rfl (fun _ => Nat.le_of_ble_eq_true rfl) (fun _ => rfl) dX5_next_57 60 rfl (fun M14 eM14 => ?_)
          have hw := hw M14 eM14
          refine q_goto hC 274 dX5_next_60 (by decide) ?_
          exact r_vret hR dX5_next_274 hw
      · refine q_aload_n hC dX5_next_21 0 rfl 22 rfl ?_
        refine q_dup hC dX5_next_22 rfl 23 rfl ?_
        refine q_getI (C := RX5) (T := TX5) (N := 26) (ci := 5) hC inX5_next_X5 (obF52 hF) rfl 10 (by decide) (uX5_next__o _ (List.mem_of_getElem? (l := owX5_next) (i := 1) rfl)) rfl (fun _ => rfl) dX5_next_23 26 rfl ?_
        refine q_iconst (v := 1) hC dX5_next_26 rfl 27 rfl ?_
        refine q_iadd hC dX5_next_27 28 rfl ?_
        refine q_putI (C := RX5) (T := TX5) (N := 26) (ci := 5) hC inX5_next_X5 tyX5 tyX5_ok nmX5 (obF52 hF) rfl 10 (by decide) (uX5_next__o _ (List.mem_of_getElem? (l := owX5_next) (i := 1) rfl)) rfl rfl rfl (fun _ => Nat.le_of_ble_eq_true rfl) (fun _ => rfl) dX5_next_28 31 rfl (fun M15 eM15 => ?_)
        have hw := hw M15 eM15
        refine q_goto hC 8 dX5_next_31 (by decide) ?_
        exact XX.sub [0] rfl (ih M15 hw)
  refine q_aload_n hC dX5_next_0 0 rfl 1 rfl ?_
  refine q_getI (C := RX5) (T := TX5) (N := 26) (ci := 5) hC inX5_next_X5 (obF52 hF) rfl 14 (by decide) (uX5_next__X5_needs _ (List.mem_of_getElem? (l := owX5_needs) (i := 1) rfl)) rfl (fun _ => rfl) dX5_next_1 4 rfl ?_
  refine q_if_le hC 8 dX5_next_4 (by decide) 7 rfl hw (fun hw => ?_) (fun hw => ?_)
  · obtain ⟨n0, hw⟩ := hw
    exact XX.sub [0] rfl (B8 n0 M hw)
  · exact r_vret hR dX5_next_7 hw
theorem hdV_X5_next : yX5_next.cls = RX5 ∧ yX5_next.cls ≠ "java/lang/invoke/MethodHandle" ∧ yX5_next.cls ≠ "java/lang/invoke/VarHandle" ∧ (parseMethodDescriptor yX5_next.desc).map (fun d => d.parameters.length) = some 0 := by decide +kernel
theorem inX5_readNumber_X5 : ∀ w ∈ u_ws RX5 TX5 26, w ∈ wsX5_readNumber := uX5_readNumber__wsX50
set_option maxRecDepth 100000 in
set_option maxHeartbeats 4000000 in
theorem ctX5_readNumber (l : Launch) (g : GG) (M : MM) (v1 : Int32) (v2 : Int32) (Q : Int32 → MM → Prop) (hF : ful5 g) (hw : wX5_readNumber Q M v1 v2) : MI g l yX5_readNumber wsX5_readNumber (rmOf 2 46) [.ref (gA g 52), .int v1, .int v2] M Q := by
  refine mk_MI (cc := cX5_readNumber) (maxL := 4) (by decide) rfl (Nat.le_of_ble_eq_true rfl) ?_
  intro z Qf hC hR
  show XX z g Qf 4 0 [(0, .ref (gA g 52)), (1, .int v1), (2, .int v2)] [] M
  have B49 : ∀ (M : MM), wX5_readNumber_49 Q v1 v2 M → XX z g Qf 4 49 [(0, .ref (gA g 52))] [] M := by
    intro M hw
    refine q_aload_n hC dX5_readNumber_49 0 rfl 50 rfl ?_
    refine q_getI (C := RX5) (T := TX5) (N := 26) (ci := 5) hC inX5_readNumber_X5 (obF52 hF) rfl 13 (by decide) (uX5_readNumber__X5_next _ (List.mem_of_getElem? (l := owX5_next) (i := 7) rfl)) rfl (fun _ => rfl) dX5_readNumber_50 53 rfl ?_
    refine q_istore_n (L' := [(3, .int (M 52 13)), (0, .ref (gA g 52))]) hC dX5_readNumber_53 (by decide) rfl 54 rfl ?_
    refine q_aload_n hC dX5_readNumber_54 1 rfl 55 rfl ?_
    refine r_callV hC (go_V (q := (RX5, TX5, 26)) (As := []) (rest := []) hC (ctX5_next (zl z) g M _ hF hw) 0 gX5_readNumber_X5_next rfl ⟨rfl, rfl⟩ hdV_X5_next ⟨Nat.le_of_ble_eq_true rfl, Nat.le_of_ble_eq_true rfl⟩ (obF52 hF) rfl rfl rfl (Nat.le_of_ble_eq_true rfl) dX5_readNumber_55) 58 rfl (fun M5 hw => ?_)
    refine q_iload_n hC dX5_readNumber_58 0 rfl 59 rfl ?_
    exact r_iret hR dX5_readNumber_59 hw
  have B25 : ∀ (M : MM), wX5_readNumber_25 Q v1 v2 M → XX z g Qf 4 25 [(0, .ref (gA g 52)), (1, .int v1), (2, .int v2)] [] M := by
    intro M hw
    refine q_aload_n hC dX5_readNumber_25 0 rfl 26 rfl ?_
    refine q_getI (C := RX5) (T := TX5) (N := 26) (ci := 5) hC inX5_readNumber_X5 (obF52 hF) rfl 14 (by decide) (uX5_readNumber__X5_needs _ (List.mem_of_getElem? (l := owX5_needs) (i := 1) rfl)) rfl (fun _ => rfl) dX5_readNumber_26 29 rfl ?_
    refine q_if_ne hC 49 dX5_readNumber_29 (by decide) 32 rfl hw (fun hw => ?_) (fun hw => ?_)
    · exact XX.sub [0] rfl (B49 M hw)
    · refine q_aload_n hC dX5_readNumber_32 0 rfl 33 rfl ?_
      refine q_aload_n hC dX5_readNumber_33 0 rfl 34 rfl ?_
      refine q_getI (C := RX5) (T := TX5) (N := 26) (ci := 5) hC inX5_readNumber_X5 (obF52 hF) rfl 13 (by decide) (uX5_readNumber__X5_next _ (List.mem_of_getElem? (l := owX5_next) (i := 7) rfl)) rfl (fun _ => rfl) dX5_readNumber_34 37 rfl ?_
      refine q_i2l hC dX5_readNumber_37 38 rfl ?_
      refine q_iload_n hC dX5_readNumber_38 1 rfl 39 rfl ?_
      refine q_i2l hC dX5_readNumber_39 40 rfl ?_
      refine q_iload_n hC dX5_readNumber_40 2 rfl 41 rfl ?_
      refine q_i2l hC dX5_readNumber_41 42 rfl ?_
      refine r_callI hC (go_T (As := [.long ((M 52 13).toInt64), .long (v1.toInt64), .long (v2.toInt64)]) (rest := [.ref (gA g 52)]) hC (ctX5_in (zl z) g M ((M 52 13).toInt64) (v1.toInt64) (v2.toInt64) _ hw) 3 gX5_readNumber_X5_in rfl ⟨rfl, rfl⟩ hdT_X5_in ⟨Nat.le_of_ble_eq_true rfl, Nat.le_of_ble_eq_true rfl⟩ rfl rfl (Nat.le_of_ble_eq_true rfl) dX5_readNumber_42) 45 rfl (fun r2 M3 hw => ?_)
      refine q_iconst (v := 3) hC dX5_readNumber_45 rfl 46 rfl ?_
      refine r_callV hC (go_V (q := (RX5, TX5, 26)) (As := [.int r2, .int 3]) (rest := []) hC (ctX5_needs (zl z) g M3 r2 3 _ hF hw) 2 gX5_readNumber_X5_needs rfl ⟨rfl, rfl⟩ hdV_X5_needs ⟨Nat.le_of_ble_eq_true rfl, Nat.le_of_ble_eq_true rfl⟩ (obF52 hF) rfl rfl rfl (Nat.le_of_ble_eq_true rfl) dX5_readNumber_46) 49 rfl (fun M4 hw => ?_)
      exact XX.sub [0] rfl (B49 M4 hw)
  have B21 : ∀ (M : MM) (p0 : Int32), wX5_readNumber_21 Q v1 v2 M p0 → XX z g Qf 4 21 [(0, .ref (gA g 52)), (1, .int v1), (2, .int v2)] [.int p0, .ref (gA g 52)] M := by
    intro M p0 hw
    refine q_iconst (v := 2) hC dX5_readNumber_21 rfl 22 rfl ?_
    refine r_callV hC (go_V (q := (RX5, TX5, 26)) (As := [.int p0, .int 2]) (rest := []) hC (ctX5_needs (zl z) g M p0 2 _ hF hw) 2 gX5_readNumber_X5_needs rfl ⟨rfl, rfl⟩ hdV_X5_needs ⟨Nat.le_of_ble_eq_true rfl, Nat.le_of_ble_eq_true rfl⟩ (obF52 hF) rfl rfl rfl (Nat.le_of_ble_eq_true rfl) dX5_readNumber_22) 25 rfl (fun M1 hw => ?_)
    exact XX.sub [0, 1, 2] rfl (B25 M1 hw)
  refine q_aload_n hC dX5_readNumber_0 0 rfl 1 rfl ?_
  refine q_getI (C := RX5) (T := TX5) (N := 26) (ci := 5) hC inX5_readNumber_X5 (obF52 hF) rfl 14 (by decide) (uX5_readNumber__X5_needs _ (List.mem_of_getElem? (l := owX5_needs) (i := 1) rfl)) rfl (fun _ => rfl) dX5_readNumber_1 4 rfl ?_
  refine q_if_ne hC 25 dX5_readNumber_4 (by decide) 7 rfl hw (fun hw => ?_) (fun hw => ?_)
  · exact XX.sub [0, 1, 2] rfl (B25 M hw)
  · refine q_aload_n hC dX5_readNumber_7 0 rfl 8 rfl ?_
    refine q_aload_n hC dX5_readNumber_8 0 rfl 9 rfl ?_
    refine q_getI (C := RX5) (T := TX5) (N := 26) (ci := 5) hC inX5_readNumber_X5 (obF52 hF) rfl 12 (by decide) (uX5_readNumber__X5_next _ (List.mem_of_getElem? (l := owX5_next) (i := 2) rfl)) rfl (fun _ => rfl) dX5_readNumber_9 12 rfl ?_
    refine q_iconst (v := 2) hC dX5_readNumber_12 rfl 13 rfl ?_
    refine q_icmp_ne hC 20 dX5_readNumber_13 (by decide) 16 rfl hw (fun hw => ?_) (fun hw => ?_)
    · refine q_iconst (v := 0) hC dX5_readNumber_20 rfl 21 rfl ?_
      exact XX.sub [0, 1, 2] rfl (B21 M 0 hw)
    · refine q_iconst (v := 1) hC dX5_readNumber_16 rfl 17 rfl ?_
      refine q_goto hC 21 dX5_readNumber_17 (by decide) ?_
      exact XX.sub [0, 1, 2] rfl (B21 M 1 hw)
theorem hdV_X5_readNumber : yX5_readNumber.cls = RX5 ∧ yX5_readNumber.cls ≠ "java/lang/invoke/MethodHandle" ∧ yX5_readNumber.cls ≠ "java/lang/invoke/VarHandle" ∧ (parseMethodDescriptor yX5_readNumber.desc).map (fun d => d.parameters.length) = some 2 := by decide +kernel
theorem inX5_readBlock_X5 : ∀ w ∈ u_ws RX5 TX5 26, w ∈ wsX5_readBlock := uX5_readBlock__wsX50
set_option maxRecDepth 100000 in
set_option maxHeartbeats 4000000 in
theorem ctX5_readBlock (l : Launch) (g : GG) (M : MM)  (Q : MM → Prop) (hF : ful5 g) (hw : wX5_readBlock Q M ) : MV g l yX5_readBlock wsX5_readBlock (rmOf 3 69) [.ref (gA g 52)] M Q := by
  refine mk_MV (cc := cX5_readBlock) (maxL := 4) (by decide) rfl (Nat.le_of_ble_eq_true rfl) ?_
  intro z Qf hC hR
  show XX z g Qf 4 0 [(0, .ref (gA g 52))] [] M
  have B82 : ∀ (M : MM) (v1 : Int32), wX5_readBlock_82 Q M v1 → XX z g Qf 4 82 [(0, .ref (gA g 52)), (1, .int v1)] [] M := by
    intro M v1 hw
    refine q_aload_n hC dX5_readBlock_82 0 rfl 83 rfl ?_
    refine q_getI (C := RX5) (T := TX5) (N := 26) (ci := 5) hC inX5_readBlock_X5 (obF52 hF) rfl 14 (by decide) (uX5_readBlock__X5_needs _ (List.mem_of_getElem? (l := owX5_needs) (i := 1) rfl)) rfl (fun _ => rfl) dX5_readBlock_83 86 rfl ?_
    refine q_if_ne hC 109 dX5_readBlock_86 (by decide) 89 rfl hw (fun hw => ?_) (fun hw => ?_)
    · exact r_vret hR dX5_readBlock_109 hw
    · refine q_aload_n hC dX5_readBlock_89 0 rfl 90 rfl ?_
      refine q_getR (C := RX5) (T := TX5) (N := 26) (ci := 5) hC inX5_readBlock_X5 (obF52 hF) rfl 5 (by decide) (uX5_readBlock__o _ (List.mem_of_getElem? (l := owX5_readBlock) (i := 3) rfl)) rfl 57 (fun _ => rfl) dX5_readBlock_90 93 rfl ?_
      refine q_aload_n hC dX5_readBlock_93 0 rfl 94 rfl ?_
      refine q_getI (C := RX5) (T := TX5) (N := 26) (ci := 5) hC inX5_readBlock_X5 (obF52 hF) rfl 4 (by decide) (uX5_readBlock__o _ (List.mem_of_getElem? (l := owX5_readBlock) (i := 2) rfl)) rfl (fun _ => rfl) dX5_readBlock_94 97 rfl ?_
      refine q_iload_n hC dX5_readBlock_97 1 rfl 98 rfl ?_
      obtain ⟨hin, hw⟩ := hw
      refine q_iast hC (arF57 hF) hin dX5_readBlock_98 99 rfl (fun M5 eM5 => ?_)
      have hw := hw M5 eM5
      refine q_aload_n hC dX5_readBlock_99 0 rfl 100 rfl ?_
      refine q_dup hC dX5_readBlock_100 rfl 101 rfl ?_
      refine q_getI (C := RX5) (T := TX5) (N := 26) (ci := 5) hC inX5_readBlock_X5 (obF52 hF) rfl 4 (by decide) (uX5_readBlock__o _ (List.mem_of_getElem? (l := owX5_readBlock) (i := 2) rfl)) rfl (fun _ => rfl) dX5_readBlock_101 104 rfl ?_
      refine q_iconst (v := 1) hC dX5_readBlock_104 rfl 105 rfl ?_
      refine q_iadd hC dX5_readBlock_105 106 rfl ?_
      refine q_putI (C := RX5) (T := TX5) (N := 26) (ci := 5) hC inX5_readBlock_X5 tyX5 tyX5_ok nmX5 (obF52 hF) rfl 4 (by decide) (uX5_readBlock__o _ (List.mem_of_getElem? (l := owX5_readBlock) (i := 2) rfl)) rfl rfl rfl (fun _ => Nat.le_of_ble_eq_true rfl) (fun _ => rfl) dX5_readBlock_106 109 rfl (fun M6 eM6 => ?_)
      have hw := hw M6 eM6
      exact r_vret hR dX5_readBlock_109 hw
  have B78 : ∀ (K4 : MM → Int32 → Int32 → Prop) (hK4 : ∀ (M : MM) (v1 : Int32) (v2 : Int32) , K4 M v1 v2 → XX z g Qf 4 4 [(0, .ref (gA g 52)), (1, .int v1), (2, .int v2)] [] M) (M : MM) (v1 : Int32) (p0 : Int32), wX5_readBlock_78 Q K4 M v1 p0 → XX z g Qf 4 78 [(0, .ref (gA g 52)), (1, .int v1)] [.int p0] M := by
    intro K4 hK4 M v1 p0 hw
    refine q_istore_n (L' := [(2, .int p0), (0, .ref (gA g 52)), (1, .int v1)]) hC dX5_readBlock_78 (by decide) rfl 79 rfl ?_
    refine q_goto hC 4 dX5_readBlock_79 (by decide) ?_
    exact XX.sub [1, 2, 0] rfl (hK4 M v1 p0 hw)
  have B65 : ∀ (K4 : MM → Int32 → Int32 → Prop) (hK4 : ∀ (M : MM) (v1 : Int32) (v2 : Int32) , K4 M v1 v2 → XX z g Qf 4 4 [(0, .ref (gA g 52)), (1, .int v1), (2, .int v2)] [] M) (M : MM) (v1 : Int32), wX5_readBlock_65 Q K4 M v1 → XX z g Qf 4 65 [(0, .ref (gA g 52)), (1, .int v1)] [] M := by
    intro K4 hK4 M v1 hw
    refine q_aload_n hC dX5_readBlock_65 0 rfl 66 rfl ?_
    refine q_getI (C := RX5) (T := TX5) (N := 26) (ci := 5) hC inX5_readBlock_X5 (obF52 hF) rfl 12 (by decide) (uX5_readBlock__X5_next _ (List.mem_of_getElem? (l := owX5_next) (i := 2) rfl)) rfl (fun _ => rfl) dX5_readBlock_66 69 rfl ?_
    refine q_iconst (v := 2) hC dX5_readBlock_69 rfl 70 rfl ?_
    refine q_icmp_ne hC 77 dX5_readBlock_70 (by decide) 73 rfl hw (fun hw => ?_) (fun hw => ?_)
    · refine q_iconst (v := 0) hC dX5_readBlock_77 rfl 78 rfl ?_
      exact XX.sub [0, 1] rfl (B78 _ hK4 M v1 0 hw)
    · refine q_iconst (v := 1) hC dX5_readBlock_73 rfl 74 rfl ?_
      refine q_goto hC 78 dX5_readBlock_74 (by decide) ?_
      exact XX.sub [0, 1] rfl (B78 _ hK4 M v1 1 hw)
  have B27 : ∀ (K4 : MM → Int32 → Int32 → Prop) (hK4 : ∀ (M : MM) (v1 : Int32) (v2 : Int32) , K4 M v1 v2 → XX z g Qf 4 4 [(0, .ref (gA g 52)), (1, .int v1), (2, .int v2)] [] M) (M : MM) (v1 : Int32) (p0 : Int32), wX5_readBlock_27 Q K4 M v1 p0 → XX z g Qf 4 27 [(0, .ref (gA g 52)), (1, .int v1)] [.int p0, .ref (gA g 52)] M := by
    intro K4 hK4 M v1 p0 hw
    refine q_iconst (v := 5) hC dX5_readBlock_27 rfl 28 rfl ?_
    refine r_callV hC (go_V (q := (RX5, TX5, 26)) (As := [.int p0, .int 5]) (rest := []) hC (ctX5_needs (zl z) g M p0 5 _ hF hw) 2 gX5_readBlock_X5_needs rfl ⟨rfl, rfl⟩ hdV_X5_needs ⟨Nat.le_of_ble_eq_true rfl, Nat.le_of_ble_eq_true rfl⟩ (obF52 hF) rfl rfl rfl (Nat.le_of_ble_eq_true rfl) dX5_readBlock_28) 31 rfl (fun M1 hw => ?_)
    refine q_aload_n hC dX5_readBlock_31 0 rfl 32 rfl ?_
    refine q_iconst (v := 0) hC dX5_readBlock_32 rfl 33 rfl ?_
    refine q_sipush (v := 255) hC dX5_readBlock_33 (by decide) 36 rfl ?_
    refine r_callI hC (go_V (q := (RX5, TX5, 26)) (As := [.int 0, .int 255]) (rest := []) hC (ctX5_readNumber (zl z) g M1 0 255 _ hF hw) 2 gX5_readBlock_X5_readNumber rfl ⟨rfl, rfl⟩ hdV_X5_readNumber ⟨Nat.le_of_ble_eq_true rfl, Nat.le_of_ble_eq_true rfl⟩ (obF52 hF) rfl rfl rfl (Nat.le_of_ble_eq_true rfl) dX5_readBlock_36) 39 rfl (fun r2 M3 hw => ?_)
    refine q_istore_n (L' := [(3, .int r2), (0, .ref (gA g 52)), (1, .int v1)]) hC dX5_readBlock_39 (by decide) rfl 40 rfl ?_
    refine q_aload_n hC dX5_readBlock_40 1 rfl 41 rfl ?_
    refine q_getI (C := RX5) (T := TX5) (N := 26) (ci := 5) hC inX5_readBlock_X5 (obF52 hF) rfl 14 (by decide) (uX5_readBlock__X5_needs _ (List.mem_of_getElem? (l := owX5_needs) (i := 1) rfl)) rfl (fun _ => rfl) dX5_readBlock_41 44 rfl ?_
    refine q_if_ne hC 65 dX5_readBlock_44 (by decide) 47 rfl hw (fun hw => ?_) (fun hw => ?_)
    · exact XX.sub [1, 2] rfl (B65 _ hK4 M3 v1 hw)
    · refine q_aload_n hC dX5_readBlock_47 1 rfl 48 rfl ?_
      refine q_getR (C := RX5) (T := TX5) (N := 26) (ci := 5) hC inX5_readBlock_X5 (obF52 hF) rfl 6 (by decide) (uX5_readBlock__o _ (List.mem_of_getElem? (l := owX5_readBlock) (i := 1) rfl)) rfl 58 (fun _ => rfl) dX5_readBlock_48 51 rfl ?_
      refine q_bipush (v := 12) hC dX5_readBlock_51 (by decide) 53 rfl ?_
      refine q_aload_n hC dX5_readBlock_53 1 rfl 54 rfl ?_
      refine q_getI (C := RX5) (T := TX5) (N := 26) (ci := 5) hC inX5_readBlock_X5 (obF52 hF) rfl 4 (by decide) (uX5_readBlock__o _ (List.mem_of_getElem? (l := owX5_readBlock) (i := 2) rfl)) rfl (fun _ => rfl) dX5_readBlock_54 57 rfl ?_
      refine q_imul hC dX5_readBlock_57 58 rfl ?_
      refine q_iload_n hC dX5_readBlock_58 2 rfl 59 rfl ?_
      refine q_iadd hC dX5_readBlock_59 60 rfl ?_
      refine q_iload_n hC dX5_readBlock_60 0 rfl 61 rfl ?_
      obtain ⟨hin, hw⟩ := hw
      refine q_iast hC (arF58 hF) hin dX5_readBlock_61 62 rfl (fun M4 eM4 => ?_)
      have hw := hw M4 eM4
      refine q_iinc (v := v1 + 1) (L' := [(1, .int (v1 + 1)), (3, .int r2), (0, .ref (gA g 52))]) hC dX5_readBlock_62 2 rfl rfl (by decide) rfl 65 rfl ?_
      exact XX.sub [2, 0] rfl (B65 _ hK4 M4 (v1 + 1) hw)
  have B4 : ∀ (n : Nat) (M : MM) (v1 : Int32) (v2 : Int32) , wX5_readBlock_4 Q n M v1 v2 → XX z g Qf 4 4 [(0, .ref (gA g 52)), (1, .int v1), (2, .int v2)] [] M := by
    intro n
    induction n with
    | zero =>
      intro M v1 v2 hw
      exact hw.elim
    | succ n ih =>
      intro M v1 v2 hw
      refine q_aload_n hC dX5_readBlock_4 0 rfl 5 rfl ?_
      refine q_getI (C := RX5) (T := TX5) (N := 26) (ci := 5) hC inX5_readBlock_X5 (obF52 hF) rfl 14 (by decide) (uX5_readBlock__X5_needs _ (List.mem_of_getElem? (l := owX5_needs) (i := 1) rfl)) rfl (fun _ => rfl) dX5_readBlock_5 8 rfl ?_
      refine q_if_ne hC 82 dX5_readBlock_8 (by decide) 11 rfl hw (fun hw => ?_) (fun hw => ?_)
      · exact XX.sub [0, 1] rfl (B82 M v1 hw)
      · refine q_iload_n hC dX5_readBlock_11 2 rfl 12 rfl ?_
        refine q_if_eq hC 82 dX5_readBlock_12 (by decide) 15 rfl hw (fun hw => ?_) (fun hw => ?_)
        · exact XX.sub [0, 1] rfl (B82 M v1 hw)
        · refine q_aload_n hC dX5_readBlock_15 0 rfl 16 rfl ?_
          refine q_iload_n hC dX5_readBlock_16 1 rfl 17 rfl ?_
          refine q_bipush (v := 12) hC dX5_readBlock_17 (by decide) 19 rfl ?_
          refine q_icmp_ge hC 26 dX5_readBlock_19 (by decide) 22 rfl hw (fun hw => ?_) (fun hw => ?_)
          · refine q_iconst (v := 0) hC dX5_readBlock_26 rfl 27 rfl ?_
            exact XX.sub [0, 1] rfl (B27 _ (fun M v1 v2 hw => ih M v1 v2 hw) M v1 0 hw)
          · refine q_iconst (v := 1) hC dX5_readBlock_22 rfl 23 rfl ?_
            refine q_goto hC 27 dX5_readBlock_23 (by decide) ?_
            exact XX.sub [0, 1] rfl (B27 _ (fun M v1 v2 hw => ih M v1 v2 hw) M v1 1 hw)
  refine q_iconst (v := 0) hC dX5_readBlock_0 rfl 1 rfl ?_
  refine q_istore_n (L' := [(1, .int 0), (0, .ref (gA g 52))]) hC dX5_readBlock_1 (by decide) rfl 2 rfl ?_
  refine q_iconst (v := 1) hC dX5_readBlock_2 rfl 3 rfl ?_
  refine q_istore_n (L' := [(2, .int 1), (1, .int 0), (0, .ref (gA g 52))]) hC dX5_readBlock_3 (by decide) rfl 4 rfl ?_
  obtain ⟨n0, hw⟩ := hw
  exact XX.sub [2, 1, 0] rfl (B4 n0 M 0 1 hw)
set_option maxRecDepth 100000 in
set_option maxHeartbeats 4000000 in
theorem ctX5_lowest (l : Launch) (g : GG) (M : MM) (v0 : Int32) (Q : Int32 → MM → Prop)  (hw : wX5_lowest Q M v0) : MI g l yX5_lowest wsX5_lowest (rmOf 0 0) [.int v0] M Q := by
  refine mk_MI (cc := cX5_lowest) (maxL := 1) (by decide) rfl (Nat.le_of_ble_eq_true rfl) ?_
  intro z Qf hC hR
  show XX z g Qf 1 0 [(0, .int v0)] [] M
  refine q_iload_n hC dX5_lowest_0 0 rfl 1 rfl ?_
  refine q_if_ne hC 9 dX5_lowest_1 (by decide) 4 rfl hw (fun hw => ?_) (fun hw => ?_)
  · refine q_iload_n hC dX5_lowest_9 0 rfl 10 rfl ?_
    refine q_iconst (v := 1) hC dX5_lowest_10 rfl 11 rfl ?_
    refine q_icmp_ne hC 18 dX5_lowest_11 (by decide) 14 rfl hw (fun hw => ?_) (fun hw => ?_)
    · refine q_iload_n hC dX5_lowest_18 0 rfl 19 rfl ?_
      refine q_iconst (v := 5) hC dX5_lowest_19 rfl 20 rfl ?_
      refine q_icmp_eq hC 35 dX5_lowest_20 (by decide) 23 rfl hw (fun hw => ?_) (fun hw => ?_)
      · refine q_iconst (v := 0) hC dX5_lowest_35 rfl 36 rfl ?_
        refine q_goto hC 40 dX5_lowest_36 (by decide) ?_
        exact r_iret hR dX5_lowest_40 hw
      · refine q_iload_n hC dX5_lowest_23 0 rfl 24 rfl ?_
        refine q_bipush (v := 6) hC dX5_lowest_24 (by decide) 26 rfl ?_
        refine q_icmp_eq hC 35 dX5_lowest_26 (by decide) 29 rfl hw (fun hw => ?_) (fun hw => ?_)
        · refine q_iconst (v := 0) hC dX5_lowest_35 rfl 36 rfl ?_
          refine q_goto hC 40 dX5_lowest_36 (by decide) ?_
          exact r_iret hR dX5_lowest_40 hw
        · refine q_iload_n hC dX5_lowest_29 0 rfl 30 rfl ?_
          refine q_bipush (v := 8) hC dX5_lowest_30 (by decide) 32 rfl ?_
          refine q_icmp_ne hC 39 dX5_lowest_32 (by decide) 35 rfl hw (fun hw => ?_) (fun hw => ?_)
          · refine q_iconst (v := 1) hC dX5_lowest_39 rfl 40 rfl ?_
            exact r_iret hR dX5_lowest_40 hw
          · refine q_iconst (v := 0) hC dX5_lowest_35 rfl 36 rfl ?_
            refine q_goto hC 40 dX5_lowest_36 (by decide) ?_
            exact r_iret hR dX5_lowest_40 hw
    · refine q_iconst (v := 5) hC dX5_lowest_14 rfl 15 rfl ?_
      refine q_goto hC 40 dX5_lowest_15 (by decide) ?_
      exact r_iret hR dX5_lowest_40 hw
  · refine q_bipush (v := 20) hC dX5_lowest_4 (by decide) 6 rfl ?_
    refine q_goto hC 40 dX5_lowest_6 (by decide) ?_
    exact r_iret hR dX5_lowest_40 hw
set_option maxRecDepth 100000 in
set_option maxHeartbeats 4000000 in
theorem ctX5_highest (l : Launch) (g : GG) (M : MM) (v0 : Int32) (Q : Int32 → MM → Prop)  (hw : wX5_highest Q M v0) : MI g l yX5_highest wsX5_highest (rmOf 0 0) [.int v0] M Q := by
  refine mk_MI (cc := cX5_highest) (maxL := 1) (by decide) rfl (Nat.le_of_ble_eq_true rfl) ?_
  intro z Qf hC hR
  show XX z g Qf 1 0 [(0, .int v0)] [] M
  refine q_iload_n hC dX5_highest_0 0 rfl 1 rfl ?_
  refine q_if_ne hC 10 dX5_highest_1 (by decide) 4 rfl hw (fun hw => ?_) (fun hw => ?_)
  · refine q_iload_n hC dX5_highest_10 0 rfl 11 rfl ?_
    refine q_iconst (v := 2) hC dX5_highest_11 rfl 12 rfl ?_
    refine q_icmp_eq hC 21 dX5_highest_12 (by decide) 15 rfl hw (fun hw => ?_) (fun hw => ?_)
    · refine q_bipush (v := 9) hC dX5_highest_21 (by decide) 23 rfl ?_
      refine q_goto hC 40 dX5_highest_23 (by decide) ?_
      exact r_iret hR dX5_highest_40 hw
    · refine q_iload_n hC dX5_highest_15 0 rfl 16 rfl ?_
      refine q_bipush (v := 7) hC dX5_highest_16 (by decide) 18 rfl ?_
      refine q_icmp_ne hC 26 dX5_highest_18 (by decide) 21 rfl hw (fun hw => ?_) (fun hw => ?_)
      · refine q_iload_n hC dX5_highest_26 0 rfl 27 rfl ?_
        refine q_bipush (v := 8) hC dX5_highest_27 (by decide) 29 rfl ?_
        refine q_icmp_ne hC 38 dX5_highest_29 (by decide) 32 rfl hw (fun hw => ?_) (fun hw => ?_)
        · refine q_bipush (v := 99) hC dX5_highest_38 (by decide) 40 rfl ?_
          exact r_iret hR dX5_highest_40 hw
        · refine q_sipush (v := 999) hC dX5_highest_32 (by decide) 35 rfl ?_
          refine q_goto hC 40 dX5_highest_35 (by decide) ?_
          exact r_iret hR dX5_highest_40 hw
      · refine q_bipush (v := 9) hC dX5_highest_21 (by decide) 23 rfl ?_
        refine q_goto hC 40 dX5_highest_23 (by decide) ?_
        exact r_iret hR dX5_highest_40 hw
  · refine q_sipush (v := 9999) hC dX5_highest_4 (by decide) 7 rfl ?_
    refine q_goto hC 40 dX5_highest_7 (by decide) ?_
    exact r_iret hR dX5_highest_40 hw
theorem hdV_X5_nameNow : yX5_nameNow.cls = RX5 ∧ yX5_nameNow.cls ≠ "java/lang/invoke/MethodHandle" ∧ yX5_nameNow.cls ≠ "java/lang/invoke/VarHandle" ∧ (parseMethodDescriptor yX5_nameNow.desc).map (fun d => d.parameters.length) = some 0 := by decide +kernel
theorem hdT_X5_lowest : yX5_lowest.cls ≠ "java/lang/invoke/MethodHandle" ∧ yX5_lowest.cls ≠ "java/lang/invoke/VarHandle" ∧ (parseMethodDescriptor yX5_lowest.desc).map (fun d => d.parameters.length) = some 1 := by decide +kernel
theorem hdT_X5_highest : yX5_highest.cls ≠ "java/lang/invoke/MethodHandle" ∧ yX5_highest.cls ≠ "java/lang/invoke/VarHandle" ∧ (parseMethodDescriptor yX5_highest.desc).map (fun d => d.parameters.length) = some 1 := by decide +kernel
theorem hdV_X5_readBlock : yX5_readBlock.cls = RX5 ∧ yX5_readBlock.cls ≠ "java/lang/invoke/MethodHandle" ∧ yX5_readBlock.cls ≠ "java/lang/invoke/VarHandle" ∧ (parseMethodDescriptor yX5_readBlock.desc).map (fun d => d.parameters.length) = some 0 := by decide +kernel
theorem inX5_readLine_X5 : ∀ w ∈ u_ws RX5 TX5 26, w ∈ wsX5_readLine := uX5_readLine__wsX50
set_option maxRecDepth 100000 in
set_option maxHeartbeats 4000000 in
theorem ctX5_readLine (l : Launch) (g : GG) (M : MM)  (Q : MM → Prop) (hF : ful5 g) (hw : wX5_readLine Q M ) : MV g l yX5_readLine wsX5_readLine (rmOf 4 92) [.ref (gA g 52)] M Q := by
  refine mk_MV (cc := cX5_readLine) (maxL := 2) (by decide) rfl (Nat.le_of_ble_eq_true rfl) ?_
  intro z Qf hC hR
  show XX z g Qf 2 0 [(0, .ref (gA g 52))] [] M
  have B202 : ∀ (M : MM), wX5_readLine_202 Q M → XX z g Qf 2 202 [(0, .ref (gA g 52))] [] M := by
    intro M hw
    refine q_aload_n hC dX5_readLine_202 0 rfl 203 rfl ?_
    refine r_callV hC (go_V (q := (RX5, TX5, 26)) (As := []) (rest := []) hC (ctX5_next (zl z) g M _ hF hw) 0 gX5_readLine_X5_next rfl ⟨rfl, rfl⟩ hdV_X5_next ⟨Nat.le_of_ble_eq_true rfl, Nat.le_of_ble_eq_true rfl⟩ (obF52 hF) rfl rfl rfl (Nat.le_of_ble_eq_true rfl) dX5_readLine_203) 206 rfl (fun M19 hw => ?_)
    exact r_vret hR dX5_readLine_206 hw
  have B198 : ∀ (M : MM) (p0 : Int32), wX5_readLine_198 Q M p0 → XX z g Qf 2 198 [(0, .ref (gA g 52))] [.int p0, .ref (gA g 52)] M := by
    intro M p0 hw
    refine q_iconst (v := 2) hC dX5_readLine_198 rfl 199 rfl ?_
    refine r_callV hC (go_V (q := (RX5, TX5, 26)) (As := [.int p0, .int 2]) (rest := []) hC (ctX5_needs (zl z) g M p0 2 _ hF hw) 2 gX5_readLine_X5_needs rfl ⟨rfl, rfl⟩ hdV_X5_needs ⟨Nat.le_of_ble_eq_true rfl, Nat.le_of_ble_eq_true rfl⟩ (obF52 hF) rfl rfl rfl (Nat.le_of_ble_eq_true rfl) dX5_readLine_199) 202 rfl (fun M18 hw => ?_)
    exact XX.sub [0] rfl (B202 M18 hw)
  have B177 : ∀ (M : MM), wX5_readLine_177 Q M → XX z g Qf 2 177 [(0, .ref (gA g 52))] [] M := by
    intro M hw
    refine q_aload_n hC dX5_readLine_177 0 rfl 178 rfl ?_
    refine q_getI (C := RX5) (T := TX5) (N := 26) (ci := 5) hC inX5_readLine_X5 (obF52 hF) rfl 14 (by decide) (uX5_readLine__X5_needs _ (List.mem_of_getElem? (l := owX5_needs) (i := 1) rfl)) rfl (fun _ => rfl) dX5_readLine_178 181 rfl ?_
    refine q_if_ne hC 202 dX5_readLine_181 (by decide) 184 rfl hw (fun hw => ?_) (fun hw => ?_)
    · exact XX.sub [0] rfl (B202 M hw)
    · refine q_aload_n hC dX5_readLine_184 0 rfl 185 rfl ?_
      refine q_aload_n hC dX5_readLine_185 0 rfl 186 rfl ?_
      refine q_getI (C := RX5) (T := TX5) (N := 26) (ci := 5) hC inX5_readLine_X5 (obF52 hF) rfl 12 (by decide) (uX5_readLine__X5_next _ (List.mem_of_getElem? (l := owX5_next) (i := 2) rfl)) rfl (fun _ => rfl) dX5_readLine_186 189 rfl ?_
      refine q_iconst (v := 3) hC dX5_readLine_189 rfl 190 rfl ?_
      refine q_icmp_ne hC 197 dX5_readLine_190 (by decide) 193 rfl hw (fun hw => ?_) (fun hw => ?_)
      · refine q_iconst (v := 0) hC dX5_readLine_197 rfl 198 rfl ?_
        exact XX.sub [0] rfl (B198 M 0 hw)
      · refine q_iconst (v := 1) hC dX5_readLine_193 rfl 194 rfl ?_
        refine q_goto hC 198 dX5_readLine_194 (by decide) ?_
        exact XX.sub [0] rfl (B198 M 1 hw)
  have B105 : ∀ (M : MM) (v1 : Int32), wX5_readLine_105 Q M v1 → XX z g Qf 2 105 [(0, .ref (gA g 52)), (1, .int v1)] [] M := by
    intro M v1 hw
    refine q_aload_n hC dX5_readLine_105 0 rfl 106 rfl ?_
    refine r_callV hC (go_V (q := (RX5, TX5, 26)) (As := []) (rest := []) hC (ctX5_next (zl z) g M _ hF hw) 0 gX5_readLine_X5_next rfl ⟨rfl, rfl⟩ hdV_X5_next ⟨Nat.le_of_ble_eq_true rfl, Nat.le_of_ble_eq_true rfl⟩ (obF52 hF) rfl rfl rfl (Nat.le_of_ble_eq_true rfl) dX5_readLine_106) 109 rfl (fun M7 hw => ?_)
    refine q_aload_n hC dX5_readLine_109 0 rfl 110 rfl ?_
    refine q_getI (C := RX5) (T := TX5) (N := 26) (ci := 5) hC inX5_readLine_X5 (obF52 hF) rfl 14 (by decide) (uX5_readLine__X5_needs _ (List.mem_of_getElem? (l := owX5_needs) (i := 1) rfl)) rfl (fun _ => rfl) dX5_readLine_110 113 rfl ?_
    refine q_if_le hC 117 dX5_readLine_113 (by decide) 116 rfl hw (fun hw => ?_) (fun hw => ?_)
    · refine q_iload_n hC dX5_readLine_117 1 rfl 118 rfl ?_
      refine q_bipush (v := 10) hC dX5_readLine_118 (by decide) 120 rfl ?_
      refine q_icmp_ne hC 130 dX5_readLine_120 (by decide) 123 rfl hw (fun hw => ?_) (fun hw => ?_)
      · refine q_iload_n hC dX5_readLine_130 1 rfl 131 rfl ?_
        refine q_bipush (v := 11) hC dX5_readLine_131 (by decide) 133 rfl ?_
        refine q_icmp_ne hC 159 dX5_readLine_133 (by decide) 136 rfl hw (fun hw => ?_) (fun hw => ?_)
        · refine q_aload_n hC dX5_readLine_159 0 rfl 160 rfl ?_
          refine q_getR (C := RX5) (T := TX5) (N := 26) (ci := 5) hC inX5_readLine_X5 (obF52 hF) rfl 3 (by decide) (uX5_readLine__o _ (List.mem_of_getElem? (l := owX5_readLine) (i := 2) rfl)) rfl 56 (fun _ => rfl) dX5_readLine_160 163 rfl ?_
          refine q_iload_n hC dX5_readLine_163 1 rfl 164 rfl ?_
          refine q_aload_n hC dX5_readLine_164 0 rfl 165 rfl ?_
          refine q_iload_n hC dX5_readLine_165 1 rfl 166 rfl ?_
          refine r_callI hC (go_T (As := [.int v1]) (rest := [.ref (gA g 52), .int v1, .ref (gA g 56)]) hC (ctX5_lowest (zl z) g M7 v1 _ hw) 1 gX5_readLine_X5_lowest rfl ⟨rfl, rfl⟩ hdT_X5_lowest ⟨Nat.le_of_ble_eq_true rfl, Nat.le_of_ble_eq_true rfl⟩ rfl rfl (Nat.le_of_ble_eq_true rfl) dX5_readLine_166) 169 rfl (fun r8 M9 hw => ?_)
          refine q_iload_n hC dX5_readLine_169 1 rfl 170 rfl ?_
          refine r_callI hC (go_T (As := [.int v1]) (rest := [.int r8, .ref (gA g 52), .int v1, .ref (gA g 56)]) hC (ctX5_highest (zl z) g M9 v1 _ hw) 1 gX5_readLine_X5_highest rfl ⟨rfl, rfl⟩ hdT_X5_highest ⟨Nat.le_of_ble_eq_true rfl, Nat.le_of_ble_eq_true rfl⟩ rfl rfl (Nat.le_of_ble_eq_true rfl) dX5_readLine_170) 173 rfl (fun r10 M11 hw => ?_)
          refine r_callI hC (go_V (q := (RX5, TX5, 26)) (As := [.int r8, .int r10]) (rest := [.int v1, .ref (gA g 56)]) hC (ctX5_readNumber (zl z) g M11 r8 r10 _ hF hw) 2 gX5_readLine_X5_readNumber rfl ⟨rfl, rfl⟩ hdV_X5_readNumber ⟨Nat.le_of_ble_eq_true rfl, Nat.le_of_ble_eq_true rfl⟩ (obF52 hF) rfl rfl rfl (Nat.le_of_ble_eq_true rfl) dX5_readLine_173) 176 rfl (fun r12 M13 hw => ?_)
          obtain ⟨hin, hw⟩ := hw
          refine q_iast hC (arF56 hF) hin dX5_readLine_176 177 rfl (fun M14 eM14 => ?_)
          have hw := hw M14 eM14
          exact XX.sub [0] rfl (B177 M14 hw)
        · refine q_aload_n hC dX5_readLine_136 0 rfl 137 rfl ?_
          refine q_getR (C := RX5) (T := TX5) (N := 26) (ci := 5) hC inX5_readLine_X5 (obF52 hF) rfl 5 (by decide) (uX5_readLine__X5_readBlock _ (List.mem_of_getElem? (l := owX5_readBlock) (i := 3) rfl)) rfl 57 (fun _ => rfl) dX5_readLine_137 140 rfl ?_
          refine q_aload_n hC dX5_readLine_140 0 rfl 141 rfl ?_
          refine q_getI (C := RX5) (T := TX5) (N := 26) (ci := 5) hC inX5_readLine_X5 (obF52 hF) rfl 4 (by decide) (uX5_readLine__X5_readBlock _ (List.mem_of_getElem? (l := owX5_readBlock) (i := 2) rfl)) rfl (fun _ => rfl) dX5_readLine_141 144 rfl ?_
          refine q_iconst (v := 0) hC dX5_readLine_144 rfl 145 rfl ?_
          obtain ⟨hin, hw⟩ := hw
          refine q_iast hC (arF57 hF) hin dX5_readLine_145 146 rfl (fun M15 eM15 => ?_)
          have hw := hw M15 eM15
          refine q_aload_n hC dX5_readLine_146 0 rfl 147 rfl ?_
          refine q_dup hC dX5_readLine_147 rfl 148 rfl ?_
          refine q_getI (C := RX5) (T := TX5) (N := 26) (ci := 5) hC inX5_readLine_X5 (obF52 hF) rfl 4 (by decide) (uX5_readLine__X5_readBlock _ (List.mem_of_getElem? (l := owX5_readBlock) (i := 2) rfl)) rfl (fun _ => rfl) dX5_readLine_148 151 rfl ?_
          refine q_iconst (v := 1) hC dX5_readLine_151 rfl 152 rfl ?_
          refine q_iadd hC dX5_readLine_152 153 rfl ?_
          refine q_putI (C := RX5) (T := TX5) (N := 26) (ci := 5) hC inX5_readLine_X5 tyX5 tyX5_ok nmX5 (obF52 hF) rfl 4 (by decide) (uX5_readLine__X5_readBlock _ (List.mem_of_getElem? (l := owX5_readBlock) (i := 2) rfl)) rfl rfl rfl (fun _ => Nat.le_of_ble_eq_true rfl) (fun _ => rfl) dX5_readLine_153 156 rfl (fun M16 eM16 => ?_)
          have hw := hw M16 eM16
          refine q_goto hC 177 dX5_readLine_156 (by decide) ?_
          exact XX.sub [0] rfl (B177 M16 hw)
      · refine q_aload_n hC dX5_readLine_123 0 rfl 124 rfl ?_
        refine r_callV hC (go_V (q := (RX5, TX5, 26)) (As := []) (rest := []) hC (ctX5_readBlock (zl z) g M7 _ hF hw) 0 gX5_readLine_X5_readBlock rfl ⟨rfl, rfl⟩ hdV_X5_readBlock ⟨Nat.le_of_ble_eq_true rfl, Nat.le_of_ble_eq_true rfl⟩ (obF52 hF) rfl rfl rfl (Nat.le_of_ble_eq_true rfl) dX5_readLine_124) 127 rfl (fun M17 hw => ?_)
        refine q_goto hC 177 dX5_readLine_127 (by decide) ?_
        exact XX.sub [0] rfl (B177 M17 hw)
    · exact r_vret hR dX5_readLine_116 hw
  have B89 : ∀ (M : MM) (v1 : Int32) (p0 : Int32), wX5_readLine_89 Q M v1 p0 → XX z g Qf 2 89 [(0, .ref (gA g 52)), (1, .int v1)] [.int p0, .ref (gA g 52)] M := by
    intro M v1 p0 hw
    refine q_iconst (v := 4) hC dX5_readLine_89 rfl 90 rfl ?_
    refine r_callV hC (go_V (q := (RX5, TX5, 26)) (As := [.int p0, .int 4]) (rest := []) hC (ctX5_needs (zl z) g M p0 4 _ hF hw) 2 gX5_readLine_X5_needs rfl ⟨rfl, rfl⟩ hdV_X5_needs ⟨Nat.le_of_ble_eq_true rfl, Nat.le_of_ble_eq_true rfl⟩ (obF52 hF) rfl rfl rfl (Nat.le_of_ble_eq_true rfl) dX5_readLine_90) 93 rfl (fun M5 hw => ?_)
    refine q_aload_n hC dX5_readLine_93 0 rfl 94 rfl ?_
    refine q_dup hC dX5_readLine_94 rfl 95 rfl ?_
    refine q_getI (C := RX5) (T := TX5) (N := 26) (ci := 5) hC inX5_readLine_X5 (obF52 hF) rfl 7 (by decide) (uX5_readLine__o _ (List.mem_of_getElem? (l := owX5_readLine) (i := 1) rfl)) rfl (fun _ => rfl) dX5_readLine_95 98 rfl ?_
    refine q_iconst (v := 1) hC dX5_readLine_98 rfl 99 rfl ?_
    refine q_iload_n hC dX5_readLine_99 1 rfl 100 rfl ?_
    refine q_ishl hC dX5_readLine_100 101 rfl ?_
    refine q_ior hC dX5_readLine_101 102 rfl ?_
    refine q_putI (C := RX5) (T := TX5) (N := 26) (ci := 5) hC inX5_readLine_X5 tyX5 tyX5_ok nmX5 (obF52 hF) rfl 7 (by decide) (uX5_readLine__o _ (List.mem_of_getElem? (l := owX5_readLine) (i := 1) rfl)) rfl rfl rfl (fun _ => Nat.le_of_ble_eq_true rfl) (fun _ => rfl) dX5_readLine_102 105 rfl (fun M6 eM6 => ?_)
    have hw := hw M6 eM6
    exact XX.sub [0, 1] rfl (B105 M6 v1 hw)
  have B55 : ∀ (M : MM) (v1 : Int32) (p0 : Int32), wX5_readLine_55 Q M v1 p0 → XX z g Qf 2 55 [(0, .ref (gA g 52)), (1, .int v1)] [.int p0, .ref (gA g 52)] M := by
    intro M v1 p0 hw
    refine q_iconst (v := 5) hC dX5_readLine_55 rfl 56 rfl ?_
    refine r_callV hC (go_V (q := (RX5, TX5, 26)) (As := [.int p0, .int 5]) (rest := []) hC (ctX5_needs (zl z) g M p0 5 _ hF hw) 2 gX5_readLine_X5_needs rfl ⟨rfl, rfl⟩ hdV_X5_needs ⟨Nat.le_of_ble_eq_true rfl, Nat.le_of_ble_eq_true rfl⟩ (obF52 hF) rfl rfl rfl (Nat.le_of_ble_eq_true rfl) dX5_readLine_56) 59 rfl (fun M4 hw => ?_)
    refine q_aload_n hC dX5_readLine_59 0 rfl 60 rfl ?_
    refine q_getI (C := RX5) (T := TX5) (N := 26) (ci := 5) hC inX5_readLine_X5 (obF52 hF) rfl 14 (by decide) (uX5_readLine__X5_needs _ (List.mem_of_getElem? (l := owX5_needs) (i := 1) rfl)) rfl (fun _ => rfl) dX5_readLine_60 63 rfl ?_
    refine q_if_ne hC 105 dX5_readLine_63 (by decide) 66 rfl hw (fun hw => ?_) (fun hw => ?_)
    · exact XX.sub [0, 1] rfl (B105 M4 v1 hw)
    · refine q_iload_n hC dX5_readLine_66 1 rfl 67 rfl ?_
      refine q_bipush (v := 10) hC dX5_readLine_67 (by decide) 69 rfl ?_
      refine q_icmp_ge hC 105 dX5_readLine_69 (by decide) 72 rfl hw (fun hw => ?_) (fun hw => ?_)
      · exact XX.sub [0, 1] rfl (B105 M4 v1 hw)
      · refine q_aload_n hC dX5_readLine_72 0 rfl 73 rfl ?_
        refine q_aload_n hC dX5_readLine_73 0 rfl 74 rfl ?_
        refine q_getI (C := RX5) (T := TX5) (N := 26) (ci := 5) hC inX5_readLine_X5 (obF52 hF) rfl 7 (by decide) (uX5_readLine__o _ (List.mem_of_getElem? (l := owX5_readLine) (i := 1) rfl)) rfl (fun _ => rfl) dX5_readLine_74 77 rfl ?_
        refine q_iload_n hC dX5_readLine_77 1 rfl 78 rfl ?_
        refine q_ishr hC dX5_readLine_78 79 rfl ?_
        refine q_iconst (v := 1) hC dX5_readLine_79 rfl 80 rfl ?_
        refine q_iand hC dX5_readLine_80 81 rfl ?_
        refine q_if_ne hC 88 dX5_readLine_81 (by decide) 84 rfl hw (fun hw => ?_) (fun hw => ?_)
        · refine q_iconst (v := 0) hC dX5_readLine_88 rfl 89 rfl ?_
          exact XX.sub [0, 1] rfl (B89 M4 v1 0 hw)
        · refine q_iconst (v := 1) hC dX5_readLine_84 rfl 85 rfl ?_
          refine q_goto hC 89 dX5_readLine_85 (by decide) ?_
          exact XX.sub [0, 1] rfl (B89 M4 v1 1 hw)
  have B50 : ∀ (M : MM) (v1 : Int32), wX5_readLine_50 Q M v1 → XX z g Qf 2 50 [(0, .ref (gA g 52)), (1, .int v1)] [.ref (gA g 52)] M := by
    intro M v1 hw
    refine q_iconst (v := 1) hC dX5_readLine_50 rfl 51 rfl ?_
    refine q_goto hC 55 dX5_readLine_51 (by decide) ?_
    exact XX.sub [0, 1] rfl (B55 M v1 1 hw)
  have B30 : ∀ (M : MM) (v1 : Int32) (p0 : Int32), wX5_readLine_30 Q M v1 p0 → XX z g Qf 2 30 [(0, .ref (gA g 52)), (1, .int v1)] [.int p0, .ref (gA g 52)] M := by
    intro M v1 p0 hw
    refine q_iconst (v := 2) hC dX5_readLine_30 rfl 31 rfl ?_
    refine r_callV hC (go_V (q := (RX5, TX5, 26)) (As := [.int p0, .int 2]) (rest := []) hC (ctX5_needs (zl z) g M p0 2 _ hF hw) 2 gX5_readLine_X5_needs rfl ⟨rfl, rfl⟩ hdV_X5_needs ⟨Nat.le_of_ble_eq_true rfl, Nat.le_of_ble_eq_true rfl⟩ (obF52 hF) rfl rfl rfl (Nat.le_of_ble_eq_true rfl) dX5_readLine_31) 34 rfl (fun M3 hw => ?_)
    refine q_aload_n hC dX5_readLine_34 0 rfl 35 rfl ?_
    refine q_iload_n hC dX5_readLine_35 1 rfl 36 rfl ?_
    refine q_bipush (v := 10) hC dX5_readLine_36 (by decide) 38 rfl ?_
    refine q_icmp_lt hC 50 dX5_readLine_38 (by decide) 41 rfl hw (fun hw => ?_) (fun hw => ?_)
    · exact XX.sub [0, 1] rfl (B50 M3 v1 hw)
    · refine q_aload_n hC dX5_readLine_41 0 rfl 42 rfl ?_
      refine q_getI (C := RX5) (T := TX5) (N := 26) (ci := 5) hC inX5_readLine_X5 (obF52 hF) rfl 4 (by decide) (uX5_readLine__X5_readBlock _ (List.mem_of_getElem? (l := owX5_readBlock) (i := 2) rfl)) rfl (fun _ => rfl) dX5_readLine_42 45 rfl ?_
      refine q_bipush (v := 12) hC dX5_readLine_45 (by decide) 47 rfl ?_
      refine q_icmp_ge hC 54 dX5_readLine_47 (by decide) 50 rfl hw (fun hw => ?_) (fun hw => ?_)
      · refine q_iconst (v := 0) hC dX5_readLine_54 rfl 55 rfl ?_
        exact XX.sub [0, 1] rfl (B55 M3 v1 0 hw)
      · exact XX.sub [0, 1] rfl (B50 M3 v1 hw)
  have B17 : ∀ (M : MM) (p0 : Int32), wX5_readLine_17 Q M p0 → XX z g Qf 2 17 [(0, .ref (gA g 52))] [.int p0] M := by
    intro M p0 hw
    refine q_istore_n (L' := [(1, .int p0), (0, .ref (gA g 52))]) hC dX5_readLine_17 (by decide) rfl 18 rfl ?_
    refine q_aload_n hC dX5_readLine_18 1 rfl 19 rfl ?_
    refine q_iload_n hC dX5_readLine_19 0 rfl 20 rfl ?_
    refine q_bipush (v := (-4)) hC dX5_readLine_20 (by decide) 22 rfl ?_
    refine q_icmp_eq hC 29 dX5_readLine_22 (by decide) 25 rfl hw (fun hw => ?_) (fun hw => ?_)
    · refine q_iconst (v := 0) hC dX5_readLine_29 rfl 30 rfl ?_
      exact XX.sub [1, 0] rfl (B30 M p0 0 hw)
    · refine q_iconst (v := 1) hC dX5_readLine_25 rfl 26 rfl ?_
      refine q_goto hC 30 dX5_readLine_26 (by decide) ?_
      exact XX.sub [1, 0] rfl (B30 M p0 1 hw)
  refine q_aload_n hC dX5_readLine_0 0 rfl 1 rfl ?_
  refine q_getI (C := RX5) (T := TX5) (N := 26) (ci := 5) hC inX5_readLine_X5 (obF52 hF) rfl 12 (by decide) (uX5_readLine__X5_next _ (List.mem_of_getElem? (l := owX5_next) (i := 2) rfl)) rfl (fun _ => rfl) dX5_readLine_1 4 rfl ?_
  refine q_iconst (v := 1) hC dX5_readLine_4 rfl 5 rfl ?_
  refine q_icmp_ne hC 15 dX5_readLine_5 (by decide) 8 rfl hw (fun hw => ?_) (fun hw => ?_)
  · refine q_bipush (v := (-4)) hC dX5_readLine_15 (by decide) 17 rfl ?_
    exact XX.sub [0] rfl (B17 M (-4) hw)
  · refine q_aload_n hC dX5_readLine_8 0 rfl 9 rfl ?_
    refine r_callI hC (go_V (q := (RX5, TX5, 26)) (As := []) (rest := []) hC (ctX5_nameNow (zl z) g M _ hF hw) 0 gX5_readLine_X5_nameNow rfl ⟨rfl, rfl⟩ hdV_X5_nameNow ⟨Nat.le_of_ble_eq_true rfl, Nat.le_of_ble_eq_true rfl⟩ (obF52 hF) rfl rfl rfl (Nat.le_of_ble_eq_true rfl) dX5_readLine_9) 12 rfl (fun r1 M2 hw => ?_)
    refine q_goto hC 17 dX5_readLine_12 (by decide) ?_
    exact XX.sub [0] rfl (B17 M2 r1 hw)
theorem hdV_X5_firstDraft : yX5_firstDraft.cls = RX5 ∧ yX5_firstDraft.cls ≠ "java/lang/invoke/MethodHandle" ∧ yX5_firstDraft.cls ≠ "java/lang/invoke/VarHandle" ∧ (parseMethodDescriptor yX5_firstDraft.desc).map (fun d => d.parameters.length) = some 0 := by decide +kernel
theorem hdV_X5_readLine : yX5_readLine.cls = RX5 ∧ yX5_readLine.cls ≠ "java/lang/invoke/MethodHandle" ∧ yX5_readLine.cls ≠ "java/lang/invoke/VarHandle" ∧ (parseMethodDescriptor yX5_readLine.desc).map (fun d => d.parameters.length) = some 0 := by decide +kernel
theorem hdV_X5_draftEnd : yX5_draftEnd.cls = RX5 ∧ yX5_draftEnd.cls ≠ "java/lang/invoke/MethodHandle" ∧ yX5_draftEnd.cls ≠ "java/lang/invoke/VarHandle" ∧ (parseMethodDescriptor yX5_draftEnd.desc).map (fun d => d.parameters.length) = some 0 := by decide +kernel
theorem hdV_X5_keepDraft : yX5_keepDraft.cls = RX5 ∧ yX5_keepDraft.cls ≠ "java/lang/invoke/MethodHandle" ∧ yX5_keepDraft.cls ≠ "java/lang/invoke/VarHandle" ∧ (parseMethodDescriptor yX5_keepDraft.desc).map (fun d => d.parameters.length) = some 0 := by decide +kernel
theorem inX5_text_X5 : ∀ w ∈ u_ws RX5 TX5 26, w ∈ wsX5_text := uX5_text__wsX50
set_option maxRecDepth 100000 in
set_option maxHeartbeats 4000000 in
theorem ctX5_text (l : Launch) (g : GG) (M : MM)  (Q : Int32 → MM → Prop) (hF : ful5 g) (hw : wX5_text Q M ) : MI g l yX5_text wsX5_text (rmOf 5 113) [.ref (gA g 52)] M Q := by
  refine mk_MI (cc := cX5_text) (maxL := 2) (by decide) rfl (Nat.le_of_ble_eq_true rfl) ?_
  intro z Qf hC hR
  show XX z g Qf 2 0 [(0, .ref (gA g 52))] [] M
  have B75 : ∀ (M : MM) (v1 : Int32), wX5_text_75 Q M v1 → XX z g Qf 2 75 [(0, .ref (gA g 52)), (1, .int v1)] [] M := by
    intro M v1 hw
    refine q_aload_n hC dX5_text_75 0 rfl 76 rfl ?_
    refine q_iconst (v := 0) hC dX5_text_76 rfl 77 rfl ?_
    refine q_putI (C := RX5) (T := TX5) (N := 26) (ci := 5) hC inX5_text_X5 tyX5 tyX5_ok nmX5 (obF52 hF) rfl 9 (by decide) (uX5_text__X5_look _ (List.mem_of_getElem? (l := owX5_look) (i := 1) rfl)) rfl rfl rfl (fun _ => Nat.le_of_ble_eq_true rfl) (fun _ => rfl) dX5_text_77 80 rfl (fun M9 eM9 => ?_)
    have hw := hw M9 eM9
    refine q_aload_n hC dX5_text_80 0 rfl 81 rfl ?_
    refine q_getI (C := RX5) (T := TX5) (N := 26) (ci := 5) hC inX5_text_X5 (obF52 hF) rfl 14 (by decide) (uX5_text__X5_needs _ (List.mem_of_getElem? (l := owX5_needs) (i := 1) rfl)) rfl (fun _ => rfl) dX5_text_81 84 rfl ?_
    refine q_if_le hC 95 dX5_text_84 (by decide) 87 rfl hw (fun hw => ?_) (fun hw => ?_)
    · refine q_aload_n hC dX5_text_95 0 rfl 96 rfl ?_
      refine r_callV hC (go_V (q := (RX5, TX5, 26)) (As := []) (rest := []) hC (ctX5_keepDraft (zl z) g M9 _ hF hw) 0 gX5_text_X5_keepDraft rfl ⟨rfl, rfl⟩ hdV_X5_keepDraft ⟨Nat.le_of_ble_eq_true rfl, Nat.le_of_ble_eq_true rfl⟩ (obF52 hF) rfl rfl rfl (Nat.le_of_ble_eq_true rfl) dX5_text_96) 99 rfl (fun M10 hw => ?_)
      refine q_iload_n hC dX5_text_99 1 rfl 100 rfl ?_
      exact r_iret hR dX5_text_100 hw
    · refine q_bipush (v := (-10)) hC dX5_text_87 (by decide) 89 rfl ?_
      refine q_aload_n hC dX5_text_89 0 rfl 90 rfl ?_
      refine q_getI (C := RX5) (T := TX5) (N := 26) (ci := 5) hC inX5_text_X5 (obF52 hF) rfl 15 (by decide) (uX5_text__X5_needs _ (List.mem_of_getElem? (l := owX5_needs) (i := 3) rfl)) rfl (fun _ => rfl) dX5_text_90 93 rfl ?_
      refine q_isub hC dX5_text_93 94 rfl ?_
      exact r_iret hR dX5_text_94 hw
  have B70 : ∀ (M : MM) (v1 : Int32) (p0 : Int32), wX5_text_70 Q M v1 p0 → XX z g Qf 2 70 [(0, .ref (gA g 52)), (1, .int v1)] [.int p0, .ref (gA g 52)] M := by
    intro M v1 p0 hw
    refine q_bipush (v := 6) hC dX5_text_70 (by decide) 72 rfl ?_
    refine r_callV hC (go_V (q := (RX5, TX5, 26)) (As := [.int p0, .int 6]) (rest := []) hC (ctX5_needs (zl z) g M p0 6 _ hF hw) 2 gX5_text_X5_needs rfl ⟨rfl, rfl⟩ hdV_X5_needs ⟨Nat.le_of_ble_eq_true rfl, Nat.le_of_ble_eq_true rfl⟩ (obF52 hF) rfl rfl rfl (Nat.le_of_ble_eq_true rfl) dX5_text_72) 75 rfl (fun M8 hw => ?_)
    exact XX.sub [0, 1] rfl (B75 M8 v1 hw)
  have B44 : ∀ (M : MM) (v1 : Int32), wX5_text_44 Q M v1 → XX z g Qf 2 44 [(0, .ref (gA g 52)), (1, .int v1)] [] M := by
    intro M v1 hw
    refine q_aload_n hC dX5_text_44 0 rfl 45 rfl ?_
    refine q_getI (C := RX5) (T := TX5) (N := 26) (ci := 5) hC inX5_text_X5 (obF52 hF) rfl 14 (by decide) (uX5_text__X5_needs _ (List.mem_of_getElem? (l := owX5_needs) (i := 1) rfl)) rfl (fun _ => rfl) dX5_text_45 48 rfl ?_
    refine q_if_ne hC 75 dX5_text_48 (by decide) 51 rfl hw (fun hw => ?_) (fun hw => ?_)
    · exact XX.sub [0, 1] rfl (B75 M v1 hw)
    · refine q_aload_n hC dX5_text_51 0 rfl 52 rfl ?_
      refine q_aload_n hC dX5_text_52 0 rfl 53 rfl ?_
      refine r_callI hC (go_V (q := (RX5, TX5, 26)) (As := []) (rest := [.ref (gA g 52)]) hC (ctX5_draftEnd (zl z) g M _ hF hw) 0 gX5_text_X5_draftEnd rfl ⟨rfl, rfl⟩ hdV_X5_draftEnd ⟨Nat.le_of_ble_eq_true rfl, Nat.le_of_ble_eq_true rfl⟩ (obF52 hF) rfl rfl rfl (Nat.le_of_ble_eq_true rfl) dX5_text_53) 56 rfl (fun r6 M7 hw => ?_)
      refine q_aload_n hC dX5_text_56 0 rfl 57 rfl ?_
      refine q_getR (C := RX5) (T := TX5) (N := 26) (ci := 5) hC inX5_text_X5 (obF52 hF) rfl 3 (by decide) (uX5_text__X5_firstDraft _ (List.mem_of_getElem? (l := owX5_firstDraft) (i := 1) rfl)) rfl 56 (fun _ => rfl) dX5_text_57 60 rfl ?_
      refine q_iconst (v := 0) hC dX5_text_60 rfl 61 rfl ?_
      refine q_ialdL hC (arF56 hF) 0 (by decide +kernel) (by decide +kernel) dX5_text_61 62 rfl ?_
      refine q_icmp_gt hC 69 dX5_text_62 (by decide) 65 rfl hw (fun hw => ?_) (fun hw => ?_)
      · refine q_iconst (v := 0) hC dX5_text_69 rfl 70 rfl ?_
        exact XX.sub [0, 1] rfl (B70 M7 v1 0 hw)
      · refine q_iconst (v := 1) hC dX5_text_65 rfl 66 rfl ?_
        refine q_goto hC 70 dX5_text_66 (by decide) ?_
        exact XX.sub [0, 1] rfl (B70 M7 v1 1 hw)
  have B20 : ∀ (n : Nat) (M : MM) (v1 : Int32) , wX5_text_20 Q n M v1 → XX z g Qf 2 20 [(0, .ref (gA g 52)), (1, .int v1)] [] M := by
    intro n
    induction n with
    | zero =>
      intro M v1 hw
      exact hw.elim
    | succ n ih =>
      intro M v1 hw
      refine q_aload_n hC dX5_text_20 0 rfl 21 rfl ?_
      refine q_getI (C := RX5) (T := TX5) (N := 26) (ci := 5) hC inX5_text_X5 (obF52 hF) rfl 14 (by decide) (uX5_text__X5_needs _ (List.mem_of_getElem? (l := owX5_needs) (i := 1) rfl)) rfl (fun _ => rfl) dX5_text_21 24 rfl ?_
      refine q_if_ne hC 44 dX5_text_24 (by decide) 27 rfl hw (fun hw => ?_) (fun hw => ?_)
      · exact XX.sub [0, 1] rfl (B44 M v1 hw)
      · refine q_aload_n hC dX5_text_27 0 rfl 28 rfl ?_
        refine q_getI (C := RX5) (T := TX5) (N := 26) (ci := 5) hC inX5_text_X5 (obF52 hF) rfl 12 (by decide) (uX5_text__X5_next _ (List.mem_of_getElem? (l := owX5_next) (i := 2) rfl)) rfl (fun _ => rfl) dX5_text_28 31 rfl ?_
        refine q_if_eq hC 44 dX5_text_31 (by decide) 34 rfl hw (fun hw => ?_) (fun hw => ?_)
        · exact XX.sub [0, 1] rfl (B44 M v1 hw)
        · refine q_aload_n hC dX5_text_34 0 rfl 35 rfl ?_
          refine r_callV hC (go_V (q := (RX5, TX5, 26)) (As := []) (rest := []) hC (ctX5_readLine (zl z) g M _ hF hw) 0 gX5_text_X5_readLine rfl ⟨rfl, rfl⟩ hdV_X5_readLine ⟨Nat.le_of_ble_eq_true rfl, Nat.le_of_ble_eq_true rfl⟩ (obF52 hF) rfl rfl rfl (Nat.le_of_ble_eq_true rfl) dX5_text_35) 38 rfl (fun M5 hw => ?_)
          refine q_iinc (v := v1 + 1) (L' := [(1, .int (v1 + 1)), (0, .ref (gA g 52))]) hC dX5_text_38 1 rfl rfl (by decide) rfl 41 rfl ?_
          refine q_goto hC 20 dX5_text_41 (by decide) ?_
          exact XX.sub [1, 0] rfl (ih M5 (v1 + 1) hw)
  refine q_iconst (v := 0) hC dX5_text_0 rfl 1 rfl ?_
  refine q_istore_n (L' := [(1, .int 0), (0, .ref (gA g 52))]) hC dX5_text_1 (by decide) rfl 2 rfl ?_
  refine q_aload_n hC dX5_text_2 1 rfl 3 rfl ?_
  refine q_iconst (v := 0) hC dX5_text_3 rfl 4 rfl ?_
  refine q_putI (C := RX5) (T := TX5) (N := 26) (ci := 5) hC inX5_text_X5 tyX5 tyX5_ok nmX5 (obF52 hF) rfl 14 (by decide) (uX5_text__X5_needs _ (List.mem_of_getElem? (l := owX5_needs) (i := 1) rfl)) rfl rfl rfl (fun _ => Nat.le_of_ble_eq_true rfl) (fun _ => rfl) dX5_text_4 7 rfl (fun M1 eM1 => ?_)
  have hw := hw M1 eM1
  refine q_aload_n hC dX5_text_7 1 rfl 8 rfl ?_
  refine q_iconst (v := 0) hC dX5_text_8 rfl 9 rfl ?_
  refine q_putI (C := RX5) (T := TX5) (N := 26) (ci := 5) hC inX5_text_X5 tyX5 tyX5_ok nmX5 (obF52 hF) rfl 10 (by decide) (uX5_text__X5_next _ (List.mem_of_getElem? (l := owX5_next) (i := 1) rfl)) rfl rfl rfl (fun _ => Nat.le_of_ble_eq_true rfl) (fun _ => rfl) dX5_text_9 12 rfl (fun M2 eM2 => ?_)
  have hw := hw M2 eM2
  refine q_aload_n hC dX5_text_12 1 rfl 13 rfl ?_
  refine r_callV hC (go_V (q := (RX5, TX5, 26)) (As := []) (rest := []) hC (ctX5_firstDraft (zl z) g M2 _ hF hw) 0 gX5_text_X5_firstDraft rfl ⟨rfl, rfl⟩ hdV_X5_firstDraft ⟨Nat.le_of_ble_eq_true rfl, Nat.le_of_ble_eq_true rfl⟩ (obF52 hF) rfl rfl rfl (Nat.le_of_ble_eq_true rfl) dX5_text_13) 16 rfl (fun M3 hw => ?_)
  refine q_aload_n hC dX5_text_16 1 rfl 17 rfl ?_
  refine r_callV hC (go_V (q := (RX5, TX5, 26)) (As := []) (rest := []) hC (ctX5_next (zl z) g M3 _ hF hw) 0 gX5_text_X5_next rfl ⟨rfl, rfl⟩ hdV_X5_next ⟨Nat.le_of_ble_eq_true rfl, Nat.le_of_ble_eq_true rfl⟩ (obF52 hF) rfl rfl rfl (Nat.le_of_ble_eq_true rfl) dX5_text_17) 20 rfl (fun M4 hw => ?_)
  obtain ⟨n0, hw⟩ := hw
  exact XX.sub [1, 0] rfl (B20 n0 M4 0 hw)
theorem inX5_fault_X5 : ∀ w ∈ u_ws RX5 TX5 26, w ∈ wsX5_fault := uX5_fault__wsX50
set_option maxRecDepth 100000 in
set_option maxHeartbeats 4000000 in
theorem ctX5_fault (l : Launch) (g : GG) (M : MM)  (Q : Int32 → MM → Prop) (hF : ful5 g) (hw : wX5_fault Q M ) : MI g l yX5_fault wsX5_fault (rmOf 0 0) [.ref (gA g 52)] M Q := by
  refine mk_MI (cc := cX5_fault) (maxL := 1) (by decide) rfl (Nat.le_of_ble_eq_true rfl) ?_
  intro z Qf hC hR
  show XX z g Qf 1 0 [(0, .ref (gA g 52))] [] M
  refine q_aload_n hC dX5_fault_0 0 rfl 1 rfl ?_
  refine q_getI (C := RX5) (T := TX5) (N := 26) (ci := 5) hC inX5_fault_X5 (obF52 hF) rfl 14 (by decide) (uX5_fault__o _ (List.mem_of_getElem? (l := owX5_fault) (i := 1) rfl)) rfl (fun _ => rfl) dX5_fault_1 4 rfl ?_
  exact r_iret hR dX5_fault_4 hw
theorem inX5_rule_X5 : ∀ w ∈ u_ws RX5 TX5 26, w ∈ wsX5_rule := uX5_rule__wsX50
set_option maxRecDepth 100000 in
set_option maxHeartbeats 4000000 in
theorem ctX5_rule (l : Launch) (g : GG) (M : MM) (v1 : Int32) (Q : Int32 → MM → Prop) (hF : ful5 g) (hw : wX5_rule Q M v1) : MI g l yX5_rule wsX5_rule (rmOf 1 25) [.ref (gA g 52), .int v1] M Q := by
  refine mk_MI (cc := cX5_rule) (maxL := 2) (by decide) rfl (Nat.le_of_ble_eq_true rfl) ?_
  intro z Qf hC hR
  show XX z g Qf 2 0 [(0, .ref (gA g 52)), (1, .int v1)] [] M
  refine q_iload_n hC dX5_rule_0 1 rfl 1 rfl ?_
  refine q_if_ne hC 15 dX5_rule_1 (by decide) 4 rfl hw (fun hw => ?_) (fun hw => ?_)
  · refine q_iload_n hC dX5_rule_15 1 rfl 16 rfl ?_
    refine q_i2l hC dX5_rule_16 17 rfl ?_
    refine q_lconst (v := 1) hC dX5_rule_17 rfl 18 rfl ?_
    refine q_ldc2 (v := 8) hC (uX5_rule__o _ (List.mem_of_getElem? (l := owX5_rule) (i := 2) rfl)) dX5_rule_18 21 rfl ?_
    refine r_callI hC (go_T (As := [.long (v1.toInt64), .long 1, .long 8]) (rest := []) hC (ctX5_in (zl z) g M (v1.toInt64) 1 8 _ hw) 3 gX5_rule_X5_in rfl ⟨rfl, rfl⟩ hdT_X5_in ⟨Nat.le_of_ble_eq_true rfl, Nat.le_of_ble_eq_true rfl⟩ rfl rfl (Nat.le_of_ble_eq_true rfl) dX5_rule_21) 24 rfl (fun r1 M2 hw => ?_)
    refine q_if_eq hC 36 dX5_rule_24 (by decide) 27 rfl hw (fun hw => ?_) (fun hw => ?_)
    · refine q_iconst (v := (-1)) hC dX5_rule_36 rfl 37 rfl ?_
      exact r_iret hR dX5_rule_37 hw
    · refine q_aload_n hC dX5_rule_27 0 rfl 28 rfl ?_
      refine q_getR (C := RX5) (T := TX5) (N := 26) (ci := 5) hC inX5_rule_X5 (obF52 hF) rfl 2 (by decide) (uX5_rule__o _ (List.mem_of_getElem? (l := owX5_rule) (i := 3) rfl)) rfl 55 (fun _ => rfl) dX5_rule_28 31 rfl ?_
      refine q_iload_n hC dX5_rule_31 1 rfl 32 rfl ?_
      obtain ⟨hin, hw⟩ := hw
      refine q_iald hC (arF55 hF) hin dX5_rule_32 33 rfl ?_
      refine q_goto hC 37 dX5_rule_33 (by decide) ?_
      exact r_iret hR dX5_rule_37 hw
  · refine q_aload_n hC dX5_rule_4 0 rfl 5 rfl ?_
    refine q_getR (C := RX5) (T := TX5) (N := 26) (ci := 5) hC inX5_rule_X5 (obF52 hF) rfl 0 (by decide) (uX5_rule__o _ (List.mem_of_getElem? (l := owX5_rule) (i := 1) rfl)) rfl 53 (fun _ => rfl) dX5_rule_5 8 rfl ?_
    refine q_sipush (v := 366) hC dX5_rule_8 (by decide) 11 rfl ?_
    refine q_ialdL hC (arF53 hF) 366 (by decide +kernel) (by decide +kernel) dX5_rule_11 12 rfl ?_
    refine q_goto hC 37 dX5_rule_12 (by decide) ?_
    exact r_iret hR dX5_rule_37 hw
set_option maxRecDepth 100000 in
set_option maxHeartbeats 4000000 in
theorem ctX5_turnsOf (l : Launch) (g : GG) (M : MM) (v0 : Int32) (v1 : Int32) (v2 : Int32) (Q : Int32 → MM → Prop)  (hw : wX5_turnsOf Q M v0 v1 v2) : MI g l yX5_turnsOf wsX5_turnsOf (rmOf 0 0) [.int v0, .int v1, .int v2] M Q := by
  refine mk_MI (cc := cX5_turnsOf) (maxL := 5) (by decide) rfl (Nat.le_of_ble_eq_true rfl) ?_
  intro z Qf hC hR
  show XX z g Qf 5 0 [(0, .int v0), (1, .int v1), (2, .int v2)] [] M
  have B5 : ∀ (n : Nat) (M : MM) (v3 : Int32) (v4 : Int32) , wX5_turnsOf_5 Q v0 v1 v2 n M v3 v4 → XX z g Qf 5 5 [(0, .int v0), (1, .int v1), (2, .int v2), (3, .int v3), (4, .int v4)] [] M := by
    intro n
    induction n with
    | zero =>
      intro M v3 v4 hw
      exact hw.elim
    | succ n ih =>
      intro M v3 v4 hw
      refine q_iload hC dX5_turnsOf_5 4 rfl 7 rfl ?_
      refine q_iload_n hC dX5_turnsOf_7 1 rfl 8 rfl ?_
      refine q_iadd hC dX5_turnsOf_8 9 rfl ?_
      refine q_iload_n hC dX5_turnsOf_9 2 rfl 10 rfl ?_
      refine q_iload_n hC dX5_turnsOf_10 3 rfl 11 rfl ?_
      refine q_imul hC dX5_turnsOf_11 12 rfl ?_
      refine q_iadd hC dX5_turnsOf_12 13 rfl ?_
      refine q_iload_n hC dX5_turnsOf_13 0 rfl 14 rfl ?_
      refine q_icmp_gt hC 33 dX5_turnsOf_14 (by decide) 17 rfl hw (fun hw => ?_) (fun hw => ?_)
      · refine q_iload_n hC dX5_turnsOf_33 3 rfl 34 rfl ?_
        exact r_iret hR dX5_turnsOf_34 hw
      · refine q_iload hC dX5_turnsOf_17 4 rfl 19 rfl ?_
        refine q_iload_n hC dX5_turnsOf_19 1 rfl 20 rfl ?_
        refine q_iload_n hC dX5_turnsOf_20 2 rfl 21 rfl ?_
        refine q_iload_n hC dX5_turnsOf_21 3 rfl 22 rfl ?_
        refine q_imul hC dX5_turnsOf_22 23 rfl ?_
        refine q_iadd hC dX5_turnsOf_23 24 rfl ?_
        refine q_iadd hC dX5_turnsOf_24 25 rfl ?_
        refine q_nameI (fun x1 ex1 => ?_)
        have hw := hw x1 ex1
        refine q_istore (L' := [(4, .int x1), (0, .int v0), (1, .int v1), (2, .int v2), (3, .int v3)]) hC dX5_turnsOf_25 (by decide) rfl 27 rfl ?_
        refine q_iinc (v := v3 + 1) (L' := [(3, .int (v3 + 1)), (4, .int x1), (0, .int v0), (1, .int v1), (2, .int v2)]) hC dX5_turnsOf_27 4 rfl rfl (by decide) rfl 30 rfl ?_
        refine q_goto hC 5 dX5_turnsOf_30 (by decide) ?_
        exact XX.sub [2, 3, 4, 0, 1] rfl (ih M (v3 + 1) x1 hw)
  refine q_iconst (v := 0) hC dX5_turnsOf_0 rfl 1 rfl ?_
  refine q_istore_n (L' := [(3, .int 0), (0, .int v0), (1, .int v1), (2, .int v2)]) hC dX5_turnsOf_1 (by decide) rfl 2 rfl ?_
  refine q_iconst (v := 0) hC dX5_turnsOf_2 rfl 3 rfl ?_
  refine q_istore (L' := [(4, .int 0), (3, .int 0), (0, .int v0), (1, .int v1), (2, .int v2)]) hC dX5_turnsOf_3 (by decide) rfl 5 rfl ?_
  obtain ⟨n0, hw⟩ := hw
  exact XX.sub [2, 3, 4, 1, 0] rfl (B5 n0 M 0 0 hw)
theorem hdT_X5_turnsOf : yX5_turnsOf.cls ≠ "java/lang/invoke/MethodHandle" ∧ yX5_turnsOf.cls ≠ "java/lang/invoke/VarHandle" ∧ (parseMethodDescriptor yX5_turnsOf.desc).map (fun d => d.parameters.length) = some 3 := by decide +kernel
theorem inX5_turnsAt_X5 : ∀ w ∈ u_ws RX5 TX5 26, w ∈ wsX5_turnsAt := uX5_turnsAt__wsX50
set_option maxRecDepth 100000 in
set_option maxHeartbeats 4000000 in
theorem ctX5_turnsAt (l : Launch) (g : GG) (M : MM) (v1 : Int32) (Q : Int32 → MM → Prop) (hF : ful5 g) (hw : wX5_turnsAt Q M v1) : MI g l yX5_turnsAt wsX5_turnsAt (rmOf 1 24) [.ref (gA g 52), .int v1] M Q := by
  refine mk_MI (cc := cX5_turnsAt) (maxL := 2) (by decide) rfl (Nat.le_of_ble_eq_true rfl) ?_
  intro z Qf hC hR
  show XX z g Qf 2 0 [(0, .ref (gA g 52)), (1, .int v1)] [] M
  refine q_iload_n hC dX5_turnsAt_0 1 rfl 1 rfl ?_
  refine q_aload_n hC dX5_turnsAt_1 0 rfl 2 rfl ?_
  refine q_getR (C := RX5) (T := TX5) (N := 26) (ci := 5) hC inX5_turnsAt_X5 (obF52 hF) rfl 2 (by decide) (uX5_turnsAt__o _ (List.mem_of_getElem? (l := owX5_turnsAt) (i := 1) rfl)) rfl 55 (fun _ => rfl) dX5_turnsAt_2 5 rfl ?_
  refine q_iconst (v := 1) hC dX5_turnsAt_5 rfl 6 rfl ?_
  refine q_ialdL hC (arF55 hF) 1 (by decide +kernel) (by decide +kernel) dX5_turnsAt_6 7 rfl ?_
  refine q_aload_n hC dX5_turnsAt_7 0 rfl 8 rfl ?_
  refine q_getR (C := RX5) (T := TX5) (N := 26) (ci := 5) hC inX5_turnsAt_X5 (obF52 hF) rfl 2 (by decide) (uX5_turnsAt__o _ (List.mem_of_getElem? (l := owX5_turnsAt) (i := 1) rfl)) rfl 55 (fun _ => rfl) dX5_turnsAt_8 11 rfl ?_
  refine q_iconst (v := 2) hC dX5_turnsAt_11 rfl 12 rfl ?_
  refine q_ialdL hC (arF55 hF) 2 (by decide +kernel) (by decide +kernel) dX5_turnsAt_12 13 rfl ?_
  refine r_callI hC (go_T (As := [.int v1, .int (M 55 1), .int (M 55 2)]) (rest := []) hC (ctX5_turnsOf (zl z) g M v1 (M 55 1) (M 55 2) _ hw) 3 gX5_turnsAt_X5_turnsOf rfl ⟨rfl, rfl⟩ hdT_X5_turnsOf ⟨Nat.le_of_ble_eq_true rfl, Nat.le_of_ble_eq_true rfl⟩ rfl rfl (Nat.le_of_ble_eq_true rfl) dX5_turnsAt_13) 16 rfl (fun r1 M2 hw => ?_)
  exact r_iret hR dX5_turnsAt_16 hw
theorem inX5_isPlace_X5 : ∀ w ∈ u_ws RX5 TX5 26, w ∈ wsX5_isPlace := uX5_isPlace__wsX50
set_option maxRecDepth 100000 in
set_option maxHeartbeats 4000000 in
theorem ctX5_isPlace (l : Launch) (g : GG) (M : MM) (v1 : Int32) (Q : Int32 → MM → Prop) (hF : ful5 g) (hw : wX5_isPlace Q M v1) : MI g l yX5_isPlace wsX5_isPlace (rmOf 1 25) [.ref (gA g 52), .int v1] M Q := by
  refine mk_MZ (cc := cX5_isPlace) (maxL := 2) (by decide) rfl (Nat.le_of_ble_eq_true rfl) ?_
  intro z Qf hC hR
  show XX z g Qf 2 0 [(0, .ref (gA g 52)), (1, .int v1)] [] M
  refine q_iload_n hC dX5_isPlace_0 1 rfl 1 rfl ?_
  refine q_i2l hC dX5_isPlace_1 2 rfl ?_
  refine q_lconst (v := 0) hC dX5_isPlace_2 rfl 3 rfl ?_
  refine q_aload_n hC dX5_isPlace_3 0 rfl 4 rfl ?_
  refine q_getR (C := RX5) (T := TX5) (N := 26) (ci := 5) hC inX5_isPlace_X5 (obF52 hF) rfl 0 (by decide) (uX5_isPlace__o _ (List.mem_of_getElem? (l := owX5_isPlace) (i := 1) rfl)) rfl 53 (fun _ => rfl) dX5_isPlace_4 7 rfl ?_
  refine q_sipush (v := 366) hC dX5_isPlace_7 (by decide) 10 rfl ?_
  refine q_ialdL hC (arF53 hF) 366 (by decide +kernel) (by decide +kernel) dX5_isPlace_10 11 rfl ?_
  refine q_i2l hC dX5_isPlace_11 12 rfl ?_
  refine r_callI hC (go_T (As := [.long (v1.toInt64), .long 0, .long ((M 53 366).toInt64)]) (rest := []) hC (ctX5_in (zl z) g M (v1.toInt64) 0 ((M 53 366).toInt64) _ hw) 3 gX5_isPlace_X5_in rfl ⟨rfl, rfl⟩ hdT_X5_in ⟨Nat.le_of_ble_eq_true rfl, Nat.le_of_ble_eq_true rfl⟩ rfl rfl (Nat.le_of_ble_eq_true rfl) dX5_isPlace_12) 15 rfl (fun r1 M2 hw => ?_)
  exact r_iret hR dX5_isPlace_15 hw
theorem hdV_X5_isPlace : yX5_isPlace.cls = RX5 ∧ yX5_isPlace.cls ≠ "java/lang/invoke/MethodHandle" ∧ yX5_isPlace.cls ≠ "java/lang/invoke/VarHandle" ∧ (parseMethodDescriptor yX5_isPlace.desc).map (fun d => d.parameters.length) = some 1 := by decide +kernel
theorem hdV_X5_turnsAt : yX5_turnsAt.cls = RX5 ∧ yX5_turnsAt.cls ≠ "java/lang/invoke/MethodHandle" ∧ yX5_turnsAt.cls ≠ "java/lang/invoke/VarHandle" ∧ (parseMethodDescriptor yX5_turnsAt.desc).map (fun d => d.parameters.length) = some 1 := by decide +kernel
theorem inX5_turns_X5 : ∀ w ∈ u_ws RX5 TX5 26, w ∈ wsX5_turns := uX5_turns__wsX50
set_option maxRecDepth 100000 in
set_option maxHeartbeats 4000000 in
theorem ctX5_turns (l : Launch) (g : GG) (M : MM) (v1 : Int32) (v2 : Int32) (Q : Int32 → MM → Prop) (hF : ful5 g) (hw : wX5_turns Q M v1 v2) : MI g l yX5_turns wsX5_turns (rmOf 2 46) [.ref (gA g 52), .int v1, .int v2] M Q := by
  refine mk_MI (cc := cX5_turns) (maxL := 3) (by decide) rfl (Nat.le_of_ble_eq_true rfl) ?_
  intro z Qf hC hR
  show XX z g Qf 3 0 [(0, .ref (gA g 52)), (1, .int v1), (2, .int v2)] [] M
  have B31 : ∀ (M : MM) (p0 : Int32), wX5_turns_31 Q v1 v2 M p0 → XX z g Qf 3 31 [] [.int p0, .ref (gA g 52)] M := by
    intro M p0 hw
    refine r_callI hC (go_V (q := (RX5, TX5, 26)) (As := [.int p0]) (rest := []) hC (ctX5_turnsAt (zl z) g M p0 _ hF hw) 1 gX5_turns_X5_turnsAt rfl ⟨rfl, rfl⟩ hdV_X5_turnsAt ⟨Nat.le_of_ble_eq_true rfl, Nat.le_of_ble_eq_true rfl⟩ (obF52 hF) rfl rfl rfl (Nat.le_of_ble_eq_true rfl) dX5_turns_31) 34 rfl (fun r3 M4 hw => ?_)
    exact r_iret hR dX5_turns_34 hw
  refine q_aload_n hC dX5_turns_0 0 rfl 1 rfl ?_
  refine q_iload_n hC dX5_turns_1 1 rfl 2 rfl ?_
  refine r_callI hC (go_V (q := (RX5, TX5, 26)) (As := [.int v1]) (rest := []) hC (ctX5_isPlace (zl z) g M v1 _ hF hw) 1 gX5_turns_X5_isPlace rfl ⟨rfl, rfl⟩ hdV_X5_isPlace ⟨Nat.le_of_ble_eq_true rfl, Nat.le_of_ble_eq_true rfl⟩ (obF52 hF) rfl rfl rfl (Nat.le_of_ble_eq_true rfl) dX5_turns_2) 5 rfl (fun r1 M2 hw => ?_)
  refine q_if_ne hC 12 dX5_turns_5 (by decide) 8 rfl hw (fun hw => ?_) (fun hw => ?_)
  · refine q_aload_n hC dX5_turns_12 0 rfl 13 rfl ?_
    refine q_iload_n hC dX5_turns_13 2 rfl 14 rfl ?_
    refine q_if_eq hC 30 dX5_turns_14 (by decide) 17 rfl hw (fun hw => ?_) (fun hw => ?_)
    · refine q_iload_n hC dX5_turns_30 1 rfl 31 rfl ?_
      exact XX.sub [] rfl (B31 M2 v1 hw)
    · refine q_aload_n hC dX5_turns_17 0 rfl 18 rfl ?_
      refine q_getR (C := RX5) (T := TX5) (N := 26) (ci := 5) hC inX5_turns_X5 (obF52 hF) rfl 0 (by decide) (uX5_turns__X5_isPlace _ (List.mem_of_getElem? (l := owX5_isPlace) (i := 1) rfl)) rfl 53 (fun _ => rfl) dX5_turns_18 21 rfl ?_
      refine q_sipush (v := 366) hC dX5_turns_21 (by decide) 24 rfl ?_
      refine q_ialdL hC (arF53 hF) 366 (by decide +kernel) (by decide +kernel) dX5_turns_24 25 rfl ?_
      refine q_iload_n hC dX5_turns_25 1 rfl 26 rfl ?_
      refine q_isub hC dX5_turns_26 27 rfl ?_
      refine q_goto hC 31 dX5_turns_27 (by decide) ?_
      exact XX.sub [] rfl (B31 M2 ((M2 53 366) - v1) hw)
  · refine q_iconst (v := (-1)) hC dX5_turns_8 rfl 9 rfl ?_
    refine q_goto hC 34 dX5_turns_9 (by decide) ?_
    exact r_iret hR dX5_turns_34 hw
theorem inX5_shows_X5 : ∀ w ∈ u_ws RX5 TX5 26, w ∈ wsX5_shows := uX5_shows__wsX50
set_option maxRecDepth 100000 in
set_option maxHeartbeats 4000000 in
theorem ctX5_shows (l : Launch) (g : GG) (M : MM) (v1 : Int32) (v2 : Int32) (Q : Int32 → MM → Prop) (hF : ful5 g) (hw : wX5_shows Q M v1 v2) : MI g l yX5_shows wsX5_shows (rmOf 2 45) [.ref (gA g 52), .int v1, .int v2] M Q := by
  refine mk_MI (cc := cX5_shows) (maxL := 6) (by decide) rfl (Nat.le_of_ble_eq_true rfl) ?_
  intro z Qf hC hR
  show XX z g Qf 6 0 [(0, .ref (gA g 52)), (1, .int v1), (2, .int v2)] [] M
  have B66 : ∀ (K26 : MM → Int32 → Int32 → Int32 → Prop) (hK26 : ∀ (M : MM) (v3 : Int32) (v4 : Int32) (v5 : Int32) , K26 M v3 v4 v5 → XX z g Qf 6 26 [(0, .ref (gA g 52)), (1, .int v1), (2, .int v2), (3, .int v3), (4, .int v4), (5, .int v5)] [] M) (M : MM) (v3 : Int32) (v4 : Int32) (v5 : Int32), wX5_shows_66 Q K26 v1 v2 M v3 v4 v5 → XX z g Qf 6 66 [(0, .ref (gA g 52)), (1, .int v1), (2, .int v2), (3, .int v3), (4, .int v4), (5, .int v5)] [] M := by
    intro K26 hK26 M v3 v4 v5 hw
    refine q_iinc (v := v5 + 1) (L' := [(5, .int (v5 + 1)), (0, .ref (gA g 52)), (1, .int v1), (2, .int v2), (3, .int v3), (4, .int v4)]) hC dX5_shows_66 5 rfl rfl (by decide) rfl 69 rfl ?_
    refine q_goto hC 26 dX5_shows_69 (by decide) ?_
    exact XX.sub [1, 2, 3, 4, 5, 0] rfl (hK26 M v3 v4 (v5 + 1) hw)
  have B61 : ∀ (K26 : MM → Int32 → Int32 → Int32 → Prop) (hK26 : ∀ (M : MM) (v3 : Int32) (v4 : Int32) (v5 : Int32) , K26 M v3 v4 v5 → XX z g Qf 6 26 [(0, .ref (gA g 52)), (1, .int v1), (2, .int v2), (3, .int v3), (4, .int v4), (5, .int v5)] [] M) (M : MM) (v5 : Int32) (p0 : Int32), wX5_shows_61 Q K26 v1 v2 M v5 p0 → XX z g Qf 6 61 [(0, .ref (gA g 52)), (1, .int v1), (2, .int v2), (5, .int v5)] [.int p0] M := by
    intro K26 hK26 M v5 p0 hw
    refine q_istore_n (L' := [(3, .int p0), (0, .ref (gA g 52)), (1, .int v1), (2, .int v2), (5, .int v5)]) hC dX5_shows_61 (by decide) rfl 62 rfl ?_
    refine q_iload hC dX5_shows_62 4 rfl 64 rfl ?_
    refine q_istore (L' := [(4, .int v5), (3, .int p0), (0, .ref (gA g 52)), (1, .int v1), (2, .int v2), (5, .int v5)]) hC dX5_shows_64 (by decide) rfl 66 rfl ?_
    exact XX.sub [2, 3, 4, 1, 0, 5] rfl (B66 _ hK26 M p0 v5 v5 hw)
  have B26 : ∀ (n : Nat) (M : MM) (v3 : Int32) (v4 : Int32) (v5 : Int32) , wX5_shows_26 Q v1 v2 n M v3 v4 v5 → XX z g Qf 6 26 [(0, .ref (gA g 52)), (1, .int v1), (2, .int v2), (3, .int v3), (4, .int v4), (5, .int v5)] [] M := by
    intro n
    induction n with
    | zero =>
      intro M v3 v4 v5 hw
      exact hw.elim
    | succ n ih =>
      intro M v3 v4 v5 hw
      refine q_iload hC dX5_shows_26 5 rfl 28 rfl ?_
      refine q_aload_n hC dX5_shows_28 0 rfl 29 rfl ?_
      refine q_getR (C := RX5) (T := TX5) (N := 26) (ci := 5) hC inX5_shows_X5 (obF52 hF) rfl 0 (by decide) (uX5_shows__o _ (List.mem_of_getElem? (l := owX5_shows) (i := 1) rfl)) rfl 53 (fun _ => rfl) dX5_shows_29 32 rfl ?_
      refine q_sipush (v := 366) hC dX5_shows_32 (by decide) 35 rfl ?_
      refine q_ialdL hC (arF53 hF) 366 (by decide +kernel) (by decide +kernel) dX5_shows_35 36 rfl ?_
      refine q_icmp_gt hC 72 dX5_shows_36 (by decide) 39 rfl hw (fun hw => ?_) (fun hw => ?_)
      · refine q_iload_n hC dX5_shows_72 2 rfl 73 rfl ?_
        refine q_if_ne hC 80 dX5_shows_73 (by decide) 76 rfl hw (fun hw => ?_) (fun hw => ?_)
        · refine q_iload hC dX5_shows_80 4 rfl 82 rfl ?_
          exact r_iret hR dX5_shows_82 hw
        · refine q_iload_n hC dX5_shows_76 3 rfl 77 rfl ?_
          refine q_goto hC 82 dX5_shows_77 (by decide) ?_
          exact r_iret hR dX5_shows_82 hw
      · refine q_aload_n hC dX5_shows_39 0 rfl 40 rfl ?_
        refine q_iload hC dX5_shows_40 5 rfl 42 rfl ?_
        refine r_callI hC (go_V (q := (RX5, TX5, 26)) (As := [.int v5]) (rest := []) hC (ctX5_turnsAt (zl z) g M v5 _ hF hw) 1 gX5_shows_X5_turnsAt rfl ⟨rfl, rfl⟩ hdV_X5_turnsAt ⟨Nat.le_of_ble_eq_true rfl, Nat.le_of_ble_eq_true rfl⟩ (obF52 hF) rfl rfl rfl (Nat.le_of_ble_eq_true rfl) dX5_shows_42) 45 rfl (fun r3 M4 hw => ?_)
        refine q_iload_n hC dX5_shows_45 1 rfl 46 rfl ?_
        refine q_icmp_ne hC 66 dX5_shows_46 (by decide) 49 rfl hw (fun hw => ?_) (fun hw => ?_)
        · exact XX.sub [0, 1, 2, 3, 4, 5] rfl (B66 _ (fun M v3 v4 v5 hw => ih M v3 v4 v5 hw) M4 v3 v4 v5 hw)
        · refine q_iload_n hC dX5_shows_49 3 rfl 50 rfl ?_
          refine q_bipush (v := (-4)) hC dX5_shows_50 (by decide) 52 rfl ?_
          refine q_icmp_ne hC 60 dX5_shows_52 (by decide) 55 rfl hw (fun hw => ?_) (fun hw => ?_)
          · refine q_iload_n hC dX5_shows_60 3 rfl 61 rfl ?_
            exact XX.sub [0, 1, 2, 5] rfl (B61 _ (fun M v3 v4 v5 hw => ih M v3 v4 v5 hw) M4 v5 v3 hw)
          · refine q_iload hC dX5_shows_55 5 rfl 57 rfl ?_
            refine q_goto hC 61 dX5_shows_57 (by decide) ?_
            exact XX.sub [0, 1, 2, 5] rfl (B61 _ (fun M v3 v4 v5 hw => ih M v3 v4 v5 hw) M4 v5 v5 hw)
  refine q_iload_n hC dX5_shows_0 1 rfl 1 rfl ?_
  refine q_if_lt hC 14 dX5_shows_1 (by decide) 4 rfl hw (fun hw => ?_) (fun hw => ?_)
  · refine q_iconst (v := (-1)) hC dX5_shows_14 rfl 15 rfl ?_
    exact r_iret hR dX5_shows_15 hw
  · refine q_iload_n hC dX5_shows_4 2 rfl 5 rfl ?_
    refine q_i2l hC dX5_shows_5 6 rfl ?_
    refine q_lconst (v := 0) hC dX5_shows_6 rfl 7 rfl ?_
    refine q_lconst (v := 1) hC dX5_shows_7 rfl 8 rfl ?_
    refine r_callI hC (go_T (As := [.long (v2.toInt64), .long 0, .long 1]) (rest := []) hC (ctX5_in (zl z) g M (v2.toInt64) 0 1 _ hw) 3 gX5_shows_X5_in rfl ⟨rfl, rfl⟩ hdT_X5_in ⟨Nat.le_of_ble_eq_true rfl, Nat.le_of_ble_eq_true rfl⟩ rfl rfl (Nat.le_of_ble_eq_true rfl) dX5_shows_8) 11 rfl (fun r1 M2 hw => ?_)
    refine q_if_ne hC 16 dX5_shows_11 (by decide) 14 rfl hw (fun hw => ?_) (fun hw => ?_)
    · refine q_bipush (v := (-4)) hC dX5_shows_16 (by decide) 18 rfl ?_
      refine q_istore_n (L' := [(3, .int (-4)), (0, .ref (gA g 52)), (1, .int v1), (2, .int v2)]) hC dX5_shows_18 (by decide) rfl 19 rfl ?_
      refine q_bipush (v := (-4)) hC dX5_shows_19 (by decide) 21 rfl ?_
      refine q_istore (L' := [(4, .int (-4)), (3, .int (-4)), (0, .ref (gA g 52)), (1, .int v1), (2, .int v2)]) hC dX5_shows_21 (by decide) rfl 23 rfl ?_
      refine q_iconst (v := 0) hC dX5_shows_23 rfl 24 rfl ?_
      refine q_istore (L' := [(5, .int 0), (4, .int (-4)), (3, .int (-4)), (0, .ref (gA g 52)), (1, .int v1), (2, .int v2)]) hC dX5_shows_24 (by decide) rfl 26 rfl ?_
      obtain ⟨n0, hw⟩ := hw
      exact XX.sub [3, 4, 5, 2, 1, 0] rfl (B26 n0 M2 (-4) (-4) 0 hw)
    · refine q_iconst (v := (-1)) hC dX5_shows_14 rfl 15 rfl ?_
      exact r_iret hR dX5_shows_15 hw
theorem inX5_meet_X5 : ∀ w ∈ u_ws RX5 TX5 26, w ∈ wsX5_meet := uX5_meet__wsX50
set_option maxRecDepth 100000 in
set_option maxHeartbeats 4000000 in
theorem ctX5_meet (l : Launch) (g : GG) (M : MM)  (Q : Int32 → MM → Prop) (hF : ful5 g) (hw : wX5_meet Q M ) : MI g l yX5_meet wsX5_meet (rmOf 2 45) [.ref (gA g 52)] M Q := by
  refine mk_MI (cc := cX5_meet) (maxL := 2) (by decide) rfl (Nat.le_of_ble_eq_true rfl) ?_
  intro z Qf hC hR
  show XX z g Qf 2 0 [(0, .ref (gA g 52))] [] M
  have B2 : ∀ (n : Nat) (M : MM) (v1 : Int32) , wX5_meet_2 Q n M v1 → XX z g Qf 2 2 [(0, .ref (gA g 52)), (1, .int v1)] [] M := by
    intro n
    induction n with
    | zero =>
      intro M v1 hw
      exact hw.elim
    | succ n ih =>
      intro M v1 hw
      refine q_aload_n hC dX5_meet_2 0 rfl 3 rfl ?_
      refine q_iload_n hC dX5_meet_3 1 rfl 4 rfl ?_
      refine r_callI hC (go_V (q := (RX5, TX5, 26)) (As := [.int v1]) (rest := []) hC (ctX5_turnsAt (zl z) g M v1 _ hF hw) 1 gX5_meet_X5_turnsAt rfl ⟨rfl, rfl⟩ hdV_X5_turnsAt ⟨Nat.le_of_ble_eq_true rfl, Nat.le_of_ble_eq_true rfl⟩ (obF52 hF) rfl rfl rfl (Nat.le_of_ble_eq_true rfl) dX5_meet_4) 7 rfl (fun r1 M2 hw => ?_)
      refine q_aload_n hC dX5_meet_7 0 rfl 8 rfl ?_
      refine q_aload_n hC dX5_meet_8 0 rfl 9 rfl ?_
      refine q_getR (C := RX5) (T := TX5) (N := 26) (ci := 5) hC inX5_meet_X5 (obF52 hF) rfl 0 (by decide) (uX5_meet__o _ (List.mem_of_getElem? (l := owX5_meet) (i := 1) rfl)) rfl 53 (fun _ => rfl) dX5_meet_9 12 rfl ?_
      refine q_sipush (v := 366) hC dX5_meet_12 (by decide) 15 rfl ?_
      refine q_ialdL hC (arF53 hF) 366 (by decide +kernel) (by decide +kernel) dX5_meet_15 16 rfl ?_
      refine q_iload_n hC dX5_meet_16 1 rfl 17 rfl ?_
      refine q_isub hC dX5_meet_17 18 rfl ?_
      refine r_callI hC (go_V (q := (RX5, TX5, 26)) (As := [.int ((M2 53 366) - v1)]) (rest := [.int r1]) hC (ctX5_turnsAt (zl z) g M2 ((M2 53 366) - v1) _ hF hw) 1 gX5_meet_X5_turnsAt rfl ⟨rfl, rfl⟩ hdV_X5_turnsAt ⟨Nat.le_of_ble_eq_true rfl, Nat.le_of_ble_eq_true rfl⟩ (obF52 hF) rfl rfl rfl (Nat.le_of_ble_eq_true rfl) dX5_meet_18) 21 rfl (fun r3 M4 hw => ?_)
      refine q_icmp_ge hC 30 dX5_meet_21 (by decide) 24 rfl hw (fun hw => ?_) (fun hw => ?_)
      · refine q_iload_n hC dX5_meet_30 1 rfl 31 rfl ?_
        exact r_iret hR dX5_meet_31 hw
      · refine q_iinc (v := v1 + 1) (L' := [(1, .int (v1 + 1)), (0, .ref (gA g 52))]) hC dX5_meet_24 1 rfl rfl (by decide) rfl 27 rfl ?_
        refine q_goto hC 2 dX5_meet_27 (by decide) ?_
        exact XX.sub [1, 0] rfl (ih M4 (v1 + 1) hw)
  refine q_iconst (v := 0) hC dX5_meet_0 rfl 1 rfl ?_
  refine q_istore_n (L' := [(1, .int 0), (0, .ref (gA g 52))]) hC dX5_meet_1 (by decide) rfl 2 rfl ?_
  obtain ⟨n0, hw⟩ := hw
  exact XX.sub [1, 0] rfl (B2 n0 M 0 hw)
set_option maxRecDepth 100000 in
set_option maxHeartbeats 4000000 in
theorem ctX5_apart (l : Launch) (g : GG) (M : MM) (v0 : Int32) (v1 : Int32) (Q : Int32 → MM → Prop)  (hw : wX5_apart Q M v0 v1) : MI g l yX5_apart wsX5_apart (rmOf 0 0) [.int v0, .int v1] M Q := by
  refine mk_MI (cc := cX5_apart) (maxL := 2) (by decide) rfl (Nat.le_of_ble_eq_true rfl) ?_
  intro z Qf hC hR
  show XX z g Qf 2 0 [(0, .int v0), (1, .int v1)] [] M
  refine q_iload_n hC dX5_apart_0 0 rfl 1 rfl ?_
  refine q_iload_n hC dX5_apart_1 1 rfl 2 rfl ?_
  refine q_icmp_ge hC 11 dX5_apart_2 (by decide) 5 rfl hw (fun hw => ?_) (fun hw => ?_)
  · refine q_iload_n hC dX5_apart_11 0 rfl 12 rfl ?_
    refine q_iload_n hC dX5_apart_12 1 rfl 13 rfl ?_
    refine q_isub hC dX5_apart_13 14 rfl ?_
    exact r_iret hR dX5_apart_14 hw
  · refine q_iload_n hC dX5_apart_5 1 rfl 6 rfl ?_
    refine q_iload_n hC dX5_apart_6 0 rfl 7 rfl ?_
    refine q_isub hC dX5_apart_7 8 rfl ?_
    refine q_goto hC 14 dX5_apart_8 (by decide) ?_
    exact r_iret hR dX5_apart_14 hw
theorem hdT_X5_apart : yX5_apart.cls ≠ "java/lang/invoke/MethodHandle" ∧ yX5_apart.cls ≠ "java/lang/invoke/VarHandle" ∧ (parseMethodDescriptor yX5_apart.desc).map (fun d => d.parameters.length) = some 2 := by decide +kernel
theorem inX5_playedTo_X5 : ∀ w ∈ u_ws RX5 TX5 26, w ∈ wsX5_playedTo := uX5_playedTo__wsX50
set_option maxRecDepth 100000 in
set_option maxHeartbeats 4000000 in
theorem ctX5_playedTo (l : Launch) (g : GG) (M : MM) (v1 : Int32) (v2 : Int32) (Q : Int32 → MM → Prop) (hF : ful5 g) (hw : wX5_playedTo Q M v1 v2) : MI g l yX5_playedTo wsX5_playedTo (rmOf 1 21) [.ref (gA g 52), .int v1, .int v2] M Q := by
  refine mk_MI (cc := cX5_playedTo) (maxL := 3) (by decide) rfl (Nat.le_of_ble_eq_true rfl) ?_
  intro z Qf hC hR
  show XX z g Qf 3 0 [(0, .ref (gA g 52)), (1, .int v1), (2, .int v2)] [] M
  refine q_iload_n hC dX5_playedTo_0 1 rfl 1 rfl ?_
  refine q_iload_n hC dX5_playedTo_1 2 rfl 2 rfl ?_
  refine q_icmp_ne hC 9 dX5_playedTo_2 (by decide) 5 rfl hw (fun hw => ?_) (fun hw => ?_)
  · refine q_aload_n hC dX5_playedTo_9 0 rfl 10 rfl ?_
    refine q_getR (C := RX5) (T := TX5) (N := 26) (ci := 5) hC inX5_playedTo_X5 (obF52 hF) rfl 2 (by decide) (uX5_playedTo__o _ (List.mem_of_getElem? (l := owX5_playedTo) (i := 1) rfl)) rfl 55 (fun _ => rfl) dX5_playedTo_10 13 rfl ?_
    refine q_iconst (v := 5) hC dX5_playedTo_13 rfl 14 rfl ?_
    refine q_ialdL hC (arF55 hF) 5 (by decide +kernel) (by decide +kernel) dX5_playedTo_14 15 rfl ?_
    refine q_aload_n hC dX5_playedTo_15 0 rfl 16 rfl ?_
    refine q_getR (C := RX5) (T := TX5) (N := 26) (ci := 5) hC inX5_playedTo_X5 (obF52 hF) rfl 2 (by decide) (uX5_playedTo__o _ (List.mem_of_getElem? (l := owX5_playedTo) (i := 1) rfl)) rfl 55 (fun _ => rfl) dX5_playedTo_16 19 rfl ?_
    refine q_iconst (v := 3) hC dX5_playedTo_19 rfl 20 rfl ?_
    refine q_ialdL hC (arF55 hF) 3 (by decide +kernel) (by decide +kernel) dX5_playedTo_20 21 rfl ?_
    refine q_iload_n hC dX5_playedTo_21 1 rfl 22 rfl ?_
    refine q_iload_n hC dX5_playedTo_22 2 rfl 23 rfl ?_
    refine r_callI hC (go_T (As := [.int v1, .int v2]) (rest := [.int (M 55 3), .int (M 55 5)]) hC (ctX5_apart (zl z) g M v1 v2 _ hw) 2 gX5_playedTo_X5_apart rfl ⟨rfl, rfl⟩ hdT_X5_apart ⟨Nat.le_of_ble_eq_true rfl, Nat.le_of_ble_eq_true rfl⟩ rfl rfl (Nat.le_of_ble_eq_true rfl) dX5_playedTo_23) 26 rfl (fun r1 M2 hw => ?_)
    refine q_imul hC dX5_playedTo_26 27 rfl ?_
    refine q_iadd hC dX5_playedTo_27 28 rfl ?_
    exact r_iret hR dX5_playedTo_28 hw
  · refine q_iconst (v := 0) hC dX5_playedTo_5 rfl 6 rfl ?_
    refine q_goto hC 28 dX5_playedTo_6 (by decide) ?_
    exact r_iret hR dX5_playedTo_28 hw
theorem inX5_woundTo_X5 : ∀ w ∈ u_ws RX5 TX5 26, w ∈ wsX5_woundTo := uX5_woundTo__wsX50
set_option maxRecDepth 100000 in
set_option maxHeartbeats 4000000 in
theorem ctX5_woundTo (l : Launch) (g : GG) (M : MM) (v1 : Int32) (v2 : Int32) (Q : Int32 → MM → Prop) (hF : ful5 g) (hw : wX5_woundTo Q M v1 v2) : MI g l yX5_woundTo wsX5_woundTo (rmOf 2 45) [.ref (gA g 52), .int v1, .int v2] M Q := by
  refine mk_MI (cc := cX5_woundTo) (maxL := 4) (by decide) rfl (Nat.le_of_ble_eq_true rfl) ?_
  intro z Qf hC hR
  show XX z g Qf 4 0 [(0, .ref (gA g 52)), (1, .int v1), (2, .int v2)] [] M
  have B55 : ∀ (M : MM) (p0 : Int32), wX5_woundTo_55 Q v1 v2 M p0 → XX z g Qf 4 55 [(0, .ref (gA g 52))] [.int p0] M := by
    intro M p0 hw
    refine q_istore_n (L' := [(3, .int p0), (0, .ref (gA g 52))]) hC dX5_woundTo_55 (by decide) rfl 56 rfl ?_
    refine q_iconst (v := 2) hC dX5_woundTo_56 rfl 57 rfl ?_
    refine q_aload_n hC dX5_woundTo_57 1 rfl 58 rfl ?_
    refine q_getR (C := RX5) (T := TX5) (N := 26) (ci := 5) hC inX5_woundTo_X5 (obF52 hF) rfl 2 (by decide) (uX5_woundTo__X5_turnsAt _ (List.mem_of_getElem? (l := owX5_turnsAt) (i := 1) rfl)) rfl 55 (fun _ => rfl) dX5_woundTo_58 61 rfl ?_
    refine q_iconst (v := 5) hC dX5_woundTo_61 rfl 62 rfl ?_
    refine q_ialdL hC (arF55 hF) 5 (by decide +kernel) (by decide +kernel) dX5_woundTo_62 63 rfl ?_
    refine q_imul hC dX5_woundTo_63 64 rfl ?_
    refine q_aload_n hC dX5_woundTo_64 1 rfl 65 rfl ?_
    refine q_getR (C := RX5) (T := TX5) (N := 26) (ci := 5) hC inX5_woundTo_X5 (obF52 hF) rfl 2 (by decide) (uX5_woundTo__X5_turnsAt _ (List.mem_of_getElem? (l := owX5_turnsAt) (i := 1) rfl)) rfl 55 (fun _ => rfl) dX5_woundTo_65 68 rfl ?_
    refine q_iconst (v := 4) hC dX5_woundTo_68 rfl 69 rfl ?_
    refine q_ialdL hC (arF55 hF) 4 (by decide +kernel) (by decide +kernel) dX5_woundTo_69 70 rfl ?_
    refine q_iload_n hC dX5_woundTo_70 0 rfl 71 rfl ?_
    refine q_imul hC dX5_woundTo_71 72 rfl ?_
    refine q_iadd hC dX5_woundTo_72 73 rfl ?_
    exact r_iret hR dX5_woundTo_73 hw
  refine q_iload_n hC dX5_woundTo_0 1 rfl 1 rfl ?_
  refine q_iload_n hC dX5_woundTo_1 2 rfl 2 rfl ?_
  refine q_icmp_ne hC 7 dX5_woundTo_2 (by decide) 5 rfl hw (fun hw => ?_) (fun hw => ?_)
  · refine q_iload_n hC dX5_woundTo_7 2 rfl 8 rfl ?_
    refine q_iload_n hC dX5_woundTo_8 1 rfl 9 rfl ?_
    refine q_icmp_le hC 26 dX5_woundTo_9 (by decide) 12 rfl hw (fun hw => ?_) (fun hw => ?_)
    · refine q_aload_n hC dX5_woundTo_26 0 rfl 27 rfl ?_
      refine q_aload_n hC dX5_woundTo_27 0 rfl 28 rfl ?_
      refine q_getR (C := RX5) (T := TX5) (N := 26) (ci := 5) hC inX5_woundTo_X5 (obF52 hF) rfl 0 (by decide) (uX5_woundTo__o _ (List.mem_of_getElem? (l := owX5_woundTo) (i := 1) rfl)) rfl 53 (fun _ => rfl) dX5_woundTo_28 31 rfl ?_
      refine q_sipush (v := 366) hC dX5_woundTo_31 (by decide) 34 rfl ?_
      refine q_ialdL hC (arF53 hF) 366 (by decide +kernel) (by decide +kernel) dX5_woundTo_34 35 rfl ?_
      refine q_iload_n hC dX5_woundTo_35 2 rfl 36 rfl ?_
      refine q_isub hC dX5_woundTo_36 37 rfl ?_
      refine r_callI hC (go_V (q := (RX5, TX5, 26)) (As := [.int ((M 53 366) - v2)]) (rest := []) hC (ctX5_turnsAt (zl z) g M ((M 53 366) - v2) _ hF hw) 1 gX5_woundTo_X5_turnsAt rfl ⟨rfl, rfl⟩ hdV_X5_turnsAt ⟨Nat.le_of_ble_eq_true rfl, Nat.le_of_ble_eq_true rfl⟩ (obF52 hF) rfl rfl rfl (Nat.le_of_ble_eq_true rfl) dX5_woundTo_37) 40 rfl (fun r1 M2 hw => ?_)
      refine q_aload_n hC dX5_woundTo_40 0 rfl 41 rfl ?_
      refine q_aload_n hC dX5_woundTo_41 0 rfl 42 rfl ?_
      refine q_getR (C := RX5) (T := TX5) (N := 26) (ci := 5) hC inX5_woundTo_X5 (obF52 hF) rfl 0 (by decide) (uX5_woundTo__o _ (List.mem_of_getElem? (l := owX5_woundTo) (i := 1) rfl)) rfl 53 (fun _ => rfl) dX5_woundTo_42 45 rfl ?_
      refine q_sipush (v := 366) hC dX5_woundTo_45 (by decide) 48 rfl ?_
      refine q_ialdL hC (arF53 hF) 366 (by decide +kernel) (by decide +kernel) dX5_woundTo_48 49 rfl ?_
      refine q_iload_n hC dX5_woundTo_49 1 rfl 50 rfl ?_
      refine q_isub hC dX5_woundTo_50 51 rfl ?_
      refine r_callI hC (go_V (q := (RX5, TX5, 26)) (As := [.int ((M2 53 366) - v1)]) (rest := [.int r1]) hC (ctX5_turnsAt (zl z) g M2 ((M2 53 366) - v1) _ hF hw) 1 gX5_woundTo_X5_turnsAt rfl ⟨rfl, rfl⟩ hdV_X5_turnsAt ⟨Nat.le_of_ble_eq_true rfl, Nat.le_of_ble_eq_true rfl⟩ (obF52 hF) rfl rfl rfl (Nat.le_of_ble_eq_true rfl) dX5_woundTo_51) 54 rfl (fun r3 M4 hw => ?_)
      refine q_isub hC dX5_woundTo_54 55 rfl ?_
      exact XX.sub [0] rfl (B55 M4 (r1 - r3) hw)
    · refine q_aload_n hC dX5_woundTo_12 0 rfl 13 rfl ?_
      refine q_iload_n hC dX5_woundTo_13 2 rfl 14 rfl ?_
      refine r_callI hC (go_V (q := (RX5, TX5, 26)) (As := [.int v2]) (rest := []) hC (ctX5_turnsAt (zl z) g M v2 _ hF hw) 1 gX5_woundTo_X5_turnsAt rfl ⟨rfl, rfl⟩ hdV_X5_turnsAt ⟨Nat.le_of_ble_eq_true rfl, Nat.le_of_ble_eq_true rfl⟩ (obF52 hF) rfl rfl rfl (Nat.le_of_ble_eq_true rfl) dX5_woundTo_14) 17 rfl (fun r5 M6 hw => ?_)
      refine q_aload_n hC dX5_woundTo_17 0 rfl 18 rfl ?_
      refine q_iload_n hC dX5_woundTo_18 1 rfl 19 rfl ?_
      refine r_callI hC (go_V (q := (RX5, TX5, 26)) (As := [.int v1]) (rest := [.int r5]) hC (ctX5_turnsAt (zl z) g M6 v1 _ hF hw) 1 gX5_woundTo_X5_turnsAt rfl ⟨rfl, rfl⟩ hdV_X5_turnsAt ⟨Nat.le_of_ble_eq_true rfl, Nat.le_of_ble_eq_true rfl⟩ (obF52 hF) rfl rfl rfl (Nat.le_of_ble_eq_true rfl) dX5_woundTo_19) 22 rfl (fun r7 M8 hw => ?_)
      refine q_isub hC dX5_woundTo_22 23 rfl ?_
      refine q_goto hC 55 dX5_woundTo_23 (by decide) ?_
      exact XX.sub [0] rfl (B55 M8 (r5 - r7) hw)
  · refine q_iconst (v := 0) hC dX5_woundTo_5 rfl 6 rfl ?_
    exact r_iret hR dX5_woundTo_6 hw
theorem hdV_X5_playedTo : yX5_playedTo.cls = RX5 ∧ yX5_playedTo.cls ≠ "java/lang/invoke/MethodHandle" ∧ yX5_playedTo.cls ≠ "java/lang/invoke/VarHandle" ∧ (parseMethodDescriptor yX5_playedTo.desc).map (fun d => d.parameters.length) = some 2 := by decide +kernel
theorem hdV_X5_woundTo : yX5_woundTo.cls = RX5 ∧ yX5_woundTo.cls ≠ "java/lang/invoke/MethodHandle" ∧ yX5_woundTo.cls ≠ "java/lang/invoke/VarHandle" ∧ (parseMethodDescriptor yX5_woundTo.desc).map (fun d => d.parameters.length) = some 2 := by decide +kernel
theorem hdT_X5_less : yX5_less.cls ≠ "java/lang/invoke/MethodHandle" ∧ yX5_less.cls ≠ "java/lang/invoke/VarHandle" ∧ (parseMethodDescriptor yX5_less.desc).map (fun d => d.parameters.length) = some 2 := by decide +kernel
set_option maxRecDepth 100000 in
set_option maxHeartbeats 4000000 in
theorem ctX5_sooner (l : Launch) (g : GG) (M : MM) (v1 : Int32) (v2 : Int32) (Q : Int32 → MM → Prop) (hF : ful5 g) (hw : wX5_sooner Q M v1 v2) : MI g l yX5_sooner wsX5_sooner (rmOf 3 68) [.ref (gA g 52), .int v1, .int v2] M Q := by
  refine mk_MI (cc := cX5_sooner) (maxL := 3) (by decide) rfl (Nat.le_of_ble_eq_true rfl) ?_
  intro z Qf hC hR
  show XX z g Qf 3 0 [(0, .ref (gA g 52)), (1, .int v1), (2, .int v2)] [] M
  refine q_aload_n hC dX5_sooner_0 0 rfl 1 rfl ?_
  refine q_iload_n hC dX5_sooner_1 1 rfl 2 rfl ?_
  refine q_iload_n hC dX5_sooner_2 2 rfl 3 rfl ?_
  refine r_callI hC (go_V (q := (RX5, TX5, 26)) (As := [.int v1, .int v2]) (rest := []) hC (ctX5_playedTo (zl z) g M v1 v2 _ hF hw) 2 gX5_sooner_X5_playedTo rfl ⟨rfl, rfl⟩ hdV_X5_playedTo ⟨Nat.le_of_ble_eq_true rfl, Nat.le_of_ble_eq_true rfl⟩ (obF52 hF) rfl rfl rfl (Nat.le_of_ble_eq_true rfl) dX5_sooner_3) 6 rfl (fun r1 M2 hw => ?_)
  refine q_aload_n hC dX5_sooner_6 0 rfl 7 rfl ?_
  refine q_iload_n hC dX5_sooner_7 1 rfl 8 rfl ?_
  refine q_iload_n hC dX5_sooner_8 2 rfl 9 rfl ?_
  refine r_callI hC (go_V (q := (RX5, TX5, 26)) (As := [.int v1, .int v2]) (rest := [.int r1]) hC (ctX5_woundTo (zl z) g M2 v1 v2 _ hF hw) 2 gX5_sooner_X5_woundTo rfl ⟨rfl, rfl⟩ hdV_X5_woundTo ⟨Nat.le_of_ble_eq_true rfl, Nat.le_of_ble_eq_true rfl⟩ (obF52 hF) rfl rfl rfl (Nat.le_of_ble_eq_true rfl) dX5_sooner_9) 12 rfl (fun r3 M4 hw => ?_)
  refine r_callI hC (go_T (As := [.int r1, .int r3]) (rest := []) hC (ctX5_less (zl z) g M4 r1 r3 _ hw) 2 gX5_sooner_X5_less rfl ⟨rfl, rfl⟩ hdT_X5_less ⟨Nat.le_of_ble_eq_true rfl, Nat.le_of_ble_eq_true rfl⟩ rfl rfl (Nat.le_of_ble_eq_true rfl) dX5_sooner_12) 15 rfl (fun r5 M6 hw => ?_)
  exact r_iret hR dX5_sooner_15 hw
theorem hdV_X5_sooner : yX5_sooner.cls = RX5 ∧ yX5_sooner.cls ≠ "java/lang/invoke/MethodHandle" ∧ yX5_sooner.cls ≠ "java/lang/invoke/VarHandle" ∧ (parseMethodDescriptor yX5_sooner.desc).map (fun d => d.parameters.length) = some 2 := by decide +kernel
set_option maxRecDepth 100000 in
set_option maxHeartbeats 4000000 in
theorem ctX5_ticks (l : Launch) (g : GG) (M : MM) (v1 : Int32) (v2 : Int32) (v3 : Int32) (Q : Int32 → MM → Prop) (hF : ful5 g) (hw : wX5_ticks Q M v1 v2 v3) : MI g l yX5_ticks wsX5_ticks (rmOf 4 90) [.ref (gA g 52), .int v1, .int v2, .int v3] M Q := by
  refine mk_MI (cc := cX5_ticks) (maxL := 4) (by decide) rfl (Nat.le_of_ble_eq_true rfl) ?_
  intro z Qf hC hR
  show XX z g Qf 4 0 [(0, .ref (gA g 52)), (1, .int v1), (2, .int v2), (3, .int v3)] [] M
  refine q_aload_n hC dX5_ticks_0 0 rfl 1 rfl ?_
  refine q_iload_n hC dX5_ticks_1 1 rfl 2 rfl ?_
  refine r_callI hC (go_V (q := (RX5, TX5, 26)) (As := [.int v1]) (rest := []) hC (ctX5_isPlace (zl z) g M v1 _ hF hw) 1 gX5_ticks_X5_isPlace rfl ⟨rfl, rfl⟩ hdV_X5_isPlace ⟨Nat.le_of_ble_eq_true rfl, Nat.le_of_ble_eq_true rfl⟩ (obF52 hF) rfl rfl rfl (Nat.le_of_ble_eq_true rfl) dX5_ticks_2) 5 rfl (fun r1 M2 hw => ?_)
  refine q_if_eq hC 28 dX5_ticks_5 (by decide) 8 rfl hw (fun hw => ?_) (fun hw => ?_)
  · refine q_iconst (v := (-1)) hC dX5_ticks_28 rfl 29 rfl ?_
    exact r_iret hR dX5_ticks_29 hw
  · refine q_aload_n hC dX5_ticks_8 0 rfl 9 rfl ?_
    refine q_iload_n hC dX5_ticks_9 2 rfl 10 rfl ?_
    refine r_callI hC (go_V (q := (RX5, TX5, 26)) (As := [.int v2]) (rest := []) hC (ctX5_isPlace (zl z) g M2 v2 _ hF hw) 1 gX5_ticks_X5_isPlace rfl ⟨rfl, rfl⟩ hdV_X5_isPlace ⟨Nat.le_of_ble_eq_true rfl, Nat.le_of_ble_eq_true rfl⟩ (obF52 hF) rfl rfl rfl (Nat.le_of_ble_eq_true rfl) dX5_ticks_10) 13 rfl (fun r3 M4 hw => ?_)
    refine q_if_eq hC 28 dX5_ticks_13 (by decide) 16 rfl hw (fun hw => ?_) (fun hw => ?_)
    · refine q_iconst (v := (-1)) hC dX5_ticks_28 rfl 29 rfl ?_
      exact r_iret hR dX5_ticks_29 hw
    · refine q_iload_n hC dX5_ticks_16 3 rfl 17 rfl ?_
      refine q_i2l hC dX5_ticks_17 18 rfl ?_
      refine q_lconst (v := 0) hC dX5_ticks_18 rfl 19 rfl ?_
      refine q_ldc2 (v := 2) hC (uX5_ticks__o _ (List.mem_of_getElem? (l := owX5_ticks) (i := 1) rfl)) dX5_ticks_19 22 rfl ?_
      refine r_callI hC (go_T (As := [.long (v3.toInt64), .long 0, .long 2]) (rest := []) hC (ctX5_in (zl z) g M4 (v3.toInt64) 0 2 _ hw) 3 gX5_ticks_X5_in rfl ⟨rfl, rfl⟩ hdT_X5_in ⟨Nat.le_of_ble_eq_true rfl, Nat.le_of_ble_eq_true rfl⟩ rfl rfl (Nat.le_of_ble_eq_true rfl) dX5_ticks_22) 25 rfl (fun r5 M6 hw => ?_)
      refine q_if_ne hC 30 dX5_ticks_25 (by decide) 28 rfl hw (fun hw => ?_) (fun hw => ?_)
      · refine q_iload_n hC dX5_ticks_30 3 rfl 31 rfl ?_
        refine q_if_ne hC 43 dX5_ticks_31 (by decide) 34 rfl hw (fun hw => ?_) (fun hw => ?_)
        · refine q_iload_n hC dX5_ticks_43 3 rfl 44 rfl ?_
          refine q_iconst (v := 1) hC dX5_ticks_44 rfl 45 rfl ?_
          refine q_icmp_ne hC 57 dX5_ticks_45 (by decide) 48 rfl hw (fun hw => ?_) (fun hw => ?_)
          · refine q_aload_n hC dX5_ticks_57 0 rfl 58 rfl ?_
            refine q_iload_n hC dX5_ticks_58 1 rfl 59 rfl ?_
            refine q_iload_n hC dX5_ticks_59 2 rfl 60 rfl ?_
            refine r_callI hC (go_V (q := (RX5, TX5, 26)) (As := [.int v1, .int v2]) (rest := []) hC (ctX5_sooner (zl z) g M6 v1 v2 _ hF hw) 2 gX5_ticks_X5_sooner rfl ⟨rfl, rfl⟩ hdV_X5_sooner ⟨Nat.le_of_ble_eq_true rfl, Nat.le_of_ble_eq_true rfl⟩ (obF52 hF) rfl rfl rfl (Nat.le_of_ble_eq_true rfl) dX5_ticks_60) 63 rfl (fun r7 M8 hw => ?_)
            exact r_iret hR dX5_ticks_63 hw
          · refine q_aload_n hC dX5_ticks_48 0 rfl 49 rfl ?_
            refine q_iload_n hC dX5_ticks_49 1 rfl 50 rfl ?_
            refine q_iload_n hC dX5_ticks_50 2 rfl 51 rfl ?_
            refine r_callI hC (go_V (q := (RX5, TX5, 26)) (As := [.int v1, .int v2]) (rest := []) hC (ctX5_woundTo (zl z) g M6 v1 v2 _ hF hw) 2 gX5_ticks_X5_woundTo rfl ⟨rfl, rfl⟩ hdV_X5_woundTo ⟨Nat.le_of_ble_eq_true rfl, Nat.le_of_ble_eq_true rfl⟩ (obF52 hF) rfl rfl rfl (Nat.le_of_ble_eq_true rfl) dX5_ticks_51) 54 rfl (fun r9 M10 hw => ?_)
            refine q_goto hC 63 dX5_ticks_54 (by decide) ?_
            exact r_iret hR dX5_ticks_63 hw
        · refine q_aload_n hC dX5_ticks_34 0 rfl 35 rfl ?_
          refine q_iload_n hC dX5_ticks_35 1 rfl 36 rfl ?_
          refine q_iload_n hC dX5_ticks_36 2 rfl 37 rfl ?_
          refine r_callI hC (go_V (q := (RX5, TX5, 26)) (As := [.int v1, .int v2]) (rest := []) hC (ctX5_playedTo (zl z) g M6 v1 v2 _ hF hw) 2 gX5_ticks_X5_playedTo rfl ⟨rfl, rfl⟩ hdV_X5_playedTo ⟨Nat.le_of_ble_eq_true rfl, Nat.le_of_ble_eq_true rfl⟩ (obF52 hF) rfl rfl rfl (Nat.le_of_ble_eq_true rfl) dX5_ticks_37) 40 rfl (fun r11 M12 hw => ?_)
          refine q_goto hC 63 dX5_ticks_40 (by decide) ?_
          exact r_iret hR dX5_ticks_63 hw
      · refine q_iconst (v := (-1)) hC dX5_ticks_28 rfl 29 rfl ?_
        exact r_iret hR dX5_ticks_29 hw
theorem inX5_goesTo_X5 : ∀ w ∈ u_ws RX5 TX5 26, w ∈ wsX5_goesTo := uX5_goesTo__wsX50
set_option maxRecDepth 100000 in
set_option maxHeartbeats 4000000 in
theorem ctX5_goesTo (l : Launch) (g : GG) (M : MM) (v1 : Int32) (Q : Int32 → MM → Prop) (hF : ful5 g) (hw : wX5_goesTo Q M v1) : MI g l yX5_goesTo wsX5_goesTo (rmOf 4 90) [.ref (gA g 52), .int v1] M Q := by
  refine mk_MI (cc := cX5_goesTo) (maxL := 3) (by decide) rfl (Nat.le_of_ble_eq_true rfl) ?_
  intro z Qf hC hR
  show XX z g Qf 3 0 [(0, .ref (gA g 52)), (1, .int v1)] [] M
  refine q_aload_n hC dX5_goesTo_0 0 rfl 1 rfl ?_
  refine q_aload_n hC dX5_goesTo_1 0 rfl 2 rfl ?_
  refine q_getR (C := RX5) (T := TX5) (N := 26) (ci := 5) hC inX5_goesTo_X5 (obF52 hF) rfl 0 (by decide) (uX5_goesTo__X5_woundTo _ (List.mem_of_getElem? (l := owX5_woundTo) (i := 1) rfl)) rfl 53 (fun _ => rfl) dX5_goesTo_2 5 rfl ?_
  refine q_sipush (v := 325) hC dX5_goesTo_5 (by decide) 8 rfl ?_
  refine q_ialdL hC (arF53 hF) 325 (by decide +kernel) (by decide +kernel) dX5_goesTo_8 9 rfl ?_
  refine q_iload_n hC dX5_goesTo_9 1 rfl 10 rfl ?_
  refine r_callI hC (go_V (q := (RX5, TX5, 26)) (As := [.int (M 53 325), .int v1]) (rest := []) hC (ctX5_sooner (zl z) g M (M 53 325) v1 _ hF hw) 2 gX5_goesTo_X5_sooner rfl ⟨rfl, rfl⟩ hdV_X5_sooner ⟨Nat.le_of_ble_eq_true rfl, Nat.le_of_ble_eq_true rfl⟩ (obF52 hF) rfl rfl rfl (Nat.le_of_ble_eq_true rfl) dX5_goesTo_10) 13 rfl (fun r1 M2 hw => ?_)
  refine q_istore_n (L' := [(2, .int r1), (0, .ref (gA g 52)), (1, .int v1)]) hC dX5_goesTo_13 (by decide) rfl 14 rfl ?_
  refine q_aload_n hC dX5_goesTo_14 1 rfl 15 rfl ?_
  refine q_getR (C := RX5) (T := TX5) (N := 26) (ci := 5) hC inX5_goesTo_X5 (obF52 hF) rfl 0 (by decide) (uX5_goesTo__X5_woundTo _ (List.mem_of_getElem? (l := owX5_woundTo) (i := 1) rfl)) rfl 53 (fun _ => rfl) dX5_goesTo_15 18 rfl ?_
  refine q_sipush (v := 325) hC dX5_goesTo_18 (by decide) 21 rfl ?_
  refine q_iload_n hC dX5_goesTo_21 2 rfl 22 rfl ?_
  refine q_iastL hC (arF53 hF) 325 (by decide +kernel) (by decide +kernel) dX5_goesTo_22 23 rfl (fun M3 eM3 => ?_)
  have hw := hw M3 eM3
  refine q_aload_n hC dX5_goesTo_23 1 rfl 24 rfl ?_
  refine q_getR (C := RX5) (T := TX5) (N := 26) (ci := 5) hC inX5_goesTo_X5 (obF52 hF) rfl 0 (by decide) (uX5_goesTo__X5_woundTo _ (List.mem_of_getElem? (l := owX5_woundTo) (i := 1) rfl)) rfl 53 (fun _ => rfl) dX5_goesTo_24 27 rfl ?_
  refine q_sipush (v := 326) hC dX5_goesTo_27 (by decide) 30 rfl ?_
  refine q_dup2 hC dX5_goesTo_30 rfl rfl 31 rfl ?_
  refine q_ialdL hC (arF53 hF) 326 (by decide +kernel) (by decide +kernel) dX5_goesTo_31 32 rfl ?_
  refine q_iload_n hC dX5_goesTo_32 0 rfl 33 rfl ?_
  refine q_iadd hC dX5_goesTo_33 34 rfl ?_
  refine q_iastL hC (arF53 hF) 326 (by decide +kernel) (by decide +kernel) dX5_goesTo_34 35 rfl (fun M4 eM4 => ?_)
  have hw := hw M4 eM4
  refine q_iload_n hC dX5_goesTo_35 0 rfl 36 rfl ?_
  exact r_iret hR dX5_goesTo_36 hw
theorem hdV_X5_goesTo : yX5_goesTo.cls = RX5 ∧ yX5_goesTo.cls ≠ "java/lang/invoke/MethodHandle" ∧ yX5_goesTo.cls ≠ "java/lang/invoke/VarHandle" ∧ (parseMethodDescriptor yX5_goesTo.desc).map (fun d => d.parameters.length) = some 1 := by decide +kernel
set_option maxRecDepth 100000 in
set_option maxHeartbeats 4000000 in
theorem ctX5_go (l : Launch) (g : GG) (M : MM) (v1 : Int32) (Q : Int32 → MM → Prop) (hF : ful5 g) (hw : wX5_go Q M v1) : MI g l yX5_go wsX5_go (rmOf 5 112) [.ref (gA g 52), .int v1] M Q := by
  refine mk_MI (cc := cX5_go) (maxL := 2) (by decide) rfl (Nat.le_of_ble_eq_true rfl) ?_
  intro z Qf hC hR
  show XX z g Qf 2 0 [(0, .ref (gA g 52)), (1, .int v1)] [] M
  refine q_aload_n hC dX5_go_0 0 rfl 1 rfl ?_
  refine q_iload_n hC dX5_go_1 1 rfl 2 rfl ?_
  refine r_callI hC (go_V (q := (RX5, TX5, 26)) (As := [.int v1]) (rest := []) hC (ctX5_isPlace (zl z) g M v1 _ hF hw) 1 gX5_go_X5_isPlace rfl ⟨rfl, rfl⟩ hdV_X5_isPlace ⟨Nat.le_of_ble_eq_true rfl, Nat.le_of_ble_eq_true rfl⟩ (obF52 hF) rfl rfl rfl (Nat.le_of_ble_eq_true rfl) dX5_go_2) 5 rfl (fun r1 M2 hw => ?_)
  refine q_if_eq hC 16 dX5_go_5 (by decide) 8 rfl hw (fun hw => ?_) (fun hw => ?_)
  · refine q_iconst (v := (-1)) hC dX5_go_16 rfl 17 rfl ?_
    exact r_iret hR dX5_go_17 hw
  · refine q_aload_n hC dX5_go_8 0 rfl 9 rfl ?_
    refine q_iload_n hC dX5_go_9 1 rfl 10 rfl ?_
    refine r_callI hC (go_V (q := (RX5, TX5, 26)) (As := [.int v1]) (rest := []) hC (ctX5_goesTo (zl z) g M2 v1 _ hF hw) 1 gX5_go_X5_goesTo rfl ⟨rfl, rfl⟩ hdV_X5_goesTo ⟨Nat.le_of_ble_eq_true rfl, Nat.le_of_ble_eq_true rfl⟩ (obF52 hF) rfl rfl rfl (Nat.le_of_ble_eq_true rfl) dX5_go_10) 13 rfl (fun r3 M4 hw => ?_)
    refine q_goto hC 17 dX5_go_13 (by decide) ?_
    exact r_iret hR dX5_go_17 hw
theorem inX5_endOfAll_X5 : ∀ w ∈ u_ws RX5 TX5 26, w ∈ wsX5_endOfAll := uX5_endOfAll__wsX50
set_option maxRecDepth 100000 in
set_option maxHeartbeats 4000000 in
theorem ctX5_endOfAll (l : Launch) (g : GG) (M : MM)  (Q : Int32 → MM → Prop) (hF : ful5 g) (hw : wX5_endOfAll Q M ) : MI g l yX5_endOfAll wsX5_endOfAll (rmOf 2 42) [.ref (gA g 52)] M Q := by
  refine mk_MI (cc := cX5_endOfAll) (maxL := 1) (by decide) rfl (Nat.le_of_ble_eq_true rfl) ?_
  intro z Qf hC hR
  show XX z g Qf 1 0 [(0, .ref (gA g 52))] [] M
  refine q_aload_n hC dX5_endOfAll_0 0 rfl 1 rfl ?_
  refine q_getR (C := RX5) (T := TX5) (N := 26) (ci := 5) hC inX5_endOfAll_X5 (obF52 hF) rfl 0 (by decide) (uX5_endOfAll__X5_endOf _ (List.mem_of_getElem? (l := owX5_endOf) (i := 1) rfl)) rfl 53 (fun _ => rfl) dX5_endOfAll_1 4 rfl ?_
  refine q_iconst (v := 0) hC dX5_endOfAll_4 rfl 5 rfl ?_
  refine q_ialdL hC (arF53 hF) 0 (by decide +kernel) (by decide +kernel) dX5_endOfAll_5 6 rfl ?_
  refine q_if_ne hC 13 dX5_endOfAll_6 (by decide) 9 rfl hw (fun hw => ?_) (fun hw => ?_)
  · refine q_aload_n hC dX5_endOfAll_13 0 rfl 14 rfl ?_
    refine q_aload_n hC dX5_endOfAll_14 0 rfl 15 rfl ?_
    refine q_getR (C := RX5) (T := TX5) (N := 26) (ci := 5) hC inX5_endOfAll_X5 (obF52 hF) rfl 0 (by decide) (uX5_endOfAll__X5_endOf _ (List.mem_of_getElem? (l := owX5_endOf) (i := 1) rfl)) rfl 53 (fun _ => rfl) dX5_endOfAll_15 18 rfl ?_
    refine q_iconst (v := 0) hC dX5_endOfAll_18 rfl 19 rfl ?_
    refine q_ialdL hC (arF53 hF) 0 (by decide +kernel) (by decide +kernel) dX5_endOfAll_19 20 rfl ?_
    refine q_iconst (v := 1) hC dX5_endOfAll_20 rfl 21 rfl ?_
    refine q_isub hC dX5_endOfAll_21 22 rfl ?_
    refine r_callI hC (go_V (q := (RX5, TX5, 26)) (As := [.int ((M 53 0) - (1 : Int32))]) (rest := []) hC (ctX5_endOf (zl z) g M ((M 53 0) - (1 : Int32)) _ hF hw) 1 gX5_endOfAll_X5_endOf rfl ⟨rfl, rfl⟩ hdV_X5_endOf ⟨Nat.le_of_ble_eq_true rfl, Nat.le_of_ble_eq_true rfl⟩ (obF52 hF) rfl rfl rfl (Nat.le_of_ble_eq_true rfl) dX5_endOfAll_22) 25 rfl (fun r1 M2 hw => ?_)
    exact r_iret hR dX5_endOfAll_25 hw
  · refine q_iconst (v := 0) hC dX5_endOfAll_9 rfl 10 rfl ?_
    refine q_goto hC 25 dX5_endOfAll_10 (by decide) ?_
    exact r_iret hR dX5_endOfAll_25 hw
theorem hdV_X5_endOfAll : yX5_endOfAll.cls = RX5 ∧ yX5_endOfAll.cls ≠ "java/lang/invoke/MethodHandle" ∧ yX5_endOfAll.cls ≠ "java/lang/invoke/VarHandle" ∧ (parseMethodDescriptor yX5_endOfAll.desc).map (fun d => d.parameters.length) = some 0 := by decide +kernel
theorem inX5_now_X5 : ∀ w ∈ u_ws RX5 TX5 26, w ∈ wsX5_now := uX5_now__wsX50
set_option maxRecDepth 100000 in
set_option maxHeartbeats 4000000 in
theorem ctX5_now (l : Launch) (g : GG) (M : MM) (v1 : Int32) (Q : Int32 → MM → Prop) (hF : ful5 g) (hw : wX5_now Q M v1) : MI g l yX5_now wsX5_now (rmOf 3 62) [.ref (gA g 52), .int v1] M Q := by
  refine mk_MI (cc := cX5_now) (maxL := 2) (by decide) rfl (Nat.le_of_ble_eq_true rfl) ?_
  intro z Qf hC hR
  show XX z g Qf 2 0 [(0, .ref (gA g 52)), (1, .int v1)] [] M
  refine q_iload_n hC dX5_now_0 1 rfl 1 rfl ?_
  by_cases c0 : v1 = 0
  · have hw := hw.1 c0
    refine q_tabIn hC 40 dX5_now_1 (by rw [c0]; decide) (by rw [c0]; decide) (by rw [c0]; rfl) (by decide) ?_
    refine q_aload_n hC dX5_now_40 0 rfl 41 rfl ?_
    refine q_getR (C := RX5) (T := TX5) (N := 26) (ci := 5) hC inX5_now_X5 (obF52 hF) rfl 0 (by decide) (uX5_now__X5_endOf _ (List.mem_of_getElem? (l := owX5_endOf) (i := 1) rfl)) rfl 53 (fun _ => rfl) dX5_now_41 44 rfl ?_
    refine q_sipush (v := 325) hC dX5_now_44 (by decide) 47 rfl ?_
    refine q_ialdL hC (arF53 hF) 325 (by decide +kernel) (by decide +kernel) dX5_now_47 48 rfl ?_
    exact r_iret hR dX5_now_48 hw
  · have hw := hw.2 c0
    by_cases c1 : v1 = 1
    · have hw := hw.1 c1
      refine q_tabIn hC 49 dX5_now_1 (by rw [c1]; decide) (by rw [c1]; decide) (by rw [c1]; rfl) (by decide) ?_
      refine q_aload_n hC dX5_now_49 0 rfl 50 rfl ?_
      refine q_getR (C := RX5) (T := TX5) (N := 26) (ci := 5) hC inX5_now_X5 (obF52 hF) rfl 0 (by decide) (uX5_now__X5_endOf _ (List.mem_of_getElem? (l := owX5_endOf) (i := 1) rfl)) rfl 53 (fun _ => rfl) dX5_now_50 53 rfl ?_
      refine q_sipush (v := 326) hC dX5_now_53 (by decide) 56 rfl ?_
      refine q_ialdL hC (arF53 hF) 326 (by decide +kernel) (by decide +kernel) dX5_now_56 57 rfl ?_
      exact r_iret hR dX5_now_57 hw
    · have hw := hw.2 c1
      by_cases c2 : v1 = 2
      · have hw := hw.1 c2
        refine q_tabIn hC 58 dX5_now_1 (by rw [c2]; decide) (by rw [c2]; decide) (by rw [c2]; rfl) (by decide) ?_
        refine q_aload_n hC dX5_now_58 0 rfl 59 rfl ?_
        refine q_aload_n hC dX5_now_59 0 rfl 60 rfl ?_
        refine q_getR (C := RX5) (T := TX5) (N := 26) (ci := 5) hC inX5_now_X5 (obF52 hF) rfl 0 (by decide) (uX5_now__X5_endOf _ (List.mem_of_getElem? (l := owX5_endOf) (i := 1) rfl)) rfl 53 (fun _ => rfl) dX5_now_60 63 rfl ?_
        refine q_sipush (v := 325) hC dX5_now_63 (by decide) 66 rfl ?_
        refine q_ialdL hC (arF53 hF) 325 (by decide +kernel) (by decide +kernel) dX5_now_66 67 rfl ?_
        refine r_callI hC (go_V (q := (RX5, TX5, 26)) (As := [.int (M 53 325)]) (rest := []) hC (ctX5_turnsAt (zl z) g M (M 53 325) _ hF hw) 1 gX5_now_X5_turnsAt rfl ⟨rfl, rfl⟩ hdV_X5_turnsAt ⟨Nat.le_of_ble_eq_true rfl, Nat.le_of_ble_eq_true rfl⟩ (obF52 hF) rfl rfl rfl (Nat.le_of_ble_eq_true rfl) dX5_now_67) 70 rfl (fun r1 M2 hw => ?_)
        exact r_iret hR dX5_now_70 hw
      · have hw := hw.2 c2
        by_cases c3 : v1 = 3
        · have hw := hw.1 c3
          refine q_tabIn hC 71 dX5_now_1 (by rw [c3]; decide) (by rw [c3]; decide) (by rw [c3]; rfl) (by decide) ?_
          refine q_aload_n hC dX5_now_71 0 rfl 72 rfl ?_
          refine q_getR (C := RX5) (T := TX5) (N := 26) (ci := 5) hC inX5_now_X5 (obF52 hF) rfl 0 (by decide) (uX5_now__X5_endOf _ (List.mem_of_getElem? (l := owX5_endOf) (i := 1) rfl)) rfl 53 (fun _ => rfl) dX5_now_72 75 rfl ?_
          refine q_sipush (v := 340) hC dX5_now_75 (by decide) 78 rfl ?_
          refine q_ialdL hC (arF53 hF) 340 (by decide +kernel) (by decide +kernel) dX5_now_78 79 rfl ?_
          exact r_iret hR dX5_now_79 hw
        · have hw := hw.2 c3
          by_cases c4 : v1 = 4
          · have hw := hw.1 c4
            refine q_tabIn hC 80 dX5_now_1 (by rw [c4]; decide) (by rw [c4]; decide) (by rw [c4]; rfl) (by decide) ?_
            refine q_aload_n hC dX5_now_80 0 rfl 81 rfl ?_
            refine q_getR (C := RX5) (T := TX5) (N := 26) (ci := 5) hC inX5_now_X5 (obF52 hF) rfl 0 (by decide) (uX5_now__X5_endOf _ (List.mem_of_getElem? (l := owX5_endOf) (i := 1) rfl)) rfl 53 (fun _ => rfl) dX5_now_81 84 rfl ?_
            refine q_sipush (v := 327) hC dX5_now_84 (by decide) 87 rfl ?_
            refine q_ialdL hC (arF53 hF) 327 (by decide +kernel) (by decide +kernel) dX5_now_87 88 rfl ?_
            exact r_iret hR dX5_now_88 hw
          · have hw := hw.2 c4
            by_cases c5 : v1 = 5
            · have hw := hw.1 c5
              refine q_tabIn hC 89 dX5_now_1 (by rw [c5]; decide) (by rw [c5]; decide) (by rw [c5]; rfl) (by decide) ?_
              refine q_aload_n hC dX5_now_89 0 rfl 90 rfl ?_
              refine q_getR (C := RX5) (T := TX5) (N := 26) (ci := 5) hC inX5_now_X5 (obF52 hF) rfl 0 (by decide) (uX5_now__X5_endOf _ (List.mem_of_getElem? (l := owX5_endOf) (i := 1) rfl)) rfl 53 (fun _ => rfl) dX5_now_90 93 rfl ?_
              refine q_sipush (v := 366) hC dX5_now_93 (by decide) 96 rfl ?_
              refine q_ialdL hC (arF53 hF) 366 (by decide +kernel) (by decide +kernel) dX5_now_96 97 rfl ?_
              refine q_aload_n hC dX5_now_97 0 rfl 98 rfl ?_
              refine r_callI hC (go_V (q := (RX5, TX5, 26)) (As := []) (rest := [.int (M 53 366)]) hC (ctX5_endOfAll (zl z) g M _ hF hw) 0 gX5_now_X5_endOfAll rfl ⟨rfl, rfl⟩ hdV_X5_endOfAll ⟨Nat.le_of_ble_eq_true rfl, Nat.le_of_ble_eq_true rfl⟩ (obF52 hF) rfl rfl rfl (Nat.le_of_ble_eq_true rfl) dX5_now_98) 101 rfl (fun r3 M4 hw => ?_)
              refine q_isub hC dX5_now_101 102 rfl ?_
              exact r_iret hR dX5_now_102 hw
            · have hw := hw.2 c5
              refine q_tabOut hC 103 dX5_now_1 (tab_out5 c0 c1 c2 c3 c4 c5) (by decide) ?_
              refine q_iconst (v := (-1)) hC dX5_now_103 rfl 104 rfl ?_
              exact r_iret hR dX5_now_104 hw
theorem inX5_within_X5 : ∀ w ∈ u_ws RX5 TX5 26, w ∈ wsX5_within := uX5_within__wsX50
set_option maxRecDepth 100000 in
set_option maxHeartbeats 4000000 in
theorem ctX5_within (l : Launch) (g : GG) (M : MM) (v1 : Int32) (v2 : Int32) (Q : Int32 → MM → Prop) (hF : ful5 g) (hw : wX5_within Q M v1 v2) : MI g l yX5_within wsX5_within (rmOf 4 90) [.ref (gA g 52), .int v1, .int v2] M Q := by
  refine mk_MI (cc := cX5_within) (maxL := 5) (by decide) rfl (Nat.le_of_ble_eq_true rfl) ?_
  intro z Qf hC hR
  show XX z g Qf 5 0 [(0, .ref (gA g 52)), (1, .int v1), (2, .int v2)] [] M
  have B124 : ∀ (K83 : MM → Int32 → Int32 → Prop) (hK83 : ∀ (M : MM) (v3 : Int32) (v4 : Int32) , K83 M v3 v4 → XX z g Qf 5 83 [(0, .ref (gA g 52)), (1, .int v1), (2, .int v2), (3, .int v3), (4, .int v4)] [] M) (M : MM) (v4 : Int32) (p0 : Int32), wX5_within_124 Q K83 v1 v2 M v4 p0 → XX z g Qf 5 124 [(0, .ref (gA g 52)), (1, .int v1), (2, .int v2), (4, .int v4)] [.int p0] M := by
    intro K83 hK83 M v4 p0 hw
    refine q_istore_n (L' := [(3, .int p0), (0, .ref (gA g 52)), (1, .int v1), (2, .int v2), (4, .int v4)]) hC dX5_within_124 (by decide) rfl 125 rfl ?_
    refine q_iinc (v := v4 + 1) (L' := [(4, .int (v4 + 1)), (3, .int p0), (0, .ref (gA g 52)), (1, .int v1), (2, .int v2)]) hC dX5_within_125 4 rfl rfl (by decide) rfl 128 rfl ?_
    refine q_goto hC 83 dX5_within_128 (by decide) ?_
    exact XX.sub [2, 3, 4, 1, 0] rfl (hK83 M p0 (v4 + 1) hw)
  have B83 : ∀ (n : Nat) (M : MM) (v3 : Int32) (v4 : Int32) , wX5_within_83 Q v1 v2 n M v3 v4 → XX z g Qf 5 83 [(0, .ref (gA g 52)), (1, .int v1), (2, .int v2), (3, .int v3), (4, .int v4)] [] M := by
    intro n
    induction n with
    | zero =>
      intro M v3 v4 hw
      exact hw.elim
    | succ n ih =>
      intro M v3 v4 hw
      refine q_iload hC dX5_within_83 4 rfl 85 rfl ?_
      refine q_aload_n hC dX5_within_85 0 rfl 86 rfl ?_
      refine q_getR (C := RX5) (T := TX5) (N := 26) (ci := 5) hC inX5_within_X5 (obF52 hF) rfl 0 (by decide) (uX5_within__X5_woundTo _ (List.mem_of_getElem? (l := owX5_woundTo) (i := 1) rfl)) rfl 53 (fun _ => rfl) dX5_within_86 89 rfl ?_
      refine q_sipush (v := 366) hC dX5_within_89 (by decide) 92 rfl ?_
      refine q_ialdL hC (arF53 hF) 366 (by decide +kernel) (by decide +kernel) dX5_within_92 93 rfl ?_
      refine q_icmp_gt hC 131 dX5_within_93 (by decide) 96 rfl hw (fun hw => ?_) (fun hw => ?_)
      · refine q_iload_n hC dX5_within_131 3 rfl 132 rfl ?_
        exact r_iret hR dX5_within_132 hw
      · refine q_iload_n hC dX5_within_96 2 rfl 97 rfl ?_
        refine q_if_ne hC 131 dX5_within_97 (by decide) 100 rfl hw (fun hw => ?_) (fun hw => ?_)
        · refine q_iload_n hC dX5_within_131 3 rfl 132 rfl ?_
          exact r_iret hR dX5_within_132 hw
        · refine q_aload_n hC dX5_within_100 0 rfl 101 rfl ?_
          refine q_aload_n hC dX5_within_101 0 rfl 102 rfl ?_
          refine q_getR (C := RX5) (T := TX5) (N := 26) (ci := 5) hC inX5_within_X5 (obF52 hF) rfl 0 (by decide) (uX5_within__X5_woundTo _ (List.mem_of_getElem? (l := owX5_woundTo) (i := 1) rfl)) rfl 53 (fun _ => rfl) dX5_within_102 105 rfl ?_
          refine q_sipush (v := 325) hC dX5_within_105 (by decide) 108 rfl ?_
          refine q_ialdL hC (arF53 hF) 325 (by decide +kernel) (by decide +kernel) dX5_within_108 109 rfl ?_
          refine q_iload hC dX5_within_109 4 rfl 111 rfl ?_
          refine r_callI hC (go_V (q := (RX5, TX5, 26)) (As := [.int (M 53 325), .int v4]) (rest := []) hC (ctX5_sooner (zl z) g M (M 53 325) v4 _ hF hw) 2 gX5_within_X5_sooner rfl ⟨rfl, rfl⟩ hdV_X5_sooner ⟨Nat.le_of_ble_eq_true rfl, Nat.le_of_ble_eq_true rfl⟩ (obF52 hF) rfl rfl rfl (Nat.le_of_ble_eq_true rfl) dX5_within_111) 114 rfl (fun r5 M6 hw => ?_)
          refine q_iload_n hC dX5_within_114 1 rfl 115 rfl ?_
          refine q_icmp_gt hC 123 dX5_within_115 (by decide) 118 rfl hw (fun hw => ?_) (fun hw => ?_)
          · refine q_iload_n hC dX5_within_123 3 rfl 124 rfl ?_
            exact XX.sub [0, 1, 2, 4] rfl (B124 _ (fun M v3 v4 hw => ih M v3 v4 hw) M6 v4 v3 hw)
          · refine q_iload hC dX5_within_118 4 rfl 120 rfl ?_
            refine q_goto hC 124 dX5_within_120 (by decide) ?_
            exact XX.sub [0, 1, 2, 4] rfl (B124 _ (fun M v3 v4 hw => ih M v3 v4 hw) M6 v4 v4 hw)
  have B73 : ∀ (M : MM) (v3 : Int32), wX5_within_73 Q v1 v2 M v3 → XX z g Qf 5 73 [(0, .ref (gA g 52)), (1, .int v1), (2, .int v2), (3, .int v3)] [] M := by
    intro M v3 hw
    refine q_aload_n hC dX5_within_73 0 rfl 74 rfl ?_
    refine q_getR (C := RX5) (T := TX5) (N := 26) (ci := 5) hC inX5_within_X5 (obF52 hF) rfl 0 (by decide) (uX5_within__X5_woundTo _ (List.mem_of_getElem? (l := owX5_woundTo) (i := 1) rfl)) rfl 53 (fun _ => rfl) dX5_within_74 77 rfl ?_
    refine q_sipush (v := 325) hC dX5_within_77 (by decide) 80 rfl ?_
    refine q_ialdL hC (arF53 hF) 325 (by decide +kernel) (by decide +kernel) dX5_within_80 81 rfl ?_
    refine q_istore (L' := [(4, .int (M 53 325)), (0, .ref (gA g 52)), (1, .int v1), (2, .int v2), (3, .int v3)]) hC dX5_within_81 (by decide) rfl 83 rfl ?_
    obtain ⟨n0, hw⟩ := hw
    exact XX.sub [1, 2, 3, 4, 0] rfl (B83 n0 M v3 (M 53 325) hw)
  have B66 : ∀ (K33 : MM → Int32 → Int32 → Prop) (hK33 : ∀ (M : MM) (v3 : Int32) (v4 : Int32) , K33 M v3 v4 → XX z g Qf 5 33 [(0, .ref (gA g 52)), (1, .int v1), (2, .int v2), (3, .int v3), (4, .int v4)] [] M) (M : MM) (v4 : Int32) (p0 : Int32), wX5_within_66 Q K33 v1 v2 M v4 p0 → XX z g Qf 5 66 [(0, .ref (gA g 52)), (1, .int v1), (2, .int v2), (4, .int v4)] [.int p0] M := by
    intro K33 hK33 M v4 p0 hw
    refine q_istore_n (L' := [(3, .int p0), (0, .ref (gA g 52)), (1, .int v1), (2, .int v2), (4, .int v4)]) hC dX5_within_66 (by decide) rfl 67 rfl ?_
    refine q_iinc (v := v4 + (-1)) (L' := [(4, .int (v4 + (-1))), (3, .int p0), (0, .ref (gA g 52)), (1, .int v1), (2, .int v2)]) hC dX5_within_67 4 rfl rfl (by decide) rfl 70 rfl ?_
    refine q_goto hC 33 dX5_within_70 (by decide) ?_
    exact XX.sub [2, 3, 4, 1, 0] rfl (hK33 M p0 (v4 + (-1)) hw)
  have B33 : ∀ (n : Nat) (M : MM) (v3 : Int32) (v4 : Int32) , wX5_within_33 Q v1 v2 n M v3 v4 → XX z g Qf 5 33 [(0, .ref (gA g 52)), (1, .int v1), (2, .int v2), (3, .int v3), (4, .int v4)] [] M := by
    intro n
    induction n with
    | zero =>
      intro M v3 v4 hw
      exact hw.elim
    | succ n ih =>
      intro M v3 v4 hw
      refine q_iload hC dX5_within_33 4 rfl 35 rfl ?_
      refine q_if_lt hC 73 dX5_within_35 (by decide) 38 rfl hw (fun hw => ?_) (fun hw => ?_)
      · exact XX.sub [0, 1, 2, 3] rfl (B73 M v3 hw)
      · refine q_iload_n hC dX5_within_38 2 rfl 39 rfl ?_
        refine q_if_eq hC 73 dX5_within_39 (by decide) 42 rfl hw (fun hw => ?_) (fun hw => ?_)
        · exact XX.sub [0, 1, 2, 3] rfl (B73 M v3 hw)
        · refine q_aload_n hC dX5_within_42 0 rfl 43 rfl ?_
          refine q_aload_n hC dX5_within_43 0 rfl 44 rfl ?_
          refine q_getR (C := RX5) (T := TX5) (N := 26) (ci := 5) hC inX5_within_X5 (obF52 hF) rfl 0 (by decide) (uX5_within__X5_woundTo _ (List.mem_of_getElem? (l := owX5_woundTo) (i := 1) rfl)) rfl 53 (fun _ => rfl) dX5_within_44 47 rfl ?_
          refine q_sipush (v := 325) hC dX5_within_47 (by decide) 50 rfl ?_
          refine q_ialdL hC (arF53 hF) 325 (by decide +kernel) (by decide +kernel) dX5_within_50 51 rfl ?_
          refine q_iload hC dX5_within_51 4 rfl 53 rfl ?_
          refine r_callI hC (go_V (q := (RX5, TX5, 26)) (As := [.int (M 53 325), .int v4]) (rest := []) hC (ctX5_sooner (zl z) g M (M 53 325) v4 _ hF hw) 2 gX5_within_X5_sooner rfl ⟨rfl, rfl⟩ hdV_X5_sooner ⟨Nat.le_of_ble_eq_true rfl, Nat.le_of_ble_eq_true rfl⟩ (obF52 hF) rfl rfl rfl (Nat.le_of_ble_eq_true rfl) dX5_within_53) 56 rfl (fun r3 M4 hw => ?_)
          refine q_iload_n hC dX5_within_56 1 rfl 57 rfl ?_
          refine q_icmp_gt hC 65 dX5_within_57 (by decide) 60 rfl hw (fun hw => ?_) (fun hw => ?_)
          · refine q_iload_n hC dX5_within_65 3 rfl 66 rfl ?_
            exact XX.sub [0, 1, 2, 4] rfl (B66 _ (fun M v3 v4 hw => ih M v3 v4 hw) M4 v4 v3 hw)
          · refine q_iload hC dX5_within_60 4 rfl 62 rfl ?_
            refine q_goto hC 66 dX5_within_62 (by decide) ?_
            exact XX.sub [0, 1, 2, 4] rfl (B66 _ (fun M v3 v4 hw => ih M v3 v4 hw) M4 v4 v4 hw)
  refine q_iload_n hC dX5_within_0 1 rfl 1 rfl ?_
  refine q_i2l hC dX5_within_1 2 rfl ?_
  refine q_lconst (v := 0) hC dX5_within_2 rfl 3 rfl ?_
  refine q_ldc2 (v := 999999) hC (uX5_within__o _ (List.mem_of_getElem? (l := owX5_within) (i := 1) rfl)) dX5_within_3 6 rfl ?_
  refine r_callI hC (go_T (As := [.long (v1.toInt64), .long 0, .long 999999]) (rest := []) hC (ctX5_in (zl z) g M (v1.toInt64) 0 999999 _ hw) 3 gX5_within_X5_in rfl ⟨rfl, rfl⟩ hdT_X5_in ⟨Nat.le_of_ble_eq_true rfl, Nat.le_of_ble_eq_true rfl⟩ rfl rfl (Nat.le_of_ble_eq_true rfl) dX5_within_6) 9 rfl (fun r1 M2 hw => ?_)
  refine q_if_ne hC 14 dX5_within_9 (by decide) 12 rfl hw (fun hw => ?_) (fun hw => ?_)
  · refine q_aload_n hC dX5_within_14 0 rfl 15 rfl ?_
    refine q_getR (C := RX5) (T := TX5) (N := 26) (ci := 5) hC inX5_within_X5 (obF52 hF) rfl 0 (by decide) (uX5_within__X5_woundTo _ (List.mem_of_getElem? (l := owX5_woundTo) (i := 1) rfl)) rfl 53 (fun _ => rfl) dX5_within_15 18 rfl ?_
    refine q_sipush (v := 325) hC dX5_within_18 (by decide) 21 rfl ?_
    refine q_ialdL hC (arF53 hF) 325 (by decide +kernel) (by decide +kernel) dX5_within_21 22 rfl ?_
    refine q_istore_n (L' := [(3, .int (M2 53 325)), (0, .ref (gA g 52)), (1, .int v1), (2, .int v2)]) hC dX5_within_22 (by decide) rfl 23 rfl ?_
    refine q_aload_n hC dX5_within_23 1 rfl 24 rfl ?_
    refine q_getR (C := RX5) (T := TX5) (N := 26) (ci := 5) hC inX5_within_X5 (obF52 hF) rfl 0 (by decide) (uX5_within__X5_woundTo _ (List.mem_of_getElem? (l := owX5_woundTo) (i := 1) rfl)) rfl 53 (fun _ => rfl) dX5_within_24 27 rfl ?_
    refine q_sipush (v := 325) hC dX5_within_27 (by decide) 30 rfl ?_
    refine q_ialdL hC (arF53 hF) 325 (by decide +kernel) (by decide +kernel) dX5_within_30 31 rfl ?_
    refine q_istore (L' := [(4, .int (M2 53 325)), (3, .int (M2 53 325)), (0, .ref (gA g 52)), (1, .int v1), (2, .int v2)]) hC dX5_within_31 (by decide) rfl 33 rfl ?_
    obtain ⟨n0, hw⟩ := hw
    exact XX.sub [2, 3, 4, 1, 0] rfl (B33 n0 M2 (M2 53 325) (M2 53 325) hw)
  · refine q_iconst (v := (-1)) hC dX5_within_12 rfl 13 rfl ?_
    exact r_iret hR dX5_within_13 hw
theorem inX5_isBlock_X5 : ∀ w ∈ u_ws RX5 TX5 26, w ∈ wsX5_isBlock := uX5_isBlock__wsX50
set_option maxRecDepth 100000 in
set_option maxHeartbeats 4000000 in
theorem ctX5_isBlock (l : Launch) (g : GG) (M : MM) (v1 : Int32) (Q : Int32 → MM → Prop) (hF : ful5 g) (hw : wX5_isBlock Q M v1) : MI g l yX5_isBlock wsX5_isBlock (rmOf 1 25) [.ref (gA g 52), .int v1] M Q := by
  refine mk_MZ (cc := cX5_isBlock) (maxL := 2) (by decide) rfl (Nat.le_of_ble_eq_true rfl) ?_
  intro z Qf hC hR
  show XX z g Qf 2 0 [(0, .ref (gA g 52)), (1, .int v1)] [] M
  refine q_iload_n hC dX5_isBlock_0 1 rfl 1 rfl ?_
  refine q_i2l hC dX5_isBlock_1 2 rfl ?_
  refine q_lconst (v := 0) hC dX5_isBlock_2 rfl 3 rfl ?_
  refine q_aload_n hC dX5_isBlock_3 0 rfl 4 rfl ?_
  refine q_getR (C := RX5) (T := TX5) (N := 26) (ci := 5) hC inX5_isBlock_X5 (obF52 hF) rfl 0 (by decide) (uX5_isBlock__o _ (List.mem_of_getElem? (l := owX5_isBlock) (i := 1) rfl)) rfl 53 (fun _ => rfl) dX5_isBlock_4 7 rfl ?_
  refine q_iconst (v := 0) hC dX5_isBlock_7 rfl 8 rfl ?_
  refine q_ialdL hC (arF53 hF) 0 (by decide +kernel) (by decide +kernel) dX5_isBlock_8 9 rfl ?_
  refine q_iconst (v := 1) hC dX5_isBlock_9 rfl 10 rfl ?_
  refine q_isub hC dX5_isBlock_10 11 rfl ?_
  refine q_i2l hC dX5_isBlock_11 12 rfl ?_
  refine r_callI hC (go_T (As := [.long (v1.toInt64), .long 0, .long (((M 53 0) - (1 : Int32)).toInt64)]) (rest := []) hC (ctX5_in (zl z) g M (v1.toInt64) 0 (((M 53 0) - (1 : Int32)).toInt64) _ hw) 3 gX5_isBlock_X5_in rfl ⟨rfl, rfl⟩ hdT_X5_in ⟨Nat.le_of_ble_eq_true rfl, Nat.le_of_ble_eq_true rfl⟩ rfl rfl (Nat.le_of_ble_eq_true rfl) dX5_isBlock_12) 15 rfl (fun r1 M2 hw => ?_)
  exact r_iret hR dX5_isBlock_15 hw
theorem inX5_columnOf_X5 : ∀ w ∈ u_ws RX5 TX5 26, w ∈ wsX5_columnOf := uX5_columnOf__wsX50
set_option maxRecDepth 100000 in
set_option maxHeartbeats 4000000 in
theorem ctX5_columnOf (l : Launch) (g : GG) (M : MM) (v1 : Int32) (v2 : Int32) (Q : Int32 → MM → Prop) (hF : ful5 g) (hw : wX5_columnOf Q M v1 v2) : MI g l yX5_columnOf wsX5_columnOf (rmOf 0 0) [.ref (gA g 52), .int v1, .int v2] M Q := by
  refine mk_MI (cc := cX5_columnOf) (maxL := 3) (by decide) rfl (Nat.le_of_ble_eq_true rfl) ?_
  intro z Qf hC hR
  show XX z g Qf 3 0 [(0, .ref (gA g 52)), (1, .int v1), (2, .int v2)] [] M
  refine q_aload_n hC dX5_columnOf_0 0 rfl 1 rfl ?_
  refine q_getR (C := RX5) (T := TX5) (N := 26) (ci := 5) hC inX5_columnOf_X5 (obF52 hF) rfl 0 (by decide) (uX5_columnOf__o _ (List.mem_of_getElem? (l := owX5_columnOf) (i := 1) rfl)) rfl 53 (fun _ => rfl) dX5_columnOf_1 4 rfl ?_
  refine q_bipush (v := 25) hC dX5_columnOf_4 (by decide) 6 rfl ?_
  refine q_bipush (v := 13) hC dX5_columnOf_6 (by decide) 8 rfl ?_
  refine q_iload_n hC dX5_columnOf_8 1 rfl 9 rfl ?_
  refine q_imul hC dX5_columnOf_9 10 rfl ?_
  refine q_iadd hC dX5_columnOf_10 11 rfl ?_
  refine q_iload_n hC dX5_columnOf_11 2 rfl 12 rfl ?_
  refine q_iadd hC dX5_columnOf_12 13 rfl ?_
  obtain ⟨hin, hw⟩ := hw
  refine q_iald hC (arF53 hF) hin dX5_columnOf_13 14 rfl ?_
  exact r_iret hR dX5_columnOf_14 hw
theorem hdV_X5_isBlock : yX5_isBlock.cls = RX5 ∧ yX5_isBlock.cls ≠ "java/lang/invoke/MethodHandle" ∧ yX5_isBlock.cls ≠ "java/lang/invoke/VarHandle" ∧ (parseMethodDescriptor yX5_isBlock.desc).map (fun d => d.parameters.length) = some 1 := by decide +kernel
theorem hdV_X5_columnOf : yX5_columnOf.cls = RX5 ∧ yX5_columnOf.cls ≠ "java/lang/invoke/MethodHandle" ∧ yX5_columnOf.cls ≠ "java/lang/invoke/VarHandle" ∧ (parseMethodDescriptor yX5_columnOf.desc).map (fun d => d.parameters.length) = some 2 := by decide +kernel
theorem inX5_block_X5 : ∀ w ∈ u_ws RX5 TX5 26, w ∈ wsX5_block := uX5_block__wsX50
set_option maxRecDepth 100000 in
set_option maxHeartbeats 4000000 in
theorem ctX5_block (l : Launch) (g : GG) (M : MM) (v1 : Int32) (v2 : Int32) (Q : Int32 → MM → Prop) (hF : ful5 g) (hw : wX5_block Q M v1 v2) : MI g l yX5_block wsX5_block (rmOf 2 46) [.ref (gA g 52), .int v1, .int v2] M Q := by
  refine mk_MI (cc := cX5_block) (maxL := 4) (by decide) rfl (Nat.le_of_ble_eq_true rfl) ?_
  intro z Qf hC hR
  show XX z g Qf 4 0 [(0, .ref (gA g 52)), (1, .int v1), (2, .int v2)] [] M
  refine q_aload_n hC dX5_block_0 0 rfl 1 rfl ?_
  refine q_iload_n hC dX5_block_1 1 rfl 2 rfl ?_
  refine r_callI hC (go_V (q := (RX5, TX5, 26)) (As := [.int v1]) (rest := []) hC (ctX5_isBlock (zl z) g M v1 _ hF hw) 1 gX5_block_X5_isBlock rfl ⟨rfl, rfl⟩ hdV_X5_isBlock ⟨Nat.le_of_ble_eq_true rfl, Nat.le_of_ble_eq_true rfl⟩ (obF52 hF) rfl rfl rfl (Nat.le_of_ble_eq_true rfl) dX5_block_2) 5 rfl (fun r1 M2 hw => ?_)
  refine q_if_ne hC 10 dX5_block_5 (by decide) 8 rfl hw (fun hw => ?_) (fun hw => ?_)
  · refine q_aload_n hC dX5_block_10 0 rfl 11 rfl ?_
    refine q_getR (C := RX5) (T := TX5) (N := 26) (ci := 5) hC inX5_block_X5 (obF52 hF) rfl 0 (by decide) (uX5_block__X5_isBlock _ (List.mem_of_getElem? (l := owX5_isBlock) (i := 1) rfl)) rfl 53 (fun _ => rfl) dX5_block_11 14 rfl ?_
    refine q_bipush (v := 13) hC dX5_block_14 (by decide) 16 rfl ?_
    refine q_iload_n hC dX5_block_16 1 rfl 17 rfl ?_
    refine q_iadd hC dX5_block_17 18 rfl ?_
    obtain ⟨hin, hw⟩ := hw
    refine q_iald hC (arF53 hF) hin dX5_block_18 19 rfl ?_
    refine q_nameI (fun x3 ex3 => ?_)
    have hw := hw x3 ex3
    refine q_istore_n (L' := [(3, .int x3), (0, .ref (gA g 52)), (1, .int v1), (2, .int v2)]) hC dX5_block_19 (by decide) rfl 20 rfl ?_
    refine q_iload_n hC dX5_block_20 3 rfl 21 rfl ?_
    by_cases c0 : v2 = 0
    · have hw := hw.1 c0
      refine q_tabIn hC 56 dX5_block_21 (by rw [c0]; decide) (by rw [c0]; decide) (by rw [c0]; rfl) (by decide) ?_
      refine q_aload_n hC dX5_block_56 1 rfl 57 rfl ?_
      refine q_getR (C := RX5) (T := TX5) (N := 26) (ci := 5) hC inX5_block_X5 (obF52 hF) rfl 0 (by decide) (uX5_block__X5_isBlock _ (List.mem_of_getElem? (l := owX5_isBlock) (i := 1) rfl)) rfl 53 (fun _ => rfl) dX5_block_57 60 rfl ?_
      refine q_iconst (v := 1) hC dX5_block_60 rfl 61 rfl ?_
      refine q_iload_n hC dX5_block_61 2 rfl 62 rfl ?_
      refine q_iadd hC dX5_block_62 63 rfl ?_
      obtain ⟨hin, hw⟩ := hw
      refine q_iald hC (arF53 hF) hin dX5_block_63 64 rfl ?_
      exact r_iret hR dX5_block_64 hw
    · have hw := hw.2 c0
      by_cases c1 : v2 = 1
      · have hw := hw.1 c1
        refine q_tabIn hC 65 dX5_block_21 (by rw [c1]; decide) (by rw [c1]; decide) (by rw [c1]; rfl) (by decide) ?_
        refine q_aload_n hC dX5_block_65 1 rfl 66 rfl ?_
        refine q_iload_n hC dX5_block_66 0 rfl 67 rfl ?_
        refine r_callI hC (go_V (q := (RX5, TX5, 26)) (As := [.int x3]) (rest := []) hC (ctX5_longOf (zl z) g M2 x3 _ hF hw) 1 gX5_block_X5_longOf rfl ⟨rfl, rfl⟩ hdV_X5_longOf ⟨Nat.le_of_ble_eq_true rfl, Nat.le_of_ble_eq_true rfl⟩ (obF52 hF) rfl rfl rfl (Nat.le_of_ble_eq_true rfl) dX5_block_67) 70 rfl (fun r4 M5 hw => ?_)
        exact r_iret hR dX5_block_70 hw
      · have hw := hw.2 c1
        by_cases c2 : v2 = 2
        · have hw := hw.1 c2
          refine q_tabIn hC 71 dX5_block_21 (by rw [c2]; decide) (by rw [c2]; decide) (by rw [c2]; rfl) (by decide) ?_
          refine q_iload_n hC dX5_block_71 0 rfl 72 rfl ?_
          exact r_iret hR dX5_block_72 hw
        · have hw := hw.2 c2
          by_cases c3 : v2 = 3
          · have hw := hw.1 c3
            refine q_tabIn hC 73 dX5_block_21 (by rw [c3]; decide) (by rw [c3]; decide) (by rw [c3]; rfl) (by decide) ?_
            refine q_iload_n hC dX5_block_73 0 rfl 74 rfl ?_
            refine q_if_ne hC 81 dX5_block_74 (by decide) 77 rfl hw (fun hw => ?_) (fun hw => ?_)
            · refine q_aload_n hC dX5_block_81 1 rfl 82 rfl ?_
              refine q_iload_n hC dX5_block_82 2 rfl 83 rfl ?_
              refine q_iload_n hC dX5_block_83 0 rfl 84 rfl ?_
              refine r_callI hC (go_V (q := (RX5, TX5, 26)) (As := [.int v1, .int x3]) (rest := []) hC (ctX5_columnOf (zl z) g M2 v1 x3 _ hF hw) 2 gX5_block_X5_columnOf rfl ⟨rfl, rfl⟩ hdV_X5_columnOf ⟨Nat.le_of_ble_eq_true rfl, Nat.le_of_ble_eq_true rfl⟩ (obF52 hF) rfl rfl rfl (Nat.le_of_ble_eq_true rfl) dX5_block_84) 87 rfl (fun r6 M7 hw => ?_)
              exact r_iret hR dX5_block_87 hw
            · refine q_iconst (v := 0) hC dX5_block_77 rfl 78 rfl ?_
              refine q_goto hC 87 dX5_block_78 (by decide) ?_
              exact r_iret hR dX5_block_87 hw
          · have hw := hw.2 c3
            by_cases c4 : v2 = 4
            · have hw := hw.1 c4
              refine q_tabIn hC 88 dX5_block_21 (by rw [c4]; decide) (by rw [c4]; decide) (by rw [c4]; rfl) (by decide) ?_
              refine q_aload_n hC dX5_block_88 1 rfl 89 rfl ?_
              refine q_iload_n hC dX5_block_89 2 rfl 90 rfl ?_
              refine r_callI hC (go_V (q := (RX5, TX5, 26)) (As := [.int v1]) (rest := []) hC (ctX5_endOf (zl z) g M2 v1 _ hF hw) 1 gX5_block_X5_endOf rfl ⟨rfl, rfl⟩ hdV_X5_endOf ⟨Nat.le_of_ble_eq_true rfl, Nat.le_of_ble_eq_true rfl⟩ (obF52 hF) rfl rfl rfl (Nat.le_of_ble_eq_true rfl) dX5_block_90) 93 rfl (fun r8 M9 hw => ?_)
              exact r_iret hR dX5_block_93 hw
            · have hw := hw.2 c4
              refine q_tabOut hC 94 dX5_block_21 (tab_out4 c0 c1 c2 c3 c4) (by decide) ?_
              refine q_iconst (v := (-1)) hC dX5_block_94 rfl 95 rfl ?_
              exact r_iret hR dX5_block_95 hw
  · refine q_iconst (v := (-1)) hC dX5_block_8 rfl 9 rfl ?_
    exact r_iret hR dX5_block_9 hw
theorem inX5_blockAt_X5 : ∀ w ∈ u_ws RX5 TX5 26, w ∈ wsX5_blockAt := uX5_blockAt__wsX50
set_option maxRecDepth 100000 in
set_option maxHeartbeats 4000000 in
theorem ctX5_blockAt (l : Launch) (g : GG) (M : MM) (v1 : Int32) (Q : Int32 → MM → Prop) (hF : ful5 g) (hw : wX5_blockAt Q M v1) : MI g l yX5_blockAt wsX5_blockAt (rmOf 2 46) [.ref (gA g 52), .int v1] M Q := by
  refine mk_MI (cc := cX5_blockAt) (maxL := 4) (by decide) rfl (Nat.le_of_ble_eq_true rfl) ?_
  intro z Qf hC hR
  show XX z g Qf 4 0 [(0, .ref (gA g 52)), (1, .int v1)] [] M
  have B55 : ∀ (K15 : MM → Int32 → Int32 → Prop) (hK15 : ∀ (M : MM) (v2 : Int32) (v3 : Int32) , K15 M v2 v3 → XX z g Qf 4 15 [(0, .ref (gA g 52)), (1, .int v1), (2, .int v2), (3, .int v3)] [] M) (M : MM) (v3 : Int32) (p0 : Int32), wX5_blockAt_55 Q K15 v1 M v3 p0 → XX z g Qf 4 55 [(0, .ref (gA g 52)), (1, .int v1), (3, .int v3)] [.int p0] M := by
    intro K15 hK15 M v3 p0 hw
    refine q_istore_n (L' := [(2, .int p0), (0, .ref (gA g 52)), (1, .int v1), (3, .int v3)]) hC dX5_blockAt_55 (by decide) rfl 56 rfl ?_
    refine q_iinc (v := v3 + 1) (L' := [(3, .int (v3 + 1)), (2, .int p0), (0, .ref (gA g 52)), (1, .int v1)]) hC dX5_blockAt_56 3 rfl rfl (by decide) rfl 59 rfl ?_
    refine q_goto hC 15 dX5_blockAt_59 (by decide) ?_
    exact XX.sub [2, 3, 1, 0] rfl (hK15 M p0 (v3 + 1) hw)
  have B15 : ∀ (n : Nat) (M : MM) (v2 : Int32) (v3 : Int32) , wX5_blockAt_15 Q v1 n M v2 v3 → XX z g Qf 4 15 [(0, .ref (gA g 52)), (1, .int v1), (2, .int v2), (3, .int v3)] [] M := by
    intro n
    induction n with
    | zero =>
      intro M v2 v3 hw
      exact hw.elim
    | succ n ih =>
      intro M v2 v3 hw
      refine q_iload_n hC dX5_blockAt_15 3 rfl 16 rfl ?_
      refine q_aload_n hC dX5_blockAt_16 0 rfl 17 rfl ?_
      refine q_getR (C := RX5) (T := TX5) (N := 26) (ci := 5) hC inX5_blockAt_X5 (obF52 hF) rfl 0 (by decide) (uX5_blockAt__X5_isPlace _ (List.mem_of_getElem? (l := owX5_isPlace) (i := 1) rfl)) rfl 53 (fun _ => rfl) dX5_blockAt_17 20 rfl ?_
      refine q_iconst (v := 0) hC dX5_blockAt_20 rfl 21 rfl ?_
      refine q_ialdL hC (arF53 hF) 0 (by decide +kernel) (by decide +kernel) dX5_blockAt_21 22 rfl ?_
      refine q_icmp_ge hC 62 dX5_blockAt_22 (by decide) 25 rfl hw (fun hw => ?_) (fun hw => ?_)
      · refine q_iload_n hC dX5_blockAt_62 2 rfl 63 rfl ?_
        exact r_iret hR dX5_blockAt_63 hw
      · refine q_iload_n hC dX5_blockAt_25 1 rfl 26 rfl ?_
        refine q_i2l hC dX5_blockAt_26 27 rfl ?_
        refine q_aload_n hC dX5_blockAt_27 0 rfl 28 rfl ?_
        refine q_getR (C := RX5) (T := TX5) (N := 26) (ci := 5) hC inX5_blockAt_X5 (obF52 hF) rfl 0 (by decide) (uX5_blockAt__X5_isPlace _ (List.mem_of_getElem? (l := owX5_isPlace) (i := 1) rfl)) rfl 53 (fun _ => rfl) dX5_blockAt_28 31 rfl ?_
        refine q_iconst (v := 1) hC dX5_blockAt_31 rfl 32 rfl ?_
        refine q_iload_n hC dX5_blockAt_32 3 rfl 33 rfl ?_
        refine q_iadd hC dX5_blockAt_33 34 rfl ?_
        obtain ⟨hin, hw⟩ := hw
        refine q_iald hC (arF53 hF) hin dX5_blockAt_34 35 rfl ?_
        refine q_i2l hC dX5_blockAt_35 36 rfl ?_
        refine q_aload_n hC dX5_blockAt_36 0 rfl 37 rfl ?_
        refine q_iload_n hC dX5_blockAt_37 3 rfl 38 rfl ?_
        refine r_callI hC (go_V (q := (RX5, TX5, 26)) (As := [.int v3]) (rest := [.long ((M 53 ((1 : Int32) + v3).toNatClampNeg).toInt64), .long (v1.toInt64)]) hC (ctX5_endOf (zl z) g M v3 _ hF hw) 1 gX5_blockAt_X5_endOf rfl ⟨rfl, rfl⟩ hdV_X5_endOf ⟨Nat.le_of_ble_eq_true rfl, Nat.le_of_ble_eq_true rfl⟩ (obF52 hF) rfl rfl rfl (Nat.le_of_ble_eq_true rfl) dX5_blockAt_38) 41 rfl (fun r3 M4 hw => ?_)
        refine q_iconst (v := 1) hC dX5_blockAt_41 rfl 42 rfl ?_
        refine q_isub hC dX5_blockAt_42 43 rfl ?_
        refine q_i2l hC dX5_blockAt_43 44 rfl ?_
        refine r_callI hC (go_T (As := [.long (v1.toInt64), .long ((M 53 ((1 : Int32) + v3).toNatClampNeg).toInt64), .long ((r3 - (1 : Int32)).toInt64)]) (rest := []) hC (ctX5_in (zl z) g M4 (v1.toInt64) ((M 53 ((1 : Int32) + v3).toNatClampNeg).toInt64) ((r3 - (1 : Int32)).toInt64) _ hw) 3 gX5_blockAt_X5_in rfl ⟨rfl, rfl⟩ hdT_X5_in ⟨Nat.le_of_ble_eq_true rfl, Nat.le_of_ble_eq_true rfl⟩ rfl rfl (Nat.le_of_ble_eq_true rfl) dX5_blockAt_44) 47 rfl (fun r5 M6 hw => ?_)
        refine q_if_eq hC 54 dX5_blockAt_47 (by decide) 50 rfl hw (fun hw => ?_) (fun hw => ?_)
        · refine q_iload_n hC dX5_blockAt_54 2 rfl 55 rfl ?_
          exact XX.sub [0, 1, 3] rfl (B55 _ (fun M v2 v3 hw => ih M v2 v3 hw) M6 v3 v2 hw)
        · refine q_iload_n hC dX5_blockAt_50 3 rfl 51 rfl ?_
          refine q_goto hC 55 dX5_blockAt_51 (by decide) ?_
          exact XX.sub [0, 1, 3] rfl (B55 _ (fun M v2 v3 hw => ih M v2 v3 hw) M6 v3 v3 hw)
  refine q_aload_n hC dX5_blockAt_0 0 rfl 1 rfl ?_
  refine q_iload_n hC dX5_blockAt_1 1 rfl 2 rfl ?_
  refine r_callI hC (go_V (q := (RX5, TX5, 26)) (As := [.int v1]) (rest := []) hC (ctX5_isPlace (zl z) g M v1 _ hF hw) 1 gX5_blockAt_X5_isPlace rfl ⟨rfl, rfl⟩ hdV_X5_isPlace ⟨Nat.le_of_ble_eq_true rfl, Nat.le_of_ble_eq_true rfl⟩ (obF52 hF) rfl rfl rfl (Nat.le_of_ble_eq_true rfl) dX5_blockAt_2) 5 rfl (fun r1 M2 hw => ?_)
  refine q_if_ne hC 10 dX5_blockAt_5 (by decide) 8 rfl hw (fun hw => ?_) (fun hw => ?_)
  · refine q_bipush (v := (-4)) hC dX5_blockAt_10 (by decide) 12 rfl ?_
    refine q_istore_n (L' := [(2, .int (-4)), (0, .ref (gA g 52)), (1, .int v1)]) hC dX5_blockAt_12 (by decide) rfl 13 rfl ?_
    refine q_iconst (v := 0) hC dX5_blockAt_13 rfl 14 rfl ?_
    refine q_istore_n (L' := [(3, .int 0), (2, .int (-4)), (0, .ref (gA g 52)), (1, .int v1)]) hC dX5_blockAt_14 (by decide) rfl 15 rfl ?_
    obtain ⟨n0, hw⟩ := hw
    exact XX.sub [2, 3, 1, 0] rfl (B15 n0 M2 (-4) 0 hw)
  · refine q_iconst (v := (-1)) hC dX5_blockAt_8 rfl 9 rfl ?_
    exact r_iret hR dX5_blockAt_9 hw
theorem inX5_type_X5 : ∀ w ∈ u_ws RX5 TX5 26, w ∈ wsX5_type := uX5_type__wsX50
set_option maxRecDepth 100000 in
set_option maxHeartbeats 4000000 in
theorem ctX5_type (l : Launch) (g : GG) (M : MM) (v1 : Int32) (Q : Int32 → MM → Prop) (hF : ful5 g) (hw : wX5_type Q M v1) : MI g l yX5_type wsX5_type (rmOf 1 25) [.ref (gA g 52), .int v1] M Q := by
  refine mk_MI (cc := cX5_type) (maxL := 2) (by decide) rfl (Nat.le_of_ble_eq_true rfl) ?_
  intro z Qf hC hR
  show XX z g Qf 2 0 [(0, .ref (gA g 52)), (1, .int v1)] [] M
  refine q_iload_n hC dX5_type_0 1 rfl 1 rfl ?_
  refine q_i2l hC dX5_type_1 2 rfl ?_
  refine q_lconst (v := 0) hC dX5_type_2 rfl 3 rfl ?_
  refine q_ldc2 (v := 255) hC (uX5_type__o _ (List.mem_of_getElem? (l := owX5_type) (i := 1) rfl)) dX5_type_3 6 rfl ?_
  refine r_callI hC (go_T (As := [.long (v1.toInt64), .long 0, .long 255]) (rest := []) hC (ctX5_in (zl z) g M (v1.toInt64) 0 255 _ hw) 3 gX5_type_X5_in rfl ⟨rfl, rfl⟩ hdT_X5_in ⟨Nat.le_of_ble_eq_true rfl, Nat.le_of_ble_eq_true rfl⟩ rfl rfl (Nat.le_of_ble_eq_true rfl) dX5_type_6) 9 rfl (fun r1 M2 hw => ?_)
  refine q_if_ne hC 14 dX5_type_9 (by decide) 12 rfl hw (fun hw => ?_) (fun hw => ?_)
  · refine q_aload_n hC dX5_type_14 0 rfl 15 rfl ?_
    refine q_getR (C := RX5) (T := TX5) (N := 26) (ci := 5) hC inX5_type_X5 (obF52 hF) rfl 0 (by decide) (uX5_type__o _ (List.mem_of_getElem? (l := owX5_type) (i := 2) rfl)) rfl 53 (fun _ => rfl) dX5_type_15 18 rfl ?_
    refine q_sipush (v := 327) hC dX5_type_18 (by decide) 21 rfl ?_
    refine q_ialdL hC (arF53 hF) 327 (by decide +kernel) (by decide +kernel) dX5_type_21 22 rfl ?_
    refine q_bipush (v := 12) hC dX5_type_22 (by decide) 24 rfl ?_
    refine q_icmp_ne hC 30 dX5_type_24 (by decide) 27 rfl hw (fun hw => ?_) (fun hw => ?_)
    · refine q_aload_n hC dX5_type_30 0 rfl 31 rfl ?_
      refine q_getR (C := RX5) (T := TX5) (N := 26) (ci := 5) hC inX5_type_X5 (obF52 hF) rfl 0 (by decide) (uX5_type__o _ (List.mem_of_getElem? (l := owX5_type) (i := 2) rfl)) rfl 53 (fun _ => rfl) dX5_type_31 34 rfl ?_
      refine q_sipush (v := 328) hC dX5_type_34 (by decide) 37 rfl ?_
      refine q_aload_n hC dX5_type_37 0 rfl 38 rfl ?_
      refine q_getR (C := RX5) (T := TX5) (N := 26) (ci := 5) hC inX5_type_X5 (obF52 hF) rfl 0 (by decide) (uX5_type__o _ (List.mem_of_getElem? (l := owX5_type) (i := 2) rfl)) rfl 53 (fun _ => rfl) dX5_type_38 41 rfl ?_
      refine q_sipush (v := 327) hC dX5_type_41 (by decide) 44 rfl ?_
      refine q_ialdL hC (arF53 hF) 327 (by decide +kernel) (by decide +kernel) dX5_type_44 45 rfl ?_
      refine q_iadd hC dX5_type_45 46 rfl ?_
      refine q_iload_n hC dX5_type_46 1 rfl 47 rfl ?_
      obtain ⟨hin, hw⟩ := hw
      refine q_iast hC (arF53 hF) hin dX5_type_47 48 rfl (fun M3 eM3 => ?_)
      have hw := hw M3 eM3
      refine q_aload_n hC dX5_type_48 0 rfl 49 rfl ?_
      refine q_getR (C := RX5) (T := TX5) (N := 26) (ci := 5) hC inX5_type_X5 (obF52 hF) rfl 0 (by decide) (uX5_type__o _ (List.mem_of_getElem? (l := owX5_type) (i := 2) rfl)) rfl 53 (fun _ => rfl) dX5_type_49 52 rfl ?_
      refine q_sipush (v := 327) hC dX5_type_52 (by decide) 55 rfl ?_
      refine q_dup2 hC dX5_type_55 rfl rfl 56 rfl ?_
      refine q_ialdL hC (arF53 hF) 327 (by decide +kernel) (by decide +kernel) dX5_type_56 57 rfl ?_
      refine q_iconst (v := 1) hC dX5_type_57 rfl 58 rfl ?_
      refine q_iadd hC dX5_type_58 59 rfl ?_
      refine q_iastL hC (arF53 hF) 327 (by decide +kernel) (by decide +kernel) dX5_type_59 60 rfl (fun M4 eM4 => ?_)
      have hw := hw M4 eM4
      refine q_aload_n hC dX5_type_60 0 rfl 61 rfl ?_
      refine q_getR (C := RX5) (T := TX5) (N := 26) (ci := 5) hC inX5_type_X5 (obF52 hF) rfl 0 (by decide) (uX5_type__o _ (List.mem_of_getElem? (l := owX5_type) (i := 2) rfl)) rfl 53 (fun _ => rfl) dX5_type_61 64 rfl ?_
      refine q_sipush (v := 327) hC dX5_type_64 (by decide) 67 rfl ?_
      refine q_ialdL hC (arF53 hF) 327 (by decide +kernel) (by decide +kernel) dX5_type_67 68 rfl ?_
      exact r_iret hR dX5_type_68 hw
    · refine q_bipush (v := (-3)) hC dX5_type_27 (by decide) 29 rfl ?_
      exact r_iret hR dX5_type_29 hw
  · refine q_iconst (v := (-1)) hC dX5_type_12 rfl 13 rfl ?_
    exact r_iret hR dX5_type_13 hw
theorem inX5_writes_X5 : ∀ w ∈ u_ws RX5 TX5 26, w ∈ wsX5_writes := uX5_writes__wsX50
set_option maxRecDepth 100000 in
set_option maxHeartbeats 4000000 in
theorem ctX5_writes (l : Launch) (g : GG) (M : MM) (v1 : Int32) (v2 : Int32) (Q : Int32 → MM → Prop) (hF : ful5 g) (hw : wX5_writes Q M v1 v2) : MI g l yX5_writes wsX5_writes (rmOf 5 112) [.ref (gA g 52), .int v1, .int v2] M Q := by
  refine mk_MI (cc := cX5_writes) (maxL := 4) (by decide) rfl (Nat.le_of_ble_eq_true rfl) ?_
  intro z Qf hC hR
  show XX z g Qf 4 0 [(0, .ref (gA g 52)), (1, .int v1), (2, .int v2)] [] M
  refine q_iload_n hC dX5_writes_0 1 rfl 1 rfl ?_
  refine q_bipush (v := 12) hC dX5_writes_1 (by decide) 3 rfl ?_
  refine q_icmp_eq hC 28 dX5_writes_3 (by decide) 6 rfl hw (fun hw => ?_) (fun hw => ?_)
  · refine q_bipush (v := (-3)) hC dX5_writes_28 (by decide) 30 rfl ?_
    exact r_iret hR dX5_writes_30 hw
  · refine q_aload_n hC dX5_writes_6 0 rfl 7 rfl ?_
    refine q_iload_n hC dX5_writes_7 1 rfl 8 rfl ?_
    refine r_callI hC (go_V (q := (RX5, TX5, 26)) (As := [.int v1]) (rest := []) hC (ctX5_beginOf (zl z) g M v1 _ hF hw) 1 gX5_writes_X5_beginOf rfl ⟨rfl, rfl⟩ hdV_X5_beginOf ⟨Nat.le_of_ble_eq_true rfl, Nat.le_of_ble_eq_true rfl⟩ (obF52 hF) rfl rfl rfl (Nat.le_of_ble_eq_true rfl) dX5_writes_8) 11 rfl (fun r1 M2 hw => ?_)
    refine q_aload_n hC dX5_writes_11 0 rfl 12 rfl ?_
    refine q_iload_n hC dX5_writes_12 2 rfl 13 rfl ?_
    refine r_callI hC (go_V (q := (RX5, TX5, 26)) (As := [.int v2]) (rest := [.int r1]) hC (ctX5_longOf (zl z) g M2 v2 _ hF hw) 1 gX5_writes_X5_longOf rfl ⟨rfl, rfl⟩ hdV_X5_longOf ⟨Nat.le_of_ble_eq_true rfl, Nat.le_of_ble_eq_true rfl⟩ (obF52 hF) rfl rfl rfl (Nat.le_of_ble_eq_true rfl) dX5_writes_13) 16 rfl (fun r3 M4 hw => ?_)
    refine q_iadd hC dX5_writes_16 17 rfl ?_
    refine q_aload_n hC dX5_writes_17 0 rfl 18 rfl ?_
    refine q_getR (C := RX5) (T := TX5) (N := 26) (ci := 5) hC inX5_writes_X5 (obF52 hF) rfl 0 (by decide) (uX5_writes__X5_endOf _ (List.mem_of_getElem? (l := owX5_endOf) (i := 1) rfl)) rfl 53 (fun _ => rfl) dX5_writes_18 21 rfl ?_
    refine q_sipush (v := 366) hC dX5_writes_21 (by decide) 24 rfl ?_
    refine q_ialdL hC (arF53 hF) 366 (by decide +kernel) (by decide +kernel) dX5_writes_24 25 rfl ?_
    refine q_icmp_le hC 31 dX5_writes_25 (by decide) 28 rfl hw (fun hw => ?_) (fun hw => ?_)
    · refine q_aload_n hC dX5_writes_31 0 rfl 32 rfl ?_
      refine q_getR (C := RX5) (T := TX5) (N := 26) (ci := 5) hC inX5_writes_X5 (obF52 hF) rfl 0 (by decide) (uX5_writes__X5_endOf _ (List.mem_of_getElem? (l := owX5_endOf) (i := 1) rfl)) rfl 53 (fun _ => rfl) dX5_writes_32 35 rfl ?_
      refine q_iconst (v := 0) hC dX5_writes_35 rfl 36 rfl ?_
      refine q_iload_n hC dX5_writes_36 1 rfl 37 rfl ?_
      refine q_iastL hC (arF53 hF) 0 (by decide +kernel) (by decide +kernel) dX5_writes_37 38 rfl (fun M5 eM5 => ?_)
      have hw := hw M5 eM5
      refine q_aload_n hC dX5_writes_38 0 rfl 39 rfl ?_
      refine q_aload_n hC dX5_writes_39 0 rfl 40 rfl ?_
      refine q_iload_n hC dX5_writes_40 1 rfl 41 rfl ?_
      refine r_callI hC (go_V (q := (RX5, TX5, 26)) (As := [.int v1]) (rest := [.ref (gA g 52)]) hC (ctX5_beginOf (zl z) g M5 v1 _ hF hw) 1 gX5_writes_X5_beginOf rfl ⟨rfl, rfl⟩ hdV_X5_beginOf ⟨Nat.le_of_ble_eq_true rfl, Nat.le_of_ble_eq_true rfl⟩ (obF52 hF) rfl rfl rfl (Nat.le_of_ble_eq_true rfl) dX5_writes_41) 44 rfl (fun r6 M7 hw => ?_)
      refine r_callI hC (go_V (q := (RX5, TX5, 26)) (As := [.int r6]) (rest := []) hC (ctX5_goesTo (zl z) g M7 r6 _ hF hw) 1 gX5_writes_X5_goesTo rfl ⟨rfl, rfl⟩ hdV_X5_goesTo ⟨Nat.le_of_ble_eq_true rfl, Nat.le_of_ble_eq_true rfl⟩ (obF52 hF) rfl rfl rfl (Nat.le_of_ble_eq_true rfl) dX5_writes_44) 47 rfl (fun r8 M9 hw => ?_)
      refine q_aload_n hC dX5_writes_47 0 rfl 48 rfl ?_
      refine q_getR (C := RX5) (T := TX5) (N := 26) (ci := 5) hC inX5_writes_X5 (obF52 hF) rfl 2 (by decide) (uX5_writes__X5_longOf _ (List.mem_of_getElem? (l := owX5_longOf) (i := 1) rfl)) rfl 55 (fun _ => rfl) dX5_writes_48 51 rfl ?_
      refine q_iconst (v := 3) hC dX5_writes_51 rfl 52 rfl ?_
      refine q_ialdL hC (arF55 hF) 3 (by decide +kernel) (by decide +kernel) dX5_writes_52 53 rfl ?_
      refine q_aload_n hC dX5_writes_53 0 rfl 54 rfl ?_
      refine q_iload_n hC dX5_writes_54 2 rfl 55 rfl ?_
      refine r_callI hC (go_V (q := (RX5, TX5, 26)) (As := [.int v2]) (rest := [.int (M9 55 3), .int r8]) hC (ctX5_longOf (zl z) g M9 v2 _ hF hw) 1 gX5_writes_X5_longOf rfl ⟨rfl, rfl⟩ hdV_X5_longOf ⟨Nat.le_of_ble_eq_true rfl, Nat.le_of_ble_eq_true rfl⟩ (obF52 hF) rfl rfl rfl (Nat.le_of_ble_eq_true rfl) dX5_writes_55) 58 rfl (fun r10 M11 hw => ?_)
      refine q_imul hC dX5_writes_58 59 rfl ?_
      refine q_iadd hC dX5_writes_59 60 rfl ?_
      refine q_nameI (fun x12 ex12 => ?_)
      have hw := hw x12 ex12
      refine q_istore_n (L' := [(3, .int x12), (0, .ref (gA g 52)), (1, .int v1), (2, .int v2)]) hC dX5_writes_60 (by decide) rfl 61 rfl ?_
      refine q_aload_n hC dX5_writes_61 1 rfl 62 rfl ?_
      refine q_iload_n hC dX5_writes_62 3 rfl 63 rfl ?_
      refine r_callV hC (go_V (q := (RX5, TX5, 26)) (As := [.int v2]) (rest := []) hC (ctX5_lays (zl z) g M11 v2 _ hF hw) 1 gX5_writes_X5_lays rfl ⟨rfl, rfl⟩ hdV_X5_lays ⟨Nat.le_of_ble_eq_true rfl, Nat.le_of_ble_eq_true rfl⟩ (obF52 hF) rfl rfl rfl (Nat.le_of_ble_eq_true rfl) dX5_writes_63) 66 rfl (fun M13 hw => ?_)
      refine q_aload_n hC dX5_writes_66 1 rfl 67 rfl ?_
      refine q_getR (C := RX5) (T := TX5) (N := 26) (ci := 5) hC inX5_writes_X5 (obF52 hF) rfl 0 (by decide) (uX5_writes__X5_endOf _ (List.mem_of_getElem? (l := owX5_endOf) (i := 1) rfl)) rfl 53 (fun _ => rfl) dX5_writes_67 70 rfl ?_
      refine q_sipush (v := 326) hC dX5_writes_70 (by decide) 73 rfl ?_
      refine q_dup2 hC dX5_writes_73 rfl rfl 74 rfl ?_
      refine q_ialdL hC (arF53 hF) 326 (by decide +kernel) (by decide +kernel) dX5_writes_74 75 rfl ?_
      refine q_aload_n hC dX5_writes_75 1 rfl 76 rfl ?_
      refine q_getR (C := RX5) (T := TX5) (N := 26) (ci := 5) hC inX5_writes_X5 (obF52 hF) rfl 2 (by decide) (uX5_writes__X5_longOf _ (List.mem_of_getElem? (l := owX5_longOf) (i := 1) rfl)) rfl 55 (fun _ => rfl) dX5_writes_76 79 rfl ?_
      refine q_iconst (v := 3) hC dX5_writes_79 rfl 80 rfl ?_
      refine q_ialdL hC (arF55 hF) 3 (by decide +kernel) (by decide +kernel) dX5_writes_80 81 rfl ?_
      refine q_aload_n hC dX5_writes_81 1 rfl 82 rfl ?_
      refine q_iload_n hC dX5_writes_82 3 rfl 83 rfl ?_
      refine r_callI hC (go_V (q := (RX5, TX5, 26)) (As := [.int v2]) (rest := [.int (M13 55 3), .int (M13 53 326), .int 326, .ref (gA g 53)]) hC (ctX5_longOf (zl z) g M13 v2 _ hF hw) 1 gX5_writes_X5_longOf rfl ⟨rfl, rfl⟩ hdV_X5_longOf ⟨Nat.le_of_ble_eq_true rfl, Nat.le_of_ble_eq_true rfl⟩ (obF52 hF) rfl rfl rfl (Nat.le_of_ble_eq_true rfl) dX5_writes_83) 86 rfl (fun r14 M15 hw => ?_)
      refine q_imul hC dX5_writes_86 87 rfl ?_
      refine q_iadd hC dX5_writes_87 88 rfl ?_
      refine q_iastL hC (arF53 hF) 326 (by decide +kernel) (by decide +kernel) dX5_writes_88 89 rfl (fun M16 eM16 => ?_)
      have hw := hw M16 eM16
      refine q_aload_n hC dX5_writes_89 1 rfl 90 rfl ?_
      refine q_getR (C := RX5) (T := TX5) (N := 26) (ci := 5) hC inX5_writes_X5 (obF52 hF) rfl 0 (by decide) (uX5_writes__X5_endOf _ (List.mem_of_getElem? (l := owX5_endOf) (i := 1) rfl)) rfl 53 (fun _ => rfl) dX5_writes_90 93 rfl ?_
      refine q_sipush (v := 325) hC dX5_writes_93 (by decide) 96 rfl ?_
      refine q_aload_n hC dX5_writes_96 1 rfl 97 rfl ?_
      refine q_iload_n hC dX5_writes_97 2 rfl 98 rfl ?_
      refine r_callI hC (go_V (q := (RX5, TX5, 26)) (As := [.int v1]) (rest := [.int 325, .ref (gA g 53)]) hC (ctX5_endOf (zl z) g M16 v1 _ hF hw) 1 gX5_writes_X5_endOf rfl ⟨rfl, rfl⟩ hdV_X5_endOf ⟨Nat.le_of_ble_eq_true rfl, Nat.le_of_ble_eq_true rfl⟩ (obF52 hF) rfl rfl rfl (Nat.le_of_ble_eq_true rfl) dX5_writes_98) 101 rfl (fun r17 M18 hw => ?_)
      refine q_iastL hC (arF53 hF) 325 (by decide +kernel) (by decide +kernel) dX5_writes_101 102 rfl (fun M19 eM19 => ?_)
      have hw := hw M19 eM19
      refine q_iload_n hC dX5_writes_102 0 rfl 103 rfl ?_
      exact r_iret hR dX5_writes_103 hw
    · refine q_bipush (v := (-3)) hC dX5_writes_28 (by decide) 30 rfl ?_
      exact r_iret hR dX5_writes_30 hw
theorem hdV_X5_writes : yX5_writes.cls = RX5 ∧ yX5_writes.cls ≠ "java/lang/invoke/MethodHandle" ∧ yX5_writes.cls ≠ "java/lang/invoke/VarHandle" ∧ (parseMethodDescriptor yX5_writes.desc).map (fun d => d.parameters.length) = some 2 := by decide +kernel
theorem inX5_write_X5 : ∀ w ∈ u_ws RX5 TX5 26, w ∈ wsX5_write := uX5_write__wsX50
set_option maxRecDepth 100000 in
set_option maxHeartbeats 4000000 in
theorem ctX5_write (l : Launch) (g : GG) (M : MM) (v1 : Int32) (Q : Int32 → MM → Prop) (hF : ful5 g) (hw : wX5_write Q M v1) : MI g l yX5_write wsX5_write (rmOf 6 135) [.ref (gA g 52), .int v1] M Q := by
  refine mk_MI (cc := cX5_write) (maxL := 3) (by decide) rfl (Nat.le_of_ble_eq_true rfl) ?_
  intro z Qf hC hR
  show XX z g Qf 3 0 [(0, .ref (gA g 52)), (1, .int v1)] [] M
  have B105 : ∀ (M : MM) (v2 : Int32) (p0 : Int32) (p1 : Int32), wX5_write_105 Q v1 M v2 p0 p1 → XX z g Qf 3 105 [(2, .int v2)] [.int p0, .int p1, .ref (gA g 53)] M := by
    intro M v2 p0 p1 hw
    obtain ⟨hin, hw⟩ := hw
    refine q_iast hC (arF53 hF) hin dX5_write_105 106 rfl (fun M6 eM6 => ?_)
    have hw := hw M6 eM6
    refine q_iload_n hC dX5_write_106 0 rfl 107 rfl ?_
    exact r_iret hR dX5_write_107 hw
  have B34 : ∀ (n : Nat) (M : MM) (v2 : Int32) , wX5_write_34 Q v1 n M v2 → XX z g Qf 3 34 [(0, .ref (gA g 52)), (1, .int v1), (2, .int v2)] [] M := by
    intro n
    induction n with
    | zero =>
      intro M v2 hw
      exact hw.elim
    | succ n ih =>
      intro M v2 hw
      refine q_iload_n hC dX5_write_34 2 rfl 35 rfl ?_
      refine q_aload_n hC dX5_write_35 0 rfl 36 rfl ?_
      refine q_getR (C := RX5) (T := TX5) (N := 26) (ci := 5) hC inX5_write_X5 (obF52 hF) rfl 0 (by decide) (uX5_write__X5_endOf _ (List.mem_of_getElem? (l := owX5_endOf) (i := 1) rfl)) rfl 53 (fun _ => rfl) dX5_write_36 39 rfl ?_
      refine q_sipush (v := 327) hC dX5_write_39 (by decide) 42 rfl ?_
      refine q_ialdL hC (arF53 hF) 327 (by decide +kernel) (by decide +kernel) dX5_write_42 43 rfl ?_
      refine q_icmp_ge hC 68 dX5_write_43 (by decide) 46 rfl hw (fun hw => ?_) (fun hw => ?_)
      · refine q_aload_n hC dX5_write_68 0 rfl 69 rfl ?_
        refine q_iload_n hC dX5_write_69 1 rfl 70 rfl ?_
        refine q_aload_n hC dX5_write_70 0 rfl 71 rfl ?_
        refine q_getR (C := RX5) (T := TX5) (N := 26) (ci := 5) hC inX5_write_X5 (obF52 hF) rfl 0 (by decide) (uX5_write__X5_endOf _ (List.mem_of_getElem? (l := owX5_endOf) (i := 1) rfl)) rfl 53 (fun _ => rfl) dX5_write_71 74 rfl ?_
        refine q_sipush (v := 327) hC dX5_write_74 (by decide) 77 rfl ?_
        refine q_ialdL hC (arF53 hF) 327 (by decide +kernel) (by decide +kernel) dX5_write_77 78 rfl ?_
        refine r_callI hC (go_V (q := (RX5, TX5, 26)) (As := [.int v1, .int (M 53 327)]) (rest := []) hC (ctX5_writes (zl z) g M v1 (M 53 327) _ hF hw) 2 gX5_write_X5_writes rfl ⟨rfl, rfl⟩ hdV_X5_writes ⟨Nat.le_of_ble_eq_true rfl, Nat.le_of_ble_eq_true rfl⟩ (obF52 hF) rfl rfl rfl (Nat.le_of_ble_eq_true rfl) dX5_write_78) 81 rfl (fun r3 M4 hw => ?_)
        refine q_istore_n (L' := [(2, .int r3), (0, .ref (gA g 52)), (1, .int v1)]) hC dX5_write_81 (by decide) rfl 82 rfl ?_
        refine q_aload_n hC dX5_write_82 1 rfl 83 rfl ?_
        refine q_getR (C := RX5) (T := TX5) (N := 26) (ci := 5) hC inX5_write_X5 (obF52 hF) rfl 0 (by decide) (uX5_write__X5_endOf _ (List.mem_of_getElem? (l := owX5_endOf) (i := 1) rfl)) rfl 53 (fun _ => rfl) dX5_write_83 86 rfl ?_
        refine q_sipush (v := 327) hC dX5_write_86 (by decide) 89 rfl ?_
        refine q_iload_n hC dX5_write_89 0 rfl 90 rfl ?_
        refine q_if_ge hC 104 dX5_write_90 (by decide) 93 rfl hw (fun hw => ?_) (fun hw => ?_)
        · refine q_iconst (v := 0) hC dX5_write_104 rfl 105 rfl ?_
          exact XX.sub [0] rfl (B105 M4 r3 0 327 hw)
        · refine q_aload_n hC dX5_write_93 1 rfl 94 rfl ?_
          refine q_getR (C := RX5) (T := TX5) (N := 26) (ci := 5) hC inX5_write_X5 (obF52 hF) rfl 0 (by decide) (uX5_write__X5_endOf _ (List.mem_of_getElem? (l := owX5_endOf) (i := 1) rfl)) rfl 53 (fun _ => rfl) dX5_write_94 97 rfl ?_
          refine q_sipush (v := 327) hC dX5_write_97 (by decide) 100 rfl ?_
          refine q_ialdL hC (arF53 hF) 327 (by decide +kernel) (by decide +kernel) dX5_write_100 101 rfl ?_
          refine q_goto hC 105 dX5_write_101 (by decide) ?_
          exact XX.sub [0] rfl (B105 M4 r3 (M4 53 327) 327 hw)
      · refine q_aload_n hC dX5_write_46 0 rfl 47 rfl ?_
        refine q_getR (C := RX5) (T := TX5) (N := 26) (ci := 5) hC inX5_write_X5 (obF52 hF) rfl 16 (by decide) (uX5_write__X5_lays _ (List.mem_of_getElem? (l := owX5_lays) (i := 1) rfl)) rfl 60 (fun _ => rfl) dX5_write_47 50 rfl ?_
        refine q_iload_n hC dX5_write_50 2 rfl 51 rfl ?_
        refine q_aload_n hC dX5_write_51 0 rfl 52 rfl ?_
        refine q_getR (C := RX5) (T := TX5) (N := 26) (ci := 5) hC inX5_write_X5 (obF52 hF) rfl 0 (by decide) (uX5_write__X5_endOf _ (List.mem_of_getElem? (l := owX5_endOf) (i := 1) rfl)) rfl 53 (fun _ => rfl) dX5_write_52 55 rfl ?_
        refine q_sipush (v := 328) hC dX5_write_55 (by decide) 58 rfl ?_
        refine q_iload_n hC dX5_write_58 2 rfl 59 rfl ?_
        refine q_iadd hC dX5_write_59 60 rfl ?_
        obtain ⟨hin, hw⟩ := hw
        refine q_iald hC (arF53 hF) hin dX5_write_60 61 rfl ?_
        obtain ⟨hin, hw⟩ := hw
        refine q_iast hC (arF60 hF) hin dX5_write_61 62 rfl (fun M5 eM5 => ?_)
        have hw := hw M5 eM5
        refine q_iinc (v := v2 + 1) (L' := [(2, .int (v2 + 1)), (0, .ref (gA g 52)), (1, .int v1)]) hC dX5_write_62 2 rfl rfl (by decide) rfl 65 rfl ?_
        refine q_goto hC 34 dX5_write_65 (by decide) ?_
        exact XX.sub [1, 2, 0] rfl (ih M5 (v2 + 1) hw)
  refine q_iload_n hC dX5_write_0 1 rfl 1 rfl ?_
  refine q_i2l hC dX5_write_1 2 rfl ?_
  refine q_lconst (v := 0) hC dX5_write_2 rfl 3 rfl ?_
  refine q_aload_n hC dX5_write_3 0 rfl 4 rfl ?_
  refine q_getR (C := RX5) (T := TX5) (N := 26) (ci := 5) hC inX5_write_X5 (obF52 hF) rfl 0 (by decide) (uX5_write__X5_endOf _ (List.mem_of_getElem? (l := owX5_endOf) (i := 1) rfl)) rfl 53 (fun _ => rfl) dX5_write_4 7 rfl ?_
  refine q_iconst (v := 0) hC dX5_write_7 rfl 8 rfl ?_
  refine q_ialdL hC (arF53 hF) 0 (by decide +kernel) (by decide +kernel) dX5_write_8 9 rfl ?_
  refine q_i2l hC dX5_write_9 10 rfl ?_
  refine r_callI hC (go_T (As := [.long (v1.toInt64), .long 0, .long ((M 53 0).toInt64)]) (rest := []) hC (ctX5_in (zl z) g M (v1.toInt64) 0 ((M 53 0).toInt64) _ hw) 3 gX5_write_X5_in rfl ⟨rfl, rfl⟩ hdT_X5_in ⟨Nat.le_of_ble_eq_true rfl, Nat.le_of_ble_eq_true rfl⟩ rfl rfl (Nat.le_of_ble_eq_true rfl) dX5_write_10) 13 rfl (fun r1 M2 hw => ?_)
  refine q_if_ne hC 18 dX5_write_13 (by decide) 16 rfl hw (fun hw => ?_) (fun hw => ?_)
  · refine q_aload_n hC dX5_write_18 0 rfl 19 rfl ?_
    refine q_getR (C := RX5) (T := TX5) (N := 26) (ci := 5) hC inX5_write_X5 (obF52 hF) rfl 0 (by decide) (uX5_write__X5_endOf _ (List.mem_of_getElem? (l := owX5_endOf) (i := 1) rfl)) rfl 53 (fun _ => rfl) dX5_write_19 22 rfl ?_
    refine q_sipush (v := 327) hC dX5_write_22 (by decide) 25 rfl ?_
    refine q_ialdL hC (arF53 hF) 327 (by decide +kernel) (by decide +kernel) dX5_write_25 26 rfl ?_
    refine q_if_ne hC 32 dX5_write_26 (by decide) 29 rfl hw (fun hw => ?_) (fun hw => ?_)
    · refine q_iconst (v := 0) hC dX5_write_32 rfl 33 rfl ?_
      refine q_istore_n (L' := [(2, .int 0), (0, .ref (gA g 52)), (1, .int v1)]) hC dX5_write_33 (by decide) rfl 34 rfl ?_
      obtain ⟨n0, hw⟩ := hw
      exact XX.sub [1, 2, 0] rfl (B34 n0 M2 0 hw)
    · refine q_bipush (v := (-2)) hC dX5_write_29 (by decide) 31 rfl ?_
      exact r_iret hR dX5_write_31 hw
  · refine q_iconst (v := (-1)) hC dX5_write_16 rfl 17 rfl ?_
    exact r_iret hR dX5_write_17 hw
theorem inX5_mark_X5 : ∀ w ∈ u_ws RX5 TX5 26, w ∈ wsX5_mark := uX5_mark__wsX50
set_option maxRecDepth 100000 in
set_option maxHeartbeats 4000000 in
theorem ctX5_mark (l : Launch) (g : GG) (M : MM) (v1 : Int32) (Q : Int32 → MM → Prop) (hF : ful5 g) (hw : wX5_mark Q M v1) : MI g l yX5_mark wsX5_mark (rmOf 6 135) [.ref (gA g 52), .int v1] M Q := by
  refine mk_MI (cc := cX5_mark) (maxL := 2) (by decide) rfl (Nat.le_of_ble_eq_true rfl) ?_
  intro z Qf hC hR
  show XX z g Qf 2 0 [(0, .ref (gA g 52)), (1, .int v1)] [] M
  refine q_iload_n hC dX5_mark_0 1 rfl 1 rfl ?_
  refine q_i2l hC dX5_mark_1 2 rfl ?_
  refine q_lconst (v := 0) hC dX5_mark_2 rfl 3 rfl ?_
  refine q_aload_n hC dX5_mark_3 0 rfl 4 rfl ?_
  refine q_getR (C := RX5) (T := TX5) (N := 26) (ci := 5) hC inX5_mark_X5 (obF52 hF) rfl 0 (by decide) (uX5_mark__X5_endOf _ (List.mem_of_getElem? (l := owX5_endOf) (i := 1) rfl)) rfl 53 (fun _ => rfl) dX5_mark_4 7 rfl ?_
  refine q_iconst (v := 0) hC dX5_mark_7 rfl 8 rfl ?_
  refine q_ialdL hC (arF53 hF) 0 (by decide +kernel) (by decide +kernel) dX5_mark_8 9 rfl ?_
  refine q_i2l hC dX5_mark_9 10 rfl ?_
  refine r_callI hC (go_T (As := [.long (v1.toInt64), .long 0, .long ((M 53 0).toInt64)]) (rest := []) hC (ctX5_in (zl z) g M (v1.toInt64) 0 ((M 53 0).toInt64) _ hw) 3 gX5_mark_X5_in rfl ⟨rfl, rfl⟩ hdT_X5_in ⟨Nat.le_of_ble_eq_true rfl, Nat.le_of_ble_eq_true rfl⟩ rfl rfl (Nat.le_of_ble_eq_true rfl) dX5_mark_10) 13 rfl (fun r1 M2 hw => ?_)
  refine q_if_eq hC 25 dX5_mark_13 (by decide) 16 rfl hw (fun hw => ?_) (fun hw => ?_)
  · refine q_iconst (v := (-1)) hC dX5_mark_25 rfl 26 rfl ?_
    exact r_iret hR dX5_mark_26 hw
  · refine q_aload_n hC dX5_mark_16 0 rfl 17 rfl ?_
    refine q_iload_n hC dX5_mark_17 1 rfl 18 rfl ?_
    refine q_iconst (v := 0) hC dX5_mark_18 rfl 19 rfl ?_
    refine r_callI hC (go_V (q := (RX5, TX5, 26)) (As := [.int v1, .int 0]) (rest := []) hC (ctX5_writes (zl z) g M2 v1 0 _ hF hw) 2 gX5_mark_X5_writes rfl ⟨rfl, rfl⟩ hdV_X5_writes ⟨Nat.le_of_ble_eq_true rfl, Nat.le_of_ble_eq_true rfl⟩ (obF52 hF) rfl rfl rfl (Nat.le_of_ble_eq_true rfl) dX5_mark_19) 22 rfl (fun r3 M4 hw => ?_)
    refine q_goto hC 26 dX5_mark_22 (by decide) ?_
    exact r_iret hR dX5_mark_26 hw
set_option maxRecDepth 100000 in
set_option maxHeartbeats 4000000 in
theorem ctX5_isTrack (l : Launch) (g : GG) (M : MM) (v0 : Int32) (Q : Int32 → MM → Prop)  (hw : wX5_isTrack Q M v0) : MI g l yX5_isTrack wsX5_isTrack (rmOf 1 25) [.int v0] M Q := by
  refine mk_MZ (cc := cX5_isTrack) (maxL := 1) (by decide) rfl (Nat.le_of_ble_eq_true rfl) ?_
  intro z Qf hC hR
  show XX z g Qf 1 0 [(0, .int v0)] [] M
  refine q_iload_n hC dX5_isTrack_0 0 rfl 1 rfl ?_
  refine q_i2l hC dX5_isTrack_1 2 rfl ?_
  refine q_lconst (v := 0) hC dX5_isTrack_2 rfl 3 rfl ?_
  refine q_ldc2 (v := 8) hC (uX5_isTrack__o _ (List.mem_of_getElem? (l := owX5_isTrack) (i := 1) rfl)) dX5_isTrack_3 6 rfl ?_
  refine r_callI hC (go_T (As := [.long (v0.toInt64), .long 0, .long 8]) (rest := []) hC (ctX5_in (zl z) g M (v0.toInt64) 0 8 _ hw) 3 gX5_isTrack_X5_in rfl ⟨rfl, rfl⟩ hdT_X5_in ⟨Nat.le_of_ble_eq_true rfl, Nat.le_of_ble_eq_true rfl⟩ rfl rfl (Nat.le_of_ble_eq_true rfl) dX5_isTrack_6) 9 rfl (fun r1 M2 hw => ?_)
  exact r_iret hR dX5_isTrack_9 hw
theorem inX5_isColumn_X5 : ∀ w ∈ u_ws RX5 TX5 26, w ∈ wsX5_isColumn := uX5_isColumn__wsX50
set_option maxRecDepth 100000 in
set_option maxHeartbeats 4000000 in
theorem ctX5_isColumn (l : Launch) (g : GG) (M : MM) (v1 : Int32) (v2 : Int32) (Q : Int32 → MM → Prop) (hF : ful5 g) (hw : wX5_isColumn Q M v1 v2) : MI g l yX5_isColumn wsX5_isColumn (rmOf 2 46) [.ref (gA g 52), .int v1, .int v2] M Q := by
  refine mk_MZ (cc := cX5_isColumn) (maxL := 3) (by decide) rfl (Nat.le_of_ble_eq_true rfl) ?_
  intro z Qf hC hR
  show XX z g Qf 3 0 [(0, .ref (gA g 52)), (1, .int v1), (2, .int v2)] [] M
  have B43 : ∀ (M : MM), wX5_isColumn_43 Q v1 v2 M → XX z g Qf 3 43 [] [] M := by
    intro M hw
    refine q_iconst (v := 0) hC dX5_isColumn_43 rfl 44 rfl ?_
    exact r_iret hR dX5_isColumn_44 ⟨nb_0, hw⟩
  refine q_aload_n hC dX5_isColumn_0 0 rfl 1 rfl ?_
  refine q_iload_n hC dX5_isColumn_1 1 rfl 2 rfl ?_
  refine r_callI hC (go_V (q := (RX5, TX5, 26)) (As := [.int v1]) (rest := []) hC (ctX5_isBlock (zl z) g M v1 _ hF hw) 1 gX5_isColumn_X5_isBlock rfl ⟨rfl, rfl⟩ hdV_X5_isBlock ⟨Nat.le_of_ble_eq_true rfl, Nat.le_of_ble_eq_true rfl⟩ (obF52 hF) rfl rfl rfl (Nat.le_of_ble_eq_true rfl) dX5_isColumn_2) 5 rfl (fun r1 M2 hw => ?_)
  refine q_if_eq hC 43 dX5_isColumn_5 (by decide) 8 rfl hw (fun hw => ?_) (fun hw => ?_)
  · exact XX.sub [] rfl (B43 M2 hw)
  · refine q_aload_n hC dX5_isColumn_8 0 rfl 9 rfl ?_
    refine q_getR (C := RX5) (T := TX5) (N := 26) (ci := 5) hC inX5_isColumn_X5 (obF52 hF) rfl 0 (by decide) (uX5_isColumn__X5_isBlock _ (List.mem_of_getElem? (l := owX5_isBlock) (i := 1) rfl)) rfl 53 (fun _ => rfl) dX5_isColumn_9 12 rfl ?_
    refine q_bipush (v := 13) hC dX5_isColumn_12 (by decide) 14 rfl ?_
    refine q_iload_n hC dX5_isColumn_14 1 rfl 15 rfl ?_
    refine q_iadd hC dX5_isColumn_15 16 rfl ?_
    obtain ⟨hin, hw⟩ := hw
    refine q_iald hC (arF53 hF) hin dX5_isColumn_16 17 rfl ?_
    refine q_if_le hC 43 dX5_isColumn_17 (by decide) 20 rfl hw (fun hw => ?_) (fun hw => ?_)
    · exact XX.sub [] rfl (B43 M2 hw)
    · refine q_iload_n hC dX5_isColumn_20 2 rfl 21 rfl ?_
      refine q_i2l hC dX5_isColumn_21 22 rfl ?_
      refine q_lconst (v := 0) hC dX5_isColumn_22 rfl 23 rfl ?_
      refine q_aload_n hC dX5_isColumn_23 0 rfl 24 rfl ?_
      refine q_getR (C := RX5) (T := TX5) (N := 26) (ci := 5) hC inX5_isColumn_X5 (obF52 hF) rfl 0 (by decide) (uX5_isColumn__X5_isBlock _ (List.mem_of_getElem? (l := owX5_isBlock) (i := 1) rfl)) rfl 53 (fun _ => rfl) dX5_isColumn_24 27 rfl ?_
      refine q_bipush (v := 13) hC dX5_isColumn_27 (by decide) 29 rfl ?_
      refine q_iload_n hC dX5_isColumn_29 1 rfl 30 rfl ?_
      refine q_iadd hC dX5_isColumn_30 31 rfl ?_
      obtain ⟨hin, hw⟩ := hw
      refine q_iald hC (arF53 hF) hin dX5_isColumn_31 32 rfl ?_
      refine q_i2l hC dX5_isColumn_32 33 rfl ?_
      refine r_callI hC (go_T (As := [.long (v2.toInt64), .long 0, .long ((M2 53 ((13 : Int32) + v1).toNatClampNeg).toInt64)]) (rest := []) hC (ctX5_in (zl z) g M2 (v2.toInt64) 0 ((M2 53 ((13 : Int32) + v1).toNatClampNeg).toInt64) _ hw) 3 gX5_isColumn_X5_in rfl ⟨rfl, rfl⟩ hdT_X5_in ⟨Nat.le_of_ble_eq_true rfl, Nat.le_of_ble_eq_true rfl⟩ rfl rfl (Nat.le_of_ble_eq_true rfl) dX5_isColumn_33) 36 rfl (fun r3 M4 hw => ?_)
      refine q_if_eq hC 43 dX5_isColumn_36 (by decide) 39 rfl hw (fun hw => ?_) (fun hw => ?_)
      · exact XX.sub [] rfl (B43 M4 hw)
      · refine q_iconst (v := 1) hC dX5_isColumn_39 rfl 40 rfl ?_
        refine q_goto hC 44 dX5_isColumn_40 (by decide) ?_
        exact r_iret hR dX5_isColumn_44 ⟨nb_1, hw⟩
theorem hdV_X5_isColumn : yX5_isColumn.cls = RX5 ∧ yX5_isColumn.cls ≠ "java/lang/invoke/MethodHandle" ∧ yX5_isColumn.cls ≠ "java/lang/invoke/VarHandle" ∧ (parseMethodDescriptor yX5_isColumn.desc).map (fun d => d.parameters.length) = some 2 := by decide +kernel
theorem hdT_X5_isTrack : yX5_isTrack.cls ≠ "java/lang/invoke/MethodHandle" ∧ yX5_isTrack.cls ≠ "java/lang/invoke/VarHandle" ∧ (parseMethodDescriptor yX5_isTrack.desc).map (fun d => d.parameters.length) = some 1 := by decide +kernel
theorem inX5_spoil_X5 : ∀ w ∈ u_ws RX5 TX5 26, w ∈ wsX5_spoil := uX5_spoil__wsX50
set_option maxRecDepth 100000 in
set_option maxHeartbeats 4000000 in
theorem ctX5_spoil (l : Launch) (g : GG) (M : MM) (v1 : Int32) (v2 : Int32) (v3 : Int32) (Q : Int32 → MM → Prop) (hF : ful5 g) (hw : wX5_spoil Q M v1 v2 v3) : MI g l yX5_spoil wsX5_spoil (rmOf 3 68) [.ref (gA g 52), .int v1, .int v2, .int v3] M Q := by
  refine mk_MI (cc := cX5_spoil) (maxL := 4) (by decide) rfl (Nat.le_of_ble_eq_true rfl) ?_
  intro z Qf hC hR
  show XX z g Qf 4 0 [(0, .ref (gA g 52)), (1, .int v1), (2, .int v2), (3, .int v3)] [] M
  refine q_aload_n hC dX5_spoil_0 0 rfl 1 rfl ?_
  refine q_iload_n hC dX5_spoil_1 1 rfl 2 rfl ?_
  refine q_iload_n hC dX5_spoil_2 2 rfl 3 rfl ?_
  refine r_callI hC (go_V (q := (RX5, TX5, 26)) (As := [.int v1, .int v2]) (rest := []) hC (ctX5_isColumn (zl z) g M v1 v2 _ hF hw) 2 gX5_spoil_X5_isColumn rfl ⟨rfl, rfl⟩ hdV_X5_isColumn ⟨Nat.le_of_ble_eq_true rfl, Nat.le_of_ble_eq_true rfl⟩ (obF52 hF) rfl rfl rfl (Nat.le_of_ble_eq_true rfl) dX5_spoil_3) 6 rfl (fun r1 M2 hw => ?_)
  refine q_if_eq hC 16 dX5_spoil_6 (by decide) 9 rfl hw (fun hw => ?_) (fun hw => ?_)
  · refine q_iconst (v := (-1)) hC dX5_spoil_16 rfl 17 rfl ?_
    exact r_iret hR dX5_spoil_17 hw
  · refine q_iload_n hC dX5_spoil_9 3 rfl 10 rfl ?_
    refine r_callI hC (go_T (As := [.int v3]) (rest := []) hC (ctX5_isTrack (zl z) g M2 v3 _ hw) 1 gX5_spoil_X5_isTrack rfl ⟨rfl, rfl⟩ hdT_X5_isTrack ⟨Nat.le_of_ble_eq_true rfl, Nat.le_of_ble_eq_true rfl⟩ rfl rfl (Nat.le_of_ble_eq_true rfl) dX5_spoil_10) 13 rfl (fun r3 M4 hw => ?_)
    refine q_if_ne hC 18 dX5_spoil_13 (by decide) 16 rfl hw (fun hw => ?_) (fun hw => ?_)
    · refine q_aload_n hC dX5_spoil_18 0 rfl 19 rfl ?_
      refine q_getR (C := RX5) (T := TX5) (N := 26) (ci := 5) hC inX5_spoil_X5 (obF52 hF) rfl 0 (by decide) (uX5_spoil__X5_isBlock _ (List.mem_of_getElem? (l := owX5_isBlock) (i := 1) rfl)) rfl 53 (fun _ => rfl) dX5_spoil_19 22 rfl ?_
      refine q_bipush (v := 25) hC dX5_spoil_22 (by decide) 24 rfl ?_
      refine q_bipush (v := 13) hC dX5_spoil_24 (by decide) 26 rfl ?_
      refine q_iload_n hC dX5_spoil_26 1 rfl 27 rfl ?_
      refine q_imul hC dX5_spoil_27 28 rfl ?_
      refine q_iadd hC dX5_spoil_28 29 rfl ?_
      refine q_iload_n hC dX5_spoil_29 2 rfl 30 rfl ?_
      refine q_iadd hC dX5_spoil_30 31 rfl ?_
      refine q_dup2 hC dX5_spoil_31 rfl rfl 32 rfl ?_
      obtain ⟨hin, hw⟩ := hw
      refine q_iald hC (arF53 hF) hin dX5_spoil_32 33 rfl ?_
      refine q_iconst (v := 1) hC dX5_spoil_33 rfl 34 rfl ?_
      refine q_iload_n hC dX5_spoil_34 3 rfl 35 rfl ?_
      refine q_ishl hC dX5_spoil_35 36 rfl ?_
      refine q_ixor hC dX5_spoil_36 37 rfl ?_
      obtain ⟨hin, hw⟩ := hw
      refine q_iast hC (arF53 hF) hin dX5_spoil_37 38 rfl (fun M5 eM5 => ?_)
      have hw := hw M5 eM5
      refine q_aload_n hC dX5_spoil_38 0 rfl 39 rfl ?_
      refine q_iload_n hC dX5_spoil_39 1 rfl 40 rfl ?_
      refine q_iload_n hC dX5_spoil_40 2 rfl 41 rfl ?_
      refine r_callI hC (go_V (q := (RX5, TX5, 26)) (As := [.int v1, .int v2]) (rest := []) hC (ctX5_columnOf (zl z) g M5 v1 v2 _ hF hw) 2 gX5_spoil_X5_columnOf rfl ⟨rfl, rfl⟩ hdV_X5_columnOf ⟨Nat.le_of_ble_eq_true rfl, Nat.le_of_ble_eq_true rfl⟩ (obF52 hF) rfl rfl rfl (Nat.le_of_ble_eq_true rfl) dX5_spoil_41) 44 rfl (fun r6 M7 hw => ?_)
      exact r_iret hR dX5_spoil_44 hw
    · refine q_iconst (v := (-1)) hC dX5_spoil_16 rfl 17 rfl ?_
      exact r_iret hR dX5_spoil_17 hw
theorem inX5_dead_X5 : ∀ w ∈ u_ws RX5 TX5 26, w ∈ wsX5_dead := uX5_dead__wsX50
set_option maxRecDepth 100000 in
set_option maxHeartbeats 4000000 in
theorem ctX5_dead (l : Launch) (g : GG) (M : MM) (v1 : Int32) (Q : Int32 → MM → Prop) (hF : ful5 g) (hw : wX5_dead Q M v1) : MI g l yX5_dead wsX5_dead (rmOf 2 45) [.ref (gA g 52), .int v1] M Q := by
  refine mk_MI (cc := cX5_dead) (maxL := 3) (by decide) rfl (Nat.le_of_ble_eq_true rfl) ?_
  intro z Qf hC hR
  show XX z g Qf 3 0 [(0, .ref (gA g 52)), (1, .int v1)] [] M
  have B15 : ∀ (M : MM), wX5_dead_15 Q v1 M → XX z g Qf 3 15 [(0, .ref (gA g 52)), (1, .int v1)] [] M := by
    intro M hw
    refine q_aload_n hC dX5_dead_15 0 rfl 16 rfl ?_
    refine q_getR (C := RX5) (T := TX5) (N := 26) (ci := 5) hC inX5_dead_X5 (obF52 hF) rfl 0 (by decide) (uX5_dead__o _ (List.mem_of_getElem? (l := owX5_dead) (i := 1) rfl)) rfl 53 (fun _ => rfl) dX5_dead_16 19 rfl ?_
    refine q_sipush (v := 340) hC dX5_dead_19 (by decide) 22 rfl ?_
    refine q_ialdL hC (arF53 hF) 340 (by decide +kernel) (by decide +kernel) dX5_dead_22 23 rfl ?_
    refine q_istore_n (L' := [(2, .int (M 53 340)), (0, .ref (gA g 52)), (1, .int v1)]) hC dX5_dead_23 (by decide) rfl 24 rfl ?_
    refine q_aload_n hC dX5_dead_24 1 rfl 25 rfl ?_
    refine q_getR (C := RX5) (T := TX5) (N := 26) (ci := 5) hC inX5_dead_X5 (obF52 hF) rfl 0 (by decide) (uX5_dead__o _ (List.mem_of_getElem? (l := owX5_dead) (i := 1) rfl)) rfl 53 (fun _ => rfl) dX5_dead_25 28 rfl ?_
    refine q_sipush (v := 340) hC dX5_dead_28 (by decide) 31 rfl ?_
    refine q_iload_n hC dX5_dead_31 2 rfl 32 rfl ?_
    refine q_iastL hC (arF53 hF) 340 (by decide +kernel) (by decide +kernel) dX5_dead_32 33 rfl (fun M3 eM3 => ?_)
    have hw := hw M3 eM3
    refine q_iload_n hC dX5_dead_33 0 rfl 34 rfl ?_
    exact r_iret hR dX5_dead_34 hw
  refine q_iload_n hC dX5_dead_0 1 rfl 1 rfl ?_
  refine q_bipush (v := (-4)) hC dX5_dead_1 (by decide) 3 rfl ?_
  refine q_icmp_eq hC 15 dX5_dead_3 (by decide) 6 rfl hw (fun hw => ?_) (fun hw => ?_)
  · exact XX.sub [0, 1] rfl (B15 M hw)
  · refine q_iload_n hC dX5_dead_6 1 rfl 7 rfl ?_
    refine r_callI hC (go_T (As := [.int v1]) (rest := []) hC (ctX5_isTrack (zl z) g M v1 _ hw) 1 gX5_dead_X5_isTrack rfl ⟨rfl, rfl⟩ hdT_X5_isTrack ⟨Nat.le_of_ble_eq_true rfl, Nat.le_of_ble_eq_true rfl⟩ rfl rfl (Nat.le_of_ble_eq_true rfl) dX5_dead_7) 10 rfl (fun r1 M2 hw => ?_)
    refine q_if_ne hC 15 dX5_dead_10 (by decide) 13 rfl hw (fun hw => ?_) (fun hw => ?_)
    · exact XX.sub [0, 1] rfl (B15 M2 hw)
    · refine q_iconst (v := (-1)) hC dX5_dead_13 rfl 14 rfl ?_
      exact r_iret hR dX5_dead_14 hw
theorem inX5_across_X5 : ∀ w ∈ u_ws RX5 TX5 26, w ∈ wsX5_across := uX5_across__wsX50
set_option maxRecDepth 100000 in
set_option maxHeartbeats 4000000 in
theorem ctX5_across (l : Launch) (g : GG) (M : MM) (v1 : Int32) (Q : Int32 → MM → Prop) (hF : ful5 g) (hw : wX5_across Q M v1) : MI g l yX5_across wsX5_across (rmOf 1 22) [.ref (gA g 52), .int v1] M Q := by
  refine mk_MI (cc := cX5_across) (maxL := 4) (by decide) rfl (Nat.le_of_ble_eq_true rfl) ?_
  intro z Qf hC hR
  show XX z g Qf 4 0 [(0, .ref (gA g 52)), (1, .int v1)] [] M
  have B4 : ∀ (n : Nat) (M : MM) (v2 : Int32) (v3 : Int32) , wX5_across_4 Q v1 n M v2 v3 → XX z g Qf 4 4 [(0, .ref (gA g 52)), (1, .int v1), (2, .int v2), (3, .int v3)] [] M := by
    intro n
    induction n with
    | zero =>
      intro M v2 v3 hw
      exact hw.elim
    | succ n ih =>
      intro M v2 v3 hw
      refine q_iload_n hC dX5_across_4 3 rfl 5 rfl ?_
      refine q_aload_n hC dX5_across_5 0 rfl 6 rfl ?_
      refine q_getR (C := RX5) (T := TX5) (N := 26) (ci := 5) hC inX5_across_X5 (obF52 hF) rfl 0 (by decide) (uX5_across__X5_columnOf _ (List.mem_of_getElem? (l := owX5_columnOf) (i := 1) rfl)) rfl 53 (fun _ => rfl) dX5_across_6 9 rfl ?_
      refine q_bipush (v := 13) hC dX5_across_9 (by decide) 11 rfl ?_
      refine q_iload_n hC dX5_across_11 1 rfl 12 rfl ?_
      refine q_iadd hC dX5_across_12 13 rfl ?_
      obtain ⟨hin, hw⟩ := hw
      refine q_iald hC (arF53 hF) hin dX5_across_13 14 rfl ?_
      refine q_icmp_gt hC 32 dX5_across_14 (by decide) 17 rfl hw (fun hw => ?_) (fun hw => ?_)
      · refine q_iload_n hC dX5_across_32 2 rfl 33 rfl ?_
        exact r_iret hR dX5_across_33 hw
      · refine q_iload_n hC dX5_across_17 2 rfl 18 rfl ?_
        refine q_aload_n hC dX5_across_18 0 rfl 19 rfl ?_
        refine q_iload_n hC dX5_across_19 1 rfl 20 rfl ?_
        refine q_iload_n hC dX5_across_20 3 rfl 21 rfl ?_
        refine r_callI hC (go_V (q := (RX5, TX5, 26)) (As := [.int v1, .int v3]) (rest := [.int v2]) hC (ctX5_columnOf (zl z) g M v1 v3 _ hF hw) 2 gX5_across_X5_columnOf rfl ⟨rfl, rfl⟩ hdV_X5_columnOf ⟨Nat.le_of_ble_eq_true rfl, Nat.le_of_ble_eq_true rfl⟩ (obF52 hF) rfl rfl rfl (Nat.le_of_ble_eq_true rfl) dX5_across_21) 24 rfl (fun r1 M2 hw => ?_)
        refine q_ixor hC dX5_across_24 25 rfl ?_
        refine q_istore_n (L' := [(2, .int (v2 ^^^ r1)), (0, .ref (gA g 52)), (1, .int v1), (3, .int v3)]) hC dX5_across_25 (by decide) rfl 26 rfl ?_
        refine q_iinc (v := v3 + 1) (L' := [(3, .int (v3 + 1)), (2, .int (v2 ^^^ r1)), (0, .ref (gA g 52)), (1, .int v1)]) hC dX5_across_26 3 rfl rfl (by decide) rfl 29 rfl ?_
        refine q_goto hC 4 dX5_across_29 (by decide) ?_
        exact XX.sub [2, 3, 1, 0] rfl (ih M2 (v2 ^^^ r1) (v3 + 1) hw)
  refine q_iconst (v := 0) hC dX5_across_0 rfl 1 rfl ?_
  refine q_istore_n (L' := [(2, .int 0), (0, .ref (gA g 52)), (1, .int v1)]) hC dX5_across_1 (by decide) rfl 2 rfl ?_
  refine q_iconst (v := 0) hC dX5_across_2 rfl 3 rfl ?_
  refine q_istore_n (L' := [(3, .int 0), (2, .int 0), (0, .ref (gA g 52)), (1, .int v1)]) hC dX5_across_3 (by decide) rfl 4 rfl ?_
  obtain ⟨n0, hw⟩ := hw
  exact XX.sub [2, 3, 1, 0] rfl (B4 n0 M 0 0 hw)
set_option maxRecDepth 100000 in
set_option maxHeartbeats 4000000 in
theorem ctX5_onesOf (l : Launch) (g : GG) (M : MM) (v0 : Int32) (Q : Int32 → MM → Prop)  (hw : wX5_onesOf Q M v0) : MI g l yX5_onesOf wsX5_onesOf (rmOf 0 0) [.int v0] M Q := by
  refine mk_MI (cc := cX5_onesOf) (maxL := 3) (by decide) rfl (Nat.le_of_ble_eq_true rfl) ?_
  intro z Qf hC hR
  show XX z g Qf 3 0 [(0, .int v0)] [] M
  have B4 : ∀ (n : Nat) (M : MM) (v1 : Int32) (v2 : Int32) , wX5_onesOf_4 Q v0 n M v1 v2 → XX z g Qf 3 4 [(0, .int v0), (1, .int v1), (2, .int v2)] [] M := by
    intro n
    induction n with
    | zero =>
      intro M v1 v2 hw
      exact hw.elim
    | succ n ih =>
      intro M v1 v2 hw
      refine q_iload_n hC dX5_onesOf_4 2 rfl 5 rfl ?_
      refine q_bipush (v := 9) hC dX5_onesOf_5 (by decide) 7 rfl ?_
      refine q_icmp_ge hC 24 dX5_onesOf_7 (by decide) 10 rfl hw (fun hw => ?_) (fun hw => ?_)
      · refine q_iload_n hC dX5_onesOf_24 1 rfl 25 rfl ?_
        exact r_iret hR dX5_onesOf_25 hw
      · refine q_iload_n hC dX5_onesOf_10 1 rfl 11 rfl ?_
        refine q_iload_n hC dX5_onesOf_11 0 rfl 12 rfl ?_
        refine q_iload_n hC dX5_onesOf_12 2 rfl 13 rfl ?_
        refine q_ishr hC dX5_onesOf_13 14 rfl ?_
        refine q_iconst (v := 1) hC dX5_onesOf_14 rfl 15 rfl ?_
        refine q_iand hC dX5_onesOf_15 16 rfl ?_
        refine q_iadd hC dX5_onesOf_16 17 rfl ?_
        refine q_nameI (fun x1 ex1 => ?_)
        have hw := hw x1 ex1
        refine q_istore_n (L' := [(1, .int x1), (0, .int v0), (2, .int v2)]) hC dX5_onesOf_17 (by decide) rfl 18 rfl ?_
        refine q_iinc (v := v2 + 1) (L' := [(2, .int (v2 + 1)), (1, .int x1), (0, .int v0)]) hC dX5_onesOf_18 2 rfl rfl (by decide) rfl 21 rfl ?_
        refine q_goto hC 4 dX5_onesOf_21 (by decide) ?_
        exact XX.sub [2, 1, 0] rfl (ih M x1 (v2 + 1) hw)
  refine q_iconst (v := 0) hC dX5_onesOf_0 rfl 1 rfl ?_
  refine q_istore_n (L' := [(1, .int 0), (0, .int v0)]) hC dX5_onesOf_1 (by decide) rfl 2 rfl ?_
  refine q_iconst (v := 0) hC dX5_onesOf_2 rfl 3 rfl ?_
  refine q_istore_n (L' := [(2, .int 0), (1, .int 0), (0, .int v0)]) hC dX5_onesOf_3 (by decide) rfl 4 rfl ?_
  obtain ⟨n0, hw⟩ := hw
  exact XX.sub [2, 1, 0] rfl (B4 n0 M 0 0 hw)
theorem hdV_X5_across : yX5_across.cls = RX5 ∧ yX5_across.cls ≠ "java/lang/invoke/MethodHandle" ∧ yX5_across.cls ≠ "java/lang/invoke/VarHandle" ∧ (parseMethodDescriptor yX5_across.desc).map (fun d => d.parameters.length) = some 1 := by decide +kernel
theorem hdT_X5_onesOf : yX5_onesOf.cls ≠ "java/lang/invoke/MethodHandle" ∧ yX5_onesOf.cls ≠ "java/lang/invoke/VarHandle" ∧ (parseMethodDescriptor yX5_onesOf.desc).map (fun d => d.parameters.length) = some 1 := by decide +kernel
theorem inX5_reading_X5 : ∀ w ∈ u_ws RX5 TX5 26, w ∈ wsX5_reading := uX5_reading__wsX50
set_option maxRecDepth 100000 in
set_option maxHeartbeats 4000000 in
theorem ctX5_reading (l : Launch) (g : GG) (M : MM) (v1 : Int32) (v2 : Int32) (Q : Int32 → MM → Prop) (hF : ful5 g) (hw : wX5_reading Q M v1 v2) : MI g l yX5_reading wsX5_reading (rmOf 2 45) [.ref (gA g 52), .int v1, .int v2] M Q := by
  refine mk_MI (cc := cX5_reading) (maxL := 8) (by decide) rfl (Nat.le_of_ble_eq_true rfl) ?_
  intro z Qf hC hR
  show XX z g Qf 8 0 [(0, .ref (gA g 52)), (1, .int v1), (2, .int v2)] [] M
  have B161 : ∀ (M : MM) (p0 : Int32) (p1 : Int32), wX5_reading_161 Q v1 v2 M p0 p1 → XX z g Qf 8 161 [] [.int p0, .int p1] M := by
    intro M p0 p1 hw
    refine q_icmp_ne hC 168 dX5_reading_161 (by decide) 164 rfl hw (fun hw => ?_) (fun hw => ?_)
    · refine q_iconst (v := 3) hC dX5_reading_168 rfl 169 rfl ?_
      exact r_iret hR dX5_reading_169 hw
    · refine q_iconst (v := 2) hC dX5_reading_164 rfl 165 rfl ?_
      refine q_goto hC 169 dX5_reading_165 (by decide) ?_
      exact r_iret hR dX5_reading_169 hw
  have B136 : ∀ (K102 : MM → Int32 → Int32 → Int32 → Int32 → Prop) (hK102 : ∀ (M : MM) (v3 : Int32) (v4 : Int32) (v5 : Int32) (v7 : Int32) , K102 M v3 v4 v5 v7 → XX z g Qf 8 102 [(0, .ref (gA g 52)), (2, .int v2), (3, .int v3), (4, .int v4), (5, .int v5), (7, .int v7)] [] M) (M : MM) (v3 : Int32) (v4 : Int32) (v5 : Int32) (v7 : Int32) (p0 : Int32) (p1 : Int32) (p2 : Int32), wX5_reading_136 Q K102 v1 v2 M v3 v4 v5 v7 p0 p1 p2 → XX z g Qf 8 136 [(0, .ref (gA g 52)), (2, .int v2), (3, .int v3), (4, .int v4), (5, .int v5), (7, .int v7)] [.int p0, .int p1, .int p2, .ref (gA g 61)] M := by
    intro K102 hK102 M v3 v4 v5 v7 p0 p1 p2 hw
    refine q_ixor hC dX5_reading_136 137 rfl ?_
    obtain ⟨hin, hw⟩ := hw
    refine q_iast hC (arF61 hF) hin dX5_reading_137 138 rfl (fun M14 eM14 => ?_)
    have hw := hw M14 eM14
    refine q_iinc (v := v7 + 1) (L' := [(7, .int (v7 + 1)), (0, .ref (gA g 52)), (2, .int v2), (3, .int v3), (4, .int v4), (5, .int v5)]) hC dX5_reading_138 5 rfl rfl (by decide) rfl 141 rfl ?_
    refine q_goto hC 102 dX5_reading_141 (by decide) ?_
    exact XX.sub [1, 2, 3, 4, 5, 0] rfl (hK102 M14 v3 v4 v5 (v7 + 1) hw)
  have B102 : ∀ (n : Nat) (M : MM) (v3 : Int32) (v4 : Int32) (v5 : Int32) (v7 : Int32) , wX5_reading_102 Q v1 v2 n M v3 v4 v5 v7 → XX z g Qf 8 102 [(0, .ref (gA g 52)), (2, .int v2), (3, .int v3), (4, .int v4), (5, .int v5), (7, .int v7)] [] M := by
    intro n
    induction n with
    | zero =>
      intro M v3 v4 v5 v7 hw
      exact hw.elim
    | succ n ih =>
      intro M v3 v4 v5 v7 hw
      refine q_iload hC dX5_reading_102 5 rfl 104 rfl ?_
      refine q_iload_n hC dX5_reading_104 2 rfl 105 rfl ?_
      refine q_icmp_ge hC 144 dX5_reading_105 (by decide) 108 rfl hw (fun hw => ?_) (fun hw => ?_)
      · refine q_iload hC dX5_reading_144 3 rfl 146 rfl ?_
        refine q_iload hC dX5_reading_146 4 rfl 148 rfl ?_
        refine q_iconst (v := 2) hC dX5_reading_148 rfl 149 rfl ?_
        refine q_irem hC dX5_reading_149 (by decide) 150 rfl ?_
        refine q_iconst (v := 1) hC dX5_reading_150 rfl 151 rfl ?_
        refine q_icmp_ne hC 160 dX5_reading_151 (by decide) 154 rfl hw (fun hw => ?_) (fun hw => ?_)
        · refine q_iconst (v := 0) hC dX5_reading_160 rfl 161 rfl ?_
          exact XX.sub [] rfl (B161 M 0 v4 hw)
        · refine q_iconst (v := 1) hC dX5_reading_154 rfl 155 rfl ?_
          refine q_iload_n hC dX5_reading_155 1 rfl 156 rfl ?_
          refine q_ishl hC dX5_reading_156 157 rfl ?_
          refine q_goto hC 161 dX5_reading_157 (by decide) ?_
          exact XX.sub [] rfl (B161 M ((1 : Int32) <<< (v2 &&& 31)) v4 hw)
      · refine q_aload_n hC dX5_reading_108 0 rfl 109 rfl ?_
        refine q_getR (C := RX5) (T := TX5) (N := 26) (ci := 5) hC inX5_reading_X5 (obF52 hF) rfl 17 (by decide) (uX5_reading__o _ (List.mem_of_getElem? (l := owX5_reading) (i := 1) rfl)) rfl 61 (fun _ => rfl) dX5_reading_109 112 rfl ?_
        refine q_iload hC dX5_reading_112 5 rfl 114 rfl ?_
        refine q_dup2 hC dX5_reading_114 rfl rfl 115 rfl ?_
        obtain ⟨hin, hw⟩ := hw
        refine q_iald hC (arF61 hF) hin dX5_reading_115 116 rfl ?_
        refine q_aload_n hC dX5_reading_116 0 rfl 117 rfl ?_
        refine q_getR (C := RX5) (T := TX5) (N := 26) (ci := 5) hC inX5_reading_X5 (obF52 hF) rfl 17 (by decide) (uX5_reading__o _ (List.mem_of_getElem? (l := owX5_reading) (i := 1) rfl)) rfl 61 (fun _ => rfl) dX5_reading_117 120 rfl ?_
        refine q_iload hC dX5_reading_120 5 rfl 122 rfl ?_
        obtain ⟨hin, hw⟩ := hw
        refine q_iald hC (arF61 hF) hin dX5_reading_122 123 rfl ?_
        refine r_callI hC (go_T (As := [.int (M 61 v7.toNatClampNeg)]) (rest := [.int (M 61 v7.toNatClampNeg), .int v7, .ref (gA g 61)]) hC (ctX5_odd (zl z) g M (M 61 v7.toNatClampNeg) _ hw) 1 gX5_reading_X5_odd rfl ⟨rfl, rfl⟩ hdT_X5_odd ⟨Nat.le_of_ble_eq_true rfl, Nat.le_of_ble_eq_true rfl⟩ rfl rfl (Nat.le_of_ble_eq_true rfl) dX5_reading_123) 126 rfl (fun r12 M13 hw => ?_)
        refine q_if_ne hC 135 dX5_reading_126 (by decide) 129 rfl hw (fun hw => ?_) (fun hw => ?_)
        · refine q_iconst (v := 0) hC dX5_reading_135 rfl 136 rfl ?_
          exact XX.sub [0, 1, 2, 3, 4, 5] rfl (B136 _ (fun M v3 v4 v5 v7 hw => ih M v3 v4 v5 v7 hw) M13 v3 v4 v5 v7 0 (M 61 v7.toNatClampNeg) v7 hw)
        · refine q_iconst (v := 1) hC dX5_reading_129 rfl 130 rfl ?_
          refine q_iload_n hC dX5_reading_130 1 rfl 131 rfl ?_
          refine q_ishl hC dX5_reading_131 132 rfl ?_
          refine q_goto hC 136 dX5_reading_132 (by decide) ?_
          exact XX.sub [0, 1, 2, 3, 4, 5] rfl (B136 _ (fun M v3 v4 v5 v7 hw => ih M v3 v4 v5 v7 hw) M13 v3 v4 v5 v7 ((1 : Int32) <<< (v2 &&& 31)) (M 61 v7.toNatClampNeg) v7 hw)
  have B93 : ∀ (M : MM) (v3 : Int32) (v4 : Int32) (v5 : Int32) (v6 : Int32), wX5_reading_93 Q v1 v2 M v3 v4 v5 v6 → XX z g Qf 8 93 [(0, .ref (gA g 52)), (2, .int v2), (3, .int v3), (4, .int v4), (5, .int v5), (6, .int v6)] [] M := by
    intro M v3 v4 v5 v6 hw
    refine q_iload_n hC dX5_reading_93 1 rfl 94 rfl ?_
    refine q_bipush (v := (-4)) hC dX5_reading_94 (by decide) 96 rfl ?_
    refine q_icmp_eq hC 170 dX5_reading_96 (by decide) 99 rfl hw (fun hw => ?_) (fun hw => ?_)
    · refine q_iload hC dX5_reading_170 3 rfl 172 rfl ?_
      refine r_callI hC (go_T (As := [.int v4]) (rest := []) hC (ctX5_onesOf (zl z) g M v4 _ hw) 1 gX5_reading_X5_onesOf rfl ⟨rfl, rfl⟩ hdT_X5_onesOf ⟨Nat.le_of_ble_eq_true rfl, Nat.le_of_ble_eq_true rfl⟩ rfl rfl (Nat.le_of_ble_eq_true rfl) dX5_reading_172) 175 rfl (fun r9 M10 hw => ?_)
      refine q_iconst (v := 1) hC dX5_reading_175 rfl 176 rfl ?_
      refine q_icmp_ne hC 185 dX5_reading_176 (by decide) 179 rfl hw (fun hw => ?_) (fun hw => ?_)
      · refine q_iconst (v := 3) hC dX5_reading_185 rfl 186 rfl ?_
        exact r_iret hR dX5_reading_186 hw
      · refine q_iload hC dX5_reading_179 4 rfl 181 rfl ?_
        refine q_iconst (v := 1) hC dX5_reading_181 rfl 182 rfl ?_
        refine q_icmp_le hC 187 dX5_reading_182 (by decide) 185 rfl hw (fun hw => ?_) (fun hw => ?_)
        · refine q_iload hC dX5_reading_187 4 rfl 189 rfl ?_
          refine q_iconst (v := 1) hC dX5_reading_189 rfl 190 rfl ?_
          refine q_icmp_ne hC 205 dX5_reading_190 (by decide) 193 rfl hw (fun hw => ?_) (fun hw => ?_)
          · refine q_iconst (v := 1) hC dX5_reading_205 rfl 206 rfl ?_
            exact r_iret hR dX5_reading_206 hw
          · refine q_aload_n hC dX5_reading_193 0 rfl 194 rfl ?_
            refine q_getR (C := RX5) (T := TX5) (N := 26) (ci := 5) hC inX5_reading_X5 (obF52 hF) rfl 17 (by decide) (uX5_reading__o _ (List.mem_of_getElem? (l := owX5_reading) (i := 1) rfl)) rfl 61 (fun _ => rfl) dX5_reading_194 197 rfl ?_
            refine q_iload hC dX5_reading_197 5 rfl 199 rfl ?_
            refine q_dup2 hC dX5_reading_199 rfl rfl 200 rfl ?_
            obtain ⟨hin, hw⟩ := hw
            refine q_iald hC (arF61 hF) hin dX5_reading_200 201 rfl ?_
            refine q_iload hC dX5_reading_201 3 rfl 203 rfl ?_
            refine q_ixor hC dX5_reading_203 204 rfl ?_
            obtain ⟨hin, hw⟩ := hw
            refine q_iast hC (arF61 hF) hin dX5_reading_204 205 rfl (fun M11 eM11 => ?_)
            have hw := hw M11 eM11
            refine q_iconst (v := 1) hC dX5_reading_205 rfl 206 rfl ?_
            exact r_iret hR dX5_reading_206 hw
        · refine q_iconst (v := 3) hC dX5_reading_185 rfl 186 rfl ?_
          exact r_iret hR dX5_reading_186 hw
    · refine q_iconst (v := 0) hC dX5_reading_99 rfl 100 rfl ?_
      refine q_istore (L' := [(7, .int 0), (0, .ref (gA g 52)), (2, .int v2), (3, .int v3), (4, .int v4), (5, .int v5), (6, .int v6)]) hC dX5_reading_100 (by decide) rfl 102 rfl ?_
      obtain ⟨n0, hw⟩ := hw
      exact XX.sub [1, 2, 3, 4, 5, 0] rfl (B102 n0 M v3 v4 v5 0 hw)
  have B75 : ∀ (K35 : MM → Int32 → Int32 → Int32 → Int32 → Int32 → Prop) (hK35 : ∀ (M : MM) (v3 : Int32) (v4 : Int32) (v5 : Int32) (v6 : Int32) (v7 : Int32) , K35 M v3 v4 v5 v6 v7 → XX z g Qf 8 35 [(0, .ref (gA g 52)), (1, .int v1), (2, .int v2), (3, .int v3), (4, .int v4), (5, .int v5), (6, .int v6), (7, .int v7)] [] M) (M : MM) (v3 : Int32) (v4 : Int32) (v5 : Int32) (v6 : Int32) (v7 : Int32), wX5_reading_75 Q K35 v1 v2 M v3 v4 v5 v6 v7 → XX z g Qf 8 75 [(0, .ref (gA g 52)), (1, .int v1), (2, .int v2), (3, .int v3), (4, .int v4), (5, .int v5), (6, .int v6), (7, .int v7)] [] M := by
    intro K35 hK35 M v3 v4 v5 v6 v7 hw
    refine q_iinc (v := v7 + 1) (L' := [(7, .int (v7 + 1)), (0, .ref (gA g 52)), (1, .int v1), (2, .int v2), (3, .int v3), (4, .int v4), (5, .int v5), (6, .int v6)]) hC dX5_reading_75 7 rfl rfl (by decide) rfl 78 rfl ?_
    refine q_goto hC 35 dX5_reading_78 (by decide) ?_
    exact XX.sub [1, 2, 3, 4, 5, 6, 7, 0] rfl (hK35 M v3 v4 v5 v6 (v7 + 1) hw)
  have B35 : ∀ (n : Nat) (M : MM) (v3 : Int32) (v4 : Int32) (v5 : Int32) (v6 : Int32) (v7 : Int32) , wX5_reading_35 Q v1 v2 n M v3 v4 v5 v6 v7 → XX z g Qf 8 35 [(0, .ref (gA g 52)), (1, .int v1), (2, .int v2), (3, .int v3), (4, .int v4), (5, .int v5), (6, .int v6), (7, .int v7)] [] M := by
    intro n
    induction n with
    | zero =>
      intro M v3 v4 v5 v6 v7 hw
      exact hw.elim
    | succ n ih =>
      intro M v3 v4 v5 v6 v7 hw
      refine q_iload hC dX5_reading_35 7 rfl 37 rfl ?_
      refine q_iload_n hC dX5_reading_37 3 rfl 38 rfl ?_
      refine q_icmp_ge hC 81 dX5_reading_38 (by decide) 41 rfl hw (fun hw => ?_) (fun hw => ?_)
      · refine q_iload hC dX5_reading_81 5 rfl 83 rfl ?_
        refine q_if_ne hC 93 dX5_reading_83 (by decide) 86 rfl hw (fun hw => ?_) (fun hw => ?_)
        · exact XX.sub [0, 2, 3, 4, 5, 6] rfl (B93 M v3 v4 v5 v6 hw)
        · refine q_iload hC dX5_reading_86 4 rfl 88 rfl ?_
          refine q_if_ne hC 93 dX5_reading_88 (by decide) 91 rfl hw (fun hw => ?_) (fun hw => ?_)
          · exact XX.sub [0, 2, 3, 4, 5, 6] rfl (B93 M v3 v4 v5 v6 hw)
          · refine q_iconst (v := 0) hC dX5_reading_91 rfl 92 rfl ?_
            exact r_iret hR dX5_reading_92 hw
      · refine q_aload_n hC dX5_reading_41 0 rfl 42 rfl ?_
        refine q_getR (C := RX5) (T := TX5) (N := 26) (ci := 5) hC inX5_reading_X5 (obF52 hF) rfl 17 (by decide) (uX5_reading__o _ (List.mem_of_getElem? (l := owX5_reading) (i := 1) rfl)) rfl 61 (fun _ => rfl) dX5_reading_42 45 rfl ?_
        refine q_iload hC dX5_reading_45 7 rfl 47 rfl ?_
        refine q_aload_n hC dX5_reading_47 0 rfl 48 rfl ?_
        refine q_iload_n hC dX5_reading_48 1 rfl 49 rfl ?_
        refine q_iload hC dX5_reading_49 7 rfl 51 rfl ?_
        refine r_callI hC (go_V (q := (RX5, TX5, 26)) (As := [.int v1, .int v7]) (rest := [.int v7, .ref (gA g 61)]) hC (ctX5_columnOf (zl z) g M v1 v7 _ hF hw) 2 gX5_reading_X5_columnOf rfl ⟨rfl, rfl⟩ hdV_X5_columnOf ⟨Nat.le_of_ble_eq_true rfl, Nat.le_of_ble_eq_true rfl⟩ (obF52 hF) rfl rfl rfl (Nat.le_of_ble_eq_true rfl) dX5_reading_51) 54 rfl (fun r4 M5 hw => ?_)
        obtain ⟨hin, hw⟩ := hw
        refine q_iast hC (arF61 hF) hin dX5_reading_54 55 rfl (fun M6 eM6 => ?_)
        have hw := hw M6 eM6
        refine q_aload_n hC dX5_reading_55 0 rfl 56 rfl ?_
        refine q_getR (C := RX5) (T := TX5) (N := 26) (ci := 5) hC inX5_reading_X5 (obF52 hF) rfl 17 (by decide) (uX5_reading__o _ (List.mem_of_getElem? (l := owX5_reading) (i := 1) rfl)) rfl 61 (fun _ => rfl) dX5_reading_56 59 rfl ?_
        refine q_iload hC dX5_reading_59 7 rfl 61 rfl ?_
        obtain ⟨hin, hw⟩ := hw
        refine q_iald hC (arF61 hF) hin dX5_reading_61 62 rfl ?_
        refine r_callI hC (go_T (As := [.int (M6 61 v7.toNatClampNeg)]) (rest := []) hC (ctX5_odd (zl z) g M6 (M6 61 v7.toNatClampNeg) _ hw) 1 gX5_reading_X5_odd rfl ⟨rfl, rfl⟩ hdT_X5_odd ⟨Nat.le_of_ble_eq_true rfl, Nat.le_of_ble_eq_true rfl⟩ rfl rfl (Nat.le_of_ble_eq_true rfl) dX5_reading_62) 65 rfl (fun r7 M8 hw => ?_)
        refine q_if_ne hC 75 dX5_reading_65 (by decide) 68 rfl hw (fun hw => ?_) (fun hw => ?_)
        · exact XX.sub [0, 1, 2, 3, 4, 5, 6, 7] rfl (B75 _ (fun M v3 v4 v5 v6 v7 hw => ih M v3 v4 v5 v6 v7 hw) M8 v3 v4 v5 v6 v7 hw)
        · refine q_iinc (v := v5 + 1) (L' := [(5, .int (v5 + 1)), (0, .ref (gA g 52)), (1, .int v1), (2, .int v2), (3, .int v3), (4, .int v4), (6, .int v6), (7, .int v7)]) hC dX5_reading_68 5 rfl rfl (by decide) rfl 71 rfl ?_
          refine q_iload hC dX5_reading_71 7 rfl 73 rfl ?_
          refine q_istore (L' := [(6, .int v7), (5, .int (v5 + 1)), (0, .ref (gA g 52)), (1, .int v1), (2, .int v2), (3, .int v3), (4, .int v4), (7, .int v7)]) hC dX5_reading_73 (by decide) rfl 75 rfl ?_
          exact XX.sub [2, 3, 4, 5, 6, 1, 0, 7] rfl (B75 _ (fun M v3 v4 v5 v6 v7 hw => ih M v3 v4 v5 v6 v7 hw) M8 v3 v4 (v5 + 1) v7 v7 hw)
  have B23 : ∀ (M : MM) (v3 : Int32) (p0 : Int32), wX5_reading_23 Q v1 v2 M v3 p0 → XX z g Qf 8 23 [(0, .ref (gA g 52)), (1, .int v1), (2, .int v2), (3, .int v3)] [.int p0] M := by
    intro M v3 p0 hw
    refine q_istore (L' := [(4, .int p0), (0, .ref (gA g 52)), (1, .int v1), (2, .int v2), (3, .int v3)]) hC dX5_reading_23 (by decide) rfl 25 rfl ?_
    refine q_iconst (v := 0) hC dX5_reading_25 rfl 26 rfl ?_
    refine q_istore (L' := [(5, .int 0), (4, .int p0), (0, .ref (gA g 52)), (1, .int v1), (2, .int v2), (3, .int v3)]) hC dX5_reading_26 (by decide) rfl 28 rfl ?_
    refine q_bipush (v := (-4)) hC dX5_reading_28 (by decide) 30 rfl ?_
    refine q_istore (L' := [(6, .int (-4)), (5, .int 0), (4, .int p0), (0, .ref (gA g 52)), (1, .int v1), (2, .int v2), (3, .int v3)]) hC dX5_reading_30 (by decide) rfl 32 rfl ?_
    refine q_iconst (v := 0) hC dX5_reading_32 rfl 33 rfl ?_
    refine q_istore (L' := [(7, .int 0), (6, .int (-4)), (5, .int 0), (4, .int p0), (0, .ref (gA g 52)), (1, .int v1), (2, .int v2), (3, .int v3)]) hC dX5_reading_33 (by decide) rfl 35 rfl ?_
    obtain ⟨n0, hw⟩ := hw
    exact XX.sub [4, 5, 6, 7, 3, 2, 1, 0] rfl (B35 n0 M v3 p0 0 (-4) 0 hw)
  refine q_aload_n hC dX5_reading_0 0 rfl 1 rfl ?_
  refine q_getR (C := RX5) (T := TX5) (N := 26) (ci := 5) hC inX5_reading_X5 (obF52 hF) rfl 0 (by decide) (uX5_reading__X5_columnOf _ (List.mem_of_getElem? (l := owX5_columnOf) (i := 1) rfl)) rfl 53 (fun _ => rfl) dX5_reading_1 4 rfl ?_
  refine q_bipush (v := 13) hC dX5_reading_4 (by decide) 6 rfl ?_
  refine q_iload_n hC dX5_reading_6 1 rfl 7 rfl ?_
  refine q_iadd hC dX5_reading_7 8 rfl ?_
  obtain ⟨hin, hw⟩ := hw
  refine q_iald hC (arF53 hF) hin dX5_reading_8 9 rfl ?_
  refine q_nameI (fun x1 ex1 => ?_)
  have hw := hw x1 ex1
  refine q_istore_n (L' := [(3, .int x1), (0, .ref (gA g 52)), (1, .int v1), (2, .int v2)]) hC dX5_reading_9 (by decide) rfl 10 rfl ?_
  refine q_iload_n hC dX5_reading_10 0 rfl 11 rfl ?_
  refine q_if_ne hC 18 dX5_reading_11 (by decide) 14 rfl hw (fun hw => ?_) (fun hw => ?_)
  · refine q_aload_n hC dX5_reading_18 1 rfl 19 rfl ?_
    refine q_iload_n hC dX5_reading_19 2 rfl 20 rfl ?_
    refine r_callI hC (go_V (q := (RX5, TX5, 26)) (As := [.int v1]) (rest := []) hC (ctX5_across (zl z) g M v1 _ hF hw) 1 gX5_reading_X5_across rfl ⟨rfl, rfl⟩ hdV_X5_across ⟨Nat.le_of_ble_eq_true rfl, Nat.le_of_ble_eq_true rfl⟩ (obF52 hF) rfl rfl rfl (Nat.le_of_ble_eq_true rfl) dX5_reading_20) 23 rfl (fun r2 M3 hw => ?_)
    exact XX.sub [1, 2, 3, 0] rfl (B23 M3 x1 r2 hw)
  · refine q_iconst (v := 0) hC dX5_reading_14 rfl 15 rfl ?_
    refine q_goto hC 23 dX5_reading_15 (by decide) ?_
    exact XX.sub [1, 2, 3, 0] rfl (B23 M x1 0 hw)
theorem hdV_X5_reading : yX5_reading.cls = RX5 ∧ yX5_reading.cls ≠ "java/lang/invoke/MethodHandle" ∧ yX5_reading.cls ≠ "java/lang/invoke/VarHandle" ∧ (parseMethodDescriptor yX5_reading.desc).map (fun d => d.parameters.length) = some 2 := by decide +kernel
theorem inX5_check_X5 : ∀ w ∈ u_ws RX5 TX5 26, w ∈ wsX5_check := uX5_check__wsX50
set_option maxRecDepth 100000 in
set_option maxHeartbeats 4000000 in
theorem ctX5_check (l : Launch) (g : GG) (M : MM) (v1 : Int32) (Q : Int32 → MM → Prop) (hF : ful5 g) (hw : wX5_check Q M v1) : MI g l yX5_check wsX5_check (rmOf 3 72) [.ref (gA g 52), .int v1] M Q := by
  refine mk_MI (cc := cX5_check) (maxL := 2) (by decide) rfl (Nat.le_of_ble_eq_true rfl) ?_
  intro z Qf hC hR
  show XX z g Qf 2 0 [(0, .ref (gA g 52)), (1, .int v1)] [] M
  refine q_aload_n hC dX5_check_0 0 rfl 1 rfl ?_
  refine q_iload_n hC dX5_check_1 1 rfl 2 rfl ?_
  refine r_callI hC (go_V (q := (RX5, TX5, 26)) (As := [.int v1]) (rest := []) hC (ctX5_isBlock (zl z) g M v1 _ hF hw) 1 gX5_check_X5_isBlock rfl ⟨rfl, rfl⟩ hdV_X5_isBlock ⟨Nat.le_of_ble_eq_true rfl, Nat.le_of_ble_eq_true rfl⟩ (obF52 hF) rfl rfl rfl (Nat.le_of_ble_eq_true rfl) dX5_check_2) 5 rfl (fun r1 M2 hw => ?_)
  refine q_if_eq hC 24 dX5_check_5 (by decide) 8 rfl hw (fun hw => ?_) (fun hw => ?_)
  · refine q_iconst (v := (-1)) hC dX5_check_24 rfl 25 rfl ?_
    exact r_iret hR dX5_check_25 hw
  · refine q_aload_n hC dX5_check_8 0 rfl 9 rfl ?_
    refine q_iload_n hC dX5_check_9 1 rfl 10 rfl ?_
    refine q_aload_n hC dX5_check_10 0 rfl 11 rfl ?_
    refine q_getR (C := RX5) (T := TX5) (N := 26) (ci := 5) hC inX5_check_X5 (obF52 hF) rfl 0 (by decide) (uX5_check__X5_isBlock _ (List.mem_of_getElem? (l := owX5_isBlock) (i := 1) rfl)) rfl 53 (fun _ => rfl) dX5_check_11 14 rfl ?_
    refine q_sipush (v := 340) hC dX5_check_14 (by decide) 17 rfl ?_
    refine q_ialdL hC (arF53 hF) 340 (by decide +kernel) (by decide +kernel) dX5_check_17 18 rfl ?_
    refine r_callI hC (go_V (q := (RX5, TX5, 26)) (As := [.int v1, .int (M2 53 340)]) (rest := []) hC (ctX5_reading (zl z) g M2 v1 (M2 53 340) _ hF hw) 2 gX5_check_X5_reading rfl ⟨rfl, rfl⟩ hdV_X5_reading ⟨Nat.le_of_ble_eq_true rfl, Nat.le_of_ble_eq_true rfl⟩ (obF52 hF) rfl rfl rfl (Nat.le_of_ble_eq_true rfl) dX5_check_18) 21 rfl (fun r3 M4 hw => ?_)
    refine q_goto hC 25 dX5_check_21 (by decide) ?_
    exact r_iret hR dX5_check_25 hw
theorem inX5_got_X5 : ∀ w ∈ u_ws RX5 TX5 26, w ∈ wsX5_got := uX5_got__wsX50
set_option maxRecDepth 100000 in
set_option maxHeartbeats 4000000 in
theorem ctX5_got (l : Launch) (g : GG) (M : MM) (v1 : Int32) (v2 : Int32) (Q : Int32 → MM → Prop) (hF : ful5 g) (hw : wX5_got Q M v1 v2) : MI g l yX5_got wsX5_got (rmOf 3 72) [.ref (gA g 52), .int v1, .int v2] M Q := by
  refine mk_MI (cc := cX5_got) (maxL := 3) (by decide) rfl (Nat.le_of_ble_eq_true rfl) ?_
  intro z Qf hC hR
  show XX z g Qf 3 0 [(0, .ref (gA g 52)), (1, .int v1), (2, .int v2)] [] M
  refine q_aload_n hC dX5_got_0 0 rfl 1 rfl ?_
  refine q_iload_n hC dX5_got_1 1 rfl 2 rfl ?_
  refine r_callI hC (go_V (q := (RX5, TX5, 26)) (As := [.int v1]) (rest := []) hC (ctX5_isBlock (zl z) g M v1 _ hF hw) 1 gX5_got_X5_isBlock rfl ⟨rfl, rfl⟩ hdV_X5_isBlock ⟨Nat.le_of_ble_eq_true rfl, Nat.le_of_ble_eq_true rfl⟩ (obF52 hF) rfl rfl rfl (Nat.le_of_ble_eq_true rfl) dX5_got_2) 5 rfl (fun r1 M2 hw => ?_)
  refine q_if_eq hC 29 dX5_got_5 (by decide) 8 rfl hw (fun hw => ?_) (fun hw => ?_)
  · refine q_iconst (v := (-1)) hC dX5_got_29 rfl 30 rfl ?_
    exact r_iret hR dX5_got_30 hw
  · refine q_iload_n hC dX5_got_8 2 rfl 9 rfl ?_
    refine q_i2l hC dX5_got_9 10 rfl ?_
    refine q_lconst (v := 0) hC dX5_got_10 rfl 11 rfl ?_
    refine q_aload_n hC dX5_got_11 0 rfl 12 rfl ?_
    refine q_getR (C := RX5) (T := TX5) (N := 26) (ci := 5) hC inX5_got_X5 (obF52 hF) rfl 0 (by decide) (uX5_got__X5_isBlock _ (List.mem_of_getElem? (l := owX5_isBlock) (i := 1) rfl)) rfl 53 (fun _ => rfl) dX5_got_12 15 rfl ?_
    refine q_bipush (v := 13) hC dX5_got_15 (by decide) 17 rfl ?_
    refine q_iload_n hC dX5_got_17 1 rfl 18 rfl ?_
    refine q_iadd hC dX5_got_18 19 rfl ?_
    obtain ⟨hin, hw⟩ := hw
    refine q_iald hC (arF53 hF) hin dX5_got_19 20 rfl ?_
    refine q_iconst (v := 1) hC dX5_got_20 rfl 21 rfl ?_
    refine q_isub hC dX5_got_21 22 rfl ?_
    refine q_i2l hC dX5_got_22 23 rfl ?_
    refine r_callI hC (go_T (As := [.long (v2.toInt64), .long 0, .long (((M2 53 ((13 : Int32) + v1).toNatClampNeg) - (1 : Int32)).toInt64)]) (rest := []) hC (ctX5_in (zl z) g M2 (v2.toInt64) 0 (((M2 53 ((13 : Int32) + v1).toNatClampNeg) - (1 : Int32)).toInt64) _ hw) 3 gX5_got_X5_in rfl ⟨rfl, rfl⟩ hdT_X5_in ⟨Nat.le_of_ble_eq_true rfl, Nat.le_of_ble_eq_true rfl⟩ rfl rfl (Nat.le_of_ble_eq_true rfl) dX5_got_23) 26 rfl (fun r3 M4 hw => ?_)
    refine q_if_ne hC 31 dX5_got_26 (by decide) 29 rfl hw (fun hw => ?_) (fun hw => ?_)
    · refine q_aload_n hC dX5_got_31 0 rfl 32 rfl ?_
      refine q_iload_n hC dX5_got_32 1 rfl 33 rfl ?_
      refine q_aload_n hC dX5_got_33 0 rfl 34 rfl ?_
      refine q_getR (C := RX5) (T := TX5) (N := 26) (ci := 5) hC inX5_got_X5 (obF52 hF) rfl 0 (by decide) (uX5_got__X5_isBlock _ (List.mem_of_getElem? (l := owX5_isBlock) (i := 1) rfl)) rfl 53 (fun _ => rfl) dX5_got_34 37 rfl ?_
      refine q_sipush (v := 340) hC dX5_got_37 (by decide) 40 rfl ?_
      refine q_ialdL hC (arF53 hF) 340 (by decide +kernel) (by decide +kernel) dX5_got_40 41 rfl ?_
      refine r_callI hC (go_V (q := (RX5, TX5, 26)) (As := [.int v1, .int (M4 53 340)]) (rest := []) hC (ctX5_reading (zl z) g M4 v1 (M4 53 340) _ hF hw) 2 gX5_got_X5_reading rfl ⟨rfl, rfl⟩ hdV_X5_reading ⟨Nat.le_of_ble_eq_true rfl, Nat.le_of_ble_eq_true rfl⟩ (obF52 hF) rfl rfl rfl (Nat.le_of_ble_eq_true rfl) dX5_got_41) 44 rfl (fun r5 M6 hw => ?_)
      refine q_iconst (v := 3) hC dX5_got_44 rfl 45 rfl ?_
      refine q_icmp_ne hC 53 dX5_got_45 (by decide) 48 rfl hw (fun hw => ?_) (fun hw => ?_)
      · refine q_aload_n hC dX5_got_53 0 rfl 54 rfl ?_
        refine q_getR (C := RX5) (T := TX5) (N := 26) (ci := 5) hC inX5_got_X5 (obF52 hF) rfl 17 (by decide) (uX5_got__X5_reading _ (List.mem_of_getElem? (l := owX5_reading) (i := 1) rfl)) rfl 61 (fun _ => rfl) dX5_got_54 57 rfl ?_
        refine q_iload_n hC dX5_got_57 2 rfl 58 rfl ?_
        obtain ⟨hin, hw⟩ := hw
        refine q_iald hC (arF61 hF) hin dX5_got_58 59 rfl ?_
        refine q_sipush (v := 255) hC dX5_got_59 (by decide) 62 rfl ?_
        refine q_iand hC dX5_got_62 63 rfl ?_
        exact r_iret hR dX5_got_63 hw
      · refine q_bipush (v := (-4)) hC dX5_got_48 (by decide) 50 rfl ?_
        refine q_goto hC 63 dX5_got_50 (by decide) ?_
        exact r_iret hR dX5_got_63 hw
    · refine q_iconst (v := (-1)) hC dX5_got_29 rfl 30 rfl ?_
      exact r_iret hR dX5_got_30 hw
set_option maxRecDepth 100000 in
set_option maxHeartbeats 4000000 in
theorem ctX5_column (l : Launch) (g : GG) (M : MM) (v1 : Int32) (v2 : Int32) (Q : Int32 → MM → Prop) (hF : ful5 g) (hw : wX5_column Q M v1 v2) : MI g l yX5_column wsX5_column (rmOf 3 68) [.ref (gA g 52), .int v1, .int v2] M Q := by
  refine mk_MI (cc := cX5_column) (maxL := 3) (by decide) rfl (Nat.le_of_ble_eq_true rfl) ?_
  intro z Qf hC hR
  show XX z g Qf 3 0 [(0, .ref (gA g 52)), (1, .int v1), (2, .int v2)] [] M
  refine q_aload_n hC dX5_column_0 0 rfl 1 rfl ?_
  refine q_iload_n hC dX5_column_1 1 rfl 2 rfl ?_
  refine q_iload_n hC dX5_column_2 2 rfl 3 rfl ?_
  refine r_callI hC (go_V (q := (RX5, TX5, 26)) (As := [.int v1, .int v2]) (rest := []) hC (ctX5_isColumn (zl z) g M v1 v2 _ hF hw) 2 gX5_column_X5_isColumn rfl ⟨rfl, rfl⟩ hdV_X5_isColumn ⟨Nat.le_of_ble_eq_true rfl, Nat.le_of_ble_eq_true rfl⟩ (obF52 hF) rfl rfl rfl (Nat.le_of_ble_eq_true rfl) dX5_column_3) 6 rfl (fun r1 M2 hw => ?_)
  refine q_if_eq hC 18 dX5_column_6 (by decide) 9 rfl hw (fun hw => ?_) (fun hw => ?_)
  · refine q_iconst (v := (-1)) hC dX5_column_18 rfl 19 rfl ?_
    exact r_iret hR dX5_column_19 hw
  · refine q_aload_n hC dX5_column_9 0 rfl 10 rfl ?_
    refine q_iload_n hC dX5_column_10 1 rfl 11 rfl ?_
    refine q_iload_n hC dX5_column_11 2 rfl 12 rfl ?_
    refine r_callI hC (go_V (q := (RX5, TX5, 26)) (As := [.int v1, .int v2]) (rest := []) hC (ctX5_columnOf (zl z) g M2 v1 v2 _ hF hw) 2 gX5_column_X5_columnOf rfl ⟨rfl, rfl⟩ hdV_X5_columnOf ⟨Nat.le_of_ble_eq_true rfl, Nat.le_of_ble_eq_true rfl⟩ (obF52 hF) rfl rfl rfl (Nat.le_of_ble_eq_true rfl) dX5_column_12) 15 rfl (fun r3 M4 hw => ?_)
    refine q_goto hC 19 dX5_column_15 (by decide) ?_
    exact r_iret hR dX5_column_19 hw
theorem inX5_isFooled_X5 : ∀ w ∈ u_ws RX5 TX5 26, w ∈ wsX5_isFooled := uX5_isFooled__wsX50
set_option maxRecDepth 100000 in
set_option maxHeartbeats 4000000 in
theorem ctX5_isFooled (l : Launch) (g : GG) (M : MM) (v1 : Int32) (Q : Int32 → MM → Prop) (hF : ful5 g) (hw : wX5_isFooled Q M v1) : MI g l yX5_isFooled wsX5_isFooled (rmOf 3 72) [.ref (gA g 52), .int v1] M Q := by
  refine mk_MZ (cc := cX5_isFooled) (maxL := 5) (by decide) rfl (Nat.le_of_ble_eq_true rfl) ?_
  intro z Qf hC hR
  show XX z g Qf 5 0 [(0, .ref (gA g 52)), (1, .int v1)] [] M
  have B100 : ∀ (M : MM), wX5_isFooled_100 Q v1 M → XX z g Qf 5 100 [] [] M := by
    intro M hw
    refine q_iconst (v := 0) hC dX5_isFooled_100 rfl 101 rfl ?_
    exact r_iret hR dX5_isFooled_101 ⟨nb_0, hw⟩
  have B81 : ∀ (K28 : MM → Int32 → Int32 → Int32 → Prop) (hK28 : ∀ (M : MM) (v2 : Int32) (v3 : Int32) (v4 : Int32) , K28 M v2 v3 v4 → XX z g Qf 5 28 [(0, .ref (gA g 52)), (1, .int v1), (2, .int v2), (3, .int v3), (4, .int v4)] [] M) (M : MM) (v3 : Int32) (v4 : Int32) (p0 : Int32), wX5_isFooled_81 Q K28 v1 M v3 v4 p0 → XX z g Qf 5 81 [(0, .ref (gA g 52)), (1, .int v1), (3, .int v3), (4, .int v4)] [.int p0] M := by
    intro K28 hK28 M v3 v4 p0 hw
    refine q_istore_n (L' := [(2, .int p0), (0, .ref (gA g 52)), (1, .int v1), (3, .int v3), (4, .int v4)]) hC dX5_isFooled_81 (by decide) rfl 82 rfl ?_
    refine q_iinc (v := v4 + 1) (L' := [(4, .int (v4 + 1)), (2, .int p0), (0, .ref (gA g 52)), (1, .int v1), (3, .int v3)]) hC dX5_isFooled_82 4 rfl rfl (by decide) rfl 85 rfl ?_
    refine q_goto hC 28 dX5_isFooled_85 (by decide) ?_
    exact XX.sub [2, 3, 1, 4, 0] rfl (hK28 M p0 v3 (v4 + 1) hw)
  have B76 : ∀ (K28 : MM → Int32 → Int32 → Int32 → Prop) (hK28 : ∀ (M : MM) (v2 : Int32) (v3 : Int32) (v4 : Int32) , K28 M v2 v3 v4 → XX z g Qf 5 28 [(0, .ref (gA g 52)), (1, .int v1), (2, .int v2), (3, .int v3), (4, .int v4)] [] M) (M : MM) (v3 : Int32) (v4 : Int32), wX5_isFooled_76 Q K28 v1 M v3 v4 → XX z g Qf 5 76 [(0, .ref (gA g 52)), (1, .int v1), (3, .int v3), (4, .int v4)] [] M := by
    intro K28 hK28 M v3 v4 hw
    refine q_iconst (v := 1) hC dX5_isFooled_76 rfl 77 rfl ?_
    refine q_goto hC 81 dX5_isFooled_77 (by decide) ?_
    exact XX.sub [0, 1, 2, 3] rfl (B81 _ hK28 M v3 v4 1 hw)
  have B28 : ∀ (n : Nat) (M : MM) (v2 : Int32) (v3 : Int32) (v4 : Int32) , wX5_isFooled_28 Q v1 n M v2 v3 v4 → XX z g Qf 5 28 [(0, .ref (gA g 52)), (1, .int v1), (2, .int v2), (3, .int v3), (4, .int v4)] [] M := by
    intro n
    induction n with
    | zero =>
      intro M v2 v3 v4 hw
      exact hw.elim
    | succ n ih =>
      intro M v2 v3 v4 hw
      refine q_iload hC dX5_isFooled_28 4 rfl 30 rfl ?_
      refine q_aload_n hC dX5_isFooled_30 0 rfl 31 rfl ?_
      refine q_getR (C := RX5) (T := TX5) (N := 26) (ci := 5) hC inX5_isFooled_X5 (obF52 hF) rfl 0 (by decide) (uX5_isFooled__X5_columnOf _ (List.mem_of_getElem? (l := owX5_columnOf) (i := 1) rfl)) rfl 53 (fun _ => rfl) dX5_isFooled_31 34 rfl ?_
      refine q_bipush (v := 13) hC dX5_isFooled_34 (by decide) 36 rfl ?_
      refine q_iload_n hC dX5_isFooled_36 1 rfl 37 rfl ?_
      refine q_iadd hC dX5_isFooled_37 38 rfl ?_
      obtain ⟨hin, hw⟩ := hw
      refine q_iald hC (arF53 hF) hin dX5_isFooled_38 39 rfl ?_
      refine q_icmp_ge hC 88 dX5_isFooled_39 (by decide) 42 rfl hw (fun hw => ?_) (fun hw => ?_)
      · refine q_iload_n hC dX5_isFooled_88 2 rfl 89 rfl ?_
        refine q_if_eq hC 100 dX5_isFooled_89 (by decide) 92 rfl hw (fun hw => ?_) (fun hw => ?_)
        · exact XX.sub [] rfl (B100 M hw)
        · refine q_iload_n hC dX5_isFooled_92 3 rfl 93 rfl ?_
          refine q_if_ne hC 100 dX5_isFooled_93 (by decide) 96 rfl hw (fun hw => ?_) (fun hw => ?_)
          · exact XX.sub [] rfl (B100 M hw)
          · refine q_iconst (v := 1) hC dX5_isFooled_96 rfl 97 rfl ?_
            refine q_goto hC 101 dX5_isFooled_97 (by decide) ?_
            exact r_iret hR dX5_isFooled_101 ⟨nb_1, hw⟩
      · refine q_iload_n hC dX5_isFooled_42 2 rfl 43 rfl ?_
        refine q_if_ne hC 76 dX5_isFooled_43 (by decide) 46 rfl hw (fun hw => ?_) (fun hw => ?_)
        · exact XX.sub [0, 1, 3, 4] rfl (B76 _ (fun M v2 v3 v4 hw => ih M v2 v3 v4 hw) M v3 v4 hw)
        · refine q_aload_n hC dX5_isFooled_46 0 rfl 47 rfl ?_
          refine q_getR (C := RX5) (T := TX5) (N := 26) (ci := 5) hC inX5_isFooled_X5 (obF52 hF) rfl 17 (by decide) (uX5_isFooled__X5_reading _ (List.mem_of_getElem? (l := owX5_reading) (i := 1) rfl)) rfl 61 (fun _ => rfl) dX5_isFooled_47 50 rfl ?_
          refine q_iload hC dX5_isFooled_50 4 rfl 52 rfl ?_
          obtain ⟨hin, hw⟩ := hw
          refine q_iald hC (arF61 hF) hin dX5_isFooled_52 53 rfl ?_
          refine q_sipush (v := 255) hC dX5_isFooled_53 (by decide) 56 rfl ?_
          refine q_iand hC dX5_isFooled_56 57 rfl ?_
          refine q_aload_n hC dX5_isFooled_57 0 rfl 58 rfl ?_
          refine q_getR (C := RX5) (T := TX5) (N := 26) (ci := 5) hC inX5_isFooled_X5 (obF52 hF) rfl 0 (by decide) (uX5_isFooled__X5_columnOf _ (List.mem_of_getElem? (l := owX5_columnOf) (i := 1) rfl)) rfl 53 (fun _ => rfl) dX5_isFooled_58 61 rfl ?_
          refine q_sipush (v := 181) hC dX5_isFooled_61 (by decide) 64 rfl ?_
          refine q_bipush (v := 12) hC dX5_isFooled_64 (by decide) 66 rfl ?_
          refine q_iload_n hC dX5_isFooled_66 1 rfl 67 rfl ?_
          refine q_imul hC dX5_isFooled_67 68 rfl ?_
          refine q_iadd hC dX5_isFooled_68 69 rfl ?_
          refine q_iload hC dX5_isFooled_69 4 rfl 71 rfl ?_
          refine q_iadd hC dX5_isFooled_71 72 rfl ?_
          obtain ⟨hin, hw⟩ := hw
          refine q_iald hC (arF53 hF) hin dX5_isFooled_72 73 rfl ?_
          refine q_icmp_eq hC 80 dX5_isFooled_73 (by decide) 76 rfl hw (fun hw => ?_) (fun hw => ?_)
          · refine q_iconst (v := 0) hC dX5_isFooled_80 rfl 81 rfl ?_
            exact XX.sub [0, 1, 3, 4] rfl (B81 _ (fun M v2 v3 v4 hw => ih M v2 v3 v4 hw) M v3 v4 0 hw)
          · exact XX.sub [0, 1, 3, 4] rfl (B76 _ (fun M v2 v3 v4 hw => ih M v2 v3 v4 hw) M v3 v4 hw)
  have B24 : ∀ (M : MM) (v2 : Int32) (p0 : Int32), wX5_isFooled_24 Q v1 M v2 p0 → XX z g Qf 5 24 [(0, .ref (gA g 52)), (1, .int v1), (2, .int v2)] [.int p0] M := by
    intro M v2 p0 hw
    refine q_istore_n (L' := [(3, .int p0), (0, .ref (gA g 52)), (1, .int v1), (2, .int v2)]) hC dX5_isFooled_24 (by decide) rfl 25 rfl ?_
    refine q_iconst (v := 0) hC dX5_isFooled_25 rfl 26 rfl ?_
    refine q_istore (L' := [(4, .int 0), (3, .int p0), (0, .ref (gA g 52)), (1, .int v1), (2, .int v2)]) hC dX5_isFooled_26 (by decide) rfl 28 rfl ?_
    obtain ⟨n0, hw⟩ := hw
    exact XX.sub [2, 3, 4, 1, 0] rfl (B28 n0 M v2 p0 0 hw)
  refine q_iconst (v := 0) hC dX5_isFooled_0 rfl 1 rfl ?_
  refine q_istore_n (L' := [(2, .int 0), (0, .ref (gA g 52)), (1, .int v1)]) hC dX5_isFooled_1 (by decide) rfl 2 rfl ?_
  refine q_aload_n hC dX5_isFooled_2 1 rfl 3 rfl ?_
  refine q_iload_n hC dX5_isFooled_3 2 rfl 4 rfl ?_
  refine q_aload_n hC dX5_isFooled_4 1 rfl 5 rfl ?_
  refine q_getR (C := RX5) (T := TX5) (N := 26) (ci := 5) hC inX5_isFooled_X5 (obF52 hF) rfl 0 (by decide) (uX5_isFooled__X5_columnOf _ (List.mem_of_getElem? (l := owX5_columnOf) (i := 1) rfl)) rfl 53 (fun _ => rfl) dX5_isFooled_5 8 rfl ?_
  refine q_sipush (v := 340) hC dX5_isFooled_8 (by decide) 11 rfl ?_
  refine q_ialdL hC (arF53 hF) 340 (by decide +kernel) (by decide +kernel) dX5_isFooled_11 12 rfl ?_
  refine r_callI hC (go_V (q := (RX5, TX5, 26)) (As := [.int v1, .int (M 53 340)]) (rest := []) hC (ctX5_reading (zl z) g M v1 (M 53 340) _ hF hw) 2 gX5_isFooled_X5_reading rfl ⟨rfl, rfl⟩ hdV_X5_reading ⟨Nat.le_of_ble_eq_true rfl, Nat.le_of_ble_eq_true rfl⟩ (obF52 hF) rfl rfl rfl (Nat.le_of_ble_eq_true rfl) dX5_isFooled_12) 15 rfl (fun r1 M2 hw => ?_)
  refine q_iconst (v := 3) hC dX5_isFooled_15 rfl 16 rfl ?_
  refine q_icmp_ne hC 23 dX5_isFooled_16 (by decide) 19 rfl hw (fun hw => ?_) (fun hw => ?_)
  · refine q_iconst (v := 0) hC dX5_isFooled_23 rfl 24 rfl ?_
    exact XX.sub [1, 2, 0] rfl (B24 M2 0 0 hw)
  · refine q_iconst (v := 1) hC dX5_isFooled_19 rfl 20 rfl ?_
    refine q_goto hC 24 dX5_isFooled_20 (by decide) ?_
    exact XX.sub [1, 2, 0] rfl (B24 M2 0 1 hw)
theorem hdV_X5_isFooled : yX5_isFooled.cls = RX5 ∧ yX5_isFooled.cls ≠ "java/lang/invoke/MethodHandle" ∧ yX5_isFooled.cls ≠ "java/lang/invoke/VarHandle" ∧ (parseMethodDescriptor yX5_isFooled.desc).map (fun d => d.parameters.length) = some 1 := by decide +kernel
theorem inX5_state_X5 : ∀ w ∈ u_ws RX5 TX5 26, w ∈ wsX5_state := uX5_state__wsX50
set_option maxRecDepth 100000 in
set_option maxHeartbeats 4000000 in
theorem ctX5_state (l : Launch) (g : GG) (M : MM) (v1 : Int32) (Q : Int32 → MM → Prop) (hF : ful5 g) (hw : wX5_state Q M v1) : MI g l yX5_state wsX5_state (rmOf 4 96) [.ref (gA g 52), .int v1] M Q := by
  refine mk_MI (cc := cX5_state) (maxL := 6) (by decide) rfl (Nat.le_of_ble_eq_true rfl) ?_
  intro z Qf hC hR
  show XX z g Qf 6 0 [(0, .ref (gA g 52)), (1, .int v1)] [] M
  have B106 : ∀ (K18 : MM → Int32 → Int32 → Prop) (hK18 : ∀ (M : MM) (v2 : Int32) (v3 : Int32) , K18 M v2 v3 → XX z g Qf 6 18 [(0, .ref (gA g 52)), (1, .int v1), (2, .int v2), (3, .int v3)] [] M) (M : MM) (v3 : Int32) (p0 : Int32) (p1 : Int32), wX5_state_106 Q K18 v1 M v3 p0 p1 → XX z g Qf 6 106 [(0, .ref (gA g 52)), (1, .int v1), (3, .int v3)] [.int p0, .int p1] M := by
    intro K18 hK18 M v3 p0 p1 hw
    refine q_ior hC dX5_state_106 107 rfl ?_
    refine q_istore_n (L' := [(2, .int (p1 ||| p0)), (0, .ref (gA g 52)), (1, .int v1), (3, .int v3)]) hC dX5_state_107 (by decide) rfl 108 rfl ?_
    refine q_iinc (v := v3 + 1) (L' := [(3, .int (v3 + 1)), (2, .int (p1 ||| p0)), (0, .ref (gA g 52)), (1, .int v1)]) hC dX5_state_108 3 rfl rfl (by decide) rfl 111 rfl ?_
    refine q_goto hC 18 dX5_state_111 (by decide) ?_
    exact XX.sub [2, 3, 1, 0] rfl (hK18 M (p1 ||| p0) (v3 + 1) hw)
  have B91 : ∀ (K18 : MM → Int32 → Int32 → Prop) (hK18 : ∀ (M : MM) (v2 : Int32) (v3 : Int32) , K18 M v2 v3 → XX z g Qf 6 18 [(0, .ref (gA g 52)), (1, .int v1), (2, .int v2), (3, .int v3)] [] M) (M : MM) (v2 : Int32) (v3 : Int32) (p0 : Int32), wX5_state_91 Q K18 v1 M v2 v3 p0 → XX z g Qf 6 91 [(0, .ref (gA g 52)), (1, .int v1), (2, .int v2), (3, .int v3)] [.int p0] M := by
    intro K18 hK18 M v2 v3 p0 hw
    refine q_istore (L' := [(5, .int p0), (0, .ref (gA g 52)), (1, .int v1), (2, .int v2), (3, .int v3)]) hC dX5_state_91 (by decide) rfl 93 rfl ?_
    refine q_iload_n hC dX5_state_93 3 rfl 94 rfl ?_
    refine q_iload hC dX5_state_94 0 rfl 96 rfl ?_
    refine q_if_eq hC 105 dX5_state_96 (by decide) 99 rfl hw (fun hw => ?_) (fun hw => ?_)
    · refine q_iconst (v := 0) hC dX5_state_105 rfl 106 rfl ?_
      exact XX.sub [1, 2, 4] rfl (B106 _ hK18 M v3 0 v2 hw)
    · refine q_iconst (v := 1) hC dX5_state_99 rfl 100 rfl ?_
      refine q_iload_n hC dX5_state_100 4 rfl 101 rfl ?_
      refine q_ishl hC dX5_state_101 102 rfl ?_
      refine q_goto hC 106 dX5_state_102 (by decide) ?_
      exact XX.sub [1, 2, 4] rfl (B106 _ hK18 M v3 ((1 : Int32) <<< (v3 &&& 31)) v2 hw)
  have B86 : ∀ (K18 : MM → Int32 → Int32 → Prop) (hK18 : ∀ (M : MM) (v2 : Int32) (v3 : Int32) , K18 M v2 v3 → XX z g Qf 6 18 [(0, .ref (gA g 52)), (1, .int v1), (2, .int v2), (3, .int v3)] [] M) (M : MM) (v2 : Int32) (v3 : Int32), wX5_state_86 Q K18 v1 M v2 v3 → XX z g Qf 6 86 [(0, .ref (gA g 52)), (1, .int v1), (2, .int v2), (3, .int v3)] [] M := by
    intro K18 hK18 M v2 v3 hw
    refine q_iconst (v := 1) hC dX5_state_86 rfl 87 rfl ?_
    refine q_goto hC 91 dX5_state_87 (by decide) ?_
    exact XX.sub [0, 1, 2, 3] rfl (B91 _ hK18 M v2 v3 1 hw)
  have B18 : ∀ (n : Nat) (M : MM) (v2 : Int32) (v3 : Int32) , wX5_state_18 Q v1 n M v2 v3 → XX z g Qf 6 18 [(0, .ref (gA g 52)), (1, .int v1), (2, .int v2), (3, .int v3)] [] M := by
    intro n
    induction n with
    | zero =>
      intro M v2 v3 hw
      exact hw.elim
    | succ n ih =>
      intro M v2 v3 hw
      refine q_iload_n hC dX5_state_18 3 rfl 19 rfl ?_
      refine q_aload_n hC dX5_state_19 0 rfl 20 rfl ?_
      refine q_getR (C := RX5) (T := TX5) (N := 26) (ci := 5) hC inX5_state_X5 (obF52 hF) rfl 0 (by decide) (uX5_state__X5_columnOf _ (List.mem_of_getElem? (l := owX5_columnOf) (i := 1) rfl)) rfl 53 (fun _ => rfl) dX5_state_20 23 rfl ?_
      refine q_iconst (v := 0) hC dX5_state_23 rfl 24 rfl ?_
      refine q_ialdL hC (arF53 hF) 0 (by decide +kernel) (by decide +kernel) dX5_state_24 25 rfl ?_
      refine q_icmp_ge hC 114 dX5_state_25 (by decide) 28 rfl hw (fun hw => ?_) (fun hw => ?_)
      · refine q_iload_n hC dX5_state_114 2 rfl 115 rfl ?_
        exact r_iret hR dX5_state_115 hw
      · refine q_aload_n hC dX5_state_28 0 rfl 29 rfl ?_
        refine q_iload_n hC dX5_state_29 3 rfl 30 rfl ?_
        refine q_aload_n hC dX5_state_30 0 rfl 31 rfl ?_
        refine q_getR (C := RX5) (T := TX5) (N := 26) (ci := 5) hC inX5_state_X5 (obF52 hF) rfl 0 (by decide) (uX5_state__X5_columnOf _ (List.mem_of_getElem? (l := owX5_columnOf) (i := 1) rfl)) rfl 53 (fun _ => rfl) dX5_state_31 34 rfl ?_
        refine q_sipush (v := 340) hC dX5_state_34 (by decide) 37 rfl ?_
        refine q_ialdL hC (arF53 hF) 340 (by decide +kernel) (by decide +kernel) dX5_state_37 38 rfl ?_
        refine r_callI hC (go_V (q := (RX5, TX5, 26)) (As := [.int v3, .int (M 53 340)]) (rest := []) hC (ctX5_reading (zl z) g M v3 (M 53 340) _ hF hw) 2 gX5_state_X5_reading rfl ⟨rfl, rfl⟩ hdV_X5_reading ⟨Nat.le_of_ble_eq_true rfl, Nat.le_of_ble_eq_true rfl⟩ (obF52 hF) rfl rfl rfl (Nat.le_of_ble_eq_true rfl) dX5_state_38) 41 rfl (fun r3 M4 hw => ?_)
        refine q_istore (L' := [(4, .int r3), (0, .ref (gA g 52)), (1, .int v1), (2, .int v2), (3, .int v3)]) hC dX5_state_41 (by decide) rfl 43 rfl ?_
        refine q_iload_n hC dX5_state_43 2 rfl 44 rfl ?_
        refine q_if_ne hC 61 dX5_state_44 (by decide) 47 rfl hw (fun hw => ?_) (fun hw => ?_)
        · refine q_iload_n hC dX5_state_61 2 rfl 62 rfl ?_
          refine q_iconst (v := 1) hC dX5_state_62 rfl 63 rfl ?_
          refine q_icmp_ne hC 74 dX5_state_63 (by decide) 66 rfl hw (fun hw => ?_) (fun hw => ?_)
          · refine q_iload hC dX5_state_74 0 rfl 76 rfl ?_
            refine q_iconst (v := 1) hC dX5_state_76 rfl 77 rfl ?_
            refine q_icmp_eq hC 86 dX5_state_77 (by decide) 80 rfl hw (fun hw => ?_) (fun hw => ?_)
            · exact XX.sub [1, 2, 3, 4] rfl (B86 _ (fun M v2 v3 hw => ih M v2 v3 hw) M4 v2 v3 hw)
            · refine q_iload hC dX5_state_80 0 rfl 82 rfl ?_
              refine q_iconst (v := 2) hC dX5_state_82 rfl 83 rfl ?_
              refine q_icmp_ne hC 90 dX5_state_83 (by decide) 86 rfl hw (fun hw => ?_) (fun hw => ?_)
              · refine q_iconst (v := 0) hC dX5_state_90 rfl 91 rfl ?_
                exact XX.sub [1, 2, 3, 4] rfl (B91 _ (fun M v2 v3 hw => ih M v2 v3 hw) M4 v2 v3 0 hw)
              · exact XX.sub [1, 2, 3, 4] rfl (B86 _ (fun M v2 v3 hw => ih M v2 v3 hw) M4 v2 v3 hw)
          · refine q_aload_n hC dX5_state_66 1 rfl 67 rfl ?_
            refine q_iload_n hC dX5_state_67 4 rfl 68 rfl ?_
            refine r_callI hC (go_V (q := (RX5, TX5, 26)) (As := [.int v3]) (rest := []) hC (ctX5_isFooled (zl z) g M4 v3 _ hF hw) 1 gX5_state_X5_isFooled rfl ⟨rfl, rfl⟩ hdV_X5_isFooled ⟨Nat.le_of_ble_eq_true rfl, Nat.le_of_ble_eq_true rfl⟩ (obF52 hF) rfl rfl rfl (Nat.le_of_ble_eq_true rfl) dX5_state_68) 71 rfl (fun r5 M6 hw => ?_)
            refine q_goto hC 91 dX5_state_71 (by decide) ?_
            exact XX.sub [1, 2, 3, 4] rfl (B91 _ (fun M v2 v3 hw => ih M v2 v3 hw) M6 v2 v3 r5 hw)
        · refine q_iload hC dX5_state_47 0 rfl 49 rfl ?_
          refine q_iconst (v := 3) hC dX5_state_49 rfl 50 rfl ?_
          refine q_icmp_ne hC 57 dX5_state_50 (by decide) 53 rfl hw (fun hw => ?_) (fun hw => ?_)
          · refine q_iconst (v := 0) hC dX5_state_57 rfl 58 rfl ?_
            refine q_goto hC 91 dX5_state_58 (by decide) ?_
            exact XX.sub [1, 2, 3, 4] rfl (B91 _ (fun M v2 v3 hw => ih M v2 v3 hw) M4 v2 v3 0 hw)
          · refine q_iconst (v := 1) hC dX5_state_53 rfl 54 rfl ?_
            refine q_goto hC 91 dX5_state_54 (by decide) ?_
            exact XX.sub [1, 2, 3, 4] rfl (B91 _ (fun M v2 v3 hw => ih M v2 v3 hw) M4 v2 v3 1 hw)
  refine q_iload_n hC dX5_state_0 1 rfl 1 rfl ?_
  refine q_i2l hC dX5_state_1 2 rfl ?_
  refine q_lconst (v := 0) hC dX5_state_2 rfl 3 rfl ?_
  refine q_ldc2 (v := 2) hC (uX5_state__o _ (List.mem_of_getElem? (l := owX5_state) (i := 1) rfl)) dX5_state_3 6 rfl ?_
  refine r_callI hC (go_T (As := [.long (v1.toInt64), .long 0, .long 2]) (rest := []) hC (ctX5_in (zl z) g M (v1.toInt64) 0 2 _ hw) 3 gX5_state_X5_in rfl ⟨rfl, rfl⟩ hdT_X5_in ⟨Nat.le_of_ble_eq_true rfl, Nat.le_of_ble_eq_true rfl⟩ rfl rfl (Nat.le_of_ble_eq_true rfl) dX5_state_6) 9 rfl (fun r1 M2 hw => ?_)
  refine q_if_ne hC 14 dX5_state_9 (by decide) 12 rfl hw (fun hw => ?_) (fun hw => ?_)
  · refine q_iconst (v := 0) hC dX5_state_14 rfl 15 rfl ?_
    refine q_istore_n (L' := [(2, .int 0), (0, .ref (gA g 52)), (1, .int v1)]) hC dX5_state_15 (by decide) rfl 16 rfl ?_
    refine q_iconst (v := 0) hC dX5_state_16 rfl 17 rfl ?_
    refine q_istore_n (L' := [(3, .int 0), (2, .int 0), (0, .ref (gA g 52)), (1, .int v1)]) hC dX5_state_17 (by decide) rfl 18 rfl ?_
    obtain ⟨n0, hw⟩ := hw
    exact XX.sub [2, 3, 1, 0] rfl (B18 n0 M2 0 0 hw)
  · refine q_iconst (v := (-1)) hC dX5_state_12 rfl 13 rfl ?_
    exact r_iret hR dX5_state_13 hw
theorem hdT_X5_flag : yX5_flag.cls ≠ "java/lang/invoke/MethodHandle" ∧ yX5_flag.cls ≠ "java/lang/invoke/VarHandle" ∧ (parseMethodDescriptor yX5_flag.desc).map (fun d => d.parameters.length) = some 1 := by decide +kernel
theorem inX5_best_X5 : ∀ w ∈ u_ws RX5 TX5 26, w ∈ wsX5_best := uX5_best__wsX50
set_option maxRecDepth 100000 in
set_option maxHeartbeats 4000000 in
theorem ctX5_best (l : Launch) (g : GG) (M : MM) (v1 : Int32) (Q : Int32 → MM → Prop) (hF : ful5 g) (hw : wX5_best Q M v1) : MI g l yX5_best wsX5_best (rmOf 3 72) [.ref (gA g 52), .int v1] M Q := by
  refine mk_MI (cc := cX5_best) (maxL := 7) (by decide) rfl (Nat.le_of_ble_eq_true rfl) ?_
  intro z Qf hC hR
  show XX z g Qf 7 0 [(0, .ref (gA g 52)), (1, .int v1)] [] M
  have B117 : ∀ (K20 : MM → Int32 → Int32 → Int32 → Prop) (hK20 : ∀ (M : MM) (v2 : Int32) (v3 : Int32) (v4 : Int32) , K20 M v2 v3 v4 → XX z g Qf 7 20 [(0, .ref (gA g 52)), (1, .int v1), (2, .int v2), (3, .int v3), (4, .int v4)] [] M) (M : MM) (v2 : Int32) (v4 : Int32) (p0 : Int32), wX5_best_117 Q K20 v1 M v2 v4 p0 → XX z g Qf 7 117 [(0, .ref (gA g 52)), (1, .int v1), (2, .int v2), (4, .int v4)] [.int p0] M := by
    intro K20 hK20 M v2 v4 p0 hw
    refine q_istore_n (L' := [(3, .int p0), (0, .ref (gA g 52)), (1, .int v1), (2, .int v2), (4, .int v4)]) hC dX5_best_117 (by decide) rfl 118 rfl ?_
    refine q_iinc (v := v4 + 1) (L' := [(4, .int (v4 + 1)), (3, .int p0), (0, .ref (gA g 52)), (1, .int v1), (2, .int v2)]) hC dX5_best_118 4 rfl rfl (by decide) rfl 121 rfl ?_
    refine q_goto hC 20 dX5_best_121 (by decide) ?_
    exact XX.sub [2, 3, 4, 1, 0] rfl (hK20 M v2 p0 (v4 + 1) hw)
  have B105 : ∀ (K20 : MM → Int32 → Int32 → Int32 → Prop) (hK20 : ∀ (M : MM) (v2 : Int32) (v3 : Int32) (v4 : Int32) , K20 M v2 v3 v4 → XX z g Qf 7 20 [(0, .ref (gA g 52)), (1, .int v1), (2, .int v2), (3, .int v3), (4, .int v4)] [] M) (M : MM) (v3 : Int32) (v4 : Int32) (v5 : Int32) (v6 : Int32) (p0 : Int32), wX5_best_105 Q K20 v1 M v3 v4 v5 v6 p0 → XX z g Qf 7 105 [(0, .ref (gA g 52)), (1, .int v1), (3, .int v3), (4, .int v4), (5, .int v5), (6, .int v6)] [.int p0] M := by
    intro K20 hK20 M v3 v4 v5 v6 p0 hw
    refine q_istore_n (L' := [(2, .int p0), (0, .ref (gA g 52)), (1, .int v1), (3, .int v3), (4, .int v4), (5, .int v5), (6, .int v6)]) hC dX5_best_105 (by decide) rfl 106 rfl ?_
    refine q_iload hC dX5_best_106 6 rfl 108 rfl ?_
    refine q_if_eq hC 116 dX5_best_108 (by decide) 111 rfl hw (fun hw => ?_) (fun hw => ?_)
    · refine q_iload_n hC dX5_best_116 3 rfl 117 rfl ?_
      exact XX.sub [1, 2, 0, 4] rfl (B117 _ hK20 M p0 v4 v3 hw)
    · refine q_iload hC dX5_best_111 5 rfl 113 rfl ?_
      refine q_goto hC 117 dX5_best_113 (by decide) ?_
      exact XX.sub [1, 2, 0, 4] rfl (B117 _ hK20 M p0 v4 v5 hw)
  have B92 : ∀ (K20 : MM → Int32 → Int32 → Int32 → Prop) (hK20 : ∀ (M : MM) (v2 : Int32) (v3 : Int32) (v4 : Int32) , K20 M v2 v3 v4 → XX z g Qf 7 20 [(0, .ref (gA g 52)), (1, .int v1), (2, .int v2), (3, .int v3), (4, .int v4)] [] M) (M : MM) (v2 : Int32) (v3 : Int32) (v4 : Int32) (v5 : Int32) (p0 : Int32), wX5_best_92 Q K20 v1 M v2 v3 v4 v5 p0 → XX z g Qf 7 92 [(0, .ref (gA g 52)), (1, .int v1), (2, .int v2), (3, .int v3), (4, .int v4), (5, .int v5)] [.int p0] M := by
    intro K20 hK20 M v2 v3 v4 v5 p0 hw
    refine q_istore (L' := [(6, .int p0), (0, .ref (gA g 52)), (1, .int v1), (2, .int v2), (3, .int v3), (4, .int v4), (5, .int v5)]) hC dX5_best_92 (by decide) rfl 94 rfl ?_
    refine q_iload hC dX5_best_94 0 rfl 96 rfl ?_
    refine q_if_eq hC 104 dX5_best_96 (by decide) 99 rfl hw (fun hw => ?_) (fun hw => ?_)
    · refine q_iload_n hC dX5_best_104 3 rfl 105 rfl ?_
      exact XX.sub [1, 2, 4, 5, 6, 0] rfl (B105 _ hK20 M v3 v4 v5 p0 v2 hw)
    · refine q_iload hC dX5_best_99 5 rfl 101 rfl ?_
      refine q_goto hC 105 dX5_best_101 (by decide) ?_
      exact XX.sub [1, 2, 4, 5, 6, 0] rfl (B105 _ hK20 M v3 v4 v5 p0 v4 hw)
  have B87 : ∀ (K20 : MM → Int32 → Int32 → Int32 → Prop) (hK20 : ∀ (M : MM) (v2 : Int32) (v3 : Int32) (v4 : Int32) , K20 M v2 v3 v4 → XX z g Qf 7 20 [(0, .ref (gA g 52)), (1, .int v1), (2, .int v2), (3, .int v3), (4, .int v4)] [] M) (M : MM) (v2 : Int32) (v3 : Int32) (v4 : Int32) (v5 : Int32), wX5_best_87 Q K20 v1 M v2 v3 v4 v5 → XX z g Qf 7 87 [(0, .ref (gA g 52)), (1, .int v1), (2, .int v2), (3, .int v3), (4, .int v4), (5, .int v5)] [] M := by
    intro K20 hK20 M v2 v3 v4 v5 hw
    refine q_iconst (v := 1) hC dX5_best_87 rfl 88 rfl ?_
    refine q_goto hC 92 dX5_best_88 (by decide) ?_
    exact XX.sub [0, 1, 2, 3, 4, 5] rfl (B92 _ hK20 M v2 v3 v4 v5 1 hw)
  have B63 : ∀ (K20 : MM → Int32 → Int32 → Int32 → Prop) (hK20 : ∀ (M : MM) (v2 : Int32) (v3 : Int32) (v4 : Int32) , K20 M v2 v3 v4 → XX z g Qf 7 20 [(0, .ref (gA g 52)), (1, .int v1), (2, .int v2), (3, .int v3), (4, .int v4)] [] M) (K33 : MM → Int32 → Int32 → Int32 → Int32 → Int32 → Prop) (hK33 : ∀ (M : MM) (v2 : Int32) (v3 : Int32) (v4 : Int32) (v5 : Int32) (v6 : Int32) , K33 M v2 v3 v4 v5 v6 → XX z g Qf 7 33 [(0, .ref (gA g 52)), (1, .int v1), (2, .int v2), (3, .int v3), (4, .int v4), (5, .int v5), (6, .int v6)] [] M) (M : MM) (v2 : Int32) (v3 : Int32) (v4 : Int32) (v6 : Int32) (p0 : Int32) (p1 : Int32), wX5_best_63 Q K20 K33 v1 M v2 v3 v4 v6 p0 p1 → XX z g Qf 7 63 [(0, .ref (gA g 52)), (1, .int v1), (2, .int v2), (3, .int v3), (4, .int v4), (6, .int v6)] [.int p0, .int p1] M := by
    intro K20 hK20 K33 hK33 M v2 v3 v4 v6 p0 p1 hw
    refine r_callI hC (go_T (As := [.int p0]) (rest := [.int p1]) hC (ctX5_flag (zl z) g M p0 _ hw) 1 gX5_best_X5_flag rfl ⟨rfl, rfl⟩ hdT_X5_flag ⟨Nat.le_of_ble_eq_true rfl, Nat.le_of_ble_eq_true rfl⟩ rfl rfl (Nat.le_of_ble_eq_true rfl) dX5_best_63) 66 rfl (fun r5 M6 hw => ?_)
    refine q_iadd hC dX5_best_66 67 rfl ?_
    refine q_istore (L' := [(5, .int (p1 + r5)), (0, .ref (gA g 52)), (1, .int v1), (2, .int v2), (3, .int v3), (4, .int v4), (6, .int v6)]) hC dX5_best_67 (by decide) rfl 69 rfl ?_
    refine q_iinc (v := v6 + 1) (L' := [(6, .int (v6 + 1)), (5, .int (p1 + r5)), (0, .ref (gA g 52)), (1, .int v1), (2, .int v2), (3, .int v3), (4, .int v4)]) hC dX5_best_69 6 rfl rfl (by decide) rfl 72 rfl ?_
    refine q_goto hC 33 dX5_best_72 (by decide) ?_
    exact XX.sub [2, 3, 4, 5, 6, 1, 0] rfl (hK33 M6 v2 v3 v4 (p1 + r5) (v6 + 1) hw)
  have B33 : ∀ (K20 : MM → Int32 → Int32 → Int32 → Prop) (hK20 : ∀ (M : MM) (v2 : Int32) (v3 : Int32) (v4 : Int32) , K20 M v2 v3 v4 → XX z g Qf 7 20 [(0, .ref (gA g 52)), (1, .int v1), (2, .int v2), (3, .int v3), (4, .int v4)] [] M) (n : Nat) (M : MM) (v2 : Int32) (v3 : Int32) (v4 : Int32) (v5 : Int32) (v6 : Int32) , wX5_best_33 Q K20 v1 n M v2 v3 v4 v5 v6 → XX z g Qf 7 33 [(0, .ref (gA g 52)), (1, .int v1), (2, .int v2), (3, .int v3), (4, .int v4), (5, .int v5), (6, .int v6)] [] M := by
    intro K20 hK20 n
    induction n with
    | zero =>
      intro M v2 v3 v4 v5 v6 hw
      exact hw.elim
    | succ n ih =>
      intro M v2 v3 v4 v5 v6 hw
      refine q_iload hC dX5_best_33 6 rfl 35 rfl ?_
      refine q_aload_n hC dX5_best_35 0 rfl 36 rfl ?_
      refine q_getR (C := RX5) (T := TX5) (N := 26) (ci := 5) hC inX5_best_X5 (obF52 hF) rfl 0 (by decide) (uX5_best__X5_columnOf _ (List.mem_of_getElem? (l := owX5_columnOf) (i := 1) rfl)) rfl 53 (fun _ => rfl) dX5_best_36 39 rfl ?_
      refine q_iconst (v := 0) hC dX5_best_39 rfl 40 rfl ?_
      refine q_ialdL hC (arF53 hF) 0 (by decide +kernel) (by decide +kernel) dX5_best_40 41 rfl ?_
      refine q_icmp_ge hC 75 dX5_best_41 (by decide) 44 rfl hw (fun hw => ?_) (fun hw => ?_)
      · refine q_iload_n hC dX5_best_75 2 rfl 76 rfl ?_
        refine q_bipush (v := (-4)) hC dX5_best_76 (by decide) 78 rfl ?_
        refine q_icmp_eq hC 87 dX5_best_78 (by decide) 81 rfl hw (fun hw => ?_) (fun hw => ?_)
        · exact XX.sub [0, 1, 2, 3, 4, 5] rfl (B87 _ hK20 M v2 v3 v4 v5 hw)
        · refine q_iload hC dX5_best_81 5 rfl 83 rfl ?_
          refine q_iload_n hC dX5_best_83 3 rfl 84 rfl ?_
          refine q_icmp_ge hC 91 dX5_best_84 (by decide) 87 rfl hw (fun hw => ?_) (fun hw => ?_)
          · refine q_iconst (v := 0) hC dX5_best_91 rfl 92 rfl ?_
            exact XX.sub [0, 1, 2, 3, 4, 5] rfl (B92 _ hK20 M v2 v3 v4 v5 0 hw)
          · exact XX.sub [0, 1, 2, 3, 4, 5] rfl (B87 _ hK20 M v2 v3 v4 v5 hw)
      · refine q_iload hC dX5_best_44 5 rfl 46 rfl ?_
        refine q_aload_n hC dX5_best_46 0 rfl 47 rfl ?_
        refine q_iload hC dX5_best_47 6 rfl 49 rfl ?_
        refine q_iload hC dX5_best_49 4 rfl 51 rfl ?_
        refine r_callI hC (go_V (q := (RX5, TX5, 26)) (As := [.int v6, .int v4]) (rest := [.int v5]) hC (ctX5_reading (zl z) g M v6 v4 _ hF hw) 2 gX5_best_X5_reading rfl ⟨rfl, rfl⟩ hdV_X5_reading ⟨Nat.le_of_ble_eq_true rfl, Nat.le_of_ble_eq_true rfl⟩ (obF52 hF) rfl rfl rfl (Nat.le_of_ble_eq_true rfl) dX5_best_51) 54 rfl (fun r3 M4 hw => ?_)
        refine q_iconst (v := 3) hC dX5_best_54 rfl 55 rfl ?_
        refine q_icmp_ne hC 62 dX5_best_55 (by decide) 58 rfl hw (fun hw => ?_) (fun hw => ?_)
        · refine q_iconst (v := 0) hC dX5_best_62 rfl 63 rfl ?_
          exact XX.sub [0, 1, 2, 3, 4, 6] rfl (B63 _ hK20 _ (fun M v2 v3 v4 v5 v6 hw => ih M v2 v3 v4 v5 v6 hw) M4 v2 v3 v4 v6 0 v5 hw)
        · refine q_iconst (v := 1) hC dX5_best_58 rfl 59 rfl ?_
          refine q_goto hC 63 dX5_best_59 (by decide) ?_
          exact XX.sub [0, 1, 2, 3, 4, 6] rfl (B63 _ hK20 _ (fun M v2 v3 v4 v5 v6 hw => ih M v2 v3 v4 v5 v6 hw) M4 v2 v3 v4 v6 1 v5 hw)
  have B20 : ∀ (n : Nat) (M : MM) (v2 : Int32) (v3 : Int32) (v4 : Int32) , wX5_best_20 Q v1 n M v2 v3 v4 → XX z g Qf 7 20 [(0, .ref (gA g 52)), (1, .int v1), (2, .int v2), (3, .int v3), (4, .int v4)] [] M := by
    intro n
    induction n with
    | zero =>
      intro M v2 v3 v4 hw
      exact hw.elim
    | succ n ih =>
      intro M v2 v3 v4 hw
      refine q_iload hC dX5_best_20 4 rfl 22 rfl ?_
      refine q_bipush (v := 9) hC dX5_best_22 (by decide) 24 rfl ?_
      refine q_icmp_ge hC 124 dX5_best_24 (by decide) 27 rfl hw (fun hw => ?_) (fun hw => ?_)
      · refine q_iload_n hC dX5_best_124 1 rfl 125 rfl ?_
        refine q_if_ne hC 132 dX5_best_125 (by decide) 128 rfl hw (fun hw => ?_) (fun hw => ?_)
        · refine q_iload_n hC dX5_best_132 3 rfl 133 rfl ?_
          exact r_iret hR dX5_best_133 hw
        · refine q_iload_n hC dX5_best_128 2 rfl 129 rfl ?_
          refine q_goto hC 133 dX5_best_129 (by decide) ?_
          exact r_iret hR dX5_best_133 hw
      · refine q_iconst (v := 0) hC dX5_best_27 rfl 28 rfl ?_
        refine q_istore (L' := [(5, .int 0), (0, .ref (gA g 52)), (1, .int v1), (2, .int v2), (3, .int v3), (4, .int v4)]) hC dX5_best_28 (by decide) rfl 30 rfl ?_
        refine q_iconst (v := 0) hC dX5_best_30 rfl 31 rfl ?_
        refine q_istore (L' := [(6, .int 0), (5, .int 0), (0, .ref (gA g 52)), (1, .int v1), (2, .int v2), (3, .int v3), (4, .int v4)]) hC dX5_best_31 (by decide) rfl 33 rfl ?_
        obtain ⟨n0, hw⟩ := hw
        exact XX.sub [2, 3, 4, 5, 6, 1, 0] rfl (B33 _ (fun M v2 v3 v4 hw => ih M v2 v3 v4 hw) n0 M v2 v3 v4 0 0 hw)
  refine q_iload_n hC dX5_best_0 1 rfl 1 rfl ?_
  refine q_i2l hC dX5_best_1 2 rfl ?_
  refine q_lconst (v := 0) hC dX5_best_2 rfl 3 rfl ?_
  refine q_lconst (v := 1) hC dX5_best_3 rfl 4 rfl ?_
  refine r_callI hC (go_T (As := [.long (v1.toInt64), .long 0, .long 1]) (rest := []) hC (ctX5_in (zl z) g M (v1.toInt64) 0 1 _ hw) 3 gX5_best_X5_in rfl ⟨rfl, rfl⟩ hdT_X5_in ⟨Nat.le_of_ble_eq_true rfl, Nat.le_of_ble_eq_true rfl⟩ rfl rfl (Nat.le_of_ble_eq_true rfl) dX5_best_4) 7 rfl (fun r1 M2 hw => ?_)
  refine q_if_ne hC 12 dX5_best_7 (by decide) 10 rfl hw (fun hw => ?_) (fun hw => ?_)
  · refine q_bipush (v := (-4)) hC dX5_best_12 (by decide) 14 rfl ?_
    refine q_istore_n (L' := [(2, .int (-4)), (0, .ref (gA g 52)), (1, .int v1)]) hC dX5_best_14 (by decide) rfl 15 rfl ?_
    refine q_iconst (v := 0) hC dX5_best_15 rfl 16 rfl ?_
    refine q_istore_n (L' := [(3, .int 0), (2, .int (-4)), (0, .ref (gA g 52)), (1, .int v1)]) hC dX5_best_16 (by decide) rfl 17 rfl ?_
    refine q_iconst (v := 0) hC dX5_best_17 rfl 18 rfl ?_
    refine q_istore (L' := [(4, .int 0), (3, .int 0), (2, .int (-4)), (0, .ref (gA g 52)), (1, .int v1)]) hC dX5_best_18 (by decide) rfl 20 rfl ?_
    obtain ⟨n0, hw⟩ := hw
    exact XX.sub [3, 4, 2, 1, 0] rfl (B20 n0 M2 (-4) 0 0 hw)
  · refine q_iconst (v := (-1)) hC dX5_best_10 rfl 11 rfl ?_
    exact r_iret hR dX5_best_11 hw
theorem inX5_takes_X5 : ∀ w ∈ u_ws RX5 TX5 26, w ∈ wsX5_takes := uX5_takes__wsX50
set_option maxRecDepth 100000 in
set_option maxHeartbeats 4000000 in
theorem ctX5_takes (l : Launch) (g : GG) (M : MM) (v1 : Int32) (v2 : Int32) (Q : Int32 → MM → Prop) (hF : ful5 g) (hw : wX5_takes Q M v1 v2) : MI g l yX5_takes wsX5_takes (rmOf 4 90) [.ref (gA g 52), .int v1, .int v2] M Q := by
  refine mk_MI (cc := cX5_takes) (maxL := 4) (by decide) rfl (Nat.le_of_ble_eq_true rfl) ?_
  intro z Qf hC hR
  show XX z g Qf 4 0 [(0, .ref (gA g 52)), (1, .int v1), (2, .int v2)] [] M
  have B27 : ∀ (M : MM) (p0 : Int32), wX5_takes_27 Q v1 v2 M p0 → XX z g Qf 4 27 [(0, .ref (gA g 52)), (2, .int v2)] [.int p0] M := by
    intro M p0 hw
    refine q_istore_n (L' := [(3, .int p0), (0, .ref (gA g 52)), (2, .int v2)]) hC dX5_takes_27 (by decide) rfl 28 rfl ?_
    refine q_aload_n hC dX5_takes_28 1 rfl 29 rfl ?_
    refine q_iload_n hC dX5_takes_29 0 rfl 30 rfl ?_
    refine q_aload_n hC dX5_takes_30 1 rfl 31 rfl ?_
    refine q_getR (C := RX5) (T := TX5) (N := 26) (ci := 5) hC inX5_takes_X5 (obF52 hF) rfl 0 (by decide) (uX5_takes__X5_endOf _ (List.mem_of_getElem? (l := owX5_endOf) (i := 1) rfl)) rfl 53 (fun _ => rfl) dX5_takes_31 34 rfl ?_
    refine q_iconst (v := 1) hC dX5_takes_34 rfl 35 rfl ?_
    refine q_aload_n hC dX5_takes_35 1 rfl 36 rfl ?_
    refine q_getR (C := RX5) (T := TX5) (N := 26) (ci := 5) hC inX5_takes_X5 (obF52 hF) rfl 19 (by decide) (uX5_takes__o _ (List.mem_of_getElem? (l := owX5_takes) (i := 1) rfl)) rfl 63 (fun _ => rfl) dX5_takes_36 39 rfl ?_
    refine q_iload_n hC dX5_takes_39 2 rfl 40 rfl ?_
    obtain ⟨hin, hw⟩ := hw
    refine q_iald hC (arF63 hF) hin dX5_takes_40 41 rfl ?_
    refine q_iadd hC dX5_takes_41 42 rfl ?_
    obtain ⟨hin, hw⟩ := hw
    refine q_iald hC (arF53 hF) hin dX5_takes_42 43 rfl ?_
    refine r_callI hC (go_V (q := (RX5, TX5, 26)) (As := [.int p0, .int (M 53 ((1 : Int32) + (M 63 v2.toNatClampNeg)).toNatClampNeg)]) (rest := []) hC (ctX5_sooner (zl z) g M p0 (M 53 ((1 : Int32) + (M 63 v2.toNatClampNeg)).toNatClampNeg) _ hF hw) 2 gX5_takes_X5_sooner rfl ⟨rfl, rfl⟩ hdV_X5_sooner ⟨Nat.le_of_ble_eq_true rfl, Nat.le_of_ble_eq_true rfl⟩ (obF52 hF) rfl rfl rfl (Nat.le_of_ble_eq_true rfl) dX5_takes_43) 46 rfl (fun r3 M4 hw => ?_)
    refine q_aload_n hC dX5_takes_46 1 rfl 47 rfl ?_
    refine q_getR (C := RX5) (T := TX5) (N := 26) (ci := 5) hC inX5_takes_X5 (obF52 hF) rfl 2 (by decide) (uX5_takes__X5_longOf _ (List.mem_of_getElem? (l := owX5_longOf) (i := 1) rfl)) rfl 55 (fun _ => rfl) dX5_takes_47 50 rfl ?_
    refine q_iconst (v := 3) hC dX5_takes_50 rfl 51 rfl ?_
    refine q_ialdL hC (arF55 hF) 3 (by decide +kernel) (by decide +kernel) dX5_takes_51 52 rfl ?_
    refine q_aload_n hC dX5_takes_52 1 rfl 53 rfl ?_
    refine q_aload_n hC dX5_takes_53 1 rfl 54 rfl ?_
    refine q_getR (C := RX5) (T := TX5) (N := 26) (ci := 5) hC inX5_takes_X5 (obF52 hF) rfl 0 (by decide) (uX5_takes__X5_endOf _ (List.mem_of_getElem? (l := owX5_endOf) (i := 1) rfl)) rfl 53 (fun _ => rfl) dX5_takes_54 57 rfl ?_
    refine q_bipush (v := 13) hC dX5_takes_57 (by decide) 59 rfl ?_
    refine q_aload_n hC dX5_takes_59 1 rfl 60 rfl ?_
    refine q_getR (C := RX5) (T := TX5) (N := 26) (ci := 5) hC inX5_takes_X5 (obF52 hF) rfl 19 (by decide) (uX5_takes__o _ (List.mem_of_getElem? (l := owX5_takes) (i := 1) rfl)) rfl 63 (fun _ => rfl) dX5_takes_60 63 rfl ?_
    refine q_iload_n hC dX5_takes_63 2 rfl 64 rfl ?_
    obtain ⟨hin, hw⟩ := hw
    refine q_iald hC (arF63 hF) hin dX5_takes_64 65 rfl ?_
    refine q_iadd hC dX5_takes_65 66 rfl ?_
    obtain ⟨hin, hw⟩ := hw
    refine q_iald hC (arF53 hF) hin dX5_takes_66 67 rfl ?_
    refine r_callI hC (go_V (q := (RX5, TX5, 26)) (As := [.int (M4 53 ((13 : Int32) + (M4 63 v2.toNatClampNeg)).toNatClampNeg)]) (rest := [.int (M4 55 3), .int r3]) hC (ctX5_longOf (zl z) g M4 (M4 53 ((13 : Int32) + (M4 63 v2.toNatClampNeg)).toNatClampNeg) _ hF hw) 1 gX5_takes_X5_longOf rfl ⟨rfl, rfl⟩ hdV_X5_longOf ⟨Nat.le_of_ble_eq_true rfl, Nat.le_of_ble_eq_true rfl⟩ (obF52 hF) rfl rfl rfl (Nat.le_of_ble_eq_true rfl) dX5_takes_67) 70 rfl (fun r5 M6 hw => ?_)
    refine q_imul hC dX5_takes_70 71 rfl ?_
    refine q_iadd hC dX5_takes_71 72 rfl ?_
    exact r_iret hR dX5_takes_72 hw
  refine q_iload_n hC dX5_takes_0 1 rfl 1 rfl ?_
  refine q_bipush (v := 8) hC dX5_takes_1 (by decide) 3 rfl ?_
  refine q_icmp_ne hC 17 dX5_takes_3 (by decide) 6 rfl hw (fun hw => ?_) (fun hw => ?_)
  · refine q_aload_n hC dX5_takes_17 0 rfl 18 rfl ?_
    refine q_aload_n hC dX5_takes_18 0 rfl 19 rfl ?_
    refine q_getR (C := RX5) (T := TX5) (N := 26) (ci := 5) hC inX5_takes_X5 (obF52 hF) rfl 19 (by decide) (uX5_takes__o _ (List.mem_of_getElem? (l := owX5_takes) (i := 1) rfl)) rfl 63 (fun _ => rfl) dX5_takes_19 22 rfl ?_
    refine q_iload_n hC dX5_takes_22 1 rfl 23 rfl ?_
    obtain ⟨hin, hw⟩ := hw
    refine q_iald hC (arF63 hF) hin dX5_takes_23 24 rfl ?_
    refine r_callI hC (go_V (q := (RX5, TX5, 26)) (As := [.int (M 63 v1.toNatClampNeg)]) (rest := []) hC (ctX5_endOf (zl z) g M (M 63 v1.toNatClampNeg) _ hF hw) 1 gX5_takes_X5_endOf rfl ⟨rfl, rfl⟩ hdV_X5_endOf ⟨Nat.le_of_ble_eq_true rfl, Nat.le_of_ble_eq_true rfl⟩ (obF52 hF) rfl rfl rfl (Nat.le_of_ble_eq_true rfl) dX5_takes_24) 27 rfl (fun r1 M2 hw => ?_)
    exact XX.sub [0, 2] rfl (B27 M2 r1 hw)
  · refine q_aload_n hC dX5_takes_6 0 rfl 7 rfl ?_
    refine q_getR (C := RX5) (T := TX5) (N := 26) (ci := 5) hC inX5_takes_X5 (obF52 hF) rfl 0 (by decide) (uX5_takes__X5_endOf _ (List.mem_of_getElem? (l := owX5_endOf) (i := 1) rfl)) rfl 53 (fun _ => rfl) dX5_takes_7 10 rfl ?_
    refine q_sipush (v := 325) hC dX5_takes_10 (by decide) 13 rfl ?_
    refine q_ialdL hC (arF53 hF) 325 (by decide +kernel) (by decide +kernel) dX5_takes_13 14 rfl ?_
    refine q_goto hC 27 dX5_takes_14 (by decide) ?_
    exact XX.sub [0, 2] rfl (B27 M (M 53 325) hw)
theorem inX5_areBlocks_X5 : ∀ w ∈ u_ws RX5 TX5 26, w ∈ wsX5_areBlocks := uX5_areBlocks__wsX50
set_option maxRecDepth 100000 in
set_option maxHeartbeats 4000000 in
theorem ctX5_areBlocks (l : Launch) (g : GG) (M : MM) (v1 : Int32) (Q : Int32 → MM → Prop) (hF : ful5 g) (hw : wX5_areBlocks Q M v1) : MI g l yX5_areBlocks wsX5_areBlocks (rmOf 1 25) [.ref (gA g 52), .int v1] M Q := by
  refine mk_MZ (cc := cX5_areBlocks) (maxL := 2) (by decide) rfl (Nat.le_of_ble_eq_true rfl) ?_
  intro z Qf hC hR
  show XX z g Qf 2 0 [(0, .ref (gA g 52)), (1, .int v1)] [] M
  refine q_iload_n hC dX5_areBlocks_0 1 rfl 1 rfl ?_
  refine q_i2l hC dX5_areBlocks_1 2 rfl ?_
  refine q_lconst (v := 0) hC dX5_areBlocks_2 rfl 3 rfl ?_
  refine q_iconst (v := 1) hC dX5_areBlocks_3 rfl 4 rfl ?_
  refine q_aload_n hC dX5_areBlocks_4 0 rfl 5 rfl ?_
  refine q_getR (C := RX5) (T := TX5) (N := 26) (ci := 5) hC inX5_areBlocks_X5 (obF52 hF) rfl 0 (by decide) (uX5_areBlocks__o _ (List.mem_of_getElem? (l := owX5_areBlocks) (i := 1) rfl)) rfl 53 (fun _ => rfl) dX5_areBlocks_5 8 rfl ?_
  refine q_iconst (v := 0) hC dX5_areBlocks_8 rfl 9 rfl ?_
  refine q_ialdL hC (arF53 hF) 0 (by decide +kernel) (by decide +kernel) dX5_areBlocks_9 10 rfl ?_
  refine q_ishl hC dX5_areBlocks_10 11 rfl ?_
  refine q_iconst (v := 1) hC dX5_areBlocks_11 rfl 12 rfl ?_
  refine q_isub hC dX5_areBlocks_12 13 rfl ?_
  refine q_i2l hC dX5_areBlocks_13 14 rfl ?_
  refine r_callI hC (go_T (As := [.long (v1.toInt64), .long 0, .long ((((1 : Int32) <<< ((M 53 0) &&& 31)) - (1 : Int32)).toInt64)]) (rest := []) hC (ctX5_in (zl z) g M (v1.toInt64) 0 ((((1 : Int32) <<< ((M 53 0) &&& 31)) - (1 : Int32)).toInt64) _ hw) 3 gX5_areBlocks_X5_in rfl ⟨rfl, rfl⟩ hdT_X5_in ⟨Nat.le_of_ble_eq_true rfl, Nat.le_of_ble_eq_true rfl⟩ rfl rfl (Nat.le_of_ble_eq_true rfl) dX5_areBlocks_14) 17 rfl (fun r1 M2 hw => ?_)
  exact r_iret hR dX5_areBlocks_17 hw
set_option maxRecDepth 100000 in
set_option maxHeartbeats 4000000 in
theorem ctX5_countOf (l : Launch) (g : GG) (M : MM) (v0 : Int32) (Q : Int32 → MM → Prop)  (hw : wX5_countOf Q M v0) : MI g l yX5_countOf wsX5_countOf (rmOf 0 0) [.int v0] M Q := by
  refine mk_MI (cc := cX5_countOf) (maxL := 3) (by decide) rfl (Nat.le_of_ble_eq_true rfl) ?_
  intro z Qf hC hR
  show XX z g Qf 3 0 [(0, .int v0)] [] M
  have B4 : ∀ (n : Nat) (M : MM) (v1 : Int32) (v2 : Int32) , wX5_countOf_4 Q v0 n M v1 v2 → XX z g Qf 3 4 [(0, .int v0), (1, .int v1), (2, .int v2)] [] M := by
    intro n
    induction n with
    | zero =>
      intro M v1 v2 hw
      exact hw.elim
    | succ n ih =>
      intro M v1 v2 hw
      refine q_iload_n hC dX5_countOf_4 2 rfl 5 rfl ?_
      refine q_bipush (v := 12) hC dX5_countOf_5 (by decide) 7 rfl ?_
      refine q_icmp_ge hC 24 dX5_countOf_7 (by decide) 10 rfl hw (fun hw => ?_) (fun hw => ?_)
      · refine q_iload_n hC dX5_countOf_24 1 rfl 25 rfl ?_
        exact r_iret hR dX5_countOf_25 hw
      · refine q_iload_n hC dX5_countOf_10 1 rfl 11 rfl ?_
        refine q_iload_n hC dX5_countOf_11 0 rfl 12 rfl ?_
        refine q_iload_n hC dX5_countOf_12 2 rfl 13 rfl ?_
        refine q_ishr hC dX5_countOf_13 14 rfl ?_
        refine q_iconst (v := 1) hC dX5_countOf_14 rfl 15 rfl ?_
        refine q_iand hC dX5_countOf_15 16 rfl ?_
        refine q_iadd hC dX5_countOf_16 17 rfl ?_
        refine q_nameI (fun x1 ex1 => ?_)
        have hw := hw x1 ex1
        refine q_istore_n (L' := [(1, .int x1), (0, .int v0), (2, .int v2)]) hC dX5_countOf_17 (by decide) rfl 18 rfl ?_
        refine q_iinc (v := v2 + 1) (L' := [(2, .int (v2 + 1)), (1, .int x1), (0, .int v0)]) hC dX5_countOf_18 2 rfl rfl (by decide) rfl 21 rfl ?_
        refine q_goto hC 4 dX5_countOf_21 (by decide) ?_
        exact XX.sub [2, 1, 0] rfl (ih M x1 (v2 + 1) hw)
  refine q_iconst (v := 0) hC dX5_countOf_0 rfl 1 rfl ?_
  refine q_istore_n (L' := [(1, .int 0), (0, .int v0)]) hC dX5_countOf_1 (by decide) rfl 2 rfl ?_
  refine q_iconst (v := 0) hC dX5_countOf_2 rfl 3 rfl ?_
  refine q_istore_n (L' := [(2, .int 0), (1, .int 0), (0, .int v0)]) hC dX5_countOf_3 (by decide) rfl 4 rfl ?_
  obtain ⟨n0, hw⟩ := hw
  exact XX.sub [2, 1, 0] rfl (B4 n0 M 0 0 hw)
theorem hdV_X5_takes : yX5_takes.cls = RX5 ∧ yX5_takes.cls ≠ "java/lang/invoke/MethodHandle" ∧ yX5_takes.cls ≠ "java/lang/invoke/VarHandle" ∧ (parseMethodDescriptor yX5_takes.desc).map (fun d => d.parameters.length) = some 2 := by decide +kernel
theorem inX5_layRest_X5 : ∀ w ∈ u_ws RX5 TX5 26, w ∈ wsX5_layRest := uX5_layRest__wsX50
set_option maxRecDepth 100000 in
set_option maxHeartbeats 4000000 in
theorem ctX5_layRest (l : Launch) (g : GG) (M : MM) (v1 : Int32) (Q : MM → Prop) (hF : ful5 g) (hw : wX5_layRest Q M v1) : MV g l yX5_layRest wsX5_layRest (rmOf 5 113) [.ref (gA g 52), .int v1] M Q := by
  refine mk_MV (cc := cX5_layRest) (maxL := 8) (by decide) rfl (Nat.le_of_ble_eq_true rfl) ?_
  intro z Qf hC hR
  show XX z g Qf 8 0 [(0, .ref (gA g 52)), (1, .int v1)] [] M
  have B200 : ∀ (K63 : MM → Int32 → Int32 → Prop) (hK63 : ∀ (M : MM) (v2 : Int32) (v3 : Int32) , K63 M v2 v3 → XX z g Qf 8 63 [(0, .ref (gA g 52)), (2, .int v2), (3, .int v3)] [] M) (K70 : MM → Int32 → Int32 → Int32 → Prop) (hK70 : ∀ (M : MM) (v2 : Int32) (v3 : Int32) (v4 : Int32) , K70 M v2 v3 v4 → XX z g Qf 8 70 [(0, .ref (gA g 52)), (2, .int v2), (3, .int v3), (4, .int v4)] [] M) (M : MM) (v2 : Int32) (v3 : Int32) (v4 : Int32) (v5 : Int32), wX5_layRest_200 Q K63 K70 v1 M v2 v3 v4 v5 → XX z g Qf 8 200 [(0, .ref (gA g 52)), (2, .int v2), (3, .int v3), (4, .int v4), (5, .int v5)] [] M := by
    intro K63 hK63 K70 hK70 M v2 v3 v4 v5 hw
    refine q_aload_n hC dX5_layRest_200 0 rfl 201 rfl ?_
    refine q_getR (C := RX5) (T := TX5) (N := 26) (ci := 5) hC inX5_layRest_X5 (obF52 hF) rfl 18 (by decide) (uX5_layRest__o _ (List.mem_of_getElem? (l := owX5_layRest) (i := 3) rfl)) rfl 62 (fun _ => rfl) dX5_layRest_201 204 rfl ?_
    refine q_bipush (v := 13) hC dX5_layRest_204 (by decide) 206 rfl ?_
    refine q_iload_n hC dX5_layRest_206 2 rfl 207 rfl ?_
    refine q_imul hC dX5_layRest_207 208 rfl ?_
    refine q_iload hC dX5_layRest_208 3 rfl 210 rfl ?_
    refine q_iadd hC dX5_layRest_210 211 rfl ?_
    refine q_iload hC dX5_layRest_211 4 rfl 213 rfl ?_
    obtain ⟨hin, hw⟩ := hw
    refine q_iast hC (arF62 hF) hin dX5_layRest_213 214 rfl (fun M9 eM9 => ?_)
    have hw := hw M9 eM9
    refine q_iinc (v := v4 + 1) (L' := [(4, .int (v4 + 1)), (0, .ref (gA g 52)), (2, .int v2), (3, .int v3), (5, .int v5)]) hC dX5_layRest_214 3 rfl rfl (by decide) rfl 217 rfl ?_
    refine q_goto hC 70 dX5_layRest_217 (by decide) ?_
    exact XX.sub [1, 2, 3, 0] rfl (hK70 M9 v2 v3 (v4 + 1) hw)
  have B194 : ∀ (K63 : MM → Int32 → Int32 → Prop) (hK63 : ∀ (M : MM) (v2 : Int32) (v3 : Int32) , K63 M v2 v3 → XX z g Qf 8 63 [(0, .ref (gA g 52)), (2, .int v2), (3, .int v3)] [] M) (K70 : MM → Int32 → Int32 → Int32 → Prop) (hK70 : ∀ (M : MM) (v2 : Int32) (v3 : Int32) (v4 : Int32) , K70 M v2 v3 v4 → XX z g Qf 8 70 [(0, .ref (gA g 52)), (2, .int v2), (3, .int v3), (4, .int v4)] [] M) (K138 : MM → Int32 → Int32 → Int32 → Int32 → Int32 → Int32 → Prop) (hK138 : ∀ (M : MM) (v2 : Int32) (v3 : Int32) (v4 : Int32) (v5 : Int32) (v6 : Int32) (v7 : Int32) , K138 M v2 v3 v4 v5 v6 v7 → XX z g Qf 8 138 [(0, .ref (gA g 52)), (2, .int v2), (3, .int v3), (4, .int v4), (5, .int v5), (6, .int v6), (7, .int v7)] [] M) (M : MM) (v2 : Int32) (v3 : Int32) (v4 : Int32) (v5 : Int32) (v6 : Int32) (v7 : Int32), wX5_layRest_194 Q K63 K70 K138 v1 M v2 v3 v4 v5 v6 v7 → XX z g Qf 8 194 [(0, .ref (gA g 52)), (2, .int v2), (3, .int v3), (4, .int v4), (5, .int v5), (6, .int v6), (7, .int v7)] [] M := by
    intro K63 hK63 K70 hK70 K138 hK138 M v2 v3 v4 v5 v6 v7 hw
    refine q_iinc (v := v7 + 1) (L' := [(7, .int (v7 + 1)), (0, .ref (gA g 52)), (2, .int v2), (3, .int v3), (4, .int v4), (5, .int v5), (6, .int v6)]) hC dX5_layRest_194 6 rfl rfl (by decide) rfl 197 rfl ?_
    refine q_goto hC 138 dX5_layRest_197 (by decide) ?_
    exact XX.sub [1, 2, 3, 4, 5, 6, 0] rfl (hK138 M v2 v3 v4 v5 v6 (v7 + 1) hw)
  have B138 : ∀ (K63 : MM → Int32 → Int32 → Prop) (hK63 : ∀ (M : MM) (v2 : Int32) (v3 : Int32) , K63 M v2 v3 → XX z g Qf 8 63 [(0, .ref (gA g 52)), (2, .int v2), (3, .int v3)] [] M) (K70 : MM → Int32 → Int32 → Int32 → Prop) (hK70 : ∀ (M : MM) (v2 : Int32) (v3 : Int32) (v4 : Int32) , K70 M v2 v3 v4 → XX z g Qf 8 70 [(0, .ref (gA g 52)), (2, .int v2), (3, .int v3), (4, .int v4)] [] M) (n : Nat) (M : MM) (v2 : Int32) (v3 : Int32) (v4 : Int32) (v5 : Int32) (v6 : Int32) (v7 : Int32) , wX5_layRest_138 Q K63 K70 v1 n M v2 v3 v4 v5 v6 v7 → XX z g Qf 8 138 [(0, .ref (gA g 52)), (2, .int v2), (3, .int v3), (4, .int v4), (5, .int v5), (6, .int v6), (7, .int v7)] [] M := by
    intro K63 hK63 K70 hK70 n
    induction n with
    | zero =>
      intro M v2 v3 v4 v5 v6 v7 hw
      exact hw.elim
    | succ n ih =>
      intro M v2 v3 v4 v5 v6 v7 hw
      refine q_iload hC dX5_layRest_138 6 rfl 140 rfl ?_
      refine q_aload_n hC dX5_layRest_140 0 rfl 141 rfl ?_
      refine q_getI (C := RX5) (T := TX5) (N := 26) (ci := 5) hC inX5_layRest_X5 (obF52 hF) rfl 20 (by decide) (uX5_layRest__o _ (List.mem_of_getElem? (l := owX5_layRest) (i := 1) rfl)) rfl (fun _ => rfl) dX5_layRest_141 144 rfl ?_
      refine q_icmp_ge hC 200 dX5_layRest_144 (by decide) 147 rfl hw (fun hw => ?_) (fun hw => ?_)
      · exact XX.sub [0, 1, 2, 3, 4] rfl (B200 _ hK63 _ hK70 M v2 v3 v4 v5 hw)
      · refine q_iload hC dX5_layRest_147 5 rfl 149 rfl ?_
        refine q_if_eq hC 200 dX5_layRest_149 (by decide) 152 rfl hw (fun hw => ?_) (fun hw => ?_)
        · exact XX.sub [0, 1, 2, 3, 4] rfl (B200 _ hK63 _ hK70 M v2 v3 v4 v5 hw)
        · refine q_iload_n hC dX5_layRest_152 2 rfl 153 rfl ?_
          refine q_iload hC dX5_layRest_153 6 rfl 155 rfl ?_
          refine q_ishr hC dX5_layRest_155 156 rfl ?_
          refine q_iconst (v := 1) hC dX5_layRest_156 rfl 157 rfl ?_
          refine q_iand hC dX5_layRest_157 158 rfl ?_
          refine q_if_ne hC 194 dX5_layRest_158 (by decide) 161 rfl hw (fun hw => ?_) (fun hw => ?_)
          · exact XX.sub [0, 1, 2, 3, 4, 5, 6] rfl (B194 _ hK63 _ hK70 _ (fun M v2 v3 v4 v5 v6 v7 hw => ih M v2 v3 v4 v5 v6 v7 hw) M v2 v3 v4 v5 v6 v7 hw)
          · refine q_iload hC dX5_layRest_161 4 rfl 163 rfl ?_
            refine q_aload_n hC dX5_layRest_163 0 rfl 164 rfl ?_
            refine q_iload hC dX5_layRest_164 3 rfl 166 rfl ?_
            refine q_iload hC dX5_layRest_166 6 rfl 168 rfl ?_
            refine r_callI hC (go_V (q := (RX5, TX5, 26)) (As := [.int v4, .int v7]) (rest := [.int v5]) hC (ctX5_takes (zl z) g M v4 v7 _ hF hw) 2 gX5_layRest_X5_takes rfl ⟨rfl, rfl⟩ hdV_X5_takes ⟨Nat.le_of_ble_eq_true rfl, Nat.le_of_ble_eq_true rfl⟩ (obF52 hF) rfl rfl rfl (Nat.le_of_ble_eq_true rfl) dX5_layRest_168) 171 rfl (fun r5 M6 hw => ?_)
            refine q_aload_n hC dX5_layRest_171 0 rfl 172 rfl ?_
            refine q_getR (C := RX5) (T := TX5) (N := 26) (ci := 5) hC inX5_layRest_X5 (obF52 hF) rfl 18 (by decide) (uX5_layRest__o _ (List.mem_of_getElem? (l := owX5_layRest) (i := 3) rfl)) rfl 62 (fun _ => rfl) dX5_layRest_172 175 rfl ?_
            refine q_bipush (v := 13) hC dX5_layRest_175 (by decide) 177 rfl ?_
            refine q_iload_n hC dX5_layRest_177 2 rfl 178 rfl ?_
            refine q_iconst (v := 1) hC dX5_layRest_178 rfl 179 rfl ?_
            refine q_iload hC dX5_layRest_179 6 rfl 181 rfl ?_
            refine q_ishl hC dX5_layRest_181 182 rfl ?_
            refine q_ior hC dX5_layRest_182 183 rfl ?_
            refine q_imul hC dX5_layRest_183 184 rfl ?_
            refine q_iload hC dX5_layRest_184 6 rfl 186 rfl ?_
            refine q_iadd hC dX5_layRest_186 187 rfl ?_
            obtain ⟨hin, hw⟩ := hw
            refine q_iald hC (arF62 hF) hin dX5_layRest_187 188 rfl ?_
            refine q_iadd hC dX5_layRest_188 189 rfl ?_
            refine r_callI hC (go_T (As := [.int v5, .int (r5 + (M6 62 (((13 : Int32) * (v3 ||| ((1 : Int32) <<< (v7 &&& 31)))) + v7).toNatClampNeg))]) (rest := []) hC (ctX5_less (zl z) g M6 v5 (r5 + (M6 62 (((13 : Int32) * (v3 ||| ((1 : Int32) <<< (v7 &&& 31)))) + v7).toNatClampNeg)) _ hw) 2 gX5_layRest_X5_less rfl ⟨rfl, rfl⟩ hdT_X5_less ⟨Nat.le_of_ble_eq_true rfl, Nat.le_of_ble_eq_true rfl⟩ rfl rfl (Nat.le_of_ble_eq_true rfl) dX5_layRest_189) 192 rfl (fun r7 M8 hw => ?_)
            refine q_istore (L' := [(5, .int r7), (0, .ref (gA g 52)), (2, .int v2), (3, .int v3), (4, .int v4), (6, .int v6), (7, .int v7)]) hC dX5_layRest_192 (by decide) rfl 194 rfl ?_
            exact XX.sub [1, 2, 3, 4, 0, 5, 6] rfl (B194 _ hK63 _ hK70 _ (fun M v2 v3 v4 v5 v6 v7 hw => ih M v2 v3 v4 v5 v6 v7 hw) M8 v2 v3 v4 r7 v6 v7 hw)
  have B133 : ∀ (K63 : MM → Int32 → Int32 → Prop) (hK63 : ∀ (M : MM) (v2 : Int32) (v3 : Int32) , K63 M v2 v3 → XX z g Qf 8 63 [(0, .ref (gA g 52)), (2, .int v2), (3, .int v3)] [] M) (K70 : MM → Int32 → Int32 → Int32 → Prop) (hK70 : ∀ (M : MM) (v2 : Int32) (v3 : Int32) (v4 : Int32) , K70 M v2 v3 v4 → XX z g Qf 8 70 [(0, .ref (gA g 52)), (2, .int v2), (3, .int v3), (4, .int v4)] [] M) (M : MM) (v2 : Int32) (v3 : Int32) (v4 : Int32) (v5 : Int32) (p0 : Int32), wX5_layRest_133 Q K63 K70 v1 M v2 v3 v4 v5 p0 → XX z g Qf 8 133 [(0, .ref (gA g 52)), (2, .int v2), (3, .int v3), (4, .int v4), (5, .int v5)] [.int p0] M := by
    intro K63 hK63 K70 hK70 M v2 v3 v4 v5 p0 hw
    refine q_istore (L' := [(6, .int p0), (0, .ref (gA g 52)), (2, .int v2), (3, .int v3), (4, .int v4), (5, .int v5)]) hC dX5_layRest_133 (by decide) rfl 135 rfl ?_
    refine q_iconst (v := 0) hC dX5_layRest_135 rfl 136 rfl ?_
    refine q_istore (L' := [(7, .int 0), (6, .int p0), (0, .ref (gA g 52)), (2, .int v2), (3, .int v3), (4, .int v4), (5, .int v5)]) hC dX5_layRest_136 (by decide) rfl 138 rfl ?_
    obtain ⟨n0, hw⟩ := hw
    exact XX.sub [2, 3, 4, 5, 6, 1, 0] rfl (B138 _ hK63 _ hK70 n0 M v2 v3 v4 v5 p0 0 hw)
  have B132 : ∀ (K63 : MM → Int32 → Int32 → Prop) (hK63 : ∀ (M : MM) (v2 : Int32) (v3 : Int32) , K63 M v2 v3 → XX z g Qf 8 63 [(0, .ref (gA g 52)), (2, .int v2), (3, .int v3)] [] M) (K70 : MM → Int32 → Int32 → Int32 → Prop) (hK70 : ∀ (M : MM) (v2 : Int32) (v3 : Int32) (v4 : Int32) , K70 M v2 v3 v4 → XX z g Qf 8 70 [(0, .ref (gA g 52)), (2, .int v2), (3, .int v3), (4, .int v4)] [] M) (M : MM) (v2 : Int32) (v3 : Int32) (v4 : Int32) (v5 : Int32), wX5_layRest_132 Q K63 K70 v1 M v2 v3 v4 v5 → XX z g Qf 8 132 [(0, .ref (gA g 52)), (2, .int v2), (3, .int v3), (4, .int v4), (5, .int v5)] [] M := by
    intro K63 hK63 K70 hK70 M v2 v3 v4 v5 hw
    refine q_iconst (v := 0) hC dX5_layRest_132 rfl 133 rfl ?_
    exact XX.sub [0, 1, 2, 3, 4] rfl (B133 _ hK63 _ hK70 M v2 v3 v4 v5 0 hw)
  have B88 : ∀ (K63 : MM → Int32 → Int32 → Prop) (hK63 : ∀ (M : MM) (v2 : Int32) (v3 : Int32) , K63 M v2 v3 → XX z g Qf 8 63 [(0, .ref (gA g 52)), (2, .int v2), (3, .int v3)] [] M) (K70 : MM → Int32 → Int32 → Int32 → Prop) (hK70 : ∀ (M : MM) (v2 : Int32) (v3 : Int32) (v4 : Int32) , K70 M v2 v3 v4 → XX z g Qf 8 70 [(0, .ref (gA g 52)), (2, .int v2), (3, .int v3), (4, .int v4)] [] M) (M : MM) (v2 : Int32) (v3 : Int32) (v4 : Int32) (p0 : Int32), wX5_layRest_88 Q K63 K70 v1 M v2 v3 v4 p0 → XX z g Qf 8 88 [(0, .ref (gA g 52)), (2, .int v2), (3, .int v3), (4, .int v4)] [.int p0] M := by
    intro K63 hK63 K70 hK70 M v2 v3 v4 p0 hw
    refine q_istore (L' := [(5, .int p0), (0, .ref (gA g 52)), (2, .int v2), (3, .int v3), (4, .int v4)]) hC dX5_layRest_88 (by decide) rfl 90 rfl ?_
    refine q_iload hC dX5_layRest_90 4 rfl 92 rfl ?_
    refine q_bipush (v := 8) hC dX5_layRest_92 (by decide) 94 rfl ?_
    refine q_icmp_ne hC 109 dX5_layRest_94 (by decide) 97 rfl hw (fun hw => ?_) (fun hw => ?_)
    · refine q_iload hC dX5_layRest_109 4 rfl 111 rfl ?_
      refine q_aload_n hC dX5_layRest_111 1 rfl 112 rfl ?_
      refine q_getI (C := RX5) (T := TX5) (N := 26) (ci := 5) hC inX5_layRest_X5 (obF52 hF) rfl 20 (by decide) (uX5_layRest__o _ (List.mem_of_getElem? (l := owX5_layRest) (i := 1) rfl)) rfl (fun _ => rfl) dX5_layRest_112 115 rfl ?_
      refine q_icmp_ge hC 132 dX5_layRest_115 (by decide) 118 rfl hw (fun hw => ?_) (fun hw => ?_)
      · exact XX.sub [1, 2, 3, 4, 0] rfl (B132 _ hK63 _ hK70 M v2 v3 v4 p0 hw)
      · refine q_iload_n hC dX5_layRest_118 3 rfl 119 rfl ?_
        refine q_iload hC dX5_layRest_119 4 rfl 121 rfl ?_
        refine q_ishr hC dX5_layRest_121 122 rfl ?_
        refine q_iconst (v := 1) hC dX5_layRest_122 rfl 123 rfl ?_
        refine q_iand hC dX5_layRest_123 124 rfl ?_
        refine q_iconst (v := 1) hC dX5_layRest_124 rfl 125 rfl ?_
        refine q_icmp_ne hC 132 dX5_layRest_125 (by decide) 128 rfl hw (fun hw => ?_) (fun hw => ?_)
        · exact XX.sub [1, 2, 3, 4, 0] rfl (B132 _ hK63 _ hK70 M v2 v3 v4 p0 hw)
        · refine q_iconst (v := 1) hC dX5_layRest_128 rfl 129 rfl ?_
          refine q_goto hC 133 dX5_layRest_129 (by decide) ?_
          exact XX.sub [1, 2, 3, 4, 0] rfl (B133 _ hK63 _ hK70 M v2 v3 v4 p0 1 hw)
    · refine q_iload_n hC dX5_layRest_97 3 rfl 98 rfl ?_
      refine q_if_ne hC 105 dX5_layRest_98 (by decide) 101 rfl hw (fun hw => ?_) (fun hw => ?_)
      · refine q_iconst (v := 0) hC dX5_layRest_105 rfl 106 rfl ?_
        refine q_goto hC 133 dX5_layRest_106 (by decide) ?_
        exact XX.sub [1, 2, 3, 4, 0] rfl (B133 _ hK63 _ hK70 M v2 v3 v4 p0 0 hw)
      · refine q_iconst (v := 1) hC dX5_layRest_101 rfl 102 rfl ?_
        refine q_goto hC 133 dX5_layRest_102 (by decide) ?_
        exact XX.sub [1, 2, 3, 4, 0] rfl (B133 _ hK63 _ hK70 M v2 v3 v4 p0 1 hw)
  have B70 : ∀ (K63 : MM → Int32 → Int32 → Prop) (hK63 : ∀ (M : MM) (v2 : Int32) (v3 : Int32) , K63 M v2 v3 → XX z g Qf 8 63 [(0, .ref (gA g 52)), (2, .int v2), (3, .int v3)] [] M) (n : Nat) (M : MM) (v2 : Int32) (v3 : Int32) (v4 : Int32) , wX5_layRest_70 Q K63 v1 n M v2 v3 v4 → XX z g Qf 8 70 [(0, .ref (gA g 52)), (2, .int v2), (3, .int v3), (4, .int v4)] [] M := by
    intro K63 hK63 n
    induction n with
    | zero =>
      intro M v2 v3 v4 hw
      exact hw.elim
    | succ n ih =>
      intro M v2 v3 v4 hw
      refine q_iload hC dX5_layRest_70 3 rfl 72 rfl ?_
      refine q_bipush (v := 9) hC dX5_layRest_72 (by decide) 74 rfl ?_
      refine q_icmp_ge hC 220 dX5_layRest_74 (by decide) 77 rfl hw (fun hw => ?_) (fun hw => ?_)
      · refine q_iinc (v := v3 + (-1)) (L' := [(3, .int (v3 + (-1))), (0, .ref (gA g 52)), (2, .int v2), (4, .int v4)]) hC dX5_layRest_220 2 rfl rfl (by decide) rfl 223 rfl ?_
        refine q_goto hC 63 dX5_layRest_223 (by decide) ?_
        exact XX.sub [1, 2, 0] rfl (hK63 M v2 (v3 + (-1)) hw)
      · refine q_iload_n hC dX5_layRest_77 2 rfl 78 rfl ?_
        refine q_iload_n hC dX5_layRest_78 1 rfl 79 rfl ?_
        refine q_icmp_ne hC 86 dX5_layRest_79 (by decide) 82 rfl hw (fun hw => ?_) (fun hw => ?_)
        · refine q_ldc (v := 2000000000) hC (uX5_layRest__o _ (List.mem_of_getElem? (l := owX5_layRest) (i := 2) rfl)) dX5_layRest_86 88 rfl ?_
          exact XX.sub [0, 1, 2, 3] rfl (B88 _ hK63 _ (fun M v2 v3 v4 hw => ih M v2 v3 v4 hw) M v2 v3 v4 2000000000 hw)
        · refine q_iconst (v := 0) hC dX5_layRest_82 rfl 83 rfl ?_
          refine q_goto hC 88 dX5_layRest_83 (by decide) ?_
          exact XX.sub [0, 1, 2, 3] rfl (B88 _ hK63 _ (fun M v2 v3 v4 hw => ih M v2 v3 v4 hw) M v2 v3 v4 0 hw)
  have B63 : ∀ (n : Nat) (M : MM) (v2 : Int32) (v3 : Int32) , wX5_layRest_63 Q v1 n M v2 v3 → XX z g Qf 8 63 [(0, .ref (gA g 52)), (2, .int v2), (3, .int v3)] [] M := by
    intro n
    induction n with
    | zero =>
      intro M v2 v3 hw
      exact hw.elim
    | succ n ih =>
      intro M v2 v3 hw
      refine q_iload_n hC dX5_layRest_63 2 rfl 64 rfl ?_
      refine q_if_lt hC 226 dX5_layRest_64 (by decide) 67 rfl hw (fun hw => ?_) (fun hw => ?_)
      · exact r_vret hR dX5_layRest_226 hw
      · refine q_iconst (v := 0) hC dX5_layRest_67 rfl 68 rfl ?_
        refine q_istore (L' := [(4, .int 0), (0, .ref (gA g 52)), (2, .int v2), (3, .int v3)]) hC dX5_layRest_68 (by decide) rfl 70 rfl ?_
        obtain ⟨n0, hw⟩ := hw
        exact XX.sub [1, 2, 3, 0] rfl (B70 _ (fun M v2 v3 hw => ih M v2 v3 hw) n0 M v2 v3 0 hw)
  have B46 : ∀ (K7 : MM → Int32 → Prop) (hK7 : ∀ (M : MM) (v2 : Int32) , K7 M v2 → XX z g Qf 8 7 [(0, .ref (gA g 52)), (1, .int v1), (2, .int v2)] [] M) (M : MM) (v2 : Int32), wX5_layRest_46 Q K7 v1 M v2 → XX z g Qf 8 46 [(0, .ref (gA g 52)), (1, .int v1), (2, .int v2)] [] M := by
    intro K7 hK7 M v2 hw
    refine q_iinc (v := v2 + 1) (L' := [(2, .int (v2 + 1)), (0, .ref (gA g 52)), (1, .int v1)]) hC dX5_layRest_46 2 rfl rfl (by decide) rfl 49 rfl ?_
    refine q_goto hC 7 dX5_layRest_49 (by decide) ?_
    exact XX.sub [1, 2, 0] rfl (hK7 M (v2 + 1) hw)
  have B7 : ∀ (n : Nat) (M : MM) (v2 : Int32) , wX5_layRest_7 Q v1 n M v2 → XX z g Qf 8 7 [(0, .ref (gA g 52)), (1, .int v1), (2, .int v2)] [] M := by
    intro n
    induction n with
    | zero =>
      intro M v2 hw
      exact hw.elim
    | succ n ih =>
      intro M v2 hw
      refine q_iload_n hC dX5_layRest_7 2 rfl 8 rfl ?_
      refine q_aload_n hC dX5_layRest_8 0 rfl 9 rfl ?_
      refine q_getR (C := RX5) (T := TX5) (N := 26) (ci := 5) hC inX5_layRest_X5 (obF52 hF) rfl 0 (by decide) (uX5_layRest__X5_endOf _ (List.mem_of_getElem? (l := owX5_endOf) (i := 1) rfl)) rfl 53 (fun _ => rfl) dX5_layRest_9 12 rfl ?_
      refine q_iconst (v := 0) hC dX5_layRest_12 rfl 13 rfl ?_
      refine q_ialdL hC (arF53 hF) 0 (by decide +kernel) (by decide +kernel) dX5_layRest_13 14 rfl ?_
      refine q_icmp_ge hC 52 dX5_layRest_14 (by decide) 17 rfl hw (fun hw => ?_) (fun hw => ?_)
      · refine q_iconst (v := 1) hC dX5_layRest_52 rfl 53 rfl ?_
        refine q_aload_n hC dX5_layRest_53 0 rfl 54 rfl ?_
        refine q_getI (C := RX5) (T := TX5) (N := 26) (ci := 5) hC inX5_layRest_X5 (obF52 hF) rfl 20 (by decide) (uX5_layRest__o _ (List.mem_of_getElem? (l := owX5_layRest) (i := 1) rfl)) rfl (fun _ => rfl) dX5_layRest_54 57 rfl ?_
        refine q_ishl hC dX5_layRest_57 58 rfl ?_
        refine q_iconst (v := 1) hC dX5_layRest_58 rfl 59 rfl ?_
        refine q_isub hC dX5_layRest_59 60 rfl ?_
        refine q_nameI (fun x2 ex2 => ?_)
        have hw := hw x2 ex2
        refine q_istore_n (L' := [(2, .int x2), (0, .ref (gA g 52)), (1, .int v1)]) hC dX5_layRest_60 (by decide) rfl 61 rfl ?_
        refine q_iload_n hC dX5_layRest_61 0 rfl 62 rfl ?_
        refine q_istore_n (L' := [(3, .int x2), (2, .int x2), (0, .ref (gA g 52)), (1, .int v1)]) hC dX5_layRest_62 (by decide) rfl 63 rfl ?_
        obtain ⟨n0, hw⟩ := hw
        exact XX.sub [2, 1, 0] rfl (B63 n0 M x2 x2 hw)
      · refine q_iload_n hC dX5_layRest_17 1 rfl 18 rfl ?_
        refine q_iload_n hC dX5_layRest_18 2 rfl 19 rfl ?_
        refine q_ishr hC dX5_layRest_19 20 rfl ?_
        refine q_iconst (v := 1) hC dX5_layRest_20 rfl 21 rfl ?_
        refine q_iand hC dX5_layRest_21 22 rfl ?_
        refine q_iconst (v := 1) hC dX5_layRest_22 rfl 23 rfl ?_
        refine q_icmp_ne hC 46 dX5_layRest_23 (by decide) 26 rfl hw (fun hw => ?_) (fun hw => ?_)
        · exact XX.sub [0, 1, 2] rfl (B46 _ (fun M v2 hw => ih M v2 hw) M v2 hw)
        · refine q_aload_n hC dX5_layRest_26 0 rfl 27 rfl ?_
          refine q_getR (C := RX5) (T := TX5) (N := 26) (ci := 5) hC inX5_layRest_X5 (obF52 hF) rfl 19 (by decide) (uX5_layRest__X5_takes _ (List.mem_of_getElem? (l := owX5_takes) (i := 1) rfl)) rfl 63 (fun _ => rfl) dX5_layRest_27 30 rfl ?_
          refine q_aload_n hC dX5_layRest_30 0 rfl 31 rfl ?_
          refine q_getI (C := RX5) (T := TX5) (N := 26) (ci := 5) hC inX5_layRest_X5 (obF52 hF) rfl 20 (by decide) (uX5_layRest__o _ (List.mem_of_getElem? (l := owX5_layRest) (i := 1) rfl)) rfl (fun _ => rfl) dX5_layRest_31 34 rfl ?_
          refine q_iload_n hC dX5_layRest_34 2 rfl 35 rfl ?_
          obtain ⟨hin, hw⟩ := hw
          refine q_iast hC (arF63 hF) hin dX5_layRest_35 36 rfl (fun M3 eM3 => ?_)
          have hw := hw M3 eM3
          refine q_aload_n hC dX5_layRest_36 0 rfl 37 rfl ?_
          refine q_dup hC dX5_layRest_37 rfl 38 rfl ?_
          refine q_getI (C := RX5) (T := TX5) (N := 26) (ci := 5) hC inX5_layRest_X5 (obF52 hF) rfl 20 (by decide) (uX5_layRest__o _ (List.mem_of_getElem? (l := owX5_layRest) (i := 1) rfl)) rfl (fun _ => rfl) dX5_layRest_38 41 rfl ?_
          refine q_iconst (v := 1) hC dX5_layRest_41 rfl 42 rfl ?_
          refine q_iadd hC dX5_layRest_42 43 rfl ?_
          refine q_putI (C := RX5) (T := TX5) (N := 26) (ci := 5) hC inX5_layRest_X5 tyX5 tyX5_ok nmX5 (obF52 hF) rfl 20 (by decide) (uX5_layRest__o _ (List.mem_of_getElem? (l := owX5_layRest) (i := 1) rfl)) rfl rfl rfl (fun _ => Nat.le_of_ble_eq_true rfl) (fun _ => rfl) dX5_layRest_43 46 rfl (fun M4 eM4 => ?_)
          have hw := hw M4 eM4
          exact XX.sub [0, 1, 2] rfl (B46 _ (fun M v2 hw => ih M v2 hw) M4 v2 hw)
  refine q_aload_n hC dX5_layRest_0 0 rfl 1 rfl ?_
  refine q_iconst (v := 0) hC dX5_layRest_1 rfl 2 rfl ?_
  refine q_putI (C := RX5) (T := TX5) (N := 26) (ci := 5) hC inX5_layRest_X5 tyX5 tyX5_ok nmX5 (obF52 hF) rfl 20 (by decide) (uX5_layRest__o _ (List.mem_of_getElem? (l := owX5_layRest) (i := 1) rfl)) rfl rfl rfl (fun _ => Nat.le_of_ble_eq_true rfl) (fun _ => rfl) dX5_layRest_2 5 rfl (fun M1 eM1 => ?_)
  have hw := hw M1 eM1
  refine q_iconst (v := 0) hC dX5_layRest_5 rfl 6 rfl ?_
  refine q_istore_n (L' := [(2, .int 0), (0, .ref (gA g 52)), (1, .int v1)]) hC dX5_layRest_6 (by decide) rfl 7 rfl ?_
  obtain ⟨n0, hw⟩ := hw
  exact XX.sub [1, 2, 0] rfl (B7 n0 M1 0 hw)
theorem inX5_follows_X5 : ∀ w ∈ u_ws RX5 TX5 26, w ∈ wsX5_follows := uX5_follows__wsX50
set_option maxRecDepth 100000 in
set_option maxHeartbeats 4000000 in
theorem ctX5_follows (l : Launch) (g : GG) (M : MM) (v1 : Int32) (v2 : Int32) (Q : Int32 → MM → Prop) (hF : ful5 g) (hw : wX5_follows Q M v1 v2) : MI g l yX5_follows wsX5_follows (rmOf 5 113) [.ref (gA g 52), .int v1, .int v2] M Q := by
  refine mk_MI (cc := cX5_follows) (maxL := 6) (by decide) rfl (Nat.le_of_ble_eq_true rfl) ?_
  intro z Qf hC hR
  show XX z g Qf 6 0 [(0, .ref (gA g 52)), (1, .int v1), (2, .int v2)] [] M
  have B82 : ∀ (K11 : MM → Int32 → Int32 → Prop) (hK11 : ∀ (M : MM) (v3 : Int32) (v4 : Int32) , K11 M v3 v4 → XX z g Qf 6 11 [(0, .ref (gA g 52)), (1, .int v1), (2, .int v2), (3, .int v3), (4, .int v4)] [] M) (M : MM) (v4 : Int32) (p0 : Int32), wX5_follows_82 Q K11 v1 v2 M v4 p0 → XX z g Qf 6 82 [(0, .ref (gA g 52)), (1, .int v1), (2, .int v2), (4, .int v4)] [.int p0] M := by
    intro K11 hK11 M v4 p0 hw
    refine q_istore_n (L' := [(3, .int p0), (0, .ref (gA g 52)), (1, .int v1), (2, .int v2), (4, .int v4)]) hC dX5_follows_82 (by decide) rfl 83 rfl ?_
    refine q_iinc (v := v4 + (-1)) (L' := [(4, .int (v4 + (-1))), (3, .int p0), (0, .ref (gA g 52)), (1, .int v1), (2, .int v2)]) hC dX5_follows_83 4 rfl rfl (by decide) rfl 86 rfl ?_
    refine q_goto hC 11 dX5_follows_86 (by decide) ?_
    exact XX.sub [2, 3, 4, 1, 0] rfl (hK11 M p0 (v4 + (-1)) hw)
  have B69 : ∀ (K11 : MM → Int32 → Int32 → Prop) (hK11 : ∀ (M : MM) (v3 : Int32) (v4 : Int32) , K11 M v3 v4 → XX z g Qf 6 11 [(0, .ref (gA g 52)), (1, .int v1), (2, .int v2), (3, .int v3), (4, .int v4)] [] M) (M : MM) (v3 : Int32) (v4 : Int32) (p0 : Int32), wX5_follows_69 Q K11 v1 v2 M v3 v4 p0 → XX z g Qf 6 69 [(0, .ref (gA g 52)), (1, .int v1), (2, .int v2), (3, .int v3), (4, .int v4)] [.int p0] M := by
    intro K11 hK11 M v3 v4 p0 hw
    refine q_istore (L' := [(5, .int p0), (0, .ref (gA g 52)), (1, .int v1), (2, .int v2), (3, .int v3), (4, .int v4)]) hC dX5_follows_69 (by decide) rfl 71 rfl ?_
    refine q_iload hC dX5_follows_71 0 rfl 73 rfl ?_
    refine q_if_eq hC 81 dX5_follows_73 (by decide) 76 rfl hw (fun hw => ?_) (fun hw => ?_)
    · refine q_iload_n hC dX5_follows_81 4 rfl 82 rfl ?_
      exact XX.sub [1, 2, 3, 5] rfl (B82 _ hK11 M v4 v3 hw)
    · refine q_iload hC dX5_follows_76 5 rfl 78 rfl ?_
      refine q_goto hC 82 dX5_follows_78 (by decide) ?_
      exact XX.sub [1, 2, 3, 5] rfl (B82 _ hK11 M v4 v4 hw)
  have B68 : ∀ (K11 : MM → Int32 → Int32 → Prop) (hK11 : ∀ (M : MM) (v3 : Int32) (v4 : Int32) , K11 M v3 v4 → XX z g Qf 6 11 [(0, .ref (gA g 52)), (1, .int v1), (2, .int v2), (3, .int v3), (4, .int v4)] [] M) (M : MM) (v3 : Int32) (v4 : Int32), wX5_follows_68 Q K11 v1 v2 M v3 v4 → XX z g Qf 6 68 [(0, .ref (gA g 52)), (1, .int v1), (2, .int v2), (3, .int v3), (4, .int v4)] [] M := by
    intro K11 hK11 M v3 v4 hw
    refine q_iconst (v := 0) hC dX5_follows_68 rfl 69 rfl ?_
    exact XX.sub [0, 1, 2, 3, 4] rfl (B69 _ hK11 M v3 v4 0 hw)
  have B11 : ∀ (n : Nat) (M : MM) (v3 : Int32) (v4 : Int32) , wX5_follows_11 Q v1 v2 n M v3 v4 → XX z g Qf 6 11 [(0, .ref (gA g 52)), (1, .int v1), (2, .int v2), (3, .int v3), (4, .int v4)] [] M := by
    intro n
    induction n with
    | zero =>
      intro M v3 v4 hw
      exact hw.elim
    | succ n ih =>
      intro M v3 v4 hw
      refine q_iload hC dX5_follows_11 4 rfl 13 rfl ?_
      refine q_if_lt hC 89 dX5_follows_13 (by decide) 16 rfl hw (fun hw => ?_) (fun hw => ?_)
      · refine q_iload_n hC dX5_follows_89 3 rfl 90 rfl ?_
        exact r_iret hR dX5_follows_90 hw
      · refine q_iload_n hC dX5_follows_16 1 rfl 17 rfl ?_
        refine q_iload hC dX5_follows_17 4 rfl 19 rfl ?_
        refine q_ishr hC dX5_follows_19 20 rfl ?_
        refine q_iconst (v := 1) hC dX5_follows_20 rfl 21 rfl ?_
        refine q_iand hC dX5_follows_21 22 rfl ?_
        refine q_if_ne hC 68 dX5_follows_22 (by decide) 25 rfl hw (fun hw => ?_) (fun hw => ?_)
        · exact XX.sub [0, 1, 2, 3, 4] rfl (B68 _ (fun M v3 v4 hw => ih M v3 v4 hw) M v3 v4 hw)
        · refine q_aload_n hC dX5_follows_25 0 rfl 26 rfl ?_
          refine q_iload_n hC dX5_follows_26 2 rfl 27 rfl ?_
          refine q_iload hC dX5_follows_27 4 rfl 29 rfl ?_
          refine r_callI hC (go_V (q := (RX5, TX5, 26)) (As := [.int v2, .int v4]) (rest := []) hC (ctX5_takes (zl z) g M v2 v4 _ hF hw) 2 gX5_follows_X5_takes rfl ⟨rfl, rfl⟩ hdV_X5_takes ⟨Nat.le_of_ble_eq_true rfl, Nat.le_of_ble_eq_true rfl⟩ (obF52 hF) rfl rfl rfl (Nat.le_of_ble_eq_true rfl) dX5_follows_29) 32 rfl (fun r2 M3 hw => ?_)
          refine q_aload_n hC dX5_follows_32 0 rfl 33 rfl ?_
          refine q_getR (C := RX5) (T := TX5) (N := 26) (ci := 5) hC inX5_follows_X5 (obF52 hF) rfl 18 (by decide) (uX5_follows__o _ (List.mem_of_getElem? (l := owX5_follows) (i := 2) rfl)) rfl 62 (fun _ => rfl) dX5_follows_33 36 rfl ?_
          refine q_bipush (v := 13) hC dX5_follows_36 (by decide) 38 rfl ?_
          refine q_iload_n hC dX5_follows_38 1 rfl 39 rfl ?_
          refine q_iconst (v := 1) hC dX5_follows_39 rfl 40 rfl ?_
          refine q_iload hC dX5_follows_40 4 rfl 42 rfl ?_
          refine q_ishl hC dX5_follows_42 43 rfl ?_
          refine q_ior hC dX5_follows_43 44 rfl ?_
          refine q_imul hC dX5_follows_44 45 rfl ?_
          refine q_iload hC dX5_follows_45 4 rfl 47 rfl ?_
          refine q_iadd hC dX5_follows_47 48 rfl ?_
          obtain ⟨hin, hw⟩ := hw
          refine q_iald hC (arF62 hF) hin dX5_follows_48 49 rfl ?_
          refine q_iadd hC dX5_follows_49 50 rfl ?_
          refine q_aload_n hC dX5_follows_50 0 rfl 51 rfl ?_
          refine q_getR (C := RX5) (T := TX5) (N := 26) (ci := 5) hC inX5_follows_X5 (obF52 hF) rfl 18 (by decide) (uX5_follows__o _ (List.mem_of_getElem? (l := owX5_follows) (i := 2) rfl)) rfl 62 (fun _ => rfl) dX5_follows_51 54 rfl ?_
          refine q_bipush (v := 13) hC dX5_follows_54 (by decide) 56 rfl ?_
          refine q_iload_n hC dX5_follows_56 1 rfl 57 rfl ?_
          refine q_imul hC dX5_follows_57 58 rfl ?_
          refine q_iload_n hC dX5_follows_58 2 rfl 59 rfl ?_
          refine q_iadd hC dX5_follows_59 60 rfl ?_
          obtain ⟨hin, hw⟩ := hw
          refine q_iald hC (arF62 hF) hin dX5_follows_60 61 rfl ?_
          refine q_icmp_ne hC 68 dX5_follows_61 (by decide) 64 rfl hw (fun hw => ?_) (fun hw => ?_)
          · exact XX.sub [0, 1, 2, 3, 4] rfl (B68 _ (fun M v3 v4 hw => ih M v3 v4 hw) M3 v3 v4 hw)
          · refine q_iconst (v := 1) hC dX5_follows_64 rfl 65 rfl ?_
            refine q_goto hC 69 dX5_follows_65 (by decide) ?_
            exact XX.sub [0, 1, 2, 3, 4] rfl (B69 _ (fun M v3 v4 hw => ih M v3 v4 hw) M3 v3 v4 1 hw)
  refine q_bipush (v := (-4)) hC dX5_follows_0 (by decide) 2 rfl ?_
  refine q_istore_n (L' := [(3, .int (-4)), (0, .ref (gA g 52)), (1, .int v1), (2, .int v2)]) hC dX5_follows_2 (by decide) rfl 3 rfl ?_
  refine q_aload_n hC dX5_follows_3 1 rfl 4 rfl ?_
  refine q_getI (C := RX5) (T := TX5) (N := 26) (ci := 5) hC inX5_follows_X5 (obF52 hF) rfl 20 (by decide) (uX5_follows__o _ (List.mem_of_getElem? (l := owX5_follows) (i := 1) rfl)) rfl (fun _ => rfl) dX5_follows_4 7 rfl ?_
  refine q_iconst (v := 1) hC dX5_follows_7 rfl 8 rfl ?_
  refine q_isub hC dX5_follows_8 9 rfl ?_
  refine q_nameI (fun x1 ex1 => ?_)
  have hw := hw x1 ex1
  refine q_istore (L' := [(4, .int x1), (3, .int (-4)), (0, .ref (gA g 52)), (1, .int v1), (2, .int v2)]) hC dX5_follows_9 (by decide) rfl 11 rfl ?_
  obtain ⟨n0, hw⟩ := hw
  exact XX.sub [2, 3, 4, 1, 0] rfl (B11 n0 M (-4) x1 hw)
theorem hdV_X5_follows : yX5_follows.cls = RX5 ∧ yX5_follows.cls ≠ "java/lang/invoke/MethodHandle" ∧ yX5_follows.cls ≠ "java/lang/invoke/VarHandle" ∧ (parseMethodDescriptor yX5_follows.desc).map (fun d => d.parameters.length) = some 2 := by decide +kernel
theorem inX5_nthOf_X5 : ∀ w ∈ u_ws RX5 TX5 26, w ∈ wsX5_nthOf := uX5_nthOf__wsX50
set_option maxRecDepth 100000 in
set_option maxHeartbeats 4000000 in
theorem ctX5_nthOf (l : Launch) (g : GG) (M : MM) (v1 : Int32) (Q : Int32 → MM → Prop) (hF : ful5 g) (hw : wX5_nthOf Q M v1) : MI g l yX5_nthOf wsX5_nthOf (rmOf 6 138) [.ref (gA g 52), .int v1] M Q := by
  refine mk_MI (cc := cX5_nthOf) (maxL := 5) (by decide) rfl (Nat.le_of_ble_eq_true rfl) ?_
  intro z Qf hC hR
  show XX z g Qf 5 0 [(0, .ref (gA g 52)), (1, .int v1)] [] M
  have B8 : ∀ (n : Nat) (M : MM) (v2 : Int32) (v3 : Int32) (v4 : Int32) , wX5_nthOf_8 Q v1 n M v2 v3 v4 → XX z g Qf 5 8 [(0, .ref (gA g 52)), (1, .int v1), (2, .int v2), (3, .int v3), (4, .int v4)] [] M := by
    intro n
    induction n with
    | zero =>
      intro M v2 v3 v4 hw
      exact hw.elim
    | succ n ih =>
      intro M v2 v3 v4 hw
      refine q_iload hC dX5_nthOf_8 4 rfl 10 rfl ?_
      refine q_iload_n hC dX5_nthOf_10 1 rfl 11 rfl ?_
      refine q_icmp_gt hC 33 dX5_nthOf_11 (by decide) 14 rfl hw (fun hw => ?_) (fun hw => ?_)
      · refine q_aload_n hC dX5_nthOf_33 0 rfl 34 rfl ?_
        refine q_getR (C := RX5) (T := TX5) (N := 26) (ci := 5) hC inX5_nthOf_X5 (obF52 hF) rfl 19 (by decide) (uX5_nthOf__X5_takes _ (List.mem_of_getElem? (l := owX5_takes) (i := 1) rfl)) rfl 63 (fun _ => rfl) dX5_nthOf_34 37 rfl ?_
        refine q_iload_n hC dX5_nthOf_37 3 rfl 38 rfl ?_
        obtain ⟨hin, hw⟩ := hw
        refine q_iald hC (arF63 hF) hin dX5_nthOf_38 39 rfl ?_
        exact r_iret hR dX5_nthOf_39 hw
      · refine q_aload_n hC dX5_nthOf_14 0 rfl 15 rfl ?_
        refine q_iload_n hC dX5_nthOf_15 2 rfl 16 rfl ?_
        refine q_iload_n hC dX5_nthOf_16 3 rfl 17 rfl ?_
        refine r_callI hC (go_V (q := (RX5, TX5, 26)) (As := [.int v2, .int v3]) (rest := []) hC (ctX5_follows (zl z) g M v2 v3 _ hF hw) 2 gX5_nthOf_X5_follows rfl ⟨rfl, rfl⟩ hdV_X5_follows ⟨Nat.le_of_ble_eq_true rfl, Nat.le_of_ble_eq_true rfl⟩ (obF52 hF) rfl rfl rfl (Nat.le_of_ble_eq_true rfl) dX5_nthOf_17) 20 rfl (fun r1 M2 hw => ?_)
        refine q_istore_n (L' := [(3, .int r1), (0, .ref (gA g 52)), (1, .int v1), (2, .int v2), (4, .int v4)]) hC dX5_nthOf_20 (by decide) rfl 21 rfl ?_
        refine q_iload_n hC dX5_nthOf_21 3 rfl 22 rfl ?_
        refine q_iconst (v := 1) hC dX5_nthOf_22 rfl 23 rfl ?_
        refine q_iload_n hC dX5_nthOf_23 0 rfl 24 rfl ?_
        refine q_ishl hC dX5_nthOf_24 25 rfl ?_
        refine q_ior hC dX5_nthOf_25 26 rfl ?_
        refine q_nameI (fun x3 ex3 => ?_)
        have hw := hw x3 ex3
        refine q_istore_n (L' := [(2, .int x3), (3, .int r1), (0, .ref (gA g 52)), (1, .int v1), (4, .int v4)]) hC dX5_nthOf_26 (by decide) rfl 27 rfl ?_
        refine q_iinc (v := v4 + 1) (L' := [(4, .int (v4 + 1)), (2, .int x3), (3, .int r1), (0, .ref (gA g 52)), (1, .int v1)]) hC dX5_nthOf_27 4 rfl rfl (by decide) rfl 30 rfl ?_
        refine q_goto hC 8 dX5_nthOf_30 (by decide) ?_
        exact XX.sub [3, 4, 1, 2, 0] rfl (ih M2 x3 r1 (v4 + 1) hw)
  refine q_iconst (v := 0) hC dX5_nthOf_0 rfl 1 rfl ?_
  refine q_istore_n (L' := [(2, .int 0), (0, .ref (gA g 52)), (1, .int v1)]) hC dX5_nthOf_1 (by decide) rfl 2 rfl ?_
  refine q_bipush (v := 8) hC dX5_nthOf_2 (by decide) 4 rfl ?_
  refine q_istore_n (L' := [(3, .int 8), (2, .int 0), (0, .ref (gA g 52)), (1, .int v1)]) hC dX5_nthOf_4 (by decide) rfl 5 rfl ?_
  refine q_iconst (v := 0) hC dX5_nthOf_5 rfl 6 rfl ?_
  refine q_istore (L' := [(4, .int 0), (3, .int 8), (2, .int 0), (0, .ref (gA g 52)), (1, .int v1)]) hC dX5_nthOf_6 (by decide) rfl 8 rfl ?_
  obtain ⟨n0, hw⟩ := hw
  exact XX.sub [3, 4, 2, 1, 0] rfl (B8 n0 M 0 8 0 hw)
theorem hdV_X5_areBlocks : yX5_areBlocks.cls = RX5 ∧ yX5_areBlocks.cls ≠ "java/lang/invoke/MethodHandle" ∧ yX5_areBlocks.cls ≠ "java/lang/invoke/VarHandle" ∧ (parseMethodDescriptor yX5_areBlocks.desc).map (fun d => d.parameters.length) = some 1 := by decide +kernel
theorem hdT_X5_countOf : yX5_countOf.cls ≠ "java/lang/invoke/MethodHandle" ∧ yX5_countOf.cls ≠ "java/lang/invoke/VarHandle" ∧ (parseMethodDescriptor yX5_countOf.desc).map (fun d => d.parameters.length) = some 1 := by decide +kernel
theorem hdV_X5_layRest : yX5_layRest.cls = RX5 ∧ yX5_layRest.cls ≠ "java/lang/invoke/MethodHandle" ∧ yX5_layRest.cls ≠ "java/lang/invoke/VarHandle" ∧ (parseMethodDescriptor yX5_layRest.desc).map (fun d => d.parameters.length) = some 1 := by decide +kernel
theorem hdV_X5_nthOf : yX5_nthOf.cls = RX5 ∧ yX5_nthOf.cls ≠ "java/lang/invoke/MethodHandle" ∧ yX5_nthOf.cls ≠ "java/lang/invoke/VarHandle" ∧ (parseMethodDescriptor yX5_nthOf.desc).map (fun d => d.parameters.length) = some 1 := by decide +kernel
theorem inX5_order_X5 : ∀ w ∈ u_ws RX5 TX5 26, w ∈ wsX5_order := uX5_order__wsX50
set_option maxRecDepth 100000 in
set_option maxHeartbeats 4000000 in
theorem ctX5_order (l : Launch) (g : GG) (M : MM) (v1 : Int32) (v2 : Int32) (Q : Int32 → MM → Prop) (hF : ful5 g) (hw : wX5_order Q M v1 v2) : MI g l yX5_order wsX5_order (rmOf 7 162) [.ref (gA g 52), .int v1, .int v2] M Q := by
  refine mk_MI (cc := cX5_order) (maxL := 3) (by decide) rfl (Nat.le_of_ble_eq_true rfl) ?_
  intro z Qf hC hR
  show XX z g Qf 3 0 [(0, .ref (gA g 52)), (1, .int v1), (2, .int v2)] [] M
  have B28 : ∀ (M : MM), wX5_order_28 Q v1 v2 M → XX z g Qf 3 28 [(0, .ref (gA g 52)), (1, .int v1), (2, .int v2)] [] M := by
    intro M hw
    refine q_iload_n hC dX5_order_28 1 rfl 29 rfl ?_
    refine r_callI hC (go_T (As := [.int v1]) (rest := []) hC (ctX5_countOf (zl z) g M v1 _ hw) 1 gX5_order_X5_countOf rfl ⟨rfl, rfl⟩ hdT_X5_countOf ⟨Nat.le_of_ble_eq_true rfl, Nat.le_of_ble_eq_true rfl⟩ rfl rfl (Nat.le_of_ble_eq_true rfl) dX5_order_29) 32 rfl (fun r5 M6 hw => ?_)
    refine q_bipush (v := 8) hC dX5_order_32 (by decide) 34 rfl ?_
    refine q_icmp_le hC 40 dX5_order_34 (by decide) 37 rfl hw (fun hw => ?_) (fun hw => ?_)
    · refine q_aload_n hC dX5_order_40 0 rfl 41 rfl ?_
      refine q_iload_n hC dX5_order_41 1 rfl 42 rfl ?_
      refine r_callV hC (go_V (q := (RX5, TX5, 26)) (As := [.int v1]) (rest := []) hC (ctX5_layRest (zl z) g M6 v1 _ hF hw) 1 gX5_order_X5_layRest rfl ⟨rfl, rfl⟩ hdV_X5_layRest ⟨Nat.le_of_ble_eq_true rfl, Nat.le_of_ble_eq_true rfl⟩ (obF52 hF) rfl rfl rfl (Nat.le_of_ble_eq_true rfl) dX5_order_42) 45 rfl (fun M7 hw => ?_)
      refine q_iload_n hC dX5_order_45 2 rfl 46 rfl ?_
      refine q_if_ne hC 59 dX5_order_46 (by decide) 49 rfl hw (fun hw => ?_) (fun hw => ?_)
      · refine q_iload_n hC dX5_order_59 2 rfl 60 rfl ?_
        refine q_bipush (v := 10) hC dX5_order_60 (by decide) 62 rfl ?_
        refine q_isub hC dX5_order_62 63 rfl ?_
        refine q_aload_n hC dX5_order_63 0 rfl 64 rfl ?_
        refine q_getI (C := RX5) (T := TX5) (N := 26) (ci := 5) hC inX5_order_X5 (obF52 hF) rfl 20 (by decide) (uX5_order__X5_layRest _ (List.mem_of_getElem? (l := owX5_layRest) (i := 1) rfl)) rfl (fun _ => rfl) dX5_order_64 67 rfl ?_
        refine q_icmp_ge hC 81 dX5_order_67 (by decide) 70 rfl hw (fun hw => ?_) (fun hw => ?_)
        · refine q_iconst (v := (-1)) hC dX5_order_81 rfl 82 rfl ?_
          exact r_iret hR dX5_order_82 hw
        · refine q_aload_n hC dX5_order_70 0 rfl 71 rfl ?_
          refine q_iload_n hC dX5_order_71 2 rfl 72 rfl ?_
          refine q_bipush (v := 10) hC dX5_order_72 (by decide) 74 rfl ?_
          refine q_isub hC dX5_order_74 75 rfl ?_
          refine r_callI hC (go_V (q := (RX5, TX5, 26)) (As := [.int (v2 - (10 : Int32))]) (rest := []) hC (ctX5_nthOf (zl z) g M7 (v2 - (10 : Int32)) _ hF hw) 1 gX5_order_X5_nthOf rfl ⟨rfl, rfl⟩ hdV_X5_nthOf ⟨Nat.le_of_ble_eq_true rfl, Nat.le_of_ble_eq_true rfl⟩ (obF52 hF) rfl rfl rfl (Nat.le_of_ble_eq_true rfl) dX5_order_75) 78 rfl (fun r8 M9 hw => ?_)
          refine q_goto hC 82 dX5_order_78 (by decide) ?_
          exact r_iret hR dX5_order_82 hw
      · refine q_aload_n hC dX5_order_49 0 rfl 50 rfl ?_
        refine q_getR (C := RX5) (T := TX5) (N := 26) (ci := 5) hC inX5_order_X5 (obF52 hF) rfl 18 (by decide) (uX5_order__X5_layRest _ (List.mem_of_getElem? (l := owX5_layRest) (i := 3) rfl)) rfl 62 (fun _ => rfl) dX5_order_50 53 rfl ?_
        refine q_bipush (v := 8) hC dX5_order_53 (by decide) 55 rfl ?_
        refine q_ialdL hC (arF62 hF) 8 (by decide +kernel) (by decide +kernel) dX5_order_55 56 rfl ?_
        refine q_goto hC 82 dX5_order_56 (by decide) ?_
        exact r_iret hR dX5_order_82 hw
    · refine q_bipush (v := (-2)) hC dX5_order_37 (by decide) 39 rfl ?_
      exact r_iret hR dX5_order_39 hw
  refine q_aload_n hC dX5_order_0 0 rfl 1 rfl ?_
  refine q_iload_n hC dX5_order_1 1 rfl 2 rfl ?_
  refine r_callI hC (go_V (q := (RX5, TX5, 26)) (As := [.int v1]) (rest := []) hC (ctX5_areBlocks (zl z) g M v1 _ hF hw) 1 gX5_order_X5_areBlocks rfl ⟨rfl, rfl⟩ hdV_X5_areBlocks ⟨Nat.le_of_ble_eq_true rfl, Nat.le_of_ble_eq_true rfl⟩ (obF52 hF) rfl rfl rfl (Nat.le_of_ble_eq_true rfl) dX5_order_2) 5 rfl (fun r1 M2 hw => ?_)
  refine q_if_eq hC 26 dX5_order_5 (by decide) 8 rfl hw (fun hw => ?_) (fun hw => ?_)
  · refine q_iconst (v := (-1)) hC dX5_order_26 rfl 27 rfl ?_
    exact r_iret hR dX5_order_27 hw
  · refine q_iload_n hC dX5_order_8 2 rfl 9 rfl ?_
    refine q_if_eq hC 28 dX5_order_9 (by decide) 12 rfl hw (fun hw => ?_) (fun hw => ?_)
    · exact XX.sub [0, 1, 2] rfl (B28 M2 hw)
    · refine q_iload_n hC dX5_order_12 2 rfl 13 rfl ?_
      refine q_i2l hC dX5_order_13 14 rfl ?_
      refine q_ldc2 (v := 10) hC (uX5_order__o _ (List.mem_of_getElem? (l := owX5_order) (i := 1) rfl)) dX5_order_14 17 rfl ?_
      refine q_ldc2 (v := 17) hC (uX5_order__o _ (List.mem_of_getElem? (l := owX5_order) (i := 2) rfl)) dX5_order_17 20 rfl ?_
      refine r_callI hC (go_T (As := [.long (v2.toInt64), .long 10, .long 17]) (rest := []) hC (ctX5_in (zl z) g M2 (v2.toInt64) 10 17 _ hw) 3 gX5_order_X5_in rfl ⟨rfl, rfl⟩ hdT_X5_in ⟨Nat.le_of_ble_eq_true rfl, Nat.le_of_ble_eq_true rfl⟩ rfl rfl (Nat.le_of_ble_eq_true rfl) dX5_order_20) 23 rfl (fun r3 M4 hw => ?_)
      refine q_if_ne hC 28 dX5_order_23 (by decide) 26 rfl hw (fun hw => ?_) (fun hw => ?_)
      · exact XX.sub [0, 1, 2] rfl (B28 M4 hw)
      · refine q_iconst (v := (-1)) hC dX5_order_26 rfl 27 rfl ?_
        exact r_iret hR dX5_order_27 hw
theorem inX5_reads_X5 : ∀ w ∈ u_ws RX5 TX5 26, w ∈ wsX5_reads := uX5_reads__wsX50
set_option maxRecDepth 100000 in
set_option maxHeartbeats 4000000 in
theorem ctX5_reads (l : Launch) (g : GG) (M : MM) (v1 : Int32) (Q : Int32 → MM → Prop) (hF : ful5 g) (hw : wX5_reads Q M v1) : MI g l yX5_reads wsX5_reads (rmOf 7 162) [.ref (gA g 52), .int v1] M Q := by
  refine mk_MI (cc := cX5_reads) (maxL := 4) (by decide) rfl (Nat.le_of_ble_eq_true rfl) ?_
  intro z Qf hC hR
  show XX z g Qf 4 0 [(0, .ref (gA g 52)), (1, .int v1)] [] M
  have B67 : ∀ (M : MM) (v2 : Int32) (p0 : Int32), wX5_reads_67 Q v1 M v2 p0 → XX z g Qf 4 67 [(0, .ref (gA g 52)), (2, .int v2)] [.int p0] M := by
    intro M v2 p0 hw
    refine q_istore_n (L' := [(3, .int p0), (0, .ref (gA g 52)), (2, .int v2)]) hC dX5_reads_67 (by decide) rfl 68 rfl ?_
    refine q_aload_n hC dX5_reads_68 1 rfl 69 rfl ?_
    refine q_getR (C := RX5) (T := TX5) (N := 26) (ci := 5) hC inX5_reads_X5 (obF52 hF) rfl 0 (by decide) (uX5_reads__X5_areBlocks _ (List.mem_of_getElem? (l := owX5_areBlocks) (i := 1) rfl)) rfl 53 (fun _ => rfl) dX5_reads_69 72 rfl ?_
    refine q_sipush (v := 326) hC dX5_reads_72 (by decide) 75 rfl ?_
    refine q_dup2 hC dX5_reads_75 rfl rfl 76 rfl ?_
    refine q_ialdL hC (arF53 hF) 326 (by decide +kernel) (by decide +kernel) dX5_reads_76 77 rfl ?_
    refine q_iload_n hC dX5_reads_77 2 rfl 78 rfl ?_
    refine q_iadd hC dX5_reads_78 79 rfl ?_
    refine q_iastL hC (arF53 hF) 326 (by decide +kernel) (by decide +kernel) dX5_reads_79 80 rfl (fun M10 eM10 => ?_)
    have hw := hw M10 eM10
    refine q_aload_n hC dX5_reads_80 1 rfl 81 rfl ?_
    refine q_getR (C := RX5) (T := TX5) (N := 26) (ci := 5) hC inX5_reads_X5 (obF52 hF) rfl 0 (by decide) (uX5_reads__X5_areBlocks _ (List.mem_of_getElem? (l := owX5_areBlocks) (i := 1) rfl)) rfl 53 (fun _ => rfl) dX5_reads_81 84 rfl ?_
    refine q_sipush (v := 325) hC dX5_reads_84 (by decide) 87 rfl ?_
    refine q_iload_n hC dX5_reads_87 0 rfl 88 rfl ?_
    refine q_iastL hC (arF53 hF) 325 (by decide +kernel) (by decide +kernel) dX5_reads_88 89 rfl (fun M11 eM11 => ?_)
    have hw := hw M11 eM11
    refine q_iload_n hC dX5_reads_89 2 rfl 90 rfl ?_
    exact r_iret hR dX5_reads_90 hw
  refine q_aload_n hC dX5_reads_0 0 rfl 1 rfl ?_
  refine q_iload_n hC dX5_reads_1 1 rfl 2 rfl ?_
  refine r_callI hC (go_V (q := (RX5, TX5, 26)) (As := [.int v1]) (rest := []) hC (ctX5_areBlocks (zl z) g M v1 _ hF hw) 1 gX5_reads_X5_areBlocks rfl ⟨rfl, rfl⟩ hdV_X5_areBlocks ⟨Nat.le_of_ble_eq_true rfl, Nat.le_of_ble_eq_true rfl⟩ (obF52 hF) rfl rfl rfl (Nat.le_of_ble_eq_true rfl) dX5_reads_2) 5 rfl (fun r1 M2 hw => ?_)
  refine q_if_ne hC 10 dX5_reads_5 (by decide) 8 rfl hw (fun hw => ?_) (fun hw => ?_)
  · refine q_iload_n hC dX5_reads_10 1 rfl 11 rfl ?_
    refine r_callI hC (go_T (As := [.int v1]) (rest := []) hC (ctX5_countOf (zl z) g M2 v1 _ hw) 1 gX5_reads_X5_countOf rfl ⟨rfl, rfl⟩ hdT_X5_countOf ⟨Nat.le_of_ble_eq_true rfl, Nat.le_of_ble_eq_true rfl⟩ rfl rfl (Nat.le_of_ble_eq_true rfl) dX5_reads_11) 14 rfl (fun r3 M4 hw => ?_)
    refine q_bipush (v := 8) hC dX5_reads_14 (by decide) 16 rfl ?_
    refine q_icmp_le hC 22 dX5_reads_16 (by decide) 19 rfl hw (fun hw => ?_) (fun hw => ?_)
    · refine q_aload_n hC dX5_reads_22 0 rfl 23 rfl ?_
      refine q_iload_n hC dX5_reads_23 1 rfl 24 rfl ?_
      refine r_callV hC (go_V (q := (RX5, TX5, 26)) (As := [.int v1]) (rest := []) hC (ctX5_layRest (zl z) g M4 v1 _ hF hw) 1 gX5_reads_X5_layRest rfl ⟨rfl, rfl⟩ hdV_X5_layRest ⟨Nat.le_of_ble_eq_true rfl, Nat.le_of_ble_eq_true rfl⟩ (obF52 hF) rfl rfl rfl (Nat.le_of_ble_eq_true rfl) dX5_reads_24) 27 rfl (fun M5 hw => ?_)
      refine q_aload_n hC dX5_reads_27 0 rfl 28 rfl ?_
      refine q_getR (C := RX5) (T := TX5) (N := 26) (ci := 5) hC inX5_reads_X5 (obF52 hF) rfl 18 (by decide) (uX5_reads__X5_layRest _ (List.mem_of_getElem? (l := owX5_layRest) (i := 3) rfl)) rfl 62 (fun _ => rfl) dX5_reads_28 31 rfl ?_
      refine q_bipush (v := 8) hC dX5_reads_31 (by decide) 33 rfl ?_
      refine q_ialdL hC (arF62 hF) 8 (by decide +kernel) (by decide +kernel) dX5_reads_33 34 rfl ?_
      refine q_istore_n (L' := [(2, .int (M5 62 8)), (0, .ref (gA g 52)), (1, .int v1)]) hC dX5_reads_34 (by decide) rfl 35 rfl ?_
      refine q_aload_n hC dX5_reads_35 1 rfl 36 rfl ?_
      refine q_getI (C := RX5) (T := TX5) (N := 26) (ci := 5) hC inX5_reads_X5 (obF52 hF) rfl 20 (by decide) (uX5_reads__X5_layRest _ (List.mem_of_getElem? (l := owX5_layRest) (i := 1) rfl)) rfl (fun _ => rfl) dX5_reads_36 39 rfl ?_
      refine q_if_ne hC 53 dX5_reads_39 (by decide) 42 rfl hw (fun hw => ?_) (fun hw => ?_)
      · refine q_aload_n hC dX5_reads_53 1 rfl 54 rfl ?_
        refine q_aload_n hC dX5_reads_54 1 rfl 55 rfl ?_
        refine q_aload_n hC dX5_reads_55 1 rfl 56 rfl ?_
        refine q_getI (C := RX5) (T := TX5) (N := 26) (ci := 5) hC inX5_reads_X5 (obF52 hF) rfl 20 (by decide) (uX5_reads__X5_layRest _ (List.mem_of_getElem? (l := owX5_layRest) (i := 1) rfl)) rfl (fun _ => rfl) dX5_reads_56 59 rfl ?_
        refine q_iconst (v := 1) hC dX5_reads_59 rfl 60 rfl ?_
        refine q_isub hC dX5_reads_60 61 rfl ?_
        refine r_callI hC (go_V (q := (RX5, TX5, 26)) (As := [.int ((M5 52 20) - (1 : Int32))]) (rest := [.ref (gA g 52)]) hC (ctX5_nthOf (zl z) g M5 ((M5 52 20) - (1 : Int32)) _ hF hw) 1 gX5_reads_X5_nthOf rfl ⟨rfl, rfl⟩ hdV_X5_nthOf ⟨Nat.le_of_ble_eq_true rfl, Nat.le_of_ble_eq_true rfl⟩ (obF52 hF) rfl rfl rfl (Nat.le_of_ble_eq_true rfl) dX5_reads_61) 64 rfl (fun r6 M7 hw => ?_)
        refine r_callI hC (go_V (q := (RX5, TX5, 26)) (As := [.int r6]) (rest := []) hC (ctX5_endOf (zl z) g M7 r6 _ hF hw) 1 gX5_reads_X5_endOf rfl ⟨rfl, rfl⟩ hdV_X5_endOf ⟨Nat.le_of_ble_eq_true rfl, Nat.le_of_ble_eq_true rfl⟩ (obF52 hF) rfl rfl rfl (Nat.le_of_ble_eq_true rfl) dX5_reads_64) 67 rfl (fun r8 M9 hw => ?_)
        exact XX.sub [1, 0] rfl (B67 M9 (M5 62 8) r8 hw)
      · refine q_aload_n hC dX5_reads_42 1 rfl 43 rfl ?_
        refine q_getR (C := RX5) (T := TX5) (N := 26) (ci := 5) hC inX5_reads_X5 (obF52 hF) rfl 0 (by decide) (uX5_reads__X5_areBlocks _ (List.mem_of_getElem? (l := owX5_areBlocks) (i := 1) rfl)) rfl 53 (fun _ => rfl) dX5_reads_43 46 rfl ?_
        refine q_sipush (v := 325) hC dX5_reads_46 (by decide) 49 rfl ?_
        refine q_ialdL hC (arF53 hF) 325 (by decide +kernel) (by decide +kernel) dX5_reads_49 50 rfl ?_
        refine q_goto hC 67 dX5_reads_50 (by decide) ?_
        exact XX.sub [1, 0] rfl (B67 M5 (M5 62 8) (M5 53 325) hw)
    · refine q_bipush (v := (-2)) hC dX5_reads_19 (by decide) 21 rfl ?_
      exact r_iret hR dX5_reads_21 hw
  · refine q_iconst (v := (-1)) hC dX5_reads_8 rfl 9 rfl ?_
    exact r_iret hR dX5_reads_9 hw
theorem inX5_moves_X5 : ∀ w ∈ u_ws RX5 TX5 26, w ∈ wsX5_moves := uX5_moves__wsX50
set_option maxRecDepth 100000 in
set_option maxHeartbeats 4000000 in
theorem ctX5_moves (l : Launch) (g : GG) (M : MM) (v1 : Int32) (v2 : Int32) (v3 : Int32) (Q : MM → Prop) (hF : ful5 g) (hw : wX5_moves Q M v1 v2 v3) : MV g l yX5_moves wsX5_moves (rmOf 0 0) [.ref (gA g 52), .int v1, .int v2, .int v3] M Q := by
  refine mk_MV (cc := cX5_moves) (maxL := 5) (by decide) rfl (Nat.le_of_ble_eq_true rfl) ?_
  intro z Qf hC hR
  show XX z g Qf 5 0 [(0, .ref (gA g 52)), (1, .int v1), (2, .int v2), (3, .int v3)] [] M
  have B85 : ∀ (n : Nat) (M : MM) (v4 : Int32) , wX5_moves_85 Q v1 v2 v3 n M v4 → XX z g Qf 5 85 [(0, .ref (gA g 52)), (1, .int v1), (2, .int v2), (4, .int v4)] [] M := by
    intro n
    induction n with
    | zero =>
      intro M v4 hw
      exact hw.elim
    | succ n ih =>
      intro M v4 hw
      refine q_iload hC dX5_moves_85 3 rfl 87 rfl ?_
      refine q_bipush (v := 12) hC dX5_moves_87 (by decide) 89 rfl ?_
      refine q_icmp_ge hC 130 dX5_moves_89 (by decide) 92 rfl hw (fun hw => ?_) (fun hw => ?_)
      · exact r_vret hR dX5_moves_130 hw
      · refine q_aload_n hC dX5_moves_92 0 rfl 93 rfl ?_
        refine q_getR (C := RX5) (T := TX5) (N := 26) (ci := 5) hC inX5_moves_X5 (obF52 hF) rfl 0 (by decide) (uX5_moves__o _ (List.mem_of_getElem? (l := owX5_moves) (i := 1) rfl)) rfl 53 (fun _ => rfl) dX5_moves_93 96 rfl ?_
        refine q_sipush (v := 181) hC dX5_moves_96 (by decide) 99 rfl ?_
        refine q_bipush (v := 12) hC dX5_moves_99 (by decide) 101 rfl ?_
        refine q_iload_n hC dX5_moves_101 1 rfl 102 rfl ?_
        refine q_imul hC dX5_moves_102 103 rfl ?_
        refine q_iadd hC dX5_moves_103 104 rfl ?_
        refine q_iload hC dX5_moves_104 3 rfl 106 rfl ?_
        refine q_iadd hC dX5_moves_106 107 rfl ?_
        refine q_aload_n hC dX5_moves_107 0 rfl 108 rfl ?_
        refine q_getR (C := RX5) (T := TX5) (N := 26) (ci := 5) hC inX5_moves_X5 (obF52 hF) rfl 0 (by decide) (uX5_moves__o _ (List.mem_of_getElem? (l := owX5_moves) (i := 1) rfl)) rfl 53 (fun _ => rfl) dX5_moves_108 111 rfl ?_
        refine q_sipush (v := 181) hC dX5_moves_111 (by decide) 114 rfl ?_
        refine q_bipush (v := 12) hC dX5_moves_114 (by decide) 116 rfl ?_
        refine q_iload_n hC dX5_moves_116 2 rfl 117 rfl ?_
        refine q_imul hC dX5_moves_117 118 rfl ?_
        refine q_iadd hC dX5_moves_118 119 rfl ?_
        refine q_iload hC dX5_moves_119 3 rfl 121 rfl ?_
        refine q_iadd hC dX5_moves_121 122 rfl ?_
        obtain ⟨hin, hw⟩ := hw
        refine q_iald hC (arF53 hF) hin dX5_moves_122 123 rfl ?_
        obtain ⟨hin, hw⟩ := hw
        refine q_iast hC (arF53 hF) hin dX5_moves_123 124 rfl (fun M4 eM4 => ?_)
        have hw := hw M4 eM4
        refine q_iinc (v := v4 + 1) (L' := [(4, .int (v4 + 1)), (0, .ref (gA g 52)), (1, .int v1), (2, .int v2)]) hC dX5_moves_124 3 rfl rfl (by decide) rfl 127 rfl ?_
        refine q_goto hC 85 dX5_moves_127 (by decide) ?_
        exact XX.sub [1, 2, 3, 0] rfl (ih M4 (v4 + 1) hw)
  have B39 : ∀ (n : Nat) (M : MM) (v4 : Int32) , wX5_moves_39 Q v1 v2 v3 n M v4 → XX z g Qf 5 39 [(0, .ref (gA g 52)), (1, .int v1), (2, .int v2), (4, .int v4)] [] M := by
    intro n
    induction n with
    | zero =>
      intro M v4 hw
      exact hw.elim
    | succ n ih =>
      intro M v4 hw
      refine q_iload hC dX5_moves_39 3 rfl 41 rfl ?_
      refine q_bipush (v := 13) hC dX5_moves_41 (by decide) 43 rfl ?_
      refine q_icmp_ge hC 82 dX5_moves_43 (by decide) 46 rfl hw (fun hw => ?_) (fun hw => ?_)
      · refine q_iconst (v := 0) hC dX5_moves_82 rfl 83 rfl ?_
        refine q_istore (L' := [(4, .int 0), (0, .ref (gA g 52)), (1, .int v1), (2, .int v2)]) hC dX5_moves_83 (by decide) rfl 85 rfl ?_
        obtain ⟨n0, hw⟩ := hw
        exact XX.sub [1, 2, 3, 0] rfl (B85 n0 M 0 hw)
      · refine q_aload_n hC dX5_moves_46 0 rfl 47 rfl ?_
        refine q_getR (C := RX5) (T := TX5) (N := 26) (ci := 5) hC inX5_moves_X5 (obF52 hF) rfl 0 (by decide) (uX5_moves__o _ (List.mem_of_getElem? (l := owX5_moves) (i := 1) rfl)) rfl 53 (fun _ => rfl) dX5_moves_47 50 rfl ?_
        refine q_bipush (v := 25) hC dX5_moves_50 (by decide) 52 rfl ?_
        refine q_bipush (v := 13) hC dX5_moves_52 (by decide) 54 rfl ?_
        refine q_iload_n hC dX5_moves_54 1 rfl 55 rfl ?_
        refine q_imul hC dX5_moves_55 56 rfl ?_
        refine q_iadd hC dX5_moves_56 57 rfl ?_
        refine q_iload hC dX5_moves_57 3 rfl 59 rfl ?_
        refine q_iadd hC dX5_moves_59 60 rfl ?_
        refine q_aload_n hC dX5_moves_60 0 rfl 61 rfl ?_
        refine q_getR (C := RX5) (T := TX5) (N := 26) (ci := 5) hC inX5_moves_X5 (obF52 hF) rfl 0 (by decide) (uX5_moves__o _ (List.mem_of_getElem? (l := owX5_moves) (i := 1) rfl)) rfl 53 (fun _ => rfl) dX5_moves_61 64 rfl ?_
        refine q_bipush (v := 25) hC dX5_moves_64 (by decide) 66 rfl ?_
        refine q_bipush (v := 13) hC dX5_moves_66 (by decide) 68 rfl ?_
        refine q_iload_n hC dX5_moves_68 2 rfl 69 rfl ?_
        refine q_imul hC dX5_moves_69 70 rfl ?_
        refine q_iadd hC dX5_moves_70 71 rfl ?_
        refine q_iload hC dX5_moves_71 3 rfl 73 rfl ?_
        refine q_iadd hC dX5_moves_73 74 rfl ?_
        obtain ⟨hin, hw⟩ := hw
        refine q_iald hC (arF53 hF) hin dX5_moves_74 75 rfl ?_
        obtain ⟨hin, hw⟩ := hw
        refine q_iast hC (arF53 hF) hin dX5_moves_75 76 rfl (fun M3 eM3 => ?_)
        have hw := hw M3 eM3
        refine q_iinc (v := v4 + 1) (L' := [(4, .int (v4 + 1)), (0, .ref (gA g 52)), (1, .int v1), (2, .int v2)]) hC dX5_moves_76 3 rfl rfl (by decide) rfl 79 rfl ?_
        refine q_goto hC 39 dX5_moves_79 (by decide) ?_
        exact XX.sub [1, 2, 3, 0] rfl (ih M3 (v4 + 1) hw)
  refine q_aload_n hC dX5_moves_0 0 rfl 1 rfl ?_
  refine q_getR (C := RX5) (T := TX5) (N := 26) (ci := 5) hC inX5_moves_X5 (obF52 hF) rfl 0 (by decide) (uX5_moves__o _ (List.mem_of_getElem? (l := owX5_moves) (i := 1) rfl)) rfl 53 (fun _ => rfl) dX5_moves_1 4 rfl ?_
  refine q_iconst (v := 1) hC dX5_moves_4 rfl 5 rfl ?_
  refine q_iload_n hC dX5_moves_5 1 rfl 6 rfl ?_
  refine q_iadd hC dX5_moves_6 7 rfl ?_
  refine q_aload_n hC dX5_moves_7 0 rfl 8 rfl ?_
  refine q_getR (C := RX5) (T := TX5) (N := 26) (ci := 5) hC inX5_moves_X5 (obF52 hF) rfl 0 (by decide) (uX5_moves__o _ (List.mem_of_getElem? (l := owX5_moves) (i := 1) rfl)) rfl 53 (fun _ => rfl) dX5_moves_8 11 rfl ?_
  refine q_iconst (v := 1) hC dX5_moves_11 rfl 12 rfl ?_
  refine q_iload_n hC dX5_moves_12 2 rfl 13 rfl ?_
  refine q_iadd hC dX5_moves_13 14 rfl ?_
  obtain ⟨hin, hw⟩ := hw
  refine q_iald hC (arF53 hF) hin dX5_moves_14 15 rfl ?_
  refine q_iload_n hC dX5_moves_15 3 rfl 16 rfl ?_
  refine q_isub hC dX5_moves_16 17 rfl ?_
  obtain ⟨hin, hw⟩ := hw
  refine q_iast hC (arF53 hF) hin dX5_moves_17 18 rfl (fun M1 eM1 => ?_)
  have hw := hw M1 eM1
  refine q_aload_n hC dX5_moves_18 0 rfl 19 rfl ?_
  refine q_getR (C := RX5) (T := TX5) (N := 26) (ci := 5) hC inX5_moves_X5 (obF52 hF) rfl 0 (by decide) (uX5_moves__o _ (List.mem_of_getElem? (l := owX5_moves) (i := 1) rfl)) rfl 53 (fun _ => rfl) dX5_moves_19 22 rfl ?_
  refine q_bipush (v := 13) hC dX5_moves_22 (by decide) 24 rfl ?_
  refine q_iload_n hC dX5_moves_24 1 rfl 25 rfl ?_
  refine q_iadd hC dX5_moves_25 26 rfl ?_
  refine q_aload_n hC dX5_moves_26 0 rfl 27 rfl ?_
  refine q_getR (C := RX5) (T := TX5) (N := 26) (ci := 5) hC inX5_moves_X5 (obF52 hF) rfl 0 (by decide) (uX5_moves__o _ (List.mem_of_getElem? (l := owX5_moves) (i := 1) rfl)) rfl 53 (fun _ => rfl) dX5_moves_27 30 rfl ?_
  refine q_bipush (v := 13) hC dX5_moves_30 (by decide) 32 rfl ?_
  refine q_iload_n hC dX5_moves_32 2 rfl 33 rfl ?_
  refine q_iadd hC dX5_moves_33 34 rfl ?_
  obtain ⟨hin, hw⟩ := hw
  refine q_iald hC (arF53 hF) hin dX5_moves_34 35 rfl ?_
  obtain ⟨hin, hw⟩ := hw
  refine q_iast hC (arF53 hF) hin dX5_moves_35 36 rfl (fun M2 eM2 => ?_)
  have hw := hw M2 eM2
  refine q_iconst (v := 0) hC dX5_moves_36 rfl 37 rfl ?_
  refine q_istore (L' := [(4, .int 0), (0, .ref (gA g 52)), (1, .int v1), (2, .int v2), (3, .int v3)]) hC dX5_moves_37 (by decide) rfl 39 rfl ?_
  obtain ⟨n0, hw⟩ := hw
  exact XX.sub [1, 2, 3, 0] rfl (B39 n0 M2 0 hw)
theorem hdV_X5_moves : yX5_moves.cls = RX5 ∧ yX5_moves.cls ≠ "java/lang/invoke/MethodHandle" ∧ yX5_moves.cls ≠ "java/lang/invoke/VarHandle" ∧ (parseMethodDescriptor yX5_moves.desc).map (fun d => d.parameters.length) = some 3 := by decide +kernel
theorem inX5_cut_X5 : ∀ w ∈ u_ws RX5 TX5 26, w ∈ wsX5_cut := uX5_cut__wsX50
set_option maxRecDepth 100000 in
set_option maxHeartbeats 4000000 in
theorem ctX5_cut (l : Launch) (g : GG) (M : MM) (v1 : Int32) (v2 : Int32) (Q : Int32 → MM → Prop) (hF : ful5 g) (hw : wX5_cut Q M v1 v2) : MI g l yX5_cut wsX5_cut (rmOf 2 46) [.ref (gA g 52), .int v1, .int v2] M Q := by
  refine mk_MI (cc := cX5_cut) (maxL := 7) (by decide) rfl (Nat.le_of_ble_eq_true rfl) ?_
  intro z Qf hC hR
  show XX z g Qf 7 0 [(0, .ref (gA g 52)), (1, .int v1), (2, .int v2)] [] M
  have B191 : ∀ (M : MM) (v3 : Int32) (v4 : Int32) (p0 : Int32) (p1 : Int32), wX5_cut_191 Q v1 v2 M v3 v4 p0 p1 → XX z g Qf 7 191 [(0, .ref (gA g 52)), (1, .int v1), (2, .int v2), (3, .int v3), (4, .int v4)] [.int p0, .int p1, .ref (gA g 53)] M := by
    intro M v3 v4 p0 p1 hw
    obtain ⟨hin, hw⟩ := hw
    refine q_iast hC (arF53 hF) hin dX5_cut_191 192 rfl (fun M8 eM8 => ?_)
    have hw := hw M8 eM8
    refine q_aload_n hC dX5_cut_192 0 rfl 193 rfl ?_
    refine q_getR (C := RX5) (T := TX5) (N := 26) (ci := 5) hC inX5_cut_X5 (obF52 hF) rfl 0 (by decide) (uX5_cut__X5_isPlace _ (List.mem_of_getElem? (l := owX5_isPlace) (i := 1) rfl)) rfl 53 (fun _ => rfl) dX5_cut_193 196 rfl ?_
    refine q_sipush (v := 366) hC dX5_cut_196 (by decide) 199 rfl ?_
    refine q_dup2 hC dX5_cut_199 rfl rfl 200 rfl ?_
    refine q_ialdL hC (arF53 hF) 366 (by decide +kernel) (by decide +kernel) dX5_cut_200 201 rfl ?_
    refine q_iload_n hC dX5_cut_201 2 rfl 202 rfl ?_
    refine q_iload_n hC dX5_cut_202 1 rfl 203 rfl ?_
    refine q_isub hC dX5_cut_203 204 rfl ?_
    refine q_isub hC dX5_cut_204 205 rfl ?_
    refine q_iastL hC (arF53 hF) 366 (by decide +kernel) (by decide +kernel) dX5_cut_205 206 rfl (fun M9 eM9 => ?_)
    have hw := hw M9 eM9
    refine q_iload hC dX5_cut_206 4 rfl 208 rfl ?_
    refine q_iload_n hC dX5_cut_208 3 rfl 209 rfl ?_
    refine q_isub hC dX5_cut_209 210 rfl ?_
    exact r_iret hR dX5_cut_210 hw
  have B120 : ∀ (K56 : MM → Int32 → Int32 → Int32 → Prop) (hK56 : ∀ (M : MM) (v3 : Int32) (v4 : Int32) (v5 : Int32) , K56 M v3 v4 v5 → XX z g Qf 7 56 [(0, .ref (gA g 52)), (1, .int v1), (2, .int v2), (3, .int v3), (4, .int v4), (5, .int v5)] [] M) (M : MM) (v3 : Int32) (v4 : Int32) (v5 : Int32), wX5_cut_120 Q K56 v1 v2 M v3 v4 v5 → XX z g Qf 7 120 [(0, .ref (gA g 52)), (1, .int v1), (2, .int v2), (3, .int v3), (4, .int v4), (5, .int v5)] [] M := by
    intro K56 hK56 M v3 v4 v5 hw
    refine q_iinc (v := v5 + 1) (L' := [(5, .int (v5 + 1)), (0, .ref (gA g 52)), (1, .int v1), (2, .int v2), (3, .int v3), (4, .int v4)]) hC dX5_cut_120 5 rfl rfl (by decide) rfl 123 rfl ?_
    refine q_goto hC 56 dX5_cut_123 (by decide) ?_
    exact XX.sub [1, 2, 3, 4, 5, 0] rfl (hK56 M v3 v4 (v5 + 1) hw)
  have B114 : ∀ (K56 : MM → Int32 → Int32 → Int32 → Prop) (hK56 : ∀ (M : MM) (v3 : Int32) (v4 : Int32) (v5 : Int32) , K56 M v3 v4 v5 → XX z g Qf 7 56 [(0, .ref (gA g 52)), (1, .int v1), (2, .int v2), (3, .int v3), (4, .int v4), (5, .int v5)] [] M) (M : MM) (v3 : Int32) (v4 : Int32) (v5 : Int32) (p0 : Int32) (p1 : Int32) (p2 : Int32), wX5_cut_114 Q K56 v1 v2 M v3 v4 v5 p0 p1 p2 → XX z g Qf 7 114 [(0, .ref (gA g 52)), (1, .int v1), (2, .int v2), (3, .int v3), (4, .int v4), (5, .int v5)] [.int p0, .int p1, .int p2, .ref (gA g 52)] M := by
    intro K56 hK56 M v3 v4 v5 p0 p1 p2 hw
    refine r_callV hC (go_V (q := (RX5, TX5, 26)) (As := [.int p2, .int p1, .int p0]) (rest := []) hC (ctX5_moves (zl z) g M p2 p1 p0 _ hF hw) 3 gX5_cut_X5_moves rfl ⟨rfl, rfl⟩ hdV_X5_moves ⟨Nat.le_of_ble_eq_true rfl, Nat.le_of_ble_eq_true rfl⟩ (obF52 hF) rfl rfl rfl (Nat.le_of_ble_eq_true rfl) dX5_cut_114) 117 rfl (fun M10 hw => ?_)
    refine q_iinc (v := v3 + 1) (L' := [(3, .int (v3 + 1)), (0, .ref (gA g 52)), (1, .int v1), (2, .int v2), (4, .int v4), (5, .int v5)]) hC dX5_cut_117 3 rfl rfl (by decide) rfl 120 rfl ?_
    exact XX.sub [1, 2, 3, 0, 4, 5] rfl (B120 _ hK56 M10 (v3 + 1) v4 v5 hw)
  have B98 : ∀ (K56 : MM → Int32 → Int32 → Int32 → Prop) (hK56 : ∀ (M : MM) (v3 : Int32) (v4 : Int32) (v5 : Int32) , K56 M v3 v4 v5 → XX z g Qf 7 56 [(0, .ref (gA g 52)), (1, .int v1), (2, .int v2), (3, .int v3), (4, .int v4), (5, .int v5)] [] M) (M : MM) (v3 : Int32) (v4 : Int32) (v5 : Int32) (v6 : Int32), wX5_cut_98 Q K56 v1 v2 M v3 v4 v5 v6 → XX z g Qf 7 98 [(0, .ref (gA g 52)), (1, .int v1), (2, .int v2), (3, .int v3), (4, .int v4), (5, .int v5), (6, .int v6)] [] M := by
    intro K56 hK56 M v3 v4 v5 v6 hw
    refine q_aload_n hC dX5_cut_98 0 rfl 99 rfl ?_
    refine q_iload_n hC dX5_cut_99 3 rfl 100 rfl ?_
    refine q_iload hC dX5_cut_100 5 rfl 102 rfl ?_
    refine q_iload hC dX5_cut_102 6 rfl 104 rfl ?_
    refine q_if_eq hC 113 dX5_cut_104 (by decide) 107 rfl hw (fun hw => ?_) (fun hw => ?_)
    · refine q_iconst (v := 0) hC dX5_cut_113 rfl 114 rfl ?_
      exact XX.sub [0, 1, 2, 3, 4, 5] rfl (B114 _ hK56 M v3 v4 v5 0 v5 v3 hw)
    · refine q_iload_n hC dX5_cut_107 2 rfl 108 rfl ?_
      refine q_iload_n hC dX5_cut_108 1 rfl 109 rfl ?_
      refine q_isub hC dX5_cut_109 110 rfl ?_
      refine q_goto hC 114 dX5_cut_110 (by decide) ?_
      exact XX.sub [0, 1, 2, 3, 4, 5] rfl (B114 _ hK56 M v3 v4 v5 (v2 - v1) v5 v3 hw)
  have B81 : ∀ (K56 : MM → Int32 → Int32 → Int32 → Prop) (hK56 : ∀ (M : MM) (v3 : Int32) (v4 : Int32) (v5 : Int32) , K56 M v3 v4 v5 → XX z g Qf 7 56 [(0, .ref (gA g 52)), (1, .int v1), (2, .int v2), (3, .int v3), (4, .int v4), (5, .int v5)] [] M) (M : MM) (v3 : Int32) (v4 : Int32) (v5 : Int32) (p0 : Int32), wX5_cut_81 Q K56 v1 v2 M v3 v4 v5 p0 → XX z g Qf 7 81 [(0, .ref (gA g 52)), (1, .int v1), (2, .int v2), (3, .int v3), (4, .int v4), (5, .int v5)] [.int p0] M := by
    intro K56 hK56 M v3 v4 v5 p0 hw
    refine q_istore (L' := [(6, .int p0), (0, .ref (gA g 52)), (1, .int v1), (2, .int v2), (3, .int v3), (4, .int v4), (5, .int v5)]) hC dX5_cut_81 (by decide) rfl 83 rfl ?_
    refine q_iload hC dX5_cut_83 0 rfl 85 rfl ?_
    refine q_if_ne hC 98 dX5_cut_85 (by decide) 88 rfl hw (fun hw => ?_) (fun hw => ?_)
    · exact XX.sub [1, 2, 3, 4, 5, 6, 0] rfl (B98 _ hK56 M v3 v4 v5 p0 hw)
    · refine q_aload_n hC dX5_cut_88 1 rfl 89 rfl ?_
      refine q_iload hC dX5_cut_89 6 rfl 91 rfl ?_
      refine r_callI hC (go_V (q := (RX5, TX5, 26)) (As := [.int v5]) (rest := []) hC (ctX5_endOf (zl z) g M v5 _ hF hw) 1 gX5_cut_X5_endOf rfl ⟨rfl, rfl⟩ hdV_X5_endOf ⟨Nat.le_of_ble_eq_true rfl, Nat.le_of_ble_eq_true rfl⟩ (obF52 hF) rfl rfl rfl (Nat.le_of_ble_eq_true rfl) dX5_cut_91) 94 rfl (fun r6 M7 hw => ?_)
      refine q_iload_n hC dX5_cut_94 2 rfl 95 rfl ?_
      refine q_icmp_gt hC 120 dX5_cut_95 (by decide) 98 rfl hw (fun hw => ?_) (fun hw => ?_)
      · exact XX.sub [1, 2, 3, 4, 5, 6] rfl (B120 _ hK56 M7 v3 v4 v5 hw)
      · exact XX.sub [1, 2, 3, 4, 5, 6, 0] rfl (B98 _ hK56 M7 v3 v4 v5 p0 hw)
  have B56 : ∀ (n : Nat) (M : MM) (v3 : Int32) (v4 : Int32) (v5 : Int32) , wX5_cut_56 Q v1 v2 n M v3 v4 v5 → XX z g Qf 7 56 [(0, .ref (gA g 52)), (1, .int v1), (2, .int v2), (3, .int v3), (4, .int v4), (5, .int v5)] [] M := by
    intro n
    induction n with
    | zero =>
      intro M v3 v4 v5 hw
      exact hw.elim
    | succ n ih =>
      intro M v3 v4 v5 hw
      refine q_iload hC dX5_cut_56 5 rfl 58 rfl ?_
      refine q_iload hC dX5_cut_58 4 rfl 60 rfl ?_
      refine q_icmp_ge hC 126 dX5_cut_60 (by decide) 63 rfl hw (fun hw => ?_) (fun hw => ?_)
      · refine q_aload_n hC dX5_cut_126 0 rfl 127 rfl ?_
        refine q_getR (C := RX5) (T := TX5) (N := 26) (ci := 5) hC inX5_cut_X5 (obF52 hF) rfl 0 (by decide) (uX5_cut__X5_isPlace _ (List.mem_of_getElem? (l := owX5_isPlace) (i := 1) rfl)) rfl 53 (fun _ => rfl) dX5_cut_127 130 rfl ?_
        refine q_iconst (v := 0) hC dX5_cut_130 rfl 131 rfl ?_
        refine q_iload_n hC dX5_cut_131 3 rfl 132 rfl ?_
        refine q_iastL hC (arF53 hF) 0 (by decide +kernel) (by decide +kernel) dX5_cut_132 133 rfl (fun M5 eM5 => ?_)
        have hw := hw M5 eM5
        refine q_aload_n hC dX5_cut_133 0 rfl 134 rfl ?_
        refine q_getR (C := RX5) (T := TX5) (N := 26) (ci := 5) hC inX5_cut_X5 (obF52 hF) rfl 0 (by decide) (uX5_cut__X5_isPlace _ (List.mem_of_getElem? (l := owX5_isPlace) (i := 1) rfl)) rfl 53 (fun _ => rfl) dX5_cut_134 137 rfl ?_
        refine q_sipush (v := 325) hC dX5_cut_137 (by decide) 140 rfl ?_
        refine q_aload_n hC dX5_cut_140 0 rfl 141 rfl ?_
        refine q_getR (C := RX5) (T := TX5) (N := 26) (ci := 5) hC inX5_cut_X5 (obF52 hF) rfl 0 (by decide) (uX5_cut__X5_isPlace _ (List.mem_of_getElem? (l := owX5_isPlace) (i := 1) rfl)) rfl 53 (fun _ => rfl) dX5_cut_141 144 rfl ?_
        refine q_sipush (v := 325) hC dX5_cut_144 (by decide) 147 rfl ?_
        refine q_ialdL hC (arF53 hF) 325 (by decide +kernel) (by decide +kernel) dX5_cut_147 148 rfl ?_
        refine q_iload_n hC dX5_cut_148 2 rfl 149 rfl ?_
        refine q_icmp_lt hC 167 dX5_cut_149 (by decide) 152 rfl hw (fun hw => ?_) (fun hw => ?_)
        · refine q_aload_n hC dX5_cut_167 0 rfl 168 rfl ?_
          refine q_getR (C := RX5) (T := TX5) (N := 26) (ci := 5) hC inX5_cut_X5 (obF52 hF) rfl 0 (by decide) (uX5_cut__X5_isPlace _ (List.mem_of_getElem? (l := owX5_isPlace) (i := 1) rfl)) rfl 53 (fun _ => rfl) dX5_cut_168 171 rfl ?_
          refine q_sipush (v := 325) hC dX5_cut_171 (by decide) 174 rfl ?_
          refine q_ialdL hC (arF53 hF) 325 (by decide +kernel) (by decide +kernel) dX5_cut_174 175 rfl ?_
          refine q_iload_n hC dX5_cut_175 1 rfl 176 rfl ?_
          refine q_icmp_le hC 183 dX5_cut_176 (by decide) 179 rfl hw (fun hw => ?_) (fun hw => ?_)
          · refine q_aload_n hC dX5_cut_183 0 rfl 184 rfl ?_
            refine q_getR (C := RX5) (T := TX5) (N := 26) (ci := 5) hC inX5_cut_X5 (obF52 hF) rfl 0 (by decide) (uX5_cut__X5_isPlace _ (List.mem_of_getElem? (l := owX5_isPlace) (i := 1) rfl)) rfl 53 (fun _ => rfl) dX5_cut_184 187 rfl ?_
            refine q_sipush (v := 325) hC dX5_cut_187 (by decide) 190 rfl ?_
            refine q_ialdL hC (arF53 hF) 325 (by decide +kernel) (by decide +kernel) dX5_cut_190 191 rfl ?_
            exact XX.sub [0, 1, 2, 3, 4] rfl (B191 M5 v3 v4 (M5 53 325) 325 hw)
          · refine q_iload_n hC dX5_cut_179 1 rfl 180 rfl ?_
            refine q_goto hC 191 dX5_cut_180 (by decide) ?_
            exact XX.sub [0, 1, 2, 3, 4] rfl (B191 M5 v3 v4 v1 325 hw)
        · refine q_aload_n hC dX5_cut_152 0 rfl 153 rfl ?_
          refine q_getR (C := RX5) (T := TX5) (N := 26) (ci := 5) hC inX5_cut_X5 (obF52 hF) rfl 0 (by decide) (uX5_cut__X5_isPlace _ (List.mem_of_getElem? (l := owX5_isPlace) (i := 1) rfl)) rfl 53 (fun _ => rfl) dX5_cut_153 156 rfl ?_
          refine q_sipush (v := 325) hC dX5_cut_156 (by decide) 159 rfl ?_
          refine q_ialdL hC (arF53 hF) 325 (by decide +kernel) (by decide +kernel) dX5_cut_159 160 rfl ?_
          refine q_iload_n hC dX5_cut_160 2 rfl 161 rfl ?_
          refine q_iload_n hC dX5_cut_161 1 rfl 162 rfl ?_
          refine q_isub hC dX5_cut_162 163 rfl ?_
          refine q_isub hC dX5_cut_163 164 rfl ?_
          refine q_goto hC 191 dX5_cut_164 (by decide) ?_
          exact XX.sub [0, 1, 2, 3, 4] rfl (B191 M5 v3 v4 ((M5 53 325) - (v2 - v1)) 325 hw)
      · refine q_aload_n hC dX5_cut_63 0 rfl 64 rfl ?_
        refine q_getR (C := RX5) (T := TX5) (N := 26) (ci := 5) hC inX5_cut_X5 (obF52 hF) rfl 0 (by decide) (uX5_cut__X5_isPlace _ (List.mem_of_getElem? (l := owX5_isPlace) (i := 1) rfl)) rfl 53 (fun _ => rfl) dX5_cut_64 67 rfl ?_
        refine q_iconst (v := 1) hC dX5_cut_67 rfl 68 rfl ?_
        refine q_iload hC dX5_cut_68 5 rfl 70 rfl ?_
        refine q_iadd hC dX5_cut_70 71 rfl ?_
        obtain ⟨hin, hw⟩ := hw
        refine q_iald hC (arF53 hF) hin dX5_cut_71 72 rfl ?_
        refine q_iload_n hC dX5_cut_72 2 rfl 73 rfl ?_
        refine q_icmp_lt hC 80 dX5_cut_73 (by decide) 76 rfl hw (fun hw => ?_) (fun hw => ?_)
        · refine q_iconst (v := 0) hC dX5_cut_80 rfl 81 rfl ?_
          exact XX.sub [0, 1, 2, 3, 4, 5] rfl (B81 _ (fun M v3 v4 v5 hw => ih M v3 v4 v5 hw) M v3 v4 v5 0 hw)
        · refine q_iconst (v := 1) hC dX5_cut_76 rfl 77 rfl ?_
          refine q_goto hC 81 dX5_cut_77 (by decide) ?_
          exact XX.sub [0, 1, 2, 3, 4, 5] rfl (B81 _ (fun M v3 v4 v5 hw => ih M v3 v4 v5 hw) M v3 v4 v5 1 hw)
  refine q_aload_n hC dX5_cut_0 0 rfl 1 rfl ?_
  refine q_iload_n hC dX5_cut_1 1 rfl 2 rfl ?_
  refine r_callI hC (go_V (q := (RX5, TX5, 26)) (As := [.int v1]) (rest := []) hC (ctX5_isPlace (zl z) g M v1 _ hF hw) 1 gX5_cut_X5_isPlace rfl ⟨rfl, rfl⟩ hdV_X5_isPlace ⟨Nat.le_of_ble_eq_true rfl, Nat.le_of_ble_eq_true rfl⟩ (obF52 hF) rfl rfl rfl (Nat.le_of_ble_eq_true rfl) dX5_cut_2) 5 rfl (fun r1 M2 hw => ?_)
  refine q_if_eq hC 21 dX5_cut_5 (by decide) 8 rfl hw (fun hw => ?_) (fun hw => ?_)
  · refine q_iconst (v := (-1)) hC dX5_cut_21 rfl 22 rfl ?_
    exact r_iret hR dX5_cut_22 hw
  · refine q_aload_n hC dX5_cut_8 0 rfl 9 rfl ?_
    refine q_iload_n hC dX5_cut_9 2 rfl 10 rfl ?_
    refine r_callI hC (go_V (q := (RX5, TX5, 26)) (As := [.int v2]) (rest := []) hC (ctX5_isPlace (zl z) g M2 v2 _ hF hw) 1 gX5_cut_X5_isPlace rfl ⟨rfl, rfl⟩ hdV_X5_isPlace ⟨Nat.le_of_ble_eq_true rfl, Nat.le_of_ble_eq_true rfl⟩ (obF52 hF) rfl rfl rfl (Nat.le_of_ble_eq_true rfl) dX5_cut_10) 13 rfl (fun r3 M4 hw => ?_)
    refine q_if_eq hC 21 dX5_cut_13 (by decide) 16 rfl hw (fun hw => ?_) (fun hw => ?_)
    · refine q_iconst (v := (-1)) hC dX5_cut_21 rfl 22 rfl ?_
      exact r_iret hR dX5_cut_22 hw
    · refine q_iload_n hC dX5_cut_16 2 rfl 17 rfl ?_
      refine q_iload_n hC dX5_cut_17 1 rfl 18 rfl ?_
      refine q_icmp_gt hC 23 dX5_cut_18 (by decide) 21 rfl hw (fun hw => ?_) (fun hw => ?_)
      · refine q_aload_n hC dX5_cut_23 0 rfl 24 rfl ?_
        refine q_getR (C := RX5) (T := TX5) (N := 26) (ci := 5) hC inX5_cut_X5 (obF52 hF) rfl 0 (by decide) (uX5_cut__X5_isPlace _ (List.mem_of_getElem? (l := owX5_isPlace) (i := 1) rfl)) rfl 53 (fun _ => rfl) dX5_cut_24 27 rfl ?_
        refine q_sipush (v := 366) hC dX5_cut_27 (by decide) 30 rfl ?_
        refine q_ialdL hC (arF53 hF) 366 (by decide +kernel) (by decide +kernel) dX5_cut_30 31 rfl ?_
        refine q_iload_n hC dX5_cut_31 2 rfl 32 rfl ?_
        refine q_iload_n hC dX5_cut_32 1 rfl 33 rfl ?_
        refine q_isub hC dX5_cut_33 34 rfl ?_
        refine q_isub hC dX5_cut_34 35 rfl ?_
        refine q_bipush (v := 20) hC dX5_cut_35 (by decide) 37 rfl ?_
        refine q_icmp_ge hC 43 dX5_cut_37 (by decide) 40 rfl hw (fun hw => ?_) (fun hw => ?_)
        · refine q_iconst (v := 0) hC dX5_cut_43 rfl 44 rfl ?_
          refine q_istore_n (L' := [(3, .int 0), (0, .ref (gA g 52)), (1, .int v1), (2, .int v2)]) hC dX5_cut_44 (by decide) rfl 45 rfl ?_
          refine q_aload_n hC dX5_cut_45 1 rfl 46 rfl ?_
          refine q_getR (C := RX5) (T := TX5) (N := 26) (ci := 5) hC inX5_cut_X5 (obF52 hF) rfl 0 (by decide) (uX5_cut__X5_isPlace _ (List.mem_of_getElem? (l := owX5_isPlace) (i := 1) rfl)) rfl 53 (fun _ => rfl) dX5_cut_46 49 rfl ?_
          refine q_iconst (v := 0) hC dX5_cut_49 rfl 50 rfl ?_
          refine q_ialdL hC (arF53 hF) 0 (by decide +kernel) (by decide +kernel) dX5_cut_50 51 rfl ?_
          refine q_istore (L' := [(4, .int (M4 53 0)), (3, .int 0), (0, .ref (gA g 52)), (1, .int v1), (2, .int v2)]) hC dX5_cut_51 (by decide) rfl 53 rfl ?_
          refine q_iconst (v := 0) hC dX5_cut_53 rfl 54 rfl ?_
          refine q_istore (L' := [(5, .int 0), (4, .int (M4 53 0)), (3, .int 0), (0, .ref (gA g 52)), (1, .int v1), (2, .int v2)]) hC dX5_cut_54 (by decide) rfl 56 rfl ?_
          obtain ⟨n0, hw⟩ := hw
          exact XX.sub [3, 4, 5, 2, 1, 0] rfl (B56 n0 M4 0 (M4 53 0) 0 hw)
        · refine q_bipush (v := (-2)) hC dX5_cut_40 (by decide) 42 rfl ?_
          exact r_iret hR dX5_cut_42 hw
      · refine q_iconst (v := (-1)) hC dX5_cut_21 rfl 22 rfl ?_
        exact r_iret hR dX5_cut_22 hw
theorem inX5_holdsOf_X5 : ∀ w ∈ u_ws RX5 TX5 26, w ∈ wsX5_holdsOf := uX5_holdsOf__wsX50
set_option maxRecDepth 100000 in
set_option maxHeartbeats 4000000 in
theorem ctX5_holdsOf (l : Launch) (g : GG) (M : MM) (v1 : Int32) (Q : Int32 → MM → Prop) (hF : ful5 g) (hw : wX5_holdsOf Q M v1) : MI g l yX5_holdsOf wsX5_holdsOf (rmOf 1 21) [.ref (gA g 52), .int v1] M Q := by
  refine mk_MI (cc := cX5_holdsOf) (maxL := 2) (by decide) rfl (Nat.le_of_ble_eq_true rfl) ?_
  intro z Qf hC hR
  show XX z g Qf 2 0 [(0, .ref (gA g 52)), (1, .int v1)] [] M
  refine q_aload_n hC dX5_holdsOf_0 0 rfl 1 rfl ?_
  refine q_getR (C := RX5) (T := TX5) (N := 26) (ci := 5) hC inX5_holdsOf_X5 (obF52 hF) rfl 0 (by decide) (uX5_holdsOf__o _ (List.mem_of_getElem? (l := owX5_holdsOf) (i := 1) rfl)) rfl 53 (fun _ => rfl) dX5_holdsOf_1 4 rfl ?_
  refine q_sipush (v := 366) hC dX5_holdsOf_4 (by decide) 7 rfl ?_
  refine q_ialdL hC (arF53 hF) 366 (by decide +kernel) (by decide +kernel) dX5_holdsOf_7 8 rfl ?_
  refine q_aload_n hC dX5_holdsOf_8 0 rfl 9 rfl ?_
  refine q_getR (C := RX5) (T := TX5) (N := 26) (ci := 5) hC inX5_holdsOf_X5 (obF52 hF) rfl 2 (by decide) (uX5_holdsOf__X5_longOf _ (List.mem_of_getElem? (l := owX5_longOf) (i := 1) rfl)) rfl 55 (fun _ => rfl) dX5_holdsOf_9 12 rfl ?_
  refine q_bipush (v := 6) hC dX5_holdsOf_12 (by decide) 14 rfl ?_
  refine q_ialdL hC (arF55 hF) 6 (by decide +kernel) (by decide +kernel) dX5_holdsOf_14 15 rfl ?_
  refine q_aload_n hC dX5_holdsOf_15 0 rfl 16 rfl ?_
  refine q_iload_n hC dX5_holdsOf_16 1 rfl 17 rfl ?_
  refine r_callI hC (go_V (q := (RX5, TX5, 26)) (As := [.int v1]) (rest := [.int (M 55 6), .int (M 53 366)]) hC (ctX5_longOf (zl z) g M v1 _ hF hw) 1 gX5_holdsOf_X5_longOf rfl ⟨rfl, rfl⟩ hdV_X5_longOf ⟨Nat.le_of_ble_eq_true rfl, Nat.le_of_ble_eq_true rfl⟩ (obF52 hF) rfl rfl rfl (Nat.le_of_ble_eq_true rfl) dX5_holdsOf_17) 20 rfl (fun r1 M2 hw => ?_)
  refine q_iadd hC dX5_holdsOf_20 21 rfl ?_
  obtain ⟨hne, hw⟩ := hw
  refine q_idiv hC dX5_holdsOf_21 hne 22 rfl ?_
  exact r_iret hR dX5_holdsOf_22 hw
theorem hdV_X5_holdsOf : yX5_holdsOf.cls = RX5 ∧ yX5_holdsOf.cls ≠ "java/lang/invoke/MethodHandle" ∧ yX5_holdsOf.cls ≠ "java/lang/invoke/VarHandle" ∧ (parseMethodDescriptor yX5_holdsOf.desc).map (fun d => d.parameters.length) = some 1 := by decide +kernel
set_option maxRecDepth 100000 in
set_option maxHeartbeats 4000000 in
theorem ctX5_holds (l : Launch) (g : GG) (M : MM) (v1 : Int32) (Q : Int32 → MM → Prop) (hF : ful5 g) (hw : wX5_holds Q M v1) : MI g l yX5_holds wsX5_holds (rmOf 2 42) [.ref (gA g 52), .int v1] M Q := by
  refine mk_MI (cc := cX5_holds) (maxL := 2) (by decide) rfl (Nat.le_of_ble_eq_true rfl) ?_
  intro z Qf hC hR
  show XX z g Qf 2 0 [(0, .ref (gA g 52)), (1, .int v1)] [] M
  refine q_iload_n hC dX5_holds_0 1 rfl 1 rfl ?_
  refine q_i2l hC dX5_holds_1 2 rfl ?_
  refine q_lconst (v := 1) hC dX5_holds_2 rfl 3 rfl ?_
  refine q_ldc2 (v := 99) hC (uX5_holds__o _ (List.mem_of_getElem? (l := owX5_holds) (i := 1) rfl)) dX5_holds_3 6 rfl ?_
  refine r_callI hC (go_T (As := [.long (v1.toInt64), .long 1, .long 99]) (rest := []) hC (ctX5_in (zl z) g M (v1.toInt64) 1 99 _ hw) 3 gX5_holds_X5_in rfl ⟨rfl, rfl⟩ hdT_X5_in ⟨Nat.le_of_ble_eq_true rfl, Nat.le_of_ble_eq_true rfl⟩ rfl rfl (Nat.le_of_ble_eq_true rfl) dX5_holds_6) 9 rfl (fun r1 M2 hw => ?_)
  refine q_if_eq hC 20 dX5_holds_9 (by decide) 12 rfl hw (fun hw => ?_) (fun hw => ?_)
  · refine q_iconst (v := (-1)) hC dX5_holds_20 rfl 21 rfl ?_
    exact r_iret hR dX5_holds_21 hw
  · refine q_aload_n hC dX5_holds_12 0 rfl 13 rfl ?_
    refine q_iload_n hC dX5_holds_13 1 rfl 14 rfl ?_
    refine r_callI hC (go_V (q := (RX5, TX5, 26)) (As := [.int v1]) (rest := []) hC (ctX5_holdsOf (zl z) g M2 v1 _ hF hw) 1 gX5_holds_X5_holdsOf rfl ⟨rfl, rfl⟩ hdV_X5_holdsOf ⟨Nat.le_of_ble_eq_true rfl, Nat.le_of_ble_eq_true rfl⟩ (obF52 hF) rfl rfl rfl (Nat.le_of_ble_eq_true rfl) dX5_holds_14) 17 rfl (fun r3 M4 hw => ?_)
    refine q_goto hC 21 dX5_holds_17 (by decide) ?_
    exact r_iret hR dX5_holds_21 hw
set_option maxRecDepth 100000 in
set_option maxHeartbeats 4000000 in
theorem ctX5_most (l : Launch) (g : GG) (M : MM) (v1 : Int32) (Q : Int32 → MM → Prop) (hF : ful5 g) (hw : wX5_most Q M v1) : MI g l yX5_most wsX5_most (rmOf 2 42) [.ref (gA g 52), .int v1] M Q := by
  refine mk_MI (cc := cX5_most) (maxL := 4) (by decide) rfl (Nat.le_of_ble_eq_true rfl) ?_
  intro z Qf hC hR
  show XX z g Qf 4 0 [(0, .ref (gA g 52)), (1, .int v1)] [] M
  have B44 : ∀ (K16 : MM → Int32 → Int32 → Prop) (hK16 : ∀ (M : MM) (v2 : Int32) (v3 : Int32) , K16 M v2 v3 → XX z g Qf 4 16 [(0, .ref (gA g 52)), (1, .int v1), (2, .int v2), (3, .int v3)] [] M) (M : MM) (v3 : Int32) (p0 : Int32), wX5_most_44 Q K16 v1 M v3 p0 → XX z g Qf 4 44 [(0, .ref (gA g 52)), (1, .int v1), (3, .int v3)] [.int p0] M := by
    intro K16 hK16 M v3 p0 hw
    refine q_istore_n (L' := [(2, .int p0), (0, .ref (gA g 52)), (1, .int v1), (3, .int v3)]) hC dX5_most_44 (by decide) rfl 45 rfl ?_
    refine q_iinc (v := v3 + 1) (L' := [(3, .int (v3 + 1)), (2, .int p0), (0, .ref (gA g 52)), (1, .int v1)]) hC dX5_most_45 3 rfl rfl (by decide) rfl 48 rfl ?_
    refine q_goto hC 16 dX5_most_48 (by decide) ?_
    exact XX.sub [2, 3, 1, 0] rfl (hK16 M p0 (v3 + 1) hw)
  have B16 : ∀ (n : Nat) (M : MM) (v2 : Int32) (v3 : Int32) , wX5_most_16 Q v1 n M v2 v3 → XX z g Qf 4 16 [(0, .ref (gA g 52)), (1, .int v1), (2, .int v2), (3, .int v3)] [] M := by
    intro n
    induction n with
    | zero =>
      intro M v2 v3 hw
      exact hw.elim
    | succ n ih =>
      intro M v2 v3 hw
      refine q_iload_n hC dX5_most_16 3 rfl 17 rfl ?_
      refine q_bipush (v := 100) hC dX5_most_17 (by decide) 19 rfl ?_
      refine q_icmp_ge hC 51 dX5_most_19 (by decide) 22 rfl hw (fun hw => ?_) (fun hw => ?_)
      · refine q_iload_n hC dX5_most_51 1 rfl 52 rfl ?_
        refine q_if_ne hC 59 dX5_most_52 (by decide) 55 rfl hw (fun hw => ?_) (fun hw => ?_)
        · refine q_iload_n hC dX5_most_59 2 rfl 60 rfl ?_
          refine q_aload_n hC dX5_most_60 0 rfl 61 rfl ?_
          refine q_iload_n hC dX5_most_61 2 rfl 62 rfl ?_
          refine r_callI hC (go_V (q := (RX5, TX5, 26)) (As := [.int v2]) (rest := [.int v2]) hC (ctX5_holdsOf (zl z) g M v2 _ hF hw) 1 gX5_most_X5_holdsOf rfl ⟨rfl, rfl⟩ hdV_X5_holdsOf ⟨Nat.le_of_ble_eq_true rfl, Nat.le_of_ble_eq_true rfl⟩ (obF52 hF) rfl rfl rfl (Nat.le_of_ble_eq_true rfl) dX5_most_62) 65 rfl (fun r3 M4 hw => ?_)
          refine q_imul hC dX5_most_65 66 rfl ?_
          exact r_iret hR dX5_most_66 hw
        · refine q_iload_n hC dX5_most_55 2 rfl 56 rfl ?_
          refine q_goto hC 66 dX5_most_56 (by decide) ?_
          exact r_iret hR dX5_most_66 hw
      · refine q_iload_n hC dX5_most_22 3 rfl 23 rfl ?_
        refine q_aload_n hC dX5_most_23 0 rfl 24 rfl ?_
        refine q_iload_n hC dX5_most_24 3 rfl 25 rfl ?_
        refine r_callI hC (go_V (q := (RX5, TX5, 26)) (As := [.int v3]) (rest := [.int v3]) hC (ctX5_holdsOf (zl z) g M v3 _ hF hw) 1 gX5_most_X5_holdsOf rfl ⟨rfl, rfl⟩ hdV_X5_holdsOf ⟨Nat.le_of_ble_eq_true rfl, Nat.le_of_ble_eq_true rfl⟩ (obF52 hF) rfl rfl rfl (Nat.le_of_ble_eq_true rfl) dX5_most_25) 28 rfl (fun r5 M6 hw => ?_)
        refine q_imul hC dX5_most_28 29 rfl ?_
        refine q_iload_n hC dX5_most_29 2 rfl 30 rfl ?_
        refine q_aload_n hC dX5_most_30 0 rfl 31 rfl ?_
        refine q_iload_n hC dX5_most_31 2 rfl 32 rfl ?_
        refine r_callI hC (go_V (q := (RX5, TX5, 26)) (As := [.int v2]) (rest := [.int v2, .int (v3 * r5)]) hC (ctX5_holdsOf (zl z) g M6 v2 _ hF hw) 1 gX5_most_X5_holdsOf rfl ⟨rfl, rfl⟩ hdV_X5_holdsOf ⟨Nat.le_of_ble_eq_true rfl, Nat.le_of_ble_eq_true rfl⟩ (obF52 hF) rfl rfl rfl (Nat.le_of_ble_eq_true rfl) dX5_most_32) 35 rfl (fun r7 M8 hw => ?_)
        refine q_imul hC dX5_most_35 36 rfl ?_
        refine q_icmp_le hC 43 dX5_most_36 (by decide) 39 rfl hw (fun hw => ?_) (fun hw => ?_)
        · refine q_iload_n hC dX5_most_43 2 rfl 44 rfl ?_
          exact XX.sub [0, 1, 3] rfl (B44 _ (fun M v2 v3 hw => ih M v2 v3 hw) M8 v3 v2 hw)
        · refine q_iload_n hC dX5_most_39 3 rfl 40 rfl ?_
          refine q_goto hC 44 dX5_most_40 (by decide) ?_
          exact XX.sub [0, 1, 3] rfl (B44 _ (fun M v2 v3 hw => ih M v2 v3 hw) M8 v3 v3 hw)
  refine q_iload_n hC dX5_most_0 1 rfl 1 rfl ?_
  refine q_i2l hC dX5_most_1 2 rfl ?_
  refine q_lconst (v := 0) hC dX5_most_2 rfl 3 rfl ?_
  refine q_lconst (v := 1) hC dX5_most_3 rfl 4 rfl ?_
  refine r_callI hC (go_T (As := [.long (v1.toInt64), .long 0, .long 1]) (rest := []) hC (ctX5_in (zl z) g M (v1.toInt64) 0 1 _ hw) 3 gX5_most_X5_in rfl ⟨rfl, rfl⟩ hdT_X5_in ⟨Nat.le_of_ble_eq_true rfl, Nat.le_of_ble_eq_true rfl⟩ rfl rfl (Nat.le_of_ble_eq_true rfl) dX5_most_4) 7 rfl (fun r1 M2 hw => ?_)
  refine q_if_ne hC 12 dX5_most_7 (by decide) 10 rfl hw (fun hw => ?_) (fun hw => ?_)
  · refine q_iconst (v := 1) hC dX5_most_12 rfl 13 rfl ?_
    refine q_istore_n (L' := [(2, .int 1), (0, .ref (gA g 52)), (1, .int v1)]) hC dX5_most_13 (by decide) rfl 14 rfl ?_
    refine q_iconst (v := 2) hC dX5_most_14 rfl 15 rfl ?_
    refine q_istore_n (L' := [(3, .int 2), (2, .int 1), (0, .ref (gA g 52)), (1, .int v1)]) hC dX5_most_15 (by decide) rfl 16 rfl ?_
    obtain ⟨n0, hw⟩ := hw
    exact XX.sub [2, 3, 1, 0] rfl (B16 n0 M2 1 2 hw)
  · refine q_iconst (v := (-1)) hC dX5_most_10 rfl 11 rfl ?_
    exact r_iret hR dX5_most_11 hw
theorem inX5_streams_X5 : ∀ w ∈ u_ws RX5 TX5 26, w ∈ wsX5_streams := uX5_streams__wsX50
set_option maxRecDepth 100000 in
set_option maxHeartbeats 4000000 in
theorem ctX5_streams (l : Launch) (g : GG) (M : MM) (v1 : Int32) (v2 : Int32) (v3 : Int32) (v4 : Int32) (Q : Int32 → MM → Prop) (hF : ful5 g) (hw : wX5_streams Q M v1 v2 v3 v4) : MI g l yX5_streams wsX5_streams (rmOf 1 21) [.ref (gA g 52), .int v1, .int v2, .int v3, .int v4] M Q := by
  refine mk_MI (cc := cX5_streams) (maxL := 9) (by decide) rfl (Nat.le_of_ble_eq_true rfl) ?_
  intro z Qf hC hR
  show XX z g Qf 9 0 [(0, .ref (gA g 52)), (1, .int v1), (2, .int v2), (3, .int v3), (4, .int v4)] [] M
  have B136 : ∀ (K14 : MM → Int32 → Int32 → Int32 → Prop) (hK14 : ∀ (M : MM) (v5 : Int32) (v6 : Int32) (v7 : Int32) , K14 M v5 v6 v7 → XX z g Qf 9 14 [(0, .ref (gA g 52)), (1, .int v1), (2, .int v2), (3, .int v3), (4, .int v4), (5, .int v5), (6, .int v6), (7, .int v7)] [] M) (M : MM) (v6 : Int32) (v7 : Int32) (p0 : Int32) (p1 : Int32), wX5_streams_136 Q K14 v1 v2 v3 v4 M v6 v7 p0 p1 → XX z g Qf 9 136 [(0, .ref (gA g 52)), (1, .int v1), (2, .int v2), (3, .int v3), (4, .int v4), (6, .int v6), (7, .int v7)] [.int p0, .int p1] M := by
    intro K14 hK14 M v6 v7 p0 p1 hw
    refine q_iadd hC dX5_streams_136 137 rfl ?_
    refine q_istore (L' := [(5, .int (p1 + p0)), (0, .ref (gA g 52)), (1, .int v1), (2, .int v2), (3, .int v3), (4, .int v4), (6, .int v6), (7, .int v7)]) hC dX5_streams_137 (by decide) rfl 139 rfl ?_
    refine q_goto hC 14 dX5_streams_139 (by decide) ?_
    exact XX.sub [1, 2, 3, 4, 5, 0, 6, 7] rfl (hK14 M (p1 + p0) v6 v7 hw)
  have B102 : ∀ (K14 : MM → Int32 → Int32 → Int32 → Prop) (hK14 : ∀ (M : MM) (v5 : Int32) (v6 : Int32) (v7 : Int32) , K14 M v5 v6 v7 → XX z g Qf 9 14 [(0, .ref (gA g 52)), (1, .int v1), (2, .int v2), (3, .int v3), (4, .int v4), (5, .int v5), (6, .int v6), (7, .int v7)] [] M) (M : MM) (v5 : Int32) (v6 : Int32) (p0 : Int32), wX5_streams_102 Q K14 v1 v2 v3 v4 M v5 v6 p0 → XX z g Qf 9 102 [(0, .ref (gA g 52)), (1, .int v1), (2, .int v2), (3, .int v3), (4, .int v4), (5, .int v5), (6, .int v6)] [.int p0] M := by
    intro K14 hK14 M v5 v6 p0 hw
    refine q_istore (L' := [(7, .int p0), (0, .ref (gA g 52)), (1, .int v1), (2, .int v2), (3, .int v3), (4, .int v4), (5, .int v5), (6, .int v6)]) hC dX5_streams_102 (by decide) rfl 104 rfl ?_
    refine q_aload_n hC dX5_streams_104 1 rfl 105 rfl ?_
    refine q_dup hC dX5_streams_105 rfl 106 rfl ?_
    refine q_getI (C := RX5) (T := TX5) (N := 26) (ci := 5) hC inX5_streams_X5 (obF52 hF) rfl 21 (by decide) (uX5_streams__o _ (List.mem_of_getElem? (l := owX5_streams) (i := 1) rfl)) rfl (fun _ => rfl) dX5_streams_106 109 rfl ?_
    refine q_iload hC dX5_streams_109 0 rfl 111 rfl ?_
    refine r_callI hC (go_T (As := [.int p0]) (rest := [.int (M 52 21), .ref (gA g 52)]) hC (ctX5_flag (zl z) g M p0 _ hw) 1 gX5_streams_X5_flag rfl ⟨rfl, rfl⟩ hdT_X5_flag ⟨Nat.le_of_ble_eq_true rfl, Nat.le_of_ble_eq_true rfl⟩ rfl rfl (Nat.le_of_ble_eq_true rfl) dX5_streams_111) 114 rfl (fun r6 M7 hw => ?_)
    refine q_iadd hC dX5_streams_114 115 rfl ?_
    refine q_putI (C := RX5) (T := TX5) (N := 26) (ci := 5) hC inX5_streams_X5 tyX5 tyX5_ok nmX5 (obF52 hF) rfl 21 (by decide) (uX5_streams__o _ (List.mem_of_getElem? (l := owX5_streams) (i := 1) rfl)) rfl rfl rfl (fun _ => Nat.le_of_ble_eq_true rfl) (fun _ => rfl) dX5_streams_115 118 rfl (fun M8 eM8 => ?_)
    have hw := hw M8 eM8
    refine q_iload hC dX5_streams_118 6 rfl 120 rfl ?_
    refine q_iload hC dX5_streams_120 0 rfl 122 rfl ?_
    refine q_if_eq hC 135 dX5_streams_122 (by decide) 125 rfl hw (fun hw => ?_) (fun hw => ?_)
    · refine q_iconst (v := 0) hC dX5_streams_135 rfl 136 rfl ?_
      exact XX.sub [1, 2, 3, 4, 5, 7, 0] rfl (B136 _ hK14 M8 v6 p0 0 v5 hw)
    · refine q_aload_n hC dX5_streams_125 1 rfl 126 rfl ?_
      refine q_getR (C := RX5) (T := TX5) (N := 26) (ci := 5) hC inX5_streams_X5 (obF52 hF) rfl 2 (by decide) (uX5_streams__o _ (List.mem_of_getElem? (l := owX5_streams) (i := 2) rfl)) rfl 55 (fun _ => rfl) dX5_streams_126 129 rfl ?_
      refine q_bipush (v := 8) hC dX5_streams_129 (by decide) 131 rfl ?_
      refine q_ialdL hC (arF55 hF) 8 (by decide +kernel) (by decide +kernel) dX5_streams_131 132 rfl ?_
      refine q_goto hC 136 dX5_streams_132 (by decide) ?_
      exact XX.sub [1, 2, 3, 4, 5, 7, 0] rfl (B136 _ hK14 M8 v6 p0 (M8 55 8) v5 hw)
  have B101 : ∀ (K14 : MM → Int32 → Int32 → Int32 → Prop) (hK14 : ∀ (M : MM) (v5 : Int32) (v6 : Int32) (v7 : Int32) , K14 M v5 v6 v7 → XX z g Qf 9 14 [(0, .ref (gA g 52)), (1, .int v1), (2, .int v2), (3, .int v3), (4, .int v4), (5, .int v5), (6, .int v6), (7, .int v7)] [] M) (M : MM) (v5 : Int32) (v6 : Int32), wX5_streams_101 Q K14 v1 v2 v3 v4 M v5 v6 → XX z g Qf 9 101 [(0, .ref (gA g 52)), (1, .int v1), (2, .int v2), (3, .int v3), (4, .int v4), (5, .int v5), (6, .int v6)] [] M := by
    intro K14 hK14 M v5 v6 hw
    refine q_iconst (v := 0) hC dX5_streams_101 rfl 102 rfl ?_
    exact XX.sub [0, 1, 2, 3, 4, 5, 6] rfl (B102 _ hK14 M v5 v6 0 hw)
  have B56 : ∀ (K14 : MM → Int32 → Int32 → Int32 → Prop) (hK14 : ∀ (M : MM) (v5 : Int32) (v6 : Int32) (v7 : Int32) , K14 M v5 v6 v7 → XX z g Qf 9 14 [(0, .ref (gA g 52)), (1, .int v1), (2, .int v2), (3, .int v3), (4, .int v4), (5, .int v5), (6, .int v6), (7, .int v7)] [] M) (M : MM) (v6 : Int32) (p0 : Int32), wX5_streams_56 Q K14 v1 v2 v3 v4 M v6 p0 → XX z g Qf 9 56 [(0, .ref (gA g 52)), (1, .int v1), (2, .int v2), (3, .int v3), (4, .int v4), (6, .int v6)] [.int p0] M := by
    intro K14 hK14 M v6 p0 hw
    refine q_istore (L' := [(5, .int p0), (0, .ref (gA g 52)), (1, .int v1), (2, .int v2), (3, .int v3), (4, .int v4), (6, .int v6)]) hC dX5_streams_56 (by decide) rfl 58 rfl ?_
    refine q_iload hC dX5_streams_58 0 rfl 60 rfl ?_
    refine q_aload_n hC dX5_streams_60 1 rfl 61 rfl ?_
    refine q_getR (C := RX5) (T := TX5) (N := 26) (ci := 5) hC inX5_streams_X5 (obF52 hF) rfl 2 (by decide) (uX5_streams__o _ (List.mem_of_getElem? (l := owX5_streams) (i := 2) rfl)) rfl 55 (fun _ => rfl) dX5_streams_61 64 rfl ?_
    refine q_iconst (v := 3) hC dX5_streams_64 rfl 65 rfl ?_
    refine q_ialdL hC (arF55 hF) 3 (by decide +kernel) (by decide +kernel) dX5_streams_65 66 rfl ?_
    refine q_iload_n hC dX5_streams_66 3 rfl 67 rfl ?_
    refine q_aload_n hC dX5_streams_67 1 rfl 68 rfl ?_
    refine q_getR (C := RX5) (T := TX5) (N := 26) (ci := 5) hC inX5_streams_X5 (obF52 hF) rfl 2 (by decide) (uX5_streams__o _ (List.mem_of_getElem? (l := owX5_streams) (i := 2) rfl)) rfl 55 (fun _ => rfl) dX5_streams_68 71 rfl ?_
    refine q_bipush (v := 6) hC dX5_streams_71 (by decide) 73 rfl ?_
    refine q_ialdL hC (arF55 hF) 6 (by decide +kernel) (by decide +kernel) dX5_streams_73 74 rfl ?_
    refine q_iadd hC dX5_streams_74 75 rfl ?_
    refine q_imul hC dX5_streams_75 76 rfl ?_
    refine q_iadd hC dX5_streams_76 77 rfl ?_
    refine q_nameI (fun x5 ex5 => ?_)
    have hw := hw x5 ex5
    refine q_istore (L' := [(5, .int x5), (0, .ref (gA g 52)), (1, .int v1), (2, .int v2), (3, .int v3), (4, .int v4), (6, .int v6)]) hC dX5_streams_77 (by decide) rfl 79 rfl ?_
    refine q_iinc (v := v6 + 1) (L' := [(6, .int (v6 + 1)), (5, .int x5), (0, .ref (gA g 52)), (1, .int v1), (2, .int v2), (3, .int v3), (4, .int v4)]) hC dX5_streams_79 6 rfl rfl (by decide) rfl 82 rfl ?_
    refine q_iload hC dX5_streams_82 0 rfl 84 rfl ?_
    refine q_iload_n hC dX5_streams_84 3 rfl 85 rfl ?_
    refine q_icmp_ge hC 101 dX5_streams_85 (by decide) 88 rfl hw (fun hw => ?_) (fun hw => ?_)
    · exact XX.sub [2, 3, 4, 5, 6, 1, 0] rfl (B101 _ hK14 M x5 (v6 + 1) hw)
    · refine q_iload hC dX5_streams_88 0 rfl 90 rfl ?_
      refine q_iload_n hC dX5_streams_90 5 rfl 91 rfl ?_
      refine q_imul hC dX5_streams_91 92 rfl ?_
      refine q_iload hC dX5_streams_92 1 rfl 94 rfl ?_
      refine q_icmp_le hC 101 dX5_streams_94 (by decide) 97 rfl hw (fun hw => ?_) (fun hw => ?_)
      · exact XX.sub [2, 3, 4, 5, 6, 1, 0] rfl (B101 _ hK14 M x5 (v6 + 1) hw)
      · refine q_iconst (v := 1) hC dX5_streams_97 rfl 98 rfl ?_
        refine q_goto hC 102 dX5_streams_98 (by decide) ?_
        exact XX.sub [2, 3, 4, 5, 6, 1, 0] rfl (B102 _ hK14 M x5 (v6 + 1) 1 hw)
  have B54 : ∀ (K14 : MM → Int32 → Int32 → Int32 → Prop) (hK14 : ∀ (M : MM) (v5 : Int32) (v6 : Int32) (v7 : Int32) , K14 M v5 v6 v7 → XX z g Qf 9 14 [(0, .ref (gA g 52)), (1, .int v1), (2, .int v2), (3, .int v3), (4, .int v4), (5, .int v5), (6, .int v6), (7, .int v7)] [] M) (M : MM) (v5 : Int32) (v6 : Int32), wX5_streams_54 Q K14 v1 v2 v3 v4 M v5 v6 → XX z g Qf 9 54 [(0, .ref (gA g 52)), (1, .int v1), (2, .int v2), (3, .int v3), (4, .int v4), (5, .int v5), (6, .int v6)] [] M := by
    intro K14 hK14 M v5 v6 hw
    refine q_iload hC dX5_streams_54 5 rfl 56 rfl ?_
    exact XX.sub [0, 1, 2, 3, 4, 6] rfl (B56 _ hK14 M v6 v5 hw)
  have B14 : ∀ (n : Nat) (M : MM) (v5 : Int32) (v6 : Int32) (v7 : Int32) , wX5_streams_14 Q v1 v2 v3 v4 n M v5 v6 v7 → XX z g Qf 9 14 [(0, .ref (gA g 52)), (1, .int v1), (2, .int v2), (3, .int v3), (4, .int v4), (5, .int v5), (6, .int v6), (7, .int v7)] [] M := by
    intro n
    induction n with
    | zero =>
      intro M v5 v6 v7 hw
      exact hw.elim
    | succ n ih =>
      intro M v5 v6 v7 hw
      refine q_iload hC dX5_streams_14 6 rfl 16 rfl ?_
      refine q_iload_n hC dX5_streams_16 1 rfl 17 rfl ?_
      refine q_icmp_ge hC 142 dX5_streams_17 (by decide) 20 rfl hw (fun hw => ?_) (fun hw => ?_)
      · refine q_iload hC dX5_streams_142 5 rfl 144 rfl ?_
        exact r_iret hR dX5_streams_144 hw
      · refine q_iload hC dX5_streams_20 6 rfl 22 rfl ?_
        refine q_iload hC dX5_streams_22 4 rfl 24 rfl ?_
        refine q_iadd hC dX5_streams_24 25 rfl ?_
        refine q_iload_n hC dX5_streams_25 1 rfl 26 rfl ?_
        refine r_callI hC (go_T (As := [.int (v6 + v4), .int v1]) (rest := []) hC (ctX5_less (zl z) g M (v6 + v4) v1 _ hw) 2 gX5_streams_X5_less rfl ⟨rfl, rfl⟩ hdT_X5_less ⟨Nat.le_of_ble_eq_true rfl, Nat.le_of_ble_eq_true rfl⟩ rfl rfl (Nat.le_of_ble_eq_true rfl) dX5_streams_26) 29 rfl (fun r2 M3 hw => ?_)
        refine q_iconst (v := 1) hC dX5_streams_29 rfl 30 rfl ?_
        refine q_isub hC dX5_streams_30 31 rfl ?_
        refine q_nameI (fun x4 ex4 => ?_)
        have hw := hw x4 ex4
        refine q_istore (L' := [(8, .int x4), (0, .ref (gA g 52)), (1, .int v1), (2, .int v2), (3, .int v3), (4, .int v4), (5, .int v5), (6, .int v6), (7, .int v7)]) hC dX5_streams_31 (by decide) rfl 33 rfl ?_
        refine q_iload hC dX5_streams_33 8 rfl 35 rfl ?_
        refine q_if_eq hC 54 dX5_streams_35 (by decide) 38 rfl hw (fun hw => ?_) (fun hw => ?_)
        · exact XX.sub [1, 2, 3, 4, 5, 6, 7] rfl (B54 _ (fun M v5 v6 v7 hw => ih M v5 v6 v7 hw) M3 v5 v6 hw)
        · refine q_iload hC dX5_streams_38 0 rfl 40 rfl ?_
          refine q_iload_n hC dX5_streams_40 4 rfl 41 rfl ?_
          refine q_imul hC dX5_streams_41 42 rfl ?_
          refine q_iload hC dX5_streams_42 6 rfl 44 rfl ?_
          refine q_icmp_le hC 54 dX5_streams_44 (by decide) 47 rfl hw (fun hw => ?_) (fun hw => ?_)
          · exact XX.sub [1, 2, 3, 4, 5, 6, 7] rfl (B54 _ (fun M v5 v6 v7 hw => ih M v5 v6 v7 hw) M3 v5 v6 hw)
          · refine q_iload hC dX5_streams_47 0 rfl 49 rfl ?_
            refine q_iload_n hC dX5_streams_49 4 rfl 50 rfl ?_
            refine q_imul hC dX5_streams_50 51 rfl ?_
            refine q_goto hC 56 dX5_streams_51 (by decide) ?_
            exact XX.sub [1, 2, 3, 4, 5, 7] rfl (B56 _ (fun M v5 v6 v7 hw => ih M v5 v6 v7 hw) M3 v6 (x4 * v3) hw)
  refine q_iconst (v := 0) hC dX5_streams_0 rfl 1 rfl ?_
  refine q_istore (L' := [(5, .int 0), (0, .ref (gA g 52)), (1, .int v1), (2, .int v2), (3, .int v3), (4, .int v4)]) hC dX5_streams_1 (by decide) rfl 3 rfl ?_
  refine q_iconst (v := 0) hC dX5_streams_3 rfl 4 rfl ?_
  refine q_istore (L' := [(6, .int 0), (5, .int 0), (0, .ref (gA g 52)), (1, .int v1), (2, .int v2), (3, .int v3), (4, .int v4)]) hC dX5_streams_4 (by decide) rfl 6 rfl ?_
  refine q_iconst (v := 1) hC dX5_streams_6 rfl 7 rfl ?_
  refine q_istore (L' := [(7, .int 1), (6, .int 0), (5, .int 0), (0, .ref (gA g 52)), (1, .int v1), (2, .int v2), (3, .int v3), (4, .int v4)]) hC dX5_streams_7 (by decide) rfl 9 rfl ?_
  refine q_aload_n hC dX5_streams_9 3 rfl 10 rfl ?_
  refine q_iconst (v := 0) hC dX5_streams_10 rfl 11 rfl ?_
  refine q_putI (C := RX5) (T := TX5) (N := 26) (ci := 5) hC inX5_streams_X5 tyX5 tyX5_ok nmX5 (obF52 hF) rfl 21 (by decide) (uX5_streams__o _ (List.mem_of_getElem? (l := owX5_streams) (i := 1) rfl)) rfl rfl rfl (fun _ => Nat.le_of_ble_eq_true rfl) (fun _ => rfl) dX5_streams_11 14 rfl (fun M1 eM1 => ?_)
  have hw := hw M1 eM1
  obtain ⟨n0, hw⟩ := hw
  exact XX.sub [3, 4, 5, 6, 7, 2, 1, 0] rfl (B14 n0 M1 0 0 1 hw)
set_option maxRecDepth 100000 in
set_option maxHeartbeats 4000000 in
theorem ctX5_isStream (l : Launch) (g : GG) (M : MM) (v0 : Int32) (v1 : Int32) (v2 : Int32) (Q : Int32 → MM → Prop)  (hw : wX5_isStream Q M v0 v1 v2) : MI g l yX5_isStream wsX5_isStream (rmOf 1 25) [.int v0, .int v1, .int v2] M Q := by
  refine mk_MZ (cc := cX5_isStream) (maxL := 3) (by decide) rfl (Nat.le_of_ble_eq_true rfl) ?_
  intro z Qf hC hR
  show XX z g Qf 3 0 [(0, .int v0), (1, .int v1), (2, .int v2)] [] M
  have B40 : ∀ (M : MM), wX5_isStream_40 Q v0 v1 v2 M → XX z g Qf 3 40 [] [] M := by
    intro M hw
    refine q_iconst (v := 0) hC dX5_isStream_40 rfl 41 rfl ?_
    exact r_iret hR dX5_isStream_41 ⟨nb_0, hw⟩
  refine q_iload_n hC dX5_isStream_0 0 rfl 1 rfl ?_
  refine q_i2l hC dX5_isStream_1 2 rfl ?_
  refine q_lconst (v := 1) hC dX5_isStream_2 rfl 3 rfl ?_
  refine q_ldc2 (v := 99) hC (uX5_isStream__o _ (List.mem_of_getElem? (l := owX5_isStream) (i := 1) rfl)) dX5_isStream_3 6 rfl ?_
  refine r_callI hC (go_T (As := [.long (v0.toInt64), .long 1, .long 99]) (rest := []) hC (ctX5_in (zl z) g M (v0.toInt64) 1 99 _ hw) 3 gX5_isStream_X5_in rfl ⟨rfl, rfl⟩ hdT_X5_in ⟨Nat.le_of_ble_eq_true rfl, Nat.le_of_ble_eq_true rfl⟩ rfl rfl (Nat.le_of_ble_eq_true rfl) dX5_isStream_6) 9 rfl (fun r1 M2 hw => ?_)
  refine q_if_eq hC 40 dX5_isStream_9 (by decide) 12 rfl hw (fun hw => ?_) (fun hw => ?_)
  · exact XX.sub [] rfl (B40 M2 hw)
  · refine q_iload_n hC dX5_isStream_12 1 rfl 13 rfl ?_
    refine q_i2l hC dX5_isStream_13 14 rfl ?_
    refine q_lconst (v := 1) hC dX5_isStream_14 rfl 15 rfl ?_
    refine q_ldc2 (v := 99) hC (uX5_isStream__o _ (List.mem_of_getElem? (l := owX5_isStream) (i := 1) rfl)) dX5_isStream_15 18 rfl ?_
    refine r_callI hC (go_T (As := [.long (v1.toInt64), .long 1, .long 99]) (rest := []) hC (ctX5_in (zl z) g M2 (v1.toInt64) 1 99 _ hw) 3 gX5_isStream_X5_in rfl ⟨rfl, rfl⟩ hdT_X5_in ⟨Nat.le_of_ble_eq_true rfl, Nat.le_of_ble_eq_true rfl⟩ rfl rfl (Nat.le_of_ble_eq_true rfl) dX5_isStream_18) 21 rfl (fun r3 M4 hw => ?_)
    refine q_if_eq hC 40 dX5_isStream_21 (by decide) 24 rfl hw (fun hw => ?_) (fun hw => ?_)
    · exact XX.sub [] rfl (B40 M4 hw)
    · refine q_iload_n hC dX5_isStream_24 2 rfl 25 rfl ?_
      refine q_i2l hC dX5_isStream_25 26 rfl ?_
      refine q_lconst (v := 0) hC dX5_isStream_26 rfl 27 rfl ?_
      refine q_ldc2 (v := 9999) hC (uX5_isStream__o _ (List.mem_of_getElem? (l := owX5_isStream) (i := 2) rfl)) dX5_isStream_27 30 rfl ?_
      refine r_callI hC (go_T (As := [.long (v2.toInt64), .long 0, .long 9999]) (rest := []) hC (ctX5_in (zl z) g M4 (v2.toInt64) 0 9999 _ hw) 3 gX5_isStream_X5_in rfl ⟨rfl, rfl⟩ hdT_X5_in ⟨Nat.le_of_ble_eq_true rfl, Nat.le_of_ble_eq_true rfl⟩ rfl rfl (Nat.le_of_ble_eq_true rfl) dX5_isStream_30) 33 rfl (fun r5 M6 hw => ?_)
      refine q_if_eq hC 40 dX5_isStream_33 (by decide) 36 rfl hw (fun hw => ?_) (fun hw => ?_)
      · exact XX.sub [] rfl (B40 M6 hw)
      · refine q_iconst (v := 1) hC dX5_isStream_36 rfl 37 rfl ?_
        refine q_goto hC 41 dX5_isStream_37 (by decide) ?_
        exact r_iret hR dX5_isStream_41 ⟨nb_1, hw⟩
theorem hdT_X5_isStream : yX5_isStream.cls ≠ "java/lang/invoke/MethodHandle" ∧ yX5_isStream.cls ≠ "java/lang/invoke/VarHandle" ∧ (parseMethodDescriptor yX5_isStream.desc).map (fun d => d.parameters.length) = some 3 := by decide +kernel
theorem hdV_X5_streams : yX5_streams.cls = RX5 ∧ yX5_streams.cls ≠ "java/lang/invoke/MethodHandle" ∧ yX5_streams.cls ≠ "java/lang/invoke/VarHandle" ∧ (parseMethodDescriptor yX5_streams.desc).map (fun d => d.parameters.length) = some 4 := by decide +kernel
theorem inX5_stream_X5 : ∀ w ∈ u_ws RX5 TX5 26, w ∈ wsX5_stream := uX5_stream__wsX50
set_option maxRecDepth 100000 in
set_option maxHeartbeats 4000000 in
theorem ctX5_stream (l : Launch) (g : GG) (M : MM) (v1 : Int32) (v2 : Int32) (v3 : Int32) (v4 : Int32) (v5 : Int32) (Q : Int32 → MM → Prop) (hF : ful5 g) (hw : wX5_stream Q M v1 v2 v3 v4 v5) : MI g l yX5_stream wsX5_stream (rmOf 2 49) [.ref (gA g 52), .int v1, .int v2, .int v3, .int v4, .int v5] M Q := by
  refine mk_MI (cc := cX5_stream) (maxL := 7) (by decide) rfl (Nat.le_of_ble_eq_true rfl) ?_
  intro z Qf hC hR
  show XX z g Qf 7 0 [(0, .ref (gA g 52)), (1, .int v1), (2, .int v2), (3, .int v3), (4, .int v4), (5, .int v5)] [] M
  refine q_iload_n hC dX5_stream_0 1 rfl 1 rfl ?_
  refine q_iload_n hC dX5_stream_1 2 rfl 2 rfl ?_
  refine q_iload_n hC dX5_stream_2 3 rfl 3 rfl ?_
  refine r_callI hC (go_T (As := [.int v1, .int v2, .int v3]) (rest := []) hC (ctX5_isStream (zl z) g M v1 v2 v3 _ hw) 3 gX5_stream_X5_isStream rfl ⟨rfl, rfl⟩ hdT_X5_isStream ⟨Nat.le_of_ble_eq_true rfl, Nat.le_of_ble_eq_true rfl⟩ rfl rfl (Nat.le_of_ble_eq_true rfl) dX5_stream_3) 6 rfl (fun r1 M2 hw => ?_)
  refine q_if_eq hC 33 dX5_stream_6 (by decide) 9 rfl hw (fun hw => ?_) (fun hw => ?_)
  · refine q_iconst (v := (-1)) hC dX5_stream_33 rfl 34 rfl ?_
    exact r_iret hR dX5_stream_34 hw
  · refine q_iload hC dX5_stream_9 4 rfl 11 rfl ?_
    refine q_i2l hC dX5_stream_11 12 rfl ?_
    refine q_lconst (v := 1) hC dX5_stream_12 rfl 13 rfl ?_
    refine q_ldc2 (v := 99) hC (uX5_stream__X5_isStream _ (List.mem_of_getElem? (l := owX5_isStream) (i := 1) rfl)) dX5_stream_13 16 rfl ?_
    refine r_callI hC (go_T (As := [.long (v4.toInt64), .long 1, .long 99]) (rest := []) hC (ctX5_in (zl z) g M2 (v4.toInt64) 1 99 _ hw) 3 gX5_stream_X5_in rfl ⟨rfl, rfl⟩ hdT_X5_in ⟨Nat.le_of_ble_eq_true rfl, Nat.le_of_ble_eq_true rfl⟩ rfl rfl (Nat.le_of_ble_eq_true rfl) dX5_stream_16) 19 rfl (fun r3 M4 hw => ?_)
    refine q_if_eq hC 33 dX5_stream_19 (by decide) 22 rfl hw (fun hw => ?_) (fun hw => ?_)
    · refine q_iconst (v := (-1)) hC dX5_stream_33 rfl 34 rfl ?_
      exact r_iret hR dX5_stream_34 hw
    · refine q_iload hC dX5_stream_22 5 rfl 24 rfl ?_
      refine q_i2l hC dX5_stream_24 25 rfl ?_
      refine q_lconst (v := 0) hC dX5_stream_25 rfl 26 rfl ?_
      refine q_lconst (v := 1) hC dX5_stream_26 rfl 27 rfl ?_
      refine r_callI hC (go_T (As := [.long (v5.toInt64), .long 0, .long 1]) (rest := []) hC (ctX5_in (zl z) g M4 (v5.toInt64) 0 1 _ hw) 3 gX5_stream_X5_in rfl ⟨rfl, rfl⟩ hdT_X5_in ⟨Nat.le_of_ble_eq_true rfl, Nat.le_of_ble_eq_true rfl⟩ rfl rfl (Nat.le_of_ble_eq_true rfl) dX5_stream_27) 30 rfl (fun r5 M6 hw => ?_)
      refine q_if_ne hC 35 dX5_stream_30 (by decide) 33 rfl hw (fun hw => ?_) (fun hw => ?_)
      · refine q_aload_n hC dX5_stream_35 0 rfl 36 rfl ?_
        refine q_iload_n hC dX5_stream_36 1 rfl 37 rfl ?_
        refine q_iload_n hC dX5_stream_37 2 rfl 38 rfl ?_
        refine q_iload_n hC dX5_stream_38 3 rfl 39 rfl ?_
        refine q_iload hC dX5_stream_39 4 rfl 41 rfl ?_
        refine r_callI hC (go_V (q := (RX5, TX5, 26)) (As := [.int v1, .int v2, .int v3, .int v4]) (rest := []) hC (ctX5_streams (zl z) g M6 v1 v2 v3 v4 _ hF hw) 4 gX5_stream_X5_streams rfl ⟨rfl, rfl⟩ hdV_X5_streams ⟨Nat.le_of_ble_eq_true rfl, Nat.le_of_ble_eq_true rfl⟩ (obF52 hF) rfl rfl rfl (Nat.le_of_ble_eq_true rfl) dX5_stream_41) 44 rfl (fun r7 M8 hw => ?_)
        refine q_istore (L' := [(6, .int r7), (0, .ref (gA g 52)), (1, .int v1), (2, .int v2), (3, .int v3), (4, .int v4), (5, .int v5)]) hC dX5_stream_44 (by decide) rfl 46 rfl ?_
        refine q_iload hC dX5_stream_46 6 rfl 48 rfl ?_
        refine q_if_ne hC 56 dX5_stream_48 (by decide) 51 rfl hw (fun hw => ?_) (fun hw => ?_)
        · refine q_aload_n hC dX5_stream_56 1 rfl 57 rfl ?_
          refine q_getI (C := RX5) (T := TX5) (N := 26) (ci := 5) hC inX5_stream_X5 (obF52 hF) rfl 21 (by decide) (uX5_stream__X5_streams _ (List.mem_of_getElem? (l := owX5_streams) (i := 1) rfl)) rfl (fun _ => rfl) dX5_stream_57 60 rfl ?_
          exact r_iret hR dX5_stream_60 hw
        · refine q_iload hC dX5_stream_51 0 rfl 53 rfl ?_
          refine q_goto hC 60 dX5_stream_53 (by decide) ?_
          exact r_iret hR dX5_stream_60 hw
      · refine q_iconst (v := (-1)) hC dX5_stream_33 rfl 34 rfl ?_
        exact r_iret hR dX5_stream_34 hw
set_option maxRecDepth 100000 in
set_option maxHeartbeats 4000000 in
theorem ctX5_buffer (l : Launch) (g : GG) (M : MM) (v1 : Int32) (v2 : Int32) (v3 : Int32) (v4 : Int32) (Q : Int32 → MM → Prop) (hF : ful5 g) (hw : wX5_buffer Q M v1 v2 v3 v4) : MI g l yX5_buffer wsX5_buffer (rmOf 2 49) [.ref (gA g 52), .int v1, .int v2, .int v3, .int v4] M Q := by
  refine mk_MI (cc := cX5_buffer) (maxL := 9) (by decide) rfl (Nat.le_of_ble_eq_true rfl) ?_
  intro z Qf hC hR
  show XX z g Qf 9 0 [(0, .ref (gA g 52)), (1, .int v1), (2, .int v2), (3, .int v3), (4, .int v4)] [] M
  have B69 : ∀ (K38 : MM → Int32 → Int32 → Int32 → Prop) (hK38 : ∀ (M : MM) (v5 : Int32) (v6 : Int32) (v7 : Int32) , K38 M v5 v6 v7 → XX z g Qf 9 38 [(0, .ref (gA g 52)), (1, .int v1), (2, .int v2), (3, .int v3), (4, .int v4), (5, .int v5), (6, .int v6), (7, .int v7)] [] M) (M : MM) (v6 : Int32) (v7 : Int32) (v8 : Int32) (p0 : Int32), wX5_buffer_69 Q K38 v1 v2 v3 v4 M v6 v7 v8 p0 → XX z g Qf 9 69 [(0, .ref (gA g 52)), (1, .int v1), (2, .int v2), (3, .int v3), (4, .int v4), (6, .int v6), (7, .int v7), (8, .int v8)] [.int p0] M := by
    intro K38 hK38 M v6 v7 v8 p0 hw
    refine q_istore (L' := [(5, .int p0), (0, .ref (gA g 52)), (1, .int v1), (2, .int v2), (3, .int v3), (4, .int v4), (6, .int v6), (7, .int v7), (8, .int v8)]) hC dX5_buffer_69 (by decide) rfl 71 rfl ?_
    refine q_iload hC dX5_buffer_71 8 rfl 73 rfl ?_
    refine q_iload hC dX5_buffer_73 6 rfl 75 rfl ?_
    refine r_callI hC (go_T (As := [.int v8, .int v6]) (rest := []) hC (ctX5_less (zl z) g M v8 v6 _ hw) 2 gX5_buffer_X5_less rfl ⟨rfl, rfl⟩ hdT_X5_less ⟨Nat.le_of_ble_eq_true rfl, Nat.le_of_ble_eq_true rfl⟩ rfl rfl (Nat.le_of_ble_eq_true rfl) dX5_buffer_75) 78 rfl (fun r9 M10 hw => ?_)
    refine q_istore (L' := [(6, .int r9), (5, .int p0), (0, .ref (gA g 52)), (1, .int v1), (2, .int v2), (3, .int v3), (4, .int v4), (7, .int v7), (8, .int v8)]) hC dX5_buffer_78 (by decide) rfl 80 rfl ?_
    refine q_iinc (v := v7 + 1) (L' := [(7, .int (v7 + 1)), (6, .int r9), (5, .int p0), (0, .ref (gA g 52)), (1, .int v1), (2, .int v2), (3, .int v3), (4, .int v4), (8, .int v8)]) hC dX5_buffer_80 7 rfl rfl (by decide) rfl 83 rfl ?_
    refine q_goto hC 38 dX5_buffer_83 (by decide) ?_
    exact XX.sub [3, 4, 5, 6, 7, 2, 1, 0] rfl (hK38 M10 p0 r9 (v7 + 1) hw)
  have B38 : ∀ (n : Nat) (M : MM) (v5 : Int32) (v6 : Int32) (v7 : Int32) , wX5_buffer_38 Q v1 v2 v3 v4 n M v5 v6 v7 → XX z g Qf 9 38 [(0, .ref (gA g 52)), (1, .int v1), (2, .int v2), (3, .int v3), (4, .int v4), (5, .int v5), (6, .int v6), (7, .int v7)] [] M := by
    intro n
    induction n with
    | zero =>
      intro M v5 v6 v7 hw
      exact hw.elim
    | succ n ih =>
      intro M v5 v6 v7 hw
      refine q_iload hC dX5_buffer_38 7 rfl 40 rfl ?_
      refine q_iload_n hC dX5_buffer_40 1 rfl 41 rfl ?_
      refine q_icmp_gt hC 86 dX5_buffer_41 (by decide) 44 rfl hw (fun hw => ?_) (fun hw => ?_)
      · refine q_iload hC dX5_buffer_86 4 rfl 88 rfl ?_
        refine q_if_ne hC 96 dX5_buffer_88 (by decide) 91 rfl hw (fun hw => ?_) (fun hw => ?_)
        · refine q_iload hC dX5_buffer_96 6 rfl 98 rfl ?_
          exact r_iret hR dX5_buffer_98 hw
        · refine q_iload hC dX5_buffer_91 5 rfl 93 rfl ?_
          refine q_goto hC 98 dX5_buffer_93 (by decide) ?_
          exact r_iret hR dX5_buffer_98 hw
      · refine q_aload_n hC dX5_buffer_44 0 rfl 45 rfl ?_
        refine q_iload_n hC dX5_buffer_45 1 rfl 46 rfl ?_
        refine q_iload_n hC dX5_buffer_46 2 rfl 47 rfl ?_
        refine q_iload_n hC dX5_buffer_47 3 rfl 48 rfl ?_
        refine q_iload hC dX5_buffer_48 7 rfl 50 rfl ?_
        refine r_callI hC (go_V (q := (RX5, TX5, 26)) (As := [.int v1, .int v2, .int v3, .int v7]) (rest := []) hC (ctX5_streams (zl z) g M v1 v2 v3 v7 _ hF hw) 4 gX5_buffer_X5_streams rfl ⟨rfl, rfl⟩ hdV_X5_streams ⟨Nat.le_of_ble_eq_true rfl, Nat.le_of_ble_eq_true rfl⟩ (obF52 hF) rfl rfl rfl (Nat.le_of_ble_eq_true rfl) dX5_buffer_50) 53 rfl (fun r7 M8 hw => ?_)
        refine q_istore (L' := [(8, .int r7), (0, .ref (gA g 52)), (1, .int v1), (2, .int v2), (3, .int v3), (4, .int v4), (5, .int v5), (6, .int v6), (7, .int v7)]) hC dX5_buffer_53 (by decide) rfl 55 rfl ?_
        refine q_iload hC dX5_buffer_55 0 rfl 57 rfl ?_
        refine q_iload hC dX5_buffer_57 7 rfl 59 rfl ?_
        refine q_icmp_ge hC 67 dX5_buffer_59 (by decide) 62 rfl hw (fun hw => ?_) (fun hw => ?_)
        · refine q_iload hC dX5_buffer_67 6 rfl 69 rfl ?_
          exact XX.sub [1, 2, 3, 4, 5, 7, 8, 0] rfl (B69 _ (fun M v5 v6 v7 hw => ih M v5 v6 v7 hw) M8 v6 v7 r7 v5 hw)
        · refine q_iload hC dX5_buffer_62 8 rfl 64 rfl ?_
          refine q_goto hC 69 dX5_buffer_64 (by decide) ?_
          exact XX.sub [1, 2, 3, 4, 5, 7, 8, 0] rfl (B69 _ (fun M v5 v6 v7 hw => ih M v5 v6 v7 hw) M8 v6 v7 r7 v7 hw)
  refine q_iload_n hC dX5_buffer_0 1 rfl 1 rfl ?_
  refine q_iload_n hC dX5_buffer_1 2 rfl 2 rfl ?_
  refine q_iload_n hC dX5_buffer_2 3 rfl 3 rfl ?_
  refine r_callI hC (go_T (As := [.int v1, .int v2, .int v3]) (rest := []) hC (ctX5_isStream (zl z) g M v1 v2 v3 _ hw) 3 gX5_buffer_X5_isStream rfl ⟨rfl, rfl⟩ hdT_X5_isStream ⟨Nat.le_of_ble_eq_true rfl, Nat.le_of_ble_eq_true rfl⟩ rfl rfl (Nat.le_of_ble_eq_true rfl) dX5_buffer_3) 6 rfl (fun r1 M2 hw => ?_)
  refine q_if_eq hC 20 dX5_buffer_6 (by decide) 9 rfl hw (fun hw => ?_) (fun hw => ?_)
  · refine q_iconst (v := (-1)) hC dX5_buffer_20 rfl 21 rfl ?_
    exact r_iret hR dX5_buffer_21 hw
  · refine q_iload hC dX5_buffer_9 4 rfl 11 rfl ?_
    refine q_i2l hC dX5_buffer_11 12 rfl ?_
    refine q_lconst (v := 0) hC dX5_buffer_12 rfl 13 rfl ?_
    refine q_lconst (v := 1) hC dX5_buffer_13 rfl 14 rfl ?_
    refine r_callI hC (go_T (As := [.long (v4.toInt64), .long 0, .long 1]) (rest := []) hC (ctX5_in (zl z) g M2 (v4.toInt64) 0 1 _ hw) 3 gX5_buffer_X5_in rfl ⟨rfl, rfl⟩ hdT_X5_in ⟨Nat.le_of_ble_eq_true rfl, Nat.le_of_ble_eq_true rfl⟩ rfl rfl (Nat.le_of_ble_eq_true rfl) dX5_buffer_14) 17 rfl (fun r3 M4 hw => ?_)
    refine q_if_ne hC 22 dX5_buffer_17 (by decide) 20 rfl hw (fun hw => ?_) (fun hw => ?_)
    · refine q_iconst (v := 1) hC dX5_buffer_22 rfl 23 rfl ?_
      refine q_istore (L' := [(5, .int 1), (0, .ref (gA g 52)), (1, .int v1), (2, .int v2), (3, .int v3), (4, .int v4)]) hC dX5_buffer_23 (by decide) rfl 25 rfl ?_
      refine q_aload_n hC dX5_buffer_25 1 rfl 26 rfl ?_
      refine q_iload_n hC dX5_buffer_26 2 rfl 27 rfl ?_
      refine q_iload_n hC dX5_buffer_27 3 rfl 28 rfl ?_
      refine q_iload_n hC dX5_buffer_28 4 rfl 29 rfl ?_
      refine q_iconst (v := 1) hC dX5_buffer_29 rfl 30 rfl ?_
      refine r_callI hC (go_V (q := (RX5, TX5, 26)) (As := [.int v1, .int v2, .int v3, .int 1]) (rest := []) hC (ctX5_streams (zl z) g M4 v1 v2 v3 1 _ hF hw) 4 gX5_buffer_X5_streams rfl ⟨rfl, rfl⟩ hdV_X5_streams ⟨Nat.le_of_ble_eq_true rfl, Nat.le_of_ble_eq_true rfl⟩ (obF52 hF) rfl rfl rfl (Nat.le_of_ble_eq_true rfl) dX5_buffer_30) 33 rfl (fun r5 M6 hw => ?_)
      refine q_istore (L' := [(6, .int r5), (5, .int 1), (0, .ref (gA g 52)), (1, .int v1), (2, .int v2), (3, .int v3), (4, .int v4)]) hC dX5_buffer_33 (by decide) rfl 35 rfl ?_
      refine q_iconst (v := 2) hC dX5_buffer_35 rfl 36 rfl ?_
      refine q_istore (L' := [(7, .int 2), (6, .int r5), (5, .int 1), (0, .ref (gA g 52)), (1, .int v1), (2, .int v2), (3, .int v3), (4, .int v4)]) hC dX5_buffer_36 (by decide) rfl 38 rfl ?_
      obtain ⟨n0, hw⟩ := hw
      exact XX.sub [3, 4, 5, 6, 7, 2, 1, 0] rfl (B38 n0 M6 1 r5 2 hw)
    · refine q_iconst (v := (-1)) hC dX5_buffer_20 rfl 21 rfl ?_
      exact r_iret hR dX5_buffer_21 hw
theorem inX5_saw_X5 : ∀ w ∈ u_ws RX5 TX5 26, w ∈ wsX5_saw := uX5_saw__wsX50
set_option maxRecDepth 100000 in
set_option maxHeartbeats 4000000 in
theorem ctX5_saw (l : Launch) (g : GG) (M : MM) (v1 : Int32) (v2 : Int32) (Q : Int32 → MM → Prop) (hF : ful5 g) (hw : wX5_saw Q M v1 v2) : MI g l yX5_saw wsX5_saw (rmOf 1 25) [.ref (gA g 52), .int v1, .int v2] M Q := by
  refine mk_MI (cc := cX5_saw) (maxL := 3) (by decide) rfl (Nat.le_of_ble_eq_true rfl) ?_
  intro z Qf hC hR
  show XX z g Qf 3 0 [(0, .ref (gA g 52)), (1, .int v1), (2, .int v2)] [] M
  refine q_iload_n hC dX5_saw_0 1 rfl 1 rfl ?_
  refine q_i2l hC dX5_saw_1 2 rfl ?_
  refine q_lconst (v := 0) hC dX5_saw_2 rfl 3 rfl ?_
  refine q_ldc2 (v := 999) hC (uX5_saw__o _ (List.mem_of_getElem? (l := owX5_saw) (i := 1) rfl)) dX5_saw_3 6 rfl ?_
  refine r_callI hC (go_T (As := [.long (v1.toInt64), .long 0, .long 999]) (rest := []) hC (ctX5_in (zl z) g M (v1.toInt64) 0 999 _ hw) 3 gX5_saw_X5_in rfl ⟨rfl, rfl⟩ hdT_X5_in ⟨Nat.le_of_ble_eq_true rfl, Nat.le_of_ble_eq_true rfl⟩ rfl rfl (Nat.le_of_ble_eq_true rfl) dX5_saw_6) 9 rfl (fun r1 M2 hw => ?_)
  refine q_if_eq hC 24 dX5_saw_9 (by decide) 12 rfl hw (fun hw => ?_) (fun hw => ?_)
  · refine q_iconst (v := (-1)) hC dX5_saw_24 rfl 25 rfl ?_
    exact r_iret hR dX5_saw_25 hw
  · refine q_iload_n hC dX5_saw_12 2 rfl 13 rfl ?_
    refine q_i2l hC dX5_saw_13 14 rfl ?_
    refine q_lconst (v := 0) hC dX5_saw_14 rfl 15 rfl ?_
    refine q_ldc2 (v := 9999) hC (uX5_saw__o _ (List.mem_of_getElem? (l := owX5_saw) (i := 2) rfl)) dX5_saw_15 18 rfl ?_
    refine r_callI hC (go_T (As := [.long (v2.toInt64), .long 0, .long 9999]) (rest := []) hC (ctX5_in (zl z) g M2 (v2.toInt64) 0 9999 _ hw) 3 gX5_saw_X5_in rfl ⟨rfl, rfl⟩ hdT_X5_in ⟨Nat.le_of_ble_eq_true rfl, Nat.le_of_ble_eq_true rfl⟩ rfl rfl (Nat.le_of_ble_eq_true rfl) dX5_saw_18) 21 rfl (fun r3 M4 hw => ?_)
    refine q_if_ne hC 26 dX5_saw_21 (by decide) 24 rfl hw (fun hw => ?_) (fun hw => ?_)
    · refine q_aload_n hC dX5_saw_26 0 rfl 27 rfl ?_
      refine q_getR (C := RX5) (T := TX5) (N := 26) (ci := 5) hC inX5_saw_X5 (obF52 hF) rfl 0 (by decide) (uX5_saw__o _ (List.mem_of_getElem? (l := owX5_saw) (i := 3) rfl)) rfl 53 (fun _ => rfl) dX5_saw_27 30 rfl ?_
      refine q_sipush (v := 341) hC dX5_saw_30 (by decide) 33 rfl ?_
      refine q_ialdL hC (arF53 hF) 341 (by decide +kernel) (by decide +kernel) dX5_saw_33 34 rfl ?_
      refine q_bipush (v := 12) hC dX5_saw_34 (by decide) 36 rfl ?_
      refine q_icmp_ne hC 42 dX5_saw_36 (by decide) 39 rfl hw (fun hw => ?_) (fun hw => ?_)
      · refine q_aload_n hC dX5_saw_42 0 rfl 43 rfl ?_
        refine q_getR (C := RX5) (T := TX5) (N := 26) (ci := 5) hC inX5_saw_X5 (obF52 hF) rfl 0 (by decide) (uX5_saw__o _ (List.mem_of_getElem? (l := owX5_saw) (i := 3) rfl)) rfl 53 (fun _ => rfl) dX5_saw_43 46 rfl ?_
        refine q_sipush (v := 342) hC dX5_saw_46 (by decide) 49 rfl ?_
        refine q_iconst (v := 2) hC dX5_saw_49 rfl 50 rfl ?_
        refine q_aload_n hC dX5_saw_50 0 rfl 51 rfl ?_
        refine q_getR (C := RX5) (T := TX5) (N := 26) (ci := 5) hC inX5_saw_X5 (obF52 hF) rfl 0 (by decide) (uX5_saw__o _ (List.mem_of_getElem? (l := owX5_saw) (i := 3) rfl)) rfl 53 (fun _ => rfl) dX5_saw_51 54 rfl ?_
        refine q_sipush (v := 341) hC dX5_saw_54 (by decide) 57 rfl ?_
        refine q_ialdL hC (arF53 hF) 341 (by decide +kernel) (by decide +kernel) dX5_saw_57 58 rfl ?_
        refine q_imul hC dX5_saw_58 59 rfl ?_
        refine q_iadd hC dX5_saw_59 60 rfl ?_
        refine q_iload_n hC dX5_saw_60 1 rfl 61 rfl ?_
        obtain ⟨hin, hw⟩ := hw
        refine q_iast hC (arF53 hF) hin dX5_saw_61 62 rfl (fun M5 eM5 => ?_)
        have hw := hw M5 eM5
        refine q_aload_n hC dX5_saw_62 0 rfl 63 rfl ?_
        refine q_getR (C := RX5) (T := TX5) (N := 26) (ci := 5) hC inX5_saw_X5 (obF52 hF) rfl 0 (by decide) (uX5_saw__o _ (List.mem_of_getElem? (l := owX5_saw) (i := 3) rfl)) rfl 53 (fun _ => rfl) dX5_saw_63 66 rfl ?_
        refine q_sipush (v := 342) hC dX5_saw_66 (by decide) 69 rfl ?_
        refine q_iconst (v := 2) hC dX5_saw_69 rfl 70 rfl ?_
        refine q_aload_n hC dX5_saw_70 0 rfl 71 rfl ?_
        refine q_getR (C := RX5) (T := TX5) (N := 26) (ci := 5) hC inX5_saw_X5 (obF52 hF) rfl 0 (by decide) (uX5_saw__o _ (List.mem_of_getElem? (l := owX5_saw) (i := 3) rfl)) rfl 53 (fun _ => rfl) dX5_saw_71 74 rfl ?_
        refine q_sipush (v := 341) hC dX5_saw_74 (by decide) 77 rfl ?_
        refine q_ialdL hC (arF53 hF) 341 (by decide +kernel) (by decide +kernel) dX5_saw_77 78 rfl ?_
        refine q_imul hC dX5_saw_78 79 rfl ?_
        refine q_iadd hC dX5_saw_79 80 rfl ?_
        refine q_iconst (v := 1) hC dX5_saw_80 rfl 81 rfl ?_
        refine q_iadd hC dX5_saw_81 82 rfl ?_
        refine q_iload_n hC dX5_saw_82 2 rfl 83 rfl ?_
        obtain ⟨hin, hw⟩ := hw
        refine q_iast hC (arF53 hF) hin dX5_saw_83 84 rfl (fun M6 eM6 => ?_)
        have hw := hw M6 eM6
        refine q_aload_n hC dX5_saw_84 0 rfl 85 rfl ?_
        refine q_getR (C := RX5) (T := TX5) (N := 26) (ci := 5) hC inX5_saw_X5 (obF52 hF) rfl 0 (by decide) (uX5_saw__o _ (List.mem_of_getElem? (l := owX5_saw) (i := 3) rfl)) rfl 53 (fun _ => rfl) dX5_saw_85 88 rfl ?_
        refine q_sipush (v := 341) hC dX5_saw_88 (by decide) 91 rfl ?_
        refine q_dup2 hC dX5_saw_91 rfl rfl 92 rfl ?_
        refine q_ialdL hC (arF53 hF) 341 (by decide +kernel) (by decide +kernel) dX5_saw_92 93 rfl ?_
        refine q_iconst (v := 1) hC dX5_saw_93 rfl 94 rfl ?_
        refine q_iadd hC dX5_saw_94 95 rfl ?_
        refine q_iastL hC (arF53 hF) 341 (by decide +kernel) (by decide +kernel) dX5_saw_95 96 rfl (fun M7 eM7 => ?_)
        have hw := hw M7 eM7
        refine q_aload_n hC dX5_saw_96 0 rfl 97 rfl ?_
        refine q_getR (C := RX5) (T := TX5) (N := 26) (ci := 5) hC inX5_saw_X5 (obF52 hF) rfl 0 (by decide) (uX5_saw__o _ (List.mem_of_getElem? (l := owX5_saw) (i := 3) rfl)) rfl 53 (fun _ => rfl) dX5_saw_97 100 rfl ?_
        refine q_sipush (v := 341) hC dX5_saw_100 (by decide) 103 rfl ?_
        refine q_ialdL hC (arF53 hF) 341 (by decide +kernel) (by decide +kernel) dX5_saw_103 104 rfl ?_
        exact r_iret hR dX5_saw_104 hw
      · refine q_bipush (v := (-3)) hC dX5_saw_39 (by decide) 41 rfl ?_
        exact r_iret hR dX5_saw_41 hw
    · refine q_iconst (v := (-1)) hC dX5_saw_24 rfl 25 rfl ?_
      exact r_iret hR dX5_saw_25 hw
theorem inX5_forget_X5 : ∀ w ∈ u_ws RX5 TX5 26, w ∈ wsX5_forget := uX5_forget__wsX50
set_option maxRecDepth 100000 in
set_option maxHeartbeats 4000000 in
theorem ctX5_forget (l : Launch) (g : GG) (M : MM)  (Q : Int32 → MM → Prop) (hF : ful5 g) (hw : wX5_forget Q M ) : MI g l yX5_forget wsX5_forget (rmOf 0 0) [.ref (gA g 52)] M Q := by
  refine mk_MI (cc := cX5_forget) (maxL := 2) (by decide) rfl (Nat.le_of_ble_eq_true rfl) ?_
  intro z Qf hC hR
  show XX z g Qf 2 0 [(0, .ref (gA g 52))] [] M
  refine q_aload_n hC dX5_forget_0 0 rfl 1 rfl ?_
  refine q_getR (C := RX5) (T := TX5) (N := 26) (ci := 5) hC inX5_forget_X5 (obF52 hF) rfl 0 (by decide) (uX5_forget__o _ (List.mem_of_getElem? (l := owX5_forget) (i := 1) rfl)) rfl 53 (fun _ => rfl) dX5_forget_1 4 rfl ?_
  refine q_sipush (v := 341) hC dX5_forget_4 (by decide) 7 rfl ?_
  refine q_ialdL hC (arF53 hF) 341 (by decide +kernel) (by decide +kernel) dX5_forget_7 8 rfl ?_
  refine q_istore_n (L' := [(1, .int (M 53 341)), (0, .ref (gA g 52))]) hC dX5_forget_8 (by decide) rfl 9 rfl ?_
  refine q_aload_n hC dX5_forget_9 1 rfl 10 rfl ?_
  refine q_getR (C := RX5) (T := TX5) (N := 26) (ci := 5) hC inX5_forget_X5 (obF52 hF) rfl 0 (by decide) (uX5_forget__o _ (List.mem_of_getElem? (l := owX5_forget) (i := 1) rfl)) rfl 53 (fun _ => rfl) dX5_forget_10 13 rfl ?_
  refine q_sipush (v := 341) hC dX5_forget_13 (by decide) 16 rfl ?_
  refine q_iconst (v := 0) hC dX5_forget_16 rfl 17 rfl ?_
  refine q_iastL hC (arF53 hF) 341 (by decide +kernel) (by decide +kernel) dX5_forget_17 18 rfl (fun M1 eM1 => ?_)
  have hw := hw M1 eM1
  refine q_iload_n hC dX5_forget_18 0 rfl 19 rfl ?_
  exact r_iret hR dX5_forget_19 hw
theorem inX5_canBe_X5 : ∀ w ∈ u_ws RX5 TX5 26, w ∈ wsX5_canBe := uX5_canBe__wsX50
set_option maxRecDepth 100000 in
set_option maxHeartbeats 4000000 in
theorem ctX5_canBe (l : Launch) (g : GG) (M : MM) (v1 : Int32) (v2 : Int32) (Q : Int32 → MM → Prop) (hF : ful5 g) (hw : wX5_canBe Q M v1 v2) : MI g l yX5_canBe wsX5_canBe (rmOf 1 24) [.ref (gA g 52), .int v1, .int v2] M Q := by
  refine mk_MZ (cc := cX5_canBe) (maxL := 4) (by decide) rfl (Nat.le_of_ble_eq_true rfl) ?_
  intro z Qf hC hR
  show XX z g Qf 4 0 [(0, .ref (gA g 52)), (1, .int v1), (2, .int v2)] [] M
  have B2 : ∀ (n : Nat) (M : MM) (v3 : Int32) , wX5_canBe_2 Q v1 v2 n M v3 → XX z g Qf 4 2 [(0, .ref (gA g 52)), (1, .int v1), (2, .int v2), (3, .int v3)] [] M := by
    intro n
    induction n with
    | zero =>
      intro M v3 hw
      exact hw.elim
    | succ n ih =>
      intro M v3 hw
      refine q_iload_n hC dX5_canBe_2 3 rfl 3 rfl ?_
      refine q_aload_n hC dX5_canBe_3 0 rfl 4 rfl ?_
      refine q_getR (C := RX5) (T := TX5) (N := 26) (ci := 5) hC inX5_canBe_X5 (obF52 hF) rfl 0 (by decide) (uX5_canBe__o _ (List.mem_of_getElem? (l := owX5_canBe) (i := 1) rfl)) rfl 53 (fun _ => rfl) dX5_canBe_4 7 rfl ?_
      refine q_sipush (v := 341) hC dX5_canBe_7 (by decide) 10 rfl ?_
      refine q_ialdL hC (arF53 hF) 341 (by decide +kernel) (by decide +kernel) dX5_canBe_10 11 rfl ?_
      refine q_icmp_ge hC 56 dX5_canBe_11 (by decide) 14 rfl hw (fun hw => ?_) (fun hw => ?_)
      · refine q_iconst (v := 1) hC dX5_canBe_56 rfl 57 rfl ?_
        exact r_iret hR dX5_canBe_57 ⟨nb_1, hw⟩
      · refine q_aload_n hC dX5_canBe_14 0 rfl 15 rfl ?_
        refine q_getR (C := RX5) (T := TX5) (N := 26) (ci := 5) hC inX5_canBe_X5 (obF52 hF) rfl 0 (by decide) (uX5_canBe__o _ (List.mem_of_getElem? (l := owX5_canBe) (i := 1) rfl)) rfl 53 (fun _ => rfl) dX5_canBe_15 18 rfl ?_
        refine q_sipush (v := 342) hC dX5_canBe_18 (by decide) 21 rfl ?_
        refine q_iconst (v := 2) hC dX5_canBe_21 rfl 22 rfl ?_
        refine q_iload_n hC dX5_canBe_22 3 rfl 23 rfl ?_
        refine q_imul hC dX5_canBe_23 24 rfl ?_
        refine q_iadd hC dX5_canBe_24 25 rfl ?_
        refine q_iconst (v := 1) hC dX5_canBe_25 rfl 26 rfl ?_
        refine q_iadd hC dX5_canBe_26 27 rfl ?_
        obtain ⟨hin, hw⟩ := hw
        refine q_iald hC (arF53 hF) hin dX5_canBe_27 28 rfl ?_
        refine q_iload_n hC dX5_canBe_28 1 rfl 29 rfl ?_
        refine q_iload_n hC dX5_canBe_29 2 rfl 30 rfl ?_
        refine r_callI hC (go_T (As := [.int (M 53 (((342 : Int32) + ((2 : Int32) * v3)) + (1 : Int32)).toNatClampNeg), .int v1, .int v2]) (rest := []) hC (ctX5_turnsOf (zl z) g M (M 53 (((342 : Int32) + ((2 : Int32) * v3)) + (1 : Int32)).toNatClampNeg) v1 v2 _ hw) 3 gX5_canBe_X5_turnsOf rfl ⟨rfl, rfl⟩ hdT_X5_turnsOf ⟨Nat.le_of_ble_eq_true rfl, Nat.le_of_ble_eq_true rfl⟩ rfl rfl (Nat.le_of_ble_eq_true rfl) dX5_canBe_30) 33 rfl (fun r1 M2 hw => ?_)
        refine q_aload_n hC dX5_canBe_33 0 rfl 34 rfl ?_
        refine q_getR (C := RX5) (T := TX5) (N := 26) (ci := 5) hC inX5_canBe_X5 (obF52 hF) rfl 0 (by decide) (uX5_canBe__o _ (List.mem_of_getElem? (l := owX5_canBe) (i := 1) rfl)) rfl 53 (fun _ => rfl) dX5_canBe_34 37 rfl ?_
        refine q_sipush (v := 342) hC dX5_canBe_37 (by decide) 40 rfl ?_
        refine q_iconst (v := 2) hC dX5_canBe_40 rfl 41 rfl ?_
        refine q_iload_n hC dX5_canBe_41 3 rfl 42 rfl ?_
        refine q_imul hC dX5_canBe_42 43 rfl ?_
        refine q_iadd hC dX5_canBe_43 44 rfl ?_
        obtain ⟨hin, hw⟩ := hw
        refine q_iald hC (arF53 hF) hin dX5_canBe_44 45 rfl ?_
        refine q_icmp_eq hC 50 dX5_canBe_45 (by decide) 48 rfl hw (fun hw => ?_) (fun hw => ?_)
        · refine q_iinc (v := v3 + 1) (L' := [(3, .int (v3 + 1)), (0, .ref (gA g 52)), (1, .int v1), (2, .int v2)]) hC dX5_canBe_50 3 rfl rfl (by decide) rfl 53 rfl ?_
          refine q_goto hC 2 dX5_canBe_53 (by decide) ?_
          exact XX.sub [1, 2, 3, 0] rfl (ih M2 (v3 + 1) hw)
        · refine q_iconst (v := 0) hC dX5_canBe_48 rfl 49 rfl ?_
          exact r_iret hR dX5_canBe_49 ⟨nb_0, hw⟩
  refine q_iconst (v := 0) hC dX5_canBe_0 rfl 1 rfl ?_
  refine q_istore_n (L' := [(3, .int 0), (0, .ref (gA g 52)), (1, .int v1), (2, .int v2)]) hC dX5_canBe_1 (by decide) rfl 2 rfl ?_
  obtain ⟨n0, hw⟩ := hw
  exact XX.sub [1, 2, 3, 0] rfl (B2 n0 M 0 hw)
theorem hdV_X5_canBe : yX5_canBe.cls = RX5 ∧ yX5_canBe.cls ≠ "java/lang/invoke/MethodHandle" ∧ yX5_canBe.cls ≠ "java/lang/invoke/VarHandle" ∧ (parseMethodDescriptor yX5_canBe.desc).map (fun d => d.parameters.length) = some 2 := by decide +kernel
set_option maxRecDepth 100000 in
set_option maxHeartbeats 4000000 in
theorem ctX5_fits (l : Launch) (g : GG) (M : MM) (v1 : Int32) (Q : Int32 → MM → Prop) (hF : ful5 g) (hw : wX5_fits Q M v1) : MI g l yX5_fits wsX5_fits (rmOf 2 47) [.ref (gA g 52), .int v1] M Q := by
  refine mk_MI (cc := cX5_fits) (maxL := 6) (by decide) rfl (Nat.le_of_ble_eq_true rfl) ?_
  intro z Qf hC hR
  show XX z g Qf 6 0 [(0, .ref (gA g 52)), (1, .int v1)] [] M
  have B72 : ∀ (K22 : MM → Int32 → Int32 → Int32 → Prop) (hK22 : ∀ (M : MM) (v2 : Int32) (v3 : Int32) (v4 : Int32) , K22 M v2 v3 v4 → XX z g Qf 6 22 [(0, .ref (gA g 52)), (1, .int v1), (2, .int v2), (3, .int v3), (4, .int v4)] [] M) (K32 : MM → Int32 → Int32 → Int32 → Int32 → Prop) (hK32 : ∀ (M : MM) (v2 : Int32) (v3 : Int32) (v4 : Int32) (v5 : Int32) , K32 M v2 v3 v4 v5 → XX z g Qf 6 32 [(0, .ref (gA g 52)), (1, .int v1), (2, .int v2), (3, .int v3), (4, .int v4), (5, .int v5)] [] M) (M : MM) (v2 : Int32) (v3 : Int32) (v4 : Int32) (v5 : Int32), wX5_fits_72 Q K22 K32 v1 M v2 v3 v4 v5 → XX z g Qf 6 72 [(0, .ref (gA g 52)), (1, .int v1), (2, .int v2), (3, .int v3), (4, .int v4), (5, .int v5)] [] M := by
    intro K22 hK22 K32 hK32 M v2 v3 v4 v5 hw
    refine q_iinc (v := v5 + 1) (L' := [(5, .int (v5 + 1)), (0, .ref (gA g 52)), (1, .int v1), (2, .int v2), (3, .int v3), (4, .int v4)]) hC dX5_fits_72 5 rfl rfl (by decide) rfl 75 rfl ?_
    refine q_goto hC 32 dX5_fits_75 (by decide) ?_
    exact XX.sub [1, 2, 3, 4, 5, 0] rfl (hK32 M v2 v3 v4 (v5 + 1) hw)
  have B68 : ∀ (K22 : MM → Int32 → Int32 → Int32 → Prop) (hK22 : ∀ (M : MM) (v2 : Int32) (v3 : Int32) (v4 : Int32) , K22 M v2 v3 v4 → XX z g Qf 6 22 [(0, .ref (gA g 52)), (1, .int v1), (2, .int v2), (3, .int v3), (4, .int v4)] [] M) (K32 : MM → Int32 → Int32 → Int32 → Int32 → Prop) (hK32 : ∀ (M : MM) (v2 : Int32) (v3 : Int32) (v4 : Int32) (v5 : Int32) , K32 M v2 v3 v4 v5 → XX z g Qf 6 32 [(0, .ref (gA g 52)), (1, .int v1), (2, .int v2), (3, .int v3), (4, .int v4), (5, .int v5)] [] M) (M : MM) (v2 : Int32) (v4 : Int32) (v5 : Int32) (p0 : Int32), wX5_fits_68 Q K22 K32 v1 M v2 v4 v5 p0 → XX z g Qf 6 68 [(0, .ref (gA g 52)), (1, .int v1), (2, .int v2), (4, .int v4), (5, .int v5)] [.int p0] M := by
    intro K22 hK22 K32 hK32 M v2 v4 v5 p0 hw
    refine q_istore_n (L' := [(3, .int p0), (0, .ref (gA g 52)), (1, .int v1), (2, .int v2), (4, .int v4), (5, .int v5)]) hC dX5_fits_68 (by decide) rfl 69 rfl ?_
    refine q_iinc (v := v2 + 1) (L' := [(2, .int (v2 + 1)), (3, .int p0), (0, .ref (gA g 52)), (1, .int v1), (4, .int v4), (5, .int v5)]) hC dX5_fits_69 3 rfl rfl (by decide) rfl 72 rfl ?_
    exact XX.sub [2, 3, 0, 1, 4, 5] rfl (B72 _ hK22 _ hK32 M (v2 + 1) p0 v4 v5 hw)
  have B32 : ∀ (K22 : MM → Int32 → Int32 → Int32 → Prop) (hK22 : ∀ (M : MM) (v2 : Int32) (v3 : Int32) (v4 : Int32) , K22 M v2 v3 v4 → XX z g Qf 6 22 [(0, .ref (gA g 52)), (1, .int v1), (2, .int v2), (3, .int v3), (4, .int v4)] [] M) (n : Nat) (M : MM) (v2 : Int32) (v3 : Int32) (v4 : Int32) (v5 : Int32) , wX5_fits_32 Q K22 v1 n M v2 v3 v4 v5 → XX z g Qf 6 32 [(0, .ref (gA g 52)), (1, .int v1), (2, .int v2), (3, .int v3), (4, .int v4), (5, .int v5)] [] M := by
    intro K22 hK22 n
    induction n with
    | zero =>
      intro M v2 v3 v4 v5 hw
      exact hw.elim
    | succ n ih =>
      intro M v2 v3 v4 v5 hw
      refine q_iload hC dX5_fits_32 5 rfl 34 rfl ?_
      refine q_bipush (v := 10) hC dX5_fits_34 (by decide) 36 rfl ?_
      refine q_icmp_ge hC 78 dX5_fits_36 (by decide) 39 rfl hw (fun hw => ?_) (fun hw => ?_)
      · refine q_iinc (v := v4 + 1) (L' := [(4, .int (v4 + 1)), (0, .ref (gA g 52)), (1, .int v1), (2, .int v2), (3, .int v3), (5, .int v5)]) hC dX5_fits_78 4 rfl rfl (by decide) rfl 81 rfl ?_
        refine q_goto hC 22 dX5_fits_81 (by decide) ?_
        exact XX.sub [1, 2, 3, 4, 0] rfl (hK22 M v2 v3 (v4 + 1) hw)
      · refine q_aload_n hC dX5_fits_39 0 rfl 40 rfl ?_
        refine q_iload hC dX5_fits_40 4 rfl 42 rfl ?_
        refine q_iload hC dX5_fits_42 5 rfl 44 rfl ?_
        refine r_callI hC (go_V (q := (RX5, TX5, 26)) (As := [.int v4, .int v5]) (rest := []) hC (ctX5_canBe (zl z) g M v4 v5 _ hF hw) 2 gX5_fits_X5_canBe rfl ⟨rfl, rfl⟩ hdV_X5_canBe ⟨Nat.le_of_ble_eq_true rfl, Nat.le_of_ble_eq_true rfl⟩ (obF52 hF) rfl rfl rfl (Nat.le_of_ble_eq_true rfl) dX5_fits_44) 47 rfl (fun r3 M4 hw => ?_)
        refine q_if_eq hC 72 dX5_fits_47 (by decide) 50 rfl hw (fun hw => ?_) (fun hw => ?_)
        · exact XX.sub [0, 1, 2, 3, 4, 5] rfl (B72 _ hK22 _ (fun M v2 v3 v4 v5 hw => ih M v2 v3 v4 v5 hw) M4 v2 v3 v4 v5 hw)
        · refine q_iload_n hC dX5_fits_50 3 rfl 51 rfl ?_
          refine q_bipush (v := (-4)) hC dX5_fits_51 (by decide) 53 rfl ?_
          refine q_icmp_ne hC 67 dX5_fits_53 (by decide) 56 rfl hw (fun hw => ?_) (fun hw => ?_)
          · refine q_iload_n hC dX5_fits_67 3 rfl 68 rfl ?_
            exact XX.sub [0, 1, 2, 4, 5] rfl (B68 _ hK22 _ (fun M v2 v3 v4 v5 hw => ih M v2 v3 v4 v5 hw) M4 v2 v4 v5 v3 hw)
          · refine q_bipush (v := 10) hC dX5_fits_56 (by decide) 58 rfl ?_
            refine q_iload hC dX5_fits_58 4 rfl 60 rfl ?_
            refine q_imul hC dX5_fits_60 61 rfl ?_
            refine q_iload hC dX5_fits_61 5 rfl 63 rfl ?_
            refine q_iadd hC dX5_fits_63 64 rfl ?_
            refine q_goto hC 68 dX5_fits_64 (by decide) ?_
            exact XX.sub [0, 1, 2, 4, 5] rfl (B68 _ hK22 _ (fun M v2 v3 v4 v5 hw => ih M v2 v3 v4 v5 hw) M4 v2 v4 v5 (((10 : Int32) * v4) + v5) hw)
  have B22 : ∀ (n : Nat) (M : MM) (v2 : Int32) (v3 : Int32) (v4 : Int32) , wX5_fits_22 Q v1 n M v2 v3 v4 → XX z g Qf 6 22 [(0, .ref (gA g 52)), (1, .int v1), (2, .int v2), (3, .int v3), (4, .int v4)] [] M := by
    intro n
    induction n with
    | zero =>
      intro M v2 v3 v4 hw
      exact hw.elim
    | succ n ih =>
      intro M v2 v3 v4 hw
      refine q_iload hC dX5_fits_22 4 rfl 24 rfl ?_
      refine q_bipush (v := 100) hC dX5_fits_24 (by decide) 26 rfl ?_
      refine q_icmp_ge hC 84 dX5_fits_26 (by decide) 29 rfl hw (fun hw => ?_) (fun hw => ?_)
      · refine q_iload_n hC dX5_fits_84 1 rfl 85 rfl ?_
        refine q_if_ne hC 92 dX5_fits_85 (by decide) 88 rfl hw (fun hw => ?_) (fun hw => ?_)
        · refine q_iload_n hC dX5_fits_92 3 rfl 93 rfl ?_
          refine q_bipush (v := (-4)) hC dX5_fits_93 (by decide) 95 rfl ?_
          refine q_icmp_ne hC 103 dX5_fits_95 (by decide) 98 rfl hw (fun hw => ?_) (fun hw => ?_)
          · refine q_iload_n hC dX5_fits_103 1 rfl 104 rfl ?_
            refine q_iconst (v := 1) hC dX5_fits_104 rfl 105 rfl ?_
            refine q_icmp_ne hC 115 dX5_fits_105 (by decide) 108 rfl hw (fun hw => ?_) (fun hw => ?_)
            · refine q_iload_n hC dX5_fits_115 3 rfl 116 rfl ?_
              refine q_bipush (v := 10) hC dX5_fits_116 (by decide) 118 rfl ?_
              refine q_irem hC dX5_fits_118 (by decide) 119 rfl ?_
              exact r_iret hR dX5_fits_119 hw
            · refine q_iload_n hC dX5_fits_108 3 rfl 109 rfl ?_
              refine q_bipush (v := 10) hC dX5_fits_109 (by decide) 111 rfl ?_
              refine q_idiv hC dX5_fits_111 (by decide) 112 rfl ?_
              refine q_goto hC 119 dX5_fits_112 (by decide) ?_
              exact r_iret hR dX5_fits_119 hw
          · refine q_bipush (v := (-4)) hC dX5_fits_98 (by decide) 100 rfl ?_
            refine q_goto hC 119 dX5_fits_100 (by decide) ?_
            exact r_iret hR dX5_fits_119 hw
        · refine q_iload_n hC dX5_fits_88 2 rfl 89 rfl ?_
          refine q_goto hC 119 dX5_fits_89 (by decide) ?_
          exact r_iret hR dX5_fits_119 hw
      · refine q_iconst (v := 1) hC dX5_fits_29 rfl 30 rfl ?_
        refine q_istore (L' := [(5, .int 1), (0, .ref (gA g 52)), (1, .int v1), (2, .int v2), (3, .int v3), (4, .int v4)]) hC dX5_fits_30 (by decide) rfl 32 rfl ?_
        obtain ⟨n0, hw⟩ := hw
        exact XX.sub [1, 2, 3, 4, 5, 0] rfl (B32 _ (fun M v2 v3 v4 hw => ih M v2 v3 v4 hw) n0 M v2 v3 v4 1 hw)
  refine q_iload_n hC dX5_fits_0 1 rfl 1 rfl ?_
  refine q_i2l hC dX5_fits_1 2 rfl ?_
  refine q_lconst (v := 0) hC dX5_fits_2 rfl 3 rfl ?_
  refine q_ldc2 (v := 2) hC (uX5_fits__o _ (List.mem_of_getElem? (l := owX5_fits) (i := 1) rfl)) dX5_fits_3 6 rfl ?_
  refine r_callI hC (go_T (As := [.long (v1.toInt64), .long 0, .long 2]) (rest := []) hC (ctX5_in (zl z) g M (v1.toInt64) 0 2 _ hw) 3 gX5_fits_X5_in rfl ⟨rfl, rfl⟩ hdT_X5_in ⟨Nat.le_of_ble_eq_true rfl, Nat.le_of_ble_eq_true rfl⟩ rfl rfl (Nat.le_of_ble_eq_true rfl) dX5_fits_6) 9 rfl (fun r1 M2 hw => ?_)
  refine q_if_ne hC 14 dX5_fits_9 (by decide) 12 rfl hw (fun hw => ?_) (fun hw => ?_)
  · refine q_iconst (v := 0) hC dX5_fits_14 rfl 15 rfl ?_
    refine q_istore_n (L' := [(2, .int 0), (0, .ref (gA g 52)), (1, .int v1)]) hC dX5_fits_15 (by decide) rfl 16 rfl ?_
    refine q_bipush (v := (-4)) hC dX5_fits_16 (by decide) 18 rfl ?_
    refine q_istore_n (L' := [(3, .int (-4)), (2, .int 0), (0, .ref (gA g 52)), (1, .int v1)]) hC dX5_fits_18 (by decide) rfl 19 rfl ?_
    refine q_iconst (v := 5) hC dX5_fits_19 rfl 20 rfl ?_
    refine q_istore (L' := [(4, .int 5), (3, .int (-4)), (2, .int 0), (0, .ref (gA g 52)), (1, .int v1)]) hC dX5_fits_20 (by decide) rfl 22 rfl ?_
    obtain ⟨n0, hw⟩ := hw
    exact XX.sub [3, 4, 2, 1, 0] rfl (B22 n0 M2 0 (-4) 5 hw)
  · refine q_iconst (v := (-1)) hC dX5_fits_12 rfl 13 rfl ?_
    exact r_iret hR dX5_fits_13 hw
theorem inX5_copies_X5 : ∀ w ∈ u_ws RX5 TX5 26, w ∈ wsX5_copies := uX5_copies__wsX50
set_option maxRecDepth 100000 in
set_option maxHeartbeats 4000000 in
theorem ctX5_copies (l : Launch) (g : GG) (M : MM) (v1 : Int32) (v2 : Int32) (Q : MM → Prop) (hF : ful5 g) (hw : wX5_copies Q M v1 v2) : MV g l yX5_copies wsX5_copies (rmOf 0 0) [.ref (gA g 52), .int v1, .int v2] M Q := by
  refine mk_MV (cc := cX5_copies) (maxL := 4) (by decide) rfl (Nat.le_of_ble_eq_true rfl) ?_
  intro z Qf hC hR
  show XX z g Qf 4 0 [(0, .ref (gA g 52)), (1, .int v1), (2, .int v2)] [] M
  have B2 : ∀ (n : Nat) (M : MM) (v3 : Int32) , wX5_copies_2 Q v1 v2 n M v3 → XX z g Qf 4 2 [(0, .ref (gA g 52)), (1, .int v1), (2, .int v2), (3, .int v3)] [] M := by
    intro n
    induction n with
    | zero =>
      intro M v3 hw
      exact hw.elim
    | succ n ih =>
      intro M v3 hw
      refine q_iload_n hC dX5_copies_2 3 rfl 3 rfl ?_
      refine q_sipush (v := 400) hC dX5_copies_3 (by decide) 6 rfl ?_
      refine q_icmp_ge hC 31 dX5_copies_6 (by decide) 9 rfl hw (fun hw => ?_) (fun hw => ?_)
      · exact r_vret hR dX5_copies_31 hw
      · refine q_aload_n hC dX5_copies_9 0 rfl 10 rfl ?_
        refine q_getR (C := RX5) (T := TX5) (N := 26) (ci := 5) hC inX5_copies_X5 (obF52 hF) rfl 0 (by decide) (uX5_copies__o _ (List.mem_of_getElem? (l := owX5_copies) (i := 1) rfl)) rfl 53 (fun _ => rfl) dX5_copies_10 13 rfl ?_
        refine q_iload_n hC dX5_copies_13 1 rfl 14 rfl ?_
        refine q_iload_n hC dX5_copies_14 3 rfl 15 rfl ?_
        refine q_iadd hC dX5_copies_15 16 rfl ?_
        refine q_aload_n hC dX5_copies_16 0 rfl 17 rfl ?_
        refine q_getR (C := RX5) (T := TX5) (N := 26) (ci := 5) hC inX5_copies_X5 (obF52 hF) rfl 0 (by decide) (uX5_copies__o _ (List.mem_of_getElem? (l := owX5_copies) (i := 1) rfl)) rfl 53 (fun _ => rfl) dX5_copies_17 20 rfl ?_
        refine q_iload_n hC dX5_copies_20 2 rfl 21 rfl ?_
        refine q_iload_n hC dX5_copies_21 3 rfl 22 rfl ?_
        refine q_iadd hC dX5_copies_22 23 rfl ?_
        obtain ⟨hin, hw⟩ := hw
        refine q_iald hC (arF53 hF) hin dX5_copies_23 24 rfl ?_
        obtain ⟨hin, hw⟩ := hw
        refine q_iast hC (arF53 hF) hin dX5_copies_24 25 rfl (fun M1 eM1 => ?_)
        have hw := hw M1 eM1
        refine q_iinc (v := v3 + 1) (L' := [(3, .int (v3 + 1)), (0, .ref (gA g 52)), (1, .int v1), (2, .int v2)]) hC dX5_copies_25 3 rfl rfl (by decide) rfl 28 rfl ?_
        refine q_goto hC 2 dX5_copies_28 (by decide) ?_
        exact XX.sub [1, 2, 3, 0] rfl (ih M1 (v3 + 1) hw)
  refine q_iconst (v := 0) hC dX5_copies_0 rfl 1 rfl ?_
  refine q_istore_n (L' := [(3, .int 0), (0, .ref (gA g 52)), (1, .int v1), (2, .int v2)]) hC dX5_copies_1 (by decide) rfl 2 rfl ?_
  obtain ⟨n0, hw⟩ := hw
  exact XX.sub [1, 2, 3, 0] rfl (B2 n0 M 0 hw)
theorem hdV_X5_copies : yX5_copies.cls = RX5 ∧ yX5_copies.cls ≠ "java/lang/invoke/MethodHandle" ∧ yX5_copies.cls ≠ "java/lang/invoke/VarHandle" ∧ (parseMethodDescriptor yX5_copies.desc).map (fun d => d.parameters.length) = some 2 := by decide +kernel
theorem inX5_keep_X5 : ∀ w ∈ u_ws RX5 TX5 26, w ∈ wsX5_keep := uX5_keep__wsX50
set_option maxRecDepth 100000 in
set_option maxHeartbeats 4000000 in
theorem ctX5_keep (l : Launch) (g : GG) (M : MM) (v1 : Int32) (Q : Int32 → MM → Prop) (hF : ful5 g) (hw : wX5_keep Q M v1) : MI g l yX5_keep wsX5_keep (rmOf 1 25) [.ref (gA g 52), .int v1] M Q := by
  refine mk_MI (cc := cX5_keep) (maxL := 3) (by decide) rfl (Nat.le_of_ble_eq_true rfl) ?_
  intro z Qf hC hR
  show XX z g Qf 3 0 [(0, .ref (gA g 52)), (1, .int v1)] [] M
  refine q_iload_n hC dX5_keep_0 1 rfl 1 rfl ?_
  refine q_i2l hC dX5_keep_1 2 rfl ?_
  refine q_lconst (v := 0) hC dX5_keep_2 rfl 3 rfl ?_
  refine q_lconst (v := 1) hC dX5_keep_3 rfl 4 rfl ?_
  refine r_callI hC (go_T (As := [.long (v1.toInt64), .long 0, .long 1]) (rest := []) hC (ctX5_in (zl z) g M (v1.toInt64) 0 1 _ hw) 3 gX5_keep_X5_in rfl ⟨rfl, rfl⟩ hdT_X5_in ⟨Nat.le_of_ble_eq_true rfl, Nat.le_of_ble_eq_true rfl⟩ rfl rfl (Nat.le_of_ble_eq_true rfl) dX5_keep_4) 7 rfl (fun r1 M2 hw => ?_)
  refine q_if_ne hC 12 dX5_keep_7 (by decide) 10 rfl hw (fun hw => ?_) (fun hw => ?_)
  · refine q_aload_n hC dX5_keep_12 0 rfl 13 rfl ?_
    refine q_getR (C := RX5) (T := TX5) (N := 26) (ci := 5) hC inX5_keep_X5 (obF52 hF) rfl 1 (by decide) (uX5_keep__o _ (List.mem_of_getElem? (l := owX5_keep) (i := 1) rfl)) rfl 54 (fun _ => rfl) dX5_keep_13 16 rfl ?_
    refine q_iload_n hC dX5_keep_16 1 rfl 17 rfl ?_
    obtain ⟨hin, hw⟩ := hw
    refine q_zald hC (arF54 hF) hin dX5_keep_17 18 rfl ?_
    refine r_callI hC (go_T (As := [.int (M2 54 v1.toNatClampNeg)]) (rest := []) hC (ctX5_flag (zl z) g M2 (M2 54 v1.toNatClampNeg) _ hw) 1 gX5_keep_X5_flag rfl ⟨rfl, rfl⟩ hdT_X5_flag ⟨Nat.le_of_ble_eq_true rfl, Nat.le_of_ble_eq_true rfl⟩ rfl rfl (Nat.le_of_ble_eq_true rfl) dX5_keep_18) 21 rfl (fun r3 M4 hw => ?_)
    refine q_istore_n (L' := [(2, .int r3), (0, .ref (gA g 52)), (1, .int v1)]) hC dX5_keep_21 (by decide) rfl 22 rfl ?_
    refine q_aload_n hC dX5_keep_22 1 rfl 23 rfl ?_
    refine q_getR (C := RX5) (T := TX5) (N := 26) (ci := 5) hC inX5_keep_X5 (obF52 hF) rfl 1 (by decide) (uX5_keep__o _ (List.mem_of_getElem? (l := owX5_keep) (i := 1) rfl)) rfl 54 (fun _ => rfl) dX5_keep_23 26 rfl ?_
    refine q_iload_n hC dX5_keep_26 2 rfl 27 rfl ?_
    refine q_iconst (v := 1) hC dX5_keep_27 rfl 28 rfl ?_
    obtain ⟨hin, hw⟩ := hw
    refine q_zast hC (arF54 hF) hin dX5_keep_28 29 rfl (fun M5 eM5 => ?_)
    have hw := hw M5 eM5
    refine q_aload_n hC dX5_keep_29 1 rfl 30 rfl ?_
    refine q_sipush (v := 400) hC dX5_keep_30 (by decide) 33 rfl ?_
    refine q_iload_n hC dX5_keep_33 2 rfl 34 rfl ?_
    refine q_iconst (v := 1) hC dX5_keep_34 rfl 35 rfl ?_
    refine q_iadd hC dX5_keep_35 36 rfl ?_
    refine q_imul hC dX5_keep_36 37 rfl ?_
    refine q_iconst (v := 0) hC dX5_keep_37 rfl 38 rfl ?_
    refine r_callV hC (go_V (q := (RX5, TX5, 26)) (As := [.int ((400 : Int32) * (v1 + (1 : Int32))), .int 0]) (rest := []) hC (ctX5_copies (zl z) g M5 ((400 : Int32) * (v1 + (1 : Int32))) 0 _ hF hw) 2 gX5_keep_X5_copies rfl ⟨rfl, rfl⟩ hdV_X5_copies ⟨Nat.le_of_ble_eq_true rfl, Nat.le_of_ble_eq_true rfl⟩ (obF52 hF) rfl rfl rfl (Nat.le_of_ble_eq_true rfl) dX5_keep_38) 41 rfl (fun M6 hw => ?_)
    refine q_iload_n hC dX5_keep_41 0 rfl 42 rfl ?_
    exact r_iret hR dX5_keep_42 hw
  · refine q_iconst (v := (-1)) hC dX5_keep_10 rfl 11 rfl ?_
    exact r_iret hR dX5_keep_11 hw
theorem inX5_back_X5 : ∀ w ∈ u_ws RX5 TX5 26, w ∈ wsX5_back := uX5_back__wsX50
set_option maxRecDepth 100000 in
set_option maxHeartbeats 4000000 in
theorem ctX5_back (l : Launch) (g : GG) (M : MM) (v1 : Int32) (Q : Int32 → MM → Prop) (hF : ful5 g) (hw : wX5_back Q M v1) : MI g l yX5_back wsX5_back (rmOf 1 25) [.ref (gA g 52), .int v1] M Q := by
  refine mk_MI (cc := cX5_back) (maxL := 2) (by decide) rfl (Nat.le_of_ble_eq_true rfl) ?_
  intro z Qf hC hR
  show XX z g Qf 2 0 [(0, .ref (gA g 52)), (1, .int v1)] [] M
  refine q_iload_n hC dX5_back_0 1 rfl 1 rfl ?_
  refine q_i2l hC dX5_back_1 2 rfl ?_
  refine q_lconst (v := 0) hC dX5_back_2 rfl 3 rfl ?_
  refine q_lconst (v := 1) hC dX5_back_3 rfl 4 rfl ?_
  refine r_callI hC (go_T (As := [.long (v1.toInt64), .long 0, .long 1]) (rest := []) hC (ctX5_in (zl z) g M (v1.toInt64) 0 1 _ hw) 3 gX5_back_X5_in rfl ⟨rfl, rfl⟩ hdT_X5_in ⟨Nat.le_of_ble_eq_true rfl, Nat.le_of_ble_eq_true rfl⟩ rfl rfl (Nat.le_of_ble_eq_true rfl) dX5_back_4) 7 rfl (fun r1 M2 hw => ?_)
  refine q_if_ne hC 12 dX5_back_7 (by decide) 10 rfl hw (fun hw => ?_) (fun hw => ?_)
  · refine q_aload_n hC dX5_back_12 0 rfl 13 rfl ?_
    refine q_getR (C := RX5) (T := TX5) (N := 26) (ci := 5) hC inX5_back_X5 (obF52 hF) rfl 1 (by decide) (uX5_back__o _ (List.mem_of_getElem? (l := owX5_back) (i := 1) rfl)) rfl 54 (fun _ => rfl) dX5_back_13 16 rfl ?_
    refine q_iload_n hC dX5_back_16 1 rfl 17 rfl ?_
    obtain ⟨hin, hw⟩ := hw
    refine q_zald hC (arF54 hF) hin dX5_back_17 18 rfl ?_
    refine q_if_ne hC 24 dX5_back_18 (by decide) 21 rfl hw (fun hw => ?_) (fun hw => ?_)
    · refine q_aload_n hC dX5_back_24 0 rfl 25 rfl ?_
      refine q_iconst (v := 0) hC dX5_back_25 rfl 26 rfl ?_
      refine q_sipush (v := 400) hC dX5_back_26 (by decide) 29 rfl ?_
      refine q_iload_n hC dX5_back_29 1 rfl 30 rfl ?_
      refine q_iconst (v := 1) hC dX5_back_30 rfl 31 rfl ?_
      refine q_iadd hC dX5_back_31 32 rfl ?_
      refine q_imul hC dX5_back_32 33 rfl ?_
      refine r_callV hC (go_V (q := (RX5, TX5, 26)) (As := [.int 0, .int ((400 : Int32) * (v1 + (1 : Int32)))]) (rest := []) hC (ctX5_copies (zl z) g M2 0 ((400 : Int32) * (v1 + (1 : Int32))) _ hF hw) 2 gX5_back_X5_copies rfl ⟨rfl, rfl⟩ hdV_X5_copies ⟨Nat.le_of_ble_eq_true rfl, Nat.le_of_ble_eq_true rfl⟩ (obF52 hF) rfl rfl rfl (Nat.le_of_ble_eq_true rfl) dX5_back_33) 36 rfl (fun M3 hw => ?_)
      refine q_aload_n hC dX5_back_36 0 rfl 37 rfl ?_
      refine q_getR (C := RX5) (T := TX5) (N := 26) (ci := 5) hC inX5_back_X5 (obF52 hF) rfl 0 (by decide) (uX5_back__X5_copies _ (List.mem_of_getElem? (l := owX5_copies) (i := 1) rfl)) rfl 53 (fun _ => rfl) dX5_back_37 40 rfl ?_
      refine q_iconst (v := 0) hC dX5_back_40 rfl 41 rfl ?_
      refine q_ialdL hC (arF53 hF) 0 (by decide +kernel) (by decide +kernel) dX5_back_41 42 rfl ?_
      exact r_iret hR dX5_back_42 hw
    · refine q_bipush (v := (-2)) hC dX5_back_21 (by decide) 23 rfl ?_
      exact r_iret hR dX5_back_23 hw
  · refine q_iconst (v := (-1)) hC dX5_back_10 rfl 11 rfl ?_
    exact r_iret hR dX5_back_11 hw
set_option maxRecDepth 100000 in
set_option maxHeartbeats 4000000 in
theorem ctX5_isSheet (l : Launch) (g : GG) (M : MM) (v0 : Int32) (v1 : Int32) (Q : Int32 → MM → Prop)  (hw : wX5_isSheet Q M v0 v1) : MI g l yX5_isSheet wsX5_isSheet (rmOf 1 25) [.int v0, .int v1] M Q := by
  refine mk_MZ (cc := cX5_isSheet) (maxL := 2) (by decide) rfl (Nat.le_of_ble_eq_true rfl) ?_
  intro z Qf hC hR
  show XX z g Qf 2 0 [(0, .int v0), (1, .int v1)] [] M
  have B28 : ∀ (M : MM), wX5_isSheet_28 Q v0 v1 M → XX z g Qf 2 28 [] [] M := by
    intro M hw
    refine q_iconst (v := 0) hC dX5_isSheet_28 rfl 29 rfl ?_
    exact r_iret hR dX5_isSheet_29 ⟨nb_0, hw⟩
  refine q_iload_n hC dX5_isSheet_0 0 rfl 1 rfl ?_
  refine q_i2l hC dX5_isSheet_1 2 rfl ?_
  refine q_lconst (v := 0) hC dX5_isSheet_2 rfl 3 rfl ?_
  refine q_ldc2 (v := 3) hC (uX5_isSheet__o _ (List.mem_of_getElem? (l := owX5_isSheet) (i := 1) rfl)) dX5_isSheet_3 6 rfl ?_
  refine r_callI hC (go_T (As := [.long (v0.toInt64), .long 0, .long 3]) (rest := []) hC (ctX5_in (zl z) g M (v0.toInt64) 0 3 _ hw) 3 gX5_isSheet_X5_in rfl ⟨rfl, rfl⟩ hdT_X5_in ⟨Nat.le_of_ble_eq_true rfl, Nat.le_of_ble_eq_true rfl⟩ rfl rfl (Nat.le_of_ble_eq_true rfl) dX5_isSheet_6) 9 rfl (fun r1 M2 hw => ?_)
  refine q_if_eq hC 28 dX5_isSheet_9 (by decide) 12 rfl hw (fun hw => ?_) (fun hw => ?_)
  · exact XX.sub [] rfl (B28 M2 hw)
  · refine q_iload_n hC dX5_isSheet_12 1 rfl 13 rfl ?_
    refine q_i2l hC dX5_isSheet_13 14 rfl ?_
    refine q_lconst (v := 0) hC dX5_isSheet_14 rfl 15 rfl ?_
    refine q_ldc2 (v := 2) hC (uX5_isSheet__o _ (List.mem_of_getElem? (l := owX5_isSheet) (i := 2) rfl)) dX5_isSheet_15 18 rfl ?_
    refine r_callI hC (go_T (As := [.long (v1.toInt64), .long 0, .long 2]) (rest := []) hC (ctX5_in (zl z) g M2 (v1.toInt64) 0 2 _ hw) 3 gX5_isSheet_X5_in rfl ⟨rfl, rfl⟩ hdT_X5_in ⟨Nat.le_of_ble_eq_true rfl, Nat.le_of_ble_eq_true rfl⟩ rfl rfl (Nat.le_of_ble_eq_true rfl) dX5_isSheet_18) 21 rfl (fun r3 M4 hw => ?_)
    refine q_if_eq hC 28 dX5_isSheet_21 (by decide) 24 rfl hw (fun hw => ?_) (fun hw => ?_)
    · exact XX.sub [] rfl (B28 M4 hw)
    · refine q_iconst (v := 1) hC dX5_isSheet_24 rfl 25 rfl ?_
      refine q_goto hC 29 dX5_isSheet_25 (by decide) ?_
      exact r_iret hR dX5_isSheet_29 ⟨nb_1, hw⟩
theorem hdT_X5_isSheet : yX5_isSheet.cls ≠ "java/lang/invoke/MethodHandle" ∧ yX5_isSheet.cls ≠ "java/lang/invoke/VarHandle" ∧ (parseMethodDescriptor yX5_isSheet.desc).map (fun d => d.parameters.length) = some 2 := by decide +kernel
theorem inX5_sheet_X5 : ∀ w ∈ u_ws RX5 TX5 26, w ∈ wsX5_sheet := uX5_sheet__wsX50
set_option maxRecDepth 100000 in
set_option maxHeartbeats 4000000 in
theorem ctX5_sheet (l : Launch) (g : GG) (M : MM) (v1 : Int32) (v2 : Int32) (v3 : Int32) (Q : Int32 → MM → Prop) (hF : ful5 g) (hw : wX5_sheet Q M v1 v2 v3) : MI g l yX5_sheet wsX5_sheet (rmOf 2 46) [.ref (gA g 52), .int v1, .int v2, .int v3] M Q := by
  refine mk_MI (cc := cX5_sheet) (maxL := 5) (by decide) rfl (Nat.le_of_ble_eq_true rfl) ?_
  intro z Qf hC hR
  show XX z g Qf 5 0 [(0, .ref (gA g 52)), (1, .int v1), (2, .int v2), (3, .int v3)] [] M
  have B40 : ∀ (n : Nat) (M : MM) (v4 : Int32) , wX5_sheet_40 Q v1 v2 v3 n M v4 → XX z g Qf 5 40 [(0, .ref (gA g 52)), (1, .int v1), (4, .int v4)] [] M := by
    intro n
    induction n with
    | zero =>
      intro M v4 hw
      exact hw.elim
    | succ n ih =>
      intro M v4 hw
      refine q_iload hC dX5_sheet_40 2 rfl 42 rfl ?_
      refine q_bipush (v := 40) hC dX5_sheet_42 (by decide) 44 rfl ?_
      refine q_icmp_ge hC 66 dX5_sheet_44 (by decide) 47 rfl hw (fun hw => ?_) (fun hw => ?_)
      · refine q_iconst (v := 1) hC dX5_sheet_66 rfl 67 rfl ?_
        exact r_iret hR dX5_sheet_67 hw
      · refine q_aload_n hC dX5_sheet_47 0 rfl 48 rfl ?_
        refine q_getR (C := RX5) (T := TX5) (N := 26) (ci := 5) hC inX5_sheet_X5 (obF52 hF) rfl 24 (by decide) (uX5_sheet__o _ (List.mem_of_getElem? (l := owX5_sheet) (i := 3) rfl)) rfl 66 (fun _ => rfl) dX5_sheet_48 51 rfl ?_
        refine q_bipush (v := 40) hC dX5_sheet_51 (by decide) 53 rfl ?_
        refine q_iload_n hC dX5_sheet_53 1 rfl 54 rfl ?_
        refine q_imul hC dX5_sheet_54 55 rfl ?_
        refine q_iload hC dX5_sheet_55 2 rfl 57 rfl ?_
        refine q_iadd hC dX5_sheet_57 58 rfl ?_
        refine q_iconst (v := 0) hC dX5_sheet_58 rfl 59 rfl ?_
        obtain ⟨hin, hw⟩ := hw
        refine q_iast hC (arF66 hF) hin dX5_sheet_59 60 rfl (fun M5 eM5 => ?_)
        have hw := hw M5 eM5
        refine q_iinc (v := v4 + 1) (L' := [(4, .int (v4 + 1)), (0, .ref (gA g 52)), (1, .int v1)]) hC dX5_sheet_60 2 rfl rfl (by decide) rfl 63 rfl ?_
        refine q_goto hC 40 dX5_sheet_63 (by decide) ?_
        exact XX.sub [1, 2, 0] rfl (ih M5 (v4 + 1) hw)
  refine q_iload_n hC dX5_sheet_0 1 rfl 1 rfl ?_
  refine q_iload_n hC dX5_sheet_1 2 rfl 2 rfl ?_
  refine r_callI hC (go_T (As := [.int v1, .int v2]) (rest := []) hC (ctX5_isSheet (zl z) g M v1 v2 _ hw) 2 gX5_sheet_X5_isSheet rfl ⟨rfl, rfl⟩ hdT_X5_isSheet ⟨Nat.le_of_ble_eq_true rfl, Nat.le_of_ble_eq_true rfl⟩ rfl rfl (Nat.le_of_ble_eq_true rfl) dX5_sheet_2) 5 rfl (fun r1 M2 hw => ?_)
  refine q_if_eq hC 14 dX5_sheet_5 (by decide) 8 rfl hw (fun hw => ?_) (fun hw => ?_)
  · refine q_iconst (v := (-1)) hC dX5_sheet_14 rfl 15 rfl ?_
    exact r_iret hR dX5_sheet_15 hw
  · refine q_iload_n hC dX5_sheet_8 3 rfl 9 rfl ?_
    refine q_bipush (v := 40) hC dX5_sheet_9 (by decide) 11 rfl ?_
    refine q_icmp_le hC 16 dX5_sheet_11 (by decide) 14 rfl hw (fun hw => ?_) (fun hw => ?_)
    · refine q_iload_n hC dX5_sheet_16 3 rfl 17 rfl ?_
      refine q_if_ge hC 23 dX5_sheet_17 (by decide) 20 rfl hw (fun hw => ?_) (fun hw => ?_)
      · refine q_aload_n hC dX5_sheet_23 0 rfl 24 rfl ?_
        refine q_getR (C := RX5) (T := TX5) (N := 26) (ci := 5) hC inX5_sheet_X5 (obF52 hF) rfl 22 (by decide) (uX5_sheet__o _ (List.mem_of_getElem? (l := owX5_sheet) (i := 1) rfl)) rfl 64 (fun _ => rfl) dX5_sheet_24 27 rfl ?_
        refine q_iload_n hC dX5_sheet_27 1 rfl 28 rfl ?_
        refine q_iload_n hC dX5_sheet_28 2 rfl 29 rfl ?_
        obtain ⟨hin, hw⟩ := hw
        refine q_iast hC (arF64 hF) hin dX5_sheet_29 30 rfl (fun M3 eM3 => ?_)
        have hw := hw M3 eM3
        refine q_aload_n hC dX5_sheet_30 0 rfl 31 rfl ?_
        refine q_getR (C := RX5) (T := TX5) (N := 26) (ci := 5) hC inX5_sheet_X5 (obF52 hF) rfl 23 (by decide) (uX5_sheet__o _ (List.mem_of_getElem? (l := owX5_sheet) (i := 2) rfl)) rfl 65 (fun _ => rfl) dX5_sheet_31 34 rfl ?_
        refine q_iload_n hC dX5_sheet_34 1 rfl 35 rfl ?_
        refine q_iload_n hC dX5_sheet_35 3 rfl 36 rfl ?_
        obtain ⟨hin, hw⟩ := hw
        refine q_iast hC (arF65 hF) hin dX5_sheet_36 37 rfl (fun M4 eM4 => ?_)
        have hw := hw M4 eM4
        refine q_iconst (v := 0) hC dX5_sheet_37 rfl 38 rfl ?_
        refine q_istore (L' := [(4, .int 0), (0, .ref (gA g 52)), (1, .int v1), (2, .int v2), (3, .int v3)]) hC dX5_sheet_38 (by decide) rfl 40 rfl ?_
        obtain ⟨n0, hw⟩ := hw
        exact XX.sub [1, 2, 0] rfl (B40 n0 M4 0 hw)
      · refine q_bipush (v := (-14)) hC dX5_sheet_20 (by decide) 22 rfl ?_
        exact r_iret hR dX5_sheet_22 hw
    · refine q_iconst (v := (-1)) hC dX5_sheet_14 rfl 15 rfl ?_
      exact r_iret hR dX5_sheet_15 hw
theorem inX5_lay_X5 : ∀ w ∈ u_ws RX5 TX5 26, w ∈ wsX5_lay := uX5_lay__wsX50
set_option maxRecDepth 100000 in
set_option maxHeartbeats 4000000 in
theorem ctX5_lay (l : Launch) (g : GG) (M : MM) (v1 : Int32) (v2 : Int32) (v3 : Int32) (Q : Int32 → MM → Prop) (hF : ful5 g) (hw : wX5_lay Q M v1 v2 v3) : MI g l yX5_lay wsX5_lay (rmOf 2 46) [.ref (gA g 52), .int v1, .int v2, .int v3] M Q := by
  refine mk_MI (cc := cX5_lay) (maxL := 4) (by decide) rfl (Nat.le_of_ble_eq_true rfl) ?_
  intro z Qf hC hR
  show XX z g Qf 4 0 [(0, .ref (gA g 52)), (1, .int v1), (2, .int v2), (3, .int v3)] [] M
  have B85 : ∀ (M : MM) (p0 : Int32) (p1 : Int32), wX5_lay_85 Q v1 v2 v3 M p0 p1 → XX z g Qf 4 85 [] [.int p0, .int p1, .ref (gA g 66)] M := by
    intro M p0 p1 hw
    obtain ⟨hin, hw⟩ := hw
    refine q_iast hC (arF66 hF) hin dX5_lay_85 86 rfl (fun M5 eM5 => ?_)
    have hw := hw M5 eM5
    refine q_iconst (v := 1) hC dX5_lay_86 rfl 87 rfl ?_
    exact r_iret hR dX5_lay_87 hw
  refine q_iload_n hC dX5_lay_0 1 rfl 1 rfl ?_
  refine q_iconst (v := 0) hC dX5_lay_1 rfl 2 rfl ?_
  refine r_callI hC (go_T (As := [.int v1, .int 0]) (rest := []) hC (ctX5_isSheet (zl z) g M v1 0 _ hw) 2 gX5_lay_X5_isSheet rfl ⟨rfl, rfl⟩ hdT_X5_isSheet ⟨Nat.le_of_ble_eq_true rfl, Nat.le_of_ble_eq_true rfl⟩ rfl rfl (Nat.le_of_ble_eq_true rfl) dX5_lay_2) 5 rfl (fun r1 M2 hw => ?_)
  refine q_if_ne hC 10 dX5_lay_5 (by decide) 8 rfl hw (fun hw => ?_) (fun hw => ?_)
  · refine q_aload_n hC dX5_lay_10 0 rfl 11 rfl ?_
    refine q_getR (C := RX5) (T := TX5) (N := 26) (ci := 5) hC inX5_lay_X5 (obF52 hF) rfl 22 (by decide) (uX5_lay__o _ (List.mem_of_getElem? (l := owX5_lay) (i := 1) rfl)) rfl 64 (fun _ => rfl) dX5_lay_11 14 rfl ?_
    refine q_iload_n hC dX5_lay_14 1 rfl 15 rfl ?_
    obtain ⟨hin, hw⟩ := hw
    refine q_iald hC (arF64 hF) hin dX5_lay_15 16 rfl ?_
    refine q_bipush (v := (-4)) hC dX5_lay_16 (by decide) 18 rfl ?_
    refine q_icmp_ne hC 24 dX5_lay_18 (by decide) 21 rfl hw (fun hw => ?_) (fun hw => ?_)
    · refine q_iload_n hC dX5_lay_24 2 rfl 25 rfl ?_
      refine q_i2l hC dX5_lay_25 26 rfl ?_
      refine q_lconst (v := 0) hC dX5_lay_26 rfl 27 rfl ?_
      refine q_aload_n hC dX5_lay_27 0 rfl 28 rfl ?_
      refine q_getR (C := RX5) (T := TX5) (N := 26) (ci := 5) hC inX5_lay_X5 (obF52 hF) rfl 23 (by decide) (uX5_lay__o _ (List.mem_of_getElem? (l := owX5_lay) (i := 2) rfl)) rfl 65 (fun _ => rfl) dX5_lay_28 31 rfl ?_
      refine q_iload_n hC dX5_lay_31 1 rfl 32 rfl ?_
      obtain ⟨hin, hw⟩ := hw
      refine q_iald hC (arF65 hF) hin dX5_lay_32 33 rfl ?_
      refine q_iconst (v := 1) hC dX5_lay_33 rfl 34 rfl ?_
      refine q_isub hC dX5_lay_34 35 rfl ?_
      refine q_i2l hC dX5_lay_35 36 rfl ?_
      refine r_callI hC (go_T (As := [.long (v2.toInt64), .long 0, .long (((M2 65 v1.toNatClampNeg) - (1 : Int32)).toInt64)]) (rest := []) hC (ctX5_in (zl z) g M2 (v2.toInt64) 0 (((M2 65 v1.toNatClampNeg) - (1 : Int32)).toInt64) _ hw) 3 gX5_lay_X5_in rfl ⟨rfl, rfl⟩ hdT_X5_in ⟨Nat.le_of_ble_eq_true rfl, Nat.le_of_ble_eq_true rfl⟩ rfl rfl (Nat.le_of_ble_eq_true rfl) dX5_lay_36) 39 rfl (fun r3 M4 hw => ?_)
      refine q_if_ne hC 45 dX5_lay_39 (by decide) 42 rfl hw (fun hw => ?_) (fun hw => ?_)
      · refine q_aload_n hC dX5_lay_45 0 rfl 46 rfl ?_
        refine q_getR (C := RX5) (T := TX5) (N := 26) (ci := 5) hC inX5_lay_X5 (obF52 hF) rfl 24 (by decide) (uX5_lay__o _ (List.mem_of_getElem? (l := owX5_lay) (i := 3) rfl)) rfl 66 (fun _ => rfl) dX5_lay_46 49 rfl ?_
        refine q_bipush (v := 40) hC dX5_lay_49 (by decide) 51 rfl ?_
        refine q_iload_n hC dX5_lay_51 1 rfl 52 rfl ?_
        refine q_imul hC dX5_lay_52 53 rfl ?_
        refine q_iload_n hC dX5_lay_53 2 rfl 54 rfl ?_
        refine q_iadd hC dX5_lay_54 55 rfl ?_
        refine q_aload_n hC dX5_lay_55 0 rfl 56 rfl ?_
        refine q_getR (C := RX5) (T := TX5) (N := 26) (ci := 5) hC inX5_lay_X5 (obF52 hF) rfl 22 (by decide) (uX5_lay__o _ (List.mem_of_getElem? (l := owX5_lay) (i := 1) rfl)) rfl 64 (fun _ => rfl) dX5_lay_56 59 rfl ?_
        refine q_iload_n hC dX5_lay_59 1 rfl 60 rfl ?_
        obtain ⟨hin, hw⟩ := hw
        refine q_iald hC (arF64 hF) hin dX5_lay_60 61 rfl ?_
        refine q_if_ne hC 69 dX5_lay_61 (by decide) 64 rfl hw (fun hw => ?_) (fun hw => ?_)
        · refine q_aload_n hC dX5_lay_69 0 rfl 70 rfl ?_
          refine q_getR (C := RX5) (T := TX5) (N := 26) (ci := 5) hC inX5_lay_X5 (obF52 hF) rfl 22 (by decide) (uX5_lay__o _ (List.mem_of_getElem? (l := owX5_lay) (i := 1) rfl)) rfl 64 (fun _ => rfl) dX5_lay_70 73 rfl ?_
          refine q_iload_n hC dX5_lay_73 1 rfl 74 rfl ?_
          obtain ⟨hin, hw⟩ := hw
          refine q_iald hC (arF64 hF) hin dX5_lay_74 75 rfl ?_
          refine q_iconst (v := 1) hC dX5_lay_75 rfl 76 rfl ?_
          refine q_icmp_ne hC 84 dX5_lay_76 (by decide) 79 rfl hw (fun hw => ?_) (fun hw => ?_)
          · refine q_iload_n hC dX5_lay_84 3 rfl 85 rfl ?_
            exact XX.sub [] rfl (B85 M4 v3 (((40 : Int32) * v1) + v2) hw)
          · refine q_iload_n hC dX5_lay_79 3 rfl 80 rfl ?_
            refine q_i2s hC dX5_lay_80 81 rfl ?_
            refine q_goto hC 85 dX5_lay_81 (by decide) ?_
            exact XX.sub [] rfl (B85 M4 (v3.toInt16.toInt32) (((40 : Int32) * v1) + v2) hw)
        · refine q_iload_n hC dX5_lay_64 3 rfl 65 rfl ?_
          refine q_i2b hC dX5_lay_65 66 rfl ?_
          refine q_goto hC 85 dX5_lay_66 (by decide) ?_
          exact XX.sub [] rfl (B85 M4 (v3.toInt8.toInt32) (((40 : Int32) * v1) + v2) hw)
      · refine q_bipush (v := (-12)) hC dX5_lay_42 (by decide) 44 rfl ?_
        exact r_iret hR dX5_lay_44 hw
    · refine q_bipush (v := (-11)) hC dX5_lay_21 (by decide) 23 rfl ?_
      exact r_iret hR dX5_lay_23 hw
  · refine q_iconst (v := (-1)) hC dX5_lay_8 rfl 9 rfl ?_
    exact r_iret hR dX5_lay_9 hw
theorem hdV_X5_type : yX5_type.cls = RX5 ∧ yX5_type.cls ≠ "java/lang/invoke/MethodHandle" ∧ yX5_type.cls ≠ "java/lang/invoke/VarHandle" ∧ (parseMethodDescriptor yX5_type.desc).map (fun d => d.parameters.length) = some 1 := by decide +kernel
theorem inX5_read_X5 : ∀ w ∈ u_ws RX5 TX5 26, w ∈ wsX5_read := uX5_read__wsX50
set_option maxRecDepth 100000 in
set_option maxHeartbeats 4000000 in
theorem ctX5_read (l : Launch) (g : GG) (M : MM) (v1 : Int32) (v2 : Int32) (v3 : Int32) (v4 : Int32) (Q : Int32 → MM → Prop) (hF : ful5 g) (hw : wX5_read Q M v1 v2 v3 v4) : MI g l yX5_read wsX5_read (rmOf 2 46) [.ref (gA g 52), .int v1, .int v2, .int v3, .int v4] M Q := by
  refine mk_MI (cc := cX5_read) (maxL := 10) (by decide) rfl (Nat.le_of_ble_eq_true rfl) ?_
  intro z Qf hC hR
  show XX z g Qf 10 0 [(0, .ref (gA g 52)), (1, .int v1), (2, .int v2), (3, .int v3), (4, .int v4)] [] M
  have B181 : ∀ (n : Nat) (M : MM) (v6 : Int32) (v7 : Int32) , wX5_read_181 Q v1 v2 v3 v4 n M v6 v7 → XX z g Qf 10 181 [(0, .ref (gA g 52)), (1, .int v1), (3, .int v3), (6, .int v6), (7, .int v7)] [] M := by
    intro n
    induction n with
    | zero =>
      intro M v6 v7 hw
      exact hw.elim
    | succ n ih =>
      intro M v6 v7 hw
      refine q_iload hC dX5_read_181 4 rfl 183 rfl ?_
      refine q_iload hC dX5_read_183 3 rfl 185 rfl ?_
      refine q_icmp_ge hC 213 dX5_read_185 (by decide) 188 rfl hw (fun hw => ?_) (fun hw => ?_)
      · refine q_iload hC dX5_read_213 3 rfl 215 rfl ?_
        exact r_iret hR dX5_read_215 hw
      · refine q_aload_n hC dX5_read_188 0 rfl 189 rfl ?_
        refine q_aload_n hC dX5_read_189 0 rfl 190 rfl ?_
        refine q_getR (C := RX5) (T := TX5) (N := 26) (ci := 5) hC inX5_read_X5 (obF52 hF) rfl 24 (by decide) (uX5_read__o _ (List.mem_of_getElem? (l := owX5_read) (i := 4) rfl)) rfl 66 (fun _ => rfl) dX5_read_190 193 rfl ?_
        refine q_bipush (v := 40) hC dX5_read_193 (by decide) 195 rfl ?_
        refine q_iload_n hC dX5_read_195 1 rfl 196 rfl ?_
        refine q_imul hC dX5_read_196 197 rfl ?_
        refine q_iload_n hC dX5_read_197 2 rfl 198 rfl ?_
        refine q_iadd hC dX5_read_198 199 rfl ?_
        refine q_iload hC dX5_read_199 4 rfl 201 rfl ?_
        refine q_iadd hC dX5_read_201 202 rfl ?_
        obtain ⟨hin, hw⟩ := hw
        refine q_iald hC (arF66 hF) hin dX5_read_202 203 rfl ?_
        refine r_callI hC (go_V (q := (RX5, TX5, 26)) (As := [.int (M 66 ((((40 : Int32) * v1) + v3) + v7).toNatClampNeg)]) (rest := []) hC (ctX5_type (zl z) g M (M 66 ((((40 : Int32) * v1) + v3) + v7).toNatClampNeg) _ hF hw) 1 gX5_read_X5_type rfl ⟨rfl, rfl⟩ hdV_X5_type ⟨Nat.le_of_ble_eq_true rfl, Nat.le_of_ble_eq_true rfl⟩ (obF52 hF) rfl rfl rfl (Nat.le_of_ble_eq_true rfl) dX5_read_203) 206 rfl (fun r9 M10 hw => ?_)
        refine q_pop hC dX5_read_206 rfl 207 rfl ?_
        refine q_iinc (v := v7 + 1) (L' := [(7, .int (v7 + 1)), (0, .ref (gA g 52)), (1, .int v1), (3, .int v3), (6, .int v6)]) hC dX5_read_207 4 rfl rfl (by decide) rfl 210 rfl ?_
        refine q_goto hC 181 dX5_read_210 (by decide) ?_
        exact XX.sub [1, 2, 3, 4, 0] rfl (ih M10 v6 (v7 + 1) hw)
  have B172 : ∀ (M : MM) (v5 : Int32) (v6 : Int32), wX5_read_172 Q v1 v2 v3 v4 M v5 v6 → XX z g Qf 10 172 [(0, .ref (gA g 52)), (1, .int v1), (3, .int v3), (5, .int v5), (6, .int v6)] [] M := by
    intro M v5 v6 hw
    refine q_aload_n hC dX5_read_172 0 rfl 173 rfl ?_
    refine q_iload hC dX5_read_173 3 rfl 175 rfl ?_
    refine q_putI (C := RX5) (T := TX5) (N := 26) (ci := 5) hC inX5_read_X5 tyX5 tyX5_ok nmX5 (obF52 hF) rfl 25 (by decide) (uX5_read__o _ (List.mem_of_getElem? (l := owX5_read) (i := 5) rfl)) rfl rfl rfl (fun _ => Nat.le_of_ble_eq_true rfl) (fun _ => rfl) dX5_read_175 178 rfl (fun M8 eM8 => ?_)
    have hw := hw M8 eM8
    refine q_iconst (v := 0) hC dX5_read_178 rfl 179 rfl ?_
    refine q_istore (L' := [(7, .int 0), (0, .ref (gA g 52)), (1, .int v1), (3, .int v3), (5, .int v5), (6, .int v6)]) hC dX5_read_179 (by decide) rfl 181 rfl ?_
    obtain ⟨n0, hw⟩ := hw
    exact XX.sub [1, 2, 3, 5, 0] rfl (B181 n0 M8 v6 0 hw)
  have B166 : ∀ (K32 : MM → Int32 → Int32 → Int32 → Prop) (hK32 : ∀ (M : MM) (v5 : Int32) (v6 : Int32) (v7 : Int32) , K32 M v5 v6 v7 → XX z g Qf 10 32 [(0, .ref (gA g 52)), (1, .int v1), (2, .int v2), (3, .int v3), (4, .int v4), (5, .int v5), (6, .int v6), (7, .int v7)] [] M) (M : MM) (v5 : Int32) (v6 : Int32) (v7 : Int32), wX5_read_166 Q K32 v1 v2 v3 v4 M v5 v6 v7 → XX z g Qf 10 166 [(0, .ref (gA g 52)), (1, .int v1), (2, .int v2), (3, .int v3), (4, .int v4), (5, .int v5), (6, .int v6), (7, .int v7)] [] M := by
    intro K32 hK32 M v5 v6 v7 hw
    refine q_iinc (v := v7 + 1) (L' := [(7, .int (v7 + 1)), (0, .ref (gA g 52)), (1, .int v1), (2, .int v2), (3, .int v3), (4, .int v4), (5, .int v5), (6, .int v6)]) hC dX5_read_166 7 rfl rfl (by decide) rfl 169 rfl ?_
    refine q_goto hC 32 dX5_read_169 (by decide) ?_
    exact XX.sub [1, 2, 3, 4, 5, 6, 7, 0] rfl (hK32 M v5 v6 (v7 + 1) hw)
  have B106 : ∀ (K32 : MM → Int32 → Int32 → Int32 → Prop) (hK32 : ∀ (M : MM) (v5 : Int32) (v6 : Int32) (v7 : Int32) , K32 M v5 v6 v7 → XX z g Qf 10 32 [(0, .ref (gA g 52)), (1, .int v1), (2, .int v2), (3, .int v3), (4, .int v4), (5, .int v5), (6, .int v6), (7, .int v7)] [] M) (M : MM) (v6 : Int32) (v7 : Int32) (p0 : Int32), wX5_read_106 Q K32 v1 v2 v3 v4 M v6 v7 p0 → XX z g Qf 10 106 [(0, .ref (gA g 52)), (1, .int v1), (2, .int v2), (3, .int v3), (4, .int v4), (6, .int v6), (7, .int v7)] [.int p0] M := by
    intro K32 hK32 M v6 v7 p0 hw
    refine q_istore (L' := [(5, .int p0), (0, .ref (gA g 52)), (1, .int v1), (2, .int v2), (3, .int v3), (4, .int v4), (6, .int v6), (7, .int v7)]) hC dX5_read_106 (by decide) rfl 108 rfl ?_
    refine q_iload hC dX5_read_108 0 rfl 110 rfl ?_
    refine q_if_ne hC 166 dX5_read_110 (by decide) 113 rfl hw (fun hw => ?_) (fun hw => ?_)
    · exact XX.sub [1, 2, 3, 4, 5, 0, 6, 7] rfl (B166 _ hK32 M p0 v6 v7 hw)
    · refine q_aload_n hC dX5_read_113 1 rfl 114 rfl ?_
      refine q_getR (C := RX5) (T := TX5) (N := 26) (ci := 5) hC inX5_read_X5 (obF52 hF) rfl 24 (by decide) (uX5_read__o _ (List.mem_of_getElem? (l := owX5_read) (i := 4) rfl)) rfl 66 (fun _ => rfl) dX5_read_114 117 rfl ?_
      refine q_bipush (v := 40) hC dX5_read_117 (by decide) 119 rfl ?_
      refine q_iload_n hC dX5_read_119 2 rfl 120 rfl ?_
      refine q_imul hC dX5_read_120 121 rfl ?_
      refine q_iload_n hC dX5_read_121 4 rfl 122 rfl ?_
      refine q_iadd hC dX5_read_122 123 rfl ?_
      refine q_iload hC dX5_read_123 7 rfl 125 rfl ?_
      refine q_iadd hC dX5_read_125 126 rfl ?_
      obtain ⟨hin, hw⟩ := hw
      refine q_iald hC (arF66 hF) hin dX5_read_126 127 rfl ?_
      refine q_i2l hC dX5_read_127 128 rfl ?_
      refine q_lconst (v := 0) hC dX5_read_128 rfl 129 rfl ?_
      refine q_ldc2 (v := 255) hC (uX5_read__X5_type _ (List.mem_of_getElem? (l := owX5_type) (i := 1) rfl)) dX5_read_129 132 rfl ?_
      refine r_callI hC (go_T (As := [.long ((M 66 ((((40 : Int32) * v1) + v3) + v7).toNatClampNeg).toInt64), .long 0, .long 255]) (rest := []) hC (ctX5_in (zl z) g M ((M 66 ((((40 : Int32) * v1) + v3) + v7).toNatClampNeg).toInt64) 0 255 _ hw) 3 gX5_read_X5_in rfl ⟨rfl, rfl⟩ hdT_X5_in ⟨Nat.le_of_ble_eq_true rfl, Nat.le_of_ble_eq_true rfl⟩ rfl rfl (Nat.le_of_ble_eq_true rfl) dX5_read_132) 135 rfl (fun r6 M7 hw => ?_)
      refine q_if_ne hC 144 dX5_read_135 (by decide) 138 rfl hw (fun hw => ?_) (fun hw => ?_)
      · refine q_aload_n hC dX5_read_144 1 rfl 145 rfl ?_
        refine q_getR (C := RX5) (T := TX5) (N := 26) (ci := 5) hC inX5_read_X5 (obF52 hF) rfl 0 (by decide) (uX5_read__X5_type _ (List.mem_of_getElem? (l := owX5_type) (i := 2) rfl)) rfl 53 (fun _ => rfl) dX5_read_145 148 rfl ?_
        refine q_sipush (v := 327) hC dX5_read_148 (by decide) 151 rfl ?_
        refine q_ialdL hC (arF53 hF) 327 (by decide +kernel) (by decide +kernel) dX5_read_151 152 rfl ?_
        refine q_iload hC dX5_read_152 6 rfl 154 rfl ?_
        refine q_iadd hC dX5_read_154 155 rfl ?_
        refine q_bipush (v := 12) hC dX5_read_155 (by decide) 157 rfl ?_
        refine q_icmp_ne hC 163 dX5_read_157 (by decide) 160 rfl hw (fun hw => ?_) (fun hw => ?_)
        · refine q_iinc (v := v6 + 1) (L' := [(6, .int (v6 + 1)), (5, .int p0), (0, .ref (gA g 52)), (1, .int v1), (2, .int v2), (3, .int v3), (4, .int v4), (7, .int v7)]) hC dX5_read_163 6 rfl rfl (by decide) rfl 166 rfl ?_
          exact XX.sub [2, 3, 4, 5, 6, 1, 0, 7] rfl (B166 _ hK32 M7 p0 (v6 + 1) v7 hw)
        · refine q_bipush (v := (-3)) hC dX5_read_160 (by decide) 162 rfl ?_
          exact r_iret hR dX5_read_162 hw
      · refine q_bipush (v := (-20)) hC dX5_read_138 (by decide) 140 rfl ?_
        refine q_iload hC dX5_read_140 7 rfl 142 rfl ?_
        refine q_isub hC dX5_read_142 143 rfl ?_
        exact r_iret hR dX5_read_143 hw
  have B101 : ∀ (K32 : MM → Int32 → Int32 → Int32 → Prop) (hK32 : ∀ (M : MM) (v5 : Int32) (v6 : Int32) (v7 : Int32) , K32 M v5 v6 v7 → XX z g Qf 10 32 [(0, .ref (gA g 52)), (1, .int v1), (2, .int v2), (3, .int v3), (4, .int v4), (5, .int v5), (6, .int v6), (7, .int v7)] [] M) (M : MM) (v6 : Int32) (v7 : Int32), wX5_read_101 Q K32 v1 v2 v3 v4 M v6 v7 → XX z g Qf 10 101 [(0, .ref (gA g 52)), (1, .int v1), (2, .int v2), (3, .int v3), (4, .int v4), (6, .int v6), (7, .int v7)] [] M := by
    intro K32 hK32 M v6 v7 hw
    refine q_iconst (v := 2) hC dX5_read_101 rfl 102 rfl ?_
    refine q_goto hC 106 dX5_read_102 (by decide) ?_
    exact XX.sub [0, 1, 2, 3, 4, 5, 6] rfl (B106 _ hK32 M v6 v7 2 hw)
  have B32 : ∀ (n : Nat) (M : MM) (v5 : Int32) (v6 : Int32) (v7 : Int32) , wX5_read_32 Q v1 v2 v3 v4 n M v5 v6 v7 → XX z g Qf 10 32 [(0, .ref (gA g 52)), (1, .int v1), (2, .int v2), (3, .int v3), (4, .int v4), (5, .int v5), (6, .int v6), (7, .int v7)] [] M := by
    intro n
    induction n with
    | zero =>
      intro M v5 v6 v7 hw
      exact hw.elim
    | succ n ih =>
      intro M v5 v6 v7 hw
      refine q_iload hC dX5_read_32 7 rfl 34 rfl ?_
      refine q_iload hC dX5_read_34 4 rfl 36 rfl ?_
      refine q_icmp_ge hC 172 dX5_read_36 (by decide) 39 rfl hw (fun hw => ?_) (fun hw => ?_)
      · exact XX.sub [0, 1, 3, 5, 6] rfl (B172 M v5 v6 hw)
      · refine q_iload hC dX5_read_39 5 rfl 41 rfl ?_
        refine q_if_ne hC 172 dX5_read_41 (by decide) 44 rfl hw (fun hw => ?_) (fun hw => ?_)
        · exact XX.sub [0, 1, 3, 5, 6] rfl (B172 M v5 v6 hw)
        · refine q_iload_n hC dX5_read_44 3 rfl 45 rfl ?_
          refine q_i2l hC dX5_read_45 46 rfl ?_
          refine q_iload hC dX5_read_46 7 rfl 48 rfl ?_
          refine q_i2l hC dX5_read_48 49 rfl ?_
          refine q_ladd hC dX5_read_49 50 rfl ?_
          refine q_nameJ (fun x5 ex5 => ?_)
          have hw := hw x5 ex5
          refine q_lstore (L' := [(8, .long x5), (0, .ref (gA g 52)), (1, .int v1), (2, .int v2), (3, .int v3), (4, .int v4), (5, .int v5), (6, .int v6), (7, .int v7)]) hC dX5_read_50 (by decide) rfl 52 rfl ?_
          refine q_aload_n hC dX5_read_52 1 rfl 53 rfl ?_
          refine q_getR (C := RX5) (T := TX5) (N := 26) (ci := 5) hC inX5_read_X5 (obF52 hF) rfl 22 (by decide) (uX5_read__o _ (List.mem_of_getElem? (l := owX5_read) (i := 2) rfl)) rfl 64 (fun _ => rfl) dX5_read_53 56 rfl ?_
          refine q_iload_n hC dX5_read_56 2 rfl 57 rfl ?_
          obtain ⟨hin, hw⟩ := hw
          refine q_iald hC (arF64 hF) hin dX5_read_57 58 rfl ?_
          refine q_bipush (v := (-4)) hC dX5_read_58 (by decide) 60 rfl ?_
          refine q_icmp_ne hC 67 dX5_read_60 (by decide) 63 rfl hw (fun hw => ?_) (fun hw => ?_)
          · refine q_aload_n hC dX5_read_67 1 rfl 68 rfl ?_
            refine q_getR (C := RX5) (T := TX5) (N := 26) (ci := 5) hC inX5_read_X5 (obF52 hF) rfl 22 (by decide) (uX5_read__o _ (List.mem_of_getElem? (l := owX5_read) (i := 2) rfl)) rfl 64 (fun _ => rfl) dX5_read_68 71 rfl ?_
            refine q_iload_n hC dX5_read_71 2 rfl 72 rfl ?_
            obtain ⟨hin, hw⟩ := hw
            refine q_iald hC (arF64 hF) hin dX5_read_72 73 rfl ?_
            refine q_iload_n hC dX5_read_73 3 rfl 74 rfl ?_
            refine q_icmp_eq hC 81 dX5_read_74 (by decide) 77 rfl hw (fun hw => ?_) (fun hw => ?_)
            · refine q_lload hC dX5_read_81 0 rfl 83 rfl ?_
              refine q_lconst (v := 0) hC dX5_read_83 rfl 84 rfl ?_
              refine q_lcmp hC dX5_read_84 85 rfl ?_
              refine q_if_lt hC 101 dX5_read_85 (by decide) 88 rfl hw (fun hw => ?_) (fun hw => ?_)
              · exact XX.sub [1, 2, 3, 4, 5, 7, 8] rfl (B101 _ (fun M v5 v6 v7 hw => ih M v5 v6 v7 hw) M v6 v7 hw)
              · refine q_lload hC dX5_read_88 0 rfl 90 rfl ?_
                refine q_aload_n hC dX5_read_90 1 rfl 91 rfl ?_
                refine q_getR (C := RX5) (T := TX5) (N := 26) (ci := 5) hC inX5_read_X5 (obF52 hF) rfl 23 (by decide) (uX5_read__o _ (List.mem_of_getElem? (l := owX5_read) (i := 3) rfl)) rfl 65 (fun _ => rfl) dX5_read_91 94 rfl ?_
                refine q_iload_n hC dX5_read_94 2 rfl 95 rfl ?_
                obtain ⟨hin, hw⟩ := hw
                refine q_iald hC (arF65 hF) hin dX5_read_95 96 rfl ?_
                refine q_i2l hC dX5_read_96 97 rfl ?_
                refine q_lcmp hC dX5_read_97 98 rfl ?_
                refine q_if_lt hC 105 dX5_read_98 (by decide) 101 rfl hw (fun hw => ?_) (fun hw => ?_)
                · refine q_iconst (v := 0) hC dX5_read_105 rfl 106 rfl ?_
                  exact XX.sub [1, 2, 3, 4, 5, 7, 8] rfl (B106 _ (fun M v5 v6 v7 hw => ih M v5 v6 v7 hw) M v6 v7 0 hw)
                · exact XX.sub [1, 2, 3, 4, 5, 7, 8] rfl (B101 _ (fun M v5 v6 v7 hw => ih M v5 v6 v7 hw) M v6 v7 hw)
            · refine q_iconst (v := 3) hC dX5_read_77 rfl 78 rfl ?_
              refine q_goto hC 106 dX5_read_78 (by decide) ?_
              exact XX.sub [1, 2, 3, 4, 5, 7, 8] rfl (B106 _ (fun M v5 v6 v7 hw => ih M v5 v6 v7 hw) M v6 v7 3 hw)
          · refine q_iconst (v := 1) hC dX5_read_63 rfl 64 rfl ?_
            refine q_goto hC 106 dX5_read_64 (by decide) ?_
            exact XX.sub [1, 2, 3, 4, 5, 7, 8] rfl (B106 _ (fun M v5 v6 v7 hw => ih M v5 v6 v7 hw) M v6 v7 1 hw)
  refine q_iload_n hC dX5_read_0 1 rfl 1 rfl ?_
  refine q_iload_n hC dX5_read_1 2 rfl 2 rfl ?_
  refine r_callI hC (go_T (As := [.int v1, .int v2]) (rest := []) hC (ctX5_isSheet (zl z) g M v1 v2 _ hw) 2 gX5_read_X5_isSheet rfl ⟨rfl, rfl⟩ hdT_X5_isSheet ⟨Nat.le_of_ble_eq_true rfl, Nat.le_of_ble_eq_true rfl⟩ rfl rfl (Nat.le_of_ble_eq_true rfl) dX5_read_2) 5 rfl (fun r1 M2 hw => ?_)
  refine q_if_eq hC 21 dX5_read_5 (by decide) 8 rfl hw (fun hw => ?_) (fun hw => ?_)
  · refine q_iconst (v := (-1)) hC dX5_read_21 rfl 22 rfl ?_
    exact r_iret hR dX5_read_22 hw
  · refine q_iload hC dX5_read_8 4 rfl 10 rfl ?_
    refine q_i2l hC dX5_read_10 11 rfl ?_
    refine q_lconst (v := 0) hC dX5_read_11 rfl 12 rfl ?_
    refine q_ldc2 (v := 12) hC (uX5_read__o _ (List.mem_of_getElem? (l := owX5_read) (i := 1) rfl)) dX5_read_12 15 rfl ?_
    refine r_callI hC (go_T (As := [.long (v4.toInt64), .long 0, .long 12]) (rest := []) hC (ctX5_in (zl z) g M2 (v4.toInt64) 0 12 _ hw) 3 gX5_read_X5_in rfl ⟨rfl, rfl⟩ hdT_X5_in ⟨Nat.le_of_ble_eq_true rfl, Nat.le_of_ble_eq_true rfl⟩ rfl rfl (Nat.le_of_ble_eq_true rfl) dX5_read_15) 18 rfl (fun r3 M4 hw => ?_)
    refine q_if_ne hC 23 dX5_read_18 (by decide) 21 rfl hw (fun hw => ?_) (fun hw => ?_)
    · refine q_iconst (v := 0) hC dX5_read_23 rfl 24 rfl ?_
      refine q_istore (L' := [(5, .int 0), (0, .ref (gA g 52)), (1, .int v1), (2, .int v2), (3, .int v3), (4, .int v4)]) hC dX5_read_24 (by decide) rfl 26 rfl ?_
      refine q_iconst (v := 0) hC dX5_read_26 rfl 27 rfl ?_
      refine q_istore (L' := [(6, .int 0), (5, .int 0), (0, .ref (gA g 52)), (1, .int v1), (2, .int v2), (3, .int v3), (4, .int v4)]) hC dX5_read_27 (by decide) rfl 29 rfl ?_
      refine q_iconst (v := 0) hC dX5_read_29 rfl 30 rfl ?_
      refine q_istore (L' := [(7, .int 0), (6, .int 0), (5, .int 0), (0, .ref (gA g 52)), (1, .int v1), (2, .int v2), (3, .int v3), (4, .int v4)]) hC dX5_read_30 (by decide) rfl 32 rfl ?_
      obtain ⟨n0, hw⟩ := hw
      exact XX.sub [3, 4, 5, 6, 7, 2, 1, 0] rfl (B32 n0 M4 0 0 0 hw)
    · refine q_iconst (v := (-1)) hC dX5_read_21 rfl 22 rfl ?_
      exact r_iret hR dX5_read_22 hw
theorem inX5_torn_X5 : ∀ w ∈ u_ws RX5 TX5 26, w ∈ wsX5_torn := uX5_torn__wsX50
set_option maxRecDepth 100000 in
set_option maxHeartbeats 4000000 in
theorem ctX5_torn (l : Launch) (g : GG) (M : MM)  (Q : Int32 → MM → Prop) (hF : ful5 g) (hw : wX5_torn Q M ) : MI g l yX5_torn wsX5_torn (rmOf 0 0) [.ref (gA g 52)] M Q := by
  refine mk_MI (cc := cX5_torn) (maxL := 1) (by decide) rfl (Nat.le_of_ble_eq_true rfl) ?_
  intro z Qf hC hR
  show XX z g Qf 1 0 [(0, .ref (gA g 52))] [] M
  refine q_aload_n hC dX5_torn_0 0 rfl 1 rfl ?_
  refine q_getI (C := RX5) (T := TX5) (N := 26) (ci := 5) hC inX5_torn_X5 (obF52 hF) rfl 25 (by decide) (uX5_torn__o _ (List.mem_of_getElem? (l := owX5_torn) (i := 1) rfl)) rfl (fun _ => rfl) dX5_torn_1 4 rfl ?_
  exact r_iret hR dX5_torn_4 hw
theorem inX5_count_X5 : ∀ w ∈ u_ws RX5 TX5 26, w ∈ wsX5_count := uX5_count__wsX50
set_option maxRecDepth 100000 in
set_option maxHeartbeats 4000000 in
theorem ctX5_count (l : Launch) (g : GG) (M : MM) (v1 : Int32) (Q : Int32 → MM → Prop) (hF : ful5 g) (hw : wX5_count Q M v1) : MI g l yX5_count wsX5_count (rmOf 1 20) [.ref (gA g 52), .int v1] M Q := by
  refine mk_MI (cc := cX5_count) (maxL := 5) (by decide) rfl (Nat.le_of_ble_eq_true rfl) ?_
  intro z Qf hC hR
  show XX z g Qf 5 0 [(0, .ref (gA g 52)), (1, .int v1)] [] M
  have B37 : ∀ (K7 : MM → Int32 → Int32 → Int32 → Prop) (hK7 : ∀ (M : MM) (v2 : Int32) (v3 : Int32) (v4 : Int32) , K7 M v2 v3 v4 → XX z g Qf 5 7 [(0, .ref (gA g 52)), (1, .int v1), (2, .int v2), (3, .int v3), (4, .int v4)] [] M) (M : MM) (v3 : Int32) (v4 : Int32) (p0 : Int32) (p1 : Int32), wX5_count_37 Q K7 v1 M v3 v4 p0 p1 → XX z g Qf 5 37 [(0, .ref (gA g 52)), (1, .int v1), (3, .int v3), (4, .int v4)] [.int p0, .int p1] M := by
    intro K7 hK7 M v3 v4 p0 p1 hw
    refine r_callI hC (go_T (As := [.int p0]) (rest := [.int p1]) hC (ctX5_flag (zl z) g M p0 _ hw) 1 gX5_count_X5_flag rfl ⟨rfl, rfl⟩ hdT_X5_flag ⟨Nat.le_of_ble_eq_true rfl, Nat.le_of_ble_eq_true rfl⟩ rfl rfl (Nat.le_of_ble_eq_true rfl) dX5_count_37) 40 rfl (fun r5 M6 hw => ?_)
    refine q_iadd hC dX5_count_40 41 rfl ?_
    refine q_istore_n (L' := [(2, .int (p1 + r5)), (0, .ref (gA g 52)), (1, .int v1), (3, .int v3), (4, .int v4)]) hC dX5_count_41 (by decide) rfl 42 rfl ?_
    refine q_iload_n hC dX5_count_42 3 rfl 43 rfl ?_
    refine q_aload_n hC dX5_count_43 1 rfl 44 rfl ?_
    refine q_getR (C := RX5) (T := TX5) (N := 26) (ci := 5) hC inX5_count_X5 (obF52 hF) rfl 0 (by decide) (uX5_count__o _ (List.mem_of_getElem? (l := owX5_count) (i := 1) rfl)) rfl 53 (fun _ => rfl) dX5_count_44 47 rfl ?_
    refine q_bipush (v := 13) hC dX5_count_47 (by decide) 49 rfl ?_
    refine q_iload hC dX5_count_49 4 rfl 51 rfl ?_
    refine q_iadd hC dX5_count_51 52 rfl ?_
    obtain ⟨hin, hw⟩ := hw
    refine q_iald hC (arF53 hF) hin dX5_count_52 53 rfl ?_
    refine q_iadd hC dX5_count_53 54 rfl ?_
    refine q_nameI (fun x7 ex7 => ?_)
    have hw := hw x7 ex7
    refine q_istore_n (L' := [(3, .int x7), (2, .int (p1 + r5)), (0, .ref (gA g 52)), (1, .int v1), (4, .int v4)]) hC dX5_count_54 (by decide) rfl 55 rfl ?_
    refine q_iinc (v := v4 + 1) (L' := [(4, .int (v4 + 1)), (3, .int x7), (2, .int (p1 + r5)), (0, .ref (gA g 52)), (1, .int v1)]) hC dX5_count_55 4 rfl rfl (by decide) rfl 58 rfl ?_
    refine q_goto hC 7 dX5_count_58 (by decide) ?_
    exact XX.sub [3, 4, 2, 1, 0] rfl (hK7 M6 (p1 + r5) x7 (v4 + 1) hw)
  have B7 : ∀ (n : Nat) (M : MM) (v2 : Int32) (v3 : Int32) (v4 : Int32) , wX5_count_7 Q v1 n M v2 v3 v4 → XX z g Qf 5 7 [(0, .ref (gA g 52)), (1, .int v1), (2, .int v2), (3, .int v3), (4, .int v4)] [] M := by
    intro n
    induction n with
    | zero =>
      intro M v2 v3 v4 hw
      exact hw.elim
    | succ n ih =>
      intro M v2 v3 v4 hw
      refine q_iload hC dX5_count_7 4 rfl 9 rfl ?_
      refine q_aload_n hC dX5_count_9 0 rfl 10 rfl ?_
      refine q_getR (C := RX5) (T := TX5) (N := 26) (ci := 5) hC inX5_count_X5 (obF52 hF) rfl 0 (by decide) (uX5_count__o _ (List.mem_of_getElem? (l := owX5_count) (i := 1) rfl)) rfl 53 (fun _ => rfl) dX5_count_10 13 rfl ?_
      refine q_iconst (v := 0) hC dX5_count_13 rfl 14 rfl ?_
      refine q_ialdL hC (arF53 hF) 0 (by decide +kernel) (by decide +kernel) dX5_count_14 15 rfl ?_
      refine q_icmp_ge hC 61 dX5_count_15 (by decide) 18 rfl hw (fun hw => ?_) (fun hw => ?_)
      · refine q_iload_n hC dX5_count_61 1 rfl 62 rfl ?_
        by_cases c0 : v1 = 0
        · have hw := hw.1 c0
          refine q_tabIn hC 104 dX5_count_62 (by rw [c0]; decide) (by rw [c0]; decide) (by rw [c0]; rfl) (by decide) ?_
          refine q_aload_n hC dX5_count_104 0 rfl 105 rfl ?_
          refine q_getR (C := RX5) (T := TX5) (N := 26) (ci := 5) hC inX5_count_X5 (obF52 hF) rfl 0 (by decide) (uX5_count__o _ (List.mem_of_getElem? (l := owX5_count) (i := 1) rfl)) rfl 53 (fun _ => rfl) dX5_count_105 108 rfl ?_
          refine q_iconst (v := 0) hC dX5_count_108 rfl 109 rfl ?_
          refine q_ialdL hC (arF53 hF) 0 (by decide +kernel) (by decide +kernel) dX5_count_109 110 rfl ?_
          exact r_iret hR dX5_count_110 hw
        · have hw := hw.2 c0
          by_cases c1 : v1 = 1
          · have hw := hw.1 c1
            refine q_tabIn hC 111 dX5_count_62 (by rw [c1]; decide) (by rw [c1]; decide) (by rw [c1]; rfl) (by decide) ?_
            refine q_iload_n hC dX5_count_111 2 rfl 112 rfl ?_
            exact r_iret hR dX5_count_112 hw
          · have hw := hw.2 c1
            by_cases c2 : v1 = 2
            · have hw := hw.1 c2
              refine q_tabIn hC 113 dX5_count_62 (by rw [c2]; decide) (by rw [c2]; decide) (by rw [c2]; rfl) (by decide) ?_
              refine q_iload_n hC dX5_count_113 3 rfl 114 rfl ?_
              exact r_iret hR dX5_count_114 hw
            · have hw := hw.2 c2
              by_cases c3 : v1 = 3
              · have hw := hw.1 c3
                refine q_tabIn hC 115 dX5_count_62 (by rw [c3]; decide) (by rw [c3]; decide) (by rw [c3]; rfl) (by decide) ?_
                refine q_aload_n hC dX5_count_115 0 rfl 116 rfl ?_
                refine q_getR (C := RX5) (T := TX5) (N := 26) (ci := 5) hC inX5_count_X5 (obF52 hF) rfl 0 (by decide) (uX5_count__o _ (List.mem_of_getElem? (l := owX5_count) (i := 1) rfl)) rfl 53 (fun _ => rfl) dX5_count_116 119 rfl ?_
                refine q_sipush (v := 341) hC dX5_count_119 (by decide) 122 rfl ?_
                refine q_ialdL hC (arF53 hF) 341 (by decide +kernel) (by decide +kernel) dX5_count_122 123 rfl ?_
                exact r_iret hR dX5_count_123 hw
              · have hw := hw.2 c3
                by_cases c4 : v1 = 4
                · have hw := hw.1 c4
                  refine q_tabIn hC 124 dX5_count_62 (by rw [c4]; decide) (by rw [c4]; decide) (by rw [c4]; rfl) (by decide) ?_
                  refine q_aload_n hC dX5_count_124 0 rfl 125 rfl ?_
                  refine q_getR (C := RX5) (T := TX5) (N := 26) (ci := 5) hC inX5_count_X5 (obF52 hF) rfl 1 (by decide) (uX5_count__o _ (List.mem_of_getElem? (l := owX5_count) (i := 2) rfl)) rfl 54 (fun _ => rfl) dX5_count_125 128 rfl ?_
                  refine q_iconst (v := 0) hC dX5_count_128 rfl 129 rfl ?_
                  refine q_zaldL hC (arF54 hF) 0 (by decide +kernel) (by decide +kernel) dX5_count_129 130 rfl ?_
                  refine r_callI hC (go_T (As := [.int (M 54 0)]) (rest := []) hC (ctX5_flag (zl z) g M (M 54 0) _ hw) 1 gX5_count_X5_flag rfl ⟨rfl, rfl⟩ hdT_X5_flag ⟨Nat.le_of_ble_eq_true rfl, Nat.le_of_ble_eq_true rfl⟩ rfl rfl (Nat.le_of_ble_eq_true rfl) dX5_count_130) 133 rfl (fun r1 M2 hw => ?_)
                  refine q_aload_n hC dX5_count_133 0 rfl 134 rfl ?_
                  refine q_getR (C := RX5) (T := TX5) (N := 26) (ci := 5) hC inX5_count_X5 (obF52 hF) rfl 1 (by decide) (uX5_count__o _ (List.mem_of_getElem? (l := owX5_count) (i := 2) rfl)) rfl 54 (fun _ => rfl) dX5_count_134 137 rfl ?_
                  refine q_iconst (v := 1) hC dX5_count_137 rfl 138 rfl ?_
                  refine q_zaldL hC (arF54 hF) 1 (by decide +kernel) (by decide +kernel) dX5_count_138 139 rfl ?_
                  refine r_callI hC (go_T (As := [.int (M2 54 1)]) (rest := [.int r1]) hC (ctX5_flag (zl z) g M2 (M2 54 1) _ hw) 1 gX5_count_X5_flag rfl ⟨rfl, rfl⟩ hdT_X5_flag ⟨Nat.le_of_ble_eq_true rfl, Nat.le_of_ble_eq_true rfl⟩ rfl rfl (Nat.le_of_ble_eq_true rfl) dX5_count_139) 142 rfl (fun r3 M4 hw => ?_)
                  refine q_iadd hC dX5_count_142 143 rfl ?_
                  exact r_iret hR dX5_count_143 hw
                · have hw := hw.2 c4
                  by_cases c5 : v1 = 5
                  · have hw := hw.1 c5
                    refine q_tabIn hC 144 dX5_count_62 (by rw [c5]; decide) (by rw [c5]; decide) (by rw [c5]; rfl) (by decide) ?_
                    refine q_aload_n hC dX5_count_144 0 rfl 145 rfl ?_
                    refine q_getI (C := RX5) (T := TX5) (N := 26) (ci := 5) hC inX5_count_X5 (obF52 hF) rfl 9 (by decide) (uX5_count__o _ (List.mem_of_getElem? (l := owX5_count) (i := 3) rfl)) rfl (fun _ => rfl) dX5_count_145 148 rfl ?_
                    exact r_iret hR dX5_count_148 hw
                  · have hw := hw.2 c5
                    by_cases c6 : v1 = 6
                    · have hw := hw.1 c6
                      refine q_tabIn hC 149 dX5_count_62 (by rw [c6]; decide) (by rw [c6]; decide) (by rw [c6]; rfl) (by decide) ?_
                      refine q_aload_n hC dX5_count_149 0 rfl 150 rfl ?_
                      refine q_getR (C := RX5) (T := TX5) (N := 26) (ci := 5) hC inX5_count_X5 (obF52 hF) rfl 22 (by decide) (uX5_count__o _ (List.mem_of_getElem? (l := owX5_count) (i := 4) rfl)) rfl 64 (fun _ => rfl) dX5_count_150 153 rfl ?_
                      refine q_iconst (v := 0) hC dX5_count_153 rfl 154 rfl ?_
                      refine q_ialdL hC (arF64 hF) 0 (by decide +kernel) (by decide +kernel) dX5_count_154 155 rfl ?_
                      refine q_bipush (v := (-4)) hC dX5_count_155 (by decide) 157 rfl ?_
                      refine q_icmp_ne hC 165 dX5_count_157 (by decide) 160 rfl hw (fun hw => ?_) (fun hw => ?_)
                      · refine q_aload_n hC dX5_count_165 0 rfl 166 rfl ?_
                        refine q_getR (C := RX5) (T := TX5) (N := 26) (ci := 5) hC inX5_count_X5 (obF52 hF) rfl 23 (by decide) (uX5_count__o _ (List.mem_of_getElem? (l := owX5_count) (i := 5) rfl)) rfl 65 (fun _ => rfl) dX5_count_166 169 rfl ?_
                        refine q_iconst (v := 0) hC dX5_count_169 rfl 170 rfl ?_
                        refine q_ialdL hC (arF65 hF) 0 (by decide +kernel) (by decide +kernel) dX5_count_170 171 rfl ?_
                        exact r_iret hR dX5_count_171 hw
                      · refine q_bipush (v := (-4)) hC dX5_count_160 (by decide) 162 rfl ?_
                        refine q_goto hC 171 dX5_count_162 (by decide) ?_
                        exact r_iret hR dX5_count_171 hw
                    · have hw := hw.2 c6
                      refine q_tabOut hC 172 dX5_count_62 (tab_out6 c0 c1 c2 c3 c4 c5 c6) (by decide) ?_
                      refine q_iconst (v := (-1)) hC dX5_count_172 rfl 173 rfl ?_
                      exact r_iret hR dX5_count_173 hw
      · refine q_iload_n hC dX5_count_18 2 rfl 19 rfl ?_
        refine q_aload_n hC dX5_count_19 0 rfl 20 rfl ?_
        refine q_getR (C := RX5) (T := TX5) (N := 26) (ci := 5) hC inX5_count_X5 (obF52 hF) rfl 0 (by decide) (uX5_count__o _ (List.mem_of_getElem? (l := owX5_count) (i := 1) rfl)) rfl 53 (fun _ => rfl) dX5_count_20 23 rfl ?_
        refine q_bipush (v := 13) hC dX5_count_23 (by decide) 25 rfl ?_
        refine q_iload hC dX5_count_25 4 rfl 27 rfl ?_
        refine q_iadd hC dX5_count_27 28 rfl ?_
        obtain ⟨hin, hw⟩ := hw
        refine q_iald hC (arF53 hF) hin dX5_count_28 29 rfl ?_
        refine q_if_ne hC 36 dX5_count_29 (by decide) 32 rfl hw (fun hw => ?_) (fun hw => ?_)
        · refine q_iconst (v := 0) hC dX5_count_36 rfl 37 rfl ?_
          exact XX.sub [0, 1, 3, 4] rfl (B37 _ (fun M v2 v3 v4 hw => ih M v2 v3 v4 hw) M v3 v4 0 v2 hw)
        · refine q_iconst (v := 1) hC dX5_count_32 rfl 33 rfl ?_
          refine q_goto hC 37 dX5_count_33 (by decide) ?_
          exact XX.sub [0, 1, 3, 4] rfl (B37 _ (fun M v2 v3 v4 hw => ih M v2 v3 v4 hw) M v3 v4 1 v2 hw)
  refine q_iconst (v := 0) hC dX5_count_0 rfl 1 rfl ?_
  refine q_istore_n (L' := [(2, .int 0), (0, .ref (gA g 52)), (1, .int v1)]) hC dX5_count_1 (by decide) rfl 2 rfl ?_
  refine q_iconst (v := 0) hC dX5_count_2 rfl 3 rfl ?_
  refine q_istore_n (L' := [(3, .int 0), (2, .int 0), (0, .ref (gA g 52)), (1, .int v1)]) hC dX5_count_3 (by decide) rfl 4 rfl ?_
  refine q_iconst (v := 0) hC dX5_count_4 rfl 5 rfl ?_
  refine q_istore (L' := [(4, .int 0), (3, .int 0), (2, .int 0), (0, .ref (gA g 52)), (1, .int v1)]) hC dX5_count_5 (by decide) rfl 7 rfl ?_
  obtain ⟨n0, hw⟩ := hw
  exact XX.sub [3, 4, 2, 1, 0] rfl (B7 n0 M 0 0 0 hw)
