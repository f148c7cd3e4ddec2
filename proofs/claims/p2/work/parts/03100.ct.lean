set_option maxRecDepth 100000 in
set_option maxHeartbeats 4000000 in
theorem ctX4_copyRow (l : Launch) (g : GG) (M : MM) (k0 : Nat) (k1 : Nat) (Q : MM → Prop) (hk0 : isI g k0) (hk1 : isI g k1) (hw : wX4_copyRow Q M k0 k1) : MV g l yX4_copyRow wsX4_copyRow (rmOf 1 60) [.ref (gA g k0), .ref (gA g k1)] M Q := by
  refine mk_MV (cc := cX4_copyRow) (maxL := 2) (by decide) rfl (Nat.le_of_ble_eq_true rfl) ?_
  intro z Qf hC hR
  show XX z g Qf 2 0 [(0, .ref (gA g k0)), (1, .ref (gA g k1))] [] M
  refine q_aload_n hC dX4_copyRow_0 0 rfl 1 rfl ?_
  refine q_ifnull hC dX4_copyRow_1 4 rfl ?_
  refine q_aload_n hC dX4_copyRow_4 1 rfl 5 rfl ?_
  refine q_ifnull hC dX4_copyRow_5 8 rfl ?_
  refine q_aload_n hC dX4_copyRow_8 0 rfl 9 rfl ?_
  refine q_iconst (v := 0) hC dX4_copyRow_9 rfl 10 rfl ?_
  refine q_aload_n hC dX4_copyRow_10 1 rfl 11 rfl ?_
  refine q_iconst (v := 0) hC dX4_copyRow_11 rfl 12 rfl ?_
  refine q_aload_n hC dX4_copyRow_12 0 rfl 13 rfl ?_
  refine q_alen hC hk0 dX4_copyRow_13 14 rfl ?_
  refine q_aload_n hC dX4_copyRow_14 1 rfl 15 rfl ?_
  refine q_alen hC hk1 dX4_copyRow_15 16 rfl ?_
  refine q_mmin hC (uX4_copyRow__o _ (List.mem_of_getElem? (l := owX4_copyRow) (i := 1) rfl)) (uX4_copyRow__o _ (List.mem_of_getElem? (l := owX4_copyRow) (i := 2) rfl)) (uX4_copyRow__o _ (List.mem_of_getElem? (l := owX4_copyRow) (i := 3) rfl)) (uX4_copyRow__o _ (List.mem_of_getElem? (l := owX4_copyRow) (i := 4) rfl)) (by decide) (Nat.le_of_ble_eq_true rfl) dX4_copyRow_16 19 rfl ?_
  obtain ⟨hp1, hp2, hp3, hp4, hp5, hw⟩ := hw
  refine q_copy hC (uX4_copyRow__o _ (List.mem_of_getElem? (l := owX4_copyRow) (i := 5) rfl)) (uX4_copyRow__o _ (List.mem_of_getElem? (l := owX4_copyRow) (i := 6) rfl)) (uX4_copyRow__o _ (List.mem_of_getElem? (l := owX4_copyRow) (i := 7) rfl)) (uX4_copyRow__o _ (List.mem_of_getElem? (l := owX4_copyRow) (i := 8) rfl)) hk0 hk1 hp1 hp2 hp3 hp4 hp5 (by decide) (Nat.le_of_ble_eq_true rfl) dX4_copyRow_19 22 rfl (fun M1 eM1 => ?_)
  have hw := hw M1 eM1
  exact r_vret hR dX4_copyRow_22 hw
set_option maxRecDepth 100000 in
set_option maxHeartbeats 4000000 in
theorem ctX4_copyRow_si (l : Launch) (g : GG) (M : MM) (k0 : Nat) (k1 : Nat) (Q : MM → Prop) (hk0 : k0 < 3) (hk1 : isI g k1) (hw : wX4_copyRow_si Q M k0 k1) : MV g l yX4_copyRow wsX4_copyRow (rmOf 1 60) [.ref (gS g k0), .ref (gA g k1)] M Q := by
  refine mk_MV (cc := cX4_copyRow) (maxL := 2) (by decide) rfl (Nat.le_of_ble_eq_true rfl) ?_
  intro z Qf hC hR
  show XX z g Qf 2 0 [(0, .ref (gS g k0)), (1, .ref (gA g k1))] [] M
  refine q_aload_n hC dX4_copyRow_0 0 rfl 1 rfl ?_
  refine q_ifnull hC dX4_copyRow_1 4 rfl ?_
  refine q_aload_n hC dX4_copyRow_4 1 rfl 5 rfl ?_
  refine q_ifnull hC dX4_copyRow_5 8 rfl ?_
  refine q_aload_n hC dX4_copyRow_8 0 rfl 9 rfl ?_
  refine q_iconst (v := 0) hC dX4_copyRow_9 rfl 10 rfl ?_
  refine q_aload_n hC dX4_copyRow_10 1 rfl 11 rfl ?_
  refine q_iconst (v := 0) hC dX4_copyRow_11 rfl 12 rfl ?_
  refine q_aload_n hC dX4_copyRow_12 0 rfl 13 rfl ?_
  refine q_tlen hC k0 hk0 dX4_copyRow_13 14 rfl ?_
  refine q_aload_n hC dX4_copyRow_14 1 rfl 15 rfl ?_
  refine q_alen hC hk1 dX4_copyRow_15 16 rfl ?_
  refine q_mmin hC (uX4_copyRow__o _ (List.mem_of_getElem? (l := owX4_copyRow) (i := 1) rfl)) (uX4_copyRow__o _ (List.mem_of_getElem? (l := owX4_copyRow) (i := 2) rfl)) (uX4_copyRow__o _ (List.mem_of_getElem? (l := owX4_copyRow) (i := 3) rfl)) (uX4_copyRow__o _ (List.mem_of_getElem? (l := owX4_copyRow) (i := 4) rfl)) (by decide) (Nat.le_of_ble_eq_true rfl) dX4_copyRow_16 19 rfl ?_
  obtain ⟨hp1, hp2, hp3, hp4, hp5, hw⟩ := hw
  refine q_copyt hC (uX4_copyRow__o _ (List.mem_of_getElem? (l := owX4_copyRow) (i := 5) rfl)) (uX4_copyRow__o _ (List.mem_of_getElem? (l := owX4_copyRow) (i := 6) rfl)) (uX4_copyRow__o _ (List.mem_of_getElem? (l := owX4_copyRow) (i := 7) rfl)) (uX4_copyRow__o _ (List.mem_of_getElem? (l := owX4_copyRow) (i := 8) rfl)) hk0 hk1 hp1 hp2 hp3 hp4 hp5 (by decide) (Nat.le_of_ble_eq_true rfl) dX4_copyRow_19 22 rfl (fun M1 eM1 => ?_)
  have hw := hw M1 eM1
  exact r_vret hR dX4_copyRow_22 hw
theorem hdT_X4_copyRow : yX4_copyRow.cls ≠ "java/lang/invoke/MethodHandle" ∧ yX4_copyRow.cls ≠ "java/lang/invoke/VarHandle" ∧ (parseMethodDescriptor yX4_copyRow.desc).map (fun d => d.parameters.length) = some 2 := by decide +kernel
theorem inX2_reset_X2 : ∀ w ∈ u_ws RX2 TX2 14, w ∈ wsX2_reset := uX2_reset__wsX20
set_option maxRecDepth 100000 in
set_option maxHeartbeats 4000000 in
theorem ctX2_reset (l : Launch) (g : GG) (M : MM) (b : Nat) (Q : MM → Prop) (hb : tpl g b) (hw : wX2_reset Q M b) : MV g l yX2_reset wsX2_reset (rmOf 2 81) [.ref (gA g b)] M Q := by
  refine mk_MV (cc := cX2_reset) (maxL := 1) (by decide) rfl (Nat.le_of_ble_eq_true rfl) ?_
  intro z Qf hC hR
  show XX z g Qf 1 0 [(0, .ref (gA g b))] [] M
  refine q_getsN hC 2 (by decide) 0 rfl dX2_reset_0 3 rfl ?_
  refine q_aload_n hC dX2_reset_3 0 rfl 4 rfl ?_
  refine q_getR (C := RX2) (T := TX2) (N := 14) (ci := 2) hC inX2_reset_X2 hb.ob rfl 0 (by decide) (uX2_reset__o _ (List.mem_of_getElem? (l := owX2_reset) (i := 1) rfl)) rfl (b + 1) (fun _ => rfl) dX2_reset_4 7 rfl ?_
  refine r_callV hC (go_N (As := [.ref (gS g 2), .ref (gA g (b + 1))]) (rest := []) hC (ctX4_copyRow_si (zl z) g M 2 (b + 1) _ (by decide) (hb.ar 1 (by decide) (by decide)) hw) 2 gX2_reset_X4_copyRow_n42 rfl ⟨rfl, rfl⟩ 8 rfl (uX2_reset__o _ (List.mem_of_getElem? (l := owX2_reset) (i := 9) rfl)) (uX2_reset__o _ (List.mem_of_getElem? (l := owX2_reset) (i := 8) rfl)) hdT_X4_copyRow ⟨Nat.le_of_ble_eq_true rfl, Nat.le_of_ble_eq_true rfl⟩ rfl rfl (Nat.le_of_ble_eq_true rfl) dX2_reset_7) 10 rfl (fun M1 hw => ?_)
  refine q_aload_n hC dX2_reset_10 0 rfl 11 rfl ?_
  refine q_iconst (v := 0) hC dX2_reset_11 rfl 12 rfl ?_
  refine q_putI (C := RX2) (T := TX2) (N := 14) (ci := 2) hC inX2_reset_X2 tyX2 tyX2_ok nmX2 hb.ob rfl 8 (by decide) (uX2_reset__o _ (List.mem_of_getElem? (l := owX2_reset) (i := 2) rfl)) rfl rfl rfl (fun _ => Nat.le_of_ble_eq_true rfl) (fun _ => rfl) dX2_reset_12 15 rfl (fun M2 eM2 => ?_)
  have hw := hw M2 eM2
  refine q_aload_n hC dX2_reset_15 0 rfl 16 rfl ?_
  refine q_iconst (v := 0) hC dX2_reset_16 rfl 17 rfl ?_
  refine q_putI (C := RX2) (T := TX2) (N := 14) (ci := 2) hC inX2_reset_X2 tyX2 tyX2_ok nmX2 hb.ob rfl 9 (by decide) (uX2_reset__o _ (List.mem_of_getElem? (l := owX2_reset) (i := 3) rfl)) rfl rfl rfl (fun _ => Nat.le_of_ble_eq_true rfl) (fun _ => rfl) dX2_reset_17 20 rfl (fun M3 eM3 => ?_)
  have hw := hw M3 eM3
  refine q_aload_n hC dX2_reset_20 0 rfl 21 rfl ?_
  refine q_iconst (v := 0) hC dX2_reset_21 rfl 22 rfl ?_
  refine q_putI (C := RX2) (T := TX2) (N := 14) (ci := 2) hC inX2_reset_X2 tyX2 tyX2_ok nmX2 hb.ob rfl 10 (by decide) (uX2_reset__o _ (List.mem_of_getElem? (l := owX2_reset) (i := 4) rfl)) rfl rfl rfl (fun _ => Nat.le_of_ble_eq_true rfl) (fun _ => rfl) dX2_reset_22 25 rfl (fun M4 eM4 => ?_)
  have hw := hw M4 eM4
  refine q_aload_n hC dX2_reset_25 0 rfl 26 rfl ?_
  refine q_iconst (v := 0) hC dX2_reset_26 rfl 27 rfl ?_
  refine q_putI (C := RX2) (T := TX2) (N := 14) (ci := 2) hC inX2_reset_X2 tyX2 tyX2_ok nmX2 hb.ob rfl 11 (by decide) (uX2_reset__o _ (List.mem_of_getElem? (l := owX2_reset) (i := 5) rfl)) rfl rfl rfl (fun _ => Nat.le_of_ble_eq_true rfl) (fun _ => rfl) dX2_reset_27 30 rfl (fun M5 eM5 => ?_)
  have hw := hw M5 eM5
  refine q_aload_n hC dX2_reset_30 0 rfl 31 rfl ?_
  refine q_bipush (v := (-4)) hC dX2_reset_31 (by decide) 33 rfl ?_
  refine q_putI (C := RX2) (T := TX2) (N := 14) (ci := 2) hC inX2_reset_X2 tyX2 tyX2_ok nmX2 hb.ob rfl 12 (by decide) (uX2_reset__o _ (List.mem_of_getElem? (l := owX2_reset) (i := 6) rfl)) rfl rfl rfl (fun _ => Nat.le_of_ble_eq_true rfl) (fun _ => rfl) dX2_reset_33 36 rfl (fun M6 eM6 => ?_)
  have hw := hw M6 eM6
  refine q_aload_n hC dX2_reset_36 0 rfl 37 rfl ?_
  refine q_iconst (v := 0) hC dX2_reset_37 rfl 38 rfl ?_
  refine q_putI (C := RX2) (T := TX2) (N := 14) (ci := 2) hC inX2_reset_X2 tyX2 tyX2_ok nmX2 hb.ob rfl 13 (by decide) (uX2_reset__o _ (List.mem_of_getElem? (l := owX2_reset) (i := 7) rfl)) rfl rfl rfl (fun _ => Nat.le_of_ble_eq_true rfl) (fun _ => rfl) dX2_reset_38 41 rfl (fun M7 eM7 => ?_)
  have hw := hw M7 eM7
  exact r_vret hR dX2_reset_41 hw
theorem inX2_becomes_X2 : ∀ w ∈ u_ws RX2 TX2 14, w ∈ wsX2_becomes := uX2_becomes__wsX20
set_option maxRecDepth 100000 in
set_option maxHeartbeats 4000000 in
theorem ctX2_becomes (l : Launch) (g : GG) (M : MM) (b : Nat) (o1 : Nat) (Q : MM → Prop) (hb : tpl g b) (ho1 : tpl g o1) (hw : wX2_becomes Q M b o1) : MV g l yX2_becomes wsX2_becomes (rmOf 2 81) [.ref (gA g b), .ref (gA g o1)] M Q := by
  refine mk_MV (cc := cX2_becomes) (maxL := 2) (by decide) rfl (Nat.le_of_ble_eq_true rfl) ?_
  intro z Qf hC hR
  show XX z g Qf 2 0 [(0, .ref (gA g b)), (1, .ref (gA g o1))] [] M
  refine q_aload_n hC dX2_becomes_0 1 rfl 1 rfl ?_
  refine q_ifnonnull hC 5 dX2_becomes_1 (by decide) ?_
  refine q_aload_n hC dX2_becomes_5 1 rfl 6 rfl ?_
  refine q_getR (C := RX2) (T := TX2) (N := 14) (ci := 2) hC inX2_becomes_X2 ho1.ob rfl 0 (by decide) (uX2_becomes__o _ (List.mem_of_getElem? (l := owX2_becomes) (i := 1) rfl)) rfl (o1 + 1) (fun _ => rfl) dX2_becomes_6 9 rfl ?_
  refine q_aload_n hC dX2_becomes_9 0 rfl 10 rfl ?_
  refine q_getR (C := RX2) (T := TX2) (N := 14) (ci := 2) hC inX2_becomes_X2 hb.ob rfl 0 (by decide) (uX2_becomes__o _ (List.mem_of_getElem? (l := owX2_becomes) (i := 1) rfl)) rfl (b + 1) (fun _ => rfl) dX2_becomes_10 13 rfl ?_
  refine r_callV hC (go_N (As := [.ref (gA g (o1 + 1)), .ref (gA g (b + 1))]) (rest := []) hC (ctX4_copyRow (zl z) g M (o1 + 1) (b + 1) _ (ho1.ar 1 (by decide) (by decide)) (hb.ar 1 (by decide) (by decide)) hw) 2 gX2_becomes_X4_copyRow_n42 rfl ⟨rfl, rfl⟩ 8 rfl (uX2_becomes__o _ (List.mem_of_getElem? (l := owX2_becomes) (i := 16) rfl)) (uX2_becomes__o _ (List.mem_of_getElem? (l := owX2_becomes) (i := 15) rfl)) hdT_X4_copyRow ⟨Nat.le_of_ble_eq_true rfl, Nat.le_of_ble_eq_true rfl⟩ rfl rfl (Nat.le_of_ble_eq_true rfl) dX2_becomes_13) 16 rfl (fun M1 hw => ?_)
  refine q_aload_n hC dX2_becomes_16 1 rfl 17 rfl ?_
  refine q_getR (C := RX2) (T := TX2) (N := 14) (ci := 2) hC inX2_becomes_X2 ho1.ob rfl 1 (by decide) (uX2_becomes__o _ (List.mem_of_getElem? (l := owX2_becomes) (i := 2) rfl)) rfl (o1 + 2) (fun _ => rfl) dX2_becomes_17 20 rfl ?_
  refine q_aload_n hC dX2_becomes_20 0 rfl 21 rfl ?_
  refine q_getR (C := RX2) (T := TX2) (N := 14) (ci := 2) hC inX2_becomes_X2 hb.ob rfl 1 (by decide) (uX2_becomes__o _ (List.mem_of_getElem? (l := owX2_becomes) (i := 2) rfl)) rfl (b + 2) (fun _ => rfl) dX2_becomes_21 24 rfl ?_
  refine r_callV hC (go_N (As := [.ref (gA g (o1 + 2)), .ref (gA g (b + 2))]) (rest := []) hC (ctX4_copyRow (zl z) g M1 (o1 + 2) (b + 2) _ (ho1.ar 2 (by decide) (by decide)) (hb.ar 2 (by decide) (by decide)) hw) 2 gX2_becomes_X4_copyRow_n42 rfl ⟨rfl, rfl⟩ 8 rfl (uX2_becomes__o _ (List.mem_of_getElem? (l := owX2_becomes) (i := 16) rfl)) (uX2_becomes__o _ (List.mem_of_getElem? (l := owX2_becomes) (i := 15) rfl)) hdT_X4_copyRow ⟨Nat.le_of_ble_eq_true rfl, Nat.le_of_ble_eq_true rfl⟩ rfl rfl (Nat.le_of_ble_eq_true rfl) dX2_becomes_24) 27 rfl (fun M2 hw => ?_)
  refine q_aload_n hC dX2_becomes_27 1 rfl 28 rfl ?_
  refine q_getR (C := RX2) (T := TX2) (N := 14) (ci := 2) hC inX2_becomes_X2 ho1.ob rfl 2 (by decide) (uX2_becomes__o _ (List.mem_of_getElem? (l := owX2_becomes) (i := 3) rfl)) rfl (o1 + 3) (fun _ => rfl) dX2_becomes_28 31 rfl ?_
  refine q_aload_n hC dX2_becomes_31 0 rfl 32 rfl ?_
  refine q_getR (C := RX2) (T := TX2) (N := 14) (ci := 2) hC inX2_becomes_X2 hb.ob rfl 2 (by decide) (uX2_becomes__o _ (List.mem_of_getElem? (l := owX2_becomes) (i := 3) rfl)) rfl (b + 3) (fun _ => rfl) dX2_becomes_32 35 rfl ?_
  refine r_callV hC (go_N (As := [.ref (gA g (o1 + 3)), .ref (gA g (b + 3))]) (rest := []) hC (ctX4_copyRow (zl z) g M2 (o1 + 3) (b + 3) _ (ho1.ar 3 (by decide) (by decide)) (hb.ar 3 (by decide) (by decide)) hw) 2 gX2_becomes_X4_copyRow_n42 rfl ⟨rfl, rfl⟩ 8 rfl (uX2_becomes__o _ (List.mem_of_getElem? (l := owX2_becomes) (i := 16) rfl)) (uX2_becomes__o _ (List.mem_of_getElem? (l := owX2_becomes) (i := 15) rfl)) hdT_X4_copyRow ⟨Nat.le_of_ble_eq_true rfl, Nat.le_of_ble_eq_true rfl⟩ rfl rfl (Nat.le_of_ble_eq_true rfl) dX2_becomes_35) 38 rfl (fun M3 hw => ?_)
  refine q_aload_n hC dX2_becomes_38 1 rfl 39 rfl ?_
  refine q_getR (C := RX2) (T := TX2) (N := 14) (ci := 2) hC inX2_becomes_X2 ho1.ob rfl 3 (by decide) (uX2_becomes__o _ (List.mem_of_getElem? (l := owX2_becomes) (i := 4) rfl)) rfl (o1 + 4) (fun _ => rfl) dX2_becomes_39 42 rfl ?_
  refine q_aload_n hC dX2_becomes_42 0 rfl 43 rfl ?_
  refine q_getR (C := RX2) (T := TX2) (N := 14) (ci := 2) hC inX2_becomes_X2 hb.ob rfl 3 (by decide) (uX2_becomes__o _ (List.mem_of_getElem? (l := owX2_becomes) (i := 4) rfl)) rfl (b + 4) (fun _ => rfl) dX2_becomes_43 46 rfl ?_
  refine r_callV hC (go_N (As := [.ref (gA g (o1 + 4)), .ref (gA g (b + 4))]) (rest := []) hC (ctX4_copyRow (zl z) g M3 (o1 + 4) (b + 4) _ (ho1.ar 4 (by decide) (by decide)) (hb.ar 4 (by decide) (by decide)) hw) 2 gX2_becomes_X4_copyRow_n42 rfl ⟨rfl, rfl⟩ 8 rfl (uX2_becomes__o _ (List.mem_of_getElem? (l := owX2_becomes) (i := 16) rfl)) (uX2_becomes__o _ (List.mem_of_getElem? (l := owX2_becomes) (i := 15) rfl)) hdT_X4_copyRow ⟨Nat.le_of_ble_eq_true rfl, Nat.le_of_ble_eq_true rfl⟩ rfl rfl (Nat.le_of_ble_eq_true rfl) dX2_becomes_46) 49 rfl (fun M4 hw => ?_)
  refine q_aload_n hC dX2_becomes_49 1 rfl 50 rfl ?_
  refine q_getR (C := RX2) (T := TX2) (N := 14) (ci := 2) hC inX2_becomes_X2 ho1.ob rfl 4 (by decide) (uX2_becomes__o _ (List.mem_of_getElem? (l := owX2_becomes) (i := 5) rfl)) rfl (o1 + 5) (fun _ => rfl) dX2_becomes_50 53 rfl ?_
  refine q_aload_n hC dX2_becomes_53 0 rfl 54 rfl ?_
  refine q_getR (C := RX2) (T := TX2) (N := 14) (ci := 2) hC inX2_becomes_X2 hb.ob rfl 4 (by decide) (uX2_becomes__o _ (List.mem_of_getElem? (l := owX2_becomes) (i := 5) rfl)) rfl (b + 5) (fun _ => rfl) dX2_becomes_54 57 rfl ?_
  refine r_callV hC (go_N (As := [.ref (gA g (o1 + 5)), .ref (gA g (b + 5))]) (rest := []) hC (ctX4_copyRow (zl z) g M4 (o1 + 5) (b + 5) _ (ho1.ar 5 (by decide) (by decide)) (hb.ar 5 (by decide) (by decide)) hw) 2 gX2_becomes_X4_copyRow_n42 rfl ⟨rfl, rfl⟩ 8 rfl (uX2_becomes__o _ (List.mem_of_getElem? (l := owX2_becomes) (i := 16) rfl)) (uX2_becomes__o _ (List.mem_of_getElem? (l := owX2_becomes) (i := 15) rfl)) hdT_X4_copyRow ⟨Nat.le_of_ble_eq_true rfl, Nat.le_of_ble_eq_true rfl⟩ rfl rfl (Nat.le_of_ble_eq_true rfl) dX2_becomes_57) 60 rfl (fun M5 hw => ?_)
  refine q_aload_n hC dX2_becomes_60 1 rfl 61 rfl ?_
  refine q_getR (C := RX2) (T := TX2) (N := 14) (ci := 2) hC inX2_becomes_X2 ho1.ob rfl 5 (by decide) (uX2_becomes__o _ (List.mem_of_getElem? (l := owX2_becomes) (i := 6) rfl)) rfl (o1 + 6) (fun _ => rfl) dX2_becomes_61 64 rfl ?_
  refine q_aload_n hC dX2_becomes_64 0 rfl 65 rfl ?_
  refine q_getR (C := RX2) (T := TX2) (N := 14) (ci := 2) hC inX2_becomes_X2 hb.ob rfl 5 (by decide) (uX2_becomes__o _ (List.mem_of_getElem? (l := owX2_becomes) (i := 6) rfl)) rfl (b + 6) (fun _ => rfl) dX2_becomes_65 68 rfl ?_
  refine r_callV hC (go_N (As := [.ref (gA g (o1 + 6)), .ref (gA g (b + 6))]) (rest := []) hC (ctX4_copyRow (zl z) g M5 (o1 + 6) (b + 6) _ (ho1.ar 6 (by decide) (by decide)) (hb.ar 6 (by decide) (by decide)) hw) 2 gX2_becomes_X4_copyRow_n42 rfl ⟨rfl, rfl⟩ 8 rfl (uX2_becomes__o _ (List.mem_of_getElem? (l := owX2_becomes) (i := 16) rfl)) (uX2_becomes__o _ (List.mem_of_getElem? (l := owX2_becomes) (i := 15) rfl)) hdT_X4_copyRow ⟨Nat.le_of_ble_eq_true rfl, Nat.le_of_ble_eq_true rfl⟩ rfl rfl (Nat.le_of_ble_eq_true rfl) dX2_becomes_68) 71 rfl (fun M6 hw => ?_)
  refine q_aload_n hC dX2_becomes_71 1 rfl 72 rfl ?_
  refine q_getR (C := RX2) (T := TX2) (N := 14) (ci := 2) hC inX2_becomes_X2 ho1.ob rfl 6 (by decide) (uX2_becomes__o _ (List.mem_of_getElem? (l := owX2_becomes) (i := 7) rfl)) rfl (o1 + 7) (fun _ => rfl) dX2_becomes_72 75 rfl ?_
  refine q_aload_n hC dX2_becomes_75 0 rfl 76 rfl ?_
  refine q_getR (C := RX2) (T := TX2) (N := 14) (ci := 2) hC inX2_becomes_X2 hb.ob rfl 6 (by decide) (uX2_becomes__o _ (List.mem_of_getElem? (l := owX2_becomes) (i := 7) rfl)) rfl (b + 7) (fun _ => rfl) dX2_becomes_76 79 rfl ?_
  refine r_callV hC (go_N (As := [.ref (gA g (o1 + 7)), .ref (gA g (b + 7))]) (rest := []) hC (ctX4_copyRow (zl z) g M6 (o1 + 7) (b + 7) _ (ho1.ar 7 (by decide) (by decide)) (hb.ar 7 (by decide) (by decide)) hw) 2 gX2_becomes_X4_copyRow_n42 rfl ⟨rfl, rfl⟩ 8 rfl (uX2_becomes__o _ (List.mem_of_getElem? (l := owX2_becomes) (i := 16) rfl)) (uX2_becomes__o _ (List.mem_of_getElem? (l := owX2_becomes) (i := 15) rfl)) hdT_X4_copyRow ⟨Nat.le_of_ble_eq_true rfl, Nat.le_of_ble_eq_true rfl⟩ rfl rfl (Nat.le_of_ble_eq_true rfl) dX2_becomes_79) 82 rfl (fun M7 hw => ?_)
  refine q_aload_n hC dX2_becomes_82 1 rfl 83 rfl ?_
  refine q_getR (C := RX2) (T := TX2) (N := 14) (ci := 2) hC inX2_becomes_X2 ho1.ob rfl 7 (by decide) (uX2_becomes__o _ (List.mem_of_getElem? (l := owX2_becomes) (i := 8) rfl)) rfl (o1 + 8) (fun _ => rfl) dX2_becomes_83 86 rfl ?_
  refine q_aload_n hC dX2_becomes_86 0 rfl 87 rfl ?_
  refine q_getR (C := RX2) (T := TX2) (N := 14) (ci := 2) hC inX2_becomes_X2 hb.ob rfl 7 (by decide) (uX2_becomes__o _ (List.mem_of_getElem? (l := owX2_becomes) (i := 8) rfl)) rfl (b + 8) (fun _ => rfl) dX2_becomes_87 90 rfl ?_
  refine r_callV hC (go_N (As := [.ref (gA g (o1 + 8)), .ref (gA g (b + 8))]) (rest := []) hC (ctX4_copyRow (zl z) g M7 (o1 + 8) (b + 8) _ (ho1.ar 8 (by decide) (by decide)) (hb.ar 8 (by decide) (by decide)) hw) 2 gX2_becomes_X4_copyRow_n42 rfl ⟨rfl, rfl⟩ 8 rfl (uX2_becomes__o _ (List.mem_of_getElem? (l := owX2_becomes) (i := 16) rfl)) (uX2_becomes__o _ (List.mem_of_getElem? (l := owX2_becomes) (i := 15) rfl)) hdT_X4_copyRow ⟨Nat.le_of_ble_eq_true rfl, Nat.le_of_ble_eq_true rfl⟩ rfl rfl (Nat.le_of_ble_eq_true rfl) dX2_becomes_90) 93 rfl (fun M8 hw => ?_)
  refine q_aload_n hC dX2_becomes_93 0 rfl 94 rfl ?_
  refine q_aload_n hC dX2_becomes_94 1 rfl 95 rfl ?_
  refine q_getI (C := RX2) (T := TX2) (N := 14) (ci := 2) hC inX2_becomes_X2 ho1.ob rfl 8 (by decide) (uX2_becomes__o _ (List.mem_of_getElem? (l := owX2_becomes) (i := 9) rfl)) rfl (fun _ => rfl) dX2_becomes_95 98 rfl ?_
  refine q_putI (C := RX2) (T := TX2) (N := 14) (ci := 2) hC inX2_becomes_X2 tyX2 tyX2_ok nmX2 hb.ob rfl 8 (by decide) (uX2_becomes__o _ (List.mem_of_getElem? (l := owX2_becomes) (i := 9) rfl)) rfl rfl rfl (fun _ => Nat.le_of_ble_eq_true rfl) (fun _ => rfl) dX2_becomes_98 101 rfl (fun M9 eM9 => ?_)
  have hw := hw M9 eM9
  refine q_aload_n hC dX2_becomes_101 0 rfl 102 rfl ?_
  refine q_aload_n hC dX2_becomes_102 1 rfl 103 rfl ?_
  refine q_getI (C := RX2) (T := TX2) (N := 14) (ci := 2) hC inX2_becomes_X2 ho1.ob rfl 9 (by decide) (uX2_becomes__o _ (List.mem_of_getElem? (l := owX2_becomes) (i := 10) rfl)) rfl (fun _ => rfl) dX2_becomes_103 106 rfl ?_
  refine q_putI (C := RX2) (T := TX2) (N := 14) (ci := 2) hC inX2_becomes_X2 tyX2 tyX2_ok nmX2 hb.ob rfl 9 (by decide) (uX2_becomes__o _ (List.mem_of_getElem? (l := owX2_becomes) (i := 10) rfl)) rfl rfl rfl (fun _ => Nat.le_of_ble_eq_true rfl) (fun _ => rfl) dX2_becomes_106 109 rfl (fun M10 eM10 => ?_)
  have hw := hw M10 eM10
  refine q_aload_n hC dX2_becomes_109 0 rfl 110 rfl ?_
  refine q_aload_n hC dX2_becomes_110 1 rfl 111 rfl ?_
  refine q_getI (C := RX2) (T := TX2) (N := 14) (ci := 2) hC inX2_becomes_X2 ho1.ob rfl 10 (by decide) (uX2_becomes__o _ (List.mem_of_getElem? (l := owX2_becomes) (i := 11) rfl)) rfl (fun _ => rfl) dX2_becomes_111 114 rfl ?_
  refine q_putI (C := RX2) (T := TX2) (N := 14) (ci := 2) hC inX2_becomes_X2 tyX2 tyX2_ok nmX2 hb.ob rfl 10 (by decide) (uX2_becomes__o _ (List.mem_of_getElem? (l := owX2_becomes) (i := 11) rfl)) rfl rfl rfl (fun _ => Nat.le_of_ble_eq_true rfl) (fun _ => rfl) dX2_becomes_114 117 rfl (fun M11 eM11 => ?_)
  have hw := hw M11 eM11
  refine q_aload_n hC dX2_becomes_117 0 rfl 118 rfl ?_
  refine q_aload_n hC dX2_becomes_118 1 rfl 119 rfl ?_
  refine q_getI (C := RX2) (T := TX2) (N := 14) (ci := 2) hC inX2_becomes_X2 ho1.ob rfl 11 (by decide) (uX2_becomes__o _ (List.mem_of_getElem? (l := owX2_becomes) (i := 12) rfl)) rfl (fun _ => rfl) dX2_becomes_119 122 rfl ?_
  refine q_putI (C := RX2) (T := TX2) (N := 14) (ci := 2) hC inX2_becomes_X2 tyX2 tyX2_ok nmX2 hb.ob rfl 11 (by decide) (uX2_becomes__o _ (List.mem_of_getElem? (l := owX2_becomes) (i := 12) rfl)) rfl rfl rfl (fun _ => Nat.le_of_ble_eq_true rfl) (fun _ => rfl) dX2_becomes_122 125 rfl (fun M12 eM12 => ?_)
  have hw := hw M12 eM12
  refine q_aload_n hC dX2_becomes_125 0 rfl 126 rfl ?_
  refine q_aload_n hC dX2_becomes_126 1 rfl 127 rfl ?_
  refine q_getI (C := RX2) (T := TX2) (N := 14) (ci := 2) hC inX2_becomes_X2 ho1.ob rfl 12 (by decide) (uX2_becomes__o _ (List.mem_of_getElem? (l := owX2_becomes) (i := 13) rfl)) rfl (fun _ => rfl) dX2_becomes_127 130 rfl ?_
  refine q_putI (C := RX2) (T := TX2) (N := 14) (ci := 2) hC inX2_becomes_X2 tyX2 tyX2_ok nmX2 hb.ob rfl 12 (by decide) (uX2_becomes__o _ (List.mem_of_getElem? (l := owX2_becomes) (i := 13) rfl)) rfl rfl rfl (fun _ => Nat.le_of_ble_eq_true rfl) (fun _ => rfl) dX2_becomes_130 133 rfl (fun M13 eM13 => ?_)
  have hw := hw M13 eM13
  refine q_aload_n hC dX2_becomes_133 0 rfl 134 rfl ?_
  refine q_aload_n hC dX2_becomes_134 1 rfl 135 rfl ?_
  refine q_getI (C := RX2) (T := TX2) (N := 14) (ci := 2) hC inX2_becomes_X2 ho1.ob rfl 13 (by decide) (uX2_becomes__o _ (List.mem_of_getElem? (l := owX2_becomes) (i := 14) rfl)) rfl (fun _ => rfl) dX2_becomes_135 138 rfl ?_
  refine q_putI (C := RX2) (T := TX2) (N := 14) (ci := 2) hC inX2_becomes_X2 tyX2 tyX2_ok nmX2 hb.ob rfl 13 (by decide) (uX2_becomes__o _ (List.mem_of_getElem? (l := owX2_becomes) (i := 14) rfl)) rfl rfl rfl (fun _ => Nat.le_of_ble_eq_true rfl) (fun _ => rfl) dX2_becomes_138 141 rfl (fun M14 eM14 => ?_)
  have hw := hw M14 eM14
  exact r_vret hR dX2_becomes_141 hw
theorem inX2_ruled_X2 : ∀ w ∈ u_ws RX2 TX2 14, w ∈ wsX2_ruled := uX2_ruled__wsX20
set_option maxRecDepth 100000 in
set_option maxHeartbeats 4000000 in
theorem ctX2_ruled (l : Launch) (g : GG) (M : MM) (b : Nat) (v1 : Int32) (Q : Int32 → MM → Prop) (hb : tpl g b) (hw : wX2_ruled Q M b v1) : MI g l yX2_ruled wsX2_ruled (rmOf 0 0) [.ref (gA g b), .int v1] M Q := by
  refine mk_MI (cc := cX2_ruled) (maxL := 2) (by decide) rfl (Nat.le_of_ble_eq_true rfl) ?_
  intro z Qf hC hR
  show XX z g Qf 2 0 [(0, .ref (gA g b)), (1, .int v1)] [] M
  have B22 : ∀ (M : MM), wX2_ruled_22 Q b v1 M → XX z g Qf 2 22 [] [] M := by
    intro M hw
    refine q_iconst (v := 0) hC dX2_ruled_22 rfl 23 rfl ?_
    exact r_iret hR dX2_ruled_23 hw
  refine q_iload_n hC dX2_ruled_0 1 rfl 1 rfl ?_
  refine q_if_lt hC 22 dX2_ruled_1 (by decide) 4 rfl hw (fun hw => ?_) (fun hw => ?_)
  · exact XX.sub [] rfl (B22 M hw)
  · refine q_iload_n hC dX2_ruled_4 1 rfl 5 rfl ?_
    refine q_aload_n hC dX2_ruled_5 0 rfl 6 rfl ?_
    refine q_getR (C := RX2) (T := TX2) (N := 14) (ci := 2) hC inX2_ruled_X2 hb.ob rfl 0 (by decide) (uX2_ruled__o _ (List.mem_of_getElem? (l := owX2_ruled) (i := 1) rfl)) rfl (b + 1) (fun _ => rfl) dX2_ruled_6 9 rfl ?_
    refine q_alen hC (hb.ar 1 (by decide) (by decide)) dX2_ruled_9 10 rfl ?_
    refine q_icmp_ge hC 22 dX2_ruled_10 (by decide) 13 rfl hw (fun hw => ?_) (fun hw => ?_)
    · exact XX.sub [] rfl (B22 M hw)
    · refine q_aload_n hC dX2_ruled_13 0 rfl 14 rfl ?_
      refine q_getR (C := RX2) (T := TX2) (N := 14) (ci := 2) hC inX2_ruled_X2 hb.ob rfl 0 (by decide) (uX2_ruled__o _ (List.mem_of_getElem? (l := owX2_ruled) (i := 1) rfl)) rfl (b + 1) (fun _ => rfl) dX2_ruled_14 17 rfl ?_
      refine q_iload_n hC dX2_ruled_17 1 rfl 18 rfl ?_
      obtain ⟨hin, hw⟩ := hw
      refine q_iald hC (hb.ar 1 (by decide) (by decide)) hin dX2_ruled_18 19 rfl ?_
      refine q_goto hC 23 dX2_ruled_19 (by decide) ?_
      exact r_iret hR dX2_ruled_23 hw
set_option maxRecDepth 100000 in
set_option maxHeartbeats 4000000 in
theorem ctX4_isBetween (l : Launch) (g : GG) (M : MM) (v0 : Int32) (v1 : Int32) (v2 : Int32) (Q : Int32 → MM → Prop)  (hw : wX4_isBetween Q M v0 v1 v2) : MI g l yX4_isBetween wsX4_isBetween (rmOf 0 0) [.int v0, .int v1, .int v2] M Q := by
  refine mk_MZ (cc := cX4_isBetween) (maxL := 3) (by decide) rfl (Nat.le_of_ble_eq_true rfl) ?_
  intro z Qf hC hR
  show XX z g Qf 3 0 [(0, .int v0), (1, .int v1), (2, .int v2)] [] M
  have B14 : ∀ (M : MM), wX4_isBetween_14 Q v0 v1 v2 M → XX z g Qf 3 14 [] [] M := by
    intro M hw
    refine q_iconst (v := 0) hC dX4_isBetween_14 rfl 15 rfl ?_
    exact r_iret hR dX4_isBetween_15 ⟨nb_0, hw⟩
  refine q_iload_n hC dX4_isBetween_0 0 rfl 1 rfl ?_
  refine q_iload_n hC dX4_isBetween_1 1 rfl 2 rfl ?_
  refine q_icmp_lt hC 14 dX4_isBetween_2 (by decide) 5 rfl hw (fun hw => ?_) (fun hw => ?_)
  · exact XX.sub [] rfl (B14 M hw)
  · refine q_iload_n hC dX4_isBetween_5 0 rfl 6 rfl ?_
    refine q_iload_n hC dX4_isBetween_6 2 rfl 7 rfl ?_
    refine q_icmp_gt hC 14 dX4_isBetween_7 (by decide) 10 rfl hw (fun hw => ?_) (fun hw => ?_)
    · exact XX.sub [] rfl (B14 M hw)
    · refine q_iconst (v := 1) hC dX4_isBetween_10 rfl 11 rfl ?_
      refine q_goto hC 15 dX4_isBetween_11 (by decide) ?_
      exact r_iret hR dX4_isBetween_15 ⟨nb_1, hw⟩
theorem hdV_X2_ruled : yX2_ruled.cls = RX2 ∧ yX2_ruled.cls ≠ "java/lang/invoke/MethodHandle" ∧ yX2_ruled.cls ≠ "java/lang/invoke/VarHandle" ∧ (parseMethodDescriptor yX2_ruled.desc).map (fun d => d.parameters.length) = some 1 := by decide +kernel
theorem hdT_X4_isBetween : yX4_isBetween.cls ≠ "java/lang/invoke/MethodHandle" ∧ yX4_isBetween.cls ≠ "java/lang/invoke/VarHandle" ∧ (parseMethodDescriptor yX4_isBetween.desc).map (fun d => d.parameters.length) = some 3 := by decide +kernel
set_option maxRecDepth 100000 in
set_option maxHeartbeats 4000000 in
theorem ctX2_hasPlace (l : Launch) (g : GG) (M : MM) (b : Nat) (v1 : Int32) (Q : Int32 → MM → Prop) (hb : tpl g b) (hw : wX2_hasPlace Q M b v1) : MI g l yX2_hasPlace wsX2_hasPlace (rmOf 1 22) [.ref (gA g b), .int v1] M Q := by
  refine mk_MZ (cc := cX2_hasPlace) (maxL := 2) (by decide) rfl (Nat.le_of_ble_eq_true rfl) ?_
  intro z Qf hC hR
  show XX z g Qf 2 0 [(0, .ref (gA g b)), (1, .int v1)] [] M
  refine q_iload_n hC dX2_hasPlace_0 1 rfl 1 rfl ?_
  refine q_iconst (v := 0) hC dX2_hasPlace_1 rfl 2 rfl ?_
  refine q_aload_n hC dX2_hasPlace_2 0 rfl 3 rfl ?_
  refine q_iconst (v := 0) hC dX2_hasPlace_3 rfl 4 rfl ?_
  refine r_callI hC (go_V (q := (RX2, TX2, 14)) (As := [.int 0]) (rest := [.int 0, .int v1]) hC (ctX2_ruled (zl z) g M b 0 _ hb hw) 1 gX2_hasPlace_X2_ruled rfl ⟨rfl, rfl⟩ hdV_X2_ruled ⟨Nat.le_of_ble_eq_true rfl, Nat.le_of_ble_eq_true rfl⟩ hb.ob rfl rfl rfl (Nat.le_of_ble_eq_true rfl) dX2_hasPlace_4) 7 rfl (fun r1 M2 hw => ?_)
  refine r_callI hC (go_N (As := [.int v1, .int 0, .int r1]) (rest := []) hC (ctX4_isBetween (zl z) g M2 v1 0 r1 _ hw) 3 gX2_hasPlace_X4_isBetween_n69 rfl ⟨rfl, rfl⟩ 9 rfl (uX2_hasPlace__o _ (List.mem_of_getElem? (l := owX2_hasPlace) (i := 6) rfl)) (uX2_hasPlace__o _ (List.mem_of_getElem? (l := owX2_hasPlace) (i := 5) rfl)) hdT_X4_isBetween ⟨Nat.le_of_ble_eq_true rfl, Nat.le_of_ble_eq_true rfl⟩ rfl rfl (Nat.le_of_ble_eq_true rfl) dX2_hasPlace_7) 10 rfl (fun r3 M4 hw => ?_)
  exact r_iret hR dX2_hasPlace_10 hw
set_option maxRecDepth 100000 in
set_option maxHeartbeats 4000000 in
theorem ctX4_lengthOfTurns (l : Launch) (g : GG) (M : MM) (v0 : Int32) (v1 : Int32) (v2 : Int32) (Q : Int32 → MM → Prop)  (hw : wX4_lengthOfTurns Q M v0 v1 v2) : MI g l yX4_lengthOfTurns wsX4_lengthOfTurns (rmOf 0 0) [.int v0, .int v1, .int v2] M Q := by
  refine mk_MI (cc := cX4_lengthOfTurns) (maxL := 3) (by decide) rfl (Nat.le_of_ble_eq_true rfl) ?_
  intro z Qf hC hR
  show XX z g Qf 3 0 [(0, .int v0), (1, .int v1), (2, .int v2)] [] M
  refine q_iload_n hC dX4_lengthOfTurns_0 0 rfl 1 rfl ?_
  refine q_iload_n hC dX4_lengthOfTurns_1 1 rfl 2 rfl ?_
  refine q_imul hC dX4_lengthOfTurns_2 3 rfl ?_
  refine q_iload_n hC dX4_lengthOfTurns_3 2 rfl 4 rfl ?_
  refine q_iload_n hC dX4_lengthOfTurns_4 0 rfl 5 rfl ?_
  refine q_iload_n hC dX4_lengthOfTurns_5 0 rfl 6 rfl ?_
  refine q_iconst (v := 1) hC dX4_lengthOfTurns_6 rfl 7 rfl ?_
  refine q_isub hC dX4_lengthOfTurns_7 8 rfl ?_
  refine q_imul hC dX4_lengthOfTurns_8 9 rfl ?_
  refine q_iconst (v := 2) hC dX4_lengthOfTurns_9 rfl 10 rfl ?_
  refine q_idiv hC dX4_lengthOfTurns_10 (by decide) 11 rfl ?_
  refine q_imul hC dX4_lengthOfTurns_11 12 rfl ?_
  refine q_iadd hC dX4_lengthOfTurns_12 13 rfl ?_
  exact r_iret hR dX4_lengthOfTurns_13 hw
theorem hdT_X4_lengthOfTurns : yX4_lengthOfTurns.cls ≠ "java/lang/invoke/MethodHandle" ∧ yX4_lengthOfTurns.cls ≠ "java/lang/invoke/VarHandle" ∧ (parseMethodDescriptor yX4_lengthOfTurns.desc).map (fun d => d.parameters.length) = some 3 := by decide +kernel
set_option maxRecDepth 100000 in
set_option maxHeartbeats 4000000 in
theorem ctX2_turnsOf (l : Launch) (g : GG) (M : MM) (b : Nat) (v1 : Int32) (Q : Int32 → MM → Prop) (hb : tpl g b) (hw : wX2_turnsOf Q M b v1) : MI g l yX2_turnsOf wsX2_turnsOf (rmOf 1 22) [.ref (gA g b), .int v1] M Q := by
  refine mk_MI (cc := cX2_turnsOf) (maxL := 6) (by decide) rfl (Nat.le_of_ble_eq_true rfl) ?_
  intro z Qf hC hR
  show XX z g Qf 6 0 [(0, .ref (gA g b)), (1, .int v1)] [] M
  have B46 : ∀ (K20 : MM → Int32 → Int32 → Int32 → Int32 → Prop) (hK20 : ∀ (M : MM) (v2 : Int32) (v3 : Int32) (v4 : Int32) (v5 : Int32) , K20 M v2 v3 v4 v5 → XX z g Qf 6 20 [(1, .int v1), (2, .int v2), (3, .int v3), (4, .int v4), (5, .int v5)] [] M) (M : MM) (v2 : Int32) (v3 : Int32) (v4 : Int32) (v5 : Int32), wX2_turnsOf_46 Q K20 b v1 M v2 v3 v4 v5 → XX z g Qf 6 46 [(1, .int v1), (2, .int v2), (3, .int v3), (4, .int v4), (5, .int v5)] [] M := by
    intro K20 hK20 M v2 v3 v4 v5 hw
    refine q_iload hC dX2_turnsOf_46 4 rfl 48 rfl ?_
    refine q_iconst (v := 2) hC dX2_turnsOf_48 rfl 49 rfl ?_
    refine q_idiv hC dX2_turnsOf_49 (by decide) 50 rfl ?_
    refine q_istore (L' := [(5, .int (v5 / 2)), (1, .int v1), (2, .int v2), (3, .int v3), (4, .int v4)]) hC dX2_turnsOf_50 (by decide) rfl 52 rfl ?_
    refine q_goto hC 20 dX2_turnsOf_52 (by decide) ?_
    exact XX.sub [1, 2, 3, 4, 0] rfl (hK20 M v2 v3 v4 (v5 / 2) hw)
  have B20 : ∀ (n : Nat) (M : MM) (v2 : Int32) (v3 : Int32) (v4 : Int32) (v5 : Int32) , wX2_turnsOf_20 Q b v1 n M v2 v3 v4 v5 → XX z g Qf 6 20 [(1, .int v1), (2, .int v2), (3, .int v3), (4, .int v4), (5, .int v5)] [] M := by
    intro n
    induction n with
    | zero =>
      intro M v2 v3 v4 v5 hw
      exact hw.elim
    | succ n ih =>
      intro M v2 v3 v4 v5 hw
      refine q_iload hC dX2_turnsOf_20 4 rfl 22 rfl ?_
      refine q_if_le hC 55 dX2_turnsOf_22 (by decide) 25 rfl hw (fun hw => ?_) (fun hw => ?_)
      · refine q_iload hC dX2_turnsOf_55 3 rfl 57 rfl ?_
        exact r_iret hR dX2_turnsOf_57 hw
      · refine q_iload hC dX2_turnsOf_25 3 rfl 27 rfl ?_
        refine q_iload hC dX2_turnsOf_27 4 rfl 29 rfl ?_
        refine q_iadd hC dX2_turnsOf_29 30 rfl ?_
        refine q_iload_n hC dX2_turnsOf_30 1 rfl 31 rfl ?_
        refine q_iload_n hC dX2_turnsOf_31 2 rfl 32 rfl ?_
        refine r_callI hC (go_N (As := [.int (v4 + v5), .int v2, .int v3]) (rest := []) hC (ctX4_lengthOfTurns (zl z) g M (v4 + v5) v2 v3 _ hw) 3 gX2_turnsOf_X4_lengthOfTurns_n73 rfl ⟨rfl, rfl⟩ 10 rfl (uX2_turnsOf__o _ (List.mem_of_getElem? (l := owX2_turnsOf) (i := 6) rfl)) (uX2_turnsOf__o _ (List.mem_of_getElem? (l := owX2_turnsOf) (i := 5) rfl)) hdT_X4_lengthOfTurns ⟨Nat.le_of_ble_eq_true rfl, Nat.le_of_ble_eq_true rfl⟩ rfl rfl (Nat.le_of_ble_eq_true rfl) dX2_turnsOf_32) 35 rfl (fun r5 M6 hw => ?_)
        refine q_iload_n hC dX2_turnsOf_35 0 rfl 36 rfl ?_
        refine q_icmp_gt hC 46 dX2_turnsOf_36 (by decide) 39 rfl hw (fun hw => ?_) (fun hw => ?_)
        · exact XX.sub [0, 1, 2, 3, 4] rfl (B46 _ (fun M v2 v3 v4 v5 hw => ih M v2 v3 v4 v5 hw) M6 v2 v3 v4 v5 hw)
        · refine q_iload hC dX2_turnsOf_39 3 rfl 41 rfl ?_
          refine q_iload hC dX2_turnsOf_41 4 rfl 43 rfl ?_
          refine q_iadd hC dX2_turnsOf_43 44 rfl ?_
          refine q_istore (L' := [(4, .int (v4 + v5)), (1, .int v1), (2, .int v2), (3, .int v3), (5, .int v5)]) hC dX2_turnsOf_44 (by decide) rfl 46 rfl ?_
          exact XX.sub [1, 2, 3, 0, 4] rfl (B46 _ (fun M v2 v3 v4 v5 hw => ih M v2 v3 v4 v5 hw) M6 v2 v3 (v4 + v5) v5 hw)
  refine q_aload_n hC dX2_turnsOf_0 0 rfl 1 rfl ?_
  refine q_iconst (v := 1) hC dX2_turnsOf_1 rfl 2 rfl ?_
  refine r_callI hC (go_V (q := (RX2, TX2, 14)) (As := [.int 1]) (rest := []) hC (ctX2_ruled (zl z) g M b 1 _ hb hw) 1 gX2_turnsOf_X2_ruled rfl ⟨rfl, rfl⟩ hdV_X2_ruled ⟨Nat.le_of_ble_eq_true rfl, Nat.le_of_ble_eq_true rfl⟩ hb.ob rfl rfl rfl (Nat.le_of_ble_eq_true rfl) dX2_turnsOf_2) 5 rfl (fun r1 M2 hw => ?_)
  refine q_istore_n (L' := [(2, .int r1), (0, .ref (gA g b)), (1, .int v1)]) hC dX2_turnsOf_5 (by decide) rfl 6 rfl ?_
  refine q_aload_n hC dX2_turnsOf_6 1 rfl 7 rfl ?_
  refine q_iconst (v := 2) hC dX2_turnsOf_7 rfl 8 rfl ?_
  refine r_callI hC (go_V (q := (RX2, TX2, 14)) (As := [.int 2]) (rest := []) hC (ctX2_ruled (zl z) g M2 b 2 _ hb hw) 1 gX2_turnsOf_X2_ruled rfl ⟨rfl, rfl⟩ hdV_X2_ruled ⟨Nat.le_of_ble_eq_true rfl, Nat.le_of_ble_eq_true rfl⟩ hb.ob rfl rfl rfl (Nat.le_of_ble_eq_true rfl) dX2_turnsOf_8) 11 rfl (fun r3 M4 hw => ?_)
  refine q_istore_n (L' := [(3, .int r3), (2, .int r1), (0, .ref (gA g b)), (1, .int v1)]) hC dX2_turnsOf_11 (by decide) rfl 12 rfl ?_
  refine q_iconst (v := 0) hC dX2_turnsOf_12 rfl 13 rfl ?_
  refine q_istore (L' := [(4, .int 0), (3, .int r3), (2, .int r1), (0, .ref (gA g b)), (1, .int v1)]) hC dX2_turnsOf_13 (by decide) rfl 15 rfl ?_
  refine q_sipush (v := 1024) hC dX2_turnsOf_15 (by decide) 18 rfl ?_
  refine q_istore (L' := [(5, .int 1024), (4, .int 0), (3, .int r3), (2, .int r1), (0, .ref (gA g b)), (1, .int v1)]) hC dX2_turnsOf_18 (by decide) rfl 20 rfl ?_
  obtain ⟨n0, hw⟩ := hw
  exact XX.sub [5, 3, 2, 1, 0] rfl (B20 n0 M4 r1 r3 0 1024 hw)
theorem hdV_X2_turnsOf : yX2_turnsOf.cls = RX2 ∧ yX2_turnsOf.cls ≠ "java/lang/invoke/MethodHandle" ∧ yX2_turnsOf.cls ≠ "java/lang/invoke/VarHandle" ∧ (parseMethodDescriptor yX2_turnsOf.desc).map (fun d => d.parameters.length) = some 1 := by decide +kernel
set_option maxRecDepth 100000 in
set_option maxHeartbeats 4000000 in
theorem ctX2_rightTurns (l : Launch) (g : GG) (M : MM) (b : Nat) (v1 : Int32) (Q : Int32 → MM → Prop) (hb : tpl g b) (hw : wX2_rightTurns Q M b v1) : MI g l yX2_rightTurns wsX2_rightTurns (rmOf 2 47) [.ref (gA g b), .int v1] M Q := by
  refine mk_MI (cc := cX2_rightTurns) (maxL := 2) (by decide) rfl (Nat.le_of_ble_eq_true rfl) ?_
  intro z Qf hC hR
  show XX z g Qf 2 0 [(0, .ref (gA g b)), (1, .int v1)] [] M
  refine q_aload_n hC dX2_rightTurns_0 0 rfl 1 rfl ?_
  refine q_iload_n hC dX2_rightTurns_1 1 rfl 2 rfl ?_
  refine r_callI hC (go_V (q := (RX2, TX2, 14)) (As := [.int v1]) (rest := []) hC (ctX2_turnsOf (zl z) g M b v1 _ hb hw) 1 gX2_rightTurns_X2_turnsOf rfl ⟨rfl, rfl⟩ hdV_X2_turnsOf ⟨Nat.le_of_ble_eq_true rfl, Nat.le_of_ble_eq_true rfl⟩ hb.ob rfl rfl rfl (Nat.le_of_ble_eq_true rfl) dX2_rightTurns_2) 5 rfl (fun r1 M2 hw => ?_)
  exact r_iret hR dX2_rightTurns_5 hw
set_option maxRecDepth 100000 in
set_option maxHeartbeats 4000000 in
theorem ctX2_leftTurns (l : Launch) (g : GG) (M : MM) (b : Nat) (v1 : Int32) (Q : Int32 → MM → Prop) (hb : tpl g b) (hw : wX2_leftTurns Q M b v1) : MI g l yX2_leftTurns wsX2_leftTurns (rmOf 2 47) [.ref (gA g b), .int v1] M Q := by
  refine mk_MI (cc := cX2_leftTurns) (maxL := 2) (by decide) rfl (Nat.le_of_ble_eq_true rfl) ?_
  intro z Qf hC hR
  show XX z g Qf 2 0 [(0, .ref (gA g b)), (1, .int v1)] [] M
  refine q_aload_n hC dX2_leftTurns_0 0 rfl 1 rfl ?_
  refine q_aload_n hC dX2_leftTurns_1 0 rfl 2 rfl ?_
  refine q_iconst (v := 0) hC dX2_leftTurns_2 rfl 3 rfl ?_
  refine r_callI hC (go_V (q := (RX2, TX2, 14)) (As := [.int 0]) (rest := [.ref (gA g b)]) hC (ctX2_ruled (zl z) g M b 0 _ hb hw) 1 gX2_leftTurns_X2_ruled rfl ⟨rfl, rfl⟩ hdV_X2_ruled ⟨Nat.le_of_ble_eq_true rfl, Nat.le_of_ble_eq_true rfl⟩ hb.ob rfl rfl rfl (Nat.le_of_ble_eq_true rfl) dX2_leftTurns_3) 6 rfl (fun r1 M2 hw => ?_)
  refine q_iload_n hC dX2_leftTurns_6 1 rfl 7 rfl ?_
  refine q_isub hC dX2_leftTurns_7 8 rfl ?_
  refine r_callI hC (go_V (q := (RX2, TX2, 14)) (As := [.int (r1 - v1)]) (rest := []) hC (ctX2_turnsOf (zl z) g M2 b (r1 - v1) _ hb hw) 1 gX2_leftTurns_X2_turnsOf rfl ⟨rfl, rfl⟩ hdV_X2_turnsOf ⟨Nat.le_of_ble_eq_true rfl, Nat.le_of_ble_eq_true rfl⟩ hb.ob rfl rfl rfl (Nat.le_of_ble_eq_true rfl) dX2_leftTurns_8) 11 rfl (fun r3 M4 hw => ?_)
  exact r_iret hR dX2_leftTurns_11 hw
theorem hdV_X2_hasPlace : yX2_hasPlace.cls = RX2 ∧ yX2_hasPlace.cls ≠ "java/lang/invoke/MethodHandle" ∧ yX2_hasPlace.cls ≠ "java/lang/invoke/VarHandle" ∧ (parseMethodDescriptor yX2_hasPlace.desc).map (fun d => d.parameters.length) = some 1 := by decide +kernel
set_option maxRecDepth 100000 in
set_option maxHeartbeats 4000000 in
theorem ctX2_firstShowing (l : Launch) (g : GG) (M : MM) (b : Nat) (v1 : Int32) (Q : Int32 → MM → Prop) (hb : tpl g b) (hw : wX2_firstShowing Q M b v1) : MI g l yX2_firstShowing wsX2_firstShowing (rmOf 2 43) [.ref (gA g b), .int v1] M Q := by
  refine mk_MI (cc := cX2_firstShowing) (maxL := 3) (by decide) rfl (Nat.le_of_ble_eq_true rfl) ?_
  intro z Qf hC hR
  show XX z g Qf 3 0 [(0, .ref (gA g b)), (1, .int v1)] [] M
  refine q_iload_n hC dX2_firstShowing_0 1 rfl 1 rfl ?_
  refine q_aload_n hC dX2_firstShowing_1 0 rfl 2 rfl ?_
  refine q_iconst (v := 0) hC dX2_firstShowing_2 rfl 3 rfl ?_
  refine r_callI hC (go_V (q := (RX2, TX2, 14)) (As := [.int 0]) (rest := [.int v1]) hC (ctX2_ruled (zl z) g M b 0 _ hb hw) 1 gX2_firstShowing_X2_ruled rfl ⟨rfl, rfl⟩ hdV_X2_ruled ⟨Nat.le_of_ble_eq_true rfl, Nat.le_of_ble_eq_true rfl⟩ hb.ob rfl rfl rfl (Nat.le_of_ble_eq_true rfl) dX2_firstShowing_3) 6 rfl (fun r1 M2 hw => ?_)
  refine q_icmp_le hC 12 dX2_firstShowing_6 (by decide) 9 rfl hw (fun hw => ?_) (fun hw => ?_)
  · refine q_iload_n hC dX2_firstShowing_12 1 rfl 13 rfl ?_
    refine q_aload_n hC dX2_firstShowing_13 0 rfl 14 rfl ?_
    refine q_iconst (v := 1) hC dX2_firstShowing_14 rfl 15 rfl ?_
    refine r_callI hC (go_V (q := (RX2, TX2, 14)) (As := [.int 1]) (rest := [.int v1]) hC (ctX2_ruled (zl z) g M2 b 1 _ hb hw) 1 gX2_firstShowing_X2_ruled rfl ⟨rfl, rfl⟩ hdV_X2_ruled ⟨Nat.le_of_ble_eq_true rfl, Nat.le_of_ble_eq_true rfl⟩ hb.ob rfl rfl rfl (Nat.le_of_ble_eq_true rfl) dX2_firstShowing_15) 18 rfl (fun r3 M4 hw => ?_)
    refine q_aload_n hC dX2_firstShowing_18 0 rfl 19 rfl ?_
    refine q_iconst (v := 2) hC dX2_firstShowing_19 rfl 20 rfl ?_
    refine r_callI hC (go_V (q := (RX2, TX2, 14)) (As := [.int 2]) (rest := [.int r3, .int v1]) hC (ctX2_ruled (zl z) g M4 b 2 _ hb hw) 1 gX2_firstShowing_X2_ruled rfl ⟨rfl, rfl⟩ hdV_X2_ruled ⟨Nat.le_of_ble_eq_true rfl, Nat.le_of_ble_eq_true rfl⟩ hb.ob rfl rfl rfl (Nat.le_of_ble_eq_true rfl) dX2_firstShowing_20) 23 rfl (fun r5 M6 hw => ?_)
    refine r_callI hC (go_N (As := [.int v1, .int r3, .int r5]) (rest := []) hC (ctX4_lengthOfTurns (zl z) g M6 v1 r3 r5 _ hw) 3 gX2_firstShowing_X4_lengthOfTurns_n73 rfl ⟨rfl, rfl⟩ 10 rfl (uX2_firstShowing__X2_hasPlace _ (List.mem_of_getElem? (l := owX2_hasPlace) (i := 6) rfl)) (uX2_firstShowing__o _ (List.mem_of_getElem? (l := owX2_firstShowing) (i := 1) rfl)) hdT_X4_lengthOfTurns ⟨Nat.le_of_ble_eq_true rfl, Nat.le_of_ble_eq_true rfl⟩ rfl rfl (Nat.le_of_ble_eq_true rfl) dX2_firstShowing_23) 26 rfl (fun r7 M8 hw => ?_)
    refine q_istore_n (L' := [(2, .int r7), (0, .ref (gA g b)), (1, .int v1)]) hC dX2_firstShowing_26 (by decide) rfl 27 rfl ?_
    refine q_aload_n hC dX2_firstShowing_27 1 rfl 28 rfl ?_
    refine q_iload_n hC dX2_firstShowing_28 0 rfl 29 rfl ?_
    refine r_callI hC (go_V (q := (RX2, TX2, 14)) (As := [.int r7]) (rest := []) hC (ctX2_hasPlace (zl z) g M8 b r7 _ hb hw) 1 gX2_firstShowing_X2_hasPlace rfl ⟨rfl, rfl⟩ hdV_X2_hasPlace ⟨Nat.le_of_ble_eq_true rfl, Nat.le_of_ble_eq_true rfl⟩ hb.ob rfl rfl rfl (Nat.le_of_ble_eq_true rfl) dX2_firstShowing_29) 32 rfl (fun r9 M10 hw => ?_)
    refine q_if_eq hC 39 dX2_firstShowing_32 (by decide) 35 rfl hw (fun hw => ?_) (fun hw => ?_)
    · refine q_bipush (v := (-4)) hC dX2_firstShowing_39 (by decide) 41 rfl ?_
      exact r_iret hR dX2_firstShowing_41 hw
    · refine q_iload_n hC dX2_firstShowing_35 0 rfl 36 rfl ?_
      refine q_goto hC 41 dX2_firstShowing_36 (by decide) ?_
      exact r_iret hR dX2_firstShowing_41 hw
  · refine q_bipush (v := (-4)) hC dX2_firstShowing_9 (by decide) 11 rfl ?_
    exact r_iret hR dX2_firstShowing_11 hw
theorem hdV_X2_firstShowing : yX2_firstShowing.cls = RX2 ∧ yX2_firstShowing.cls ≠ "java/lang/invoke/MethodHandle" ∧ yX2_firstShowing.cls ≠ "java/lang/invoke/VarHandle" ∧ (parseMethodDescriptor yX2_firstShowing.desc).map (fun d => d.parameters.length) = some 1 := by decide +kernel
set_option maxRecDepth 100000 in
set_option maxHeartbeats 4000000 in
theorem ctX2_lastShowing (l : Launch) (g : GG) (M : MM) (b : Nat) (v1 : Int32) (Q : Int32 → MM → Prop) (hb : tpl g b) (hw : wX2_lastShowing Q M b v1) : MI g l yX2_lastShowing wsX2_lastShowing (rmOf 3 65) [.ref (gA g b), .int v1] M Q := by
  refine mk_MI (cc := cX2_lastShowing) (maxL := 2) (by decide) rfl (Nat.le_of_ble_eq_true rfl) ?_
  intro z Qf hC hR
  show XX z g Qf 2 0 [(0, .ref (gA g b)), (1, .int v1)] [] M
  refine q_aload_n hC dX2_lastShowing_0 0 rfl 1 rfl ?_
  refine q_iload_n hC dX2_lastShowing_1 1 rfl 2 rfl ?_
  refine r_callI hC (go_V (q := (RX2, TX2, 14)) (As := [.int v1]) (rest := []) hC (ctX2_firstShowing (zl z) g M b v1 _ hb hw) 1 gX2_lastShowing_X2_firstShowing rfl ⟨rfl, rfl⟩ hdV_X2_firstShowing ⟨Nat.le_of_ble_eq_true rfl, Nat.le_of_ble_eq_true rfl⟩ hb.ob rfl rfl rfl (Nat.le_of_ble_eq_true rfl) dX2_lastShowing_2) 5 rfl (fun r1 M2 hw => ?_)
  refine q_bipush (v := (-4)) hC dX2_lastShowing_5 (by decide) 7 rfl ?_
  refine q_icmp_ne hC 13 dX2_lastShowing_7 (by decide) 10 rfl hw (fun hw => ?_) (fun hw => ?_)
  · refine q_aload_n hC dX2_lastShowing_13 0 rfl 14 rfl ?_
    refine q_iconst (v := 0) hC dX2_lastShowing_14 rfl 15 rfl ?_
    refine r_callI hC (go_V (q := (RX2, TX2, 14)) (As := [.int 0]) (rest := []) hC (ctX2_ruled (zl z) g M2 b 0 _ hb hw) 1 gX2_lastShowing_X2_ruled rfl ⟨rfl, rfl⟩ hdV_X2_ruled ⟨Nat.le_of_ble_eq_true rfl, Nat.le_of_ble_eq_true rfl⟩ hb.ob rfl rfl rfl (Nat.le_of_ble_eq_true rfl) dX2_lastShowing_15) 18 rfl (fun r3 M4 hw => ?_)
    refine q_iload_n hC dX2_lastShowing_18 1 rfl 19 rfl ?_
    refine q_iconst (v := 1) hC dX2_lastShowing_19 rfl 20 rfl ?_
    refine q_iadd hC dX2_lastShowing_20 21 rfl ?_
    refine q_aload_n hC dX2_lastShowing_21 0 rfl 22 rfl ?_
    refine q_iconst (v := 1) hC dX2_lastShowing_22 rfl 23 rfl ?_
    refine r_callI hC (go_V (q := (RX2, TX2, 14)) (As := [.int 1]) (rest := [.int (v1 + (1 : Int32)), .int r3]) hC (ctX2_ruled (zl z) g M4 b 1 _ hb hw) 1 gX2_lastShowing_X2_ruled rfl ⟨rfl, rfl⟩ hdV_X2_ruled ⟨Nat.le_of_ble_eq_true rfl, Nat.le_of_ble_eq_true rfl⟩ hb.ob rfl rfl rfl (Nat.le_of_ble_eq_true rfl) dX2_lastShowing_23) 26 rfl (fun r5 M6 hw => ?_)
    refine q_aload_n hC dX2_lastShowing_26 0 rfl 27 rfl ?_
    refine q_iconst (v := 2) hC dX2_lastShowing_27 rfl 28 rfl ?_
    refine r_callI hC (go_V (q := (RX2, TX2, 14)) (As := [.int 2]) (rest := [.int r5, .int (v1 + (1 : Int32)), .int r3]) hC (ctX2_ruled (zl z) g M6 b 2 _ hb hw) 1 gX2_lastShowing_X2_ruled rfl ⟨rfl, rfl⟩ hdV_X2_ruled ⟨Nat.le_of_ble_eq_true rfl, Nat.le_of_ble_eq_true rfl⟩ hb.ob rfl rfl rfl (Nat.le_of_ble_eq_true rfl) dX2_lastShowing_28) 31 rfl (fun r7 M8 hw => ?_)
    refine r_callI hC (go_N (As := [.int (v1 + (1 : Int32)), .int r5, .int r7]) (rest := [.int r3]) hC (ctX4_lengthOfTurns (zl z) g M8 (v1 + (1 : Int32)) r5 r7 _ hw) 3 gX2_lastShowing_X4_lengthOfTurns_n73 rfl ⟨rfl, rfl⟩ 10 rfl (uX2_lastShowing__X2_hasPlace _ (List.mem_of_getElem? (l := owX2_hasPlace) (i := 6) rfl)) (uX2_lastShowing__X2_firstShowing _ (List.mem_of_getElem? (l := owX2_firstShowing) (i := 1) rfl)) hdT_X4_lengthOfTurns ⟨Nat.le_of_ble_eq_true rfl, Nat.le_of_ble_eq_true rfl⟩ rfl rfl (Nat.le_of_ble_eq_true rfl) dX2_lastShowing_31) 34 rfl (fun r9 M10 hw => ?_)
    refine q_iconst (v := 1) hC dX2_lastShowing_34 rfl 35 rfl ?_
    refine q_isub hC dX2_lastShowing_35 36 rfl ?_
    refine q_mmin hC (uX2_lastShowing__o _ (List.mem_of_getElem? (l := owX2_lastShowing) (i := 1) rfl)) (uX2_lastShowing__o _ (List.mem_of_getElem? (l := owX2_lastShowing) (i := 2) rfl)) (uX2_lastShowing__o _ (List.mem_of_getElem? (l := owX2_lastShowing) (i := 3) rfl)) (uX2_lastShowing__o _ (List.mem_of_getElem? (l := owX2_lastShowing) (i := 4) rfl)) (by decide) (Nat.le_of_ble_eq_true rfl) dX2_lastShowing_36 39 rfl ?_
    exact r_iret hR dX2_lastShowing_39 hw
  · refine q_bipush (v := (-4)) hC dX2_lastShowing_10 (by decide) 12 rfl ?_
    exact r_iret hR dX2_lastShowing_12 hw
theorem hdV_X2_rightTurns : yX2_rightTurns.cls = RX2 ∧ yX2_rightTurns.cls ≠ "java/lang/invoke/MethodHandle" ∧ yX2_rightTurns.cls ≠ "java/lang/invoke/VarHandle" ∧ (parseMethodDescriptor yX2_rightTurns.desc).map (fun d => d.parameters.length) = some 1 := by decide +kernel
theorem hdV_X2_leftTurns : yX2_leftTurns.cls = RX2 ∧ yX2_leftTurns.cls ≠ "java/lang/invoke/MethodHandle" ∧ yX2_leftTurns.cls ≠ "java/lang/invoke/VarHandle" ∧ (parseMethodDescriptor yX2_leftTurns.desc).map (fun d => d.parameters.length) = some 1 := by decide +kernel
set_option maxRecDepth 100000 in
set_option maxHeartbeats 4000000 in
theorem ctX2_meetingPlace (l : Launch) (g : GG) (M : MM) (b : Nat) (Q : Int32 → MM → Prop) (hb : tpl g b) (hw : wX2_meetingPlace Q M b) : MI g l yX2_meetingPlace wsX2_meetingPlace (rmOf 3 68) [.ref (gA g b)] M Q := by
  refine mk_MI (cc := cX2_meetingPlace) (maxL := 5) (by decide) rfl (Nat.le_of_ble_eq_true rfl) ?_
  intro z Qf hC hR
  show XX z g Qf 5 0 [(0, .ref (gA g b))] [] M
  have B54 : ∀ (K10 : MM → Int32 → Int32 → Int32 → Prop) (hK10 : ∀ (M : MM) (v1 : Int32) (v2 : Int32) (v3 : Int32) , K10 M v1 v2 v3 → XX z g Qf 5 10 [(0, .ref (gA g b)), (1, .int v1), (2, .int v2), (3, .int v3)] [] M) (M : MM) (v1 : Int32) (v2 : Int32) (v3 : Int32), wX2_meetingPlace_54 Q K10 b M v1 v2 v3 → XX z g Qf 5 54 [(0, .ref (gA g b)), (1, .int v1), (2, .int v2), (3, .int v3)] [] M := by
    intro K10 hK10 M v1 v2 v3 hw
    refine q_iinc (v := v3 + 1) (L' := [(3, .int (v3 + 1)), (0, .ref (gA g b)), (1, .int v1), (2, .int v2)]) hC dX2_meetingPlace_54 3 rfl rfl (by decide) rfl 57 rfl ?_
    refine q_goto hC 10 dX2_meetingPlace_57 (by decide) ?_
    exact XX.sub [1, 2, 3, 0] rfl (hK10 M v1 v2 (v3 + 1) hw)
  have B10 : ∀ (n : Nat) (M : MM) (v1 : Int32) (v2 : Int32) (v3 : Int32) , wX2_meetingPlace_10 Q b n M v1 v2 v3 → XX z g Qf 5 10 [(0, .ref (gA g b)), (1, .int v1), (2, .int v2), (3, .int v3)] [] M := by
    intro n
    induction n with
    | zero =>
      intro M v1 v2 v3 hw
      exact hw.elim
    | succ n ih =>
      intro M v1 v2 v3 hw
      refine q_iload_n hC dX2_meetingPlace_10 3 rfl 11 rfl ?_
      refine q_bipush (v := 32) hC dX2_meetingPlace_11 (by decide) 13 rfl ?_
      refine q_icmp_ge hC 60 dX2_meetingPlace_13 (by decide) 16 rfl hw (fun hw => ?_) (fun hw => ?_)
      · refine q_iload_n hC dX2_meetingPlace_60 1 rfl 61 rfl ?_
        exact r_iret hR dX2_meetingPlace_61 hw
      · refine q_iload_n hC dX2_meetingPlace_16 1 rfl 17 rfl ?_
        refine q_iload_n hC dX2_meetingPlace_17 2 rfl 18 rfl ?_
        refine q_icmp_ge hC 60 dX2_meetingPlace_18 (by decide) 21 rfl hw (fun hw => ?_) (fun hw => ?_)
        · refine q_iload_n hC dX2_meetingPlace_60 1 rfl 61 rfl ?_
          exact r_iret hR dX2_meetingPlace_61 hw
        · refine q_iload_n hC dX2_meetingPlace_21 1 rfl 22 rfl ?_
          refine q_iload_n hC dX2_meetingPlace_22 2 rfl 23 rfl ?_
          refine q_iadd hC dX2_meetingPlace_23 24 rfl ?_
          refine q_iconst (v := 2) hC dX2_meetingPlace_24 rfl 25 rfl ?_
          refine q_idiv hC dX2_meetingPlace_25 (by decide) 26 rfl ?_
          refine q_nameI (fun x3 ex3 => ?_)
          have hw := hw x3 ex3
          refine q_istore (L' := [(4, .int x3), (0, .ref (gA g b)), (1, .int v1), (2, .int v2), (3, .int v3)]) hC dX2_meetingPlace_26 (by decide) rfl 28 rfl ?_
          refine q_aload_n hC dX2_meetingPlace_28 1 rfl 29 rfl ?_
          refine q_iload hC dX2_meetingPlace_29 0 rfl 31 rfl ?_
          refine r_callI hC (go_V (q := (RX2, TX2, 14)) (As := [.int x3]) (rest := []) hC (ctX2_rightTurns (zl z) g M b x3 _ hb hw) 1 gX2_meetingPlace_X2_rightTurns rfl ⟨rfl, rfl⟩ hdV_X2_rightTurns ⟨Nat.le_of_ble_eq_true rfl, Nat.le_of_ble_eq_true rfl⟩ hb.ob rfl rfl rfl (Nat.le_of_ble_eq_true rfl) dX2_meetingPlace_31) 34 rfl (fun r4 M5 hw => ?_)
          refine q_aload_n hC dX2_meetingPlace_34 1 rfl 35 rfl ?_
          refine q_iload hC dX2_meetingPlace_35 0 rfl 37 rfl ?_
          refine r_callI hC (go_V (q := (RX2, TX2, 14)) (As := [.int x3]) (rest := [.int r4]) hC (ctX2_leftTurns (zl z) g M5 b x3 _ hb hw) 1 gX2_meetingPlace_X2_leftTurns rfl ⟨rfl, rfl⟩ hdV_X2_leftTurns ⟨Nat.le_of_ble_eq_true rfl, Nat.le_of_ble_eq_true rfl⟩ hb.ob rfl rfl rfl (Nat.le_of_ble_eq_true rfl) dX2_meetingPlace_37) 40 rfl (fun r6 M7 hw => ?_)
          refine q_icmp_lt hC 49 dX2_meetingPlace_40 (by decide) 43 rfl hw (fun hw => ?_) (fun hw => ?_)
          · refine q_iload hC dX2_meetingPlace_49 0 rfl 51 rfl ?_
            refine q_iconst (v := 1) hC dX2_meetingPlace_51 rfl 52 rfl ?_
            refine q_iadd hC dX2_meetingPlace_52 53 rfl ?_
            refine q_nameI (fun x8 ex8 => ?_)
            have hw := hw x8 ex8
            refine q_istore_n (L' := [(1, .int x8), (4, .int x3), (0, .ref (gA g b)), (2, .int v2), (3, .int v3)]) hC dX2_meetingPlace_53 (by decide) rfl 54 rfl ?_
            exact XX.sub [2, 0, 3, 4] rfl (B54 _ (fun M v1 v2 v3 hw => ih M v1 v2 v3 hw) M7 x8 v2 v3 hw)
          · refine q_iload hC dX2_meetingPlace_43 0 rfl 45 rfl ?_
            refine q_istore_n (L' := [(2, .int x3), (4, .int x3), (0, .ref (gA g b)), (1, .int v1), (3, .int v3)]) hC dX2_meetingPlace_45 (by decide) rfl 46 rfl ?_
            refine q_goto hC 54 dX2_meetingPlace_46 (by decide) ?_
            exact XX.sub [2, 3, 0, 4] rfl (B54 _ (fun M v1 v2 v3 hw => ih M v1 v2 v3 hw) M7 v1 x3 v3 hw)
  refine q_iconst (v := 0) hC dX2_meetingPlace_0 rfl 1 rfl ?_
  refine q_istore_n (L' := [(1, .int 0), (0, .ref (gA g b))]) hC dX2_meetingPlace_1 (by decide) rfl 2 rfl ?_
  refine q_aload_n hC dX2_meetingPlace_2 1 rfl 3 rfl ?_
  refine q_iconst (v := 0) hC dX2_meetingPlace_3 rfl 4 rfl ?_
  refine r_callI hC (go_V (q := (RX2, TX2, 14)) (As := [.int 0]) (rest := []) hC (ctX2_ruled (zl z) g M b 0 _ hb hw) 1 gX2_meetingPlace_X2_ruled rfl ⟨rfl, rfl⟩ hdV_X2_ruled ⟨Nat.le_of_ble_eq_true rfl, Nat.le_of_ble_eq_true rfl⟩ hb.ob rfl rfl rfl (Nat.le_of_ble_eq_true rfl) dX2_meetingPlace_4) 7 rfl (fun r1 M2 hw => ?_)
  refine q_istore_n (L' := [(2, .int r1), (1, .int 0), (0, .ref (gA g b))]) hC dX2_meetingPlace_7 (by decide) rfl 8 rfl ?_
  refine q_iconst (v := 0) hC dX2_meetingPlace_8 rfl 9 rfl ?_
  refine q_istore_n (L' := [(3, .int 0), (2, .int r1), (1, .int 0), (0, .ref (gA g b))]) hC dX2_meetingPlace_9 (by decide) rfl 10 rfl ?_
  obtain ⟨n0, hw⟩ := hw
  exact XX.sub [3, 2, 1, 0] rfl (B10 n0 M2 0 r1 0 hw)
set_option maxRecDepth 100000 in
set_option maxHeartbeats 4000000 in
theorem ctX2_playedThrough (l : Launch) (g : GG) (M : MM) (b : Nat) (v1 : Int32) (Q : Int32 → MM → Prop) (hb : tpl g b) (hw : wX2_playedThrough Q M b v1) : MI g l yX2_playedThrough wsX2_playedThrough (rmOf 1 21) [.ref (gA g b), .int v1] M Q := by
  refine mk_MI (cc := cX2_playedThrough) (maxL := 2) (by decide) rfl (Nat.le_of_ble_eq_true rfl) ?_
  intro z Qf hC hR
  show XX z g Qf 2 0 [(0, .ref (gA g b)), (1, .int v1)] [] M
  refine q_aload_n hC dX2_playedThrough_0 0 rfl 1 rfl ?_
  refine q_iconst (v := 3) hC dX2_playedThrough_1 rfl 2 rfl ?_
  refine r_callI hC (go_V (q := (RX2, TX2, 14)) (As := [.int 3]) (rest := []) hC (ctX2_ruled (zl z) g M b 3 _ hb hw) 1 gX2_playedThrough_X2_ruled rfl ⟨rfl, rfl⟩ hdV_X2_ruled ⟨Nat.le_of_ble_eq_true rfl, Nat.le_of_ble_eq_true rfl⟩ hb.ob rfl rfl rfl (Nat.le_of_ble_eq_true rfl) dX2_playedThrough_2) 5 rfl (fun r1 M2 hw => ?_)
  refine q_iload_n hC dX2_playedThrough_5 1 rfl 6 rfl ?_
  refine q_imul hC dX2_playedThrough_6 7 rfl ?_
  exact r_iret hR dX2_playedThrough_7 hw
