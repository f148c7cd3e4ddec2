set_option maxRecDepth 100000 in
set_option maxHeartbeats 4000000 in
theorem ctX4_copyRow (l : Launch) (g : GG) (M : MM) (k0 : Nat) (k1 : Nat) (Q : MM → Prop) (hk0 : isI g k0) (hk1 : isI g k1) (hw : wX4_copyRow Q M k0 k1) : MV g l yX4_copyRow wsX4_copyRow (rmOf 1 60) [.ref (gA g k0), .ref (gA g k1)] M Q := by
  refine mk_MV (cc := cX4_copyRow) (maxL := 2) (by decide) rfl (Nat.le_of_ble_eq_true rfl) ?_
  intro z Qf hC hR
  show XX z g Qf 2 0 [(0, .ref (gA g k0)), (1, .ref (gA g k1))] [] M
  refine q_aload_n hC dX4_copyRow_0 0 rfl 1 rfl ?_
  refine q_ifnull hC dX4_copyRow_1 4 rfl ?_
  refine q_aload_n hC dX4_copyRow_4 1 rfl 5 rfl ?_
  refine q_ifnull hC dX4_copyRow_5 8 rfl ?_
  refine q_aload_n hC dX4_copyRow_8 0 rfl 9 rfl ?_
  refine q_iconst (v := 0) hC dX4_copyRow_9 rfl 10 rfl ?_
  refine q_aload_n hC dX4_copyRow_10 1 rfl 11 rfl ?_
  refine q_iconst (v := 0) hC dX4_copyRow_11 rfl 12 rfl ?_
  refine q_aload_n hC dX4_copyRow_12 0 rfl 13 rfl ?_
  refine q_alen hC hk0 dX4_copyRow_13 14 rfl ?_
  refine q_aload_n hC dX4_copyRow_14 1 rfl 15 rfl ?_
  refine q_alen hC hk1 dX4_copyRow_15 16 rfl ?_
  refine q_mmin hC (uX4_copyRow__o _ (List.mem_of_getElem? (l := owX4_copyRow) (i := 1) rfl)) (uX4_copyRow__o _ (List.mem_of_getElem? (l := owX4_copyRow) (i := 2) rfl)) (uX4_copyRow__o _ (List.mem_of_getElem? (l := owX4_copyRow) (i := 3) rfl)) (uX4_copyRow__o _ (List.mem_of_getElem? (l := owX4_copyRow) (i := 4) rfl)) (by decide) (Nat.le_of_ble_eq_true rfl) dX4_copyRow_16 19 rfl ?_
  obtain ⟨hp1, hp2, hp3, hp4, hp5, hw⟩ := hw
  refine q_copy hC (uX4_copyRow__o _ (List.mem_of_getElem? (l := owX4_copyRow) (i := 5) rfl)) (uX4_copyRow__o _ (List.mem_of_getElem? (l := owX4_copyRow) (i := 6) rfl)) (uX4_copyRow__o _ (List.mem_of_getElem? (l := owX4_copyRow) (i := 7) rfl)) (uX4_copyRow__o _ (List.mem_of_getElem? (l := owX4_copyRow) (i := 8) rfl)) hk0 hk1 hp1 hp2 hp3 hp4 hp5 (by decide) (Nat.le_of_ble_eq_true rfl) dX4_copyRow_19 22 rfl (fun M1 eM1 => ?_)
  have hw := hw M1 eM1
  exact r_vret hR dX4_copyRow_22 hw
set_option maxRecDepth 100000 in
set_option maxHeartbeats 4000000 in
theorem ctX4_copyRow_si (l : Launch) (g : GG) (M : MM) (k0 : Nat) (k1 : Nat) (Q : MM → Prop) (hk0 : k0 < 3) (hk1 : isI g k1) (hw : wX4_copyRow_si Q M k0 k1) : MV g l yX4_copyRow wsX4_copyRow (rmOf 1 60) [.ref (gS g k0), .ref (gA g k1)] M Q := by
  refine mk_MV (cc := cX4_copyRow) (maxL := 2) (by decide) rfl (Nat.le_of_ble_eq_true rfl) ?_
  intro z Qf hC hR
  show XX z g Qf 2 0 [(0, .ref (gS g k0)), (1, .ref (gA g k1))] [] M
  refine q_aload_n hC dX4_copyRow_0 0 rfl 1 rfl ?_
  refine q_ifnull hC dX4_copyRow_1 4 rfl ?_
  refine q_aload_n hC dX4_copyRow_4 1 rfl 5 rfl ?_
  refine q_ifnull hC dX4_copyRow_5 8 rfl ?_
  refine q_aload_n hC dX4_copyRow_8 0 rfl 9 rfl ?_
  refine q_iconst (v := 0) hC dX4_copyRow_9 rfl 10 rfl ?_
  refine q_aload_n hC dX4_copyRow_10 1 rfl 11 rfl ?_
  refine q_iconst (v := 0) hC dX4_copyRow_11 rfl 12 rfl ?_
  refine q_aload_n hC dX4_copyRow_12 0 rfl 13 rfl ?_
  refine q_tlen hC k0 hk0 dX4_copyRow_13 14 rfl ?_
  refine q_aload_n hC dX4_copyRow_14 1 rfl 15 rfl ?_
  refine q_alen hC hk1 dX4_copyRow_15 16 rfl ?_
  refine q_mmin hC (uX4_copyRow__o _ (List.mem_of_getElem? (l := owX4_copyRow) (i := 1) rfl)) (uX4_copyRow__o _ (List.mem_of_getElem? (l := owX4_copyRow) (i := 2) rfl)) (uX4_copyRow__o _ (List.mem_of_getElem? (l := owX4_copyRow) (i := 3) rfl)) (uX4_copyRow__o _ (List.mem_of_getElem? (l := owX4_copyRow) (i := 4) rfl)) (by decide) (Nat.le_of_ble_eq_true rfl) dX4_copyRow_16 19 rfl ?_
  obtain ⟨hp1, hp2, hp3, hp4, hp5, hw⟩ := hw
  refine q_copyt hC (uX4_copyRow__o _ (List.mem_of_getElem? (l := owX4_copyRow) (i := 5) rfl)) (uX4_copyRow__o _ (List.mem_of_getElem? (l := owX4_copyRow) (i := 6) rfl)) (uX4_copyRow__o _ (List.mem_of_getElem? (l := owX4_copyRow) (i := 7) rfl)) (uX4_copyRow__o _ (List.mem_of_getElem? (l := owX4_copyRow) (i := 8) rfl)) hk0 hk1 hp1 hp2 hp3 hp4 hp5 (by decide) (Nat.le_of_ble_eq_true rfl) dX4_copyRow_19 22 rfl (fun M1 eM1 => ?_)
  have hw := hw M1 eM1
  exact r_vret hR dX4_copyRow_22 hw
theorem hdT_X4_copyRow : yX4_copyRow.cls ≠ "java/lang/invoke/MethodHandle" ∧ yX4_copyRow.cls ≠ "java/lang/invoke/VarHandle" ∧ (parseMethodDescriptor yX4_copyRow.desc).map (fun d => d.parameters.length) = some 2 := by decide +kernel
theorem inX2_reset_X2 : ∀ w ∈ u_ws RX2 TX2 14, w ∈ wsX2_reset := uX2_reset__wsX20
set_option maxRecDepth 100000 in
set_option maxHeartbeats 4000000 in
theorem ctX2_reset (l : Launch) (g : GG) (M : MM) (b : Nat) (Q : MM → Prop) (hb : tpl g b) (hw : wX2_reset Q M b) : MV g l yX2_reset wsX2_reset (rmOf 2 81) [.ref (gA g b)] M Q := by
  refine mk_MV (cc := cX2_reset) (maxL := 1) (by decide) rfl (Nat.le_of_ble_eq_true rfl) ?_
  intro z Qf hC hR
  show XX z g Qf 1 0 [(0, .ref (gA g b))] [] M
  refine q_getsN hC 2 (by decide) 0 rfl dX2_reset_0 3 rfl ?_
  refine q_aload_n hC dX2_reset_3 0 rfl 4 rfl ?_
  refine q_getR (C := RX2) (T := TX2) (N := 14) (ci := 2) hC inX2_reset_X2 hb.ob rfl 0 (by decide) (uX2_reset__o _ (List.mem_of_getElem? (l := owX2_reset) (i := 1) rfl)) rfl (b + 1) (fun _ => rfl) dX2_reset_4 7 rfl ?_
  refine r_callV hC (go_N (As := [.ref (gS g 2), .ref (gA g (b + 1))]) (rest := []) hC (ctX4_copyRow_si (zl z) g M 2 (b + 1) _ (by decide) (hb.ar 1 (by decide) (by decide)) hw) 2 gX2_reset_X4_copyRow_n42 rfl ⟨rfl, rfl⟩ 8 rfl (uX2_reset__o _ (List.mem_of_getElem? (l := owX2_reset) (i := 9) rfl)) (uX2_reset__o _ (List.mem_of_getElem? (l := owX2_reset) (i := 8) rfl)) hdT_X4_copyRow ⟨Nat.le_of_ble_eq_true rfl, Nat.le_of_ble_eq_true rfl⟩ rfl rfl (Nat.le_of_ble_eq_true rfl) dX2_reset_7) 10 rfl (fun M1 hw => ?_)
  refine q_aload_n hC dX2_reset_10 0 rfl 11 rfl ?_
  refine q_iconst (v := 0) hC dX2_reset_11 rfl 12 rfl ?_
  refine q_putI (C := RX2) (T := TX2) (N := 14) (ci := 2) hC inX2_reset_X2 tyX2 tyX2_ok nmX2 hb.ob rfl 8 (by decide) (uX2_reset__o _ (List.mem_of_getElem? (l := owX2_reset) (i := 2) rfl)) rfl rfl rfl (fun _ => Nat.le_of_ble_eq_true rfl) (fun _ => rfl) dX2_reset_12 15 rfl (fun M2 eM2 => ?_)
  have hw := hw M2 eM2
  refine q_aload_n hC dX2_reset_15 0 rfl 16 rfl ?_
  refine q_iconst (v := 0) hC dX2_reset_16 rfl 17 rfl ?_
  refine q_putI (C := RX2) (T := TX2) (N := 14) (ci := 2) hC inX2_reset_X2 tyX2 tyX2_ok nmX2 hb.ob rfl 9 (by decide) (uX2_reset__o _ (List.mem_of_getElem? (l := owX2_reset) (i := 3) rfl)) rfl rfl rfl (fun _ => Nat.le_of_ble_eq_true rfl) (fun _ => rfl) dX2_reset_17 20 rfl (fun M3 eM3 => ?_)
  have hw := hw M3 eM3
  refine q_aload_n hC dX2_reset_20 0 rfl 21 rfl ?_
  refine q_iconst (v := 0) hC dX2_reset_21 rfl 22 rfl ?_
  refine q_putI (C := RX2) (T := TX2) (N := 14) (ci := 2) hC inX2_reset_X2 tyX2 tyX2_ok nmX2 hb.ob rfl 10 (by decide) (uX2_reset__o _ (List.mem_of_getElem? (l := owX2_reset) (i := 4) rfl)) rfl rfl rfl (fun _ => Nat.le_of_ble_eq_true rfl) (fun _ => rfl) dX2_reset_22 25 rfl (fun M4 eM4 => ?_)
  have hw := hw M4 eM4
  refine q_aload_n hC dX2_reset_25 0 rfl 26 rfl ?_
  refine q_iconst (v := 0) hC dX2_reset_26 rfl 27 rfl ?_
  refine q_putI (C := RX2) (T := TX2) (N := 14) (ci := 2) hC inX2_reset_X2 tyX2 tyX2_ok nmX2 hb.ob rfl 11 (by decide) (uX2_reset__o _ (List.mem_of_getElem? (l := owX2_reset) (i := 5) rfl)) rfl rfl rfl (fun _ => Nat.le_of_ble_eq_true rfl) (fun _ => rfl) dX2_reset_27 30 rfl (fun M5 eM5 => ?_)
  have hw := hw M5 eM5
  refine q_aload_n hC dX2_reset_30 0 rfl 31 rfl ?_
  refine q_bipush (v := (-4)) hC dX2_reset_31 (by decide) 33 rfl ?_
  refine q_putI (C := RX2) (T := TX2) (N := 14) (ci := 2) hC inX2_reset_X2 tyX2 tyX2_ok nmX2 hb.ob rfl 12 (by decide) (uX2_reset__o _ (List.mem_of_getElem? (l := owX2_reset) (i := 6) rfl)) rfl rfl rfl (fun _ => Nat.le_of_ble_eq_true rfl) (fun _ => rfl) dX2_reset_33 36 rfl (fun M6 eM6 => ?_)
  have hw := hw M6 eM6
  refine q_aload_n hC dX2_reset_36 0 rfl 37 rfl ?_
  refine q_iconst (v := 0) hC dX2_reset_37 rfl 38 rfl ?_
  refine q_putI (C := RX2) (T := TX2) (N := 14) (ci := 2) hC inX2_reset_X2 tyX2 tyX2_ok nmX2 hb.ob rfl 13 (by decide) (uX2_reset__o _ (List.mem_of_getElem? (l := owX2_reset) (i := 7) rfl)) rfl rfl rfl (fun _ => Nat.le_of_ble_eq_true rfl) (fun _ => rfl) dX2_reset_38 41 rfl (fun M7 eM7 => ?_)
  have hw := hw M7 eM7
  exact r_vret hR dX2_reset_41 hw
theorem inX2_becomes_X2 : ∀ w ∈ u_ws RX2 TX2 14, w ∈ wsX2_becomes := uX2_becomes__wsX20
set_option maxRecDepth 100000 in
set_option maxHeartbeats 4000000 in
theorem ctX2_becomes (l : Launch) (g : GG) (M : MM) (b : Nat) (o1 : Nat) (Q : MM → Prop) (hb : tpl g b) (ho1 : tpl g o1) (hw : wX2_becomes Q M b o1) : MV g l yX2_becomes wsX2_becomes (rmOf 2 81) [.ref (gA g b), .ref (gA g o1)] M Q := by
  refine mk_MV (cc := cX2_becomes) (maxL := 2) (by decide) rfl (Nat.le_of_ble_eq_true rfl) ?_
  intro z Qf hC hR
  show XX z g Qf 2 0 [(0, .ref (gA g b)), (1, .ref (gA g o1))] [] M
  refine q_aload_n hC dX2_becomes_0 1 rfl 1 rfl ?_
  refine q_ifnonnull hC 5 dX2_becomes_1 (by decide) ?_
  refine q_aload_n hC dX2_becomes_5 1 rfl 6 rfl ?_
  refine q_getR (C := RX2) (T := TX2) (N := 14) (ci := 2) hC inX2_becomes_X2 ho1.ob rfl 0 (by decide) (uX2_becomes__o _ (List.mem_of_getElem? (l := owX2_becomes) (i := 1) rfl)) rfl (o1 + 1) (fun _ => rfl) dX2_becomes_6 9 rfl ?_
  refine q_aload_n hC dX2_becomes_9 0 rfl 10 rfl ?_
  refine q_getR (C := RX2) (T := TX2) (N := 14) (ci := 2) hC inX2_becomes_X2 hb.ob rfl 0 (by decide) (uX2_becomes__o _ (List.mem_of_getElem? (l := owX2_becomes) (i := 1) rfl)) rfl (b + 1) (fun _ => rfl) dX2_becomes_10 13 rfl ?_
  refine r_callV hC (go_N (As := [.ref (gA g (o1 + 1)), .ref (gA g (b + 1))]) (rest := []) hC (ctX4_copyRow (zl z) g M (o1 + 1) (b + 1) _ (ho1.ar 1 (by decide) (by decide)) (hb.ar 1 (by decide) (by decide)) hw) 2 gX2_becomes_X4_copyRow_n42 rfl ⟨rfl, rfl⟩ 8 rfl (uX2_becomes__o _ (List.mem_of_getElem? (l := owX2_becomes) (i := 16) rfl)) (uX2_becomes__o _ (List.mem_of_getElem? (l := owX2_becomes) (i := 15) rfl)) hdT_X4_copyRow ⟨Nat.le_of_ble_eq_true rfl, Nat.le_of_ble_eq_true rfl⟩ rfl rfl (Nat.le_of_ble_eq_true rfl) dX2_becomes_13) 16 rfl (fun M1 hw => ?_)
  refine q_aload_n hC dX2_becomes_16 1 rfl 17 rfl ?_
  refine q_getR (C := RX2) (T := TX2) (N := 14) (ci := 2) hC inX2_becomes_X2 ho1.ob rfl 1 (by decide) (uX2_becomes__o _ (List.mem_of_getElem? (l := owX2_becomes) (i := 2) rfl)) rfl (o1 + 2) (fun _ => rfl) dX2_becomes_17 20 rfl ?_
  refine q_aload_n hC dX2_becomes_20 0 rfl 21 rfl ?_
  refine q_getR (C := RX2) (T := TX2) (N := 14) (ci := 2) hC inX2_becomes_X2 hb.ob rfl 1 (by decide) (uX2_becomes__o _ (List.mem_of_getElem? (l := owX2_becomes) (i := 2) rfl)) rfl (b + 2) (fun _ => rfl) dX2_becomes_21 24 rfl ?_
  refine r_callV hC (go_N (As := [.ref (gA g (o1 + 2)), .ref (gA g (b + 2))]) (rest := []) hC (ctX4_copyRow (zl z) g M1 (o1 + 2) (b + 2) _ (ho1.ar 2 (by decide) (by decide)) (hb.ar 2 (by decide) (by decide)) hw) 2 gX2_becomes_X4_copyRow_n42 rfl ⟨rfl, rfl⟩ 8 rfl (uX2_becomes__o _ (List.mem_of_getElem? (l := owX2_becomes) (i := 16) rfl)) (uX2_becomes__o _ (List.mem_of_getElem? (l := owX2_becomes) (i := 15) rfl)) hdT_X4_copyRow ⟨Nat.le_of_ble_eq_true rfl, Nat.le_of_ble_eq_true rfl⟩ rfl rfl (Nat.le_of_ble_eq_true rfl) dX2_becomes_24) 27 rfl (fun M2 hw => ?_)
  refine q_aload_n hC dX2_becomes_27 1 rfl 28 rfl ?_
  refine q_getR (C := RX2) (T := TX2) (N := 14) (ci := 2) hC inX2_becomes_X2 ho1.ob rfl 2 (by decide) (uX2_becomes__o _ (List.mem_of_getElem? (l := owX2_becomes) (i := 3) rfl)) rfl (o1 + 3) (fun _ => rfl) dX2_becomes_28 31 rfl ?_
  refine q_aload_n hC dX2_becomes_31 0 rfl 32 rfl ?_
  refine q_getR (C := RX2) (T := TX2) (N := 14) (ci := 2) hC inX2_becomes_X2 hb.ob rfl 2 (by decide) (uX2_becomes__o _ (List.mem_of_getElem? (l := owX2_becomes) (i := 3) rfl)) rfl (b + 3) (fun _ => rfl) dX2_becomes_32 35 rfl ?_
  refine r_callV hC (go_N (As := [.ref (gA g (o1 + 3)), .ref (gA g (b + 3))]) (rest := []) hC (ctX4_copyRow (zl z) g M2 (o1 + 3) (b + 3) _ (ho1.ar 3 (by decide) (by decide)) (hb.ar 3 (by decide) (by decide)) hw) 2 gX2_becomes_X4_copyRow_n42 rfl ⟨rfl, rfl⟩ 8 rfl (uX2_becomes__o _ (List.mem_of_getElem? (l := owX2_becomes) (i := 16) rfl)) (uX2_becomes__o _ (List.mem_of_getElem? (l := owX2_becomes) (i := 15) rfl)) hdT_X4_copyRow ⟨Nat.le_of_ble_eq_true rfl, Nat.le_of_ble_eq_true rfl⟩ rfl rfl (Nat.le_of_ble_eq_true rfl) dX2_becomes_35) 38 rfl (fun M3 hw => ?_)
  refine q_aload_n hC dX2_becomes_38 1 rfl 39 rfl ?_
  refine q_getR (C := RX2) (T := TX2) (N := 14) (ci := 2) hC inX2_becomes_X2 ho1.ob rfl 3 (by decide) (uX2_becomes__o _ (List.mem_of_getElem? (l := owX2_becomes) (i := 4) rfl)) rfl (o1 + 4) (fun _ => rfl) dX2_becomes_39 42 rfl ?_
  refine q_aload_n hC dX2_becomes_42 0 rfl 43 rfl ?_
  refine q_getR (C := RX2) (T := TX2) (N := 14) (ci := 2) hC inX2_becomes_X2 hb.ob rfl 3 (by decide) (uX2_becomes__o _ (List.mem_of_getElem? (l := owX2_becomes) (i := 4) rfl)) rfl (b + 4) (fun _ => rfl) dX2_becomes_43 46 rfl ?_
  refine r_callV hC (go_N (As := [.ref (gA g (o1 + 4)), .ref (gA g (b + 4))]) (rest := []) hC (ctX4_copyRow (zl z) g M3 (o1 + 4) (b + 4) _ (ho1.ar 4 (by decide) (by decide)) (hb.ar 4 (by decide) (by decide)) hw) 2 gX2_becomes_X4_copyRow_n42 rfl ⟨rfl, rfl⟩ 8 rfl (uX2_becomes__o _ (List.mem_of_getElem? (l := owX2_becomes) (i := 16) rfl)) (uX2_becomes__o _ (List.mem_of_getElem? (l := owX2_becomes) (i := 15) rfl)) hdT_X4_copyRow ⟨Nat.le_of_ble_eq_true rfl, Nat.le_of_ble_eq_true rfl⟩ rfl rfl (Nat.le_of_ble_eq_true rfl) dX2_becomes_46) 49 rfl (fun M4 hw => ?_)
  refine q_aload_n hC dX2_becomes_49 1 rfl 50 rfl ?_
  refine q_getR (C := RX2) (T := TX2) (N := 14) (ci := 2) hC inX2_becomes_X2 ho1.ob rfl 4 (by decide) (uX2_becomes__o _ (List.mem_of_getElem? (l := owX2_becomes) (i := 5) rfl)) rfl (o1 + 5) (fun _ => rfl) dX2_becomes_50 53 rfl ?_
  refine q_aload_n hC dX2_becomes_53 0 rfl 54 rfl ?_
  refine q_getR (C := RX2) (T := TX2) (N := 14) (ci := 2) hC inX2_becomes_X2 hb.ob rfl 4 (by decide) (uX2_becomes__o _ (List.mem_of_getElem? (l := owX2_becomes) (i := 5) rfl)) rfl (b + 5) (fun _ => rfl) dX2_becomes_54 57 rfl ?_
  refine r_callV hC (go_N (As := [.ref (gA g (o1 + 5)), .ref (gA g (b + 5))]) (rest := []) hC (ctX4_copyRow (zl z) g M4 (o1 + 5) (b + 5) _ (ho1.ar 5 (by decide) (by decide)) (hb.ar 5 (by decide) (by decide)) hw) 2 gX2_becomes_X4_copyRow_n42 rfl ⟨rfl, rfl⟩ 8 rfl (uX2_becomes__o _ (List.mem_of_getElem? (l := owX2_becomes) (i := 16) rfl)) (uX2_becomes__o _ (List.mem_of_getElem? (l := owX2_becomes) (i := 15) rfl)) hdT_X4_copyRow ⟨Nat.le_of_ble_eq_true rfl, Nat.le_of_ble_eq_true rfl⟩ rfl rfl (Nat.le_of_ble_eq_true rfl) dX2_becomes_57) 60 rfl (fun M5 hw => ?_)
  refine q_aload_n hC dX2_becomes_60 1 rfl 61 rfl ?_
  refine q_getR (C := RX2) (T := TX2) (N := 14) (ci := 2) hC inX2_becomes_X2 ho1.ob rfl 5 (by decide) (uX2_becomes__o _ (List.mem_of_getElem? (l := owX2_becomes) (i := 6) rfl)) rfl (o1 + 6) (fun _ => rfl) dX2_becomes_61 64 rfl ?_
  refine q_aload_n hC dX2_becomes_64 0 rfl 65 rfl ?_
  refine q_getR (C := RX2) (T := TX2) (N := 14) (ci := 2) hC inX2_becomes_X2 hb.ob rfl 5 (by decide) (uX2_becomes__o _ (List.mem_of_getElem? (l := owX2_becomes) (i := 6) rfl)) rfl (b + 6) (fun _ => rfl) dX2_becomes_65 68 rfl ?_
  refine r_callV hC (go_N (As := [.ref (gA g (o1 + 6)), .ref (gA g (b + 6))]) (rest := []) hC (ctX4_copyRow (zl z) g M5 (o1 + 6) (b + 6) _ (ho1.ar 6 (by decide) (by decide)) (hb.ar 6 (by decide) (by decide)) hw) 2 gX2_becomes_X4_copyRow_n42 rfl ⟨rfl, rfl⟩ 8 rfl (uX2_becomes__o _ (List.mem_of_getElem? (l := owX2_becomes) (i := 16) rfl)) (uX2_becomes__o _ (List.mem_of_getElem? (l := owX2_becomes) (i := 15) rfl)) hdT_X4_copyRow ⟨Nat.le_of_ble_eq_true rfl, Nat.le_of_ble_eq_true rfl⟩ rfl rfl (Nat.le_of_ble_eq_true rfl) dX2_becomes_68) 71 rfl (fun M6 hw => ?_)
  refine q_aload_n hC dX2_becomes_71 1 rfl 72 rfl ?_
  refine q_getR (C := RX2) (T := TX2) (N := 14) (ci := 2) hC inX2_becomes_X2 ho1.ob rfl 6 (by decide) (uX2_becomes__o _ (List.mem_of_getElem? (l := owX2_becomes) (i := 7) rfl)) rfl (o1 + 7) (fun _ => rfl) dX2_becomes_72 75 rfl ?_
  refine q_aload_n hC dX2_becomes_75 0 rfl 76 rfl ?_
  refine q_getR (C := RX2) (T := TX2) (N := 14) (ci := 2) hC inX2_becomes_X2 hb.ob rfl 6 (by decide) (uX2_becomes__o _ (List.mem_of_getElem? (l := owX2_becomes) (i := 7) rfl)) rfl (b + 7) (fun _ => rfl) dX2_becomes_76 79 rfl ?_
  refine r_callV hC (go_N (As := [.ref (gA g (o1 + 7)), .ref (gA g (b + 7))]) (rest := []) hC (ctX4_copyRow (zl z) g M6 (o1 + 7) (b + 7) _ (ho1.ar 7 (by decide) (by decide)) (hb.ar 7 (by decide) (by decide)) hw) 2 gX2_becomes_X4_copyRow_n42 rfl ⟨rfl, rfl⟩ 8 rfl (uX2_becomes__o _ (List.mem_of_getElem? (l := owX2_becomes) (i := 16) rfl)) (uX2_becomes__o _ (List.mem_of_getElem? (l := owX2_becomes) (i := 15) rfl)) hdT_X4_copyRow ⟨Nat.le_of_ble_eq_true rfl, Nat.le_of_ble_eq_true rfl⟩ rfl rfl (Nat.le_of_ble_eq_true rfl) dX2_becomes_79) 82 rfl (fun M7 hw => ?_)
  refine q_aload_n hC dX2_becomes_82 1 rfl 83 rfl ?_
  refine q_getR (C := RX2) (T := TX2) (N := 14) (ci := 2) hC inX2_becomes_X2 ho1.ob rfl 7 (by decide) (uX2_becomes__o _ (List.mem_of_getElem? (l := owX2_becomes) (i := 8) rfl)) rfl (o1 + 8) (fun _ => rfl) dX2_becomes_83 86 rfl ?_
  refine q_aload_n hC dX2_becomes_86 0 rfl 87 rfl ?_
  refine q_getR (C := RX2) (T := TX2) (N := 14) (ci := 2) hC inX2_becomes_X2 hb.ob rfl 7 (by decide) (uX2_becomes__o _ (List.mem_of_getElem? (l := owX2_becomes) (i := 8) rfl)) rfl (b + 8) (fun _ => rfl) dX2_becomes_87 90 rfl ?_
  refine r_callV hC (go_N (As := [.ref (gA g (o1 + 8)), .ref (gA g (b + 8))]) (rest := []) hC (ctX4_copyRow (zl z) g M7 (o1 + 8) (b + 8) _ (ho1.ar 8 (by decide) (by decide)) (hb.ar 8 (by decide) (by decide)) hw) 2 gX2_becomes_X4_copyRow_n42 rfl ⟨rfl, rfl⟩ 8 rfl (uX2_becomes__o _ (List.mem_of_getElem? (l := owX2_becomes) (i := 16) rfl)) (uX2_becomes__o _ (List.mem_of_getElem? (l := owX2_becomes) (i := 15) rfl)) hdT_X4_copyRow ⟨Nat.le_of_ble_eq_true rfl, Nat.le_of_ble_eq_true rfl⟩ rfl rfl (Nat.le_of_ble_eq_true rfl) dX2_becomes_90) 93 rfl (fun M8 hw => ?_)
  refine q_aload_n hC dX2_becomes_93 0 rfl 94 rfl ?_
  refine q_aload_n hC dX2_becomes_94 1 rfl 95 rfl ?_
  refine q_getI (C := RX2) (T := TX2) (N := 14) (ci := 2) hC inX2_becomes_X2 ho1.ob rfl 8 (by decide) (uX2_becomes__o _ (List.mem_of_getElem? (l := owX2_becomes) (i := 9) rfl)) rfl (fun _ => rfl) dX2_becomes_95 98 rfl ?_
  refine q_putI (C := RX2) (T := TX2) (N := 14) (ci := 2) hC inX2_becomes_X2 tyX2 tyX2_ok nmX2 hb.ob rfl 8 (by decide) (uX2_becomes__o _ (List.mem_of_getElem? (l := owX2_becomes) (i := 9) rfl)) rfl rfl rfl (fun _ => Nat.le_of_ble_eq_true rfl) (fun _ => rfl) dX2_becomes_98 101 rfl (fun M9 eM9 => ?_)
  have hw := hw M9 eM9
  refine q_aload_n hC dX2_becomes_101 0 rfl 102 rfl ?_
  refine q_aload_n hC dX2_becomes_102 1 rfl 103 rfl ?_
  refine q_getI (C := RX2) (T := TX2) (N := 14) (ci := 2) hC inX2_becomes_X2 ho1.ob rfl 9 (by decide) (uX2_becomes__o _ (List.mem_of_getElem? (l := owX2_becomes) (i := 10) rfl)) rfl (fun _ => rfl) dX2_becomes_103 106 rfl ?_
  refine q_putI (C := RX2) (T := TX2) (N := 14) (ci := 2) hC inX2_becomes_X2 tyX2 tyX2_ok nmX2 hb.ob rfl 9 (by decide) (uX2_becomes__o _ (List.mem_of_getElem? (l := owX2_becomes) (i := 10) rfl)) rfl rfl rfl (fun _ => Nat.le_of_ble_eq_true rfl) (fun _ => rfl) dX2_becomes_106 109 rfl (fun M10 eM10 => ?_)
  have hw := hw M10 eM10
  refine q_aload_n hC dX2_becomes_109 0 rfl 110 rfl ?_
  refine q_aload_n hC dX2_becomes_110 1 rfl 111 rfl ?_
  refine q_getI (C := RX2) (T := TX2) (N := 14) (ci := 2) hC inX2_becomes_X2 ho1.ob rfl 10 (by decide) (uX2_becomes__o _ (List.mem_of_getElem? (l := owX2_becomes) (i := 11) rfl)) rfl (fun _ => rfl) dX2_becomes_111 114 rfl ?_
  refine q_putI (C := RX2) (T := TX2) (N := 14) (ci := 2) hC inX2_becomes_X2 tyX2 tyX2_ok nmX2 hb.ob rfl 10 (by decide) (uX2_becomes__o _ (List.mem_of_getElem? (l := owX2_becomes) (i := 11) rfl)) rfl rfl rfl (fun _ => Nat.le_of_ble_eq_true rfl) (fun _ => rfl) dX2_becomes_114 117 rfl (fun M11 eM11 => ?_)
  have hw := hw M11 eM11
  refine q_aload_n hC dX2_becomes_117 0 rfl 118 rfl ?_
  refine q_aload_n hC dX2_becomes_118 1 rfl 119 rfl ?_
  refine q_getI (C := RX2) (T := TX2) (N := 14) (ci := 2) hC inX2_becomes_X2 ho1.ob rfl 11 (by decide) (uX2_becomes__o _ (List.mem_of_getElem? (l := owX2_becomes) (i := 12) rfl)) rfl (fun _ => rfl) dX2_becomes_119 122 rfl ?_
  refine q_putI (C := RX2) (T := TX2) (N := 14) (ci := 2) hC inX2_becomes_X2 tyX2 tyX2_ok nmX2 hb.ob rfl 11 (by decide) (uX2_becomes__o _ (List.mem_of_getElem? (l := owX2_becomes) (i := 12) rfl)) rfl rfl rfl (fun _ => Nat.le_of_ble_eq_true rfl) (fun _ => rfl) dX2_becomes_122 125 rfl (fun M12 eM12 => ?_)
  have hw := hw M12 eM12
  refine q_aload_n hC dX2_becomes_125 0 rfl 126 rfl ?_
  refine q_aload_n hC dX2_becomes_126 1 rfl 127 rfl ?_
  refine q_getI (C := RX2) (T := TX2) (N := 14) (ci := 2) hC inX2_becomes_X2 ho1.ob rfl 12 (by decide) (uX2_becomes__o _ (List.mem_of_getElem? (l := owX2_becomes) (i := 13) rfl)) rfl (fun _ => rfl) dX2_becomes_127 130 rfl ?_
  refine q_putI (C := RX2) (T := TX2) (N := 14) (ci := 2) hC inX2_becomes_X2 tyX2 tyX2_ok nmX2 hb.ob rfl 12 (by decide) (uX2_becomes__o _ (List.mem_of_getElem? (l := owX2_becomes) (i := 13) rfl)) rfl rfl rfl (fun _ => Nat.le_of_ble_eq_true rfl) (fun _ => rfl) dX2_becomes_130 133 rfl (fun M13 eM13 => ?_)
  have hw := hw M13 eM13
  refine q_aload_n hC dX2_becomes_133 0 rfl 134 rfl ?_
  refine q_aload_n hC dX2_becomes_134 1 rfl 135 rfl ?_
  refine q_getI (C := RX2) (T := TX2) (N := 14) (ci := 2) hC inX2_becomes_X2 ho1.ob rfl 13 (by decide) (uX2_becomes__o _ (List.mem_of_getElem? (l := owX2_becomes) (i := 14) rfl)) rfl (fun _ => rfl) dX2_becomes_135 138 rfl ?_
  refine q_putI (C := RX2) (T := TX2) (N := 14) (ci := 2) hC inX2_becomes_X2 tyX2 tyX2_ok nmX2 hb.ob rfl 13 (by decide) (uX2_becomes__o _ (List.mem_of_getElem? (l := owX2_becomes) (i := 14) rfl)) rfl rfl rfl (fun _ => Nat.le_of_ble_eq_true rfl) (fun _ => rfl) dX2_becomes_138 141 rfl (fun M14 eM14 => ?_)
  have hw := hw M14 eM14
  exact r_vret hR dX2_becomes_141 hw
theorem inX2_ruled_X2 : ∀ w ∈ u_ws RX2 TX2 14, w ∈ wsX2_ruled := uX2_ruled__wsX20
set_option maxRecDepth 100000 in
set_option maxHeartbeats 4000000 in
theorem ctX2_ruled (l : Launch) (g : GG) (M : MM) (b : Nat) (v1 : Int32) (Q : Int32 → MM → Prop) (hb : tpl g b) (hw : wX2_ruled Q M b v1) : MI g l yX2_ruled wsX2_ruled (rmOf 0 0) [.ref (gA g b), .int v1] M Q := by
  refine mk_MI (cc := cX2_ruled) (maxL := 2) (by decide) rfl (Nat.le_of_ble_eq_true rfl) ?_
  intro z Qf hC hR
  show XX z g Qf 2 0 [(0, .ref (gA g b)), (1, .int v1)] [] M
  have B22 : ∀ (M : MM), wX2_ruled_22 Q b v1 M → XX z g Qf 2 22 [] [] M := by
    intro M hw
    refine q_iconst (v := 0) hC dX2_ruled_22 rfl 23 rfl ?_
    exact r_iret hR dX2_ruled_23 hw
  refine q_iload_n hC dX2_ruled_0 1 rfl 1 rfl ?_
  refine q_if_lt hC 22 dX2_ruled_1 (by decide) 4 rfl hw (fun hw => ?_) (fun hw => ?_)
  · exact XX.sub [] rfl (B22 M hw)
  · refine q_iload_n hC dX2_ruled_4 1 rfl 5 rfl ?_
    refine q_aload_n hC dX2_ruled_5 0 rfl 6 rfl ?_
    refine q_getR (C := RX2) (T := TX2) (N := 14) (ci := 2) hC inX2_ruled_X2 hb.ob rfl 0 (by decide) (uX2_ruled__o _ (List.mem_of_getElem? (l := owX2_ruled) (i := 1) rfl)) rfl (b + 1) (fun _ => rfl) dX2_ruled_6 9 rfl ?_
    refine q_alen hC (hb.ar 1 (by decide) (by decide)) dX2_ruled_9 10 rfl ?_
    refine q_icmp_ge hC 22 dX2_ruled_10 (by decide) 13 rfl hw (fun hw => ?_) (fun hw => ?_)
    · exact XX.sub [] rfl (B22 M hw)
    · refine q_aload_n hC dX2_ruled_13 0 rfl 14 rfl ?_
      refine q_getR (C := RX2) (T := TX2) (N := 14) (ci := 2) hC inX2_ruled_X2 hb.ob rfl 0 (by decide) (uX2_ruled__o _ (List.mem_of_getElem? (l := owX2_ruled) (i := 1) rfl)) rfl (b + 1) (fun _ => rfl) dX2_ruled_14 17 rfl ?_
      refine q_iload_n hC dX2_ruled_17 1 rfl 18 rfl ?_
      obtain ⟨hin, hw⟩ := hw
      refine q_iald hC (hb.ar 1 (by decide) (by decide)) hin dX2_ruled_18 19 rfl ?_
      refine q_goto hC 23 dX2_ruled_19 (by decide) ?_
      exact r_iret hR dX2_ruled_23 hw
set_option maxRecDepth 100000 in
set_option maxHeartbeats 4000000 in
theorem ctX4_isBetween (l : Launch) (g : GG) (M : MM) (v0 : Int32) (v1 : Int32) (v2 : Int32) (Q : Int32 → MM → Prop)  (hw : wX4_isBetween Q M v0 v1 v2) : MI g l yX4_isBetween wsX4_isBetween (rmOf 0 0) [.int v0, .int v1, .int v2] M Q := by
  refine mk_MZ (cc := cX4_isBetween) (maxL := 3) (by decide) rfl (Nat.le_of_ble_eq_true rfl) ?_
  intro z Qf hC hR
  show XX z g Qf 3 0 [(0, .int v0), (1, .int v1), (2, .int v2)] [] M
  have B14 : ∀ (M : MM), wX4_isBetween_14 Q v0 v1 v2 M → XX z g Qf 3 14 [] [] M := by
    intro M hw
    refine q_iconst (v := 0) hC dX4_isBetween_14 rfl 15 rfl ?_
    exact r_iret hR dX4_isBetween_15 ⟨nb_0, hw⟩
  refine q_iload_n hC dX4_isBetween_0 0 rfl 1 rfl ?_
  refine q_iload_n hC dX4_isBetween_1 1 rfl 2 rfl ?_
  refine q_icmp_lt hC 14 dX4_isBetween_2 (by decide) 5 rfl hw (fun hw => ?_) (fun hw => ?_)
  · exact XX.sub [] rfl (B14 M hw)
  · refine q_iload_n hC dX4_isBetween_5 0 rfl 6 rfl ?_
    refine q_iload_n hC dX4_isBetween_6 2 rfl 7 rfl ?_
    refine q_icmp_gt hC 14 dX4_isBetween_7 (by decide) 10 rfl hw (fun hw => ?_) (fun hw => ?_)
    · exact XX.sub [] rfl (B14 M hw)
    · refine q_iconst (v := 1) hC dX4_isBetween_10 rfl 11 rfl ?_
      refine q_goto hC 15 dX4_isBetween_11 (by decide) ?_
      exact r_iret hR dX4_isBetween_15 ⟨nb_1, hw⟩
theorem hdV_X2_ruled : yX2_ruled.cls = RX2 ∧ yX2_ruled.cls ≠ "java/lang/invoke/MethodHandle" ∧ yX2_ruled.cls ≠ "java/lang/invoke/VarHandle" ∧ (parseMethodDescriptor yX2_ruled.desc).map (fun d => d.parameters.length) = some 1 := by decide +kernel
theorem hdT_X4_isBetween : yX4_isBetween.cls ≠ "java/lang/invoke/MethodHandle" ∧ yX4_isBetween.cls ≠ "java/lang/invoke/VarHandle" ∧ (parseMethodDescriptor yX4_isBetween.desc).map (fun d => d.parameters.length) = some 3 := by decide +kernel
set_option maxRecDepth 100000 in
set_option maxHeartbeats 4000000 in
theorem ctX2_hasPlace (l : Launch) (g : GG) (M : MM) (b : Nat) (v1 : Int32) (Q : Int32 → MM → Prop) (hb : tpl g b) (hw : wX2_hasPlace Q M b v1) : MI g l yX2_hasPlace wsX2_hasPlace (rmOf 1 22) [.ref (gA g b), .int v1] M Q := by
  refine mk_MZ (cc := cX2_hasPlace) (maxL := 2) (by decide) rfl (Nat.le_of_ble_eq_true rfl) ?_
  intro z Qf hC hR
  show XX z g Qf 2 0 [(0, .ref (gA g b)), (1, .int v1)] [] M
  refine q_iload_n hC dX2_hasPlace_0 1 rfl 1 rfl ?_
  refine q_iconst (v := 0) hC dX2_hasPlace_1 rfl 2 rfl ?_
  refine q_aload_n hC dX2_hasPlace_2 0 rfl 3 rfl ?_
  refine q_iconst (v := 0) hC dX2_hasPlace_3 rfl 4 rfl ?_
  refine r_callI hC (go_V (q := (RX2, TX2, 14)) (As := [.int 0]) (rest := [.int 0, .int v1]) hC (ctX2_ruled (zl z) g M b 0 _ hb hw) 1 gX2_hasPlace_X2_ruled rfl ⟨rfl, rfl⟩ hdV_X2_ruled ⟨Nat.le_of_ble_eq_true rfl, Nat.le_of_ble_eq_true rfl⟩ hb.ob rfl rfl rfl (Nat.le_of_ble_eq_true rfl) dX2_hasPlace_4) 7 rfl (fun r1 M2 hw => ?_)
  refine r_callI hC (go_N (As := [.int v1, .int 0, .int r1]) (rest := []) hC (ctX4_isBetween (zl z) g M2 v1 0 r1 _ hw) 3 gX2_hasPlace_X4_isBetween_n69 rfl ⟨rfl, rfl⟩ 9 rfl (uX2_hasPlace__o _ (List.mem_of_getElem? (l := owX2_hasPlace) (i := 6) rfl)) (uX2_hasPlace__o _ (List.mem_of_getElem? (l := owX2_hasPlace) (i := 5) rfl)) hdT_X4_isBetween ⟨Nat.le_of_ble_eq_true rfl, Nat.le_of_ble_eq_true rfl⟩ rfl rfl (Nat.le_of_ble_eq_true rfl) dX2_hasPlace_7) 10 rfl (fun r3 M4 hw => ?_)
  exact r_iret hR dX2_hasPlace_10 hw
set_option maxRecDepth 100000 in
set_option maxHeartbeats 4000000 in
theorem ctX4_lengthOfTurns (l : Launch) (g : GG) (M : MM) (v0 : Int32) (v1 : Int32) (v2 : Int32) (Q : Int32 → MM → Prop)  (hw : wX4_lengthOfTurns Q M v0 v1 v2) : MI g l yX4_lengthOfTurns wsX4_lengthOfTurns (rmOf 0 0) [.int v0, .int v1, .int v2] M Q := by
  refine mk_MI (cc := cX4_lengthOfTurns) (maxL := 3) (by decide) rfl (Nat.le_of_ble_eq_true rfl) ?_
  intro z Qf hC hR
  show XX z g Qf 3 0 [(0, .int v0), (1, .int v1), (2, .int v2)] [] M
  refine q_iload_n hC dX4_lengthOfTurns_0 0 rfl 1 rfl ?_
  refine q_iload_n hC dX4_lengthOfTurns_1 1 rfl 2 rfl ?_
  refine q_imul hC dX4_lengthOfTurns_2 3 rfl ?_
  refine q_iload_n hC dX4_lengthOfTurns_3 2 rfl 4 rfl ?_
  refine q_iload_n hC dX4_lengthOfTurns_4 0 rfl 5 rfl ?_
  refine q_iload_n hC dX4_lengthOfTurns_5 0 rfl 6 rfl ?_
  refine q_iconst (v := 1) hC dX4_lengthOfTurns_6 rfl 7 rfl ?_
  refine q_isub hC dX4_lengthOfTurns_7 8 rfl ?_
  refine q_imul hC dX4_lengthOfTurns_8 9 rfl ?_
  refine q_iconst (v := 2) hC dX4_lengthOfTurns_9 rfl 10 rfl ?_
  refine q_idiv hC dX4_lengthOfTurns_10 (by decide) 11 rfl ?_
  refine q_imul hC dX4_lengthOfTurns_11 12 rfl ?_
  refine q_iadd hC dX4_lengthOfTurns_12 13 rfl ?_
  exact r_iret hR dX4_lengthOfTurns_13 hw
theorem hdT_X4_lengthOfTurns : yX4_lengthOfTurns.cls ≠ "java/lang/invoke/MethodHandle" ∧ yX4_lengthOfTurns.cls ≠ "java/lang/invoke/VarHandle" ∧ (parseMethodDescriptor yX4_lengthOfTurns.desc).map (fun d => d.parameters.length) = some 3 := by decide +kernel
set_option maxRecDepth 100000 in
set_option maxHeartbeats 4000000 in
theorem ctX2_turnsOf (l : Launch) (g : GG) (M : MM) (b : Nat) (v1 : Int32) (Q : Int32 → MM → Prop) (hb : tpl g b) (hw : wX2_turnsOf Q M b v1) : MI g l yX2_turnsOf wsX2_turnsOf (rmOf 1 22) [.ref (gA g b), .int v1] M Q := by
  refine mk_MI (cc := cX2_turnsOf) (maxL := 6) (by decide) rfl (Nat.le_of_ble_eq_true rfl) ?_
  intro z Qf hC hR
  show XX z g Qf 6 0 [(0, .ref (gA g b)), (1, .int v1)] [] M
  have B46 : ∀ (K20 : MM → Int32 → Int32 → Int32 → Int32 → Prop) (hK20 : ∀ (M : MM) (v2 : Int32) (v3 : Int32) (v4 : Int32) (v5 : Int32) , K20 M v2 v3 v4 v5 → XX z g Qf 6 20 [(1, .int v1), (2, .int v2), (3, .int v3), (4, .int v4), (5, .int v5)] [] M) (M : MM) (v2 : Int32) (v3 : Int32) (v4 : Int32) (v5 : Int32), wX2_turnsOf_46 Q K20 b v1 M v2 v3 v4 v5 → XX z g Qf 6 46 [(1, .int v1), (2, .int v2), (3, .int v3), (4, .int v4), (5, .int v5)] [] M := by
    intro K20 hK20 M v2 v3 v4 v5 hw
    refine q_iload hC dX2_turnsOf_46 4 rfl 48 rfl ?_
    refine q_iconst (v := 2) hC dX2_turnsOf_48 rfl 49 rfl ?_
    refine q_idiv hC dX2_turnsOf_49 (by decide) 50 rfl ?_
    refine q_istore (L' := [(5, .int (v5 / 2)), (1, .int v1), (2, .int v2), (3, .int v3), (4, .int v4)]) hC dX2_turnsOf_50 (by decide) rfl 52 rfl ?_
    refine q_goto hC 20 dX2_turnsOf_52 (by decide) ?_
    exact XX.sub [1, 2, 3, 4, 0] rfl (hK20 M v2 v3 v4 (v5 / 2) hw)
  have B20 : ∀ (n : Nat) (M : MM) (v2 : Int32) (v3 : Int32) (v4 : Int32) (v5 : Int32) , wX2_turnsOf_20 Q b v1 n M v2 v3 v4 v5 → XX z g Qf 6 20 [(1, .int v1), (2, .int v2), (3, .int v3), (4, .int v4), (5, .int v5)] [] M := by
    intro n
    induction n with
    | zero =>
      intro M v2 v3 v4 v5 hw
      exact hw.elim
    | succ n ih =>
      intro M v2 v3 v4 v5 hw
      refine q_iload hC dX2_turnsOf_20 4 rfl 22 rfl ?_
      refine q_if_le hC 55 dX2_turnsOf_22 (by decide) 25 rfl hw (fun hw => ?_) (fun hw => ?_)
      · refine q_iload hC dX2_turnsOf_55 3 rfl 57 rfl ?_
        exact r_iret hR dX2_turnsOf_57 hw
      · refine q_iload hC dX2_turnsOf_25 3 rfl 27 rfl ?_
        refine q_iload hC dX2_turnsOf_27 4 rfl 29 rfl ?_
        refine q_iadd hC dX2_turnsOf_29 30 rfl ?_
        refine q_iload_n hC dX2_turnsOf_30 1 rfl 31 rfl ?_
        refine q_iload_n hC dX2_turnsOf_31 2 rfl 32 rfl ?_
        refine r_callI hC (go_N (As := [.int (v4 + v5), .int v2, .int v3]) (rest := []) hC (ctX4_lengthOfTurns (zl z) g M (v4 + v5) v2 v3 _ hw) 3 gX2_turnsOf_X4_lengthOfTurns_n73 rfl ⟨rfl, rfl⟩ 10 rfl (uX2_turnsOf__o _ (List.mem_of_getElem? (l := owX2_turnsOf) (i := 6) rfl)) (uX2_turnsOf__o _ (List.mem_of_getElem? (l := owX2_turnsOf) (i := 5) rfl)) hdT_X4_lengthOfTurns ⟨Nat.le_of_ble_eq_true rfl, Nat.le_of_ble_eq_true rfl⟩ rfl rfl (Nat.le_of_ble_eq_true rfl) dX2_turnsOf_32) 35 rfl (fun r5 M6 hw => ?_)
        refine q_iload_n hC dX2_turnsOf_35 0 rfl 36 rfl ?_
        refine q_icmp_gt hC 46 dX2_turnsOf_36 (by decide) 39 rfl hw (fun hw => ?_) (fun hw => ?_)
        · exact XX.sub [0, 1, 2, 3, 4] rfl (B46 _ (fun M v2 v3 v4 v5 hw => ih M v2 v3 v4 v5 hw) M6 v2 v3 v4 v5 hw)
        · refine q_iload hC dX2_turnsOf_39 3 rfl 41 rfl ?_
          refine q_iload hC dX2_turnsOf_41 4 rfl 43 rfl ?_
          refine q_iadd hC dX2_turnsOf_43 44 rfl ?_
          refine q_istore (L' := [(4, .int (v4 + v5)), (1, .int v1), (2, .int v2), (3, .int v3), (5, .int v5)]) hC dX2_turnsOf_44 (by decide) rfl 46 rfl ?_
          exact XX.sub [1, 2, 3, 0, 4] rfl (B46 _ (fun M v2 v3 v4 v5 hw => ih M v2 v3 v4 v5 hw) M6 v2 v3 (v4 + v5) v5 hw)
  refine q_aload_n hC dX2_turnsOf_0 0 rfl 1 rfl ?_
  refine q_iconst (v := 1) hC dX2_turnsOf_1 rfl 2 rfl ?_
  refine r_callI hC (go_V (q := (RX2, TX2, 14)) (As := [.int 1]) (rest := []) hC (ctX2_ruled (zl z) g M b 1 _ hb hw) 1 gX2_turnsOf_X2_ruled rfl ⟨rfl, rfl⟩ hdV_X2_ruled ⟨Nat.le_of_ble_eq_true rfl, Nat.le_of_ble_eq_true rfl⟩ hb.ob rfl rfl rfl (Nat.le_of_ble_eq_true rfl) dX2_turnsOf_2) 5 rfl (fun r1 M2 hw => ?_)
  refine q_istore_n (L' := [(2, .int r1), (0, .ref (gA g b)), (1, .int v1)]) hC dX2_turnsOf_5 (by decide) rfl 6 rfl ?_
  refine q_aload_n hC dX2_turnsOf_6 1 rfl 7 rfl ?_
  refine q_iconst (v := 2) hC dX2_turnsOf_7 rfl 8 rfl ?_
  refine r_callI hC (go_V (q := (RX2, TX2, 14)) (As := [.int 2]) (rest := []) hC (ctX2_ruled (zl z) g M2 b 2 _ hb hw) 1 gX2_turnsOf_X2_ruled rfl ⟨rfl, rfl⟩ hdV_X2_ruled ⟨Nat.le_of_ble_eq_true rfl, Nat.le_of_ble_eq_true rfl⟩ hb.ob rfl rfl rfl (Nat.le_of_ble_eq_true rfl) dX2_turnsOf_8) 11 rfl (fun r3 M4 hw => ?_)
  refine q_istore_n (L' := [(3, .int r3), (2, .int r1), (0, .ref (gA g b)), (1, .int v1)]) hC dX2_turnsOf_11 (by decide) rfl 12 rfl ?_
  refine q_iconst (v := 0) hC dX2_turnsOf_12 rfl 13 rfl ?_
  refine q_istore (L' := [(4, .int 0), (3, .int r3), (2, .int r1), (0, .ref (gA g b)), (1, .int v1)]) hC dX2_turnsOf_13 (by decide) rfl 15 rfl ?_
  refine q_sipush (v := 1024) hC dX2_turnsOf_15 (by decide) 18 rfl ?_
  refine q_istore (L' := [(5, .int 1024), (4, .int 0), (3, .int r3), (2, .int r1), (0, .ref (gA g b)), (1, .int v1)]) hC dX2_turnsOf_18 (by decide) rfl 20 rfl ?_
  obtain ⟨n0, hw⟩ := hw
  exact XX.sub [5, 3, 2, 1, 0] rfl (B20 n0 M4 r1 r3 0 1024 hw)
theorem hdV_X2_turnsOf : yX2_turnsOf.cls = RX2 ∧ yX2_turnsOf.cls ≠ "java/lang/invoke/MethodHandle" ∧ yX2_turnsOf.cls ≠ "java/lang/invoke/VarHandle" ∧ (parseMethodDescriptor yX2_turnsOf.desc).map (fun d => d.parameters.length) = some 1 := by decide +kernel
set_option maxRecDepth 100000 in
set_option maxHeartbeats 4000000 in
theorem ctX2_rightTurns (l : Launch) (g : GG) (M : MM) (b : Nat) (v1 : Int32) (Q : Int32 → MM → Prop) (hb : tpl g b) (hw : wX2_rightTurns Q M b v1) : MI g l yX2_rightTurns wsX2_rightTurns (rmOf 2 47) [.ref (gA g b), .int v1] M Q := by
  refine mk_MI (cc := cX2_rightTurns) (maxL := 2) (by decide) rfl (Nat.le_of_ble_eq_true rfl) ?_
  intro z Qf hC hR
  show XX z g Qf 2 0 [(0, .ref (gA g b)), (1, .int v1)] [] M
  refine q_aload_n hC dX2_rightTurns_0 0 rfl 1 rfl ?_
  refine q_iload_n hC dX2_rightTurns_1 1 rfl 2 rfl ?_
  refine r_callI hC (go_V (q := (RX2, TX2, 14)) (As := [.int v1]) (rest := []) hC (ctX2_turnsOf (zl z) g M b v1 _ hb hw) 1 gX2_rightTurns_X2_turnsOf rfl ⟨rfl, rfl⟩ hdV_X2_turnsOf ⟨Nat.le_of_ble_eq_true rfl, Nat.le_of_ble_eq_true rfl⟩ hb.ob rfl rfl rfl (Nat.le_of_ble_eq_true rfl) dX2_rightTurns_2) 5 rfl (fun r1 M2 hw => ?_)
  exact r_iret hR dX2_rightTurns_5 hw
set_option maxRecDepth 100000 in
set_option maxHeartbeats 4000000 in
theorem ctX2_leftTurns (l : Launch) (g : GG) (M : MM) (b : Nat) (v1 : Int32) (Q : Int32 → MM → Prop) (hb : tpl g b) (hw : wX2_leftTurns Q M b v1) : MI g l yX2_leftTurns wsX2_leftTurns (rmOf 2 47) [.ref (gA g b), .int v1] M Q := by
  refine mk_MI (cc := cX2_leftTurns) (maxL := 2) (by decide) rfl (Nat.le_of_ble_eq_true rfl) ?_
  intro z Qf hC hR
  show XX z g Qf 2 0 [(0, .ref (gA g b)), (1, .int v1)] [] M
  refine q_aload_n hC dX2_leftTurns_0 0 rfl 1 rfl ?_
  refine q_aload_n hC dX2_leftTurns_1 0 rfl 2 rfl ?_
  refine q_iconst (v := 0) hC dX2_leftTurns_2 rfl 3 rfl ?_
  refine r_callI hC (go_V (q := (RX2, TX2, 14)) (As := [.int 0]) (rest := [.ref (gA g b)]) hC (ctX2_ruled (zl z) g M b 0 _ hb hw) 1 gX2_leftTurns_X2_ruled rfl ⟨rfl, rfl⟩ hdV_X2_ruled ⟨Nat.le_of_ble_eq_true rfl, Nat.le_of_ble_eq_true rfl⟩ hb.ob rfl rfl rfl (Nat.le_of_ble_eq_true rfl) dX2_leftTurns_3) 6 rfl (fun r1 M2 hw => ?_)
  refine q_iload_n hC dX2_leftTurns_6 1 rfl 7 rfl ?_
  refine q_isub hC dX2_leftTurns_7 8 rfl ?_
  refine r_callI hC (go_V (q := (RX2, TX2, 14)) (As := [.int (r1 - v1)]) (rest := []) hC (ctX2_turnsOf (zl z) g M2 b (r1 - v1) _ hb hw) 1 gX2_leftTurns_X2_turnsOf rfl ⟨rfl, rfl⟩ hdV_X2_turnsOf ⟨Nat.le_of_ble_eq_true rfl, Nat.le_of_ble_eq_true rfl⟩ hb.ob rfl rfl rfl (Nat.le_of_ble_eq_true rfl) dX2_leftTurns_8) 11 rfl (fun r3 M4 hw => ?_)
  exact r_iret hR dX2_leftTurns_11 hw
theorem hdV_X2_hasPlace : yX2_hasPlace.cls = RX2 ∧ yX2_hasPlace.cls ≠ "java/lang/invoke/MethodHandle" ∧ yX2_hasPlace.cls ≠ "java/lang/invoke/VarHandle" ∧ (parseMethodDescriptor yX2_hasPlace.desc).map (fun d => d.parameters.length) = some 1 := by decide +kernel
set_option maxRecDepth 100000 in
set_option maxHeartbeats 4000000 in
theorem ctX2_firstShowing (l : Launch) (g : GG) (M : MM) (b : Nat) (v1 : Int32) (Q : Int32 → MM → Prop) (hb : tpl g b) (hw : wX2_firstShowing Q M b v1) : MI g l yX2_firstShowing wsX2_firstShowing (rmOf 2 43) [.ref (gA g b), .int v1] M Q := by
  refine mk_MI (cc := cX2_firstShowing) (maxL := 3) (by decide) rfl (Nat.le_of_ble_eq_true rfl) ?_
  intro z Qf hC hR
  show XX z g Qf 3 0 [(0, .ref (gA g b)), (1, .int v1)] [] M
  refine q_iload_n hC dX2_firstShowing_0 1 rfl 1 rfl ?_
  refine q_aload_n hC dX2_firstShowing_1 0 rfl 2 rfl ?_
  refine q_iconst (v := 0) hC dX2_firstShowing_2 rfl 3 rfl ?_
  refine r_callI hC (go_V (q := (RX2, TX2, 14)) (As := [.int 0]) (rest := [.int v1]) hC (ctX2_ruled (zl z) g M b 0 _ hb hw) 1 gX2_firstShowing_X2_ruled rfl ⟨rfl, rfl⟩ hdV_X2_ruled ⟨Nat.le_of_ble_eq_true rfl, Nat.le_of_ble_eq_true rfl⟩ hb.ob rfl rfl rfl (Nat.le_of_ble_eq_true rfl) dX2_firstShowing_3) 6 rfl (fun r1 M2 hw => ?_)
  refine q_icmp_le hC 12 dX2_firstShowing_6 (by decide) 9 rfl hw (fun hw => ?_) (fun hw => ?_)
  · refine q_iload_n hC dX2_firstShowing_12 1 rfl 13 rfl ?_
    refine q_aload_n hC dX2_firstShowing_13 0 rfl 14 rfl ?_
    refine q_iconst (v := 1) hC dX2_firstShowing_14 rfl 15 rfl ?_
    refine r_callI hC (go_V (q := (RX2, TX2, 14)) (As := [.int 1]) (rest := [.int v1]) hC (ctX2_ruled (zl z) g M2 b 1 _ hb hw) 1 gX2_firstShowing_X2_ruled rfl ⟨rfl, rfl⟩ hdV_X2_ruled ⟨Nat.le_of_ble_eq_true rfl, Nat.le_of_ble_eq_true rfl⟩ hb.ob rfl rfl rfl (Nat.le_of_ble_eq_true rfl) dX2_firstShowing_15) 18 rfl (fun r3 M4 hw => ?_)
    refine q_aload_n hC dX2_firstShowing_18 0 rfl 19 rfl ?_
    refine q_iconst (v := 2) hC dX2_firstShowing_19 rfl 20 rfl ?_
    refine r_callI hC (go_V (q := (RX2, TX2, 14)) (As := [.int 2]) (rest := [.int r3, .int v1]) hC (ctX2_ruled (zl z) g M4 b 2 _ hb hw) 1 gX2_firstShowing_X2_ruled rfl ⟨rfl, rfl⟩ hdV_X2_ruled ⟨Nat.le_of_ble_eq_true rfl, Nat.le_of_ble_eq_true rfl⟩ hb.ob rfl rfl rfl (Nat.le_of_ble_eq_true rfl) dX2_firstShowing_20) 23 rfl (fun r5 M6 hw => ?_)
    refine r_callI hC (go_N (As := [.int v1, .int r3, .int r5]) (rest := []) hC (ctX4_lengthOfTurns (zl z) g M6 v1 r3 r5 _ hw) 3 gX2_firstShowing_X4_lengthOfTurns_n73 rfl ⟨rfl, rfl⟩ 10 rfl (uX2_firstShowing__X2_hasPlace _ (List.mem_of_getElem? (l := owX2_hasPlace) (i := 6) rfl)) (uX2_firstShowing__o _ (List.mem_of_getElem? (l := owX2_firstShowing) (i := 1) rfl)) hdT_X4_lengthOfTurns ⟨Nat.le_of_ble_eq_true rfl, Nat.le_of_ble_eq_true rfl⟩ rfl rfl (Nat.le_of_ble_eq_true rfl) dX2_firstShowing_23) 26 rfl (fun r7 M8 hw => ?_)
    refine q_istore_n (L' := [(2, .int r7), (0, .ref (gA g b)), (1, .int v1)]) hC dX2_firstShowing_26 (by decide) rfl 27 rfl ?_
    refine q_aload_n hC dX2_firstShowing_27 1 rfl 28 rfl ?_
    refine q_iload_n hC dX2_firstShowing_28 0 rfl 29 rfl ?_
    refine r_callI hC (go_V (q := (RX2, TX2, 14)) (As := [.int r7]) (rest := []) hC (ctX2_hasPlace (zl z) g M8 b r7 _ hb hw) 1 gX2_firstShowing_X2_hasPlace rfl ⟨rfl, rfl⟩ hdV_X2_hasPlace ⟨Nat.le_of_ble_eq_true rfl, Nat.le_of_ble_eq_true rfl⟩ hb.ob rfl rfl rfl (Nat.le_of_ble_eq_true rfl) dX2_firstShowing_29) 32 rfl (fun r9 M10 hw => ?_)
    refine q_if_eq hC 39 dX2_firstShowing_32 (by decide) 35 rfl hw (fun hw => ?_) (fun hw => ?_)
    · refine q_bipush (v := (-4)) hC dX2_firstShowing_39 (by decide) 41 rfl ?_
      exact r_iret hR dX2_firstShowing_41 hw
    · refine q_iload_n hC dX2_firstShowing_35 0 rfl 36 rfl ?_
      refine q_goto hC 41 dX2_firstShowing_36 (by decide) ?_
      exact r_iret hR dX2_firstShowing_41 hw
  · refine q_bipush (v := (-4)) hC dX2_firstShowing_9 (by decide) 11 rfl ?_
    exact r_iret hR dX2_firstShowing_11 hw
theorem hdV_X2_firstShowing : yX2_firstShowing.cls = RX2 ∧ yX2_firstShowing.cls ≠ "java/lang/invoke/MethodHandle" ∧ yX2_firstShowing.cls ≠ "java/lang/invoke/VarHandle" ∧ (parseMethodDescriptor yX2_firstShowing.desc).map (fun d => d.parameters.length) = some 1 := by decide +kernel
set_option maxRecDepth 100000 in
set_option maxHeartbeats 4000000 in
theorem ctX2_lastShowing (l : Launch) (g : GG) (M : MM) (b : Nat) (v1 : Int32) (Q : Int32 → MM → Prop) (hb : tpl g b) (hw : wX2_lastShowing Q M b v1) : MI g l yX2_lastShowing wsX2_lastShowing (rmOf 3 65) [.ref (gA g b), .int v1] M Q := by
  refine mk_MI (cc := cX2_lastShowing) (maxL := 2) (by decide) rfl (Nat.le_of_ble_eq_true rfl) ?_
  intro z Qf hC hR
  show XX z g Qf 2 0 [(0, .ref (gA g b)), (1, .int v1)] [] M
  refine q_aload_n hC dX2_lastShowing_0 0 rfl 1 rfl ?_
  refine q_iload_n hC dX2_lastShowing_1 1 rfl 2 rfl ?_
  refine r_callI hC (go_V (q := (RX2, TX2, 14)) (As := [.int v1]) (rest := []) hC (ctX2_firstShowing (zl z) g M b v1 _ hb hw) 1 gX2_lastShowing_X2_firstShowing rfl ⟨rfl, rfl⟩ hdV_X2_firstShowing ⟨Nat.le_of_ble_eq_true rfl, Nat.le_of_ble_eq_true rfl⟩ hb.ob rfl rfl rfl (Nat.le_of_ble_eq_true rfl) dX2_lastShowing_2) 5 rfl (fun r1 M2 hw => ?_)
  refine q_bipush (v := (-4)) hC dX2_lastShowing_5 (by decide) 7 rfl ?_
  refine q_icmp_ne hC 13 dX2_lastShowing_7 (by decide) 10 rfl hw (fun hw => ?_) (fun hw => ?_)
  · refine q_aload_n hC dX2_lastShowing_13 0 rfl 14 rfl ?_
    refine q_iconst (v := 0) hC dX2_lastShowing_14 rfl 15 rfl ?_
    refine r_callI hC (go_V (q := (RX2, TX2, 14)) (As := [.int 0]) (rest := []) hC (ctX2_ruled (zl z) g M2 b 0 _ hb hw) 1 gX2_lastShowing_X2_ruled rfl ⟨rfl, rfl⟩ hdV_X2_ruled ⟨Nat.le_of_ble_eq_true rfl, Nat.le_of_ble_eq_true rfl⟩ hb.ob rfl rfl rfl (Nat.le_of_ble_eq_true rfl) dX2_lastShowing_15) 18 rfl (fun r3 M4 hw => ?_)
    refine q_iload_n hC dX2_lastShowing_18 1 rfl 19 rfl ?_
    refine q_iconst (v := 1) hC dX2_lastShowing_19 rfl 20 rfl ?_
    refine q_iadd hC dX2_lastShowing_20 21 rfl ?_
    refine q_aload_n hC dX2_lastShowing_21 0 rfl 22 rfl ?_
    refine q_iconst (v := 1) hC dX2_lastShowing_22 rfl 23 rfl ?_
    refine r_callI hC (go_V (q := (RX2, TX2, 14)) (As := [.int 1]) (rest := [.int (v1 + (1 : Int32)), .int r3]) hC (ctX2_ruled (zl z) g M4 b 1 _ hb hw) 1 gX2_lastShowing_X2_ruled rfl ⟨rfl, rfl⟩ hdV_X2_ruled ⟨Nat.le_of_ble_eq_true rfl, Nat.le_of_ble_eq_true rfl⟩ hb.ob rfl rfl rfl (Nat.le_of_ble_eq_true rfl) dX2_lastShowing_23) 26 rfl (fun r5 M6 hw => ?_)
    refine q_aload_n hC dX2_lastShowing_26 0 rfl 27 rfl ?_
    refine q_iconst (v := 2) hC dX2_lastShowing_27 rfl 28 rfl ?_
    refine r_callI hC (go_V (q := (RX2, TX2, 14)) (As := [.int 2]) (rest := [.int r5, .int (v1 + (1 : Int32)), .int r3]) hC (ctX2_ruled (zl z) g M6 b 2 _ hb hw) 1 gX2_lastShowing_X2_ruled rfl ⟨rfl, rfl⟩ hdV_X2_ruled ⟨Nat.le_of_ble_eq_true rfl, Nat.le_of_ble_eq_true rfl⟩ hb.ob rfl rfl rfl (Nat.le_of_ble_eq_true rfl) dX2_lastShowing_28) 31 rfl (fun r7 M8 hw => ?_)
    refine r_callI hC (go_N (As := [.int (v1 + (1 : Int32)), .int r5, .int r7]) (rest := [.int r3]) hC (ctX4_lengthOfTurns (zl z) g M8 (v1 + (1 : Int32)) r5 r7 _ hw) 3 gX2_lastShowing_X4_lengthOfTurns_n73 rfl ⟨rfl, rfl⟩ 10 rfl (uX2_lastShowing__X2_hasPlace _ (List.mem_of_getElem? (l := owX2_hasPlace) (i := 6) rfl)) (uX2_lastShowing__X2_firstShowing _ (List.mem_of_getElem? (l := owX2_firstShowing) (i := 1) rfl)) hdT_X4_lengthOfTurns ⟨Nat.le_of_ble_eq_true rfl, Nat.le_of_ble_eq_true rfl⟩ rfl rfl (Nat.le_of_ble_eq_true rfl) dX2_lastShowing_31) 34 rfl (fun r9 M10 hw => ?_)
    refine q_iconst (v := 1) hC dX2_lastShowing_34 rfl 35 rfl ?_
    refine q_isub hC dX2_lastShowing_35 36 rfl ?_
    refine q_mmin hC (uX2_lastShowing__o _ (List.mem_of_getElem? (l := owX2_lastShowing) (i := 1) rfl)) (uX2_lastShowing__o _ (List.mem_of_getElem? (l := owX2_lastShowing) (i := 2) rfl)) (uX2_lastShowing__o _ (List.mem_of_getElem? (l := owX2_lastShowing) (i := 3) rfl)) (uX2_lastShowing__o _ (List.mem_of_getElem? (l := owX2_lastShowing) (i := 4) rfl)) (by decide) (Nat.le_of_ble_eq_true rfl) dX2_lastShowing_36 39 rfl ?_
    exact r_iret hR dX2_lastShowing_39 hw
  · refine q_bipush (v := (-4)) hC dX2_lastShowing_10 (by decide) 12 rfl ?_
    exact r_iret hR dX2_lastShowing_12 hw
theorem hdV_X2_rightTurns : yX2_rightTurns.cls = RX2 ∧ yX2_rightTurns.cls ≠ "java/lang/invoke/MethodHandle" ∧ yX2_rightTurns.cls ≠ "java/lang/invoke/VarHandle" ∧ (parseMethodDescriptor yX2_rightTurns.desc).map (fun d => d.parameters.length) = some 1 := by decide +kernel
theorem hdV_X2_leftTurns : yX2_leftTurns.cls = RX2 ∧ yX2_leftTurns.cls ≠ "java/lang/invoke/MethodHandle" ∧ yX2_leftTurns.cls ≠ "java/lang/invoke/VarHandle" ∧ (parseMethodDescriptor yX2_leftTurns.desc).map (fun d => d.parameters.length) = some 1 := by decide +kernel
set_option maxRecDepth 100000 in
set_option maxHeartbeats 4000000 in
theorem ctX2_meetingPlace (l : Launch) (g : GG) (M : MM) (b : Nat) (Q : Int32 → MM → Prop) (hb : tpl g b) (hw : wX2_meetingPlace Q M b) : MI g l yX2_meetingPlace wsX2_meetingPlace (rmOf 3 68) [.ref (gA g b)] M Q := by
  refine mk_MI (cc := cX2_meetingPlace) (maxL := 5) (by decide) rfl (Nat.le_of_ble_eq_true rfl) ?_
  intro z Qf hC hR
  show XX z g Qf 5 0 [(0, .ref (gA g b))] [] M
  have B54 : ∀ (K10 : MM → Int32 → Int32 → Int32 → Prop) (hK10 : ∀ (M : MM) (v1 : Int32) (v2 : Int32) (v3 : Int32) , K10 M v1 v2 v3 → XX z g Qf 5 10 [(0, .ref (gA g b)), (1, .int v1), (2, .int v2), (3, .int v3)] [] M) (M : MM) (v1 : Int32) (v2 : Int32) (v3 : Int32), wX2_meetingPlace_54 Q K10 b M v1 v2 v3 → XX z g Qf 5 54 [(0, .ref (gA g b)), (1, .int v1), (2, .int v2), (3, .int v3)] [] M := by
    intro K10 hK10 M v1 v2 v3 hw
    refine q_iinc (v := v3 + 1) (L' := [(3, .int (v3 + 1)), (0, .ref (gA g b)), (1, .int v1), (2, .int v2)]) hC dX2_meetingPlace_54 3 rfl rfl (by decide) rfl 57 rfl ?_
    refine q_goto hC 10 dX2_meetingPlace_57 (by decide) ?_
    exact XX.sub [1, 2, 3, 0] rfl (hK10 M v1 v2 (v3 + 1) hw)
  have B10 : ∀ (n : Nat) (M : MM) (v1 : Int32) (v2 : Int32) (v3 : Int32) , wX2_meetingPlace_10 Q b n M v1 v2 v3 → XX z g Qf 5 10 [(0, .ref (gA g b)), (1, .int v1), (2, .int v2), (3, .int v3)] [] M := by
    intro n
    induction n with
    | zero =>
      intro M v1 v2 v3 hw
      exact hw.elim
    | succ n ih =>
      intro M v1 v2 v3 hw
      refine q_iload_n hC dX2_meetingPlace_10 3 rfl 11 rfl ?_
      refine q_bipush (v := 32) hC dX2_meetingPlace_11 (by decide) 13 rfl ?_
      refine q_icmp_ge hC 60 dX2_meetingPlace_13 (by decide) 16 rfl hw (fun hw => ?_) (fun hw => ?_)
      · refine q_iload_n hC dX2_meetingPlace_60 1 rfl 61 rfl ?_
        exact r_iret hR dX2_meetingPlace_61 hw
      · refine q_iload_n hC dX2_meetingPlace_16 1 rfl 17 rfl ?_
        refine q_iload_n hC dX2_meetingPlace_17 2 rfl 18 rfl ?_
        refine q_icmp_ge hC 60 dX2_meetingPlace_18 (by decide) 21 rfl hw (fun hw => ?_) (fun hw => ?_)
        · refine q_iload_n hC dX2_meetingPlace_60 1 rfl 61 rfl ?_
          exact r_iret hR dX2_meetingPlace_61 hw
        · refine q_iload_n hC dX2_meetingPlace_21 1 rfl 22 rfl ?_
          refine q_iload_n hC dX2_meetingPlace_22 2 rfl 23 rfl ?_
          refine q_iadd hC dX2_meetingPlace_23 24 rfl ?_
          refine q_iconst (v := 2) hC dX2_meetingPlace_24 rfl 25 rfl ?_
          refine q_idiv hC dX2_meetingPlace_25 (by decide) 26 rfl ?_
          refine q_nameI (fun x3 ex3 => ?_)
          have hw := hw x3 ex3
          refine q_istore (L' := [(4, .int x3), (0, .ref (gA g b)), (1, .int v1), (2, .int v2), (3, .int v3)]) hC dX2_meetingPlace_26 (by decide) rfl 28 rfl ?_
          refine q_aload_n hC dX2_meetingPlace_28 1 rfl 29 rfl ?_
          refine q_iload hC dX2_meetingPlace_29 0 rfl 31 rfl ?_
          refine r_callI hC (go_V (q := (RX2, TX2, 14)) (As := [.int x3]) (rest := []) hC (ctX2_rightTurns (zl z) g M b x3 _ hb hw) 1 gX2_meetingPlace_X2_rightTurns rfl ⟨rfl, rfl⟩ hdV_X2_rightTurns ⟨Nat.le_of_ble_eq_true rfl, Nat.le_of_ble_eq_true rfl⟩ hb.ob rfl rfl rfl (Nat.le_of_ble_eq_true rfl) dX2_meetingPlace_31) 34 rfl (fun r4 M5 hw => ?_)
          refine q_aload_n hC dX2_meetingPlace_34 1 rfl 35 rfl ?_
          refine q_iload hC dX2_meetingPlace_35 0 rfl 37 rfl ?_
          refine r_callI hC (go_V (q := (RX2, TX2, 14)) (As := [.int x3]) (rest := [.int r4]) hC (ctX2_leftTurns (zl z) g M5 b x3 _ hb hw) 1 gX2_meetingPlace_X2_leftTurns rfl ⟨rfl, rfl⟩ hdV_X2_leftTurns ⟨Nat.le_of_ble_eq_true rfl, Nat.le_of_ble_eq_true rfl⟩ hb.ob rfl rfl rfl (Nat.le_of_ble_eq_true rfl) dX2_meetingPlace_37) 40 rfl (fun r6 M7 hw => ?_)
          refine q_icmp_lt hC 49 dX2_meetingPlace_40 (by decide) 43 rfl hw (fun hw => ?_) (fun hw => ?_)
          · refine q_iload hC dX2_meetingPlace_49 0 rfl 51 rfl ?_
            refine q_iconst (v := 1) hC dX2_meetingPlace_51 rfl 52 rfl ?_
            refine q_iadd hC dX2_meetingPlace_52 53 rfl ?_
            refine q_nameI (fun x8 ex8 => ?_)
            have hw := hw x8 ex8
            refine q_istore_n (L' := [(1, .int x8), (4, .int x3), (0, .ref (gA g b)), (2, .int v2), (3, .int v3)]) hC dX2_meetingPlace_53 (by decide) rfl 54 rfl ?_
            exact XX.sub [2, 0, 3, 4] rfl (B54 _ (fun M v1 v2 v3 hw => ih M v1 v2 v3 hw) M7 x8 v2 v3 hw)
          · refine q_iload hC dX2_meetingPlace_43 0 rfl 45 rfl ?_
            refine q_istore_n (L' := [(2, .int x3), (4, .int x3), (0, .ref (gA g b)), (1, .int v1), (3, .int v3)]) hC dX2_meetingPlace_45 (by decide) rfl 46 rfl ?_
            refine q_goto hC 54 dX2_meetingPlace_46 (by decide) ?_
            exact XX.sub [2, 3, 0, 4] rfl (B54 _ (fun M v1 v2 v3 hw => ih M v1 v2 v3 hw) M7 v1 x3 v3 hw)
  refine q_iconst (v := 0) hC dX2_meetingPlace_0 rfl 1 rfl ?_
  refine q_istore_n (L' := [(1, .int 0), (0, .ref (gA g b))]) hC dX2_meetingPlace_1 (by decide) rfl 2 rfl ?_
  refine q_aload_n hC dX2_meetingPlace_2 1 rfl 3 rfl ?_
  refine q_iconst (v := 0) hC dX2_meetingPlace_3 rfl 4 rfl ?_
  refine r_callI hC (go_V (q := (RX2, TX2, 14)) (As := [.int 0]) (rest := []) hC (ctX2_ruled (zl z) g M b 0 _ hb hw) 1 gX2_meetingPlace_X2_ruled rfl ⟨rfl, rfl⟩ hdV_X2_ruled ⟨Nat.le_of_ble_eq_true rfl, Nat.le_of_ble_eq_true rfl⟩ hb.ob rfl rfl rfl (Nat.le_of_ble_eq_true rfl) dX2_meetingPlace_4) 7 rfl (fun r1 M2 hw => ?_)
  refine q_istore_n (L' := [(2, .int r1), (1, .int 0), (0, .ref (gA g b))]) hC dX2_meetingPlace_7 (by decide) rfl 8 rfl ?_
  refine q_iconst (v := 0) hC dX2_meetingPlace_8 rfl 9 rfl ?_
  refine q_istore_n (L' := [(3, .int 0), (2, .int r1), (1, .int 0), (0, .ref (gA g b))]) hC dX2_meetingPlace_9 (by decide) rfl 10 rfl ?_
  obtain ⟨n0, hw⟩ := hw
  exact XX.sub [3, 2, 1, 0] rfl (B10 n0 M2 0 r1 0 hw)
set_option maxRecDepth 100000 in
set_option maxHeartbeats 4000000 in
theorem ctX2_playedThrough (l : Launch) (g : GG) (M : MM) (b : Nat) (v1 : Int32) (Q : Int32 → MM → Prop) (hb : tpl g b) (hw : wX2_playedThrough Q M b v1) : MI g l yX2_playedThrough wsX2_playedThrough (rmOf 1 21) [.ref (gA g b), .int v1] M Q := by
  refine mk_MI (cc := cX2_playedThrough) (maxL := 2) (by decide) rfl (Nat.le_of_ble_eq_true rfl) ?_
  intro z Qf hC hR
  show XX z g Qf 2 0 [(0, .ref (gA g b)), (1, .int v1)] [] M
  refine q_aload_n hC dX2_playedThrough_0 0 rfl 1 rfl ?_
  refine q_iconst (v := 3) hC dX2_playedThrough_1 rfl 2 rfl ?_
  refine r_callI hC (go_V (q := (RX2, TX2, 14)) (As := [.int 3]) (rest := []) hC (ctX2_ruled (zl z) g M b 3 _ hb hw) 1 gX2_playedThrough_X2_ruled rfl ⟨rfl, rfl⟩ hdV_X2_ruled ⟨Nat.le_of_ble_eq_true rfl, Nat.le_of_ble_eq_true rfl⟩ hb.ob rfl rfl rfl (Nat.le_of_ble_eq_true rfl) dX2_playedThrough_2) 5 rfl (fun r1 M2 hw => ?_)
  refine q_iload_n hC dX2_playedThrough_5 1 rfl 6 rfl ?_
  refine q_imul hC dX2_playedThrough_6 7 rfl ?_
  exact r_iret hR dX2_playedThrough_7 hw
theorem hdV_X2_playedThrough : yX2_playedThrough.cls = RX2 ∧ yX2_playedThrough.cls ≠ "java/lang/invoke/MethodHandle" ∧ yX2_playedThrough.cls ≠ "java/lang/invoke/VarHandle" ∧ (parseMethodDescriptor yX2_playedThrough.desc).map (fun d => d.parameters.length) = some 1 := by decide +kernel
set_option maxRecDepth 100000 in
set_option maxHeartbeats 4000000 in
theorem ctX2_played (l : Launch) (g : GG) (M : MM) (b : Nat) (v1 : Int32) (v2 : Int32) (Q : Int32 → MM → Prop) (hb : tpl g b) (hw : wX2_played Q M b v1 v2) : MI g l yX2_played wsX2_played (rmOf 2 42) [.ref (gA g b), .int v1, .int v2] M Q := by
  refine mk_MI (cc := cX2_played) (maxL := 3) (by decide) rfl (Nat.le_of_ble_eq_true rfl) ?_
  intro z Qf hC hR
  show XX z g Qf 3 0 [(0, .ref (gA g b)), (1, .int v1), (2, .int v2)] [] M
  refine q_iload_n hC dX2_played_0 1 rfl 1 rfl ?_
  refine q_iload_n hC dX2_played_1 2 rfl 2 rfl ?_
  refine q_icmp_ne hC 9 dX2_played_2 (by decide) 5 rfl hw (fun hw => ?_) (fun hw => ?_)
  · refine q_aload_n hC dX2_played_9 0 rfl 10 rfl ?_
    refine q_iconst (v := 5) hC dX2_played_10 rfl 11 rfl ?_
    refine r_callI hC (go_V (q := (RX2, TX2, 14)) (As := [.int 5]) (rest := []) hC (ctX2_ruled (zl z) g M b 5 _ hb hw) 1 gX2_played_X2_ruled rfl ⟨rfl, rfl⟩ hdV_X2_ruled ⟨Nat.le_of_ble_eq_true rfl, Nat.le_of_ble_eq_true rfl⟩ hb.ob rfl rfl rfl (Nat.le_of_ble_eq_true rfl) dX2_played_11) 14 rfl (fun r1 M2 hw => ?_)
    refine q_aload_n hC dX2_played_14 0 rfl 15 rfl ?_
    refine q_iload_n hC dX2_played_15 2 rfl 16 rfl ?_
    refine q_iload_n hC dX2_played_16 1 rfl 17 rfl ?_
    refine q_isub hC dX2_played_17 18 rfl ?_
    refine q_mabs hC (uX2_played__o _ (List.mem_of_getElem? (l := owX2_played) (i := 1) rfl)) (uX2_played__o _ (List.mem_of_getElem? (l := owX2_played) (i := 2) rfl)) (uX2_played__o _ (List.mem_of_getElem? (l := owX2_played) (i := 3) rfl)) (uX2_played__o _ (List.mem_of_getElem? (l := owX2_played) (i := 4) rfl)) (by decide) (Nat.le_of_ble_eq_true rfl) dX2_played_18 21 rfl ?_
    refine r_callI hC (go_V (q := (RX2, TX2, 14)) (As := [.int (if 0 ≤ (v2 - v1) then (v2 - v1) else 0 - (v2 - v1))]) (rest := [.int r1]) hC (ctX2_playedThrough (zl z) g M2 b (if 0 ≤ (v2 - v1) then (v2 - v1) else 0 - (v2 - v1)) _ hb hw) 1 gX2_played_X2_playedThrough rfl ⟨rfl, rfl⟩ hdV_X2_playedThrough ⟨Nat.le_of_ble_eq_true rfl, Nat.le_of_ble_eq_true rfl⟩ hb.ob rfl rfl rfl (Nat.le_of_ble_eq_true rfl) dX2_played_21) 24 rfl (fun r3 M4 hw => ?_)
    refine q_iadd hC dX2_played_24 25 rfl ?_
    exact r_iret hR dX2_played_25 hw
  · refine q_iconst (v := 0) hC dX2_played_5 rfl 6 rfl ?_
    refine q_goto hC 25 dX2_played_6 (by decide) ?_
    exact r_iret hR dX2_played_25 hw
set_option maxRecDepth 100000 in
set_option maxHeartbeats 4000000 in
theorem ctX2_wound (l : Launch) (g : GG) (M : MM) (b : Nat) (v1 : Int32) (v2 : Int32) (Q : Int32 → MM → Prop) (hb : tpl g b) (hw : wX2_wound Q M b v1 v2) : MI g l yX2_wound wsX2_wound (rmOf 2 47) [.ref (gA g b), .int v1, .int v2] M Q := by
  refine mk_MI (cc := cX2_wound) (maxL := 5) (by decide) rfl (Nat.le_of_ble_eq_true rfl) ?_
  intro z Qf hC hR
  show XX z g Qf 5 0 [(0, .ref (gA g b)), (1, .int v1), (2, .int v2)] [] M
  have B47 : ∀ (M : MM) (p0 : Int32), wX2_wound_47 Q b v1 v2 M p0 → XX z g Qf 5 47 [(0, .ref (gA g b))] [.int p0] M := by
    intro M p0 hw
    refine q_istore (L' := [(4, .int p0), (0, .ref (gA g b))]) hC dX2_wound_47 (by decide) rfl 49 rfl ?_
    refine q_iconst (v := 2) hC dX2_wound_49 rfl 50 rfl ?_
    refine q_aload_n hC dX2_wound_50 1 rfl 51 rfl ?_
    refine q_iconst (v := 5) hC dX2_wound_51 rfl 52 rfl ?_
    refine r_callI hC (go_V (q := (RX2, TX2, 14)) (As := [.int 5]) (rest := [.int 2]) hC (ctX2_ruled (zl z) g M b 5 _ hb hw) 1 gX2_wound_X2_ruled rfl ⟨rfl, rfl⟩ hdV_X2_ruled ⟨Nat.le_of_ble_eq_true rfl, Nat.le_of_ble_eq_true rfl⟩ hb.ob rfl rfl rfl (Nat.le_of_ble_eq_true rfl) dX2_wound_52) 55 rfl (fun r11 M12 hw => ?_)
    refine q_imul hC dX2_wound_55 56 rfl ?_
    refine q_aload_n hC dX2_wound_56 1 rfl 57 rfl ?_
    refine q_iconst (v := 4) hC dX2_wound_57 rfl 58 rfl ?_
    refine r_callI hC (go_V (q := (RX2, TX2, 14)) (As := [.int 4]) (rest := [.int ((2 : Int32) * r11)]) hC (ctX2_ruled (zl z) g M12 b 4 _ hb hw) 1 gX2_wound_X2_ruled rfl ⟨rfl, rfl⟩ hdV_X2_ruled ⟨Nat.le_of_ble_eq_true rfl, Nat.le_of_ble_eq_true rfl⟩ hb.ob rfl rfl rfl (Nat.le_of_ble_eq_true rfl) dX2_wound_58) 61 rfl (fun r13 M14 hw => ?_)
    refine q_iload hC dX2_wound_61 0 rfl 63 rfl ?_
    refine q_imul hC dX2_wound_63 64 rfl ?_
    refine q_iadd hC dX2_wound_64 65 rfl ?_
    exact r_iret hR dX2_wound_65 hw
  refine q_iload_n hC dX2_wound_0 1 rfl 1 rfl ?_
  refine q_iload_n hC dX2_wound_1 2 rfl 2 rfl ?_
  refine q_icmp_ne hC 7 dX2_wound_2 (by decide) 5 rfl hw (fun hw => ?_) (fun hw => ?_)
  · refine q_aload_n hC dX2_wound_7 0 rfl 8 rfl ?_
    refine q_iconst (v := 0) hC dX2_wound_8 rfl 9 rfl ?_
    refine r_callI hC (go_V (q := (RX2, TX2, 14)) (As := [.int 0]) (rest := []) hC (ctX2_ruled (zl z) g M b 0 _ hb hw) 1 gX2_wound_X2_ruled rfl ⟨rfl, rfl⟩ hdV_X2_ruled ⟨Nat.le_of_ble_eq_true rfl, Nat.le_of_ble_eq_true rfl⟩ hb.ob rfl rfl rfl (Nat.le_of_ble_eq_true rfl) dX2_wound_9) 12 rfl (fun r1 M2 hw => ?_)
    refine q_istore_n (L' := [(3, .int r1), (0, .ref (gA g b)), (1, .int v1), (2, .int v2)]) hC dX2_wound_12 (by decide) rfl 13 rfl ?_
    refine q_iload_n hC dX2_wound_13 3 rfl 14 rfl ?_
    refine q_iload_n hC dX2_wound_14 2 rfl 15 rfl ?_
    refine q_icmp_le hC 32 dX2_wound_15 (by decide) 18 rfl hw (fun hw => ?_) (fun hw => ?_)
    · refine q_aload_n hC dX2_wound_32 1 rfl 33 rfl ?_
      refine q_iload_n hC dX2_wound_33 0 rfl 34 rfl ?_
      refine q_iload_n hC dX2_wound_34 3 rfl 35 rfl ?_
      refine q_isub hC dX2_wound_35 36 rfl ?_
      refine r_callI hC (go_V (q := (RX2, TX2, 14)) (As := [.int (r1 - v2)]) (rest := []) hC (ctX2_turnsOf (zl z) g M2 b (r1 - v2) _ hb hw) 1 gX2_wound_X2_turnsOf rfl ⟨rfl, rfl⟩ hdV_X2_turnsOf ⟨Nat.le_of_ble_eq_true rfl, Nat.le_of_ble_eq_true rfl⟩ hb.ob rfl rfl rfl (Nat.le_of_ble_eq_true rfl) dX2_wound_36) 39 rfl (fun r3 M4 hw => ?_)
      refine q_aload_n hC dX2_wound_39 1 rfl 40 rfl ?_
      refine q_iload_n hC dX2_wound_40 0 rfl 41 rfl ?_
      refine q_iload_n hC dX2_wound_41 2 rfl 42 rfl ?_
      refine q_isub hC dX2_wound_42 43 rfl ?_
      refine r_callI hC (go_V (q := (RX2, TX2, 14)) (As := [.int (r1 - v1)]) (rest := [.int r3]) hC (ctX2_turnsOf (zl z) g M4 b (r1 - v1) _ hb hw) 1 gX2_wound_X2_turnsOf rfl ⟨rfl, rfl⟩ hdV_X2_turnsOf ⟨Nat.le_of_ble_eq_true rfl, Nat.le_of_ble_eq_true rfl⟩ hb.ob rfl rfl rfl (Nat.le_of_ble_eq_true rfl) dX2_wound_43) 46 rfl (fun r5 M6 hw => ?_)
      refine q_isub hC dX2_wound_46 47 rfl ?_
      exact XX.sub [1] rfl (B47 M6 (r3 - r5) hw)
    · refine q_aload_n hC dX2_wound_18 1 rfl 19 rfl ?_
      refine q_iload_n hC dX2_wound_19 3 rfl 20 rfl ?_
      refine r_callI hC (go_V (q := (RX2, TX2, 14)) (As := [.int v2]) (rest := []) hC (ctX2_turnsOf (zl z) g M2 b v2 _ hb hw) 1 gX2_wound_X2_turnsOf rfl ⟨rfl, rfl⟩ hdV_X2_turnsOf ⟨Nat.le_of_ble_eq_true rfl, Nat.le_of_ble_eq_true rfl⟩ hb.ob rfl rfl rfl (Nat.le_of_ble_eq_true rfl) dX2_wound_20) 23 rfl (fun r7 M8 hw => ?_)
      refine q_aload_n hC dX2_wound_23 1 rfl 24 rfl ?_
      refine q_iload_n hC dX2_wound_24 2 rfl 25 rfl ?_
      refine r_callI hC (go_V (q := (RX2, TX2, 14)) (As := [.int v1]) (rest := [.int r7]) hC (ctX2_turnsOf (zl z) g M8 b v1 _ hb hw) 1 gX2_wound_X2_turnsOf rfl ⟨rfl, rfl⟩ hdV_X2_turnsOf ⟨Nat.le_of_ble_eq_true rfl, Nat.le_of_ble_eq_true rfl⟩ hb.ob rfl rfl rfl (Nat.le_of_ble_eq_true rfl) dX2_wound_25) 28 rfl (fun r9 M10 hw => ?_)
      refine q_isub hC dX2_wound_28 29 rfl ?_
      refine q_goto hC 47 dX2_wound_29 (by decide) ?_
      exact XX.sub [1] rfl (B47 M10 (r7 - r9) hw)
  · refine q_iconst (v := 0) hC dX2_wound_5 rfl 6 rfl ?_
    exact r_iret hR dX2_wound_6 hw
theorem hdV_X2_played : yX2_played.cls = RX2 ∧ yX2_played.cls ≠ "java/lang/invoke/MethodHandle" ∧ yX2_played.cls ≠ "java/lang/invoke/VarHandle" ∧ (parseMethodDescriptor yX2_played.desc).map (fun d => d.parameters.length) = some 2 := by decide +kernel
theorem hdV_X2_wound : yX2_wound.cls = RX2 ∧ yX2_wound.cls ≠ "java/lang/invoke/MethodHandle" ∧ yX2_wound.cls ≠ "java/lang/invoke/VarHandle" ∧ (parseMethodDescriptor yX2_wound.desc).map (fun d => d.parameters.length) = some 2 := by decide +kernel
set_option maxRecDepth 100000 in
set_option maxHeartbeats 4000000 in
theorem ctX2_sooner (l : Launch) (g : GG) (M : MM) (b : Nat) (v1 : Int32) (v2 : Int32) (Q : Int32 → MM → Prop) (hb : tpl g b) (hw : wX2_sooner Q M b v1 v2) : MI g l yX2_sooner wsX2_sooner (rmOf 3 71) [.ref (gA g b), .int v1, .int v2] M Q := by
  refine mk_MI (cc := cX2_sooner) (maxL := 3) (by decide) rfl (Nat.le_of_ble_eq_true rfl) ?_
  intro z Qf hC hR
  show XX z g Qf 3 0 [(0, .ref (gA g b)), (1, .int v1), (2, .int v2)] [] M
  refine q_aload_n hC dX2_sooner_0 0 rfl 1 rfl ?_
  refine q_iload_n hC dX2_sooner_1 1 rfl 2 rfl ?_
  refine q_iload_n hC dX2_sooner_2 2 rfl 3 rfl ?_
  refine r_callI hC (go_V (q := (RX2, TX2, 14)) (As := [.int v1, .int v2]) (rest := []) hC (ctX2_played (zl z) g M b v1 v2 _ hb hw) 2 gX2_sooner_X2_played rfl ⟨rfl, rfl⟩ hdV_X2_played ⟨Nat.le_of_ble_eq_true rfl, Nat.le_of_ble_eq_true rfl⟩ hb.ob rfl rfl rfl (Nat.le_of_ble_eq_true rfl) dX2_sooner_3) 6 rfl (fun r1 M2 hw => ?_)
  refine q_aload_n hC dX2_sooner_6 0 rfl 7 rfl ?_
  refine q_iload_n hC dX2_sooner_7 1 rfl 8 rfl ?_
  refine q_iload_n hC dX2_sooner_8 2 rfl 9 rfl ?_
  refine r_callI hC (go_V (q := (RX2, TX2, 14)) (As := [.int v1, .int v2]) (rest := [.int r1]) hC (ctX2_wound (zl z) g M2 b v1 v2 _ hb hw) 2 gX2_sooner_X2_wound rfl ⟨rfl, rfl⟩ hdV_X2_wound ⟨Nat.le_of_ble_eq_true rfl, Nat.le_of_ble_eq_true rfl⟩ hb.ob rfl rfl rfl (Nat.le_of_ble_eq_true rfl) dX2_sooner_9) 12 rfl (fun r3 M4 hw => ?_)
  refine q_mmin hC (uX2_sooner__o _ (List.mem_of_getElem? (l := owX2_sooner) (i := 1) rfl)) (uX2_sooner__o _ (List.mem_of_getElem? (l := owX2_sooner) (i := 2) rfl)) (uX2_sooner__X2_played _ (List.mem_of_getElem? (l := owX2_played) (i := 3) rfl)) (uX2_sooner__o _ (List.mem_of_getElem? (l := owX2_sooner) (i := 3) rfl)) (by decide) (Nat.le_of_ble_eq_true rfl) dX2_sooner_12 15 rfl ?_
  exact r_iret hR dX2_sooner_15 hw
theorem hdV_X2_sooner : yX2_sooner.cls = RX2 ∧ yX2_sooner.cls ≠ "java/lang/invoke/MethodHandle" ∧ yX2_sooner.cls ≠ "java/lang/invoke/VarHandle" ∧ (parseMethodDescriptor yX2_sooner.desc).map (fun d => d.parameters.length) = some 2 := by decide +kernel
theorem inX2_goTo_X2 : ∀ w ∈ u_ws RX2 TX2 14, w ∈ wsX2_goTo := uX2_goTo__wsX20
set_option maxRecDepth 100000 in
set_option maxHeartbeats 4000000 in
theorem ctX2_goTo (l : Launch) (g : GG) (M : MM) (b : Nat) (v1 : Int32) (Q : Int32 → MM → Prop) (hb : tpl g b) (hw : wX2_goTo Q M b v1) : MI g l yX2_goTo wsX2_goTo (rmOf 4 93) [.ref (gA g b), .int v1] M Q := by
  refine mk_MI (cc := cX2_goTo) (maxL := 3) (by decide) rfl (Nat.le_of_ble_eq_true rfl) ?_
  intro z Qf hC hR
  show XX z g Qf 3 0 [(0, .ref (gA g b)), (1, .int v1)] [] M
  refine q_aload_n hC dX2_goTo_0 0 rfl 1 rfl ?_
  refine q_aload_n hC dX2_goTo_1 0 rfl 2 rfl ?_
  refine q_getI (C := RX2) (T := TX2) (N := 14) (ci := 2) hC inX2_goTo_X2 hb.ob rfl 9 (by decide) (uX2_goTo__o _ (List.mem_of_getElem? (l := owX2_goTo) (i := 1) rfl)) rfl (fun _ => rfl) dX2_goTo_2 5 rfl ?_
  refine q_iload_n hC dX2_goTo_5 1 rfl 6 rfl ?_
  refine r_callI hC (go_V (q := (RX2, TX2, 14)) (As := [.int (M b 9), .int v1]) (rest := []) hC (ctX2_sooner (zl z) g M b (M b 9) v1 _ hb hw) 2 gX2_goTo_X2_sooner rfl ⟨rfl, rfl⟩ hdV_X2_sooner ⟨Nat.le_of_ble_eq_true rfl, Nat.le_of_ble_eq_true rfl⟩ hb.ob rfl rfl rfl (Nat.le_of_ble_eq_true rfl) dX2_goTo_6) 9 rfl (fun r1 M2 hw => ?_)
  refine q_istore_n (L' := [(2, .int r1), (0, .ref (gA g b)), (1, .int v1)]) hC dX2_goTo_9 (by decide) rfl 10 rfl ?_
  refine q_aload_n hC dX2_goTo_10 1 rfl 11 rfl ?_
  refine q_iload_n hC dX2_goTo_11 2 rfl 12 rfl ?_
  refine q_putI (C := RX2) (T := TX2) (N := 14) (ci := 2) hC inX2_goTo_X2 tyX2 tyX2_ok nmX2 hb.ob rfl 9 (by decide) (uX2_goTo__o _ (List.mem_of_getElem? (l := owX2_goTo) (i := 1) rfl)) rfl rfl rfl (fun _ => Nat.le_of_ble_eq_true rfl) (fun _ => rfl) dX2_goTo_12 15 rfl (fun M3 eM3 => ?_)
  have hw := hw M3 eM3
  refine q_aload_n hC dX2_goTo_15 1 rfl 16 rfl ?_
  refine q_dup hC dX2_goTo_16 rfl 17 rfl ?_
  refine q_getI (C := RX2) (T := TX2) (N := 14) (ci := 2) hC inX2_goTo_X2 hb.ob rfl 10 (by decide) (uX2_goTo__o _ (List.mem_of_getElem? (l := owX2_goTo) (i := 2) rfl)) rfl (fun _ => rfl) dX2_goTo_17 20 rfl ?_
  refine q_iload_n hC dX2_goTo_20 0 rfl 21 rfl ?_
  refine q_iadd hC dX2_goTo_21 22 rfl ?_
  refine q_putI (C := RX2) (T := TX2) (N := 14) (ci := 2) hC inX2_goTo_X2 tyX2 tyX2_ok nmX2 hb.ob rfl 10 (by decide) (uX2_goTo__o _ (List.mem_of_getElem? (l := owX2_goTo) (i := 2) rfl)) rfl rfl rfl (fun _ => Nat.le_of_ble_eq_true rfl) (fun _ => rfl) dX2_goTo_22 25 rfl (fun M4 eM4 => ?_)
  have hw := hw M4 eM4
  refine q_iload_n hC dX2_goTo_25 0 rfl 26 rfl ?_
  exact r_iret hR dX2_goTo_26 hw
theorem inX2_reach_X2 : ∀ w ∈ u_ws RX2 TX2 14, w ∈ wsX2_reach := uX2_reach__wsX20
set_option maxRecDepth 100000 in
set_option maxHeartbeats 4000000 in
theorem ctX2_reach (l : Launch) (g : GG) (M : MM) (b : Nat) (v1 : Int32) (v2 : Int32) (v3 : Int32) (Q : Int32 → MM → Prop) (hb : tpl g b) (hw : wX2_reach Q M b v1 v2 v3) : MI g l yX2_reach wsX2_reach (rmOf 4 93) [.ref (gA g b), .int v1, .int v2, .int v3] M Q := by
  refine mk_MI (cc := cX2_reach) (maxL := 8) (by decide) rfl (Nat.le_of_ble_eq_true rfl) ?_
  intro z Qf hC hR
  show XX z g Qf 8 0 [(0, .ref (gA g b)), (1, .int v1), (2, .int v2), (3, .int v3)] [] M
  have B68 : ∀ (K9 : MM → Int32 → Int32 → Int32 → Prop) (hK9 : ∀ (M : MM) (v4 : Int32) (v5 : Int32) (v6 : Int32) , K9 M v4 v5 v6 → XX z g Qf 8 9 [(0, .ref (gA g b)), (1, .int v1), (3, .int v3), (4, .int v4), (5, .int v5), (6, .int v6)] [] M) (M : MM) (v4 : Int32) (v5 : Int32) (v6 : Int32), wX2_reach_68 Q K9 b v1 v2 v3 M v4 v5 v6 → XX z g Qf 8 68 [(0, .ref (gA g b)), (1, .int v1), (3, .int v3), (4, .int v4), (5, .int v5), (6, .int v6)] [] M := by
    intro K9 hK9 M v4 v5 v6 hw
    refine q_iinc (v := v6 + 1) (L' := [(6, .int (v6 + 1)), (0, .ref (gA g b)), (1, .int v1), (3, .int v3), (4, .int v4), (5, .int v5)]) hC dX2_reach_68 5 rfl rfl (by decide) rfl 71 rfl ?_
    refine q_goto hC 9 dX2_reach_71 (by decide) ?_
    exact XX.sub [1, 2, 3, 4, 5, 0] rfl (hK9 M v4 v5 (v6 + 1) hw)
  have B9 : ∀ (n : Nat) (M : MM) (v4 : Int32) (v5 : Int32) (v6 : Int32) , wX2_reach_9 Q b v1 v2 v3 n M v4 v5 v6 → XX z g Qf 8 9 [(0, .ref (gA g b)), (1, .int v1), (3, .int v3), (4, .int v4), (5, .int v5), (6, .int v6)] [] M := by
    intro n
    induction n with
    | zero =>
      intro M v4 v5 v6 hw
      exact hw.elim
    | succ n ih =>
      intro M v4 v5 v6 hw
      refine q_iload hC dX2_reach_9 5 rfl 11 rfl ?_
      refine q_bipush (v := 32) hC dX2_reach_11 (by decide) 13 rfl ?_
      refine q_icmp_ge hC 74 dX2_reach_13 (by decide) 16 rfl hw (fun hw => ?_) (fun hw => ?_)
      · refine q_iload hC dX2_reach_74 3 rfl 76 rfl ?_
        exact r_iret hR dX2_reach_76 hw
      · refine q_iload hC dX2_reach_16 3 rfl 18 rfl ?_
        refine q_iload hC dX2_reach_18 4 rfl 20 rfl ?_
        refine q_icmp_ge hC 74 dX2_reach_20 (by decide) 23 rfl hw (fun hw => ?_) (fun hw => ?_)
        · refine q_iload hC dX2_reach_74 3 rfl 76 rfl ?_
          exact r_iret hR dX2_reach_76 hw
        · refine q_iload hC dX2_reach_23 3 rfl 25 rfl ?_
          refine q_iload hC dX2_reach_25 4 rfl 27 rfl ?_
          refine q_iadd hC dX2_reach_27 28 rfl ?_
          refine q_iconst (v := 1) hC dX2_reach_28 rfl 29 rfl ?_
          refine q_iadd hC dX2_reach_29 30 rfl ?_
          refine q_iconst (v := 2) hC dX2_reach_30 rfl 31 rfl ?_
          refine q_idiv hC dX2_reach_31 (by decide) 32 rfl ?_
          refine q_nameI (fun x1 ex1 => ?_)
          have hw := hw x1 ex1
          refine q_istore (L' := [(7, .int x1), (0, .ref (gA g b)), (1, .int v1), (3, .int v3), (4, .int v4), (5, .int v5), (6, .int v6)]) hC dX2_reach_32 (by decide) rfl 34 rfl ?_
          refine q_aload_n hC dX2_reach_34 1 rfl 35 rfl ?_
          refine q_aload_n hC dX2_reach_35 1 rfl 36 rfl ?_
          refine q_getI (C := RX2) (T := TX2) (N := 14) (ci := 2) hC inX2_reach_X2 hb.ob rfl 9 (by decide) (uX2_reach__o _ (List.mem_of_getElem? (l := owX2_reach) (i := 1) rfl)) rfl (fun _ => rfl) dX2_reach_36 39 rfl ?_
          refine q_aload_n hC dX2_reach_39 1 rfl 40 rfl ?_
          refine q_getI (C := RX2) (T := TX2) (N := 14) (ci := 2) hC inX2_reach_X2 hb.ob rfl 9 (by decide) (uX2_reach__o _ (List.mem_of_getElem? (l := owX2_reach) (i := 1) rfl)) rfl (fun _ => rfl) dX2_reach_40 43 rfl ?_
          refine q_iload_n hC dX2_reach_43 3 rfl 44 rfl ?_
          refine q_iload hC dX2_reach_44 0 rfl 46 rfl ?_
          refine q_imul hC dX2_reach_46 47 rfl ?_
          refine q_iadd hC dX2_reach_47 48 rfl ?_
          refine r_callI hC (go_V (q := (RX2, TX2, 14)) (As := [.int (M b 9), .int ((M b 9) + (v3 * x1))]) (rest := []) hC (ctX2_sooner (zl z) g M b (M b 9) ((M b 9) + (v3 * x1)) _ hb hw) 2 gX2_reach_X2_sooner rfl ⟨rfl, rfl⟩ hdV_X2_sooner ⟨Nat.le_of_ble_eq_true rfl, Nat.le_of_ble_eq_true rfl⟩ hb.ob rfl rfl rfl (Nat.le_of_ble_eq_true rfl) dX2_reach_48) 51 rfl (fun r2 M3 hw => ?_)
          refine q_iload_n hC dX2_reach_51 2 rfl 52 rfl ?_
          refine q_icmp_gt hC 62 dX2_reach_52 (by decide) 55 rfl hw (fun hw => ?_) (fun hw => ?_)
          · refine q_iload hC dX2_reach_62 0 rfl 64 rfl ?_
            refine q_iconst (v := 1) hC dX2_reach_64 rfl 65 rfl ?_
            refine q_isub hC dX2_reach_65 66 rfl ?_
            refine q_nameI (fun x4 ex4 => ?_)
            have hw := hw x4 ex4
            refine q_istore (L' := [(5, .int x4), (7, .int x1), (0, .ref (gA g b)), (1, .int v1), (3, .int v3), (4, .int v4), (6, .int v6)]) hC dX2_reach_66 (by decide) rfl 68 rfl ?_
            exact XX.sub [2, 3, 4, 5, 0, 6] rfl (B68 _ (fun M v4 v5 v6 hw => ih M v4 v5 v6 hw) M3 v4 x4 v6 hw)
          · refine q_iload hC dX2_reach_55 0 rfl 57 rfl ?_
            refine q_istore (L' := [(4, .int x1), (7, .int x1), (0, .ref (gA g b)), (1, .int v1), (3, .int v3), (5, .int v5), (6, .int v6)]) hC dX2_reach_57 (by decide) rfl 59 rfl ?_
            refine q_goto hC 68 dX2_reach_59 (by decide) ?_
            exact XX.sub [2, 3, 4, 0, 5, 6] rfl (B68 _ (fun M v4 v5 v6 hw => ih M v4 v5 v6 hw) M3 x1 v5 v6 hw)
  refine q_iconst (v := 0) hC dX2_reach_0 rfl 1 rfl ?_
  refine q_istore (L' := [(4, .int 0), (0, .ref (gA g b)), (1, .int v1), (2, .int v2), (3, .int v3)]) hC dX2_reach_1 (by decide) rfl 3 rfl ?_
  refine q_iload_n hC dX2_reach_3 3 rfl 4 rfl ?_
  refine q_istore (L' := [(5, .int v2), (4, .int 0), (0, .ref (gA g b)), (1, .int v1), (2, .int v2), (3, .int v3)]) hC dX2_reach_4 (by decide) rfl 6 rfl ?_
  refine q_iconst (v := 0) hC dX2_reach_6 rfl 7 rfl ?_
  refine q_istore (L' := [(6, .int 0), (5, .int v2), (4, .int 0), (0, .ref (gA g b)), (1, .int v1), (2, .int v2), (3, .int v3)]) hC dX2_reach_7 (by decide) rfl 9 rfl ?_
  obtain ⟨n0, hw⟩ := hw
  exact XX.sub [3, 4, 6, 2, 1, 0] rfl (B9 n0 M 0 v2 0 hw)
theorem inX2_hasBlock_X2 : ∀ w ∈ u_ws RX2 TX2 14, w ∈ wsX2_hasBlock := uX2_hasBlock__wsX20
set_option maxRecDepth 100000 in
set_option maxHeartbeats 4000000 in
theorem ctX2_hasBlock (l : Launch) (g : GG) (M : MM) (b : Nat) (v1 : Int32) (Q : Int32 → MM → Prop) (hb : tpl g b) (hw : wX2_hasBlock Q M b v1) : MI g l yX2_hasBlock wsX2_hasBlock (rmOf 1 22) [.ref (gA g b), .int v1] M Q := by
  refine mk_MZ (cc := cX2_hasBlock) (maxL := 2) (by decide) rfl (Nat.le_of_ble_eq_true rfl) ?_
  intro z Qf hC hR
  show XX z g Qf 2 0 [(0, .ref (gA g b)), (1, .int v1)] [] M
  refine q_iload_n hC dX2_hasBlock_0 1 rfl 1 rfl ?_
  refine q_iconst (v := 0) hC dX2_hasBlock_1 rfl 2 rfl ?_
  refine q_aload_n hC dX2_hasBlock_2 0 rfl 3 rfl ?_
  refine q_getI (C := RX2) (T := TX2) (N := 14) (ci := 2) hC inX2_hasBlock_X2 hb.ob rfl 8 (by decide) (uX2_hasBlock__o _ (List.mem_of_getElem? (l := owX2_hasBlock) (i := 1) rfl)) rfl (fun _ => rfl) dX2_hasBlock_3 6 rfl ?_
  refine q_iconst (v := 1) hC dX2_hasBlock_6 rfl 7 rfl ?_
  refine q_isub hC dX2_hasBlock_7 8 rfl ?_
  refine r_callI hC (go_N (As := [.int v1, .int 0, .int ((M b 8) - (1 : Int32))]) (rest := []) hC (ctX4_isBetween (zl z) g M v1 0 ((M b 8) - (1 : Int32)) _ hw) 3 gX2_hasBlock_X4_isBetween_n69 rfl ⟨rfl, rfl⟩ 9 rfl (uX2_hasBlock__o _ (List.mem_of_getElem? (l := owX2_hasBlock) (i := 3) rfl)) (uX2_hasBlock__o _ (List.mem_of_getElem? (l := owX2_hasBlock) (i := 2) rfl)) hdT_X4_isBetween ⟨Nat.le_of_ble_eq_true rfl, Nat.le_of_ble_eq_true rfl⟩ rfl rfl (Nat.le_of_ble_eq_true rfl) dX2_hasBlock_8) 11 rfl (fun r1 M2 hw => ?_)
  exact r_iret hR dX2_hasBlock_11 hw
theorem inX2_hasAllOf_X2 : ∀ w ∈ u_ws RX2 TX2 14, w ∈ wsX2_hasAllOf := uX2_hasAllOf__wsX20
set_option maxRecDepth 100000 in
set_option maxHeartbeats 4000000 in
theorem ctX2_hasAllOf (l : Launch) (g : GG) (M : MM) (b : Nat) (v1 : Int32) (Q : Int32 → MM → Prop) (hb : tpl g b) (hw : wX2_hasAllOf Q M b v1) : MI g l yX2_hasAllOf wsX2_hasAllOf (rmOf 0 0) [.ref (gA g b), .int v1] M Q := by
  refine mk_MZ (cc := cX2_hasAllOf) (maxL := 2) (by decide) rfl (Nat.le_of_ble_eq_true rfl) ?_
  intro z Qf hC hR
  show XX z g Qf 2 0 [(0, .ref (gA g b)), (1, .int v1)] [] M
  refine q_iload_n hC dX2_hasAllOf_0 1 rfl 1 rfl ?_
  refine q_aload_n hC dX2_hasAllOf_1 0 rfl 2 rfl ?_
  refine q_getI (C := RX2) (T := TX2) (N := 14) (ci := 2) hC inX2_hasAllOf_X2 hb.ob rfl 8 (by decide) (uX2_hasAllOf__o _ (List.mem_of_getElem? (l := owX2_hasAllOf) (i := 1) rfl)) rfl (fun _ => rfl) dX2_hasAllOf_2 5 rfl ?_
  refine q_iushr hC dX2_hasAllOf_5 6 rfl ?_
  refine q_if_ne hC 13 dX2_hasAllOf_6 (by decide) 9 rfl hw (fun hw => ?_) (fun hw => ?_)
  · refine q_iconst (v := 0) hC dX2_hasAllOf_13 rfl 14 rfl ?_
    exact r_iret hR dX2_hasAllOf_14 ⟨nb_0, hw⟩
  · refine q_iconst (v := 1) hC dX2_hasAllOf_9 rfl 10 rfl ?_
    refine q_goto hC 14 dX2_hasAllOf_10 (by decide) ?_
    exact r_iret hR dX2_hasAllOf_14 ⟨nb_1, hw⟩
set_option maxRecDepth 100000 in
set_option maxHeartbeats 4000000 in
theorem ctX4_cell (l : Launch) (g : GG) (M : MM) (k0 : Nat) (v1 : Int32) (Q : Int32 → MM → Prop) (hk0 : isI g k0) (hw : wX4_cell Q M k0 v1) : MI g l yX4_cell wsX4_cell (rmOf 0 0) [.ref (gA g k0), .int v1] M Q := by
  refine mk_MI (cc := cX4_cell) (maxL := 2) (by decide) rfl (Nat.le_of_ble_eq_true rfl) ?_
  intro z Qf hC hR
  show XX z g Qf 2 0 [(0, .ref (gA g k0)), (1, .int v1)] [] M
  have B20 : ∀ (M : MM), wX4_cell_20 Q k0 v1 M → XX z g Qf 2 20 [] [] M := by
    intro M hw
    refine q_iconst (v := 0) hC dX4_cell_20 rfl 21 rfl ?_
    exact r_iret hR dX4_cell_21 hw
  refine q_aload_n hC dX4_cell_0 0 rfl 1 rfl ?_
  refine q_ifnull hC dX4_cell_1 4 rfl ?_
  refine q_iload_n hC dX4_cell_4 1 rfl 5 rfl ?_
  refine q_if_lt hC 20 dX4_cell_5 (by decide) 8 rfl hw (fun hw => ?_) (fun hw => ?_)
  · exact XX.sub [] rfl (B20 M hw)
  · refine q_iload_n hC dX4_cell_8 1 rfl 9 rfl ?_
    refine q_aload_n hC dX4_cell_9 0 rfl 10 rfl ?_
    refine q_alen hC hk0 dX4_cell_10 11 rfl ?_
    refine q_icmp_ge hC 20 dX4_cell_11 (by decide) 14 rfl hw (fun hw => ?_) (fun hw => ?_)
    · exact XX.sub [] rfl (B20 M hw)
    · refine q_aload_n hC dX4_cell_14 0 rfl 15 rfl ?_
      refine q_iload_n hC dX4_cell_15 1 rfl 16 rfl ?_
      obtain ⟨hin, hw⟩ := hw
      refine q_iald hC hk0 hin dX4_cell_16 17 rfl ?_
      refine q_goto hC 21 dX4_cell_17 (by decide) ?_
      exact r_iret hR dX4_cell_21 hw
set_option maxRecDepth 100000 in
set_option maxHeartbeats 4000000 in
theorem ctX4_cell_s (l : Launch) (g : GG) (M : MM) (k0 : Nat) (v1 : Int32) (Q : Int32 → MM → Prop) (hk0 : k0 < 3) (hw : wX4_cell_s Q M k0 v1) : MI g l yX4_cell wsX4_cell (rmOf 0 0) [.ref (gS g k0), .int v1] M Q := by
  refine mk_MI (cc := cX4_cell) (maxL := 2) (by decide) rfl (Nat.le_of_ble_eq_true rfl) ?_
  intro z Qf hC hR
  show XX z g Qf 2 0 [(0, .ref (gS g k0)), (1, .int v1)] [] M
  have B20 : ∀ (M : MM), wX4_cell_s_20 Q k0 v1 M → XX z g Qf 2 20 [] [] M := by
    intro M hw
    refine q_iconst (v := 0) hC dX4_cell_20 rfl 21 rfl ?_
    exact r_iret hR dX4_cell_21 hw
  refine q_aload_n hC dX4_cell_0 0 rfl 1 rfl ?_
  refine q_ifnull hC dX4_cell_1 4 rfl ?_
  refine q_iload_n hC dX4_cell_4 1 rfl 5 rfl ?_
  refine q_if_lt hC 20 dX4_cell_5 (by decide) 8 rfl hw (fun hw => ?_) (fun hw => ?_)
  · exact XX.sub [] rfl (B20 M hw)
  · refine q_iload_n hC dX4_cell_8 1 rfl 9 rfl ?_
    refine q_aload_n hC dX4_cell_9 0 rfl 10 rfl ?_
    refine q_tlen hC k0 hk0 dX4_cell_10 11 rfl ?_
    refine q_icmp_ge hC 20 dX4_cell_11 (by decide) 14 rfl hw (fun hw => ?_) (fun hw => ?_)
    · exact XX.sub [] rfl (B20 M hw)
    · refine q_aload_n hC dX4_cell_14 0 rfl 15 rfl ?_
      refine q_iload_n hC dX4_cell_15 1 rfl 16 rfl ?_
      obtain ⟨hin, hw⟩ := hw
      refine q_ti hC k0 hk0 hin dX4_cell_16 17 rfl ?_
      refine q_goto hC 21 dX4_cell_17 (by decide) ?_
      exact r_iret hR dX4_cell_21 hw
theorem hdT_X4_cell : yX4_cell.cls ≠ "java/lang/invoke/MethodHandle" ∧ yX4_cell.cls ≠ "java/lang/invoke/VarHandle" ∧ (parseMethodDescriptor yX4_cell.desc).map (fun d => d.parameters.length) = some 2 := by decide +kernel
theorem inX2_beginOf_X2 : ∀ w ∈ u_ws RX2 TX2 14, w ∈ wsX2_beginOf := uX2_beginOf__wsX20
set_option maxRecDepth 100000 in
set_option maxHeartbeats 4000000 in
theorem ctX2_beginOf (l : Launch) (g : GG) (M : MM) (b : Nat) (v1 : Int32) (Q : Int32 → MM → Prop) (hb : tpl g b) (hw : wX2_beginOf Q M b v1) : MI g l yX2_beginOf wsX2_beginOf (rmOf 1 21) [.ref (gA g b), .int v1] M Q := by
  refine mk_MI (cc := cX2_beginOf) (maxL := 2) (by decide) rfl (Nat.le_of_ble_eq_true rfl) ?_
  intro z Qf hC hR
  show XX z g Qf 2 0 [(0, .ref (gA g b)), (1, .int v1)] [] M
  refine q_aload_n hC dX2_beginOf_0 0 rfl 1 rfl ?_
  refine q_getR (C := RX2) (T := TX2) (N := 14) (ci := 2) hC inX2_beginOf_X2 hb.ob rfl 1 (by decide) (uX2_beginOf__o _ (List.mem_of_getElem? (l := owX2_beginOf) (i := 1) rfl)) rfl (b + 2) (fun _ => rfl) dX2_beginOf_1 4 rfl ?_
  refine q_iload_n hC dX2_beginOf_4 1 rfl 5 rfl ?_
  refine r_callI hC (go_N (As := [.ref (gA g (b + 2)), .int v1]) (rest := []) hC (ctX4_cell (zl z) g M (b + 2) v1 _ (hb.ar 2 (by decide) (by decide)) hw) 2 gX2_beginOf_X4_cell_n114 rfl ⟨rfl, rfl⟩ 5 rfl (uX2_beginOf__o _ (List.mem_of_getElem? (l := owX2_beginOf) (i := 3) rfl)) (uX2_beginOf__o _ (List.mem_of_getElem? (l := owX2_beginOf) (i := 2) rfl)) hdT_X4_cell ⟨Nat.le_of_ble_eq_true rfl, Nat.le_of_ble_eq_true rfl⟩ rfl rfl (Nat.le_of_ble_eq_true rfl) dX2_beginOf_5) 8 rfl (fun r1 M2 hw => ?_)
  exact r_iret hR dX2_beginOf_8 hw
theorem inX2_sizeOf_X2 : ∀ w ∈ u_ws RX2 TX2 14, w ∈ wsX2_sizeOf := uX2_sizeOf__wsX20
set_option maxRecDepth 100000 in
set_option maxHeartbeats 4000000 in
theorem ctX2_sizeOf (l : Launch) (g : GG) (M : MM) (b : Nat) (v1 : Int32) (Q : Int32 → MM → Prop) (hb : tpl g b) (hw : wX2_sizeOf Q M b v1) : MI g l yX2_sizeOf wsX2_sizeOf (rmOf 1 21) [.ref (gA g b), .int v1] M Q := by
  refine mk_MI (cc := cX2_sizeOf) (maxL := 2) (by decide) rfl (Nat.le_of_ble_eq_true rfl) ?_
  intro z Qf hC hR
  show XX z g Qf 2 0 [(0, .ref (gA g b)), (1, .int v1)] [] M
  refine q_aload_n hC dX2_sizeOf_0 0 rfl 1 rfl ?_
  refine q_getR (C := RX2) (T := TX2) (N := 14) (ci := 2) hC inX2_sizeOf_X2 hb.ob rfl 2 (by decide) (uX2_sizeOf__o _ (List.mem_of_getElem? (l := owX2_sizeOf) (i := 1) rfl)) rfl (b + 3) (fun _ => rfl) dX2_sizeOf_1 4 rfl ?_
  refine q_iload_n hC dX2_sizeOf_4 1 rfl 5 rfl ?_
  refine r_callI hC (go_N (As := [.ref (gA g (b + 3)), .int v1]) (rest := []) hC (ctX4_cell (zl z) g M (b + 3) v1 _ (hb.ar 3 (by decide) (by decide)) hw) 2 gX2_sizeOf_X4_cell_n114 rfl ⟨rfl, rfl⟩ 5 rfl (uX2_sizeOf__o _ (List.mem_of_getElem? (l := owX2_sizeOf) (i := 3) rfl)) (uX2_sizeOf__o _ (List.mem_of_getElem? (l := owX2_sizeOf) (i := 2) rfl)) hdT_X4_cell ⟨Nat.le_of_ble_eq_true rfl, Nat.le_of_ble_eq_true rfl⟩ rfl rfl (Nat.le_of_ble_eq_true rfl) dX2_sizeOf_5) 8 rfl (fun r1 M2 hw => ?_)
  exact r_iret hR dX2_sizeOf_8 hw
theorem hdV_X2_sizeOf : yX2_sizeOf.cls = RX2 ∧ yX2_sizeOf.cls ≠ "java/lang/invoke/MethodHandle" ∧ yX2_sizeOf.cls ≠ "java/lang/invoke/VarHandle" ∧ (parseMethodDescriptor yX2_sizeOf.desc).map (fun d => d.parameters.length) = some 1 := by decide +kernel
set_option maxRecDepth 100000 in
set_option maxHeartbeats 4000000 in
theorem ctX2_isMark (l : Launch) (g : GG) (M : MM) (b : Nat) (v1 : Int32) (Q : Int32 → MM → Prop) (hb : tpl g b) (hw : wX2_isMark Q M b v1) : MI g l yX2_isMark wsX2_isMark (rmOf 2 42) [.ref (gA g b), .int v1] M Q := by
  refine mk_MZ (cc := cX2_isMark) (maxL := 2) (by decide) rfl (Nat.le_of_ble_eq_true rfl) ?_
  intro z Qf hC hR
  show XX z g Qf 2 0 [(0, .ref (gA g b)), (1, .int v1)] [] M
  refine q_aload_n hC dX2_isMark_0 0 rfl 1 rfl ?_
  refine q_iload_n hC dX2_isMark_1 1 rfl 2 rfl ?_
  refine r_callI hC (go_V (q := (RX2, TX2, 14)) (As := [.int v1]) (rest := []) hC (ctX2_sizeOf (zl z) g M b v1 _ hb hw) 1 gX2_isMark_X2_sizeOf rfl ⟨rfl, rfl⟩ hdV_X2_sizeOf ⟨Nat.le_of_ble_eq_true rfl, Nat.le_of_ble_eq_true rfl⟩ hb.ob rfl rfl rfl (Nat.le_of_ble_eq_true rfl) dX2_isMark_2) 5 rfl (fun r1 M2 hw => ?_)
  refine q_if_ne hC 12 dX2_isMark_5 (by decide) 8 rfl hw (fun hw => ?_) (fun hw => ?_)
  · refine q_iconst (v := 0) hC dX2_isMark_12 rfl 13 rfl ?_
    exact r_iret hR dX2_isMark_13 ⟨nb_0, hw⟩
  · refine q_iconst (v := 1) hC dX2_isMark_8 rfl 9 rfl ?_
    refine q_goto hC 13 dX2_isMark_9 (by decide) ?_
    exact r_iret hR dX2_isMark_13 ⟨nb_1, hw⟩
set_option maxRecDepth 100000 in
set_option maxHeartbeats 4000000 in
theorem ctX4_dividedUp (l : Launch) (g : GG) (M : MM) (v0 : Int32) (v1 : Int32) (Q : Int32 → MM → Prop)  (hw : wX4_dividedUp Q M v0 v1) : MI g l yX4_dividedUp wsX4_dividedUp (rmOf 0 0) [.int v0, .int v1] M Q := by
  refine mk_MI (cc := cX4_dividedUp) (maxL := 2) (by decide) rfl (Nat.le_of_ble_eq_true rfl) ?_
  intro z Qf hC hR
  show XX z g Qf 2 0 [(0, .int v0), (1, .int v1)] [] M
  refine q_iload_n hC dX4_dividedUp_0 1 rfl 1 rfl ?_
  refine q_iconst (v := 1) hC dX4_dividedUp_1 rfl 2 rfl ?_
  refine q_icmp_ge hC 9 dX4_dividedUp_2 (by decide) 5 rfl hw (fun hw => ?_) (fun hw => ?_)
  · refine q_iload_n hC dX4_dividedUp_9 0 rfl 10 rfl ?_
    refine q_iload_n hC dX4_dividedUp_10 1 rfl 11 rfl ?_
    refine q_iadd hC dX4_dividedUp_11 12 rfl ?_
    refine q_iconst (v := 1) hC dX4_dividedUp_12 rfl 13 rfl ?_
    refine q_isub hC dX4_dividedUp_13 14 rfl ?_
    refine q_iload_n hC dX4_dividedUp_14 1 rfl 15 rfl ?_
    obtain ⟨hne, hw⟩ := hw
    refine q_idiv hC dX4_dividedUp_15 hne 16 rfl ?_
    exact r_iret hR dX4_dividedUp_16 hw
  · refine q_iconst (v := 0) hC dX4_dividedUp_5 rfl 6 rfl ?_
    refine q_goto hC 16 dX4_dividedUp_6 (by decide) ?_
    exact r_iret hR dX4_dividedUp_16 hw
theorem hdT_X4_dividedUp : yX4_dividedUp.cls ≠ "java/lang/invoke/MethodHandle" ∧ yX4_dividedUp.cls ≠ "java/lang/invoke/VarHandle" ∧ (parseMethodDescriptor yX4_dividedUp.desc).map (fun d => d.parameters.length) = some 2 := by decide +kernel
set_option maxRecDepth 100000 in
set_option maxHeartbeats 4000000 in
theorem ctX2_longWith (l : Launch) (g : GG) (M : MM) (b : Nat) (v1 : Int32) (Q : Int32 → MM → Prop) (hb : tpl g b) (hw : wX2_longWith Q M b v1) : MI g l yX2_longWith wsX2_longWith (rmOf 1 21) [.ref (gA g b), .int v1] M Q := by
  refine mk_MI (cc := cX2_longWith) (maxL := 2) (by decide) rfl (Nat.le_of_ble_eq_true rfl) ?_
  intro z Qf hC hR
  show XX z g Qf 2 0 [(0, .ref (gA g b)), (1, .int v1)] [] M
  refine q_iload_n hC dX2_longWith_0 1 rfl 1 rfl ?_
  refine q_if_ne hC 8 dX2_longWith_1 (by decide) 4 rfl hw (fun hw => ?_) (fun hw => ?_)
  · refine q_iload_n hC dX2_longWith_8 1 rfl 9 rfl ?_
    refine q_iconst (v := 1) hC dX2_longWith_9 rfl 10 rfl ?_
    refine q_iadd hC dX2_longWith_10 11 rfl ?_
    refine q_aload_n hC dX2_longWith_11 0 rfl 12 rfl ?_
    refine q_bipush (v := 7) hC dX2_longWith_12 (by decide) 14 rfl ?_
    refine r_callI hC (go_V (q := (RX2, TX2, 14)) (As := [.int 7]) (rest := [.int (v1 + (1 : Int32))]) hC (ctX2_ruled (zl z) g M b 7 _ hb hw) 1 gX2_longWith_X2_ruled rfl ⟨rfl, rfl⟩ hdV_X2_ruled ⟨Nat.le_of_ble_eq_true rfl, Nat.le_of_ble_eq_true rfl⟩ hb.ob rfl rfl rfl (Nat.le_of_ble_eq_true rfl) dX2_longWith_14) 17 rfl (fun r1 M2 hw => ?_)
    refine r_callI hC (go_N (As := [.int (v1 + (1 : Int32)), .int r1]) (rest := []) hC (ctX4_dividedUp (zl z) g M2 (v1 + (1 : Int32)) r1 _ hw) 2 gX2_longWith_X4_dividedUp_n121 rfl ⟨rfl, rfl⟩ 6 rfl (uX2_longWith__o _ (List.mem_of_getElem? (l := owX2_longWith) (i := 6) rfl)) (uX2_longWith__o _ (List.mem_of_getElem? (l := owX2_longWith) (i := 5) rfl)) hdT_X4_dividedUp ⟨Nat.le_of_ble_eq_true rfl, Nat.le_of_ble_eq_true rfl⟩ rfl rfl (Nat.le_of_ble_eq_true rfl) dX2_longWith_17) 20 rfl (fun r3 M4 hw => ?_)
    exact r_iret hR dX2_longWith_20 hw
  · refine q_iconst (v := 1) hC dX2_longWith_4 rfl 5 rfl ?_
    refine q_goto hC 20 dX2_longWith_5 (by decide) ?_
    exact r_iret hR dX2_longWith_20 hw
theorem hdV_X2_longWith : yX2_longWith.cls = RX2 ∧ yX2_longWith.cls ≠ "java/lang/invoke/MethodHandle" ∧ yX2_longWith.cls ≠ "java/lang/invoke/VarHandle" ∧ (parseMethodDescriptor yX2_longWith.desc).map (fun d => d.parameters.length) = some 1 := by decide +kernel
set_option maxRecDepth 100000 in
set_option maxHeartbeats 4000000 in
theorem ctX2_longOf (l : Launch) (g : GG) (M : MM) (b : Nat) (v1 : Int32) (Q : Int32 → MM → Prop) (hb : tpl g b) (hw : wX2_longOf Q M b v1) : MI g l yX2_longOf wsX2_longOf (rmOf 2 42) [.ref (gA g b), .int v1] M Q := by
  refine mk_MI (cc := cX2_longOf) (maxL := 2) (by decide) rfl (Nat.le_of_ble_eq_true rfl) ?_
  intro z Qf hC hR
  show XX z g Qf 2 0 [(0, .ref (gA g b)), (1, .int v1)] [] M
  refine q_aload_n hC dX2_longOf_0 0 rfl 1 rfl ?_
  refine q_aload_n hC dX2_longOf_1 0 rfl 2 rfl ?_
  refine q_iload_n hC dX2_longOf_2 1 rfl 3 rfl ?_
  refine r_callI hC (go_V (q := (RX2, TX2, 14)) (As := [.int v1]) (rest := [.ref (gA g b)]) hC (ctX2_sizeOf (zl z) g M b v1 _ hb hw) 1 gX2_longOf_X2_sizeOf rfl ⟨rfl, rfl⟩ hdV_X2_sizeOf ⟨Nat.le_of_ble_eq_true rfl, Nat.le_of_ble_eq_true rfl⟩ hb.ob rfl rfl rfl (Nat.le_of_ble_eq_true rfl) dX2_longOf_3) 6 rfl (fun r1 M2 hw => ?_)
  refine r_callI hC (go_V (q := (RX2, TX2, 14)) (As := [.int r1]) (rest := []) hC (ctX2_longWith (zl z) g M2 b r1 _ hb hw) 1 gX2_longOf_X2_longWith rfl ⟨rfl, rfl⟩ hdV_X2_longWith ⟨Nat.le_of_ble_eq_true rfl, Nat.le_of_ble_eq_true rfl⟩ hb.ob rfl rfl rfl (Nat.le_of_ble_eq_true rfl) dX2_longOf_6) 9 rfl (fun r3 M4 hw => ?_)
  exact r_iret hR dX2_longOf_9 hw
theorem hdV_X2_hasBlock : yX2_hasBlock.cls = RX2 ∧ yX2_hasBlock.cls ≠ "java/lang/invoke/MethodHandle" ∧ yX2_hasBlock.cls ≠ "java/lang/invoke/VarHandle" ∧ (parseMethodDescriptor yX2_hasBlock.desc).map (fun d => d.parameters.length) = some 1 := by decide +kernel
theorem hdV_X2_beginOf : yX2_beginOf.cls = RX2 ∧ yX2_beginOf.cls ≠ "java/lang/invoke/MethodHandle" ∧ yX2_beginOf.cls ≠ "java/lang/invoke/VarHandle" ∧ (parseMethodDescriptor yX2_beginOf.desc).map (fun d => d.parameters.length) = some 1 := by decide +kernel
set_option maxRecDepth 100000 in
set_option maxHeartbeats 4000000 in
theorem ctX2_endOf (l : Launch) (g : GG) (M : MM) (b : Nat) (v1 : Int32) (Q : Int32 → MM → Prop) (hb : tpl g b) (hw : wX2_endOf Q M b v1) : MI g l yX2_endOf wsX2_endOf (rmOf 2 43) [.ref (gA g b), .int v1] M Q := by
  refine mk_MI (cc := cX2_endOf) (maxL := 2) (by decide) rfl (Nat.le_of_ble_eq_true rfl) ?_
  intro z Qf hC hR
  show XX z g Qf 2 0 [(0, .ref (gA g b)), (1, .int v1)] [] M
  refine q_aload_n hC dX2_endOf_0 0 rfl 1 rfl ?_
  refine q_iload_n hC dX2_endOf_1 1 rfl 2 rfl ?_
  refine r_callI hC (go_V (q := (RX2, TX2, 14)) (As := [.int v1]) (rest := []) hC (ctX2_hasBlock (zl z) g M b v1 _ hb hw) 1 gX2_endOf_X2_hasBlock rfl ⟨rfl, rfl⟩ hdV_X2_hasBlock ⟨Nat.le_of_ble_eq_true rfl, Nat.le_of_ble_eq_true rfl⟩ hb.ob rfl rfl rfl (Nat.le_of_ble_eq_true rfl) dX2_endOf_2) 5 rfl (fun r1 M2 hw => ?_)
  refine q_if_eq hC 26 dX2_endOf_5 (by decide) 8 rfl hw (fun hw => ?_) (fun hw => ?_)
  · refine q_iconst (v := 0) hC dX2_endOf_26 rfl 27 rfl ?_
    exact r_iret hR dX2_endOf_27 hw
  · refine q_aload_n hC dX2_endOf_8 0 rfl 9 rfl ?_
    refine q_iload_n hC dX2_endOf_9 1 rfl 10 rfl ?_
    refine r_callI hC (go_V (q := (RX2, TX2, 14)) (As := [.int v1]) (rest := []) hC (ctX2_beginOf (zl z) g M2 b v1 _ hb hw) 1 gX2_endOf_X2_beginOf rfl ⟨rfl, rfl⟩ hdV_X2_beginOf ⟨Nat.le_of_ble_eq_true rfl, Nat.le_of_ble_eq_true rfl⟩ hb.ob rfl rfl rfl (Nat.le_of_ble_eq_true rfl) dX2_endOf_10) 13 rfl (fun r3 M4 hw => ?_)
    refine q_aload_n hC dX2_endOf_13 0 rfl 14 rfl ?_
    refine q_aload_n hC dX2_endOf_14 0 rfl 15 rfl ?_
    refine q_iload_n hC dX2_endOf_15 1 rfl 16 rfl ?_
    refine r_callI hC (go_V (q := (RX2, TX2, 14)) (As := [.int v1]) (rest := [.ref (gA g b), .int r3]) hC (ctX2_sizeOf (zl z) g M4 b v1 _ hb hw) 1 gX2_endOf_X2_sizeOf rfl ⟨rfl, rfl⟩ hdV_X2_sizeOf ⟨Nat.le_of_ble_eq_true rfl, Nat.le_of_ble_eq_true rfl⟩ hb.ob rfl rfl rfl (Nat.le_of_ble_eq_true rfl) dX2_endOf_16) 19 rfl (fun r5 M6 hw => ?_)
    refine r_callI hC (go_V (q := (RX2, TX2, 14)) (As := [.int r5]) (rest := [.int r3]) hC (ctX2_longWith (zl z) g M6 b r5 _ hb hw) 1 gX2_endOf_X2_longWith rfl ⟨rfl, rfl⟩ hdV_X2_longWith ⟨Nat.le_of_ble_eq_true rfl, Nat.le_of_ble_eq_true rfl⟩ hb.ob rfl rfl rfl (Nat.le_of_ble_eq_true rfl) dX2_endOf_19) 22 rfl (fun r7 M8 hw => ?_)
    refine q_iadd hC dX2_endOf_22 23 rfl ?_
    refine q_goto hC 27 dX2_endOf_23 (by decide) ?_
    exact r_iret hR dX2_endOf_27 hw
theorem hdV_X2_endOf : yX2_endOf.cls = RX2 ∧ yX2_endOf.cls ≠ "java/lang/invoke/MethodHandle" ∧ yX2_endOf.cls ≠ "java/lang/invoke/VarHandle" ∧ (parseMethodDescriptor yX2_endOf.desc).map (fun d => d.parameters.length) = some 1 := by decide +kernel
theorem inX2_blockWith_X2 : ∀ w ∈ u_ws RX2 TX2 14, w ∈ wsX2_blockWith := uX2_blockWith__wsX20
set_option maxRecDepth 100000 in
set_option maxHeartbeats 4000000 in
theorem ctX2_blockWith (l : Launch) (g : GG) (M : MM) (b : Nat) (v1 : Int32) (Q : Int32 → MM → Prop) (hb : tpl g b) (hw : wX2_blockWith Q M b v1) : MI g l yX2_blockWith wsX2_blockWith (rmOf 3 64) [.ref (gA g b), .int v1] M Q := by
  refine mk_MI (cc := cX2_blockWith) (maxL := 3) (by decide) rfl (Nat.le_of_ble_eq_true rfl) ?_
  intro z Qf hC hR
  show XX z g Qf 3 0 [(0, .ref (gA g b)), (1, .int v1)] [] M
  have B2 : ∀ (n : Nat) (M : MM) (v2 : Int32) , wX2_blockWith_2 Q b v1 n M v2 → XX z g Qf 3 2 [(0, .ref (gA g b)), (1, .int v1), (2, .int v2)] [] M := by
    intro n
    induction n with
    | zero =>
      intro M v2 hw
      exact hw.elim
    | succ n ih =>
      intro M v2 hw
      refine q_iload_n hC dX2_blockWith_2 2 rfl 3 rfl ?_
      refine q_aload_n hC dX2_blockWith_3 0 rfl 4 rfl ?_
      refine q_getI (C := RX2) (T := TX2) (N := 14) (ci := 2) hC inX2_blockWith_X2 hb.ob rfl 8 (by decide) (uX2_blockWith__X2_hasBlock _ (List.mem_of_getElem? (l := owX2_hasBlock) (i := 1) rfl)) rfl (fun _ => rfl) dX2_blockWith_4 7 rfl ?_
      refine q_icmp_ge hC 37 dX2_blockWith_7 (by decide) 10 rfl hw (fun hw => ?_) (fun hw => ?_)
      · refine q_bipush (v := (-4)) hC dX2_blockWith_37 (by decide) 39 rfl ?_
        exact r_iret hR dX2_blockWith_39 hw
      · refine q_iload_n hC dX2_blockWith_10 1 rfl 11 rfl ?_
        refine q_aload_n hC dX2_blockWith_11 0 rfl 12 rfl ?_
        refine q_iload_n hC dX2_blockWith_12 2 rfl 13 rfl ?_
        refine r_callI hC (go_V (q := (RX2, TX2, 14)) (As := [.int v2]) (rest := [.int v1]) hC (ctX2_beginOf (zl z) g M b v2 _ hb hw) 1 gX2_blockWith_X2_beginOf rfl ⟨rfl, rfl⟩ hdV_X2_beginOf ⟨Nat.le_of_ble_eq_true rfl, Nat.le_of_ble_eq_true rfl⟩ hb.ob rfl rfl rfl (Nat.le_of_ble_eq_true rfl) dX2_blockWith_13) 16 rfl (fun r1 M2 hw => ?_)
        refine q_aload_n hC dX2_blockWith_16 0 rfl 17 rfl ?_
        refine q_iload_n hC dX2_blockWith_17 2 rfl 18 rfl ?_
        refine r_callI hC (go_V (q := (RX2, TX2, 14)) (As := [.int v2]) (rest := [.int r1, .int v1]) hC (ctX2_endOf (zl z) g M2 b v2 _ hb hw) 1 gX2_blockWith_X2_endOf rfl ⟨rfl, rfl⟩ hdV_X2_endOf ⟨Nat.le_of_ble_eq_true rfl, Nat.le_of_ble_eq_true rfl⟩ hb.ob rfl rfl rfl (Nat.le_of_ble_eq_true rfl) dX2_blockWith_18) 21 rfl (fun r3 M4 hw => ?_)
        refine q_iconst (v := 1) hC dX2_blockWith_21 rfl 22 rfl ?_
        refine q_isub hC dX2_blockWith_22 23 rfl ?_
        refine r_callI hC (go_N (As := [.int v1, .int r1, .int (r3 - (1 : Int32))]) (rest := []) hC (ctX4_isBetween (zl z) g M4 v1 r1 (r3 - (1 : Int32)) _ hw) 3 gX2_blockWith_X4_isBetween_n69 rfl ⟨rfl, rfl⟩ 9 rfl (uX2_blockWith__X2_beginOf _ (List.mem_of_getElem? (l := owX2_beginOf) (i := 3) rfl)) (uX2_blockWith__X2_hasBlock _ (List.mem_of_getElem? (l := owX2_hasBlock) (i := 2) rfl)) hdT_X4_isBetween ⟨Nat.le_of_ble_eq_true rfl, Nat.le_of_ble_eq_true rfl⟩ rfl rfl (Nat.le_of_ble_eq_true rfl) dX2_blockWith_23) 26 rfl (fun r5 M6 hw => ?_)
        refine q_if_eq hC 31 dX2_blockWith_26 (by decide) 29 rfl hw (fun hw => ?_) (fun hw => ?_)
        · refine q_iinc (v := v2 + 1) (L' := [(2, .int (v2 + 1)), (0, .ref (gA g b)), (1, .int v1)]) hC dX2_blockWith_31 2 rfl rfl (by decide) rfl 34 rfl ?_
          refine q_goto hC 2 dX2_blockWith_34 (by decide) ?_
          exact XX.sub [1, 2, 0] rfl (ih M6 (v2 + 1) hw)
        · refine q_iload_n hC dX2_blockWith_29 2 rfl 30 rfl ?_
          exact r_iret hR dX2_blockWith_30 hw
  refine q_iconst (v := 0) hC dX2_blockWith_0 rfl 1 rfl ?_
  refine q_istore_n (L' := [(2, .int 0), (0, .ref (gA g b)), (1, .int v1)]) hC dX2_blockWith_1 (by decide) rfl 2 rfl ?_
  obtain ⟨n0, hw⟩ := hw
  exact XX.sub [1, 2, 0] rfl (B2 n0 M 0 hw)
theorem hdV_X2_isMark : yX2_isMark.cls = RX2 ∧ yX2_isMark.cls ≠ "java/lang/invoke/MethodHandle" ∧ yX2_isMark.cls ≠ "java/lang/invoke/VarHandle" ∧ (parseMethodDescriptor yX2_isMark.desc).map (fun d => d.parameters.length) = some 1 := by decide +kernel
theorem inX2_markCount_X2 : ∀ w ∈ u_ws RX2 TX2 14, w ∈ wsX2_markCount := uX2_markCount__wsX20
set_option maxRecDepth 100000 in
set_option maxHeartbeats 4000000 in
theorem ctX2_markCount (l : Launch) (g : GG) (M : MM) (b : Nat) (Q : Int32 → MM → Prop) (hb : tpl g b) (hw : wX2_markCount Q M b) : MI g l yX2_markCount wsX2_markCount (rmOf 3 63) [.ref (gA g b)] M Q := by
  refine mk_MI (cc := cX2_markCount) (maxL := 3) (by decide) rfl (Nat.le_of_ble_eq_true rfl) ?_
  intro z Qf hC hR
  show XX z g Qf 3 0 [(0, .ref (gA g b))] [] M
  have B23 : ∀ (K4 : MM → Int32 → Int32 → Prop) (hK4 : ∀ (M : MM) (v1 : Int32) (v2 : Int32) , K4 M v1 v2 → XX z g Qf 3 4 [(0, .ref (gA g b)), (1, .int v1), (2, .int v2)] [] M) (M : MM) (v1 : Int32) (v2 : Int32), wX2_markCount_23 Q K4 b M v1 v2 → XX z g Qf 3 23 [(0, .ref (gA g b)), (1, .int v1), (2, .int v2)] [] M := by
    intro K4 hK4 M v1 v2 hw
    refine q_iinc (v := v2 + 1) (L' := [(2, .int (v2 + 1)), (0, .ref (gA g b)), (1, .int v1)]) hC dX2_markCount_23 2 rfl rfl (by decide) rfl 26 rfl ?_
    refine q_goto hC 4 dX2_markCount_26 (by decide) ?_
    exact XX.sub [1, 2, 0] rfl (hK4 M v1 (v2 + 1) hw)
  have B4 : ∀ (n : Nat) (M : MM) (v1 : Int32) (v2 : Int32) , wX2_markCount_4 Q b n M v1 v2 → XX z g Qf 3 4 [(0, .ref (gA g b)), (1, .int v1), (2, .int v2)] [] M := by
    intro n
    induction n with
    | zero =>
      intro M v1 v2 hw
      exact hw.elim
    | succ n ih =>
      intro M v1 v2 hw
      refine q_iload_n hC dX2_markCount_4 2 rfl 5 rfl ?_
      refine q_aload_n hC dX2_markCount_5 0 rfl 6 rfl ?_
      refine q_getI (C := RX2) (T := TX2) (N := 14) (ci := 2) hC inX2_markCount_X2 hb.ob rfl 8 (by decide) (uX2_markCount__o _ (List.mem_of_getElem? (l := owX2_markCount) (i := 1) rfl)) rfl (fun _ => rfl) dX2_markCount_6 9 rfl ?_
      refine q_icmp_ge hC 29 dX2_markCount_9 (by decide) 12 rfl hw (fun hw => ?_) (fun hw => ?_)
      · refine q_iload_n hC dX2_markCount_29 1 rfl 30 rfl ?_
        exact r_iret hR dX2_markCount_30 hw
      · refine q_aload_n hC dX2_markCount_12 0 rfl 13 rfl ?_
        refine q_iload_n hC dX2_markCount_13 2 rfl 14 rfl ?_
        refine r_callI hC (go_V (q := (RX2, TX2, 14)) (As := [.int v2]) (rest := []) hC (ctX2_isMark (zl z) g M b v2 _ hb hw) 1 gX2_markCount_X2_isMark rfl ⟨rfl, rfl⟩ hdV_X2_isMark ⟨Nat.le_of_ble_eq_true rfl, Nat.le_of_ble_eq_true rfl⟩ hb.ob rfl rfl rfl (Nat.le_of_ble_eq_true rfl) dX2_markCount_14) 17 rfl (fun r1 M2 hw => ?_)
        refine q_if_eq hC 23 dX2_markCount_17 (by decide) 20 rfl hw (fun hw => ?_) (fun hw => ?_)
        · exact XX.sub [0, 1, 2] rfl (B23 _ (fun M v1 v2 hw => ih M v1 v2 hw) M2 v1 v2 hw)
        · refine q_iinc (v := v1 + 1) (L' := [(1, .int (v1 + 1)), (0, .ref (gA g b)), (2, .int v2)]) hC dX2_markCount_20 1 rfl rfl (by decide) rfl 23 rfl ?_
          exact XX.sub [1, 0, 2] rfl (B23 _ (fun M v1 v2 hw => ih M v1 v2 hw) M2 (v1 + 1) v2 hw)
  refine q_iconst (v := 0) hC dX2_markCount_0 rfl 1 rfl ?_
  refine q_istore_n (L' := [(1, .int 0), (0, .ref (gA g b))]) hC dX2_markCount_1 (by decide) rfl 2 rfl ?_
  refine q_iconst (v := 0) hC dX2_markCount_2 rfl 3 rfl ?_
  refine q_istore_n (L' := [(2, .int 0), (1, .int 0), (0, .ref (gA g b))]) hC dX2_markCount_3 (by decide) rfl 4 rfl ?_
  obtain ⟨n0, hw⟩ := hw
  exact XX.sub [2, 1, 0] rfl (B4 n0 M 0 0 hw)
theorem inX2_byteCount_X2 : ∀ w ∈ u_ws RX2 TX2 14, w ∈ wsX2_byteCount := uX2_byteCount__wsX20
set_option maxRecDepth 100000 in
set_option maxHeartbeats 4000000 in
theorem ctX2_byteCount (l : Launch) (g : GG) (M : MM) (b : Nat) (Q : Int32 → MM → Prop) (hb : tpl g b) (hw : wX2_byteCount Q M b) : MI g l yX2_byteCount wsX2_byteCount (rmOf 2 42) [.ref (gA g b)] M Q := by
  refine mk_MI (cc := cX2_byteCount) (maxL := 3) (by decide) rfl (Nat.le_of_ble_eq_true rfl) ?_
  intro z Qf hC hR
  show XX z g Qf 3 0 [(0, .ref (gA g b))] [] M
  have B4 : ∀ (n : Nat) (M : MM) (v1 : Int32) (v2 : Int32) , wX2_byteCount_4 Q b n M v1 v2 → XX z g Qf 3 4 [(0, .ref (gA g b)), (1, .int v1), (2, .int v2)] [] M := by
    intro n
    induction n with
    | zero =>
      intro M v1 v2 hw
      exact hw.elim
    | succ n ih =>
      intro M v1 v2 hw
      refine q_iload_n hC dX2_byteCount_4 2 rfl 5 rfl ?_
      refine q_aload_n hC dX2_byteCount_5 0 rfl 6 rfl ?_
      refine q_getI (C := RX2) (T := TX2) (N := 14) (ci := 2) hC inX2_byteCount_X2 hb.ob rfl 8 (by decide) (uX2_byteCount__o _ (List.mem_of_getElem? (l := owX2_byteCount) (i := 1) rfl)) rfl (fun _ => rfl) dX2_byteCount_6 9 rfl ?_
      refine q_icmp_ge hC 26 dX2_byteCount_9 (by decide) 12 rfl hw (fun hw => ?_) (fun hw => ?_)
      · refine q_iload_n hC dX2_byteCount_26 1 rfl 27 rfl ?_
        exact r_iret hR dX2_byteCount_27 hw
      · refine q_iload_n hC dX2_byteCount_12 1 rfl 13 rfl ?_
        refine q_aload_n hC dX2_byteCount_13 0 rfl 14 rfl ?_
        refine q_iload_n hC dX2_byteCount_14 2 rfl 15 rfl ?_
        refine r_callI hC (go_V (q := (RX2, TX2, 14)) (As := [.int v2]) (rest := [.int v1]) hC (ctX2_sizeOf (zl z) g M b v2 _ hb hw) 1 gX2_byteCount_X2_sizeOf rfl ⟨rfl, rfl⟩ hdV_X2_sizeOf ⟨Nat.le_of_ble_eq_true rfl, Nat.le_of_ble_eq_true rfl⟩ hb.ob rfl rfl rfl (Nat.le_of_ble_eq_true rfl) dX2_byteCount_15) 18 rfl (fun r1 M2 hw => ?_)
        refine q_iadd hC dX2_byteCount_18 19 rfl ?_
        refine q_istore_n (L' := [(1, .int (v1 + r1)), (0, .ref (gA g b)), (2, .int v2)]) hC dX2_byteCount_19 (by decide) rfl 20 rfl ?_
        refine q_iinc (v := v2 + 1) (L' := [(2, .int (v2 + 1)), (1, .int (v1 + r1)), (0, .ref (gA g b))]) hC dX2_byteCount_20 2 rfl rfl (by decide) rfl 23 rfl ?_
        refine q_goto hC 4 dX2_byteCount_23 (by decide) ?_
        exact XX.sub [2, 1, 0] rfl (ih M2 (v1 + r1) (v2 + 1) hw)
  refine q_iconst (v := 0) hC dX2_byteCount_0 rfl 1 rfl ?_
  refine q_istore_n (L' := [(1, .int 0), (0, .ref (gA g b))]) hC dX2_byteCount_1 (by decide) rfl 2 rfl ?_
  refine q_iconst (v := 0) hC dX2_byteCount_2 rfl 3 rfl ?_
  refine q_istore_n (L' := [(2, .int 0), (1, .int 0), (0, .ref (gA g b))]) hC dX2_byteCount_3 (by decide) rfl 4 rfl ?_
  obtain ⟨n0, hw⟩ := hw
  exact XX.sub [2, 1, 0] rfl (B4 n0 M 0 0 hw)
set_option maxRecDepth 100000 in
set_option maxHeartbeats 4000000 in
theorem ctX4_setCell (l : Launch) (g : GG) (M : MM) (k0 : Nat) (v1 : Int32) (v2 : Int32) (Q : MM → Prop) (hk0 : isI g k0) (hw : wX4_setCell Q M k0 v1 v2) : MV g l yX4_setCell wsX4_setCell (rmOf 0 0) [.ref (gA g k0), .int v1, .int v2] M Q := by
  refine mk_MV (cc := cX4_setCell) (maxL := 3) (by decide) rfl (Nat.le_of_ble_eq_true rfl) ?_
  intro z Qf hC hR
  show XX z g Qf 3 0 [(0, .ref (gA g k0)), (1, .int v1), (2, .int v2)] [] M
  refine q_aload_n hC dX4_setCell_0 0 rfl 1 rfl ?_
  refine q_ifnull hC dX4_setCell_1 4 rfl ?_
  refine q_iload_n hC dX4_setCell_4 1 rfl 5 rfl ?_
  refine q_if_lt hC 18 dX4_setCell_5 (by decide) 8 rfl hw (fun hw => ?_) (fun hw => ?_)
  · exact r_vret hR dX4_setCell_18 hw
  · refine q_iload_n hC dX4_setCell_8 1 rfl 9 rfl ?_
    refine q_aload_n hC dX4_setCell_9 0 rfl 10 rfl ?_
    refine q_alen hC hk0 dX4_setCell_10 11 rfl ?_
    refine q_icmp_ge hC 18 dX4_setCell_11 (by decide) 14 rfl hw (fun hw => ?_) (fun hw => ?_)
    · exact r_vret hR dX4_setCell_18 hw
    · refine q_aload_n hC dX4_setCell_14 0 rfl 15 rfl ?_
      refine q_iload_n hC dX4_setCell_15 1 rfl 16 rfl ?_
      refine q_iload_n hC dX4_setCell_16 2 rfl 17 rfl ?_
      obtain ⟨hin, hw⟩ := hw
      refine q_iast hC hk0 hin dX4_setCell_17 18 rfl (fun M1 eM1 => ?_)
      have hw := hw M1 eM1
      exact r_vret hR dX4_setCell_18 hw
theorem hdT_X4_setCell : yX4_setCell.cls ≠ "java/lang/invoke/MethodHandle" ∧ yX4_setCell.cls ≠ "java/lang/invoke/VarHandle" ∧ (parseMethodDescriptor yX4_setCell.desc).map (fun d => d.parameters.length) = some 3 := by decide +kernel
theorem inX2_typeOne_X2 : ∀ w ∈ u_ws RX2 TX2 14, w ∈ wsX2_typeOne := uX2_typeOne__wsX20
set_option maxRecDepth 100000 in
set_option maxHeartbeats 4000000 in
theorem ctX2_typeOne (l : Launch) (g : GG) (M : MM) (b : Nat) (v1 : Int32) (Q : Int32 → MM → Prop) (hb : tpl g b) (hw : wX2_typeOne Q M b v1) : MI g l yX2_typeOne wsX2_typeOne (rmOf 1 22) [.ref (gA g b), .int v1] M Q := by
  refine mk_MI (cc := cX2_typeOne) (maxL := 2) (by decide) rfl (Nat.le_of_ble_eq_true rfl) ?_
  intro z Qf hC hR
  show XX z g Qf 2 0 [(0, .ref (gA g b)), (1, .int v1)] [] M
  refine q_aload_n hC dX2_typeOne_0 0 rfl 1 rfl ?_
  refine q_getR (C := RX2) (T := TX2) (N := 14) (ci := 2) hC inX2_typeOne_X2 hb.ob rfl 5 (by decide) (uX2_typeOne__o _ (List.mem_of_getElem? (l := owX2_typeOne) (i := 1) rfl)) rfl (b + 6) (fun _ => rfl) dX2_typeOne_1 4 rfl ?_
  refine q_aload_n hC dX2_typeOne_4 0 rfl 5 rfl ?_
  refine q_getI (C := RX2) (T := TX2) (N := 14) (ci := 2) hC inX2_typeOne_X2 hb.ob rfl 11 (by decide) (uX2_typeOne__o _ (List.mem_of_getElem? (l := owX2_typeOne) (i := 2) rfl)) rfl (fun _ => rfl) dX2_typeOne_5 8 rfl ?_
  refine q_iload_n hC dX2_typeOne_8 1 rfl 9 rfl ?_
  refine r_callV hC (go_N (As := [.ref (gA g (b + 6)), .int (M b 11), .int v1]) (rest := []) hC (ctX4_setCell (zl z) g M (b + 6) (M b 11) v1 _ (hb.ar 6 (by decide) (by decide)) hw) 3 gX2_typeOne_X4_setCell_n139 rfl ⟨rfl, rfl⟩ 7 rfl (uX2_typeOne__o _ (List.mem_of_getElem? (l := owX2_typeOne) (i := 4) rfl)) (uX2_typeOne__o _ (List.mem_of_getElem? (l := owX2_typeOne) (i := 3) rfl)) hdT_X4_setCell ⟨Nat.le_of_ble_eq_true rfl, Nat.le_of_ble_eq_true rfl⟩ rfl rfl (Nat.le_of_ble_eq_true rfl) dX2_typeOne_9) 12 rfl (fun M1 hw => ?_)
  refine q_aload_n hC dX2_typeOne_12 0 rfl 13 rfl ?_
  refine q_dup hC dX2_typeOne_13 rfl 14 rfl ?_
  refine q_getI (C := RX2) (T := TX2) (N := 14) (ci := 2) hC inX2_typeOne_X2 hb.ob rfl 11 (by decide) (uX2_typeOne__o _ (List.mem_of_getElem? (l := owX2_typeOne) (i := 2) rfl)) rfl (fun _ => rfl) dX2_typeOne_14 17 rfl ?_
  refine q_iconst (v := 1) hC dX2_typeOne_17 rfl 18 rfl ?_
  refine q_iadd hC dX2_typeOne_18 19 rfl ?_
  refine q_putI (C := RX2) (T := TX2) (N := 14) (ci := 2) hC inX2_typeOne_X2 tyX2 tyX2_ok nmX2 hb.ob rfl 11 (by decide) (uX2_typeOne__o _ (List.mem_of_getElem? (l := owX2_typeOne) (i := 2) rfl)) rfl rfl rfl (fun _ => Nat.le_of_ble_eq_true rfl) (fun _ => rfl) dX2_typeOne_19 22 rfl (fun M2 eM2 => ?_)
  have hw := hw M2 eM2
  refine q_aload_n hC dX2_typeOne_22 0 rfl 23 rfl ?_
  refine q_getI (C := RX2) (T := TX2) (N := 14) (ci := 2) hC inX2_typeOne_X2 hb.ob rfl 11 (by decide) (uX2_typeOne__o _ (List.mem_of_getElem? (l := owX2_typeOne) (i := 2) rfl)) rfl (fun _ => rfl) dX2_typeOne_23 26 rfl ?_
  exact r_iret hR dX2_typeOne_26 hw
set_option maxRecDepth 100000 in
set_option maxHeartbeats 4000000 in
theorem ctX2_beginningAt (l : Launch) (g : GG) (M : MM) (b : Nat) (v1 : Int32) (Q : Int32 → MM → Prop) (hb : tpl g b) (hw : wX2_beginningAt Q M b v1) : MI g l yX2_beginningAt wsX2_beginningAt (rmOf 3 64) [.ref (gA g b), .int v1] M Q := by
  refine mk_MI (cc := cX2_beginningAt) (maxL := 2) (by decide) rfl (Nat.le_of_ble_eq_true rfl) ?_
  intro z Qf hC hR
  show XX z g Qf 2 0 [(0, .ref (gA g b)), (1, .int v1)] [] M
  refine q_aload_n hC dX2_beginningAt_0 0 rfl 1 rfl ?_
  refine q_iload_n hC dX2_beginningAt_1 1 rfl 2 rfl ?_
  refine q_iconst (v := 1) hC dX2_beginningAt_2 rfl 3 rfl ?_
  refine q_isub hC dX2_beginningAt_3 4 rfl ?_
  refine r_callI hC (go_V (q := (RX2, TX2, 14)) (As := [.int (v1 - (1 : Int32))]) (rest := []) hC (ctX2_endOf (zl z) g M b (v1 - (1 : Int32)) _ hb hw) 1 gX2_beginningAt_X2_endOf rfl ⟨rfl, rfl⟩ hdV_X2_endOf ⟨Nat.le_of_ble_eq_true rfl, Nat.le_of_ble_eq_true rfl⟩ hb.ob rfl rfl rfl (Nat.le_of_ble_eq_true rfl) dX2_beginningAt_4) 7 rfl (fun r1 M2 hw => ?_)
  refine q_aload_n hC dX2_beginningAt_7 0 rfl 8 rfl ?_
  refine q_bipush (v := 6) hC dX2_beginningAt_8 (by decide) 10 rfl ?_
  refine r_callI hC (go_V (q := (RX2, TX2, 14)) (As := [.int 6]) (rest := [.int r1]) hC (ctX2_ruled (zl z) g M2 b 6 _ hb hw) 1 gX2_beginningAt_X2_ruled rfl ⟨rfl, rfl⟩ hdV_X2_ruled ⟨Nat.le_of_ble_eq_true rfl, Nat.le_of_ble_eq_true rfl⟩ hb.ob rfl rfl rfl (Nat.le_of_ble_eq_true rfl) dX2_beginningAt_10) 13 rfl (fun r3 M4 hw => ?_)
  refine q_iadd hC dX2_beginningAt_13 14 rfl ?_
  exact r_iret hR dX2_beginningAt_14 hw
theorem hdV_X2_beginningAt : yX2_beginningAt.cls = RX2 ∧ yX2_beginningAt.cls ≠ "java/lang/invoke/MethodHandle" ∧ yX2_beginningAt.cls ≠ "java/lang/invoke/VarHandle" ∧ (parseMethodDescriptor yX2_beginningAt.desc).map (fun d => d.parameters.length) = some 1 := by decide +kernel
set_option maxRecDepth 100000 in
set_option maxHeartbeats 4000000 in
theorem ctX2_hasRoomAt (l : Launch) (g : GG) (M : MM) (b : Nat) (v1 : Int32) (v2 : Int32) (Q : Int32 → MM → Prop) (hb : tpl g b) (hw : wX2_hasRoomAt Q M b v1 v2) : MI g l yX2_hasRoomAt wsX2_hasRoomAt (rmOf 4 85) [.ref (gA g b), .int v1, .int v2] M Q := by
  refine mk_MZ (cc := cX2_hasRoomAt) (maxL := 3) (by decide) rfl (Nat.le_of_ble_eq_true rfl) ?_
  intro z Qf hC hR
  show XX z g Qf 3 0 [(0, .ref (gA g b)), (1, .int v1), (2, .int v2)] [] M
  have B29 : ∀ (M : MM), wX2_hasRoomAt_29 Q b v1 v2 M → XX z g Qf 3 29 [] [] M := by
    intro M hw
    refine q_iconst (v := 0) hC dX2_hasRoomAt_29 rfl 30 rfl ?_
    exact r_iret hR dX2_hasRoomAt_30 ⟨nb_0, hw⟩
  refine q_iload_n hC dX2_hasRoomAt_0 1 rfl 1 rfl ?_
  refine q_bipush (v := 12) hC dX2_hasRoomAt_1 (by decide) 3 rfl ?_
  refine q_icmp_ge hC 29 dX2_hasRoomAt_3 (by decide) 6 rfl hw (fun hw => ?_) (fun hw => ?_)
  · exact XX.sub [] rfl (B29 M hw)
  · refine q_aload_n hC dX2_hasRoomAt_6 0 rfl 7 rfl ?_
    refine q_iload_n hC dX2_hasRoomAt_7 1 rfl 8 rfl ?_
    refine r_callI hC (go_V (q := (RX2, TX2, 14)) (As := [.int v1]) (rest := []) hC (ctX2_beginningAt (zl z) g M b v1 _ hb hw) 1 gX2_hasRoomAt_X2_beginningAt rfl ⟨rfl, rfl⟩ hdV_X2_beginningAt ⟨Nat.le_of_ble_eq_true rfl, Nat.le_of_ble_eq_true rfl⟩ hb.ob rfl rfl rfl (Nat.le_of_ble_eq_true rfl) dX2_hasRoomAt_8) 11 rfl (fun r1 M2 hw => ?_)
    refine q_aload_n hC dX2_hasRoomAt_11 0 rfl 12 rfl ?_
    refine q_iload_n hC dX2_hasRoomAt_12 2 rfl 13 rfl ?_
    refine r_callI hC (go_V (q := (RX2, TX2, 14)) (As := [.int v2]) (rest := [.int r1]) hC (ctX2_longWith (zl z) g M2 b v2 _ hb hw) 1 gX2_hasRoomAt_X2_longWith rfl ⟨rfl, rfl⟩ hdV_X2_longWith ⟨Nat.le_of_ble_eq_true rfl, Nat.le_of_ble_eq_true rfl⟩ hb.ob rfl rfl rfl (Nat.le_of_ble_eq_true rfl) dX2_hasRoomAt_13) 16 rfl (fun r3 M4 hw => ?_)
    refine q_iadd hC dX2_hasRoomAt_16 17 rfl ?_
    refine q_aload_n hC dX2_hasRoomAt_17 0 rfl 18 rfl ?_
    refine q_iconst (v := 0) hC dX2_hasRoomAt_18 rfl 19 rfl ?_
    refine r_callI hC (go_V (q := (RX2, TX2, 14)) (As := [.int 0]) (rest := [.int (r1 + r3)]) hC (ctX2_ruled (zl z) g M4 b 0 _ hb hw) 1 gX2_hasRoomAt_X2_ruled rfl ⟨rfl, rfl⟩ hdV_X2_ruled ⟨Nat.le_of_ble_eq_true rfl, Nat.le_of_ble_eq_true rfl⟩ hb.ob rfl rfl rfl (Nat.le_of_ble_eq_true rfl) dX2_hasRoomAt_19) 22 rfl (fun r5 M6 hw => ?_)
    refine q_icmp_gt hC 29 dX2_hasRoomAt_22 (by decide) 25 rfl hw (fun hw => ?_) (fun hw => ?_)
    · exact XX.sub [] rfl (B29 M6 hw)
    · refine q_iconst (v := 1) hC dX2_hasRoomAt_25 rfl 26 rfl ?_
      refine q_goto hC 30 dX2_hasRoomAt_26 (by decide) ?_
      exact r_iret hR dX2_hasRoomAt_30 ⟨nb_1, hw⟩
set_option maxRecDepth 100000 in
set_option maxHeartbeats 4000000 in
theorem ctJ6_bitCount_0f7a4 (l : Launch) (g : GG) (M : MM) (v0 : Int32) (Q : Int32 → MM → Prop)  (hw : wJ6_bitCount_0f7a4 Q M v0) : MI g l yJ6_bitCount_0f7a4 wsJ6_bitCount_0f7a4 (rmOf 0 0) [.int v0] M Q := by
  refine mk_MI (cc := cJ6_bitCount_0f7a4) (maxL := 1) (by decide) rfl (Nat.le_of_ble_eq_true rfl) ?_
  intro z Qf hC hR
  show XX z g Qf 1 0 [(0, .int v0)] [] M
  refine q_iload_n hC dJ6_bitCount_0f7a4_0 0 rfl 1 rfl ?_
  refine q_iload_n hC dJ6_bitCount_0f7a4_1 0 rfl 2 rfl ?_
  refine q_iconst (v := 1) hC dJ6_bitCount_0f7a4_2 rfl 3 rfl ?_
  refine q_iushr hC dJ6_bitCount_0f7a4_3 4 rfl ?_
  refine q_ldcw (v := 1431655765) hC (uJ6_bitCount_0f7a4__o _ (List.mem_of_getElem? (l := owJ6_bitCount_0f7a4) (i := 1) rfl)) dJ6_bitCount_0f7a4_4 7 rfl ?_
  refine q_iand hC dJ6_bitCount_0f7a4_7 8 rfl ?_
  refine q_isub hC dJ6_bitCount_0f7a4_8 9 rfl ?_
  refine q_nameI (fun x1 ex1 => ?_)
  have hw := hw x1 ex1
  refine q_istore_n (L' := [(0, .int x1)]) hC dJ6_bitCount_0f7a4_9 (by decide) rfl 10 rfl ?_
  refine q_iload_n hC dJ6_bitCount_0f7a4_10 0 rfl 11 rfl ?_
  refine q_ldcw (v := 858993459) hC (uJ6_bitCount_0f7a4__o _ (List.mem_of_getElem? (l := owJ6_bitCount_0f7a4) (i := 2) rfl)) dJ6_bitCount_0f7a4_11 14 rfl ?_
  refine q_iand hC dJ6_bitCount_0f7a4_14 15 rfl ?_
  refine q_iload_n hC dJ6_bitCount_0f7a4_15 0 rfl 16 rfl ?_
  refine q_iconst (v := 2) hC dJ6_bitCount_0f7a4_16 rfl 17 rfl ?_
  refine q_iushr hC dJ6_bitCount_0f7a4_17 18 rfl ?_
  refine q_ldcw (v := 858993459) hC (uJ6_bitCount_0f7a4__o _ (List.mem_of_getElem? (l := owJ6_bitCount_0f7a4) (i := 2) rfl)) dJ6_bitCount_0f7a4_18 21 rfl ?_
  refine q_iand hC dJ6_bitCount_0f7a4_21 22 rfl ?_
  refine q_iadd hC dJ6_bitCount_0f7a4_22 23 rfl ?_
  refine q_nameI (fun x2 ex2 => ?_)
  have hw := hw x2 ex2
  refine q_istore_n (L' := [(0, .int x2)]) hC dJ6_bitCount_0f7a4_23 (by decide) rfl 24 rfl ?_
  refine q_iload_n hC dJ6_bitCount_0f7a4_24 0 rfl 25 rfl ?_
  refine q_iload_n hC dJ6_bitCount_0f7a4_25 0 rfl 26 rfl ?_
  refine q_iconst (v := 4) hC dJ6_bitCount_0f7a4_26 rfl 27 rfl ?_
  refine q_iushr hC dJ6_bitCount_0f7a4_27 28 rfl ?_
  refine q_iadd hC dJ6_bitCount_0f7a4_28 29 rfl ?_
  refine q_ldcw (v := 252645135) hC (uJ6_bitCount_0f7a4__o _ (List.mem_of_getElem? (l := owJ6_bitCount_0f7a4) (i := 3) rfl)) dJ6_bitCount_0f7a4_29 32 rfl ?_
  refine q_iand hC dJ6_bitCount_0f7a4_32 33 rfl ?_
  refine q_nameI (fun x3 ex3 => ?_)
  have hw := hw x3 ex3
  refine q_istore_n (L' := [(0, .int x3)]) hC dJ6_bitCount_0f7a4_33 (by decide) rfl 34 rfl ?_
  refine q_iload_n hC dJ6_bitCount_0f7a4_34 0 rfl 35 rfl ?_
  refine q_iload_n hC dJ6_bitCount_0f7a4_35 0 rfl 36 rfl ?_
  refine q_bipush (v := 8) hC dJ6_bitCount_0f7a4_36 (by decide) 38 rfl ?_
  refine q_iushr hC dJ6_bitCount_0f7a4_38 39 rfl ?_
  refine q_iadd hC dJ6_bitCount_0f7a4_39 40 rfl ?_
  refine q_nameI (fun x4 ex4 => ?_)
  have hw := hw x4 ex4
  refine q_istore_n (L' := [(0, .int x4)]) hC dJ6_bitCount_0f7a4_40 (by decide) rfl 41 rfl ?_
  refine q_iload_n hC dJ6_bitCount_0f7a4_41 0 rfl 42 rfl ?_
  refine q_iload_n hC dJ6_bitCount_0f7a4_42 0 rfl 43 rfl ?_
  refine q_bipush (v := 16) hC dJ6_bitCount_0f7a4_43 (by decide) 45 rfl ?_
  refine q_iushr hC dJ6_bitCount_0f7a4_45 46 rfl ?_
  refine q_iadd hC dJ6_bitCount_0f7a4_46 47 rfl ?_
  refine q_nameI (fun x5 ex5 => ?_)
  have hw := hw x5 ex5
  refine q_istore_n (L' := [(0, .int x5)]) hC dJ6_bitCount_0f7a4_47 (by decide) rfl 48 rfl ?_
  refine q_iload_n hC dJ6_bitCount_0f7a4_48 0 rfl 49 rfl ?_
  refine q_bipush (v := 63) hC dJ6_bitCount_0f7a4_49 (by decide) 51 rfl ?_
  refine q_iand hC dJ6_bitCount_0f7a4_51 52 rfl ?_
  exact r_iret hR dJ6_bitCount_0f7a4_52 hw
theorem inX2_setColumn_X2 : ∀ w ∈ u_ws RX2 TX2 14, w ∈ wsX2_setColumn := uX2_setColumn__wsX20
set_option maxRecDepth 100000 in
set_option maxHeartbeats 4000000 in
theorem ctX2_setColumn (l : Launch) (g : GG) (M : MM) (b : Nat) (v1 : Int32) (v2 : Int32) (v3 : Int32) (Q : MM → Prop) (hb : tpl g b) (hw : wX2_setColumn Q M b v1 v2 v3) : MV g l yX2_setColumn wsX2_setColumn (rmOf 1 22) [.ref (gA g b), .int v1, .int v2, .int v3] M Q := by
  refine mk_MV (cc := cX2_setColumn) (maxL := 4) (by decide) rfl (Nat.le_of_ble_eq_true rfl) ?_
  intro z Qf hC hR
  show XX z g Qf 4 0 [(0, .ref (gA g b)), (1, .int v1), (2, .int v2), (3, .int v3)] [] M
  refine q_aload_n hC dX2_setColumn_0 0 rfl 1 rfl ?_
  refine q_getR (C := RX2) (T := TX2) (N := 14) (ci := 2) hC inX2_setColumn_X2 hb.ob rfl 3 (by decide) (uX2_setColumn__o _ (List.mem_of_getElem? (l := owX2_setColumn) (i := 1) rfl)) rfl (b + 4) (fun _ => rfl) dX2_setColumn_1 4 rfl ?_
  refine q_iload_n hC dX2_setColumn_4 1 rfl 5 rfl ?_
  refine q_bipush (v := 13) hC dX2_setColumn_5 (by decide) 7 rfl ?_
  refine q_imul hC dX2_setColumn_7 8 rfl ?_
  refine q_iload_n hC dX2_setColumn_8 2 rfl 9 rfl ?_
  refine q_iadd hC dX2_setColumn_9 10 rfl ?_
  refine q_iload_n hC dX2_setColumn_10 3 rfl 11 rfl ?_
  refine r_callV hC (go_N (As := [.ref (gA g (b + 4)), .int ((v1 * (13 : Int32)) + v2), .int v3]) (rest := []) hC (ctX4_setCell (zl z) g M (b + 4) ((v1 * (13 : Int32)) + v2) v3 _ (hb.ar 4 (by decide) (by decide)) hw) 3 gX2_setColumn_X4_setCell_n139 rfl ⟨rfl, rfl⟩ 7 rfl (uX2_setColumn__o _ (List.mem_of_getElem? (l := owX2_setColumn) (i := 3) rfl)) (uX2_setColumn__o _ (List.mem_of_getElem? (l := owX2_setColumn) (i := 2) rfl)) hdT_X4_setCell ⟨Nat.le_of_ble_eq_true rfl, Nat.le_of_ble_eq_true rfl⟩ rfl rfl (Nat.le_of_ble_eq_true rfl) dX2_setColumn_11) 14 rfl (fun M1 hw => ?_)
  exact r_vret hR dX2_setColumn_14 hw
theorem hdV_X2_setColumn : yX2_setColumn.cls = RX2 ∧ yX2_setColumn.cls ≠ "java/lang/invoke/MethodHandle" ∧ yX2_setColumn.cls ≠ "java/lang/invoke/VarHandle" ∧ (parseMethodDescriptor yX2_setColumn.desc).map (fun d => d.parameters.length) = some 3 := by decide +kernel
theorem hdT_J6_bitCount_0f7a4 : yJ6_bitCount_0f7a4.cls ≠ "java/lang/invoke/MethodHandle" ∧ yJ6_bitCount_0f7a4.cls ≠ "java/lang/invoke/VarHandle" ∧ (parseMethodDescriptor yJ6_bitCount_0f7a4.desc).map (fun d => d.parameters.length) = some 1 := by decide +kernel
theorem inX2_putBlock_X2 : ∀ w ∈ u_ws RX2 TX2 14, w ∈ wsX2_putBlock := uX2_putBlock__wsX20
set_option maxRecDepth 100000 in
set_option maxHeartbeats 4000000 in
theorem ctX2_putBlock (l : Launch) (g : GG) (M : MM) (b : Nat) (v1 : Int32) (v2 : Int32) (v3 : Int32) (Q : MM → Prop) (hb : tpl g b) (hw : wX2_putBlock Q M b v1 v2 v3) : MV g l yX2_putBlock wsX2_putBlock (rmOf 2 45) [.ref (gA g b), .int v1, .int v2, .int v3] M Q := by
  refine mk_MV (cc := cX2_putBlock) (maxL := 8) (by decide) rfl (Nat.le_of_ble_eq_true rfl) ?_
  intro z Qf hC hR
  show XX z g Qf 8 0 [(0, .ref (gA g b)), (1, .int v1), (2, .int v2), (3, .int v3)] [] M
  have B67 : ∀ (K31 : MM → Int32 → Int32 → Prop) (hK31 : ∀ (M : MM) (v4 : Int32) (v5 : Int32) , K31 M v4 v5 → XX z g Qf 8 31 [(0, .ref (gA g b)), (1, .int v1), (3, .int v3), (4, .int v4), (5, .int v5)] [] M) (M : MM) (v4 : Int32) (v5 : Int32) (v6 : Int32) (p0 : Int32) (p1 : Int32), wX2_putBlock_67 Q K31 b v1 v2 v3 M v4 v5 v6 p0 p1 → XX z g Qf 8 67 [(0, .ref (gA g b)), (1, .int v1), (3, .int v3), (4, .int v4), (5, .int v5), (6, .int v6)] [.int p0, .int p1] M := by
    intro K31 hK31 M v4 v5 v6 p0 p1 hw
    refine q_ior hC dX2_putBlock_67 68 rfl ?_
    refine q_istore (L' := [(7, .int (p1 ||| p0)), (0, .ref (gA g b)), (1, .int v1), (3, .int v3), (4, .int v4), (5, .int v5), (6, .int v6)]) hC dX2_putBlock_68 (by decide) rfl 70 rfl ?_
    refine q_aload_n hC dX2_putBlock_70 1 rfl 71 rfl ?_
    refine q_getR (C := RX2) (T := TX2) (N := 14) (ci := 2) hC inX2_putBlock_X2 hb.ob rfl 4 (by decide) (uX2_putBlock__o _ (List.mem_of_getElem? (l := owX2_putBlock) (i := 5) rfl)) rfl (b + 5) (fun _ => rfl) dX2_putBlock_71 74 rfl ?_
    refine q_iload_n hC dX2_putBlock_74 2 rfl 75 rfl ?_
    refine q_bipush (v := 12) hC dX2_putBlock_75 (by decide) 77 rfl ?_
    refine q_imul hC dX2_putBlock_77 78 rfl ?_
    refine q_iload hC dX2_putBlock_78 5 rfl 80 rfl ?_
    refine q_iadd hC dX2_putBlock_80 81 rfl ?_
    refine q_iload hC dX2_putBlock_81 6 rfl 83 rfl ?_
    refine r_callV hC (go_N (As := [.ref (gA g (b + 5)), .int ((v1 * (12 : Int32)) + v5), .int v6]) (rest := []) hC (ctX4_setCell (zl z) g M (b + 5) ((v1 * (12 : Int32)) + v5) v6 _ (hb.ar 5 (by decide) (by decide)) hw) 3 gX2_putBlock_X4_setCell_n139 rfl ⟨rfl, rfl⟩ 7 rfl (uX2_putBlock__X2_setColumn _ (List.mem_of_getElem? (l := owX2_setColumn) (i := 3) rfl)) (uX2_putBlock__X2_setColumn _ (List.mem_of_getElem? (l := owX2_setColumn) (i := 2) rfl)) hdT_X4_setCell ⟨Nat.le_of_ble_eq_true rfl, Nat.le_of_ble_eq_true rfl⟩ rfl rfl (Nat.le_of_ble_eq_true rfl) dX2_putBlock_83) 86 rfl (fun M9 hw => ?_)
    refine q_aload_n hC dX2_putBlock_86 1 rfl 87 rfl ?_
    refine q_iload_n hC dX2_putBlock_87 2 rfl 88 rfl ?_
    refine q_iload hC dX2_putBlock_88 5 rfl 90 rfl ?_
    refine q_iload hC dX2_putBlock_90 0 rfl 92 rfl ?_
    refine r_callV hC (go_V (q := (RX2, TX2, 14)) (As := [.int v1, .int v5, .int (p1 ||| p0)]) (rest := []) hC (ctX2_setColumn (zl z) g M9 b v1 v5 (p1 ||| p0) _ hb hw) 3 gX2_putBlock_X2_setColumn rfl ⟨rfl, rfl⟩ hdV_X2_setColumn ⟨Nat.le_of_ble_eq_true rfl, Nat.le_of_ble_eq_true rfl⟩ hb.ob rfl rfl rfl (Nat.le_of_ble_eq_true rfl) dX2_putBlock_92) 95 rfl (fun M10 hw => ?_)
    refine q_iload hC dX2_putBlock_95 4 rfl 97 rfl ?_
    refine q_iload hC dX2_putBlock_97 0 rfl 99 rfl ?_
    refine q_ixor hC dX2_putBlock_99 100 rfl ?_
    refine q_nameI (fun x11 ex11 => ?_)
    have hw := hw x11 ex11
    refine q_istore (L' := [(4, .int x11), (7, .int (p1 ||| p0)), (0, .ref (gA g b)), (1, .int v1), (3, .int v3), (5, .int v5), (6, .int v6)]) hC dX2_putBlock_100 (by decide) rfl 102 rfl ?_
    refine q_iinc (v := v5 + 1) (L' := [(5, .int (v5 + 1)), (4, .int x11), (7, .int (p1 ||| p0)), (0, .ref (gA g b)), (1, .int v1), (3, .int v3), (6, .int v6)]) hC dX2_putBlock_102 5 rfl rfl (by decide) rfl 105 rfl ?_
    refine q_goto hC 31 dX2_putBlock_105 (by decide) ?_
    exact XX.sub [3, 4, 5, 1, 0] rfl (hK31 M10 x11 (v5 + 1) hw)
  have B31 : ∀ (n : Nat) (M : MM) (v4 : Int32) (v5 : Int32) , wX2_putBlock_31 Q b v1 v2 v3 n M v4 v5 → XX z g Qf 8 31 [(0, .ref (gA g b)), (1, .int v1), (3, .int v3), (4, .int v4), (5, .int v5)] [] M := by
    intro n
    induction n with
    | zero =>
      intro M v4 v5 hw
      exact hw.elim
    | succ n ih =>
      intro M v4 v5 hw
      refine q_iload hC dX2_putBlock_31 4 rfl 33 rfl ?_
      refine q_iload_n hC dX2_putBlock_33 2 rfl 34 rfl ?_
      refine q_icmp_ge hC 108 dX2_putBlock_34 (by decide) 37 rfl hw (fun hw => ?_) (fun hw => ?_)
      · refine q_aload_n hC dX2_putBlock_108 0 rfl 109 rfl ?_
        refine q_iload_n hC dX2_putBlock_109 1 rfl 110 rfl ?_
        refine q_iload_n hC dX2_putBlock_110 2 rfl 111 rfl ?_
        refine q_iload hC dX2_putBlock_111 3 rfl 113 rfl ?_
        refine r_callV hC (go_V (q := (RX2, TX2, 14)) (As := [.int v1, .int v3, .int v4]) (rest := []) hC (ctX2_setColumn (zl z) g M b v1 v3 v4 _ hb hw) 3 gX2_putBlock_X2_setColumn rfl ⟨rfl, rfl⟩ hdV_X2_setColumn ⟨Nat.le_of_ble_eq_true rfl, Nat.le_of_ble_eq_true rfl⟩ hb.ob rfl rfl rfl (Nat.le_of_ble_eq_true rfl) dX2_putBlock_113) 116 rfl (fun M4 hw => ?_)
        exact r_vret hR dX2_putBlock_116 hw
      · refine q_aload_n hC dX2_putBlock_37 0 rfl 38 rfl ?_
        refine q_getR (C := RX2) (T := TX2) (N := 14) (ci := 2) hC inX2_putBlock_X2 hb.ob rfl 5 (by decide) (uX2_putBlock__o _ (List.mem_of_getElem? (l := owX2_putBlock) (i := 4) rfl)) rfl (b + 6) (fun _ => rfl) dX2_putBlock_38 41 rfl ?_
        refine q_iload hC dX2_putBlock_41 4 rfl 43 rfl ?_
        refine r_callI hC (go_N (As := [.ref (gA g (b + 6)), .int v5]) (rest := []) hC (ctX4_cell (zl z) g M (b + 6) v5 _ (hb.ar 6 (by decide) (by decide)) hw) 2 gX2_putBlock_X4_cell_n114 rfl ⟨rfl, rfl⟩ 5 rfl (uX2_putBlock__X2_setColumn _ (List.mem_of_getElem? (l := owX2_setColumn) (i := 3) rfl)) (uX2_putBlock__o _ (List.mem_of_getElem? (l := owX2_putBlock) (i := 6) rfl)) hdT_X4_cell ⟨Nat.le_of_ble_eq_true rfl, Nat.le_of_ble_eq_true rfl⟩ rfl rfl (Nat.le_of_ble_eq_true rfl) dX2_putBlock_43) 46 rfl (fun r5 M6 hw => ?_)
        refine q_istore (L' := [(6, .int r5), (0, .ref (gA g b)), (1, .int v1), (3, .int v3), (4, .int v4), (5, .int v5)]) hC dX2_putBlock_46 (by decide) rfl 48 rfl ?_
        refine q_iload hC dX2_putBlock_48 0 rfl 50 rfl ?_
        refine q_iload hC dX2_putBlock_50 0 rfl 52 rfl ?_
        refine r_callI hC (go_T (As := [.int r5]) (rest := [.int r5]) hC (ctJ6_bitCount_0f7a4 (zl z) g M6 r5 _ hw) 1 gX2_putBlock_J6_bitCount_0f7a4 rfl ⟨rfl, rfl⟩ hdT_J6_bitCount_0f7a4 ⟨Nat.le_of_ble_eq_true rfl, Nat.le_of_ble_eq_true rfl⟩ rfl rfl (Nat.le_of_ble_eq_true rfl) dX2_putBlock_52) 55 rfl (fun r7 M8 hw => ?_)
        refine q_iconst (v := 2) hC dX2_putBlock_55 rfl 56 rfl ?_
        refine q_irem hC dX2_putBlock_56 (by decide) 57 rfl ?_
        refine q_if_ne hC 66 dX2_putBlock_57 (by decide) 60 rfl hw (fun hw => ?_) (fun hw => ?_)
        · refine q_iconst (v := 0) hC dX2_putBlock_66 rfl 67 rfl ?_
          exact XX.sub [1, 2, 3, 4, 5, 0] rfl (B67 _ (fun M v4 v5 hw => ih M v4 v5 hw) M8 v4 v5 r5 0 r5 hw)
        · refine q_sipush (v := 256) hC dX2_putBlock_60 (by decide) 63 rfl ?_
          refine q_goto hC 67 dX2_putBlock_63 (by decide) ?_
          exact XX.sub [1, 2, 3, 4, 5, 0] rfl (B67 _ (fun M v4 v5 hw => ih M v4 v5 hw) M8 v4 v5 r5 256 r5 hw)
  refine q_aload_n hC dX2_putBlock_0 0 rfl 1 rfl ?_
  refine q_iload_n hC dX2_putBlock_1 1 rfl 2 rfl ?_
  refine q_iconst (v := 1) hC dX2_putBlock_2 rfl 3 rfl ?_
  refine q_iadd hC dX2_putBlock_3 4 rfl ?_
  refine q_putI (C := RX2) (T := TX2) (N := 14) (ci := 2) hC inX2_putBlock_X2 tyX2 tyX2_ok nmX2 hb.ob rfl 8 (by decide) (uX2_putBlock__o _ (List.mem_of_getElem? (l := owX2_putBlock) (i := 1) rfl)) rfl rfl rfl (fun _ => Nat.le_of_ble_eq_true rfl) (fun _ => rfl) dX2_putBlock_4 7 rfl (fun M1 eM1 => ?_)
  have hw := hw M1 eM1
  refine q_aload_n hC dX2_putBlock_7 0 rfl 8 rfl ?_
  refine q_getR (C := RX2) (T := TX2) (N := 14) (ci := 2) hC inX2_putBlock_X2 hb.ob rfl 1 (by decide) (uX2_putBlock__o _ (List.mem_of_getElem? (l := owX2_putBlock) (i := 2) rfl)) rfl (b + 2) (fun _ => rfl) dX2_putBlock_8 11 rfl ?_
  refine q_iload_n hC dX2_putBlock_11 1 rfl 12 rfl ?_
  refine q_iload_n hC dX2_putBlock_12 2 rfl 13 rfl ?_
  refine r_callV hC (go_N (As := [.ref (gA g (b + 2)), .int v1, .int v2]) (rest := []) hC (ctX4_setCell (zl z) g M1 (b + 2) v1 v2 _ (hb.ar 2 (by decide) (by decide)) hw) 3 gX2_putBlock_X4_setCell_n139 rfl ⟨rfl, rfl⟩ 7 rfl (uX2_putBlock__X2_setColumn _ (List.mem_of_getElem? (l := owX2_setColumn) (i := 3) rfl)) (uX2_putBlock__X2_setColumn _ (List.mem_of_getElem? (l := owX2_setColumn) (i := 2) rfl)) hdT_X4_setCell ⟨Nat.le_of_ble_eq_true rfl, Nat.le_of_ble_eq_true rfl⟩ rfl rfl (Nat.le_of_ble_eq_true rfl) dX2_putBlock_13) 16 rfl (fun M2 hw => ?_)
  refine q_aload_n hC dX2_putBlock_16 0 rfl 17 rfl ?_
  refine q_getR (C := RX2) (T := TX2) (N := 14) (ci := 2) hC inX2_putBlock_X2 hb.ob rfl 2 (by decide) (uX2_putBlock__o _ (List.mem_of_getElem? (l := owX2_putBlock) (i := 3) rfl)) rfl (b + 3) (fun _ => rfl) dX2_putBlock_17 20 rfl ?_
  refine q_iload_n hC dX2_putBlock_20 1 rfl 21 rfl ?_
  refine q_iload_n hC dX2_putBlock_21 3 rfl 22 rfl ?_
  refine r_callV hC (go_N (As := [.ref (gA g (b + 3)), .int v1, .int v3]) (rest := []) hC (ctX4_setCell (zl z) g M2 (b + 3) v1 v3 _ (hb.ar 3 (by decide) (by decide)) hw) 3 gX2_putBlock_X4_setCell_n139 rfl ⟨rfl, rfl⟩ 7 rfl (uX2_putBlock__X2_setColumn _ (List.mem_of_getElem? (l := owX2_setColumn) (i := 3) rfl)) (uX2_putBlock__X2_setColumn _ (List.mem_of_getElem? (l := owX2_setColumn) (i := 2) rfl)) hdT_X4_setCell ⟨Nat.le_of_ble_eq_true rfl, Nat.le_of_ble_eq_true rfl⟩ rfl rfl (Nat.le_of_ble_eq_true rfl) dX2_putBlock_22) 25 rfl (fun M3 hw => ?_)
  refine q_iconst (v := 0) hC dX2_putBlock_25 rfl 26 rfl ?_
  refine q_istore (L' := [(4, .int 0), (0, .ref (gA g b)), (1, .int v1), (2, .int v2), (3, .int v3)]) hC dX2_putBlock_26 (by decide) rfl 28 rfl ?_
  refine q_iconst (v := 0) hC dX2_putBlock_28 rfl 29 rfl ?_
  refine q_istore (L' := [(5, .int 0), (4, .int 0), (0, .ref (gA g b)), (1, .int v1), (2, .int v2), (3, .int v3)]) hC dX2_putBlock_29 (by decide) rfl 31 rfl ?_
  obtain ⟨n0, hw⟩ := hw
  exact XX.sub [2, 3, 5, 1, 0] rfl (B31 n0 M3 0 0 hw)
theorem hdV_X2_putBlock : yX2_putBlock.cls = RX2 ∧ yX2_putBlock.cls ≠ "java/lang/invoke/MethodHandle" ∧ yX2_putBlock.cls ≠ "java/lang/invoke/VarHandle" ∧ (parseMethodDescriptor yX2_putBlock.desc).map (fun d => d.parameters.length) = some 3 := by decide +kernel
theorem inX2_writeAt_X2 : ∀ w ∈ u_ws RX2 TX2 14, w ∈ wsX2_writeAt := uX2_writeAt__wsX20
set_option maxRecDepth 100000 in
set_option maxHeartbeats 4000000 in
theorem ctX2_writeAt (l : Launch) (g : GG) (M : MM) (b : Nat) (v1 : Int32) (v2 : Int32) (Q : Int32 → MM → Prop) (hb : tpl g b) (hw : wX2_writeAt Q M b v1 v2) : MI g l yX2_writeAt wsX2_writeAt (rmOf 4 93) [.ref (gA g b), .int v1, .int v2] M Q := by
  refine mk_MI (cc := cX2_writeAt) (maxL := 5) (by decide) rfl (Nat.le_of_ble_eq_true rfl) ?_
  intro z Qf hC hR
  show XX z g Qf 5 0 [(0, .ref (gA g b)), (1, .int v1), (2, .int v2)] [] M
  refine q_aload_n hC dX2_writeAt_0 0 rfl 1 rfl ?_
  refine q_iload_n hC dX2_writeAt_1 1 rfl 2 rfl ?_
  refine r_callI hC (go_V (q := (RX2, TX2, 14)) (As := [.int v1]) (rest := []) hC (ctX2_beginningAt (zl z) g M b v1 _ hb hw) 1 gX2_writeAt_X2_beginningAt rfl ⟨rfl, rfl⟩ hdV_X2_beginningAt ⟨Nat.le_of_ble_eq_true rfl, Nat.le_of_ble_eq_true rfl⟩ hb.ob rfl rfl rfl (Nat.le_of_ble_eq_true rfl) dX2_writeAt_2) 5 rfl (fun r1 M2 hw => ?_)
  refine q_istore_n (L' := [(3, .int r1), (0, .ref (gA g b)), (1, .int v1), (2, .int v2)]) hC dX2_writeAt_5 (by decide) rfl 6 rfl ?_
  refine q_aload_n hC dX2_writeAt_6 1 rfl 7 rfl ?_
  refine q_aload_n hC dX2_writeAt_7 1 rfl 8 rfl ?_
  refine q_getI (C := RX2) (T := TX2) (N := 14) (ci := 2) hC inX2_writeAt_X2 hb.ob rfl 9 (by decide) (uX2_writeAt__o _ (List.mem_of_getElem? (l := owX2_writeAt) (i := 1) rfl)) rfl (fun _ => rfl) dX2_writeAt_8 11 rfl ?_
  refine q_iload_n hC dX2_writeAt_11 0 rfl 12 rfl ?_
  refine r_callI hC (go_V (q := (RX2, TX2, 14)) (As := [.int (M2 b 9), .int r1]) (rest := []) hC (ctX2_sooner (zl z) g M2 b (M2 b 9) r1 _ hb hw) 2 gX2_writeAt_X2_sooner rfl ⟨rfl, rfl⟩ hdV_X2_sooner ⟨Nat.le_of_ble_eq_true rfl, Nat.le_of_ble_eq_true rfl⟩ hb.ob rfl rfl rfl (Nat.le_of_ble_eq_true rfl) dX2_writeAt_12) 15 rfl (fun r3 M4 hw => ?_)
  refine q_aload_n hC dX2_writeAt_15 1 rfl 16 rfl ?_
  refine q_aload_n hC dX2_writeAt_16 1 rfl 17 rfl ?_
  refine q_iload_n hC dX2_writeAt_17 3 rfl 18 rfl ?_
  refine r_callI hC (go_V (q := (RX2, TX2, 14)) (As := [.int v2]) (rest := [.ref (gA g b), .int r3]) hC (ctX2_longWith (zl z) g M4 b v2 _ hb hw) 1 gX2_writeAt_X2_longWith rfl ⟨rfl, rfl⟩ hdV_X2_longWith ⟨Nat.le_of_ble_eq_true rfl, Nat.le_of_ble_eq_true rfl⟩ hb.ob rfl rfl rfl (Nat.le_of_ble_eq_true rfl) dX2_writeAt_18) 21 rfl (fun r5 M6 hw => ?_)
  refine r_callI hC (go_V (q := (RX2, TX2, 14)) (As := [.int r5]) (rest := [.int r3]) hC (ctX2_playedThrough (zl z) g M6 b r5 _ hb hw) 1 gX2_writeAt_X2_playedThrough rfl ⟨rfl, rfl⟩ hdV_X2_playedThrough ⟨Nat.le_of_ble_eq_true rfl, Nat.le_of_ble_eq_true rfl⟩ hb.ob rfl rfl rfl (Nat.le_of_ble_eq_true rfl) dX2_writeAt_21) 24 rfl (fun r7 M8 hw => ?_)
  refine q_iadd hC dX2_writeAt_24 25 rfl ?_
  refine q_istore (L' := [(4, .int (r3 + r7)), (3, .int r1), (0, .ref (gA g b)), (1, .int v1), (2, .int v2)]) hC dX2_writeAt_25 (by decide) rfl 27 rfl ?_
  refine q_aload_n hC dX2_writeAt_27 2 rfl 28 rfl ?_
  refine q_iload_n hC dX2_writeAt_28 3 rfl 29 rfl ?_
  refine q_iload_n hC dX2_writeAt_29 1 rfl 30 rfl ?_
  refine q_iload_n hC dX2_writeAt_30 4 rfl 31 rfl ?_
  refine r_callV hC (go_V (q := (RX2, TX2, 14)) (As := [.int v1, .int r1, .int v2]) (rest := []) hC (ctX2_putBlock (zl z) g M8 b v1 r1 v2 _ hb hw) 3 gX2_writeAt_X2_putBlock rfl ⟨rfl, rfl⟩ hdV_X2_putBlock ⟨Nat.le_of_ble_eq_true rfl, Nat.le_of_ble_eq_true rfl⟩ hb.ob rfl rfl rfl (Nat.le_of_ble_eq_true rfl) dX2_writeAt_31) 34 rfl (fun M9 hw => ?_)
  refine q_aload_n hC dX2_writeAt_34 2 rfl 35 rfl ?_
  refine q_aload_n hC dX2_writeAt_35 2 rfl 36 rfl ?_
  refine q_iload_n hC dX2_writeAt_36 3 rfl 37 rfl ?_
  refine r_callI hC (go_V (q := (RX2, TX2, 14)) (As := [.int v1]) (rest := [.ref (gA g b)]) hC (ctX2_endOf (zl z) g M9 b v1 _ hb hw) 1 gX2_writeAt_X2_endOf rfl ⟨rfl, rfl⟩ hdV_X2_endOf ⟨Nat.le_of_ble_eq_true rfl, Nat.le_of_ble_eq_true rfl⟩ hb.ob rfl rfl rfl (Nat.le_of_ble_eq_true rfl) dX2_writeAt_37) 40 rfl (fun r10 M11 hw => ?_)
  refine q_putI (C := RX2) (T := TX2) (N := 14) (ci := 2) hC inX2_writeAt_X2 tyX2 tyX2_ok nmX2 hb.ob rfl 9 (by decide) (uX2_writeAt__o _ (List.mem_of_getElem? (l := owX2_writeAt) (i := 1) rfl)) rfl rfl rfl (fun _ => Nat.le_of_ble_eq_true rfl) (fun _ => rfl) dX2_writeAt_40 43 rfl (fun M12 eM12 => ?_)
  have hw := hw M12 eM12
  refine q_aload_n hC dX2_writeAt_43 2 rfl 44 rfl ?_
  refine q_dup hC dX2_writeAt_44 rfl 45 rfl ?_
  refine q_getI (C := RX2) (T := TX2) (N := 14) (ci := 2) hC inX2_writeAt_X2 hb.ob rfl 10 (by decide) (uX2_writeAt__o _ (List.mem_of_getElem? (l := owX2_writeAt) (i := 2) rfl)) rfl (fun _ => rfl) dX2_writeAt_45 48 rfl ?_
  refine q_iload hC dX2_writeAt_48 0 rfl 50 rfl ?_
  refine q_iadd hC dX2_writeAt_50 51 rfl ?_
  refine q_putI (C := RX2) (T := TX2) (N := 14) (ci := 2) hC inX2_writeAt_X2 tyX2 tyX2_ok nmX2 hb.ob rfl 10 (by decide) (uX2_writeAt__o _ (List.mem_of_getElem? (l := owX2_writeAt) (i := 2) rfl)) rfl rfl rfl (fun _ => Nat.le_of_ble_eq_true rfl) (fun _ => rfl) dX2_writeAt_51 54 rfl (fun M13 eM13 => ?_)
  have hw := hw M13 eM13
  refine q_iload hC dX2_writeAt_54 0 rfl 56 rfl ?_
  exact r_iret hR dX2_writeAt_56 hw
theorem inX2_layOutBlocks_X2 : ∀ w ∈ u_ws RX2 TX2 14, w ∈ wsX2_layOutBlocks := uX2_layOutBlocks__wsX20
set_option maxRecDepth 100000 in
set_option maxHeartbeats 4000000 in
theorem ctX2_layOutBlocks (l : Launch) (g : GG) (M : MM) (b : Nat) (Q : MM → Prop) (hb : tpl g b) (hw : wX2_layOutBlocks Q M b) : MV g l yX2_layOutBlocks wsX2_layOutBlocks (rmOf 4 85) [.ref (gA g b)] M Q := by
  refine mk_MV (cc := cX2_layOutBlocks) (maxL := 2) (by decide) rfl (Nat.le_of_ble_eq_true rfl) ?_
  intro z Qf hC hR
  show XX z g Qf 2 0 [(0, .ref (gA g b))] [] M
  have B2 : ∀ (n : Nat) (M : MM) (v1 : Int32) , wX2_layOutBlocks_2 Q b n M v1 → XX z g Qf 2 2 [(0, .ref (gA g b)), (1, .int v1)] [] M := by
    intro n
    induction n with
    | zero =>
      intro M v1 hw
      exact hw.elim
    | succ n ih =>
      intro M v1 hw
      refine q_iload_n hC dX2_layOutBlocks_2 1 rfl 3 rfl ?_
      refine q_aload_n hC dX2_layOutBlocks_3 0 rfl 4 rfl ?_
      refine q_getI (C := RX2) (T := TX2) (N := 14) (ci := 2) hC inX2_layOutBlocks_X2 hb.ob rfl 8 (by decide) (uX2_layOutBlocks__X2_hasBlock _ (List.mem_of_getElem? (l := owX2_hasBlock) (i := 1) rfl)) rfl (fun _ => rfl) dX2_layOutBlocks_4 7 rfl ?_
      refine q_icmp_ge hC 29 dX2_layOutBlocks_7 (by decide) 10 rfl hw (fun hw => ?_) (fun hw => ?_)
      · exact r_vret hR dX2_layOutBlocks_29 hw
      · refine q_aload_n hC dX2_layOutBlocks_10 0 rfl 11 rfl ?_
        refine q_getR (C := RX2) (T := TX2) (N := 14) (ci := 2) hC inX2_layOutBlocks_X2 hb.ob rfl 1 (by decide) (uX2_layOutBlocks__X2_beginOf _ (List.mem_of_getElem? (l := owX2_beginOf) (i := 1) rfl)) rfl (b + 2) (fun _ => rfl) dX2_layOutBlocks_11 14 rfl ?_
        refine q_iload_n hC dX2_layOutBlocks_14 1 rfl 15 rfl ?_
        refine q_aload_n hC dX2_layOutBlocks_15 0 rfl 16 rfl ?_
        refine q_iload_n hC dX2_layOutBlocks_16 1 rfl 17 rfl ?_
        refine r_callI hC (go_V (q := (RX2, TX2, 14)) (As := [.int v1]) (rest := [.int v1, .ref (gA g (b + 2))]) hC (ctX2_beginningAt (zl z) g M b v1 _ hb hw) 1 gX2_layOutBlocks_X2_beginningAt rfl ⟨rfl, rfl⟩ hdV_X2_beginningAt ⟨Nat.le_of_ble_eq_true rfl, Nat.le_of_ble_eq_true rfl⟩ hb.ob rfl rfl rfl (Nat.le_of_ble_eq_true rfl) dX2_layOutBlocks_17) 20 rfl (fun r1 M2 hw => ?_)
        refine r_callV hC (go_N (As := [.ref (gA g (b + 2)), .int v1, .int r1]) (rest := []) hC (ctX4_setCell (zl z) g M2 (b + 2) v1 r1 _ (hb.ar 2 (by decide) (by decide)) hw) 3 gX2_layOutBlocks_X4_setCell_n139 rfl ⟨rfl, rfl⟩ 7 rfl (uX2_layOutBlocks__X2_hasBlock _ (List.mem_of_getElem? (l := owX2_hasBlock) (i := 3) rfl)) (uX2_layOutBlocks__o _ (List.mem_of_getElem? (l := owX2_layOutBlocks) (i := 4) rfl)) hdT_X4_setCell ⟨Nat.le_of_ble_eq_true rfl, Nat.le_of_ble_eq_true rfl⟩ rfl rfl (Nat.le_of_ble_eq_true rfl) dX2_layOutBlocks_20) 23 rfl (fun M3 hw => ?_)
        refine q_iinc (v := v1 + 1) (L' := [(1, .int (v1 + 1)), (0, .ref (gA g b))]) hC dX2_layOutBlocks_23 1 rfl rfl (by decide) rfl 26 rfl ?_
        refine q_goto hC 2 dX2_layOutBlocks_26 (by decide) ?_
        exact XX.sub [1, 0] rfl (ih M3 (v1 + 1) hw)
  refine q_iconst (v := 0) hC dX2_layOutBlocks_0 rfl 1 rfl ?_
  refine q_istore_n (L' := [(1, .int 0), (0, .ref (gA g b))]) hC dX2_layOutBlocks_1 (by decide) rfl 2 rfl ?_
  obtain ⟨n0, hw⟩ := hw
  exact XX.sub [1, 0] rfl (B2 n0 M 0 hw)
theorem inX2_columnOf_X2 : ∀ w ∈ u_ws RX2 TX2 14, w ∈ wsX2_columnOf := uX2_columnOf__wsX20
set_option maxRecDepth 100000 in
set_option maxHeartbeats 4000000 in
theorem ctX2_columnOf (l : Launch) (g : GG) (M : MM) (b : Nat) (v1 : Int32) (v2 : Int32) (Q : Int32 → MM → Prop) (hb : tpl g b) (hw : wX2_columnOf Q M b v1 v2) : MI g l yX2_columnOf wsX2_columnOf (rmOf 1 21) [.ref (gA g b), .int v1, .int v2] M Q := by
  refine mk_MI (cc := cX2_columnOf) (maxL := 3) (by decide) rfl (Nat.le_of_ble_eq_true rfl) ?_
  intro z Qf hC hR
  show XX z g Qf 3 0 [(0, .ref (gA g b)), (1, .int v1), (2, .int v2)] [] M
  refine q_aload_n hC dX2_columnOf_0 0 rfl 1 rfl ?_
  refine q_getR (C := RX2) (T := TX2) (N := 14) (ci := 2) hC inX2_columnOf_X2 hb.ob rfl 3 (by decide) (uX2_columnOf__o _ (List.mem_of_getElem? (l := owX2_columnOf) (i := 1) rfl)) rfl (b + 4) (fun _ => rfl) dX2_columnOf_1 4 rfl ?_
  refine q_iload_n hC dX2_columnOf_4 1 rfl 5 rfl ?_
  refine q_bipush (v := 13) hC dX2_columnOf_5 (by decide) 7 rfl ?_
  refine q_imul hC dX2_columnOf_7 8 rfl ?_
  refine q_iload_n hC dX2_columnOf_8 2 rfl 9 rfl ?_
  refine q_iadd hC dX2_columnOf_9 10 rfl ?_
  refine r_callI hC (go_N (As := [.ref (gA g (b + 4)), .int ((v1 * (13 : Int32)) + v2)]) (rest := []) hC (ctX4_cell (zl z) g M (b + 4) ((v1 * (13 : Int32)) + v2) _ (hb.ar 4 (by decide) (by decide)) hw) 2 gX2_columnOf_X4_cell_n114 rfl ⟨rfl, rfl⟩ 5 rfl (uX2_columnOf__o _ (List.mem_of_getElem? (l := owX2_columnOf) (i := 3) rfl)) (uX2_columnOf__o _ (List.mem_of_getElem? (l := owX2_columnOf) (i := 2) rfl)) hdT_X4_cell ⟨Nat.le_of_ble_eq_true rfl, Nat.le_of_ble_eq_true rfl⟩ rfl rfl (Nat.le_of_ble_eq_true rfl) dX2_columnOf_10) 13 rfl (fun r1 M2 hw => ?_)
  exact r_iret hR dX2_columnOf_13 hw
theorem inX2_originalOf_X2 : ∀ w ∈ u_ws RX2 TX2 14, w ∈ wsX2_originalOf := uX2_originalOf__wsX20
set_option maxRecDepth 100000 in
set_option maxHeartbeats 4000000 in
theorem ctX2_originalOf (l : Launch) (g : GG) (M : MM) (b : Nat) (v1 : Int32) (v2 : Int32) (Q : Int32 → MM → Prop) (hb : tpl g b) (hw : wX2_originalOf Q M b v1 v2) : MI g l yX2_originalOf wsX2_originalOf (rmOf 1 21) [.ref (gA g b), .int v1, .int v2] M Q := by
  refine mk_MI (cc := cX2_originalOf) (maxL := 3) (by decide) rfl (Nat.le_of_ble_eq_true rfl) ?_
  intro z Qf hC hR
  show XX z g Qf 3 0 [(0, .ref (gA g b)), (1, .int v1), (2, .int v2)] [] M
  refine q_aload_n hC dX2_originalOf_0 0 rfl 1 rfl ?_
  refine q_getR (C := RX2) (T := TX2) (N := 14) (ci := 2) hC inX2_originalOf_X2 hb.ob rfl 4 (by decide) (uX2_originalOf__o _ (List.mem_of_getElem? (l := owX2_originalOf) (i := 1) rfl)) rfl (b + 5) (fun _ => rfl) dX2_originalOf_1 4 rfl ?_
  refine q_iload_n hC dX2_originalOf_4 1 rfl 5 rfl ?_
  refine q_bipush (v := 12) hC dX2_originalOf_5 (by decide) 7 rfl ?_
  refine q_imul hC dX2_originalOf_7 8 rfl ?_
  refine q_iload_n hC dX2_originalOf_8 2 rfl 9 rfl ?_
  refine q_iadd hC dX2_originalOf_9 10 rfl ?_
  refine r_callI hC (go_N (As := [.ref (gA g (b + 5)), .int ((v1 * (12 : Int32)) + v2)]) (rest := []) hC (ctX4_cell (zl z) g M (b + 5) ((v1 * (12 : Int32)) + v2) _ (hb.ar 5 (by decide) (by decide)) hw) 2 gX2_originalOf_X4_cell_n114 rfl ⟨rfl, rfl⟩ 5 rfl (uX2_originalOf__o _ (List.mem_of_getElem? (l := owX2_originalOf) (i := 3) rfl)) (uX2_originalOf__o _ (List.mem_of_getElem? (l := owX2_originalOf) (i := 2) rfl)) hdT_X4_cell ⟨Nat.le_of_ble_eq_true rfl, Nat.le_of_ble_eq_true rfl⟩ rfl rfl (Nat.le_of_ble_eq_true rfl) dX2_originalOf_10) 13 rfl (fun r1 M2 hw => ?_)
  exact r_iret hR dX2_originalOf_13 hw
theorem hdV_X2_columnOf : yX2_columnOf.cls = RX2 ∧ yX2_columnOf.cls ≠ "java/lang/invoke/MethodHandle" ∧ yX2_columnOf.cls ≠ "java/lang/invoke/VarHandle" ∧ (parseMethodDescriptor yX2_columnOf.desc).map (fun d => d.parameters.length) = some 2 := by decide +kernel
theorem hdV_X2_originalOf : yX2_originalOf.cls = RX2 ∧ yX2_originalOf.cls ≠ "java/lang/invoke/MethodHandle" ∧ yX2_originalOf.cls ≠ "java/lang/invoke/VarHandle" ∧ (parseMethodDescriptor yX2_originalOf.desc).map (fun d => d.parameters.length) = some 2 := by decide +kernel
theorem inX2_moveBlock_X2 : ∀ w ∈ u_ws RX2 TX2 14, w ∈ wsX2_moveBlock := uX2_moveBlock__wsX20
set_option maxRecDepth 100000 in
set_option maxHeartbeats 4000000 in
theorem ctX2_moveBlock (l : Launch) (g : GG) (M : MM) (b : Nat) (v1 : Int32) (v2 : Int32) (v3 : Int32) (Q : MM → Prop) (hb : tpl g b) (hw : wX2_moveBlock Q M b v1 v2 v3) : MV g l yX2_moveBlock wsX2_moveBlock (rmOf 2 45) [.ref (gA g b), .int v1, .int v2, .int v3] M Q := by
  refine mk_MV (cc := cX2_moveBlock) (maxL := 5) (by decide) rfl (Nat.le_of_ble_eq_true rfl) ?_
  intro z Qf hC hR
  show XX z g Qf 5 0 [(0, .ref (gA g b)), (1, .int v1), (2, .int v2), (3, .int v3)] [] M
  have B61 : ∀ (n : Nat) (M : MM) (v4 : Int32) , wX2_moveBlock_61 Q b v1 v2 v3 n M v4 → XX z g Qf 5 61 [(0, .ref (gA g b)), (1, .int v1), (2, .int v2), (4, .int v4)] [] M := by
    intro n
    induction n with
    | zero =>
      intro M v4 hw
      exact hw.elim
    | succ n ih =>
      intro M v4 hw
      refine q_iload hC dX2_moveBlock_61 3 rfl 63 rfl ?_
      refine q_bipush (v := 12) hC dX2_moveBlock_63 (by decide) 65 rfl ?_
      refine q_icmp_ge hC 95 dX2_moveBlock_65 (by decide) 68 rfl hw (fun hw => ?_) (fun hw => ?_)
      · exact r_vret hR dX2_moveBlock_95 hw
      · refine q_aload_n hC dX2_moveBlock_68 0 rfl 69 rfl ?_
        refine q_getR (C := RX2) (T := TX2) (N := 14) (ci := 2) hC inX2_moveBlock_X2 hb.ob rfl 4 (by decide) (uX2_moveBlock__X2_originalOf _ (List.mem_of_getElem? (l := owX2_originalOf) (i := 1) rfl)) rfl (b + 5) (fun _ => rfl) dX2_moveBlock_69 72 rfl ?_
        refine q_iload_n hC dX2_moveBlock_72 2 rfl 73 rfl ?_
        refine q_bipush (v := 12) hC dX2_moveBlock_73 (by decide) 75 rfl ?_
        refine q_imul hC dX2_moveBlock_75 76 rfl ?_
        refine q_iload hC dX2_moveBlock_76 3 rfl 78 rfl ?_
        refine q_iadd hC dX2_moveBlock_78 79 rfl ?_
        refine q_aload_n hC dX2_moveBlock_79 0 rfl 80 rfl ?_
        refine q_iload_n hC dX2_moveBlock_80 1 rfl 81 rfl ?_
        refine q_iload hC dX2_moveBlock_81 3 rfl 83 rfl ?_
        refine r_callI hC (go_V (q := (RX2, TX2, 14)) (As := [.int v1, .int v4]) (rest := [.int ((v2 * (12 : Int32)) + v4), .ref (gA g (b + 5))]) hC (ctX2_originalOf (zl z) g M b v1 v4 _ hb hw) 2 gX2_moveBlock_X2_originalOf rfl ⟨rfl, rfl⟩ hdV_X2_originalOf ⟨Nat.le_of_ble_eq_true rfl, Nat.le_of_ble_eq_true rfl⟩ hb.ob rfl rfl rfl (Nat.le_of_ble_eq_true rfl) dX2_moveBlock_83) 86 rfl (fun r10 M11 hw => ?_)
        refine r_callV hC (go_N (As := [.ref (gA g (b + 5)), .int ((v2 * (12 : Int32)) + v4), .int r10]) (rest := []) hC (ctX4_setCell (zl z) g M11 (b + 5) ((v2 * (12 : Int32)) + v4) r10 _ (hb.ar 5 (by decide) (by decide)) hw) 3 gX2_moveBlock_X4_setCell_n139 rfl ⟨rfl, rfl⟩ 7 rfl (uX2_moveBlock__X2_beginOf _ (List.mem_of_getElem? (l := owX2_beginOf) (i := 3) rfl)) (uX2_moveBlock__X2_setColumn _ (List.mem_of_getElem? (l := owX2_setColumn) (i := 2) rfl)) hdT_X4_setCell ⟨Nat.le_of_ble_eq_true rfl, Nat.le_of_ble_eq_true rfl⟩ rfl rfl (Nat.le_of_ble_eq_true rfl) dX2_moveBlock_86) 89 rfl (fun M12 hw => ?_)
        refine q_iinc (v := v4 + 1) (L' := [(4, .int (v4 + 1)), (0, .ref (gA g b)), (1, .int v1), (2, .int v2)]) hC dX2_moveBlock_89 3 rfl rfl (by decide) rfl 92 rfl ?_
        refine q_goto hC 61 dX2_moveBlock_92 (by decide) ?_
        exact XX.sub [1, 2, 3, 0] rfl (ih M12 (v4 + 1) hw)
  have B31 : ∀ (n : Nat) (M : MM) (v4 : Int32) , wX2_moveBlock_31 Q b v1 v2 v3 n M v4 → XX z g Qf 5 31 [(0, .ref (gA g b)), (1, .int v1), (2, .int v2), (4, .int v4)] [] M := by
    intro n
    induction n with
    | zero =>
      intro M v4 hw
      exact hw.elim
    | succ n ih =>
      intro M v4 hw
      refine q_iload hC dX2_moveBlock_31 3 rfl 33 rfl ?_
      refine q_bipush (v := 13) hC dX2_moveBlock_33 (by decide) 35 rfl ?_
      refine q_icmp_ge hC 58 dX2_moveBlock_35 (by decide) 38 rfl hw (fun hw => ?_) (fun hw => ?_)
      · refine q_iconst (v := 0) hC dX2_moveBlock_58 rfl 59 rfl ?_
        refine q_istore (L' := [(4, .int 0), (0, .ref (gA g b)), (1, .int v1), (2, .int v2)]) hC dX2_moveBlock_59 (by decide) rfl 61 rfl ?_
        obtain ⟨n0, hw⟩ := hw
        exact XX.sub [1, 2, 3, 0] rfl (B61 n0 M 0 hw)
      · refine q_aload_n hC dX2_moveBlock_38 0 rfl 39 rfl ?_
        refine q_iload_n hC dX2_moveBlock_39 2 rfl 40 rfl ?_
        refine q_iload hC dX2_moveBlock_40 3 rfl 42 rfl ?_
        refine q_aload_n hC dX2_moveBlock_42 0 rfl 43 rfl ?_
        refine q_iload_n hC dX2_moveBlock_43 1 rfl 44 rfl ?_
        refine q_iload hC dX2_moveBlock_44 3 rfl 46 rfl ?_
        refine r_callI hC (go_V (q := (RX2, TX2, 14)) (As := [.int v1, .int v4]) (rest := [.int v4, .int v2, .ref (gA g b)]) hC (ctX2_columnOf (zl z) g M b v1 v4 _ hb hw) 2 gX2_moveBlock_X2_columnOf rfl ⟨rfl, rfl⟩ hdV_X2_columnOf ⟨Nat.le_of_ble_eq_true rfl, Nat.le_of_ble_eq_true rfl⟩ hb.ob rfl rfl rfl (Nat.le_of_ble_eq_true rfl) dX2_moveBlock_46) 49 rfl (fun r7 M8 hw => ?_)
        refine r_callV hC (go_V (q := (RX2, TX2, 14)) (As := [.int v2, .int v4, .int r7]) (rest := []) hC (ctX2_setColumn (zl z) g M8 b v2 v4 r7 _ hb hw) 3 gX2_moveBlock_X2_setColumn rfl ⟨rfl, rfl⟩ hdV_X2_setColumn ⟨Nat.le_of_ble_eq_true rfl, Nat.le_of_ble_eq_true rfl⟩ hb.ob rfl rfl rfl (Nat.le_of_ble_eq_true rfl) dX2_moveBlock_49) 52 rfl (fun M9 hw => ?_)
        refine q_iinc (v := v4 + 1) (L' := [(4, .int (v4 + 1)), (0, .ref (gA g b)), (1, .int v1), (2, .int v2)]) hC dX2_moveBlock_52 3 rfl rfl (by decide) rfl 55 rfl ?_
        refine q_goto hC 31 dX2_moveBlock_55 (by decide) ?_
        exact XX.sub [1, 2, 3, 0] rfl (ih M9 (v4 + 1) hw)
  refine q_aload_n hC dX2_moveBlock_0 0 rfl 1 rfl ?_
  refine q_getR (C := RX2) (T := TX2) (N := 14) (ci := 2) hC inX2_moveBlock_X2 hb.ob rfl 1 (by decide) (uX2_moveBlock__X2_beginOf _ (List.mem_of_getElem? (l := owX2_beginOf) (i := 1) rfl)) rfl (b + 2) (fun _ => rfl) dX2_moveBlock_1 4 rfl ?_
  refine q_iload_n hC dX2_moveBlock_4 2 rfl 5 rfl ?_
  refine q_aload_n hC dX2_moveBlock_5 0 rfl 6 rfl ?_
  refine q_iload_n hC dX2_moveBlock_6 1 rfl 7 rfl ?_
  refine r_callI hC (go_V (q := (RX2, TX2, 14)) (As := [.int v1]) (rest := [.int v2, .ref (gA g (b + 2))]) hC (ctX2_beginOf (zl z) g M b v1 _ hb hw) 1 gX2_moveBlock_X2_beginOf rfl ⟨rfl, rfl⟩ hdV_X2_beginOf ⟨Nat.le_of_ble_eq_true rfl, Nat.le_of_ble_eq_true rfl⟩ hb.ob rfl rfl rfl (Nat.le_of_ble_eq_true rfl) dX2_moveBlock_7) 10 rfl (fun r1 M2 hw => ?_)
  refine q_iload_n hC dX2_moveBlock_10 3 rfl 11 rfl ?_
  refine q_isub hC dX2_moveBlock_11 12 rfl ?_
  refine r_callV hC (go_N (As := [.ref (gA g (b + 2)), .int v2, .int (r1 - v3)]) (rest := []) hC (ctX4_setCell (zl z) g M2 (b + 2) v2 (r1 - v3) _ (hb.ar 2 (by decide) (by decide)) hw) 3 gX2_moveBlock_X4_setCell_n139 rfl ⟨rfl, rfl⟩ 7 rfl (uX2_moveBlock__X2_beginOf _ (List.mem_of_getElem? (l := owX2_beginOf) (i := 3) rfl)) (uX2_moveBlock__X2_setColumn _ (List.mem_of_getElem? (l := owX2_setColumn) (i := 2) rfl)) hdT_X4_setCell ⟨Nat.le_of_ble_eq_true rfl, Nat.le_of_ble_eq_true rfl⟩ rfl rfl (Nat.le_of_ble_eq_true rfl) dX2_moveBlock_12) 15 rfl (fun M3 hw => ?_)
  refine q_aload_n hC dX2_moveBlock_15 0 rfl 16 rfl ?_
  refine q_getR (C := RX2) (T := TX2) (N := 14) (ci := 2) hC inX2_moveBlock_X2 hb.ob rfl 2 (by decide) (uX2_moveBlock__X2_sizeOf _ (List.mem_of_getElem? (l := owX2_sizeOf) (i := 1) rfl)) rfl (b + 3) (fun _ => rfl) dX2_moveBlock_16 19 rfl ?_
  refine q_iload_n hC dX2_moveBlock_19 2 rfl 20 rfl ?_
  refine q_aload_n hC dX2_moveBlock_20 0 rfl 21 rfl ?_
  refine q_iload_n hC dX2_moveBlock_21 1 rfl 22 rfl ?_
  refine r_callI hC (go_V (q := (RX2, TX2, 14)) (As := [.int v1]) (rest := [.int v2, .ref (gA g (b + 3))]) hC (ctX2_sizeOf (zl z) g M3 b v1 _ hb hw) 1 gX2_moveBlock_X2_sizeOf rfl ⟨rfl, rfl⟩ hdV_X2_sizeOf ⟨Nat.le_of_ble_eq_true rfl, Nat.le_of_ble_eq_true rfl⟩ hb.ob rfl rfl rfl (Nat.le_of_ble_eq_true rfl) dX2_moveBlock_22) 25 rfl (fun r4 M5 hw => ?_)
  refine r_callV hC (go_N (As := [.ref (gA g (b + 3)), .int v2, .int r4]) (rest := []) hC (ctX4_setCell (zl z) g M5 (b + 3) v2 r4 _ (hb.ar 3 (by decide) (by decide)) hw) 3 gX2_moveBlock_X4_setCell_n139 rfl ⟨rfl, rfl⟩ 7 rfl (uX2_moveBlock__X2_beginOf _ (List.mem_of_getElem? (l := owX2_beginOf) (i := 3) rfl)) (uX2_moveBlock__X2_setColumn _ (List.mem_of_getElem? (l := owX2_setColumn) (i := 2) rfl)) hdT_X4_setCell ⟨Nat.le_of_ble_eq_true rfl, Nat.le_of_ble_eq_true rfl⟩ rfl rfl (Nat.le_of_ble_eq_true rfl) dX2_moveBlock_25) 28 rfl (fun M6 hw => ?_)
  refine q_iconst (v := 0) hC dX2_moveBlock_28 rfl 29 rfl ?_
  refine q_istore (L' := [(4, .int 0), (0, .ref (gA g b)), (1, .int v1), (2, .int v2), (3, .int v3)]) hC dX2_moveBlock_29 (by decide) rfl 31 rfl ?_
  obtain ⟨n0, hw⟩ := hw
  exact XX.sub [1, 2, 3, 0] rfl (B31 n0 M6 0 hw)
theorem hdV_X2_moveBlock : yX2_moveBlock.cls = RX2 ∧ yX2_moveBlock.cls ≠ "java/lang/invoke/MethodHandle" ∧ yX2_moveBlock.cls ≠ "java/lang/invoke/VarHandle" ∧ (parseMethodDescriptor yX2_moveBlock.desc).map (fun d => d.parameters.length) = some 3 := by decide +kernel
theorem inX2_cutOut_X2 : ∀ w ∈ u_ws RX2 TX2 14, w ∈ wsX2_cutOut := uX2_cutOut__wsX20
set_option maxRecDepth 100000 in
set_option maxHeartbeats 4000000 in
theorem ctX2_cutOut (l : Launch) (g : GG) (M : MM) (b : Nat) (v1 : Int32) (v2 : Int32) (Q : Int32 → MM → Prop) (hb : tpl g b) (hw : wX2_cutOut Q M b v1 v2) : MI g l yX2_cutOut wsX2_cutOut (rmOf 3 69) [.ref (gA g b), .int v1, .int v2] M Q := by
  refine mk_MI (cc := cX2_cutOut) (maxL := 7) (by decide) rfl (Nat.le_of_ble_eq_true rfl) ?_
  intro z Qf hC hR
  show XX z g Qf 7 0 [(0, .ref (gA g b)), (1, .int v1), (2, .int v2)] [] M
  have B139 : ∀ (M : MM) (v3 : Int32) (v4 : Int32), wX2_cutOut_139 Q b v1 v2 M v3 v4 → XX z g Qf 7 139 [(3, .int v3), (4, .int v4)] [] M := by
    intro M v3 v4 hw
    refine q_iload hC dX2_cutOut_139 1 rfl 141 rfl ?_
    refine q_iload_n hC dX2_cutOut_141 0 rfl 142 rfl ?_
    refine q_isub hC dX2_cutOut_142 143 rfl ?_
    exact r_iret hR dX2_cutOut_143 hw
  have B75 : ∀ (K11 : MM → Int32 → Int32 → Int32 → Prop) (hK11 : ∀ (M : MM) (v3 : Int32) (v4 : Int32) (v5 : Int32) , K11 M v3 v4 v5 → XX z g Qf 7 11 [(0, .ref (gA g b)), (1, .int v1), (2, .int v2), (3, .int v3), (4, .int v4), (5, .int v5)] [] M) (M : MM) (v3 : Int32) (v4 : Int32) (v5 : Int32), wX2_cutOut_75 Q K11 b v1 v2 M v3 v4 v5 → XX z g Qf 7 75 [(0, .ref (gA g b)), (1, .int v1), (2, .int v2), (3, .int v3), (4, .int v4), (5, .int v5)] [] M := by
    intro K11 hK11 M v3 v4 v5 hw
    refine q_iinc (v := v5 + 1) (L' := [(5, .int (v5 + 1)), (0, .ref (gA g b)), (1, .int v1), (2, .int v2), (3, .int v3), (4, .int v4)]) hC dX2_cutOut_75 5 rfl rfl (by decide) rfl 78 rfl ?_
    refine q_goto hC 11 dX2_cutOut_78 (by decide) ?_
    exact XX.sub [1, 2, 3, 4, 5, 0] rfl (hK11 M v3 v4 (v5 + 1) hw)
  have B69 : ∀ (K11 : MM → Int32 → Int32 → Int32 → Prop) (hK11 : ∀ (M : MM) (v3 : Int32) (v4 : Int32) (v5 : Int32) , K11 M v3 v4 v5 → XX z g Qf 7 11 [(0, .ref (gA g b)), (1, .int v1), (2, .int v2), (3, .int v3), (4, .int v4), (5, .int v5)] [] M) (M : MM) (v3 : Int32) (v4 : Int32) (v5 : Int32) (p0 : Int32) (p1 : Int32) (p2 : Int32), wX2_cutOut_69 Q K11 b v1 v2 M v3 v4 v5 p0 p1 p2 → XX z g Qf 7 69 [(0, .ref (gA g b)), (1, .int v1), (2, .int v2), (3, .int v3), (4, .int v4), (5, .int v5)] [.int p0, .int p1, .int p2, .ref (gA g b)] M := by
    intro K11 hK11 M v3 v4 v5 p0 p1 p2 hw
    refine r_callV hC (go_V (q := (RX2, TX2, 14)) (As := [.int p2, .int p1, .int p0]) (rest := []) hC (ctX2_moveBlock (zl z) g M b p2 p1 p0 _ hb hw) 3 gX2_cutOut_X2_moveBlock rfl ⟨rfl, rfl⟩ hdV_X2_moveBlock ⟨Nat.le_of_ble_eq_true rfl, Nat.le_of_ble_eq_true rfl⟩ hb.ob rfl rfl rfl (Nat.le_of_ble_eq_true rfl) dX2_cutOut_69) 72 rfl (fun M11 hw => ?_)
    refine q_iinc (v := v3 + 1) (L' := [(3, .int (v3 + 1)), (0, .ref (gA g b)), (1, .int v1), (2, .int v2), (4, .int v4), (5, .int v5)]) hC dX2_cutOut_72 3 rfl rfl (by decide) rfl 75 rfl ?_
    exact XX.sub [1, 2, 3, 0, 4, 5] rfl (B75 _ hK11 M11 (v3 + 1) v4 v5 hw)
  have B53 : ∀ (K11 : MM → Int32 → Int32 → Int32 → Prop) (hK11 : ∀ (M : MM) (v3 : Int32) (v4 : Int32) (v5 : Int32) , K11 M v3 v4 v5 → XX z g Qf 7 11 [(0, .ref (gA g b)), (1, .int v1), (2, .int v2), (3, .int v3), (4, .int v4), (5, .int v5)] [] M) (M : MM) (v3 : Int32) (v4 : Int32) (v5 : Int32) (v6 : Int32), wX2_cutOut_53 Q K11 b v1 v2 M v3 v4 v5 v6 → XX z g Qf 7 53 [(0, .ref (gA g b)), (1, .int v1), (2, .int v2), (3, .int v3), (4, .int v4), (5, .int v5), (6, .int v6)] [] M := by
    intro K11 hK11 M v3 v4 v5 v6 hw
    refine q_aload_n hC dX2_cutOut_53 0 rfl 54 rfl ?_
    refine q_iload hC dX2_cutOut_54 5 rfl 56 rfl ?_
    refine q_iload_n hC dX2_cutOut_56 3 rfl 57 rfl ?_
    refine q_iload hC dX2_cutOut_57 6 rfl 59 rfl ?_
    refine q_if_eq hC 68 dX2_cutOut_59 (by decide) 62 rfl hw (fun hw => ?_) (fun hw => ?_)
    · refine q_iconst (v := 0) hC dX2_cutOut_68 rfl 69 rfl ?_
      exact XX.sub [0, 1, 2, 3, 4, 5] rfl (B69 _ hK11 M v3 v4 v5 0 v3 v5 hw)
    · refine q_iload_n hC dX2_cutOut_62 2 rfl 63 rfl ?_
      refine q_iload_n hC dX2_cutOut_63 1 rfl 64 rfl ?_
      refine q_isub hC dX2_cutOut_64 65 rfl ?_
      refine q_goto hC 69 dX2_cutOut_65 (by decide) ?_
      exact XX.sub [0, 1, 2, 3, 4, 5] rfl (B69 _ hK11 M v3 v4 v5 (v2 - v1) v3 v5 hw)
  have B33 : ∀ (K11 : MM → Int32 → Int32 → Int32 → Prop) (hK11 : ∀ (M : MM) (v3 : Int32) (v4 : Int32) (v5 : Int32) , K11 M v3 v4 v5 → XX z g Qf 7 11 [(0, .ref (gA g b)), (1, .int v1), (2, .int v2), (3, .int v3), (4, .int v4), (5, .int v5)] [] M) (M : MM) (v3 : Int32) (v4 : Int32) (v5 : Int32) (p0 : Int32), wX2_cutOut_33 Q K11 b v1 v2 M v3 v4 v5 p0 → XX z g Qf 7 33 [(0, .ref (gA g b)), (1, .int v1), (2, .int v2), (3, .int v3), (4, .int v4), (5, .int v5)] [.int p0] M := by
    intro K11 hK11 M v3 v4 v5 p0 hw
    refine q_istore (L' := [(6, .int p0), (0, .ref (gA g b)), (1, .int v1), (2, .int v2), (3, .int v3), (4, .int v4), (5, .int v5)]) hC dX2_cutOut_33 (by decide) rfl 35 rfl ?_
    refine q_iload hC dX2_cutOut_35 0 rfl 37 rfl ?_
    refine q_if_ne hC 53 dX2_cutOut_37 (by decide) 40 rfl hw (fun hw => ?_) (fun hw => ?_)
    · exact XX.sub [1, 2, 3, 4, 5, 6, 0] rfl (B53 _ hK11 M v3 v4 v5 p0 hw)
    · refine q_aload_n hC dX2_cutOut_40 1 rfl 41 rfl ?_
      refine q_iload hC dX2_cutOut_41 6 rfl 43 rfl ?_
      refine r_callI hC (go_V (q := (RX2, TX2, 14)) (As := [.int v5]) (rest := []) hC (ctX2_endOf (zl z) g M b v5 _ hb hw) 1 gX2_cutOut_X2_endOf rfl ⟨rfl, rfl⟩ hdV_X2_endOf ⟨Nat.le_of_ble_eq_true rfl, Nat.le_of_ble_eq_true rfl⟩ hb.ob rfl rfl rfl (Nat.le_of_ble_eq_true rfl) dX2_cutOut_43) 46 rfl (fun r9 M10 hw => ?_)
      refine q_iload_n hC dX2_cutOut_46 2 rfl 47 rfl ?_
      refine q_icmp_le hC 53 dX2_cutOut_47 (by decide) 50 rfl hw (fun hw => ?_) (fun hw => ?_)
      · exact XX.sub [1, 2, 3, 4, 5, 6, 0] rfl (B53 _ hK11 M10 v3 v4 v5 p0 hw)
      · refine q_goto hC 75 dX2_cutOut_50 (by decide) ?_
        exact XX.sub [1, 2, 3, 4, 5, 6] rfl (B75 _ hK11 M10 v3 v4 v5 hw)
  have B11 : ∀ (n : Nat) (M : MM) (v3 : Int32) (v4 : Int32) (v5 : Int32) , wX2_cutOut_11 Q b v1 v2 n M v3 v4 v5 → XX z g Qf 7 11 [(0, .ref (gA g b)), (1, .int v1), (2, .int v2), (3, .int v3), (4, .int v4), (5, .int v5)] [] M := by
    intro n
    induction n with
    | zero =>
      intro M v3 v4 v5 hw
      exact hw.elim
    | succ n ih =>
      intro M v3 v4 v5 hw
      refine q_iload hC dX2_cutOut_11 5 rfl 13 rfl ?_
      refine q_iload hC dX2_cutOut_13 4 rfl 15 rfl ?_
      refine q_icmp_ge hC 81 dX2_cutOut_15 (by decide) 18 rfl hw (fun hw => ?_) (fun hw => ?_)
      · refine q_aload_n hC dX2_cutOut_81 0 rfl 82 rfl ?_
        refine q_iload_n hC dX2_cutOut_82 3 rfl 83 rfl ?_
        refine q_putI (C := RX2) (T := TX2) (N := 14) (ci := 2) hC inX2_cutOut_X2 tyX2 tyX2_ok nmX2 hb.ob rfl 8 (by decide) (uX2_cutOut__X2_hasBlock _ (List.mem_of_getElem? (l := owX2_hasBlock) (i := 1) rfl)) rfl rfl rfl (fun _ => Nat.le_of_ble_eq_true rfl) (fun _ => rfl) dX2_cutOut_83 86 rfl (fun M1 eM1 => ?_)
        have hw := hw M1 eM1
        refine q_aload_n hC dX2_cutOut_86 0 rfl 87 rfl ?_
        refine q_getR (C := RX2) (T := TX2) (N := 14) (ci := 2) hC inX2_cutOut_X2 hb.ob rfl 0 (by decide) (uX2_cutOut__X2_ruled _ (List.mem_of_getElem? (l := owX2_ruled) (i := 1) rfl)) rfl (b + 1) (fun _ => rfl) dX2_cutOut_87 90 rfl ?_
        refine q_iconst (v := 0) hC dX2_cutOut_90 rfl 91 rfl ?_
        refine q_aload_n hC dX2_cutOut_91 0 rfl 92 rfl ?_
        refine q_iconst (v := 0) hC dX2_cutOut_92 rfl 93 rfl ?_
        refine r_callI hC (go_V (q := (RX2, TX2, 14)) (As := [.int 0]) (rest := [.int 0, .ref (gA g (b + 1))]) hC (ctX2_ruled (zl z) g M1 b 0 _ hb hw) 1 gX2_cutOut_X2_ruled rfl ⟨rfl, rfl⟩ hdV_X2_ruled ⟨Nat.le_of_ble_eq_true rfl, Nat.le_of_ble_eq_true rfl⟩ hb.ob rfl rfl rfl (Nat.le_of_ble_eq_true rfl) dX2_cutOut_93) 96 rfl (fun r2 M3 hw => ?_)
        refine q_iload_n hC dX2_cutOut_96 2 rfl 97 rfl ?_
        refine q_iload_n hC dX2_cutOut_97 1 rfl 98 rfl ?_
        refine q_isub hC dX2_cutOut_98 99 rfl ?_
        refine q_isub hC dX2_cutOut_99 100 rfl ?_
        refine r_callV hC (go_N (As := [.ref (gA g (b + 1)), .int 0, .int (r2 - (v2 - v1))]) (rest := []) hC (ctX4_setCell (zl z) g M3 (b + 1) 0 (r2 - (v2 - v1)) _ (hb.ar 1 (by decide) (by decide)) hw) 3 gX2_cutOut_X4_setCell_n139 rfl ⟨rfl, rfl⟩ 7 rfl (uX2_cutOut__X2_beginOf _ (List.mem_of_getElem? (l := owX2_beginOf) (i := 3) rfl)) (uX2_cutOut__X2_setColumn _ (List.mem_of_getElem? (l := owX2_setColumn) (i := 2) rfl)) hdT_X4_setCell ⟨Nat.le_of_ble_eq_true rfl, Nat.le_of_ble_eq_true rfl⟩ rfl rfl (Nat.le_of_ble_eq_true rfl) dX2_cutOut_100) 103 rfl (fun M4 hw => ?_)
        refine q_aload_n hC dX2_cutOut_103 0 rfl 104 rfl ?_
        refine q_getI (C := RX2) (T := TX2) (N := 14) (ci := 2) hC inX2_cutOut_X2 hb.ob rfl 9 (by decide) (uX2_cutOut__o _ (List.mem_of_getElem? (l := owX2_cutOut) (i := 1) rfl)) rfl (fun _ => rfl) dX2_cutOut_104 107 rfl ?_
        refine q_iload_n hC dX2_cutOut_107 2 rfl 108 rfl ?_
        refine q_icmp_lt hC 126 dX2_cutOut_108 (by decide) 111 rfl hw (fun hw => ?_) (fun hw => ?_)
        · refine q_aload_n hC dX2_cutOut_126 0 rfl 127 rfl ?_
          refine q_getI (C := RX2) (T := TX2) (N := 14) (ci := 2) hC inX2_cutOut_X2 hb.ob rfl 9 (by decide) (uX2_cutOut__o _ (List.mem_of_getElem? (l := owX2_cutOut) (i := 1) rfl)) rfl (fun _ => rfl) dX2_cutOut_127 130 rfl ?_
          refine q_iload_n hC dX2_cutOut_130 1 rfl 131 rfl ?_
          refine q_icmp_le hC 139 dX2_cutOut_131 (by decide) 134 rfl hw (fun hw => ?_) (fun hw => ?_)
          · exact XX.sub [3, 4] rfl (B139 M4 v3 v4 hw)
          · refine q_aload_n hC dX2_cutOut_134 0 rfl 135 rfl ?_
            refine q_iload_n hC dX2_cutOut_135 1 rfl 136 rfl ?_
            refine q_putI (C := RX2) (T := TX2) (N := 14) (ci := 2) hC inX2_cutOut_X2 tyX2 tyX2_ok nmX2 hb.ob rfl 9 (by decide) (uX2_cutOut__o _ (List.mem_of_getElem? (l := owX2_cutOut) (i := 1) rfl)) rfl rfl rfl (fun _ => Nat.le_of_ble_eq_true rfl) (fun _ => rfl) dX2_cutOut_136 139 rfl (fun M5 eM5 => ?_)
            have hw := hw M5 eM5
            exact XX.sub [3, 4] rfl (B139 M5 v3 v4 hw)
        · refine q_aload_n hC dX2_cutOut_111 0 rfl 112 rfl ?_
          refine q_dup hC dX2_cutOut_112 rfl 113 rfl ?_
          refine q_getI (C := RX2) (T := TX2) (N := 14) (ci := 2) hC inX2_cutOut_X2 hb.ob rfl 9 (by decide) (uX2_cutOut__o _ (List.mem_of_getElem? (l := owX2_cutOut) (i := 1) rfl)) rfl (fun _ => rfl) dX2_cutOut_113 116 rfl ?_
          refine q_iload_n hC dX2_cutOut_116 2 rfl 117 rfl ?_
          refine q_iload_n hC dX2_cutOut_117 1 rfl 118 rfl ?_
          refine q_isub hC dX2_cutOut_118 119 rfl ?_
          refine q_isub hC dX2_cutOut_119 120 rfl ?_
          refine q_putI (C := RX2) (T := TX2) (N := 14) (ci := 2) hC inX2_cutOut_X2 tyX2 tyX2_ok nmX2 hb.ob rfl 9 (by decide) (uX2_cutOut__o _ (List.mem_of_getElem? (l := owX2_cutOut) (i := 1) rfl)) rfl rfl rfl (fun _ => Nat.le_of_ble_eq_true rfl) (fun _ => rfl) dX2_cutOut_120 123 rfl (fun M6 eM6 => ?_)
          have hw := hw M6 eM6
          refine q_goto hC 139 dX2_cutOut_123 (by decide) ?_
          exact XX.sub [3, 4] rfl (B139 M6 v3 v4 hw)
      · refine q_aload_n hC dX2_cutOut_18 0 rfl 19 rfl ?_
        refine q_iload hC dX2_cutOut_19 5 rfl 21 rfl ?_
        refine r_callI hC (go_V (q := (RX2, TX2, 14)) (As := [.int v5]) (rest := []) hC (ctX2_beginOf (zl z) g M b v5 _ hb hw) 1 gX2_cutOut_X2_beginOf rfl ⟨rfl, rfl⟩ hdV_X2_beginOf ⟨Nat.le_of_ble_eq_true rfl, Nat.le_of_ble_eq_true rfl⟩ hb.ob rfl rfl rfl (Nat.le_of_ble_eq_true rfl) dX2_cutOut_21) 24 rfl (fun r7 M8 hw => ?_)
        refine q_iload_n hC dX2_cutOut_24 2 rfl 25 rfl ?_
        refine q_icmp_lt hC 32 dX2_cutOut_25 (by decide) 28 rfl hw (fun hw => ?_) (fun hw => ?_)
        · refine q_iconst (v := 0) hC dX2_cutOut_32 rfl 33 rfl ?_
          exact XX.sub [0, 1, 2, 3, 4, 5] rfl (B33 _ (fun M v3 v4 v5 hw => ih M v3 v4 v5 hw) M8 v3 v4 v5 0 hw)
        · refine q_iconst (v := 1) hC dX2_cutOut_28 rfl 29 rfl ?_
          refine q_goto hC 33 dX2_cutOut_29 (by decide) ?_
          exact XX.sub [0, 1, 2, 3, 4, 5] rfl (B33 _ (fun M v3 v4 v5 hw => ih M v3 v4 v5 hw) M8 v3 v4 v5 1 hw)
  refine q_iconst (v := 0) hC dX2_cutOut_0 rfl 1 rfl ?_
  refine q_istore_n (L' := [(3, .int 0), (0, .ref (gA g b)), (1, .int v1), (2, .int v2)]) hC dX2_cutOut_1 (by decide) rfl 2 rfl ?_
  refine q_aload_n hC dX2_cutOut_2 1 rfl 3 rfl ?_
  refine q_getI (C := RX2) (T := TX2) (N := 14) (ci := 2) hC inX2_cutOut_X2 hb.ob rfl 8 (by decide) (uX2_cutOut__X2_hasBlock _ (List.mem_of_getElem? (l := owX2_hasBlock) (i := 1) rfl)) rfl (fun _ => rfl) dX2_cutOut_3 6 rfl ?_
  refine q_istore (L' := [(4, .int (M b 8)), (3, .int 0), (0, .ref (gA g b)), (1, .int v1), (2, .int v2)]) hC dX2_cutOut_6 (by decide) rfl 8 rfl ?_
  refine q_iconst (v := 0) hC dX2_cutOut_8 rfl 9 rfl ?_
  refine q_istore (L' := [(5, .int 0), (4, .int (M b 8)), (3, .int 0), (0, .ref (gA g b)), (1, .int v1), (2, .int v2)]) hC dX2_cutOut_9 (by decide) rfl 11 rfl ?_
  obtain ⟨n0, hw⟩ := hw
  exact XX.sub [3, 4, 5, 2, 1, 0] rfl (B11 n0 M 0 (M b 8) 0 hw)
set_option maxRecDepth 100000 in
set_option maxHeartbeats 4000000 in
theorem ctX2_hasColumn (l : Launch) (g : GG) (M : MM) (b : Nat) (v1 : Int32) (v2 : Int32) (Q : Int32 → MM → Prop) (hb : tpl g b) (hw : wX2_hasColumn Q M b v1 v2) : MI g l yX2_hasColumn wsX2_hasColumn (rmOf 3 63) [.ref (gA g b), .int v1, .int v2] M Q := by
  refine mk_MZ (cc := cX2_hasColumn) (maxL := 3) (by decide) rfl (Nat.le_of_ble_eq_true rfl) ?_
  intro z Qf hC hR
  show XX z g Qf 3 0 [(0, .ref (gA g b)), (1, .int v1), (2, .int v2)] [] M
  have B33 : ∀ (M : MM), wX2_hasColumn_33 Q b v1 v2 M → XX z g Qf 3 33 [] [] M := by
    intro M hw
    refine q_iconst (v := 0) hC dX2_hasColumn_33 rfl 34 rfl ?_
    exact r_iret hR dX2_hasColumn_34 ⟨nb_0, hw⟩
  refine q_aload_n hC dX2_hasColumn_0 0 rfl 1 rfl ?_
  refine q_iload_n hC dX2_hasColumn_1 1 rfl 2 rfl ?_
  refine r_callI hC (go_V (q := (RX2, TX2, 14)) (As := [.int v1]) (rest := []) hC (ctX2_hasBlock (zl z) g M b v1 _ hb hw) 1 gX2_hasColumn_X2_hasBlock rfl ⟨rfl, rfl⟩ hdV_X2_hasBlock ⟨Nat.le_of_ble_eq_true rfl, Nat.le_of_ble_eq_true rfl⟩ hb.ob rfl rfl rfl (Nat.le_of_ble_eq_true rfl) dX2_hasColumn_2) 5 rfl (fun r1 M2 hw => ?_)
  refine q_if_eq hC 33 dX2_hasColumn_5 (by decide) 8 rfl hw (fun hw => ?_) (fun hw => ?_)
  · exact XX.sub [] rfl (B33 M2 hw)
  · refine q_aload_n hC dX2_hasColumn_8 0 rfl 9 rfl ?_
    refine q_iload_n hC dX2_hasColumn_9 1 rfl 10 rfl ?_
    refine r_callI hC (go_V (q := (RX2, TX2, 14)) (As := [.int v1]) (rest := []) hC (ctX2_isMark (zl z) g M2 b v1 _ hb hw) 1 gX2_hasColumn_X2_isMark rfl ⟨rfl, rfl⟩ hdV_X2_isMark ⟨Nat.le_of_ble_eq_true rfl, Nat.le_of_ble_eq_true rfl⟩ hb.ob rfl rfl rfl (Nat.le_of_ble_eq_true rfl) dX2_hasColumn_10) 13 rfl (fun r3 M4 hw => ?_)
    refine q_if_ne hC 33 dX2_hasColumn_13 (by decide) 16 rfl hw (fun hw => ?_) (fun hw => ?_)
    · exact XX.sub [] rfl (B33 M4 hw)
    · refine q_iload_n hC dX2_hasColumn_16 2 rfl 17 rfl ?_
      refine q_iconst (v := 0) hC dX2_hasColumn_17 rfl 18 rfl ?_
      refine q_aload_n hC dX2_hasColumn_18 0 rfl 19 rfl ?_
      refine q_iload_n hC dX2_hasColumn_19 1 rfl 20 rfl ?_
      refine r_callI hC (go_V (q := (RX2, TX2, 14)) (As := [.int v1]) (rest := [.int 0, .int v2]) hC (ctX2_sizeOf (zl z) g M4 b v1 _ hb hw) 1 gX2_hasColumn_X2_sizeOf rfl ⟨rfl, rfl⟩ hdV_X2_sizeOf ⟨Nat.le_of_ble_eq_true rfl, Nat.le_of_ble_eq_true rfl⟩ hb.ob rfl rfl rfl (Nat.le_of_ble_eq_true rfl) dX2_hasColumn_20) 23 rfl (fun r5 M6 hw => ?_)
      refine r_callI hC (go_N (As := [.int v2, .int 0, .int r5]) (rest := []) hC (ctX4_isBetween (zl z) g M6 v2 0 r5 _ hw) 3 gX2_hasColumn_X4_isBetween_n69 rfl ⟨rfl, rfl⟩ 9 rfl (uX2_hasColumn__X2_hasBlock _ (List.mem_of_getElem? (l := owX2_hasBlock) (i := 3) rfl)) (uX2_hasColumn__X2_hasBlock _ (List.mem_of_getElem? (l := owX2_hasBlock) (i := 2) rfl)) hdT_X4_isBetween ⟨Nat.le_of_ble_eq_true rfl, Nat.le_of_ble_eq_true rfl⟩ rfl rfl (Nat.le_of_ble_eq_true rfl) dX2_hasColumn_23) 26 rfl (fun r7 M8 hw => ?_)
      refine q_if_eq hC 33 dX2_hasColumn_26 (by decide) 29 rfl hw (fun hw => ?_) (fun hw => ?_)
      · exact XX.sub [] rfl (B33 M8 hw)
      · refine q_iconst (v := 1) hC dX2_hasColumn_29 rfl 30 rfl ?_
        refine q_goto hC 34 dX2_hasColumn_30 (by decide) ?_
        exact r_iret hR dX2_hasColumn_34 ⟨nb_1, hw⟩
set_option maxRecDepth 100000 in
set_option maxHeartbeats 4000000 in
theorem ctX2_turnBit (l : Launch) (g : GG) (M : MM) (b : Nat) (v1 : Int32) (v2 : Int32) (v3 : Int32) (Q : Int32 → MM → Prop) (hb : tpl g b) (hw : wX2_turnBit Q M b v1 v2 v3) : MI g l yX2_turnBit wsX2_turnBit (rmOf 2 45) [.ref (gA g b), .int v1, .int v2, .int v3] M Q := by
  refine mk_MI (cc := cX2_turnBit) (maxL := 4) (by decide) rfl (Nat.le_of_ble_eq_true rfl) ?_
  intro z Qf hC hR
  show XX z g Qf 4 0 [(0, .ref (gA g b)), (1, .int v1), (2, .int v2), (3, .int v3)] [] M
  refine q_aload_n hC dX2_turnBit_0 0 rfl 1 rfl ?_
  refine q_iload_n hC dX2_turnBit_1 1 rfl 2 rfl ?_
  refine q_iload_n hC dX2_turnBit_2 2 rfl 3 rfl ?_
  refine q_aload_n hC dX2_turnBit_3 0 rfl 4 rfl ?_
  refine q_iload_n hC dX2_turnBit_4 1 rfl 5 rfl ?_
  refine q_iload_n hC dX2_turnBit_5 2 rfl 6 rfl ?_
  refine r_callI hC (go_V (q := (RX2, TX2, 14)) (As := [.int v1, .int v2]) (rest := [.int v2, .int v1, .ref (gA g b)]) hC (ctX2_columnOf (zl z) g M b v1 v2 _ hb hw) 2 gX2_turnBit_X2_columnOf rfl ⟨rfl, rfl⟩ hdV_X2_columnOf ⟨Nat.le_of_ble_eq_true rfl, Nat.le_of_ble_eq_true rfl⟩ hb.ob rfl rfl rfl (Nat.le_of_ble_eq_true rfl) dX2_turnBit_6) 9 rfl (fun r1 M2 hw => ?_)
  refine q_iconst (v := 1) hC dX2_turnBit_9 rfl 10 rfl ?_
  refine q_iload_n hC dX2_turnBit_10 3 rfl 11 rfl ?_
  refine q_ishl hC dX2_turnBit_11 12 rfl ?_
  refine q_ixor hC dX2_turnBit_12 13 rfl ?_
  refine r_callV hC (go_V (q := (RX2, TX2, 14)) (As := [.int v1, .int v2, .int (r1 ^^^ ((1 : Int32) <<< (v3 &&& 31)))]) (rest := []) hC (ctX2_setColumn (zl z) g M2 b v1 v2 (r1 ^^^ ((1 : Int32) <<< (v3 &&& 31))) _ hb hw) 3 gX2_turnBit_X2_setColumn rfl ⟨rfl, rfl⟩ hdV_X2_setColumn ⟨Nat.le_of_ble_eq_true rfl, Nat.le_of_ble_eq_true rfl⟩ hb.ob rfl rfl rfl (Nat.le_of_ble_eq_true rfl) dX2_turnBit_13) 16 rfl (fun M3 hw => ?_)
  refine q_aload_n hC dX2_turnBit_16 0 rfl 17 rfl ?_
  refine q_iload_n hC dX2_turnBit_17 1 rfl 18 rfl ?_
  refine q_iload_n hC dX2_turnBit_18 2 rfl 19 rfl ?_
  refine r_callI hC (go_V (q := (RX2, TX2, 14)) (As := [.int v1, .int v2]) (rest := []) hC (ctX2_columnOf (zl z) g M3 b v1 v2 _ hb hw) 2 gX2_turnBit_X2_columnOf rfl ⟨rfl, rfl⟩ hdV_X2_columnOf ⟨Nat.le_of_ble_eq_true rfl, Nat.le_of_ble_eq_true rfl⟩ hb.ob rfl rfl rfl (Nat.le_of_ble_eq_true rfl) dX2_turnBit_19) 22 rfl (fun r4 M5 hw => ?_)
  exact r_iret hR dX2_turnBit_22 hw
set_option maxRecDepth 100000 in
set_option maxHeartbeats 4000000 in
theorem ctX2_isWrongAlong (l : Launch) (g : GG) (M : MM) (b : Nat) (v1 : Int32) (v2 : Int32) (Q : Int32 → MM → Prop) (hb : tpl g b) (hw : wX2_isWrongAlong Q M b v1 v2) : MI g l yX2_isWrongAlong wsX2_isWrongAlong (rmOf 2 43) [.ref (gA g b), .int v1, .int v2] M Q := by
  refine mk_MZ (cc := cX2_isWrongAlong) (maxL := 3) (by decide) rfl (Nat.le_of_ble_eq_true rfl) ?_
  intro z Qf hC hR
  show XX z g Qf 3 0 [(0, .ref (gA g b)), (1, .int v1), (2, .int v2)] [] M
  refine q_aload_n hC dX2_isWrongAlong_0 0 rfl 1 rfl ?_
  refine q_iload_n hC dX2_isWrongAlong_1 1 rfl 2 rfl ?_
  refine q_iload_n hC dX2_isWrongAlong_2 2 rfl 3 rfl ?_
  refine r_callI hC (go_V (q := (RX2, TX2, 14)) (As := [.int v1, .int v2]) (rest := []) hC (ctX2_columnOf (zl z) g M b v1 v2 _ hb hw) 2 gX2_isWrongAlong_X2_columnOf rfl ⟨rfl, rfl⟩ hdV_X2_columnOf ⟨Nat.le_of_ble_eq_true rfl, Nat.le_of_ble_eq_true rfl⟩ hb.ob rfl rfl rfl (Nat.le_of_ble_eq_true rfl) dX2_isWrongAlong_3) 6 rfl (fun r1 M2 hw => ?_)
  refine r_callI hC (go_T (As := [.int r1]) (rest := []) hC (ctJ6_bitCount_0f7a4 (zl z) g M2 r1 _ hw) 1 gX2_isWrongAlong_J6_bitCount_0f7a4 rfl ⟨rfl, rfl⟩ hdT_J6_bitCount_0f7a4 ⟨Nat.le_of_ble_eq_true rfl, Nat.le_of_ble_eq_true rfl⟩ rfl rfl (Nat.le_of_ble_eq_true rfl) dX2_isWrongAlong_6) 9 rfl (fun r3 M4 hw => ?_)
  refine q_iconst (v := 2) hC dX2_isWrongAlong_9 rfl 10 rfl ?_
  refine q_irem hC dX2_isWrongAlong_10 (by decide) 11 rfl ?_
  refine q_if_ne hC 18 dX2_isWrongAlong_11 (by decide) 14 rfl hw (fun hw => ?_) (fun hw => ?_)
  · refine q_iconst (v := 0) hC dX2_isWrongAlong_18 rfl 19 rfl ?_
    exact r_iret hR dX2_isWrongAlong_19 ⟨nb_0, hw⟩
  · refine q_iconst (v := 1) hC dX2_isWrongAlong_14 rfl 15 rfl ?_
    refine q_goto hC 19 dX2_isWrongAlong_15 (by decide) ?_
    exact r_iret hR dX2_isWrongAlong_19 ⟨nb_1, hw⟩
theorem hdV_X2_isWrongAlong : yX2_isWrongAlong.cls = RX2 ∧ yX2_isWrongAlong.cls ≠ "java/lang/invoke/MethodHandle" ∧ yX2_isWrongAlong.cls ≠ "java/lang/invoke/VarHandle" ∧ (parseMethodDescriptor yX2_isWrongAlong.desc).map (fun d => d.parameters.length) = some 2 := by decide +kernel
set_option maxRecDepth 100000 in
set_option maxHeartbeats 4000000 in
theorem ctX2_wrongAlongCount (l : Launch) (g : GG) (M : MM) (b : Nat) (v1 : Int32) (Q : Int32 → MM → Prop) (hb : tpl g b) (hw : wX2_wrongAlongCount Q M b v1) : MI g l yX2_wrongAlongCount wsX2_wrongAlongCount (rmOf 3 65) [.ref (gA g b), .int v1] M Q := by
  refine mk_MI (cc := cX2_wrongAlongCount) (maxL := 4) (by decide) rfl (Nat.le_of_ble_eq_true rfl) ?_
  intro z Qf hC hR
  show XX z g Qf 4 0 [(0, .ref (gA g b)), (1, .int v1)] [] M
  have B25 : ∀ (K4 : MM → Int32 → Int32 → Prop) (hK4 : ∀ (M : MM) (v2 : Int32) (v3 : Int32) , K4 M v2 v3 → XX z g Qf 4 4 [(0, .ref (gA g b)), (1, .int v1), (2, .int v2), (3, .int v3)] [] M) (M : MM) (v2 : Int32) (v3 : Int32), wX2_wrongAlongCount_25 Q K4 b v1 M v2 v3 → XX z g Qf 4 25 [(0, .ref (gA g b)), (1, .int v1), (2, .int v2), (3, .int v3)] [] M := by
    intro K4 hK4 M v2 v3 hw
    refine q_iinc (v := v3 + 1) (L' := [(3, .int (v3 + 1)), (0, .ref (gA g b)), (1, .int v1), (2, .int v2)]) hC dX2_wrongAlongCount_25 3 rfl rfl (by decide) rfl 28 rfl ?_
    refine q_goto hC 4 dX2_wrongAlongCount_28 (by decide) ?_
    exact XX.sub [1, 2, 3, 0] rfl (hK4 M v2 (v3 + 1) hw)
  have B4 : ∀ (n : Nat) (M : MM) (v2 : Int32) (v3 : Int32) , wX2_wrongAlongCount_4 Q b v1 n M v2 v3 → XX z g Qf 4 4 [(0, .ref (gA g b)), (1, .int v1), (2, .int v2), (3, .int v3)] [] M := by
    intro n
    induction n with
    | zero =>
      intro M v2 v3 hw
      exact hw.elim
    | succ n ih =>
      intro M v2 v3 hw
      refine q_iload_n hC dX2_wrongAlongCount_4 3 rfl 5 rfl ?_
      refine q_aload_n hC dX2_wrongAlongCount_5 0 rfl 6 rfl ?_
      refine q_iload_n hC dX2_wrongAlongCount_6 1 rfl 7 rfl ?_
      refine r_callI hC (go_V (q := (RX2, TX2, 14)) (As := [.int v1]) (rest := [.int v3]) hC (ctX2_sizeOf (zl z) g M b v1 _ hb hw) 1 gX2_wrongAlongCount_X2_sizeOf rfl ⟨rfl, rfl⟩ hdV_X2_sizeOf ⟨Nat.le_of_ble_eq_true rfl, Nat.le_of_ble_eq_true rfl⟩ hb.ob rfl rfl rfl (Nat.le_of_ble_eq_true rfl) dX2_wrongAlongCount_7) 10 rfl (fun r1 M2 hw => ?_)
      refine q_icmp_ge hC 31 dX2_wrongAlongCount_10 (by decide) 13 rfl hw (fun hw => ?_) (fun hw => ?_)
      · refine q_iload_n hC dX2_wrongAlongCount_31 2 rfl 32 rfl ?_
        exact r_iret hR dX2_wrongAlongCount_32 hw
      · refine q_aload_n hC dX2_wrongAlongCount_13 0 rfl 14 rfl ?_
        refine q_iload_n hC dX2_wrongAlongCount_14 1 rfl 15 rfl ?_
        refine q_iload_n hC dX2_wrongAlongCount_15 3 rfl 16 rfl ?_
        refine r_callI hC (go_V (q := (RX2, TX2, 14)) (As := [.int v1, .int v3]) (rest := []) hC (ctX2_isWrongAlong (zl z) g M2 b v1 v3 _ hb hw) 2 gX2_wrongAlongCount_X2_isWrongAlong rfl ⟨rfl, rfl⟩ hdV_X2_isWrongAlong ⟨Nat.le_of_ble_eq_true rfl, Nat.le_of_ble_eq_true rfl⟩ hb.ob rfl rfl rfl (Nat.le_of_ble_eq_true rfl) dX2_wrongAlongCount_16) 19 rfl (fun r3 M4 hw => ?_)
        refine q_if_eq hC 25 dX2_wrongAlongCount_19 (by decide) 22 rfl hw (fun hw => ?_) (fun hw => ?_)
        · exact XX.sub [0, 1, 2, 3] rfl (B25 _ (fun M v2 v3 hw => ih M v2 v3 hw) M4 v2 v3 hw)
        · refine q_iinc (v := v2 + 1) (L' := [(2, .int (v2 + 1)), (0, .ref (gA g b)), (1, .int v1), (3, .int v3)]) hC dX2_wrongAlongCount_22 2 rfl rfl (by decide) rfl 25 rfl ?_
          exact XX.sub [1, 2, 0, 3] rfl (B25 _ (fun M v2 v3 hw => ih M v2 v3 hw) M4 (v2 + 1) v3 hw)
  refine q_iconst (v := 0) hC dX2_wrongAlongCount_0 rfl 1 rfl ?_
  refine q_istore_n (L' := [(2, .int 0), (0, .ref (gA g b)), (1, .int v1)]) hC dX2_wrongAlongCount_1 (by decide) rfl 2 rfl ?_
  refine q_iconst (v := 0) hC dX2_wrongAlongCount_2 rfl 3 rfl ?_
  refine q_istore_n (L' := [(3, .int 0), (2, .int 0), (0, .ref (gA g b)), (1, .int v1)]) hC dX2_wrongAlongCount_3 (by decide) rfl 4 rfl ?_
  obtain ⟨n0, hw⟩ := hw
  exact XX.sub [2, 3, 1, 0] rfl (B4 n0 M 0 0 hw)
set_option maxRecDepth 100000 in
set_option maxHeartbeats 4000000 in
theorem ctX2_wrongAcross (l : Launch) (g : GG) (M : MM) (b : Nat) (v1 : Int32) (Q : Int32 → MM → Prop) (hb : tpl g b) (hw : wX2_wrongAcross Q M b v1) : MI g l yX2_wrongAcross wsX2_wrongAcross (rmOf 2 43) [.ref (gA g b), .int v1] M Q := by
  refine mk_MI (cc := cX2_wrongAcross) (maxL := 5) (by decide) rfl (Nat.le_of_ble_eq_true rfl) ?_
  intro z Qf hC hR
  show XX z g Qf 5 0 [(0, .ref (gA g b)), (1, .int v1)] [] M
  have B11 : ∀ (n : Nat) (M : MM) (v2 : Int32) (v3 : Int32) (v4 : Int32) , wX2_wrongAcross_11 Q b v1 n M v2 v3 v4 → XX z g Qf 5 11 [(0, .ref (gA g b)), (1, .int v1), (2, .int v2), (3, .int v3), (4, .int v4)] [] M := by
    intro n
    induction n with
    | zero =>
      intro M v2 v3 v4 hw
      exact hw.elim
    | succ n ih =>
      intro M v2 v3 v4 hw
      refine q_iload_n hC dX2_wrongAcross_11 2 rfl 12 rfl ?_
      refine q_if_le hC 37 dX2_wrongAcross_12 (by decide) 15 rfl hw (fun hw => ?_) (fun hw => ?_)
      · refine q_iload_n hC dX2_wrongAcross_37 3 rfl 38 rfl ?_
        exact r_iret hR dX2_wrongAcross_38 hw
      · refine q_iload hC dX2_wrongAcross_15 4 rfl 17 rfl ?_
        refine q_iload_n hC dX2_wrongAcross_17 2 rfl 18 rfl ?_
        refine q_icmp_gt hC 37 dX2_wrongAcross_18 (by decide) 21 rfl hw (fun hw => ?_) (fun hw => ?_)
        · refine q_iload_n hC dX2_wrongAcross_37 3 rfl 38 rfl ?_
          exact r_iret hR dX2_wrongAcross_38 hw
        · refine q_iload_n hC dX2_wrongAcross_21 3 rfl 22 rfl ?_
          refine q_aload_n hC dX2_wrongAcross_22 0 rfl 23 rfl ?_
          refine q_iload_n hC dX2_wrongAcross_23 1 rfl 24 rfl ?_
          refine q_iload hC dX2_wrongAcross_24 4 rfl 26 rfl ?_
          refine r_callI hC (go_V (q := (RX2, TX2, 14)) (As := [.int v1, .int v4]) (rest := [.int v3]) hC (ctX2_columnOf (zl z) g M b v1 v4 _ hb hw) 2 gX2_wrongAcross_X2_columnOf rfl ⟨rfl, rfl⟩ hdV_X2_columnOf ⟨Nat.le_of_ble_eq_true rfl, Nat.le_of_ble_eq_true rfl⟩ hb.ob rfl rfl rfl (Nat.le_of_ble_eq_true rfl) dX2_wrongAcross_26) 29 rfl (fun r3 M4 hw => ?_)
          refine q_ixor hC dX2_wrongAcross_29 30 rfl ?_
          refine q_istore_n (L' := [(3, .int (v3 ^^^ r3)), (0, .ref (gA g b)), (1, .int v1), (2, .int v2), (4, .int v4)]) hC dX2_wrongAcross_30 (by decide) rfl 31 rfl ?_
          refine q_iinc (v := v4 + 1) (L' := [(4, .int (v4 + 1)), (3, .int (v3 ^^^ r3)), (0, .ref (gA g b)), (1, .int v1), (2, .int v2)]) hC dX2_wrongAcross_31 4 rfl rfl (by decide) rfl 34 rfl ?_
          refine q_goto hC 11 dX2_wrongAcross_34 (by decide) ?_
          exact XX.sub [2, 3, 4, 1, 0] rfl (ih M4 v2 (v3 ^^^ r3) (v4 + 1) hw)
  refine q_aload_n hC dX2_wrongAcross_0 0 rfl 1 rfl ?_
  refine q_iload_n hC dX2_wrongAcross_1 1 rfl 2 rfl ?_
  refine r_callI hC (go_V (q := (RX2, TX2, 14)) (As := [.int v1]) (rest := []) hC (ctX2_sizeOf (zl z) g M b v1 _ hb hw) 1 gX2_wrongAcross_X2_sizeOf rfl ⟨rfl, rfl⟩ hdV_X2_sizeOf ⟨Nat.le_of_ble_eq_true rfl, Nat.le_of_ble_eq_true rfl⟩ hb.ob rfl rfl rfl (Nat.le_of_ble_eq_true rfl) dX2_wrongAcross_2) 5 rfl (fun r1 M2 hw => ?_)
  refine q_istore_n (L' := [(2, .int r1), (0, .ref (gA g b)), (1, .int v1)]) hC dX2_wrongAcross_5 (by decide) rfl 6 rfl ?_
  refine q_iconst (v := 0) hC dX2_wrongAcross_6 rfl 7 rfl ?_
  refine q_istore_n (L' := [(3, .int 0), (2, .int r1), (0, .ref (gA g b)), (1, .int v1)]) hC dX2_wrongAcross_7 (by decide) rfl 8 rfl ?_
  refine q_iconst (v := 0) hC dX2_wrongAcross_8 rfl 9 rfl ?_
  refine q_istore (L' := [(4, .int 0), (3, .int 0), (2, .int r1), (0, .ref (gA g b)), (1, .int v1)]) hC dX2_wrongAcross_9 (by decide) rfl 11 rfl ?_
  obtain ⟨n0, hw⟩ := hw
  exact XX.sub [3, 4, 2, 1, 0] rfl (B11 n0 M2 r1 0 0 hw)
theorem hdV_X2_wrongAlongCount : yX2_wrongAlongCount.cls = RX2 ∧ yX2_wrongAlongCount.cls ≠ "java/lang/invoke/MethodHandle" ∧ yX2_wrongAlongCount.cls ≠ "java/lang/invoke/VarHandle" ∧ (parseMethodDescriptor yX2_wrongAlongCount.desc).map (fun d => d.parameters.length) = some 1 := by decide +kernel
theorem hdV_X2_wrongAcross : yX2_wrongAcross.cls = RX2 ∧ yX2_wrongAcross.cls ≠ "java/lang/invoke/MethodHandle" ∧ yX2_wrongAcross.cls ≠ "java/lang/invoke/VarHandle" ∧ (parseMethodDescriptor yX2_wrongAcross.desc).map (fun d => d.parameters.length) = some 1 := by decide +kernel
set_option maxRecDepth 100000 in
set_option maxHeartbeats 4000000 in
theorem ctX2_readingOf (l : Launch) (g : GG) (M : MM) (b : Nat) (v1 : Int32) (v2 : Int32) (Q : Int32 → MM → Prop) (hb : tpl g b) (hw : wX2_readingOf Q M b v1 v2) : MI g l yX2_readingOf wsX2_readingOf (rmOf 4 88) [.ref (gA g b), .int v1, .int v2] M Q := by
  refine mk_MI (cc := cX2_readingOf) (maxL := 6) (by decide) rfl (Nat.le_of_ble_eq_true rfl) ?_
  intro z Qf hC hR
  show XX z g Qf 6 0 [(0, .ref (gA g b)), (1, .int v1), (2, .int v2)] [] M
  have B78 : ∀ (M : MM), wX2_readingOf_78 Q b v1 v2 M → XX z g Qf 6 78 [] [] M := by
    intro M hw
    refine q_iconst (v := 3) hC dX2_readingOf_78 rfl 79 rfl ?_
    exact r_iret hR dX2_readingOf_79 hw
  have B47 : ∀ (M : MM) (p0 : Int32), wX2_readingOf_47 Q b v1 v2 M p0 → XX z g Qf 6 47 [] [.int p0] M := by
    intro M p0 hw
    refine q_istore (L' := [(5, .int p0)]) hC dX2_readingOf_47 (by decide) rfl 49 rfl ?_
    refine q_iload hC dX2_readingOf_49 0 rfl 51 rfl ?_
    refine q_if_ne hC 58 dX2_readingOf_51 (by decide) 54 rfl hw (fun hw => ?_) (fun hw => ?_)
    · refine q_iconst (v := 3) hC dX2_readingOf_58 rfl 59 rfl ?_
      exact r_iret hR dX2_readingOf_59 hw
    · refine q_iconst (v := 2) hC dX2_readingOf_54 rfl 55 rfl ?_
      refine q_goto hC 59 dX2_readingOf_55 (by decide) ?_
      exact r_iret hR dX2_readingOf_59 hw
  have B24 : ∀ (M : MM) (v3 : Int32) (v4 : Int32), wX2_readingOf_24 Q b v1 v2 M v3 v4 → XX z g Qf 6 24 [(2, .int v2), (3, .int v3), (4, .int v4)] [] M := by
    intro M v3 v4 hw
    refine q_iload_n hC dX2_readingOf_24 0 rfl 25 rfl ?_
    refine q_bipush (v := (-4)) hC dX2_readingOf_25 (by decide) 27 rfl ?_
    refine q_icmp_eq hC 60 dX2_readingOf_27 (by decide) 30 rfl hw (fun hw => ?_) (fun hw => ?_)
    · refine q_iload_n hC dX2_readingOf_60 1 rfl 61 rfl ?_
      refine q_iconst (v := 1) hC dX2_readingOf_61 rfl 62 rfl ?_
      refine q_icmp_gt hC 78 dX2_readingOf_62 (by decide) 65 rfl hw (fun hw => ?_) (fun hw => ?_)
      · exact XX.sub [] rfl (B78 M hw)
      · refine q_iload hC dX2_readingOf_65 2 rfl 67 rfl ?_
        refine r_callI hC (go_T (As := [.int v4]) (rest := []) hC (ctJ6_bitCount_0f7a4 (zl z) g M v4 _ hw) 1 gX2_readingOf_J6_bitCount_0f7a4 rfl ⟨rfl, rfl⟩ hdT_J6_bitCount_0f7a4 ⟨Nat.le_of_ble_eq_true rfl, Nat.le_of_ble_eq_true rfl⟩ rfl rfl (Nat.le_of_ble_eq_true rfl) dX2_readingOf_67) 70 rfl (fun r5 M6 hw => ?_)
        refine q_iconst (v := 1) hC dX2_readingOf_70 rfl 71 rfl ?_
        refine q_icmp_ne hC 78 dX2_readingOf_71 (by decide) 74 rfl hw (fun hw => ?_) (fun hw => ?_)
        · exact XX.sub [] rfl (B78 M6 hw)
        · refine q_iconst (v := 1) hC dX2_readingOf_74 rfl 75 rfl ?_
          refine q_goto hC 79 dX2_readingOf_75 (by decide) ?_
          exact r_iret hR dX2_readingOf_79 hw
    · refine q_iload_n hC dX2_readingOf_30 1 rfl 31 rfl ?_
      refine q_iconst (v := 2) hC dX2_readingOf_31 rfl 32 rfl ?_
      refine q_irem hC dX2_readingOf_32 (by decide) 33 rfl ?_
      refine q_if_ne hC 41 dX2_readingOf_33 (by decide) 36 rfl hw (fun hw => ?_) (fun hw => ?_)
      · refine q_iload hC dX2_readingOf_41 2 rfl 43 rfl ?_
        refine q_iconst (v := 1) hC dX2_readingOf_43 rfl 44 rfl ?_
        refine q_iload_n hC dX2_readingOf_44 0 rfl 45 rfl ?_
        refine q_ishl hC dX2_readingOf_45 46 rfl ?_
        refine q_ixor hC dX2_readingOf_46 47 rfl ?_
        exact XX.sub [] rfl (B47 M (v4 ^^^ ((1 : Int32) <<< (v2 &&& 31))) hw)
      · refine q_iload hC dX2_readingOf_36 2 rfl 38 rfl ?_
        refine q_goto hC 47 dX2_readingOf_38 (by decide) ?_
        exact XX.sub [] rfl (B47 M v4 hw)
  refine q_aload_n hC dX2_readingOf_0 0 rfl 1 rfl ?_
  refine q_iload_n hC dX2_readingOf_1 1 rfl 2 rfl ?_
  refine r_callI hC (go_V (q := (RX2, TX2, 14)) (As := [.int v1]) (rest := []) hC (ctX2_wrongAlongCount (zl z) g M b v1 _ hb hw) 1 gX2_readingOf_X2_wrongAlongCount rfl ⟨rfl, rfl⟩ hdV_X2_wrongAlongCount ⟨Nat.le_of_ble_eq_true rfl, Nat.le_of_ble_eq_true rfl⟩ hb.ob rfl rfl rfl (Nat.le_of_ble_eq_true rfl) dX2_readingOf_2) 5 rfl (fun r1 M2 hw => ?_)
  refine q_istore_n (L' := [(3, .int r1), (0, .ref (gA g b)), (1, .int v1), (2, .int v2)]) hC dX2_readingOf_5 (by decide) rfl 6 rfl ?_
  refine q_aload_n hC dX2_readingOf_6 1 rfl 7 rfl ?_
  refine q_iload_n hC dX2_readingOf_7 2 rfl 8 rfl ?_
  refine r_callI hC (go_V (q := (RX2, TX2, 14)) (As := [.int v1]) (rest := []) hC (ctX2_wrongAcross (zl z) g M2 b v1 _ hb hw) 1 gX2_readingOf_X2_wrongAcross rfl ⟨rfl, rfl⟩ hdV_X2_wrongAcross ⟨Nat.le_of_ble_eq_true rfl, Nat.le_of_ble_eq_true rfl⟩ hb.ob rfl rfl rfl (Nat.le_of_ble_eq_true rfl) dX2_readingOf_8) 11 rfl (fun r3 M4 hw => ?_)
  refine q_istore (L' := [(4, .int r3), (3, .int r1), (0, .ref (gA g b)), (1, .int v1), (2, .int v2)]) hC dX2_readingOf_11 (by decide) rfl 13 rfl ?_
  refine q_iload_n hC dX2_readingOf_13 1 rfl 14 rfl ?_
  refine q_if_ne hC 24 dX2_readingOf_14 (by decide) 17 rfl hw (fun hw => ?_) (fun hw => ?_)
  · exact XX.sub [4, 1, 0] rfl (B24 M4 r1 r3 hw)
  · refine q_iload hC dX2_readingOf_17 0 rfl 19 rfl ?_
    refine q_if_ne hC 24 dX2_readingOf_19 (by decide) 22 rfl hw (fun hw => ?_) (fun hw => ?_)
    · exact XX.sub [4, 1, 0] rfl (B24 M4 r1 r3 hw)
    · refine q_iconst (v := 0) hC dX2_readingOf_22 rfl 23 rfl ?_
      exact r_iret hR dX2_readingOf_23 hw
theorem inX2_byteAsRead_X2 : ∀ w ∈ u_ws RX2 TX2 14, w ∈ wsX2_byteAsRead := uX2_byteAsRead__wsX20
set_option maxRecDepth 100000 in
set_option maxHeartbeats 4000000 in
theorem ctX2_byteAsRead (l : Launch) (g : GG) (M : MM) (b : Nat) (v1 : Int32) (v2 : Int32) (Q : Int32 → MM → Prop) (hb : tpl g b) (hw : wX2_byteAsRead Q M b v1 v2) : MI g l yX2_byteAsRead wsX2_byteAsRead (rmOf 3 67) [.ref (gA g b), .int v1, .int v2] M Q := by
  refine mk_MI (cc := cX2_byteAsRead) (maxL := 4) (by decide) rfl (Nat.le_of_ble_eq_true rfl) ?_
  intro z Qf hC hR
  show XX z g Qf 4 0 [(0, .ref (gA g b)), (1, .int v1), (2, .int v2)] [] M
  have B42 : ∀ (M : MM) (v3 : Int32), wX2_byteAsRead_42 Q b v1 v2 M v3 → XX z g Qf 4 42 [(3, .int v3)] [] M := by
    intro M v3 hw
    refine q_iload_n hC dX2_byteAsRead_42 0 rfl 43 rfl ?_
    refine q_sipush (v := 255) hC dX2_byteAsRead_43 (by decide) 46 rfl ?_
    refine q_iand hC dX2_byteAsRead_46 47 rfl ?_
    exact r_iret hR dX2_byteAsRead_47 hw
  have B40 : ∀ (M : MM) (p0 : Int32) (p1 : Int32), wX2_byteAsRead_40 Q b v1 v2 M p0 p1 → XX z g Qf 4 40 [] [.int p0, .int p1] M := by
    intro M p0 p1 hw
    refine q_ixor hC dX2_byteAsRead_40 41 rfl ?_
    refine q_istore_n (L' := [(3, .int (p1 ^^^ p0))]) hC dX2_byteAsRead_41 (by decide) rfl 42 rfl ?_
    exact XX.sub [0] rfl (B42 M (p1 ^^^ p0) hw)
  refine q_aload_n hC dX2_byteAsRead_0 0 rfl 1 rfl ?_
  refine q_iload_n hC dX2_byteAsRead_1 1 rfl 2 rfl ?_
  refine q_iload_n hC dX2_byteAsRead_2 2 rfl 3 rfl ?_
  refine r_callI hC (go_V (q := (RX2, TX2, 14)) (As := [.int v1, .int v2]) (rest := []) hC (ctX2_columnOf (zl z) g M b v1 v2 _ hb hw) 2 gX2_byteAsRead_X2_columnOf rfl ⟨rfl, rfl⟩ hdV_X2_columnOf ⟨Nat.le_of_ble_eq_true rfl, Nat.le_of_ble_eq_true rfl⟩ hb.ob rfl rfl rfl (Nat.le_of_ble_eq_true rfl) dX2_byteAsRead_3) 6 rfl (fun r1 M2 hw => ?_)
  refine q_istore_n (L' := [(3, .int r1), (0, .ref (gA g b)), (1, .int v1), (2, .int v2)]) hC dX2_byteAsRead_6 (by decide) rfl 7 rfl ?_
  refine q_aload_n hC dX2_byteAsRead_7 1 rfl 8 rfl ?_
  refine q_iload_n hC dX2_byteAsRead_8 2 rfl 9 rfl ?_
  refine q_iload_n hC dX2_byteAsRead_9 3 rfl 10 rfl ?_
  refine r_callI hC (go_V (q := (RX2, TX2, 14)) (As := [.int v1, .int v2]) (rest := []) hC (ctX2_isWrongAlong (zl z) g M2 b v1 v2 _ hb hw) 2 gX2_byteAsRead_X2_isWrongAlong rfl ⟨rfl, rfl⟩ hdV_X2_isWrongAlong ⟨Nat.le_of_ble_eq_true rfl, Nat.le_of_ble_eq_true rfl⟩ hb.ob rfl rfl rfl (Nat.le_of_ble_eq_true rfl) dX2_byteAsRead_10) 13 rfl (fun r3 M4 hw => ?_)
  refine q_if_eq hC 42 dX2_byteAsRead_13 (by decide) 16 rfl hw (fun hw => ?_) (fun hw => ?_)
  · exact XX.sub [0] rfl (B42 M4 r1 hw)
  · refine q_iload_n hC dX2_byteAsRead_16 0 rfl 17 rfl ?_
    refine q_aload_n hC dX2_byteAsRead_17 1 rfl 18 rfl ?_
    refine q_getI (C := RX2) (T := TX2) (N := 14) (ci := 2) hC inX2_byteAsRead_X2 hb.ob rfl 12 (by decide) (uX2_byteAsRead__o _ (List.mem_of_getElem? (l := owX2_byteAsRead) (i := 1) rfl)) rfl (fun _ => rfl) dX2_byteAsRead_18 21 rfl ?_
    refine q_bipush (v := (-4)) hC dX2_byteAsRead_21 (by decide) 23 rfl ?_
    refine q_icmp_ne hC 34 dX2_byteAsRead_23 (by decide) 26 rfl hw (fun hw => ?_) (fun hw => ?_)
    · refine q_iconst (v := 1) hC dX2_byteAsRead_34 rfl 35 rfl ?_
      refine q_aload_n hC dX2_byteAsRead_35 1 rfl 36 rfl ?_
      refine q_getI (C := RX2) (T := TX2) (N := 14) (ci := 2) hC inX2_byteAsRead_X2 hb.ob rfl 12 (by decide) (uX2_byteAsRead__o _ (List.mem_of_getElem? (l := owX2_byteAsRead) (i := 1) rfl)) rfl (fun _ => rfl) dX2_byteAsRead_36 39 rfl ?_
      refine q_ishl hC dX2_byteAsRead_39 40 rfl ?_
      exact XX.sub [] rfl (B40 M4 ((1 : Int32) <<< ((M4 b 12) &&& 31)) r1 hw)
    · refine q_aload_n hC dX2_byteAsRead_26 1 rfl 27 rfl ?_
      refine q_iload_n hC dX2_byteAsRead_27 2 rfl 28 rfl ?_
      refine r_callI hC (go_V (q := (RX2, TX2, 14)) (As := [.int v1]) (rest := [.int r1]) hC (ctX2_wrongAcross (zl z) g M4 b v1 _ hb hw) 1 gX2_byteAsRead_X2_wrongAcross rfl ⟨rfl, rfl⟩ hdV_X2_wrongAcross ⟨Nat.le_of_ble_eq_true rfl, Nat.le_of_ble_eq_true rfl⟩ hb.ob rfl rfl rfl (Nat.le_of_ble_eq_true rfl) dX2_byteAsRead_28) 31 rfl (fun r5 M6 hw => ?_)
      refine q_goto hC 40 dX2_byteAsRead_31 (by decide) ?_
      exact XX.sub [] rfl (B40 M6 r5 r1 hw)
theorem hdV_X2_byteAsRead : yX2_byteAsRead.cls = RX2 ∧ yX2_byteAsRead.cls ≠ "java/lang/invoke/MethodHandle" ∧ yX2_byteAsRead.cls ≠ "java/lang/invoke/VarHandle" ∧ (parseMethodDescriptor yX2_byteAsRead.desc).map (fun d => d.parameters.length) = some 2 := by decide +kernel
set_option maxRecDepth 100000 in
set_option maxHeartbeats 4000000 in
theorem ctX2_isReadAsWritten (l : Launch) (g : GG) (M : MM) (b : Nat) (v1 : Int32) (Q : Int32 → MM → Prop) (hb : tpl g b) (hw : wX2_isReadAsWritten Q M b v1) : MI g l yX2_isReadAsWritten wsX2_isReadAsWritten (rmOf 4 90) [.ref (gA g b), .int v1] M Q := by
  refine mk_MZ (cc := cX2_isReadAsWritten) (maxL := 3) (by decide) rfl (Nat.le_of_ble_eq_true rfl) ?_
  intro z Qf hC hR
  show XX z g Qf 3 0 [(0, .ref (gA g b)), (1, .int v1)] [] M
  have B2 : ∀ (n : Nat) (M : MM) (v2 : Int32) , wX2_isReadAsWritten_2 Q b v1 n M v2 → XX z g Qf 3 2 [(0, .ref (gA g b)), (1, .int v1), (2, .int v2)] [] M := by
    intro n
    induction n with
    | zero =>
      intro M v2 hw
      exact hw.elim
    | succ n ih =>
      intro M v2 hw
      refine q_iload_n hC dX2_isReadAsWritten_2 2 rfl 3 rfl ?_
      refine q_aload_n hC dX2_isReadAsWritten_3 0 rfl 4 rfl ?_
      refine q_iload_n hC dX2_isReadAsWritten_4 1 rfl 5 rfl ?_
      refine r_callI hC (go_V (q := (RX2, TX2, 14)) (As := [.int v1]) (rest := [.int v2]) hC (ctX2_sizeOf (zl z) g M b v1 _ hb hw) 1 gX2_isReadAsWritten_X2_sizeOf rfl ⟨rfl, rfl⟩ hdV_X2_sizeOf ⟨Nat.le_of_ble_eq_true rfl, Nat.le_of_ble_eq_true rfl⟩ hb.ob rfl rfl rfl (Nat.le_of_ble_eq_true rfl) dX2_isReadAsWritten_5) 8 rfl (fun r1 M2 hw => ?_)
      refine q_icmp_ge hC 34 dX2_isReadAsWritten_8 (by decide) 11 rfl hw (fun hw => ?_) (fun hw => ?_)
      · refine q_iconst (v := 1) hC dX2_isReadAsWritten_34 rfl 35 rfl ?_
        exact r_iret hR dX2_isReadAsWritten_35 ⟨nb_1, hw⟩
      · refine q_aload_n hC dX2_isReadAsWritten_11 0 rfl 12 rfl ?_
        refine q_iload_n hC dX2_isReadAsWritten_12 1 rfl 13 rfl ?_
        refine q_iload_n hC dX2_isReadAsWritten_13 2 rfl 14 rfl ?_
        refine r_callI hC (go_V (q := (RX2, TX2, 14)) (As := [.int v1, .int v2]) (rest := []) hC (ctX2_byteAsRead (zl z) g M2 b v1 v2 _ hb hw) 2 gX2_isReadAsWritten_X2_byteAsRead rfl ⟨rfl, rfl⟩ hdV_X2_byteAsRead ⟨Nat.le_of_ble_eq_true rfl, Nat.le_of_ble_eq_true rfl⟩ hb.ob rfl rfl rfl (Nat.le_of_ble_eq_true rfl) dX2_isReadAsWritten_14) 17 rfl (fun r3 M4 hw => ?_)
        refine q_aload_n hC dX2_isReadAsWritten_17 0 rfl 18 rfl ?_
        refine q_iload_n hC dX2_isReadAsWritten_18 1 rfl 19 rfl ?_
        refine q_iload_n hC dX2_isReadAsWritten_19 2 rfl 20 rfl ?_
        refine r_callI hC (go_V (q := (RX2, TX2, 14)) (As := [.int v1, .int v2]) (rest := [.int r3]) hC (ctX2_originalOf (zl z) g M4 b v1 v2 _ hb hw) 2 gX2_isReadAsWritten_X2_originalOf rfl ⟨rfl, rfl⟩ hdV_X2_originalOf ⟨Nat.le_of_ble_eq_true rfl, Nat.le_of_ble_eq_true rfl⟩ hb.ob rfl rfl rfl (Nat.le_of_ble_eq_true rfl) dX2_isReadAsWritten_20) 23 rfl (fun r5 M6 hw => ?_)
        refine q_icmp_eq hC 28 dX2_isReadAsWritten_23 (by decide) 26 rfl hw (fun hw => ?_) (fun hw => ?_)
        · refine q_iinc (v := v2 + 1) (L' := [(2, .int (v2 + 1)), (0, .ref (gA g b)), (1, .int v1)]) hC dX2_isReadAsWritten_28 2 rfl rfl (by decide) rfl 31 rfl ?_
          refine q_goto hC 2 dX2_isReadAsWritten_31 (by decide) ?_
          exact XX.sub [1, 2, 0] rfl (ih M6 (v2 + 1) hw)
        · refine q_iconst (v := 0) hC dX2_isReadAsWritten_26 rfl 27 rfl ?_
          exact r_iret hR dX2_isReadAsWritten_27 ⟨nb_0, hw⟩
  refine q_iconst (v := 0) hC dX2_isReadAsWritten_0 rfl 1 rfl ?_
  refine q_istore_n (L' := [(2, .int 0), (0, .ref (gA g b)), (1, .int v1)]) hC dX2_isReadAsWritten_1 (by decide) rfl 2 rfl ?_
  obtain ⟨n0, hw⟩ := hw
  exact XX.sub [1, 2, 0] rfl (B2 n0 M 0 hw)
theorem hdV_X2_readingOf : yX2_readingOf.cls = RX2 ∧ yX2_readingOf.cls ≠ "java/lang/invoke/MethodHandle" ∧ yX2_readingOf.cls ≠ "java/lang/invoke/VarHandle" ∧ (parseMethodDescriptor yX2_readingOf.desc).map (fun d => d.parameters.length) = some 2 := by decide +kernel
theorem inX2_lostBlocksBy_X2 : ∀ w ∈ u_ws RX2 TX2 14, w ∈ wsX2_lostBlocksBy := uX2_lostBlocksBy__wsX20
set_option maxRecDepth 100000 in
set_option maxHeartbeats 4000000 in
theorem ctX2_lostBlocksBy (l : Launch) (g : GG) (M : MM) (b : Nat) (v1 : Int32) (Q : Int32 → MM → Prop) (hb : tpl g b) (hw : wX2_lostBlocksBy Q M b v1) : MI g l yX2_lostBlocksBy wsX2_lostBlocksBy (rmOf 5 113) [.ref (gA g b), .int v1] M Q := by
  refine mk_MI (cc := cX2_lostBlocksBy) (maxL := 4) (by decide) rfl (Nat.le_of_ble_eq_true rfl) ?_
  intro z Qf hC hR
  show XX z g Qf 4 0 [(0, .ref (gA g b)), (1, .int v1)] [] M
  have B28 : ∀ (K4 : MM → Int32 → Int32 → Prop) (hK4 : ∀ (M : MM) (v2 : Int32) (v3 : Int32) , K4 M v2 v3 → XX z g Qf 4 4 [(0, .ref (gA g b)), (1, .int v1), (2, .int v2), (3, .int v3)] [] M) (M : MM) (v2 : Int32) (v3 : Int32), wX2_lostBlocksBy_28 Q K4 b v1 M v2 v3 → XX z g Qf 4 28 [(0, .ref (gA g b)), (1, .int v1), (2, .int v2), (3, .int v3)] [] M := by
    intro K4 hK4 M v2 v3 hw
    refine q_iinc (v := v3 + 1) (L' := [(3, .int (v3 + 1)), (0, .ref (gA g b)), (1, .int v1), (2, .int v2)]) hC dX2_lostBlocksBy_28 3 rfl rfl (by decide) rfl 31 rfl ?_
    refine q_goto hC 4 dX2_lostBlocksBy_31 (by decide) ?_
    exact XX.sub [1, 2, 3, 0] rfl (hK4 M v2 (v3 + 1) hw)
  have B4 : ∀ (n : Nat) (M : MM) (v2 : Int32) (v3 : Int32) , wX2_lostBlocksBy_4 Q b v1 n M v2 v3 → XX z g Qf 4 4 [(0, .ref (gA g b)), (1, .int v1), (2, .int v2), (3, .int v3)] [] M := by
    intro n
    induction n with
    | zero =>
      intro M v2 v3 hw
      exact hw.elim
    | succ n ih =>
      intro M v2 v3 hw
      refine q_iload_n hC dX2_lostBlocksBy_4 3 rfl 5 rfl ?_
      refine q_aload_n hC dX2_lostBlocksBy_5 0 rfl 6 rfl ?_
      refine q_getI (C := RX2) (T := TX2) (N := 14) (ci := 2) hC inX2_lostBlocksBy_X2 hb.ob rfl 8 (by decide) (uX2_lostBlocksBy__o _ (List.mem_of_getElem? (l := owX2_lostBlocksBy) (i := 1) rfl)) rfl (fun _ => rfl) dX2_lostBlocksBy_6 9 rfl ?_
      refine q_icmp_ge hC 34 dX2_lostBlocksBy_9 (by decide) 12 rfl hw (fun hw => ?_) (fun hw => ?_)
      · refine q_iload_n hC dX2_lostBlocksBy_34 2 rfl 35 rfl ?_
        exact r_iret hR dX2_lostBlocksBy_35 hw
      · refine q_aload_n hC dX2_lostBlocksBy_12 0 rfl 13 rfl ?_
        refine q_iload_n hC dX2_lostBlocksBy_13 3 rfl 14 rfl ?_
        refine q_iload_n hC dX2_lostBlocksBy_14 1 rfl 15 rfl ?_
        refine r_callI hC (go_V (q := (RX2, TX2, 14)) (As := [.int v3, .int v1]) (rest := []) hC (ctX2_readingOf (zl z) g M b v3 v1 _ hb hw) 2 gX2_lostBlocksBy_X2_readingOf rfl ⟨rfl, rfl⟩ hdV_X2_readingOf ⟨Nat.le_of_ble_eq_true rfl, Nat.le_of_ble_eq_true rfl⟩ hb.ob rfl rfl rfl (Nat.le_of_ble_eq_true rfl) dX2_lostBlocksBy_15) 18 rfl (fun r1 M2 hw => ?_)
        refine q_iconst (v := 3) hC dX2_lostBlocksBy_18 rfl 19 rfl ?_
        refine q_icmp_ne hC 28 dX2_lostBlocksBy_19 (by decide) 22 rfl hw (fun hw => ?_) (fun hw => ?_)
        · exact XX.sub [0, 1, 2, 3] rfl (B28 _ (fun M v2 v3 hw => ih M v2 v3 hw) M2 v2 v3 hw)
        · refine q_iload_n hC dX2_lostBlocksBy_22 2 rfl 23 rfl ?_
          refine q_iconst (v := 1) hC dX2_lostBlocksBy_23 rfl 24 rfl ?_
          refine q_iload_n hC dX2_lostBlocksBy_24 3 rfl 25 rfl ?_
          refine q_ishl hC dX2_lostBlocksBy_25 26 rfl ?_
          refine q_ior hC dX2_lostBlocksBy_26 27 rfl ?_
          refine q_nameI (fun x3 ex3 => ?_)
          have hw := hw x3 ex3
          refine q_istore_n (L' := [(2, .int x3), (0, .ref (gA g b)), (1, .int v1), (3, .int v3)]) hC dX2_lostBlocksBy_27 (by decide) rfl 28 rfl ?_
          exact XX.sub [1, 2, 0, 3] rfl (B28 _ (fun M v2 v3 hw => ih M v2 v3 hw) M2 x3 v3 hw)
  refine q_iconst (v := 0) hC dX2_lostBlocksBy_0 rfl 1 rfl ?_
  refine q_istore_n (L' := [(2, .int 0), (0, .ref (gA g b)), (1, .int v1)]) hC dX2_lostBlocksBy_1 (by decide) rfl 2 rfl ?_
  refine q_iconst (v := 0) hC dX2_lostBlocksBy_2 rfl 3 rfl ?_
  refine q_istore_n (L' := [(3, .int 0), (2, .int 0), (0, .ref (gA g b)), (1, .int v1)]) hC dX2_lostBlocksBy_3 (by decide) rfl 4 rfl ?_
  obtain ⟨n0, hw⟩ := hw
  exact XX.sub [2, 3, 1, 0] rfl (B4 n0 M 0 0 hw)
theorem hdV_X2_isReadAsWritten : yX2_isReadAsWritten.cls = RX2 ∧ yX2_isReadAsWritten.cls ≠ "java/lang/invoke/MethodHandle" ∧ yX2_isReadAsWritten.cls ≠ "java/lang/invoke/VarHandle" ∧ (parseMethodDescriptor yX2_isReadAsWritten.desc).map (fun d => d.parameters.length) = some 1 := by decide +kernel
theorem inX2_fooledBlocks_X2 : ∀ w ∈ u_ws RX2 TX2 14, w ∈ wsX2_fooledBlocks := uX2_fooledBlocks__wsX20
set_option maxRecDepth 100000 in
set_option maxHeartbeats 4000000 in
theorem ctX2_fooledBlocks (l : Launch) (g : GG) (M : MM) (b : Nat) (Q : Int32 → MM → Prop) (hb : tpl g b) (hw : wX2_fooledBlocks Q M b) : MI g l yX2_fooledBlocks wsX2_fooledBlocks (rmOf 5 113) [.ref (gA g b)] M Q := by
  refine mk_MI (cc := cX2_fooledBlocks) (maxL := 3) (by decide) rfl (Nat.le_of_ble_eq_true rfl) ?_
  intro z Qf hC hR
  show XX z g Qf 3 0 [(0, .ref (gA g b))] [] M
  have B39 : ∀ (K4 : MM → Int32 → Int32 → Prop) (hK4 : ∀ (M : MM) (v1 : Int32) (v2 : Int32) , K4 M v1 v2 → XX z g Qf 3 4 [(0, .ref (gA g b)), (1, .int v1), (2, .int v2)] [] M) (M : MM) (v1 : Int32) (v2 : Int32), wX2_fooledBlocks_39 Q K4 b M v1 v2 → XX z g Qf 3 39 [(0, .ref (gA g b)), (1, .int v1), (2, .int v2)] [] M := by
    intro K4 hK4 M v1 v2 hw
    refine q_iinc (v := v2 + 1) (L' := [(2, .int (v2 + 1)), (0, .ref (gA g b)), (1, .int v1)]) hC dX2_fooledBlocks_39 2 rfl rfl (by decide) rfl 42 rfl ?_
    refine q_goto hC 4 dX2_fooledBlocks_42 (by decide) ?_
    exact XX.sub [1, 2, 0] rfl (hK4 M v1 (v2 + 1) hw)
  have B4 : ∀ (n : Nat) (M : MM) (v1 : Int32) (v2 : Int32) , wX2_fooledBlocks_4 Q b n M v1 v2 → XX z g Qf 3 4 [(0, .ref (gA g b)), (1, .int v1), (2, .int v2)] [] M := by
    intro n
    induction n with
    | zero =>
      intro M v1 v2 hw
      exact hw.elim
    | succ n ih =>
      intro M v1 v2 hw
      refine q_iload_n hC dX2_fooledBlocks_4 2 rfl 5 rfl ?_
      refine q_aload_n hC dX2_fooledBlocks_5 0 rfl 6 rfl ?_
      refine q_getI (C := RX2) (T := TX2) (N := 14) (ci := 2) hC inX2_fooledBlocks_X2 hb.ob rfl 8 (by decide) (uX2_fooledBlocks__o _ (List.mem_of_getElem? (l := owX2_fooledBlocks) (i := 1) rfl)) rfl (fun _ => rfl) dX2_fooledBlocks_6 9 rfl ?_
      refine q_icmp_ge hC 45 dX2_fooledBlocks_9 (by decide) 12 rfl hw (fun hw => ?_) (fun hw => ?_)
      · refine q_iload_n hC dX2_fooledBlocks_45 1 rfl 46 rfl ?_
        exact r_iret hR dX2_fooledBlocks_46 hw
      · refine q_aload_n hC dX2_fooledBlocks_12 0 rfl 13 rfl ?_
        refine q_iload_n hC dX2_fooledBlocks_13 2 rfl 14 rfl ?_
        refine q_aload_n hC dX2_fooledBlocks_14 0 rfl 15 rfl ?_
        refine q_getI (C := RX2) (T := TX2) (N := 14) (ci := 2) hC inX2_fooledBlocks_X2 hb.ob rfl 12 (by decide) (uX2_fooledBlocks__X2_byteAsRead _ (List.mem_of_getElem? (l := owX2_byteAsRead) (i := 1) rfl)) rfl (fun _ => rfl) dX2_fooledBlocks_15 18 rfl ?_
        refine r_callI hC (go_V (q := (RX2, TX2, 14)) (As := [.int v2, .int (M b 12)]) (rest := []) hC (ctX2_readingOf (zl z) g M b v2 (M b 12) _ hb hw) 2 gX2_fooledBlocks_X2_readingOf rfl ⟨rfl, rfl⟩ hdV_X2_readingOf ⟨Nat.le_of_ble_eq_true rfl, Nat.le_of_ble_eq_true rfl⟩ hb.ob rfl rfl rfl (Nat.le_of_ble_eq_true rfl) dX2_fooledBlocks_18) 21 rfl (fun r1 M2 hw => ?_)
        refine q_iconst (v := 3) hC dX2_fooledBlocks_21 rfl 22 rfl ?_
        refine q_icmp_eq hC 39 dX2_fooledBlocks_22 (by decide) 25 rfl hw (fun hw => ?_) (fun hw => ?_)
        · exact XX.sub [0, 1, 2] rfl (B39 _ (fun M v1 v2 hw => ih M v1 v2 hw) M2 v1 v2 hw)
        · refine q_aload_n hC dX2_fooledBlocks_25 0 rfl 26 rfl ?_
          refine q_iload_n hC dX2_fooledBlocks_26 2 rfl 27 rfl ?_
          refine r_callI hC (go_V (q := (RX2, TX2, 14)) (As := [.int v2]) (rest := []) hC (ctX2_isReadAsWritten (zl z) g M2 b v2 _ hb hw) 1 gX2_fooledBlocks_X2_isReadAsWritten rfl ⟨rfl, rfl⟩ hdV_X2_isReadAsWritten ⟨Nat.le_of_ble_eq_true rfl, Nat.le_of_ble_eq_true rfl⟩ hb.ob rfl rfl rfl (Nat.le_of_ble_eq_true rfl) dX2_fooledBlocks_27) 30 rfl (fun r3 M4 hw => ?_)
          refine q_if_ne hC 39 dX2_fooledBlocks_30 (by decide) 33 rfl hw (fun hw => ?_) (fun hw => ?_)
          · exact XX.sub [0, 1, 2] rfl (B39 _ (fun M v1 v2 hw => ih M v1 v2 hw) M4 v1 v2 hw)
          · refine q_iload_n hC dX2_fooledBlocks_33 1 rfl 34 rfl ?_
            refine q_iconst (v := 1) hC dX2_fooledBlocks_34 rfl 35 rfl ?_
            refine q_iload_n hC dX2_fooledBlocks_35 2 rfl 36 rfl ?_
            refine q_ishl hC dX2_fooledBlocks_36 37 rfl ?_
            refine q_ior hC dX2_fooledBlocks_37 38 rfl ?_
            refine q_nameI (fun x5 ex5 => ?_)
            have hw := hw x5 ex5
            refine q_istore_n (L' := [(1, .int x5), (0, .ref (gA g b)), (2, .int v2)]) hC dX2_fooledBlocks_38 (by decide) rfl 39 rfl ?_
            exact XX.sub [1, 0, 2] rfl (B39 _ (fun M v1 v2 hw => ih M v1 v2 hw) M4 x5 v2 hw)
  refine q_iconst (v := 0) hC dX2_fooledBlocks_0 rfl 1 rfl ?_
  refine q_istore_n (L' := [(1, .int 0), (0, .ref (gA g b))]) hC dX2_fooledBlocks_1 (by decide) rfl 2 rfl ?_
  refine q_iconst (v := 0) hC dX2_fooledBlocks_2 rfl 3 rfl ?_
  refine q_istore_n (L' := [(2, .int 0), (1, .int 0), (0, .ref (gA g b))]) hC dX2_fooledBlocks_3 (by decide) rfl 4 rfl ?_
  obtain ⟨n0, hw⟩ := hw
  exact XX.sub [2, 1, 0] rfl (B4 n0 M 0 0 hw)
theorem inX2_mendedBlocks_X2 : ∀ w ∈ u_ws RX2 TX2 14, w ∈ wsX2_mendedBlocks := uX2_mendedBlocks__wsX20
set_option maxRecDepth 100000 in
set_option maxHeartbeats 4000000 in
theorem ctX2_mendedBlocks (l : Launch) (g : GG) (M : MM) (b : Nat) (Q : Int32 → MM → Prop) (hb : tpl g b) (hw : wX2_mendedBlocks Q M b) : MI g l yX2_mendedBlocks wsX2_mendedBlocks (rmOf 5 113) [.ref (gA g b)] M Q := by
  refine mk_MI (cc := cX2_mendedBlocks) (maxL := 4) (by decide) rfl (Nat.le_of_ble_eq_true rfl) ?_
  intro z Qf hC hR
  show XX z g Qf 4 0 [(0, .ref (gA g b))] [] M
  have B38 : ∀ (K4 : MM → Int32 → Int32 → Prop) (hK4 : ∀ (M : MM) (v1 : Int32) (v2 : Int32) , K4 M v1 v2 → XX z g Qf 4 4 [(0, .ref (gA g b)), (1, .int v1), (2, .int v2)] [] M) (M : MM) (v1 : Int32) (v2 : Int32), wX2_mendedBlocks_38 Q K4 b M v1 v2 → XX z g Qf 4 38 [(0, .ref (gA g b)), (1, .int v1), (2, .int v2)] [] M := by
    intro K4 hK4 M v1 v2 hw
    refine q_iinc (v := v2 + 1) (L' := [(2, .int (v2 + 1)), (0, .ref (gA g b)), (1, .int v1)]) hC dX2_mendedBlocks_38 2 rfl rfl (by decide) rfl 41 rfl ?_
    refine q_goto hC 4 dX2_mendedBlocks_41 (by decide) ?_
    exact XX.sub [1, 2, 0] rfl (hK4 M v1 (v2 + 1) hw)
  have B32 : ∀ (K4 : MM → Int32 → Int32 → Prop) (hK4 : ∀ (M : MM) (v1 : Int32) (v2 : Int32) , K4 M v1 v2 → XX z g Qf 4 4 [(0, .ref (gA g b)), (1, .int v1), (2, .int v2)] [] M) (M : MM) (v1 : Int32) (v2 : Int32), wX2_mendedBlocks_32 Q K4 b M v1 v2 → XX z g Qf 4 32 [(0, .ref (gA g b)), (1, .int v1), (2, .int v2)] [] M := by
    intro K4 hK4 M v1 v2 hw
    refine q_iload_n hC dX2_mendedBlocks_32 1 rfl 33 rfl ?_
    refine q_iconst (v := 1) hC dX2_mendedBlocks_33 rfl 34 rfl ?_
    refine q_iload_n hC dX2_mendedBlocks_34 2 rfl 35 rfl ?_
    refine q_ishl hC dX2_mendedBlocks_35 36 rfl ?_
    refine q_ior hC dX2_mendedBlocks_36 37 rfl ?_
    refine q_nameI (fun x3 ex3 => ?_)
    have hw := hw x3 ex3
    refine q_istore_n (L' := [(1, .int x3), (0, .ref (gA g b)), (2, .int v2)]) hC dX2_mendedBlocks_37 (by decide) rfl 38 rfl ?_
    exact XX.sub [1, 0, 2] rfl (B38 _ hK4 M x3 v2 hw)
  have B4 : ∀ (n : Nat) (M : MM) (v1 : Int32) (v2 : Int32) , wX2_mendedBlocks_4 Q b n M v1 v2 → XX z g Qf 4 4 [(0, .ref (gA g b)), (1, .int v1), (2, .int v2)] [] M := by
    intro n
    induction n with
    | zero =>
      intro M v1 v2 hw
      exact hw.elim
    | succ n ih =>
      intro M v1 v2 hw
      refine q_iload_n hC dX2_mendedBlocks_4 2 rfl 5 rfl ?_
      refine q_aload_n hC dX2_mendedBlocks_5 0 rfl 6 rfl ?_
      refine q_getI (C := RX2) (T := TX2) (N := 14) (ci := 2) hC inX2_mendedBlocks_X2 hb.ob rfl 8 (by decide) (uX2_mendedBlocks__o _ (List.mem_of_getElem? (l := owX2_mendedBlocks) (i := 1) rfl)) rfl (fun _ => rfl) dX2_mendedBlocks_6 9 rfl ?_
      refine q_icmp_ge hC 44 dX2_mendedBlocks_9 (by decide) 12 rfl hw (fun hw => ?_) (fun hw => ?_)
      · refine q_iload_n hC dX2_mendedBlocks_44 1 rfl 45 rfl ?_
        exact r_iret hR dX2_mendedBlocks_45 hw
      · refine q_aload_n hC dX2_mendedBlocks_12 0 rfl 13 rfl ?_
        refine q_iload_n hC dX2_mendedBlocks_13 2 rfl 14 rfl ?_
        refine q_aload_n hC dX2_mendedBlocks_14 0 rfl 15 rfl ?_
        refine q_getI (C := RX2) (T := TX2) (N := 14) (ci := 2) hC inX2_mendedBlocks_X2 hb.ob rfl 12 (by decide) (uX2_mendedBlocks__o _ (List.mem_of_getElem? (l := owX2_mendedBlocks) (i := 2) rfl)) rfl (fun _ => rfl) dX2_mendedBlocks_15 18 rfl ?_
        refine r_callI hC (go_V (q := (RX2, TX2, 14)) (As := [.int v2, .int (M b 12)]) (rest := []) hC (ctX2_readingOf (zl z) g M b v2 (M b 12) _ hb hw) 2 gX2_mendedBlocks_X2_readingOf rfl ⟨rfl, rfl⟩ hdV_X2_readingOf ⟨Nat.le_of_ble_eq_true rfl, Nat.le_of_ble_eq_true rfl⟩ hb.ob rfl rfl rfl (Nat.le_of_ble_eq_true rfl) dX2_mendedBlocks_18) 21 rfl (fun r1 M2 hw => ?_)
        refine q_istore_n (L' := [(3, .int r1), (0, .ref (gA g b)), (1, .int v1), (2, .int v2)]) hC dX2_mendedBlocks_21 (by decide) rfl 22 rfl ?_
        refine q_iload_n hC dX2_mendedBlocks_22 0 rfl 23 rfl ?_
        refine q_iconst (v := 1) hC dX2_mendedBlocks_23 rfl 24 rfl ?_
        refine q_icmp_eq hC 32 dX2_mendedBlocks_24 (by decide) 27 rfl hw (fun hw => ?_) (fun hw => ?_)
        · exact XX.sub [1, 2, 3] rfl (B32 _ (fun M v1 v2 hw => ih M v1 v2 hw) M2 v1 v2 hw)
        · refine q_iload_n hC dX2_mendedBlocks_27 0 rfl 28 rfl ?_
          refine q_iconst (v := 2) hC dX2_mendedBlocks_28 rfl 29 rfl ?_
          refine q_icmp_ne hC 38 dX2_mendedBlocks_29 (by decide) 32 rfl hw (fun hw => ?_) (fun hw => ?_)
          · exact XX.sub [1, 2, 3] rfl (B38 _ (fun M v1 v2 hw => ih M v1 v2 hw) M2 v1 v2 hw)
          · exact XX.sub [1, 2, 3] rfl (B32 _ (fun M v1 v2 hw => ih M v1 v2 hw) M2 v1 v2 hw)
  refine q_iconst (v := 0) hC dX2_mendedBlocks_0 rfl 1 rfl ?_
  refine q_istore_n (L' := [(1, .int 0), (0, .ref (gA g b))]) hC dX2_mendedBlocks_1 (by decide) rfl 2 rfl ?_
  refine q_iconst (v := 0) hC dX2_mendedBlocks_2 rfl 3 rfl ?_
  refine q_istore_n (L' := [(2, .int 0), (1, .int 0), (0, .ref (gA g b))]) hC dX2_mendedBlocks_3 (by decide) rfl 4 rfl ?_
  obtain ⟨n0, hw⟩ := hw
  exact XX.sub [2, 1, 0] rfl (B4 n0 M 0 0 hw)
set_option maxRecDepth 100000 in
set_option maxHeartbeats 4000000 in
theorem ctX2_roomFor (l : Launch) (g : GG) (M : MM) (b : Nat) (v1 : Int32) (Q : Int32 → MM → Prop) (hb : tpl g b) (hw : wX2_roomFor Q M b v1) : MI g l yX2_roomFor wsX2_roomFor (rmOf 2 42) [.ref (gA g b), .int v1] M Q := by
  refine mk_MI (cc := cX2_roomFor) (maxL := 3) (by decide) rfl (Nat.le_of_ble_eq_true rfl) ?_
  intro z Qf hC hR
  show XX z g Qf 3 0 [(0, .ref (gA g b)), (1, .int v1)] [] M
  refine q_aload_n hC dX2_roomFor_0 0 rfl 1 rfl ?_
  refine q_bipush (v := 6) hC dX2_roomFor_1 (by decide) 3 rfl ?_
  refine r_callI hC (go_V (q := (RX2, TX2, 14)) (As := [.int 6]) (rest := []) hC (ctX2_ruled (zl z) g M b 6 _ hb hw) 1 gX2_roomFor_X2_ruled rfl ⟨rfl, rfl⟩ hdV_X2_ruled ⟨Nat.le_of_ble_eq_true rfl, Nat.le_of_ble_eq_true rfl⟩ hb.ob rfl rfl rfl (Nat.le_of_ble_eq_true rfl) dX2_roomFor_3) 6 rfl (fun r1 M2 hw => ?_)
  refine q_aload_n hC dX2_roomFor_6 0 rfl 7 rfl ?_
  refine q_iload_n hC dX2_roomFor_7 1 rfl 8 rfl ?_
  refine r_callI hC (go_V (q := (RX2, TX2, 14)) (As := [.int v1]) (rest := [.int r1]) hC (ctX2_longWith (zl z) g M2 b v1 _ hb hw) 1 gX2_roomFor_X2_longWith rfl ⟨rfl, rfl⟩ hdV_X2_longWith ⟨Nat.le_of_ble_eq_true rfl, Nat.le_of_ble_eq_true rfl⟩ hb.ob rfl rfl rfl (Nat.le_of_ble_eq_true rfl) dX2_roomFor_8) 11 rfl (fun r3 M4 hw => ?_)
  refine q_iadd hC dX2_roomFor_11 12 rfl ?_
  refine q_istore_n (L' := [(2, .int (r1 + r3)), (0, .ref (gA g b)), (1, .int v1)]) hC dX2_roomFor_12 (by decide) rfl 13 rfl ?_
  refine q_iload_n hC dX2_roomFor_13 0 rfl 14 rfl ?_
  refine q_iconst (v := 1) hC dX2_roomFor_14 rfl 15 rfl ?_
  refine q_icmp_ge hC 22 dX2_roomFor_15 (by decide) 18 rfl hw (fun hw => ?_) (fun hw => ?_)
  · refine q_aload_n hC dX2_roomFor_22 1 rfl 23 rfl ?_
    refine q_iconst (v := 0) hC dX2_roomFor_23 rfl 24 rfl ?_
    refine r_callI hC (go_V (q := (RX2, TX2, 14)) (As := [.int 0]) (rest := []) hC (ctX2_ruled (zl z) g M4 b 0 _ hb hw) 1 gX2_roomFor_X2_ruled rfl ⟨rfl, rfl⟩ hdV_X2_ruled ⟨Nat.le_of_ble_eq_true rfl, Nat.le_of_ble_eq_true rfl⟩ hb.ob rfl rfl rfl (Nat.le_of_ble_eq_true rfl) dX2_roomFor_24) 27 rfl (fun r5 M6 hw => ?_)
    refine q_iload_n hC dX2_roomFor_27 0 rfl 28 rfl ?_
    obtain ⟨hne, hw⟩ := hw
    refine q_idiv hC dX2_roomFor_28 hne 29 rfl ?_
    exact r_iret hR dX2_roomFor_29 hw
  · refine q_iconst (v := 0) hC dX2_roomFor_18 rfl 19 rfl ?_
    refine q_goto hC 29 dX2_roomFor_19 (by decide) ?_
    exact r_iret hR dX2_roomFor_29 hw
set_option maxRecDepth 100000 in
set_option maxHeartbeats 4000000 in
theorem ctX2_timeWhenFilled (l : Launch) (g : GG) (M : MM) (v0 : Int32) (v1 : Int32) (v2 : Int32) (v3 : Int32) (v4 : Int32) (Q : Int32 → MM → Prop)  (hw : wX2_timeWhenFilled Q M v0 v1 v2 v3 v4) : MI g l yX2_timeWhenFilled wsX2_timeWhenFilled (rmOf 1 21) [.int v0, .int v1, .int v2, .int v3, .int v4] M Q := by
  refine mk_MI (cc := cX2_timeWhenFilled) (maxL := 6) (by decide) rfl (Nat.le_of_ble_eq_true rfl) ?_
  intro z Qf hC hR
  show XX z g Qf 6 0 [(0, .int v0), (1, .int v1), (2, .int v2), (3, .int v3), (4, .int v4)] [] M
  refine q_iload_n hC dX2_timeWhenFilled_0 1 rfl 1 rfl ?_
  refine q_iload hC dX2_timeWhenFilled_1 4 rfl 3 rfl ?_
  refine q_iadd hC dX2_timeWhenFilled_3 4 rfl ?_
  refine q_iload_n hC dX2_timeWhenFilled_4 2 rfl 5 rfl ?_
  refine q_mmin hC (uX2_timeWhenFilled__o _ (List.mem_of_getElem? (l := owX2_timeWhenFilled) (i := 1) rfl)) (uX2_timeWhenFilled__o _ (List.mem_of_getElem? (l := owX2_timeWhenFilled) (i := 2) rfl)) (uX2_timeWhenFilled__o _ (List.mem_of_getElem? (l := owX2_timeWhenFilled) (i := 3) rfl)) (uX2_timeWhenFilled__o _ (List.mem_of_getElem? (l := owX2_timeWhenFilled) (i := 4) rfl)) (by decide) (Nat.le_of_ble_eq_true rfl) dX2_timeWhenFilled_5 8 rfl ?_
  refine q_iconst (v := 1) hC dX2_timeWhenFilled_8 rfl 9 rfl ?_
  refine q_isub hC dX2_timeWhenFilled_9 10 rfl ?_
  refine q_nameI (fun x1 ex1 => ?_)
  have hw := hw x1 ex1
  refine q_istore (L' := [(5, .int x1), (0, .int v0), (1, .int v1), (2, .int v2), (3, .int v3), (4, .int v4)]) hC dX2_timeWhenFilled_10 (by decide) rfl 12 rfl ?_
  refine q_iload_n hC dX2_timeWhenFilled_12 1 rfl 13 rfl ?_
  refine q_iload hC dX2_timeWhenFilled_13 0 rfl 15 rfl ?_
  refine q_iload_n hC dX2_timeWhenFilled_15 4 rfl 16 rfl ?_
  refine q_imul hC dX2_timeWhenFilled_16 17 rfl ?_
  refine q_mmax hC (uX2_timeWhenFilled__o _ (List.mem_of_getElem? (l := owX2_timeWhenFilled) (i := 5) rfl)) (uX2_timeWhenFilled__o _ (List.mem_of_getElem? (l := owX2_timeWhenFilled) (i := 6) rfl)) (uX2_timeWhenFilled__o _ (List.mem_of_getElem? (l := owX2_timeWhenFilled) (i := 3) rfl)) (uX2_timeWhenFilled__o _ (List.mem_of_getElem? (l := owX2_timeWhenFilled) (i := 7) rfl)) (by decide) (Nat.le_of_ble_eq_true rfl) dX2_timeWhenFilled_17 20 rfl ?_
  exact r_iret hR dX2_timeWhenFilled_20 hw
theorem hdT_X2_timeWhenFilled : yX2_timeWhenFilled.cls ≠ "java/lang/invoke/MethodHandle" ∧ yX2_timeWhenFilled.cls ≠ "java/lang/invoke/VarHandle" ∧ (parseMethodDescriptor yX2_timeWhenFilled.desc).map (fun d => d.parameters.length) = some 5 := by decide +kernel
set_option maxRecDepth 100000 in
set_option maxHeartbeats 4000000 in
theorem ctX2_streamed (l : Launch) (g : GG) (M : MM) (b : Nat) (v1 : Int32) (v2 : Int32) (v3 : Int32) (v4 : Int32) (v5 : Int32) (Q : Int32 → MM → Prop) (hb : tpl g b) (hw : wX2_streamed Q M b v1 v2 v3 v4 v5) : MI g l yX2_streamed wsX2_streamed (rmOf 2 46) [.ref (gA g b), .int v1, .int v2, .int v3, .int v4, .int v5] M Q := by
  refine mk_MI (cc := cX2_streamed) (maxL := 10) (by decide) rfl (Nat.le_of_ble_eq_true rfl) ?_
  intro z Qf hC hR
  show XX z g Qf 10 0 [(0, .ref (gA g b)), (1, .int v1), (2, .int v2), (3, .int v3), (4, .int v4), (5, .int v5)] [] M
  have B69 : ∀ (K31 : MM → Int32 → Int32 → Int32 → Int32 → Prop) (hK31 : ∀ (M : MM) (v6 : Int32) (v7 : Int32) (v8 : Int32) (v9 : Int32) , K31 M v6 v7 v8 v9 → XX z g Qf 10 31 [(0, .ref (gA g b)), (1, .int v1), (3, .int v3), (4, .int v4), (5, .int v5), (6, .int v6), (7, .int v7), (8, .int v8), (9, .int v9)] [] M) (M : MM) (v6 : Int32) (v7 : Int32) (v8 : Int32) (v9 : Int32), wX2_streamed_69 Q K31 b v1 v2 v3 v4 v5 M v6 v7 v8 v9 → XX z g Qf 10 69 [(0, .ref (gA g b)), (1, .int v1), (3, .int v3), (4, .int v4), (5, .int v5), (6, .int v6), (7, .int v7), (8, .int v8), (9, .int v9)] [] M := by
    intro K31 hK31 M v6 v7 v8 v9 hw
    refine q_iload hC dX2_streamed_69 7 rfl 71 rfl ?_
    refine q_iload hC dX2_streamed_71 5 rfl 73 rfl ?_
    refine q_iadd hC dX2_streamed_73 74 rfl ?_
    refine q_istore (L' := [(8, .int (v8 + v6)), (0, .ref (gA g b)), (1, .int v1), (3, .int v3), (4, .int v4), (5, .int v5), (6, .int v6), (7, .int v7), (9, .int v9)]) hC dX2_streamed_74 (by decide) rfl 76 rfl ?_
    refine q_iinc (v := v9 + 1) (L' := [(9, .int (v9 + 1)), (8, .int (v8 + v6)), (0, .ref (gA g b)), (1, .int v1), (3, .int v3), (4, .int v4), (5, .int v5), (6, .int v6), (7, .int v7)]) hC dX2_streamed_76 8 rfl rfl (by decide) rfl 79 rfl ?_
    refine q_goto hC 31 dX2_streamed_79 (by decide) ?_
    exact XX.sub [2, 3, 4, 5, 6, 7, 8, 1, 0] rfl (hK31 M v6 v7 (v8 + v6) (v9 + 1) hw)
  have B31 : ∀ (n : Nat) (M : MM) (v6 : Int32) (v7 : Int32) (v8 : Int32) (v9 : Int32) , wX2_streamed_31 Q b v1 v2 v3 v4 v5 n M v6 v7 v8 v9 → XX z g Qf 10 31 [(0, .ref (gA g b)), (1, .int v1), (3, .int v3), (4, .int v4), (5, .int v5), (6, .int v6), (7, .int v7), (8, .int v8), (9, .int v9)] [] M := by
    intro n
    induction n with
    | zero =>
      intro M v6 v7 v8 v9 hw
      exact hw.elim
    | succ n ih =>
      intro M v6 v7 v8 v9 hw
      refine q_iload hC dX2_streamed_31 8 rfl 33 rfl ?_
      refine q_iload_n hC dX2_streamed_33 1 rfl 34 rfl ?_
      refine q_icmp_ge hC 82 dX2_streamed_34 (by decide) 37 rfl hw (fun hw => ?_) (fun hw => ?_)
      · refine q_iload hC dX2_streamed_82 4 rfl 84 rfl ?_
        refine q_if_eq hC 92 dX2_streamed_84 (by decide) 87 rfl hw (fun hw => ?_) (fun hw => ?_)
        · refine q_iload hC dX2_streamed_92 7 rfl 94 rfl ?_
          exact r_iret hR dX2_streamed_94 hw
        · refine q_iload hC dX2_streamed_87 6 rfl 89 rfl ?_
          refine q_goto hC 94 dX2_streamed_89 (by decide) ?_
          exact r_iret hR dX2_streamed_94 hw
      · refine q_iload hC dX2_streamed_37 8 rfl 39 rfl ?_
        refine q_iload_n hC dX2_streamed_39 2 rfl 40 rfl ?_
        refine q_imul hC dX2_streamed_40 41 rfl ?_
        refine q_iload hC dX2_streamed_41 7 rfl 43 rfl ?_
        refine q_icmp_le hC 69 dX2_streamed_43 (by decide) 46 rfl hw (fun hw => ?_) (fun hw => ?_)
        · exact XX.sub [0, 1, 2, 3, 4, 5, 6, 7, 8] rfl (B69 _ (fun M v6 v7 v8 v9 hw => ih M v6 v7 v8 v9 hw) M v6 v7 v8 v9 hw)
        · refine q_iinc (v := v7 + 1) (L' := [(7, .int (v7 + 1)), (0, .ref (gA g b)), (1, .int v1), (3, .int v3), (4, .int v4), (5, .int v5), (6, .int v6), (8, .int v8), (9, .int v9)]) hC dX2_streamed_46 6 rfl rfl (by decide) rfl 49 rfl ?_
          refine q_iload hC dX2_streamed_49 7 rfl 51 rfl ?_
          refine q_aload_n hC dX2_streamed_51 1 rfl 52 rfl ?_
          refine q_bipush (v := 8) hC dX2_streamed_52 (by decide) 54 rfl ?_
          refine r_callI hC (go_V (q := (RX2, TX2, 14)) (As := [.int 8]) (rest := [.int v8]) hC (ctX2_ruled (zl z) g M b 8 _ hb hw) 1 gX2_streamed_X2_ruled rfl ⟨rfl, rfl⟩ hdV_X2_ruled ⟨Nat.le_of_ble_eq_true rfl, Nat.le_of_ble_eq_true rfl⟩ hb.ob rfl rfl rfl (Nat.le_of_ble_eq_true rfl) dX2_streamed_54) 57 rfl (fun r7 M8 hw => ?_)
          refine q_iadd hC dX2_streamed_57 58 rfl ?_
          refine q_iload hC dX2_streamed_58 8 rfl 60 rfl ?_
          refine q_iload_n hC dX2_streamed_60 2 rfl 61 rfl ?_
          refine q_iload_n hC dX2_streamed_61 3 rfl 62 rfl ?_
          refine q_iload hC dX2_streamed_62 4 rfl 64 rfl ?_
          refine r_callI hC (go_T (As := [.int (v8 + r7), .int v9, .int v1, .int v3, .int v4]) (rest := []) hC (ctX2_timeWhenFilled (zl z) g M8 (v8 + r7) v9 v1 v3 v4 _ hw) 5 gX2_streamed_X2_timeWhenFilled rfl ⟨rfl, rfl⟩ hdT_X2_timeWhenFilled ⟨Nat.le_of_ble_eq_true rfl, Nat.le_of_ble_eq_true rfl⟩ rfl rfl (Nat.le_of_ble_eq_true rfl) dX2_streamed_64) 67 rfl (fun r9 M10 hw => ?_)
          refine q_istore (L' := [(8, .int r9), (7, .int (v7 + 1)), (0, .ref (gA g b)), (1, .int v1), (3, .int v3), (4, .int v4), (5, .int v5), (6, .int v6), (9, .int v9)]) hC dX2_streamed_67 (by decide) rfl 69 rfl ?_
          exact XX.sub [2, 3, 4, 5, 6, 7, 1, 0, 8] rfl (B69 _ (fun M v6 v7 v8 v9 hw => ih M v6 v7 v8 v9 hw) M10 v6 (v7 + 1) r9 v9 hw)
  refine q_aload_n hC dX2_streamed_0 0 rfl 1 rfl ?_
  refine q_iload_n hC dX2_streamed_1 2 rfl 2 rfl ?_
  refine q_aload_n hC dX2_streamed_2 0 rfl 3 rfl ?_
  refine q_bipush (v := 6) hC dX2_streamed_3 (by decide) 5 rfl ?_
  refine r_callI hC (go_V (q := (RX2, TX2, 14)) (As := [.int 6]) (rest := [.int v2, .ref (gA g b)]) hC (ctX2_ruled (zl z) g M b 6 _ hb hw) 1 gX2_streamed_X2_ruled rfl ⟨rfl, rfl⟩ hdV_X2_ruled ⟨Nat.le_of_ble_eq_true rfl, Nat.le_of_ble_eq_true rfl⟩ hb.ob rfl rfl rfl (Nat.le_of_ble_eq_true rfl) dX2_streamed_5) 8 rfl (fun r1 M2 hw => ?_)
  refine q_iadd hC dX2_streamed_8 9 rfl ?_
  refine r_callI hC (go_V (q := (RX2, TX2, 14)) (As := [.int (v2 + r1)]) (rest := []) hC (ctX2_playedThrough (zl z) g M2 b (v2 + r1) _ hb hw) 1 gX2_streamed_X2_playedThrough rfl ⟨rfl, rfl⟩ hdV_X2_playedThrough ⟨Nat.le_of_ble_eq_true rfl, Nat.le_of_ble_eq_true rfl⟩ hb.ob rfl rfl rfl (Nat.le_of_ble_eq_true rfl) dX2_streamed_9) 12 rfl (fun r3 M4 hw => ?_)
  refine q_istore (L' := [(6, .int r3), (0, .ref (gA g b)), (1, .int v1), (2, .int v2), (3, .int v3), (4, .int v4), (5, .int v5)]) hC dX2_streamed_12 (by decide) rfl 14 rfl ?_
  refine q_iconst (v := 0) hC dX2_streamed_14 rfl 15 rfl ?_
  refine q_istore (L' := [(7, .int 0), (6, .int r3), (0, .ref (gA g b)), (1, .int v1), (2, .int v2), (3, .int v3), (4, .int v4), (5, .int v5)]) hC dX2_streamed_15 (by decide) rfl 17 rfl ?_
  refine q_iconst (v := 0) hC dX2_streamed_17 rfl 18 rfl ?_
  refine q_iconst (v := 0) hC dX2_streamed_18 rfl 19 rfl ?_
  refine q_iload_n hC dX2_streamed_19 3 rfl 20 rfl ?_
  refine q_iload_n hC dX2_streamed_20 5 rfl 21 rfl ?_
  refine q_iload hC dX2_streamed_21 6 rfl 23 rfl ?_
  refine r_callI hC (go_T (As := [.int 0, .int 0, .int v1, .int v3, .int v4]) (rest := []) hC (ctX2_timeWhenFilled (zl z) g M4 0 0 v1 v3 v4 _ hw) 5 gX2_streamed_X2_timeWhenFilled rfl ⟨rfl, rfl⟩ hdT_X2_timeWhenFilled ⟨Nat.le_of_ble_eq_true rfl, Nat.le_of_ble_eq_true rfl⟩ rfl rfl (Nat.le_of_ble_eq_true rfl) dX2_streamed_23) 26 rfl (fun r5 M6 hw => ?_)
  refine q_istore (L' := [(8, .int r5), (7, .int 0), (6, .int r3), (0, .ref (gA g b)), (1, .int v1), (2, .int v2), (3, .int v3), (4, .int v4), (5, .int v5)]) hC dX2_streamed_26 (by decide) rfl 28 rfl ?_
  refine q_iconst (v := 0) hC dX2_streamed_28 rfl 29 rfl ?_
  refine q_istore (L' := [(9, .int 0), (8, .int r5), (7, .int 0), (6, .int r3), (0, .ref (gA g b)), (1, .int v1), (2, .int v2), (3, .int v3), (4, .int v4), (5, .int v5)]) hC dX2_streamed_29 (by decide) rfl 31 rfl ?_
  obtain ⟨n0, hw⟩ := hw
  exact XX.sub [4, 5, 7, 8, 9, 3, 2, 1, 0] rfl (B31 n0 M6 r3 0 r5 0 hw)
theorem inX2_addSeen_X2 : ∀ w ∈ u_ws RX2 TX2 14, w ∈ wsX2_addSeen := uX2_addSeen__wsX20
set_option maxRecDepth 100000 in
set_option maxHeartbeats 4000000 in
theorem ctX2_addSeen (l : Launch) (g : GG) (M : MM) (b : Nat) (v1 : Int32) (v2 : Int32) (Q : Int32 → MM → Prop) (hb : tpl g b) (hw : wX2_addSeen Q M b v1 v2) : MI g l yX2_addSeen wsX2_addSeen (rmOf 1 22) [.ref (gA g b), .int v1, .int v2] M Q := by
  refine mk_MI (cc := cX2_addSeen) (maxL := 3) (by decide) rfl (Nat.le_of_ble_eq_true rfl) ?_
  intro z Qf hC hR
  show XX z g Qf 3 0 [(0, .ref (gA g b)), (1, .int v1), (2, .int v2)] [] M
  refine q_aload_n hC dX2_addSeen_0 0 rfl 1 rfl ?_
  refine q_getR (C := RX2) (T := TX2) (N := 14) (ci := 2) hC inX2_addSeen_X2 hb.ob rfl 6 (by decide) (uX2_addSeen__o _ (List.mem_of_getElem? (l := owX2_addSeen) (i := 1) rfl)) rfl (b + 7) (fun _ => rfl) dX2_addSeen_1 4 rfl ?_
  refine q_aload_n hC dX2_addSeen_4 0 rfl 5 rfl ?_
  refine q_getI (C := RX2) (T := TX2) (N := 14) (ci := 2) hC inX2_addSeen_X2 hb.ob rfl 13 (by decide) (uX2_addSeen__o _ (List.mem_of_getElem? (l := owX2_addSeen) (i := 2) rfl)) rfl (fun _ => rfl) dX2_addSeen_5 8 rfl ?_
  refine q_iload_n hC dX2_addSeen_8 1 rfl 9 rfl ?_
  refine r_callV hC (go_N (As := [.ref (gA g (b + 7)), .int (M b 13), .int v1]) (rest := []) hC (ctX4_setCell (zl z) g M (b + 7) (M b 13) v1 _ (hb.ar 7 (by decide) (by decide)) hw) 3 gX2_addSeen_X4_setCell_n139 rfl ⟨rfl, rfl⟩ 7 rfl (uX2_addSeen__o _ (List.mem_of_getElem? (l := owX2_addSeen) (i := 5) rfl)) (uX2_addSeen__o _ (List.mem_of_getElem? (l := owX2_addSeen) (i := 4) rfl)) hdT_X4_setCell ⟨Nat.le_of_ble_eq_true rfl, Nat.le_of_ble_eq_true rfl⟩ rfl rfl (Nat.le_of_ble_eq_true rfl) dX2_addSeen_9) 12 rfl (fun M1 hw => ?_)
  refine q_aload_n hC dX2_addSeen_12 0 rfl 13 rfl ?_
  refine q_getR (C := RX2) (T := TX2) (N := 14) (ci := 2) hC inX2_addSeen_X2 hb.ob rfl 7 (by decide) (uX2_addSeen__o _ (List.mem_of_getElem? (l := owX2_addSeen) (i := 3) rfl)) rfl (b + 8) (fun _ => rfl) dX2_addSeen_13 16 rfl ?_
  refine q_aload_n hC dX2_addSeen_16 0 rfl 17 rfl ?_
  refine q_getI (C := RX2) (T := TX2) (N := 14) (ci := 2) hC inX2_addSeen_X2 hb.ob rfl 13 (by decide) (uX2_addSeen__o _ (List.mem_of_getElem? (l := owX2_addSeen) (i := 2) rfl)) rfl (fun _ => rfl) dX2_addSeen_17 20 rfl ?_
  refine q_iload_n hC dX2_addSeen_20 2 rfl 21 rfl ?_
  refine r_callV hC (go_N (As := [.ref (gA g (b + 8)), .int (M1 b 13), .int v2]) (rest := []) hC (ctX4_setCell (zl z) g M1 (b + 8) (M1 b 13) v2 _ (hb.ar 8 (by decide) (by decide)) hw) 3 gX2_addSeen_X4_setCell_n139 rfl ⟨rfl, rfl⟩ 7 rfl (uX2_addSeen__o _ (List.mem_of_getElem? (l := owX2_addSeen) (i := 5) rfl)) (uX2_addSeen__o _ (List.mem_of_getElem? (l := owX2_addSeen) (i := 4) rfl)) hdT_X4_setCell ⟨Nat.le_of_ble_eq_true rfl, Nat.le_of_ble_eq_true rfl⟩ rfl rfl (Nat.le_of_ble_eq_true rfl) dX2_addSeen_21) 24 rfl (fun M2 hw => ?_)
  refine q_aload_n hC dX2_addSeen_24 0 rfl 25 rfl ?_
  refine q_dup hC dX2_addSeen_25 rfl 26 rfl ?_
  refine q_getI (C := RX2) (T := TX2) (N := 14) (ci := 2) hC inX2_addSeen_X2 hb.ob rfl 13 (by decide) (uX2_addSeen__o _ (List.mem_of_getElem? (l := owX2_addSeen) (i := 2) rfl)) rfl (fun _ => rfl) dX2_addSeen_26 29 rfl ?_
  refine q_iconst (v := 1) hC dX2_addSeen_29 rfl 30 rfl ?_
  refine q_iadd hC dX2_addSeen_30 31 rfl ?_
  refine q_putI (C := RX2) (T := TX2) (N := 14) (ci := 2) hC inX2_addSeen_X2 tyX2 tyX2_ok nmX2 hb.ob rfl 13 (by decide) (uX2_addSeen__o _ (List.mem_of_getElem? (l := owX2_addSeen) (i := 2) rfl)) rfl rfl rfl (fun _ => Nat.le_of_ble_eq_true rfl) (fun _ => rfl) dX2_addSeen_31 34 rfl (fun M3 eM3 => ?_)
  have hw := hw M3 eM3
  refine q_aload_n hC dX2_addSeen_34 0 rfl 35 rfl ?_
  refine q_getI (C := RX2) (T := TX2) (N := 14) (ci := 2) hC inX2_addSeen_X2 hb.ob rfl 13 (by decide) (uX2_addSeen__o _ (List.mem_of_getElem? (l := owX2_addSeen) (i := 2) rfl)) rfl (fun _ => rfl) dX2_addSeen_35 38 rfl ?_
  exact r_iret hR dX2_addSeen_38 hw
theorem inX2_canBe_X2 : ∀ w ∈ u_ws RX2 TX2 14, w ∈ wsX2_canBe := uX2_canBe__wsX20
set_option maxRecDepth 100000 in
set_option maxHeartbeats 4000000 in
theorem ctX2_canBe (l : Launch) (g : GG) (M : MM) (b : Nat) (v1 : Int32) (v2 : Int32) (Q : Int32 → MM → Prop) (hb : tpl g b) (hw : wX2_canBe Q M b v1 v2) : MI g l yX2_canBe wsX2_canBe (rmOf 1 22) [.ref (gA g b), .int v1, .int v2] M Q := by
  refine mk_MZ (cc := cX2_canBe) (maxL := 6) (by decide) rfl (Nat.le_of_ble_eq_true rfl) ?_
  intro z Qf hC hR
  show XX z g Qf 6 0 [(0, .ref (gA g b)), (1, .int v1), (2, .int v2)] [] M
  have B2 : ∀ (n : Nat) (M : MM) (v3 : Int32) , wX2_canBe_2 Q b v1 v2 n M v3 → XX z g Qf 6 2 [(0, .ref (gA g b)), (1, .int v1), (2, .int v2), (3, .int v3)] [] M := by
    intro n
    induction n with
    | zero =>
      intro M v3 hw
      exact hw.elim
    | succ n ih =>
      intro M v3 hw
      refine q_iload_n hC dX2_canBe_2 3 rfl 3 rfl ?_
      refine q_aload_n hC dX2_canBe_3 0 rfl 4 rfl ?_
      refine q_getI (C := RX2) (T := TX2) (N := 14) (ci := 2) hC inX2_canBe_X2 hb.ob rfl 13 (by decide) (uX2_canBe__o _ (List.mem_of_getElem? (l := owX2_canBe) (i := 1) rfl)) rfl (fun _ => rfl) dX2_canBe_4 7 rfl ?_
      refine q_icmp_ge hC 64 dX2_canBe_7 (by decide) 10 rfl hw (fun hw => ?_) (fun hw => ?_)
      · refine q_iconst (v := 1) hC dX2_canBe_64 rfl 65 rfl ?_
        exact r_iret hR dX2_canBe_65 ⟨nb_1, hw⟩
      · refine q_aload_n hC dX2_canBe_10 0 rfl 11 rfl ?_
        refine q_getR (C := RX2) (T := TX2) (N := 14) (ci := 2) hC inX2_canBe_X2 hb.ob rfl 6 (by decide) (uX2_canBe__o _ (List.mem_of_getElem? (l := owX2_canBe) (i := 2) rfl)) rfl (b + 7) (fun _ => rfl) dX2_canBe_11 14 rfl ?_
        refine q_iload_n hC dX2_canBe_14 3 rfl 15 rfl ?_
        refine r_callI hC (go_N (As := [.ref (gA g (b + 7)), .int v3]) (rest := []) hC (ctX4_cell (zl z) g M (b + 7) v3 _ (hb.ar 7 (by decide) (by decide)) hw) 2 gX2_canBe_X4_cell_n114 rfl ⟨rfl, rfl⟩ 5 rfl (uX2_canBe__o _ (List.mem_of_getElem? (l := owX2_canBe) (i := 5) rfl)) (uX2_canBe__o _ (List.mem_of_getElem? (l := owX2_canBe) (i := 4) rfl)) hdT_X4_cell ⟨Nat.le_of_ble_eq_true rfl, Nat.le_of_ble_eq_true rfl⟩ rfl rfl (Nat.le_of_ble_eq_true rfl) dX2_canBe_15) 18 rfl (fun r1 M2 hw => ?_)
        refine q_istore (L' := [(4, .int r1), (0, .ref (gA g b)), (1, .int v1), (2, .int v2), (3, .int v3)]) hC dX2_canBe_18 (by decide) rfl 20 rfl ?_
        refine q_aload_n hC dX2_canBe_20 1 rfl 21 rfl ?_
        refine q_getR (C := RX2) (T := TX2) (N := 14) (ci := 2) hC inX2_canBe_X2 hb.ob rfl 7 (by decide) (uX2_canBe__o _ (List.mem_of_getElem? (l := owX2_canBe) (i := 3) rfl)) rfl (b + 8) (fun _ => rfl) dX2_canBe_21 24 rfl ?_
        refine q_iload_n hC dX2_canBe_24 4 rfl 25 rfl ?_
        refine r_callI hC (go_N (As := [.ref (gA g (b + 8)), .int v3]) (rest := []) hC (ctX4_cell (zl z) g M2 (b + 8) v3 _ (hb.ar 8 (by decide) (by decide)) hw) 2 gX2_canBe_X4_cell_n114 rfl ⟨rfl, rfl⟩ 5 rfl (uX2_canBe__o _ (List.mem_of_getElem? (l := owX2_canBe) (i := 5) rfl)) (uX2_canBe__o _ (List.mem_of_getElem? (l := owX2_canBe) (i := 4) rfl)) hdT_X4_cell ⟨Nat.le_of_ble_eq_true rfl, Nat.le_of_ble_eq_true rfl⟩ rfl rfl (Nat.le_of_ble_eq_true rfl) dX2_canBe_25) 28 rfl (fun r3 M4 hw => ?_)
        refine q_istore (L' := [(5, .int r3), (4, .int r1), (0, .ref (gA g b)), (1, .int v1), (2, .int v2), (3, .int v3)]) hC dX2_canBe_28 (by decide) rfl 30 rfl ?_
        refine q_iload hC dX2_canBe_30 0 rfl 32 rfl ?_
        refine q_iload hC dX2_canBe_32 1 rfl 34 rfl ?_
        refine q_iload_n hC dX2_canBe_34 3 rfl 35 rfl ?_
        refine q_iload_n hC dX2_canBe_35 4 rfl 36 rfl ?_
        refine r_callI hC (go_N (As := [.int r1, .int v1, .int v2]) (rest := [.int r3]) hC (ctX4_lengthOfTurns (zl z) g M4 r1 v1 v2 _ hw) 3 gX2_canBe_X4_lengthOfTurns_n73 rfl ⟨rfl, rfl⟩ 10 rfl (uX2_canBe__o _ (List.mem_of_getElem? (l := owX2_canBe) (i := 5) rfl)) (uX2_canBe__o _ (List.mem_of_getElem? (l := owX2_canBe) (i := 6) rfl)) hdT_X4_lengthOfTurns ⟨Nat.le_of_ble_eq_true rfl, Nat.le_of_ble_eq_true rfl⟩ rfl rfl (Nat.le_of_ble_eq_true rfl) dX2_canBe_36) 39 rfl (fun r5 M6 hw => ?_)
        refine q_icmp_lt hC 56 dX2_canBe_39 (by decide) 42 rfl hw (fun hw => ?_) (fun hw => ?_)
        · refine q_iconst (v := 0) hC dX2_canBe_56 rfl 57 rfl ?_
          exact r_iret hR dX2_canBe_57 ⟨nb_0, hw⟩
        · refine q_iload hC dX2_canBe_42 0 rfl 44 rfl ?_
          refine q_iload hC dX2_canBe_44 1 rfl 46 rfl ?_
          refine q_iconst (v := 1) hC dX2_canBe_46 rfl 47 rfl ?_
          refine q_iadd hC dX2_canBe_47 48 rfl ?_
          refine q_iload_n hC dX2_canBe_48 3 rfl 49 rfl ?_
          refine q_iload_n hC dX2_canBe_49 4 rfl 50 rfl ?_
          refine r_callI hC (go_N (As := [.int (r1 + (1 : Int32)), .int v1, .int v2]) (rest := [.int r3]) hC (ctX4_lengthOfTurns (zl z) g M6 (r1 + (1 : Int32)) v1 v2 _ hw) 3 gX2_canBe_X4_lengthOfTurns_n73 rfl ⟨rfl, rfl⟩ 10 rfl (uX2_canBe__o _ (List.mem_of_getElem? (l := owX2_canBe) (i := 5) rfl)) (uX2_canBe__o _ (List.mem_of_getElem? (l := owX2_canBe) (i := 6) rfl)) hdT_X4_lengthOfTurns ⟨Nat.le_of_ble_eq_true rfl, Nat.le_of_ble_eq_true rfl⟩ rfl rfl (Nat.le_of_ble_eq_true rfl) dX2_canBe_50) 53 rfl (fun r7 M8 hw => ?_)
          refine q_icmp_lt hC 58 dX2_canBe_53 (by decide) 56 rfl hw (fun hw => ?_) (fun hw => ?_)
          · refine q_iinc (v := v3 + 1) (L' := [(3, .int (v3 + 1)), (5, .int r3), (4, .int r1), (0, .ref (gA g b)), (1, .int v1), (2, .int v2)]) hC dX2_canBe_58 5 rfl rfl (by decide) rfl 61 rfl ?_
            refine q_goto hC 2 dX2_canBe_61 (by decide) ?_
            exact XX.sub [3, 4, 5, 0] rfl (ih M8 (v3 + 1) hw)
          · refine q_iconst (v := 0) hC dX2_canBe_56 rfl 57 rfl ?_
            exact r_iret hR dX2_canBe_57 ⟨nb_0, hw⟩
  refine q_iconst (v := 0) hC dX2_canBe_0 rfl 1 rfl ?_
  refine q_istore_n (L' := [(3, .int 0), (0, .ref (gA g b)), (1, .int v1), (2, .int v2)]) hC dX2_canBe_1 (by decide) rfl 2 rfl ?_
  obtain ⟨n0, hw⟩ := hw
  exact XX.sub [1, 2, 3, 0] rfl (B2 n0 M 0 hw)
theorem inX1_isNothing_X1 : ∀ w ∈ u_ws RX1 TX1 3, w ∈ wsX1_isNothing := uX1_isNothing__wsX10
set_option maxRecDepth 100000 in
set_option maxHeartbeats 4000000 in
theorem ctX1_isNothing (l : Launch) (g : GG) (M : MM) (b : Nat) (Q : Int32 → MM → Prop) (hb : shl g b) (hw : wX1_isNothing Q M b) : MI g l yX1_isNothing wsX1_isNothing (rmOf 0 0) [.ref (gA g b)] M Q := by
  refine mk_MZ (cc := cX1_isNothing) (maxL := 1) (by decide) rfl (Nat.le_of_ble_eq_true rfl) ?_
  intro z Qf hC hR
  show XX z g Qf 1 0 [(0, .ref (gA g b))] [] M
  refine q_aload_n hC dX1_isNothing_0 0 rfl 1 rfl ?_
  refine q_getI (C := RX1) (T := TX1) (N := 3) (ci := 1) hC inX1_isNothing_X1 hb.ob rfl 1 (by decide) (uX1_isNothing__o _ (List.mem_of_getElem? (l := owX1_isNothing) (i := 1) rfl)) rfl (fun _ => rfl) dX1_isNothing_1 4 rfl ?_
  refine q_iconst (v := (-1)) hC dX1_isNothing_4 rfl 5 rfl ?_
  refine q_icmp_ne hC 12 dX1_isNothing_5 (by decide) 8 rfl hw (fun hw => ?_) (fun hw => ?_)
  · refine q_iconst (v := 0) hC dX1_isNothing_12 rfl 13 rfl ?_
    exact r_iret hR dX1_isNothing_13 ⟨nb_0, hw⟩
  · refine q_iconst (v := 1) hC dX1_isNothing_8 rfl 9 rfl ?_
    refine q_goto hC 13 dX1_isNothing_9 (by decide) ?_
    exact r_iret hR dX1_isNothing_13 ⟨nb_1, hw⟩
theorem inX1_makeNew_X1 : ∀ w ∈ u_ws RX1 TX1 3, w ∈ wsX1_makeNew := uX1_makeNew__wsX10
set_option maxRecDepth 100000 in
set_option maxHeartbeats 4000000 in
theorem ctX1_makeNew (l : Launch) (g : GG) (M : MM) (b : Nat) (v1 : Int32) (v2 : Int32) (Q : MM → Prop) (hb : shl g b) (hw : wX1_makeNew Q M b v1 v2) : MV g l yX1_makeNew wsX1_makeNew (rmOf 1 22) [.ref (gA g b), .int v1, .int v2] M Q := by
  refine mk_MV (cc := cX1_makeNew) (maxL := 4) (by decide) rfl (Nat.le_of_ble_eq_true rfl) ?_
  intro z Qf hC hR
  show XX z g Qf 4 0 [(0, .ref (gA g b)), (1, .int v1), (2, .int v2)] [] M
  have B12 : ∀ (n : Nat) (M : MM) (v3 : Int32) , wX1_makeNew_12 Q b v1 v2 n M v3 → XX z g Qf 4 12 [(0, .ref (gA g b)), (3, .int v3)] [] M := by
    intro n
    induction n with
    | zero =>
      intro M v3 hw
      exact hw.elim
    | succ n ih =>
      intro M v3 hw
      refine q_iload_n hC dX1_makeNew_12 1 rfl 13 rfl ?_
      refine q_bipush (v := 40) hC dX1_makeNew_13 (by decide) 15 rfl ?_
      refine q_icmp_ge hC 33 dX1_makeNew_15 (by decide) 18 rfl hw (fun hw => ?_) (fun hw => ?_)
      · exact r_vret hR dX1_makeNew_33 hw
      · refine q_aload_n hC dX1_makeNew_18 0 rfl 19 rfl ?_
        refine q_getR (C := RX1) (T := TX1) (N := 3) (ci := 1) hC inX1_makeNew_X1 hb.ob rfl 0 (by decide) (uX1_makeNew__o _ (List.mem_of_getElem? (l := owX1_makeNew) (i := 3) rfl)) rfl (b + 1) (fun _ => rfl) dX1_makeNew_19 22 rfl ?_
        refine q_iload_n hC dX1_makeNew_22 1 rfl 23 rfl ?_
        refine q_iconst (v := 0) hC dX1_makeNew_23 rfl 24 rfl ?_
        refine r_callV hC (go_N (As := [.ref (gA g (b + 1)), .int v3, .int 0]) (rest := []) hC (ctX4_setCell (zl z) g M (b + 1) v3 0 _ hb.ar hw) 3 gX1_makeNew_X4_setCell_n22 rfl ⟨rfl, rfl⟩ 2 rfl (uX1_makeNew__o _ (List.mem_of_getElem? (l := owX1_makeNew) (i := 5) rfl)) (uX1_makeNew__o _ (List.mem_of_getElem? (l := owX1_makeNew) (i := 4) rfl)) hdT_X4_setCell ⟨Nat.le_of_ble_eq_true rfl, Nat.le_of_ble_eq_true rfl⟩ rfl rfl (Nat.le_of_ble_eq_true rfl) dX1_makeNew_24) 27 rfl (fun M3 hw => ?_)
        refine q_iinc (v := v3 + 1) (L' := [(3, .int (v3 + 1)), (0, .ref (gA g b))]) hC dX1_makeNew_27 1 rfl rfl (by decide) rfl 30 rfl ?_
        refine q_goto hC 12 dX1_makeNew_30 (by decide) ?_
        exact XX.sub [1, 0] rfl (ih M3 (v3 + 1) hw)
  refine q_aload_n hC dX1_makeNew_0 0 rfl 1 rfl ?_
  refine q_iload_n hC dX1_makeNew_1 1 rfl 2 rfl ?_
  refine q_putI (C := RX1) (T := TX1) (N := 3) (ci := 1) hC inX1_makeNew_X1 tyX1 tyX1_ok nmX1 hb.ob rfl 1 (by decide) (uX1_makeNew__o _ (List.mem_of_getElem? (l := owX1_makeNew) (i := 1) rfl)) rfl rfl rfl (fun _ => Nat.le_of_ble_eq_true rfl) (fun _ => rfl) dX1_makeNew_2 5 rfl (fun M1 eM1 => ?_)
  have hw := hw M1 eM1
  refine q_aload_n hC dX1_makeNew_5 0 rfl 6 rfl ?_
  refine q_iload_n hC dX1_makeNew_6 2 rfl 7 rfl ?_
  refine q_putI (C := RX1) (T := TX1) (N := 3) (ci := 1) hC inX1_makeNew_X1 tyX1 tyX1_ok nmX1 hb.ob rfl 2 (by decide) (uX1_makeNew__o _ (List.mem_of_getElem? (l := owX1_makeNew) (i := 2) rfl)) rfl rfl rfl (fun _ => Nat.le_of_ble_eq_true rfl) (fun _ => rfl) dX1_makeNew_7 10 rfl (fun M2 eM2 => ?_)
  have hw := hw M2 eM2
  refine q_iconst (v := 0) hC dX1_makeNew_10 rfl 11 rfl ?_
  refine q_istore_n (L' := [(3, .int 0), (0, .ref (gA g b)), (1, .int v1), (2, .int v2)]) hC dX1_makeNew_11 (by decide) rfl 12 rfl ?_
  obtain ⟨n0, hw⟩ := hw
  exact XX.sub [1, 0] rfl (B12 n0 M2 0 hw)
theorem hdV_X1_isNothing : yX1_isNothing.cls = RX1 ∧ yX1_isNothing.cls ≠ "java/lang/invoke/MethodHandle" ∧ yX1_isNothing.cls ≠ "java/lang/invoke/VarHandle" ∧ (parseMethodDescriptor yX1_isNothing.desc).map (fun d => d.parameters.length) = some 0 := by decide +kernel
theorem inX1_faultOf_X1 : ∀ w ∈ u_ws RX1 TX1 3, w ∈ wsX1_faultOf := uX1_faultOf__wsX10
set_option maxRecDepth 100000 in
set_option maxHeartbeats 4000000 in
theorem ctX1_faultOf (l : Launch) (g : GG) (M : MM) (b : Nat) (v1 : Int32) (v2 : Int32) (Q : Int32 → MM → Prop) (hb : shl g b) (hw : wX1_faultOf Q M b v1 v2) : MI g l yX1_faultOf wsX1_faultOf (rmOf 1 22) [.ref (gA g b), .int v1, .int v2] M Q := by
  refine mk_MI (cc := cX1_faultOf) (maxL := 3) (by decide) rfl (Nat.le_of_ble_eq_true rfl) ?_
  intro z Qf hC hR
  show XX z g Qf 3 0 [(0, .ref (gA g b)), (1, .int v1), (2, .int v2)] [] M
  refine q_aload_n hC dX1_faultOf_0 0 rfl 1 rfl ?_
  refine r_callI hC (go_V (q := (RX1, TX1, 3)) (As := []) (rest := []) hC (ctX1_isNothing (zl z) g M b _ hb hw) 0 gX1_faultOf_X1_isNothing rfl ⟨rfl, rfl⟩ hdV_X1_isNothing ⟨Nat.le_of_ble_eq_true rfl, Nat.le_of_ble_eq_true rfl⟩ hb.ob rfl rfl rfl (Nat.le_of_ble_eq_true rfl) dX1_faultOf_1) 4 rfl (fun r1 M2 hw => ?_)
  refine q_if_eq hC 9 dX1_faultOf_4 (by decide) 7 rfl hw (fun hw => ?_) (fun hw => ?_)
  · refine q_iload_n hC dX1_faultOf_9 1 rfl 10 rfl ?_
    refine q_aload_n hC dX1_faultOf_10 0 rfl 11 rfl ?_
    refine q_getI (C := RX1) (T := TX1) (N := 3) (ci := 1) hC inX1_faultOf_X1 hb.ob rfl 1 (by decide) (uX1_faultOf__X1_isNothing _ (List.mem_of_getElem? (l := owX1_isNothing) (i := 1) rfl)) rfl (fun _ => rfl) dX1_faultOf_11 14 rfl ?_
    refine q_icmp_eq hC 19 dX1_faultOf_14 (by decide) 17 rfl hw (fun hw => ?_) (fun hw => ?_)
    · refine q_iload_n hC dX1_faultOf_19 2 rfl 20 rfl ?_
      refine q_iconst (v := 0) hC dX1_faultOf_20 rfl 21 rfl ?_
      refine q_aload_n hC dX1_faultOf_21 0 rfl 22 rfl ?_
      refine q_getI (C := RX1) (T := TX1) (N := 3) (ci := 1) hC inX1_faultOf_X1 hb.ob rfl 2 (by decide) (uX1_faultOf__o _ (List.mem_of_getElem? (l := owX1_faultOf) (i := 1) rfl)) rfl (fun _ => rfl) dX1_faultOf_22 25 rfl ?_
      refine q_iconst (v := 1) hC dX1_faultOf_25 rfl 26 rfl ?_
      refine q_isub hC dX1_faultOf_26 27 rfl ?_
      refine r_callI hC (go_N (As := [.int v2, .int 0, .int ((M2 b 2) - (1 : Int32))]) (rest := []) hC (ctX4_isBetween (zl z) g M2 v2 0 ((M2 b 2) - (1 : Int32)) _ hw) 3 gX1_faultOf_X4_isBetween_n30 rfl ⟨rfl, rfl⟩ 3 rfl (uX1_faultOf__o _ (List.mem_of_getElem? (l := owX1_faultOf) (i := 7) rfl)) (uX1_faultOf__o _ (List.mem_of_getElem? (l := owX1_faultOf) (i := 6) rfl)) hdT_X4_isBetween ⟨Nat.le_of_ble_eq_true rfl, Nat.le_of_ble_eq_true rfl⟩ rfl rfl (Nat.le_of_ble_eq_true rfl) dX1_faultOf_27) 30 rfl (fun r3 M4 hw => ?_)
      refine q_if_eq hC 37 dX1_faultOf_30 (by decide) 33 rfl hw (fun hw => ?_) (fun hw => ?_)
      · refine q_iconst (v := 2) hC dX1_faultOf_37 rfl 38 rfl ?_
        exact r_iret hR dX1_faultOf_38 hw
      · refine q_iconst (v := 0) hC dX1_faultOf_33 rfl 34 rfl ?_
        refine q_goto hC 38 dX1_faultOf_34 (by decide) ?_
        exact r_iret hR dX1_faultOf_38 hw
    · refine q_iconst (v := 3) hC dX1_faultOf_17 rfl 18 rfl ?_
      exact r_iret hR dX1_faultOf_18 hw
  · refine q_iconst (v := 1) hC dX1_faultOf_7 rfl 8 rfl ?_
    exact r_iret hR dX1_faultOf_8 hw
theorem inX1_cellAt_X1 : ∀ w ∈ u_ws RX1 TX1 3, w ∈ wsX1_cellAt := uX1_cellAt__wsX10
set_option maxRecDepth 100000 in
set_option maxHeartbeats 4000000 in
theorem ctX1_cellAt (l : Launch) (g : GG) (M : MM) (b : Nat) (v1 : Int32) (Q : Int32 → MM → Prop) (hb : shl g b) (hw : wX1_cellAt Q M b v1) : MI g l yX1_cellAt wsX1_cellAt (rmOf 1 21) [.ref (gA g b), .int v1] M Q := by
  refine mk_MI (cc := cX1_cellAt) (maxL := 2) (by decide) rfl (Nat.le_of_ble_eq_true rfl) ?_
  intro z Qf hC hR
  show XX z g Qf 2 0 [(0, .ref (gA g b)), (1, .int v1)] [] M
  refine q_aload_n hC dX1_cellAt_0 0 rfl 1 rfl ?_
  refine q_getR (C := RX1) (T := TX1) (N := 3) (ci := 1) hC inX1_cellAt_X1 hb.ob rfl 0 (by decide) (uX1_cellAt__o _ (List.mem_of_getElem? (l := owX1_cellAt) (i := 1) rfl)) rfl (b + 1) (fun _ => rfl) dX1_cellAt_1 4 rfl ?_
  refine q_iload_n hC dX1_cellAt_4 1 rfl 5 rfl ?_
  refine r_callI hC (go_N (As := [.ref (gA g (b + 1)), .int v1]) (rest := []) hC (ctX4_cell (zl z) g M (b + 1) v1 _ hb.ar hw) 2 gX1_cellAt_X4_cell_n34 rfl ⟨rfl, rfl⟩ 4 rfl (uX1_cellAt__o _ (List.mem_of_getElem? (l := owX1_cellAt) (i := 3) rfl)) (uX1_cellAt__o _ (List.mem_of_getElem? (l := owX1_cellAt) (i := 2) rfl)) hdT_X4_cell ⟨Nat.le_of_ble_eq_true rfl, Nat.le_of_ble_eq_true rfl⟩ rfl rfl (Nat.le_of_ble_eq_true rfl) dX1_cellAt_5) 8 rfl (fun r1 M2 hw => ?_)
  exact r_iret hR dX1_cellAt_8 hw
theorem inX1_put_X1 : ∀ w ∈ u_ws RX1 TX1 3, w ∈ wsX1_put := uX1_put__wsX10
set_option maxRecDepth 100000 in
set_option maxHeartbeats 4000000 in
theorem ctX1_put (l : Launch) (g : GG) (M : MM) (b : Nat) (v1 : Int32) (v2 : Int32) (Q : MM → Prop) (hb : shl g b) (hw : wX1_put Q M b v1 v2) : MV g l yX1_put wsX1_put (rmOf 1 22) [.ref (gA g b), .int v1, .int v2] M Q := by
  refine mk_MV (cc := cX1_put) (maxL := 4) (by decide) rfl (Nat.le_of_ble_eq_true rfl) ?_
  intro z Qf hC hR
  show XX z g Qf 4 0 [(0, .ref (gA g b)), (1, .int v1), (2, .int v2)] [] M
  have B26 : ∀ (M : MM) (p0 : Int32), wX1_put_26 Q b v1 v2 M p0 → XX z g Qf 4 26 [(0, .ref (gA g b)), (1, .int v1)] [.int p0] M := by
    intro M p0 hw
    refine q_istore_n (L' := [(3, .int p0), (0, .ref (gA g b)), (1, .int v1)]) hC dX1_put_26 (by decide) rfl 27 rfl ?_
    refine q_aload_n hC dX1_put_27 1 rfl 28 rfl ?_
    refine q_getR (C := RX1) (T := TX1) (N := 3) (ci := 1) hC inX1_put_X1 hb.ob rfl 0 (by decide) (uX1_put__o _ (List.mem_of_getElem? (l := owX1_put) (i := 2) rfl)) rfl (b + 1) (fun _ => rfl) dX1_put_28 31 rfl ?_
    refine q_iload_n hC dX1_put_31 2 rfl 32 rfl ?_
    refine q_iload_n hC dX1_put_32 0 rfl 33 rfl ?_
    refine r_callV hC (go_N (As := [.ref (gA g (b + 1)), .int v1, .int p0]) (rest := []) hC (ctX4_setCell (zl z) g M (b + 1) v1 p0 _ hb.ar hw) 3 gX1_put_X4_setCell_n22 rfl ⟨rfl, rfl⟩ 2 rfl (uX1_put__o _ (List.mem_of_getElem? (l := owX1_put) (i := 4) rfl)) (uX1_put__o _ (List.mem_of_getElem? (l := owX1_put) (i := 3) rfl)) hdT_X4_setCell ⟨Nat.le_of_ble_eq_true rfl, Nat.le_of_ble_eq_true rfl⟩ rfl rfl (Nat.le_of_ble_eq_true rfl) dX1_put_33) 36 rfl (fun M1 hw => ?_)
    exact r_vret hR dX1_put_36 hw
  refine q_aload_n hC dX1_put_0 0 rfl 1 rfl ?_
  refine q_getI (C := RX1) (T := TX1) (N := 3) (ci := 1) hC inX1_put_X1 hb.ob rfl 1 (by decide) (uX1_put__o _ (List.mem_of_getElem? (l := owX1_put) (i := 1) rfl)) rfl (fun _ => rfl) dX1_put_1 4 rfl ?_
  refine q_if_ne hC 12 dX1_put_4 (by decide) 7 rfl hw (fun hw => ?_) (fun hw => ?_)
  · refine q_aload_n hC dX1_put_12 0 rfl 13 rfl ?_
    refine q_getI (C := RX1) (T := TX1) (N := 3) (ci := 1) hC inX1_put_X1 hb.ob rfl 1 (by decide) (uX1_put__o _ (List.mem_of_getElem? (l := owX1_put) (i := 1) rfl)) rfl (fun _ => rfl) dX1_put_13 16 rfl ?_
    refine q_iconst (v := 1) hC dX1_put_16 rfl 17 rfl ?_
    refine q_icmp_ne hC 25 dX1_put_17 (by decide) 20 rfl hw (fun hw => ?_) (fun hw => ?_)
    · refine q_iload_n hC dX1_put_25 2 rfl 26 rfl ?_
      exact XX.sub [0, 1] rfl (B26 M v2 hw)
    · refine q_iload_n hC dX1_put_20 2 rfl 21 rfl ?_
      refine q_i2s hC dX1_put_21 22 rfl ?_
      refine q_goto hC 26 dX1_put_22 (by decide) ?_
      exact XX.sub [0, 1] rfl (B26 M (v2.toInt16.toInt32) hw)
  · refine q_iload_n hC dX1_put_7 2 rfl 8 rfl ?_
    refine q_i2b hC dX1_put_8 9 rfl ?_
    refine q_goto hC 26 dX1_put_9 (by decide) ?_
    exact XX.sub [0, 1] rfl (B26 M (v2.toInt8.toInt32) hw)
theorem inX0_choose_X0 : ∀ w ∈ u_ws RX0 TX0 6, w ∈ wsX0_choose := uX0_choose__wsX00
set_option maxRecDepth 100000 in
set_option maxHeartbeats 4000000 in
theorem ctX0_choose (l : Launch) (g : GG) (M : MM) (v1 : Int32) (Q : MM → Prop) (hF : full g) (hw : wX0_choose Q M v1) : MV g l yX0_choose wsX0_choose (rmOf 1 22) [.ref (gA g 39), .int v1] M Q := by
  refine mk_MV (cc := cX0_choose) (maxL := 3) (by decide) rfl (Nat.le_of_ble_eq_true rfl) ?_
  intro z Qf hC hR
  show XX z g Qf 3 0 [(0, .ref (gA g 39)), (1, .int v1)] [] M
  have B53 : ∀ (K7 : MM → Int32 → Prop) (hK7 : ∀ (M : MM) (v2 : Int32) , K7 M v2 → XX z g Qf 3 7 [(0, .ref (gA g 39)), (1, .int v1), (2, .int v2)] [] M) (M : MM) (v2 : Int32), wX0_choose_53 Q K7 v1 M v2 → XX z g Qf 3 53 [(0, .ref (gA g 39)), (1, .int v1), (2, .int v2)] [] M := by
    intro K7 hK7 M v2 hw
    refine q_iinc (v := v2 + 1) (L' := [(2, .int (v2 + 1)), (0, .ref (gA g 39)), (1, .int v1)]) hC dX0_choose_53 2 rfl rfl (by decide) rfl 56 rfl ?_
    refine q_goto hC 7 dX0_choose_56 (by decide) ?_
    exact XX.sub [1, 2, 0] rfl (hK7 M (v2 + 1) hw)
  have B7 : ∀ (n : Nat) (M : MM) (v2 : Int32) , wX0_choose_7 Q v1 n M v2 → XX z g Qf 3 7 [(0, .ref (gA g 39)), (1, .int v1), (2, .int v2)] [] M := by
    intro n
    induction n with
    | zero =>
      intro M v2 hw
      exact hw.elim
    | succ n ih =>
      intro M v2 hw
      refine q_iload_n hC dX0_choose_7 2 rfl 8 rfl ?_
      refine q_bipush (v := 12) hC dX0_choose_8 (by decide) 10 rfl ?_
      refine q_icmp_ge hC 59 dX0_choose_10 (by decide) 13 rfl hw (fun hw => ?_) (fun hw => ?_)
      · exact r_vret hR dX0_choose_59 hw
      · refine q_iload_n hC dX0_choose_13 1 rfl 14 rfl ?_
        refine q_iload_n hC dX0_choose_14 2 rfl 15 rfl ?_
        refine q_ishr hC dX0_choose_15 16 rfl ?_
        refine q_iconst (v := 1) hC dX0_choose_16 rfl 17 rfl ?_
        refine q_iand hC dX0_choose_17 18 rfl ?_
        refine q_iconst (v := 1) hC dX0_choose_18 rfl 19 rfl ?_
        refine q_icmp_ne hC 53 dX0_choose_19 (by decide) 22 rfl hw (fun hw => ?_) (fun hw => ?_)
        · exact XX.sub [0, 1, 2] rfl (B53 _ (fun M v2 hw => ih M v2 hw) M v2 hw)
        · refine q_aload_n hC dX0_choose_22 0 rfl 23 rfl ?_
          refine q_getI (C := RX0) (T := TX0) (N := 6) (ci := 0) hC inX0_choose_X0 (obF39 hF) rfl 4 (by decide) (uX0_choose__o _ (List.mem_of_getElem? (l := owX0_choose) (i := 1) rfl)) rfl (fun _ => rfl) dX0_choose_23 26 rfl ?_
          refine q_bipush (v := 8) hC dX0_choose_26 (by decide) 28 rfl ?_
          refine q_icmp_ge hC 53 dX0_choose_28 (by decide) 31 rfl hw (fun hw => ?_) (fun hw => ?_)
          · exact XX.sub [0, 1, 2] rfl (B53 _ (fun M v2 hw => ih M v2 hw) M v2 hw)
          · refine q_aload_n hC dX0_choose_31 0 rfl 32 rfl ?_
            refine q_getR (C := RX0) (T := TX0) (N := 6) (ci := 0) hC inX0_choose_X0 (obF39 hF) rfl 2 (by decide) (uX0_choose__o _ (List.mem_of_getElem? (l := owX0_choose) (i := 2) rfl)) rfl 42 (fun _ => rfl) dX0_choose_32 35 rfl ?_
            refine q_aload_n hC dX0_choose_35 0 rfl 36 rfl ?_
            refine q_getI (C := RX0) (T := TX0) (N := 6) (ci := 0) hC inX0_choose_X0 (obF39 hF) rfl 4 (by decide) (uX0_choose__o _ (List.mem_of_getElem? (l := owX0_choose) (i := 1) rfl)) rfl (fun _ => rfl) dX0_choose_36 39 rfl ?_
            refine q_iload_n hC dX0_choose_39 2 rfl 40 rfl ?_
            refine r_callV hC (go_N (As := [.ref (gA g 42), .int (M 39 4), .int v2]) (rest := []) hC (ctX4_setCell (zl z) g M 42 (M 39 4) v2 _ (arF42 hF) hw) 3 gX0_choose_X4_setCell_n40 rfl ⟨rfl, rfl⟩ 0 rfl (uX0_choose__o _ (List.mem_of_getElem? (l := owX0_choose) (i := 4) rfl)) (uX0_choose__o _ (List.mem_of_getElem? (l := owX0_choose) (i := 3) rfl)) hdT_X4_setCell ⟨Nat.le_of_ble_eq_true rfl, Nat.le_of_ble_eq_true rfl⟩ rfl rfl (Nat.le_of_ble_eq_true rfl) dX0_choose_40) 43 rfl (fun M2 hw => ?_)
            refine q_aload_n hC dX0_choose_43 0 rfl 44 rfl ?_
            refine q_dup hC dX0_choose_44 rfl 45 rfl ?_
            refine q_getI (C := RX0) (T := TX0) (N := 6) (ci := 0) hC inX0_choose_X0 (obF39 hF) rfl 4 (by decide) (uX0_choose__o _ (List.mem_of_getElem? (l := owX0_choose) (i := 1) rfl)) rfl (fun _ => rfl) dX0_choose_45 48 rfl ?_
            refine q_iconst (v := 1) hC dX0_choose_48 rfl 49 rfl ?_
            refine q_iadd hC dX0_choose_49 50 rfl ?_
            refine q_putI (C := RX0) (T := TX0) (N := 6) (ci := 0) hC inX0_choose_X0 tyX0 tyX0_ok nmX0 (obF39 hF) rfl 4 (by decide) (uX0_choose__o _ (List.mem_of_getElem? (l := owX0_choose) (i := 1) rfl)) rfl rfl rfl (fun _ => Nat.le_of_ble_eq_true rfl) (fun _ => rfl) dX0_choose_50 53 rfl (fun M3 eM3 => ?_)
            have hw := hw M3 eM3
            exact XX.sub [0, 1, 2] rfl (B53 _ (fun M v2 hw => ih M v2 hw) M3 v2 hw)
  refine q_aload_n hC dX0_choose_0 0 rfl 1 rfl ?_
  refine q_iconst (v := 0) hC dX0_choose_1 rfl 2 rfl ?_
  refine q_putI (C := RX0) (T := TX0) (N := 6) (ci := 0) hC inX0_choose_X0 tyX0 tyX0_ok nmX0 (obF39 hF) rfl 4 (by decide) (uX0_choose__o _ (List.mem_of_getElem? (l := owX0_choose) (i := 1) rfl)) rfl rfl rfl (fun _ => Nat.le_of_ble_eq_true rfl) (fun _ => rfl) dX0_choose_2 5 rfl (fun M1 eM1 => ?_)
  have hw := hw M1 eM1
  refine q_iconst (v := 0) hC dX0_choose_5 rfl 6 rfl ?_
  refine q_istore_n (L' := [(2, .int 0), (0, .ref (gA g 39)), (1, .int v1)]) hC dX0_choose_6 (by decide) rfl 7 rfl ?_
  obtain ⟨n0, hw⟩ := hw
  exact XX.sub [1, 2, 0] rfl (B7 n0 M1 0 hw)
theorem hdV_X2_longOf : yX2_longOf.cls = RX2 ∧ yX2_longOf.cls ≠ "java/lang/invoke/MethodHandle" ∧ yX2_longOf.cls ≠ "java/lang/invoke/VarHandle" ∧ (parseMethodDescriptor yX2_longOf.desc).map (fun d => d.parameters.length) = some 1 := by decide +kernel
theorem inX0_measureHops_X0 : ∀ w ∈ u_ws RX0 TX0 6, w ∈ wsX0_measureHops := uX0_measureHops__wsX00
theorem inX0_measureHops_X2 : ∀ w ∈ u_ws RX2 TX2 14, w ∈ wsX0_measureHops := uX0_measureHops__wsX20
set_option maxRecDepth 100000 in
set_option maxHeartbeats 4000000 in
theorem ctX0_measureHops (l : Launch) (g : GG) (M : MM) (o1 : Nat) (Q : MM → Prop) (hF : full g) (ho1 : tpl g o1) (hw : wX0_measureHops Q M o1) : MV g l yX0_measureHops wsX0_measureHops (rmOf 4 93) [.ref (gA g 39), .ref (gA g o1)] M Q := by
  refine mk_MV (cc := cX0_measureHops) (maxL := 7) (by decide) rfl (Nat.le_of_ble_eq_true rfl) ?_
  intro z Qf hC hR
  show XX z g Qf 7 0 [(0, .ref (gA g 39)), (1, .ref (gA g o1))] [] M
  have B41 : ∀ (K2 : MM → Int32 → Prop) (hK2 : ∀ (M : MM) (v2 : Int32) , K2 M v2 → XX z g Qf 7 2 [(0, .ref (gA g 39)), (1, .ref (gA g o1)), (2, .int v2)] [] M) (n : Nat) (M : MM) (v2 : Int32) (v3 : Int32) (v4 : Int32) , wX0_measureHops_41 Q K2 o1 n M v2 v3 v4 → XX z g Qf 7 41 [(0, .ref (gA g 39)), (1, .ref (gA g o1)), (2, .int v2), (3, .int v3), (4, .int v4)] [] M := by
    intro K2 hK2 n
    induction n with
    | zero =>
      intro M v2 v3 v4 hw
      exact hw.elim
    | succ n ih =>
      intro M v2 v3 v4 hw
      refine q_iload hC dX0_measureHops_41 4 rfl 43 rfl ?_
      refine q_aload_n hC dX0_measureHops_43 0 rfl 44 rfl ?_
      refine q_getI (C := RX0) (T := TX0) (N := 6) (ci := 0) hC inX0_measureHops_X0 (obF39 hF) rfl 4 (by decide) (uX0_measureHops__o _ (List.mem_of_getElem? (l := owX0_measureHops) (i := 1) rfl)) rfl (fun _ => rfl) dX0_measureHops_44 47 rfl ?_
      refine q_icmp_ge hC 107 dX0_measureHops_47 (by decide) 50 rfl hw (fun hw => ?_) (fun hw => ?_)
      · refine q_iinc (v := v2 + 1) (L' := [(2, .int (v2 + 1)), (0, .ref (gA g 39)), (1, .ref (gA g o1)), (3, .int v3), (4, .int v4)]) hC dX0_measureHops_107 2 rfl rfl (by decide) rfl 110 rfl ?_
        refine q_goto hC 2 dX0_measureHops_110 (by decide) ?_
        exact XX.sub [1, 2, 0] rfl (hK2 M (v2 + 1) hw)
      · refine q_aload_n hC dX0_measureHops_50 0 rfl 51 rfl ?_
        refine q_getR (C := RX0) (T := TX0) (N := 6) (ci := 0) hC inX0_measureHops_X0 (obF39 hF) rfl 2 (by decide) (uX0_measureHops__o _ (List.mem_of_getElem? (l := owX0_measureHops) (i := 3) rfl)) rfl 42 (fun _ => rfl) dX0_measureHops_51 54 rfl ?_
        refine q_iload hC dX0_measureHops_54 4 rfl 56 rfl ?_
        refine r_callI hC (go_N (As := [.ref (gA g 42), .int v4]) (rest := []) hC (ctX4_cell (zl z) g M 42 v4 _ (arF42 hF) hw) 2 gX0_measureHops_X4_cell_n47 rfl ⟨rfl, rfl⟩ 1 rfl (uX0_measureHops__X2_hasBlock _ (List.mem_of_getElem? (l := owX2_hasBlock) (i := 3) rfl)) (uX0_measureHops__X2_beginOf _ (List.mem_of_getElem? (l := owX2_beginOf) (i := 2) rfl)) hdT_X4_cell ⟨Nat.le_of_ble_eq_true rfl, Nat.le_of_ble_eq_true rfl⟩ rfl rfl (Nat.le_of_ble_eq_true rfl) dX0_measureHops_56) 59 rfl (fun r5 M6 hw => ?_)
        refine q_istore (L' := [(5, .int r5), (0, .ref (gA g 39)), (1, .ref (gA g o1)), (2, .int v2), (3, .int v3), (4, .int v4)]) hC dX0_measureHops_59 (by decide) rfl 61 rfl ?_
        refine q_aload_n hC dX0_measureHops_61 2 rfl 62 rfl ?_
        refine q_iload_n hC dX0_measureHops_62 4 rfl 63 rfl ?_
        refine q_aload_n hC dX0_measureHops_63 2 rfl 64 rfl ?_
        refine q_iload hC dX0_measureHops_64 0 rfl 66 rfl ?_
        refine r_callI hC (go_V (q := (RX2, TX2, 14)) (As := [.int r5]) (rest := [.int v3, .ref (gA g o1)]) hC (ctX2_beginOf (zl z) g M6 o1 r5 _ ho1 hw) 1 gX0_measureHops_X2_beginOf rfl ⟨rfl, rfl⟩ hdV_X2_beginOf ⟨Nat.le_of_ble_eq_true rfl, Nat.le_of_ble_eq_true rfl⟩ ho1.ob rfl rfl rfl (Nat.le_of_ble_eq_true rfl) dX0_measureHops_66) 69 rfl (fun r7 M8 hw => ?_)
        refine r_callI hC (go_V (q := (RX2, TX2, 14)) (As := [.int v3, .int r7]) (rest := []) hC (ctX2_sooner (zl z) g M8 o1 v3 r7 _ ho1 hw) 2 gX0_measureHops_X2_sooner rfl ⟨rfl, rfl⟩ hdV_X2_sooner ⟨Nat.le_of_ble_eq_true rfl, Nat.le_of_ble_eq_true rfl⟩ ho1.ob rfl rfl rfl (Nat.le_of_ble_eq_true rfl) dX0_measureHops_69) 72 rfl (fun r9 M10 hw => ?_)
        refine q_aload_n hC dX0_measureHops_72 2 rfl 73 rfl ?_
        refine q_aload_n hC dX0_measureHops_73 2 rfl 74 rfl ?_
        refine q_iload hC dX0_measureHops_74 0 rfl 76 rfl ?_
        refine r_callI hC (go_V (q := (RX2, TX2, 14)) (As := [.int r5]) (rest := [.ref (gA g o1), .int r9]) hC (ctX2_longOf (zl z) g M10 o1 r5 _ ho1 hw) 1 gX0_measureHops_X2_longOf rfl ⟨rfl, rfl⟩ hdV_X2_longOf ⟨Nat.le_of_ble_eq_true rfl, Nat.le_of_ble_eq_true rfl⟩ ho1.ob rfl rfl rfl (Nat.le_of_ble_eq_true rfl) dX0_measureHops_76) 79 rfl (fun r11 M12 hw => ?_)
        refine r_callI hC (go_V (q := (RX2, TX2, 14)) (As := [.int r11]) (rest := [.int r9]) hC (ctX2_playedThrough (zl z) g M12 o1 r11 _ ho1 hw) 1 gX0_measureHops_X2_playedThrough rfl ⟨rfl, rfl⟩ hdV_X2_playedThrough ⟨Nat.le_of_ble_eq_true rfl, Nat.le_of_ble_eq_true rfl⟩ ho1.ob rfl rfl rfl (Nat.le_of_ble_eq_true rfl) dX0_measureHops_79) 82 rfl (fun r13 M14 hw => ?_)
        refine q_iadd hC dX0_measureHops_82 83 rfl ?_
        refine q_istore (L' := [(6, .int (r9 + r13)), (5, .int r5), (0, .ref (gA g 39)), (1, .ref (gA g o1)), (2, .int v2), (3, .int v3), (4, .int v4)]) hC dX0_measureHops_83 (by decide) rfl 85 rfl ?_
        refine q_aload_n hC dX0_measureHops_85 2 rfl 86 rfl ?_
        refine q_getR (C := RX0) (T := TX0) (N := 6) (ci := 0) hC inX0_measureHops_X0 (obF39 hF) rfl 0 (by decide) (uX0_measureHops__o _ (List.mem_of_getElem? (l := owX0_measureHops) (i := 4) rfl)) rfl 40 (fun _ => rfl) dX0_measureHops_86 89 rfl ?_
        refine q_iload_n hC dX0_measureHops_89 4 rfl 90 rfl ?_
        refine q_bipush (v := 8) hC dX0_measureHops_90 (by decide) 92 rfl ?_
        refine q_imul hC dX0_measureHops_92 93 rfl ?_
        refine q_iload hC dX0_measureHops_93 6 rfl 95 rfl ?_
        refine q_iadd hC dX0_measureHops_95 96 rfl ?_
        refine q_iload hC dX0_measureHops_96 0 rfl 98 rfl ?_
        refine r_callV hC (go_N (As := [.ref (gA g 40), .int ((v2 * (8 : Int32)) + v4), .int (r9 + r13)]) (rest := []) hC (ctX4_setCell (zl z) g M14 40 ((v2 * (8 : Int32)) + v4) (r9 + r13) _ (arF40 hF) hw) 3 gX0_measureHops_X4_setCell_n40 rfl ⟨rfl, rfl⟩ 0 rfl (uX0_measureHops__X2_hasBlock _ (List.mem_of_getElem? (l := owX2_hasBlock) (i := 3) rfl)) (uX0_measureHops__o _ (List.mem_of_getElem? (l := owX0_measureHops) (i := 16) rfl)) hdT_X4_setCell ⟨Nat.le_of_ble_eq_true rfl, Nat.le_of_ble_eq_true rfl⟩ rfl rfl (Nat.le_of_ble_eq_true rfl) dX0_measureHops_98) 101 rfl (fun M15 hw => ?_)
        refine q_iinc (v := v4 + 1) (L' := [(4, .int (v4 + 1)), (6, .int (r9 + r13)), (5, .int r5), (0, .ref (gA g 39)), (1, .ref (gA g o1)), (2, .int v2), (3, .int v3)]) hC dX0_measureHops_101 6 rfl rfl (by decide) rfl 104 rfl ?_
        refine q_goto hC 41 dX0_measureHops_104 (by decide) ?_
        exact XX.sub [3, 4, 5, 6, 0] rfl (ih M15 v2 v3 (v4 + 1) hw)
  have B37 : ∀ (K2 : MM → Int32 → Prop) (hK2 : ∀ (M : MM) (v2 : Int32) , K2 M v2 → XX z g Qf 7 2 [(0, .ref (gA g 39)), (1, .ref (gA g o1)), (2, .int v2)] [] M) (M : MM) (v2 : Int32) (p0 : Int32), wX0_measureHops_37 Q K2 o1 M v2 p0 → XX z g Qf 7 37 [(0, .ref (gA g 39)), (1, .ref (gA g o1)), (2, .int v2)] [.int p0] M := by
    intro K2 hK2 M v2 p0 hw
    refine q_istore_n (L' := [(3, .int p0), (0, .ref (gA g 39)), (1, .ref (gA g o1)), (2, .int v2)]) hC dX0_measureHops_37 (by decide) rfl 38 rfl ?_
    refine q_iconst (v := 0) hC dX0_measureHops_38 rfl 39 rfl ?_
    refine q_istore (L' := [(4, .int 0), (3, .int p0), (0, .ref (gA g 39)), (1, .ref (gA g o1)), (2, .int v2)]) hC dX0_measureHops_39 (by decide) rfl 41 rfl ?_
    obtain ⟨n0, hw⟩ := hw
    exact XX.sub [2, 3, 4, 1, 0] rfl (B41 _ hK2 n0 M v2 p0 0 hw)
  have B2 : ∀ (n : Nat) (M : MM) (v2 : Int32) , wX0_measureHops_2 Q o1 n M v2 → XX z g Qf 7 2 [(0, .ref (gA g 39)), (1, .ref (gA g o1)), (2, .int v2)] [] M := by
    intro n
    induction n with
    | zero =>
      intro M v2 hw
      exact hw.elim
    | succ n ih =>
      intro M v2 hw
      refine q_iload_n hC dX0_measureHops_2 2 rfl 3 rfl ?_
      refine q_aload_n hC dX0_measureHops_3 0 rfl 4 rfl ?_
      refine q_getI (C := RX0) (T := TX0) (N := 6) (ci := 0) hC inX0_measureHops_X0 (obF39 hF) rfl 4 (by decide) (uX0_measureHops__o _ (List.mem_of_getElem? (l := owX0_measureHops) (i := 1) rfl)) rfl (fun _ => rfl) dX0_measureHops_4 7 rfl ?_
      refine q_icmp_gt hC 113 dX0_measureHops_7 (by decide) 10 rfl hw (fun hw => ?_) (fun hw => ?_)
      · exact r_vret hR dX0_measureHops_113 hw
      · refine q_iload_n hC dX0_measureHops_10 2 rfl 11 rfl ?_
        refine q_aload_n hC dX0_measureHops_11 0 rfl 12 rfl ?_
        refine q_getI (C := RX0) (T := TX0) (N := 6) (ci := 0) hC inX0_measureHops_X0 (obF39 hF) rfl 4 (by decide) (uX0_measureHops__o _ (List.mem_of_getElem? (l := owX0_measureHops) (i := 1) rfl)) rfl (fun _ => rfl) dX0_measureHops_12 15 rfl ?_
        refine q_icmp_ne hC 25 dX0_measureHops_15 (by decide) 18 rfl hw (fun hw => ?_) (fun hw => ?_)
        · refine q_aload_n hC dX0_measureHops_25 1 rfl 26 rfl ?_
          refine q_aload_n hC dX0_measureHops_26 0 rfl 27 rfl ?_
          refine q_getR (C := RX0) (T := TX0) (N := 6) (ci := 0) hC inX0_measureHops_X0 (obF39 hF) rfl 2 (by decide) (uX0_measureHops__o _ (List.mem_of_getElem? (l := owX0_measureHops) (i := 3) rfl)) rfl 42 (fun _ => rfl) dX0_measureHops_27 30 rfl ?_
          refine q_iload_n hC dX0_measureHops_30 2 rfl 31 rfl ?_
          refine r_callI hC (go_N (As := [.ref (gA g 42), .int v2]) (rest := [.ref (gA g o1)]) hC (ctX4_cell (zl z) g M 42 v2 _ (arF42 hF) hw) 2 gX0_measureHops_X4_cell_n47 rfl ⟨rfl, rfl⟩ 1 rfl (uX0_measureHops__X2_hasBlock _ (List.mem_of_getElem? (l := owX2_hasBlock) (i := 3) rfl)) (uX0_measureHops__X2_beginOf _ (List.mem_of_getElem? (l := owX2_beginOf) (i := 2) rfl)) hdT_X4_cell ⟨Nat.le_of_ble_eq_true rfl, Nat.le_of_ble_eq_true rfl⟩ rfl rfl (Nat.le_of_ble_eq_true rfl) dX0_measureHops_31) 34 rfl (fun r1 M2 hw => ?_)
          refine r_callI hC (go_V (q := (RX2, TX2, 14)) (As := [.int r1]) (rest := []) hC (ctX2_endOf (zl z) g M2 o1 r1 _ ho1 hw) 1 gX0_measureHops_X2_endOf rfl ⟨rfl, rfl⟩ hdV_X2_endOf ⟨Nat.le_of_ble_eq_true rfl, Nat.le_of_ble_eq_true rfl⟩ ho1.ob rfl rfl rfl (Nat.le_of_ble_eq_true rfl) dX0_measureHops_34) 37 rfl (fun r3 M4 hw => ?_)
          exact XX.sub [0, 1, 2] rfl (B37 _ (fun M v2 hw => ih M v2 hw) M4 v2 r3 hw)
        · refine q_aload_n hC dX0_measureHops_18 1 rfl 19 rfl ?_
          refine q_getI (C := RX2) (T := TX2) (N := 14) (ci := 2) hC inX0_measureHops_X2 ho1.ob rfl 9 (by decide) (uX0_measureHops__o _ (List.mem_of_getElem? (l := owX0_measureHops) (i := 2) rfl)) rfl (fun _ => rfl) dX0_measureHops_19 22 rfl ?_
          refine q_goto hC 37 dX0_measureHops_22 (by decide) ?_
          exact XX.sub [0, 1, 2] rfl (B37 _ (fun M v2 hw => ih M v2 hw) M v2 (M o1 9) hw)
  refine q_iconst (v := 0) hC dX0_measureHops_0 rfl 1 rfl ?_
  refine q_istore_n (L' := [(2, .int 0), (0, .ref (gA g 39)), (1, .ref (gA g o1))]) hC dX0_measureHops_1 (by decide) rfl 2 rfl ?_
  obtain ⟨n0, hw⟩ := hw
  exact XX.sub [1, 2, 0] rfl (B2 n0 M 0 hw)
theorem inX0_ticksBy_X0 : ∀ w ∈ u_ws RX0 TX0 6, w ∈ wsX0_ticksBy := uX0_ticksBy__wsX00
set_option maxRecDepth 100000 in
set_option maxHeartbeats 4000000 in
theorem ctX0_ticksBy (l : Launch) (g : GG) (M : MM) (v1 : Int32) (v2 : Int32) (v3 : Int32) (Q : Int32 → MM → Prop) (hF : full g) (hw : wX0_ticksBy Q M v1 v2 v3) : MI g l yX0_ticksBy wsX0_ticksBy (rmOf 1 21) [.ref (gA g 39), .int v1, .int v2, .int v3] M Q := by
  refine mk_MI (cc := cX0_ticksBy) (maxL := 4) (by decide) rfl (Nat.le_of_ble_eq_true rfl) ?_
  intro z Qf hC hR
  show XX z g Qf 4 0 [(0, .ref (gA g 39)), (1, .int v1), (2, .int v2), (3, .int v3)] [] M
  refine q_aload_n hC dX0_ticksBy_0 0 rfl 1 rfl ?_
  refine q_getR (C := RX0) (T := TX0) (N := 6) (ci := 0) hC inX0_ticksBy_X0 (obF39 hF) rfl 0 (by decide) (uX0_ticksBy__o _ (List.mem_of_getElem? (l := owX0_ticksBy) (i := 1) rfl)) rfl 40 (fun _ => rfl) dX0_ticksBy_1 4 rfl ?_
  refine q_iload_n hC dX0_ticksBy_4 1 rfl 5 rfl ?_
  refine q_bipush (v := 8) hC dX0_ticksBy_5 (by decide) 7 rfl ?_
  refine q_imul hC dX0_ticksBy_7 8 rfl ?_
  refine q_iload_n hC dX0_ticksBy_8 2 rfl 9 rfl ?_
  refine q_iadd hC dX0_ticksBy_9 10 rfl ?_
  refine r_callI hC (go_N (As := [.ref (gA g 40), .int ((v1 * (8 : Int32)) + v2)]) (rest := []) hC (ctX4_cell (zl z) g M 40 ((v1 * (8 : Int32)) + v2) _ (arF40 hF) hw) 2 gX0_ticksBy_X4_cell_n47 rfl ⟨rfl, rfl⟩ 1 rfl (uX0_ticksBy__o _ (List.mem_of_getElem? (l := owX0_ticksBy) (i := 4) rfl)) (uX0_ticksBy__o _ (List.mem_of_getElem? (l := owX0_ticksBy) (i := 3) rfl)) hdT_X4_cell ⟨Nat.le_of_ble_eq_true rfl, Nat.le_of_ble_eq_true rfl⟩ rfl rfl (Nat.le_of_ble_eq_true rfl) dX0_ticksBy_10) 13 rfl (fun r1 M2 hw => ?_)
  refine q_aload_n hC dX0_ticksBy_13 0 rfl 14 rfl ?_
  refine q_getR (C := RX0) (T := TX0) (N := 6) (ci := 0) hC inX0_ticksBy_X0 (obF39 hF) rfl 1 (by decide) (uX0_ticksBy__o _ (List.mem_of_getElem? (l := owX0_ticksBy) (i := 2) rfl)) rfl 41 (fun _ => rfl) dX0_ticksBy_14 17 rfl ?_
  refine q_iload_n hC dX0_ticksBy_17 3 rfl 18 rfl ?_
  refine q_iconst (v := 1) hC dX0_ticksBy_18 rfl 19 rfl ?_
  refine q_iload_n hC dX0_ticksBy_19 2 rfl 20 rfl ?_
  refine q_ishl hC dX0_ticksBy_20 21 rfl ?_
  refine q_ixor hC dX0_ticksBy_21 22 rfl ?_
  refine q_bipush (v := 8) hC dX0_ticksBy_22 (by decide) 24 rfl ?_
  refine q_imul hC dX0_ticksBy_24 25 rfl ?_
  refine q_iload_n hC dX0_ticksBy_25 2 rfl 26 rfl ?_
  refine q_iadd hC dX0_ticksBy_26 27 rfl ?_
  refine r_callI hC (go_N (As := [.ref (gA g 41), .int (((v3 ^^^ ((1 : Int32) <<< (v2 &&& 31))) * (8 : Int32)) + v2)]) (rest := [.int r1]) hC (ctX4_cell (zl z) g M2 41 (((v3 ^^^ ((1 : Int32) <<< (v2 &&& 31))) * (8 : Int32)) + v2) _ (arF41 hF) hw) 2 gX0_ticksBy_X4_cell_n47 rfl ⟨rfl, rfl⟩ 1 rfl (uX0_ticksBy__o _ (List.mem_of_getElem? (l := owX0_ticksBy) (i := 4) rfl)) (uX0_ticksBy__o _ (List.mem_of_getElem? (l := owX0_ticksBy) (i := 3) rfl)) hdT_X4_cell ⟨Nat.le_of_ble_eq_true rfl, Nat.le_of_ble_eq_true rfl⟩ rfl rfl (Nat.le_of_ble_eq_true rfl) dX0_ticksBy_27) 30 rfl (fun r3 M4 hw => ?_)
  refine q_iadd hC dX0_ticksBy_30 31 rfl ?_
  exact r_iret hR dX0_ticksBy_31 hw
theorem hdV_X0_ticksBy : yX0_ticksBy.cls = RX0 ∧ yX0_ticksBy.cls ≠ "java/lang/invoke/MethodHandle" ∧ yX0_ticksBy.cls ≠ "java/lang/invoke/VarHandle" ∧ (parseMethodDescriptor yX0_ticksBy.desc).map (fun d => d.parameters.length) = some 3 := by decide +kernel
theorem inX0_fewestFrom_X0 : ∀ w ∈ u_ws RX0 TX0 6, w ∈ wsX0_fewestFrom := uX0_fewestFrom__wsX00
set_option maxRecDepth 100000 in
set_option maxHeartbeats 4000000 in
theorem ctX0_fewestFrom (l : Launch) (g : GG) (M : MM) (v1 : Int32) (v2 : Int32) (Q : Int32 → MM → Prop) (hF : full g) (hw : wX0_fewestFrom Q M v1 v2) : MI g l yX0_fewestFrom wsX0_fewestFrom (rmOf 2 44) [.ref (gA g 39), .int v1, .int v2] M Q := by
  refine mk_MI (cc := cX0_fewestFrom) (maxL := 5) (by decide) rfl (Nat.le_of_ble_eq_true rfl) ?_
  intro z Qf hC hR
  show XX z g Qf 5 0 [(0, .ref (gA g 39)), (1, .int v1), (2, .int v2)] [] M
  have B38 : ∀ (K6 : MM → Int32 → Int32 → Prop) (hK6 : ∀ (M : MM) (v3 : Int32) (v4 : Int32) , K6 M v3 v4 → XX z g Qf 5 6 [(0, .ref (gA g 39)), (1, .int v1), (2, .int v2), (3, .int v3), (4, .int v4)] [] M) (M : MM) (v3 : Int32) (v4 : Int32), wX0_fewestFrom_38 Q K6 v1 v2 M v3 v4 → XX z g Qf 5 38 [(0, .ref (gA g 39)), (1, .int v1), (2, .int v2), (3, .int v3), (4, .int v4)] [] M := by
    intro K6 hK6 M v3 v4 hw
    refine q_iinc (v := v4 + 1) (L' := [(4, .int (v4 + 1)), (0, .ref (gA g 39)), (1, .int v1), (2, .int v2), (3, .int v3)]) hC dX0_fewestFrom_38 4 rfl rfl (by decide) rfl 41 rfl ?_
    refine q_goto hC 6 dX0_fewestFrom_41 (by decide) ?_
    exact XX.sub [1, 2, 3, 4, 0] rfl (hK6 M v3 (v4 + 1) hw)
  have B6 : ∀ (n : Nat) (M : MM) (v3 : Int32) (v4 : Int32) , wX0_fewestFrom_6 Q v1 v2 n M v3 v4 → XX z g Qf 5 6 [(0, .ref (gA g 39)), (1, .int v1), (2, .int v2), (3, .int v3), (4, .int v4)] [] M := by
    intro n
    induction n with
    | zero =>
      intro M v3 v4 hw
      exact hw.elim
    | succ n ih =>
      intro M v3 v4 hw
      refine q_iload hC dX0_fewestFrom_6 4 rfl 8 rfl ?_
      refine q_aload_n hC dX0_fewestFrom_8 0 rfl 9 rfl ?_
      refine q_getI (C := RX0) (T := TX0) (N := 6) (ci := 0) hC inX0_fewestFrom_X0 (obF39 hF) rfl 4 (by decide) (uX0_fewestFrom__o _ (List.mem_of_getElem? (l := owX0_fewestFrom) (i := 2) rfl)) rfl (fun _ => rfl) dX0_fewestFrom_9 12 rfl ?_
      refine q_icmp_ge hC 44 dX0_fewestFrom_12 (by decide) 15 rfl hw (fun hw => ?_) (fun hw => ?_)
      · refine q_iload_n hC dX0_fewestFrom_44 3 rfl 45 rfl ?_
        exact r_iret hR dX0_fewestFrom_45 hw
      · refine q_iload_n hC dX0_fewestFrom_15 2 rfl 16 rfl ?_
        refine q_iload hC dX0_fewestFrom_16 4 rfl 18 rfl ?_
        refine q_ishr hC dX0_fewestFrom_18 19 rfl ?_
        refine q_iconst (v := 1) hC dX0_fewestFrom_19 rfl 20 rfl ?_
        refine q_iand hC dX0_fewestFrom_20 21 rfl ?_
        refine q_iconst (v := 1) hC dX0_fewestFrom_21 rfl 22 rfl ?_
        refine q_icmp_ne hC 38 dX0_fewestFrom_22 (by decide) 25 rfl hw (fun hw => ?_) (fun hw => ?_)
        · exact XX.sub [0, 1, 2, 3, 4] rfl (B38 _ (fun M v3 v4 hw => ih M v3 v4 hw) M v3 v4 hw)
        · refine q_iload_n hC dX0_fewestFrom_25 3 rfl 26 rfl ?_
          refine q_aload_n hC dX0_fewestFrom_26 0 rfl 27 rfl ?_
          refine q_iload_n hC dX0_fewestFrom_27 1 rfl 28 rfl ?_
          refine q_iload hC dX0_fewestFrom_28 4 rfl 30 rfl ?_
          refine q_iload_n hC dX0_fewestFrom_30 2 rfl 31 rfl ?_
          refine r_callI hC (go_V (q := (RX0, TX0, 6)) (As := [.int v1, .int v4, .int v2]) (rest := [.int v3]) hC (ctX0_ticksBy (zl z) g M v1 v4 v2 _ hF hw) 3 gX0_fewestFrom_X0_ticksBy rfl ⟨rfl, rfl⟩ hdV_X0_ticksBy ⟨Nat.le_of_ble_eq_true rfl, Nat.le_of_ble_eq_true rfl⟩ (obF39 hF) rfl rfl rfl (Nat.le_of_ble_eq_true rfl) dX0_fewestFrom_31) 34 rfl (fun r1 M2 hw => ?_)
          refine q_mmin hC (uX0_fewestFrom__o _ (List.mem_of_getElem? (l := owX0_fewestFrom) (i := 3) rfl)) (uX0_fewestFrom__o _ (List.mem_of_getElem? (l := owX0_fewestFrom) (i := 4) rfl)) (uX0_fewestFrom__o _ (List.mem_of_getElem? (l := owX0_fewestFrom) (i := 5) rfl)) (uX0_fewestFrom__o _ (List.mem_of_getElem? (l := owX0_fewestFrom) (i := 6) rfl)) (by decide) (Nat.le_of_ble_eq_true rfl) dX0_fewestFrom_34 37 rfl ?_
          refine q_nameI (fun x3 ex3 => ?_)
          have hw := hw x3 ex3
          refine q_istore_n (L' := [(3, .int x3), (0, .ref (gA g 39)), (1, .int v1), (2, .int v2), (4, .int v4)]) hC dX0_fewestFrom_37 (by decide) rfl 38 rfl ?_
          exact XX.sub [1, 2, 3, 0, 4] rfl (B38 _ (fun M v3 v4 hw => ih M v3 v4 hw) M2 x3 v4 hw)
  refine q_ldc (v := 1073741824) hC (uX0_fewestFrom__o _ (List.mem_of_getElem? (l := owX0_fewestFrom) (i := 1) rfl)) dX0_fewestFrom_0 2 rfl ?_
  refine q_istore_n (L' := [(3, .int 1073741824), (0, .ref (gA g 39)), (1, .int v1), (2, .int v2)]) hC dX0_fewestFrom_2 (by decide) rfl 3 rfl ?_
  refine q_iconst (v := 0) hC dX0_fewestFrom_3 rfl 4 rfl ?_
  refine q_istore (L' := [(4, .int 0), (3, .int 1073741824), (0, .ref (gA g 39)), (1, .int v1), (2, .int v2)]) hC dX0_fewestFrom_4 (by decide) rfl 6 rfl ?_
  obtain ⟨n0, hw⟩ := hw
  exact XX.sub [2, 3, 4, 1, 0] rfl (B6 n0 M 1073741824 0 hw)
theorem hdV_X0_fewestFrom : yX0_fewestFrom.cls = RX0 ∧ yX0_fewestFrom.cls ≠ "java/lang/invoke/MethodHandle" ∧ yX0_fewestFrom.cls ≠ "java/lang/invoke/VarHandle" ∧ (parseMethodDescriptor yX0_fewestFrom.desc).map (fun d => d.parameters.length) = some 2 := by decide +kernel
theorem inX0_firstOfFewest_X0 : ∀ w ∈ u_ws RX0 TX0 6, w ∈ wsX0_firstOfFewest := uX0_firstOfFewest__wsX00
set_option maxRecDepth 100000 in
set_option maxHeartbeats 4000000 in
theorem ctX0_firstOfFewest (l : Launch) (g : GG) (M : MM) (v1 : Int32) (v2 : Int32) (Q : Int32 → MM → Prop) (hF : full g) (hw : wX0_firstOfFewest Q M v1 v2) : MI g l yX0_firstOfFewest wsX0_firstOfFewest (rmOf 3 68) [.ref (gA g 39), .int v1, .int v2] M Q := by
  refine mk_MI (cc := cX0_firstOfFewest) (maxL := 5) (by decide) rfl (Nat.le_of_ble_eq_true rfl) ?_
  intro z Qf hC hR
  show XX z g Qf 5 0 [(0, .ref (gA g 39)), (1, .int v1), (2, .int v2)] [] M
  have B44 : ∀ (K10 : MM → Int32 → Int32 → Prop) (hK10 : ∀ (M : MM) (v3 : Int32) (v4 : Int32) , K10 M v3 v4 → XX z g Qf 5 10 [(0, .ref (gA g 39)), (1, .int v1), (2, .int v2), (3, .int v3), (4, .int v4)] [] M) (M : MM) (v3 : Int32) (v4 : Int32), wX0_firstOfFewest_44 Q K10 v1 v2 M v3 v4 → XX z g Qf 5 44 [(0, .ref (gA g 39)), (1, .int v1), (2, .int v2), (3, .int v3), (4, .int v4)] [] M := by
    intro K10 hK10 M v3 v4 hw
    refine q_iinc (v := v4 + 1) (L' := [(4, .int (v4 + 1)), (0, .ref (gA g 39)), (1, .int v1), (2, .int v2), (3, .int v3)]) hC dX0_firstOfFewest_44 4 rfl rfl (by decide) rfl 47 rfl ?_
    refine q_goto hC 10 dX0_firstOfFewest_47 (by decide) ?_
    exact XX.sub [1, 2, 3, 4, 0] rfl (hK10 M v3 (v4 + 1) hw)
  have B10 : ∀ (n : Nat) (M : MM) (v3 : Int32) (v4 : Int32) , wX0_firstOfFewest_10 Q v1 v2 n M v3 v4 → XX z g Qf 5 10 [(0, .ref (gA g 39)), (1, .int v1), (2, .int v2), (3, .int v3), (4, .int v4)] [] M := by
    intro n
    induction n with
    | zero =>
      intro M v3 v4 hw
      exact hw.elim
    | succ n ih =>
      intro M v3 v4 hw
      refine q_iload hC dX0_firstOfFewest_10 4 rfl 12 rfl ?_
      refine q_aload_n hC dX0_firstOfFewest_12 0 rfl 13 rfl ?_
      refine q_getI (C := RX0) (T := TX0) (N := 6) (ci := 0) hC inX0_firstOfFewest_X0 (obF39 hF) rfl 4 (by decide) (uX0_firstOfFewest__X0_fewestFrom _ (List.mem_of_getElem? (l := owX0_fewestFrom) (i := 2) rfl)) rfl (fun _ => rfl) dX0_firstOfFewest_13 16 rfl ?_
      refine q_icmp_ge hC 50 dX0_firstOfFewest_16 (by decide) 19 rfl hw (fun hw => ?_) (fun hw => ?_)
      · refine q_iconst (v := 0) hC dX0_firstOfFewest_50 rfl 51 rfl ?_
        exact r_iret hR dX0_firstOfFewest_51 hw
      · refine q_iload_n hC dX0_firstOfFewest_19 2 rfl 20 rfl ?_
        refine q_iload hC dX0_firstOfFewest_20 4 rfl 22 rfl ?_
        refine q_ishr hC dX0_firstOfFewest_22 23 rfl ?_
        refine q_iconst (v := 1) hC dX0_firstOfFewest_23 rfl 24 rfl ?_
        refine q_iand hC dX0_firstOfFewest_24 25 rfl ?_
        refine q_iconst (v := 1) hC dX0_firstOfFewest_25 rfl 26 rfl ?_
        refine q_icmp_ne hC 44 dX0_firstOfFewest_26 (by decide) 29 rfl hw (fun hw => ?_) (fun hw => ?_)
        · exact XX.sub [0, 1, 2, 3, 4] rfl (B44 _ (fun M v3 v4 hw => ih M v3 v4 hw) M v3 v4 hw)
        · refine q_aload_n hC dX0_firstOfFewest_29 0 rfl 30 rfl ?_
          refine q_iload_n hC dX0_firstOfFewest_30 1 rfl 31 rfl ?_
          refine q_iload hC dX0_firstOfFewest_31 4 rfl 33 rfl ?_
          refine q_iload_n hC dX0_firstOfFewest_33 2 rfl 34 rfl ?_
          refine r_callI hC (go_V (q := (RX0, TX0, 6)) (As := [.int v1, .int v4, .int v2]) (rest := []) hC (ctX0_ticksBy (zl z) g M v1 v4 v2 _ hF hw) 3 gX0_firstOfFewest_X0_ticksBy rfl ⟨rfl, rfl⟩ hdV_X0_ticksBy ⟨Nat.le_of_ble_eq_true rfl, Nat.le_of_ble_eq_true rfl⟩ (obF39 hF) rfl rfl rfl (Nat.le_of_ble_eq_true rfl) dX0_firstOfFewest_34) 37 rfl (fun r3 M4 hw => ?_)
          refine q_iload_n hC dX0_firstOfFewest_37 3 rfl 38 rfl ?_
          refine q_icmp_ne hC 44 dX0_firstOfFewest_38 (by decide) 41 rfl hw (fun hw => ?_) (fun hw => ?_)
          · exact XX.sub [0, 1, 2, 3, 4] rfl (B44 _ (fun M v3 v4 hw => ih M v3 v4 hw) M4 v3 v4 hw)
          · refine q_iload hC dX0_firstOfFewest_41 4 rfl 43 rfl ?_
            exact r_iret hR dX0_firstOfFewest_43 hw
  refine q_aload_n hC dX0_firstOfFewest_0 0 rfl 1 rfl ?_
  refine q_iload_n hC dX0_firstOfFewest_1 1 rfl 2 rfl ?_
  refine q_iload_n hC dX0_firstOfFewest_2 2 rfl 3 rfl ?_
  refine r_callI hC (go_V (q := (RX0, TX0, 6)) (As := [.int v1, .int v2]) (rest := []) hC (ctX0_fewestFrom (zl z) g M v1 v2 _ hF hw) 2 gX0_firstOfFewest_X0_fewestFrom rfl ⟨rfl, rfl⟩ hdV_X0_fewestFrom ⟨Nat.le_of_ble_eq_true rfl, Nat.le_of_ble_eq_true rfl⟩ (obF39 hF) rfl rfl rfl (Nat.le_of_ble_eq_true rfl) dX0_firstOfFewest_3) 6 rfl (fun r1 M2 hw => ?_)
  refine q_istore_n (L' := [(3, .int r1), (0, .ref (gA g 39)), (1, .int v1), (2, .int v2)]) hC dX0_firstOfFewest_6 (by decide) rfl 7 rfl ?_
  refine q_iconst (v := 0) hC dX0_firstOfFewest_7 rfl 8 rfl ?_
  refine q_istore (L' := [(4, .int 0), (3, .int r1), (0, .ref (gA g 39)), (1, .int v1), (2, .int v2)]) hC dX0_firstOfFewest_8 (by decide) rfl 10 rfl ?_
  obtain ⟨n0, hw⟩ := hw
  exact XX.sub [2, 3, 4, 1, 0] rfl (B10 n0 M2 r1 0 hw)
theorem hdV_X0_firstOfFewest : yX0_firstOfFewest.cls = RX0 ∧ yX0_firstOfFewest.cls ≠ "java/lang/invoke/MethodHandle" ∧ yX0_firstOfFewest.cls ≠ "java/lang/invoke/VarHandle" ∧ (parseMethodDescriptor yX0_firstOfFewest.desc).map (fun d => d.parameters.length) = some 2 := by decide +kernel
theorem inX0_followFirst_X0 : ∀ w ∈ u_ws RX0 TX0 6, w ∈ wsX0_followFirst := uX0_followFirst__wsX00
set_option maxRecDepth 100000 in
set_option maxHeartbeats 4000000 in
theorem ctX0_followFirst (l : Launch) (g : GG) (M : MM)  (Q : MM → Prop) (hF : full g) (hw : wX0_followFirst Q M ) : MV g l yX0_followFirst wsX0_followFirst (rmOf 4 92) [.ref (gA g 39)] M Q := by
  refine mk_MV (cc := cX0_followFirst) (maxL := 5) (by decide) rfl (Nat.le_of_ble_eq_true rfl) ?_
  intro z Qf hC hR
  show XX z g Qf 5 0 [(0, .ref (gA g 39))] [] M
  have B34 : ∀ (n : Nat) (M : MM) (v1 : Int32) (v2 : Int32) (v3 : Int32) , wX0_followFirst_34 Q n M v1 v2 v3 → XX z g Qf 5 34 [(0, .ref (gA g 39)), (1, .int v1), (2, .int v2), (3, .int v3)] [] M := by
    intro n
    induction n with
    | zero =>
      intro M v1 v2 v3 hw
      exact hw.elim
    | succ n ih =>
      intro M v1 v2 v3 hw
      refine q_iload_n hC dX0_followFirst_34 3 rfl 35 rfl ?_
      refine q_aload_n hC dX0_followFirst_35 0 rfl 36 rfl ?_
      refine q_getI (C := RX0) (T := TX0) (N := 6) (ci := 0) hC inX0_followFirst_X0 (obF39 hF) rfl 4 (by decide) (uX0_followFirst__X0_fewestFrom _ (List.mem_of_getElem? (l := owX0_fewestFrom) (i := 2) rfl)) rfl (fun _ => rfl) dX0_followFirst_36 39 rfl ?_
      refine q_icmp_ge hC 83 dX0_followFirst_39 (by decide) 42 rfl hw (fun hw => ?_) (fun hw => ?_)
      · exact r_vret hR dX0_followFirst_83 hw
      · refine q_aload_n hC dX0_followFirst_42 0 rfl 43 rfl ?_
        refine q_iload_n hC dX0_followFirst_43 2 rfl 44 rfl ?_
        refine q_iload_n hC dX0_followFirst_44 1 rfl 45 rfl ?_
        refine r_callI hC (go_V (q := (RX0, TX0, 6)) (As := [.int v2, .int v1]) (rest := []) hC (ctX0_firstOfFewest (zl z) g M v2 v1 _ hF hw) 2 gX0_followFirst_X0_firstOfFewest rfl ⟨rfl, rfl⟩ hdV_X0_firstOfFewest ⟨Nat.le_of_ble_eq_true rfl, Nat.le_of_ble_eq_true rfl⟩ (obF39 hF) rfl rfl rfl (Nat.le_of_ble_eq_true rfl) dX0_followFirst_45) 48 rfl (fun r5 M6 hw => ?_)
        refine q_istore (L' := [(4, .int r5), (0, .ref (gA g 39)), (1, .int v1), (2, .int v2), (3, .int v3)]) hC dX0_followFirst_48 (by decide) rfl 50 rfl ?_
        refine q_aload_n hC dX0_followFirst_50 1 rfl 51 rfl ?_
        refine q_getR (C := RX0) (T := TX0) (N := 6) (ci := 0) hC inX0_followFirst_X0 (obF39 hF) rfl 3 (by decide) (uX0_followFirst__o _ (List.mem_of_getElem? (l := owX0_followFirst) (i := 2) rfl)) rfl 43 (fun _ => rfl) dX0_followFirst_51 54 rfl ?_
        refine q_iload_n hC dX0_followFirst_54 4 rfl 55 rfl ?_
        refine q_aload_n hC dX0_followFirst_55 1 rfl 56 rfl ?_
        refine q_getR (C := RX0) (T := TX0) (N := 6) (ci := 0) hC inX0_followFirst_X0 (obF39 hF) rfl 2 (by decide) (uX0_followFirst__o _ (List.mem_of_getElem? (l := owX0_followFirst) (i := 3) rfl)) rfl 42 (fun _ => rfl) dX0_followFirst_56 59 rfl ?_
        refine q_iload hC dX0_followFirst_59 0 rfl 61 rfl ?_
        refine r_callI hC (go_N (As := [.ref (gA g 42), .int r5]) (rest := [.int v3, .ref (gA g 43)]) hC (ctX4_cell (zl z) g M6 42 r5 _ (arF42 hF) hw) 2 gX0_followFirst_X4_cell_n47 rfl ⟨rfl, rfl⟩ 1 rfl (uX0_followFirst__X0_ticksBy _ (List.mem_of_getElem? (l := owX0_ticksBy) (i := 4) rfl)) (uX0_followFirst__X0_ticksBy _ (List.mem_of_getElem? (l := owX0_ticksBy) (i := 3) rfl)) hdT_X4_cell ⟨Nat.le_of_ble_eq_true rfl, Nat.le_of_ble_eq_true rfl⟩ rfl rfl (Nat.le_of_ble_eq_true rfl) dX0_followFirst_61) 64 rfl (fun r7 M8 hw => ?_)
        refine r_callV hC (go_N (As := [.ref (gA g 43), .int v3, .int r7]) (rest := []) hC (ctX4_setCell (zl z) g M8 43 v3 r7 _ (arF43 hF) hw) 3 gX0_followFirst_X4_setCell_n40 rfl ⟨rfl, rfl⟩ 0 rfl (uX0_followFirst__X0_ticksBy _ (List.mem_of_getElem? (l := owX0_ticksBy) (i := 4) rfl)) (uX0_followFirst__o _ (List.mem_of_getElem? (l := owX0_followFirst) (i := 7) rfl)) hdT_X4_setCell ⟨Nat.le_of_ble_eq_true rfl, Nat.le_of_ble_eq_true rfl⟩ rfl rfl (Nat.le_of_ble_eq_true rfl) dX0_followFirst_64) 67 rfl (fun M9 hw => ?_)
        refine q_iload_n hC dX0_followFirst_67 2 rfl 68 rfl ?_
        refine q_iconst (v := 1) hC dX0_followFirst_68 rfl 69 rfl ?_
        refine q_iload hC dX0_followFirst_69 0 rfl 71 rfl ?_
        refine q_ishl hC dX0_followFirst_71 72 rfl ?_
        refine q_ixor hC dX0_followFirst_72 73 rfl ?_
        refine q_nameI (fun x10 ex10 => ?_)
        have hw := hw x10 ex10
        refine q_istore_n (L' := [(1, .int x10), (4, .int r5), (0, .ref (gA g 39)), (2, .int v2), (3, .int v3)]) hC dX0_followFirst_73 (by decide) rfl 74 rfl ?_
        refine q_iload hC dX0_followFirst_74 1 rfl 76 rfl ?_
        refine q_istore_n (L' := [(2, .int r5), (1, .int x10), (4, .int r5), (0, .ref (gA g 39)), (3, .int v3)]) hC dX0_followFirst_76 (by decide) rfl 77 rfl ?_
        refine q_iinc (v := v3 + 1) (L' := [(3, .int (v3 + 1)), (2, .int r5), (1, .int x10), (4, .int r5), (0, .ref (gA g 39))]) hC dX0_followFirst_77 4 rfl rfl (by decide) rfl 80 rfl ?_
        refine q_goto hC 34 dX0_followFirst_80 (by decide) ?_
        exact XX.sub [4, 2, 1, 0] rfl (ih M9 x10 r5 (v3 + 1) hw)
  have B29 : ∀ (M : MM) (v1 : Int32) (v2 : Int32) (p0 : Int32), wX0_followFirst_29 Q M v1 v2 p0 → XX z g Qf 5 29 [(0, .ref (gA g 39)), (1, .int v1), (2, .int v2)] [.int p0, .ref (gA g 39)] M := by
    intro M v1 v2 p0 hw
    refine q_putI (C := RX0) (T := TX0) (N := 6) (ci := 0) hC inX0_followFirst_X0 tyX0 tyX0_ok nmX0 (obF39 hF) rfl 5 (by decide) (uX0_followFirst__o _ (List.mem_of_getElem? (l := owX0_followFirst) (i := 1) rfl)) rfl rfl rfl (fun _ => Nat.le_of_ble_eq_true rfl) (fun _ => rfl) dX0_followFirst_29 32 rfl (fun M4 eM4 => ?_)
    have hw := hw M4 eM4
    refine q_iconst (v := 0) hC dX0_followFirst_32 rfl 33 rfl ?_
    refine q_istore_n (L' := [(3, .int 0), (0, .ref (gA g 39)), (1, .int v1), (2, .int v2)]) hC dX0_followFirst_33 (by decide) rfl 34 rfl ?_
    obtain ⟨n0, hw⟩ := hw
    exact XX.sub [1, 2, 3, 0] rfl (B34 n0 M4 v1 v2 0 hw)
  refine q_iconst (v := 1) hC dX0_followFirst_0 rfl 1 rfl ?_
  refine q_aload_n hC dX0_followFirst_1 0 rfl 2 rfl ?_
  refine q_getI (C := RX0) (T := TX0) (N := 6) (ci := 0) hC inX0_followFirst_X0 (obF39 hF) rfl 4 (by decide) (uX0_followFirst__X0_fewestFrom _ (List.mem_of_getElem? (l := owX0_fewestFrom) (i := 2) rfl)) rfl (fun _ => rfl) dX0_followFirst_2 5 rfl ?_
  refine q_ishl hC dX0_followFirst_5 6 rfl ?_
  refine q_iconst (v := 1) hC dX0_followFirst_6 rfl 7 rfl ?_
  refine q_isub hC dX0_followFirst_7 8 rfl ?_
  refine q_nameI (fun x1 ex1 => ?_)
  have hw := hw x1 ex1
  refine q_istore_n (L' := [(1, .int x1), (0, .ref (gA g 39))]) hC dX0_followFirst_8 (by decide) rfl 9 rfl ?_
  refine q_aload_n hC dX0_followFirst_9 1 rfl 10 rfl ?_
  refine q_getI (C := RX0) (T := TX0) (N := 6) (ci := 0) hC inX0_followFirst_X0 (obF39 hF) rfl 4 (by decide) (uX0_followFirst__X0_fewestFrom _ (List.mem_of_getElem? (l := owX0_fewestFrom) (i := 2) rfl)) rfl (fun _ => rfl) dX0_followFirst_10 13 rfl ?_
  refine q_istore_n (L' := [(2, .int (M 39 4)), (1, .int x1), (0, .ref (gA g 39))]) hC dX0_followFirst_13 (by decide) rfl 14 rfl ?_
  refine q_aload_n hC dX0_followFirst_14 2 rfl 15 rfl ?_
  refine q_iload_n hC dX0_followFirst_15 1 rfl 16 rfl ?_
  refine q_if_ne hC 23 dX0_followFirst_16 (by decide) 19 rfl hw (fun hw => ?_) (fun hw => ?_)
  · refine q_aload_n hC dX0_followFirst_23 2 rfl 24 rfl ?_
    refine q_iload_n hC dX0_followFirst_24 0 rfl 25 rfl ?_
    refine q_iload_n hC dX0_followFirst_25 1 rfl 26 rfl ?_
    refine r_callI hC (go_V (q := (RX0, TX0, 6)) (As := [.int (M 39 4), .int x1]) (rest := [.ref (gA g 39)]) hC (ctX0_fewestFrom (zl z) g M (M 39 4) x1 _ hF hw) 2 gX0_followFirst_X0_fewestFrom rfl ⟨rfl, rfl⟩ hdV_X0_fewestFrom ⟨Nat.le_of_ble_eq_true rfl, Nat.le_of_ble_eq_true rfl⟩ (obF39 hF) rfl rfl rfl (Nat.le_of_ble_eq_true rfl) dX0_followFirst_26) 29 rfl (fun r2 M3 hw => ?_)
    exact XX.sub [2, 1, 0] rfl (B29 M3 x1 (M 39 4) r2 hw)
  · refine q_iconst (v := 0) hC dX0_followFirst_19 rfl 20 rfl ?_
    refine q_goto hC 29 dX0_followFirst_20 (by decide) ?_
    exact XX.sub [2, 1, 0] rfl (B29 M x1 (M 39 4) 0 hw)
theorem hdV_X0_choose : yX0_choose.cls = RX0 ∧ yX0_choose.cls ≠ "java/lang/invoke/MethodHandle" ∧ yX0_choose.cls ≠ "java/lang/invoke/VarHandle" ∧ (parseMethodDescriptor yX0_choose.desc).map (fun d => d.parameters.length) = some 1 := by decide +kernel
theorem hdV_X0_measureHops : yX0_measureHops.cls = RX0 ∧ yX0_measureHops.cls ≠ "java/lang/invoke/MethodHandle" ∧ yX0_measureHops.cls ≠ "java/lang/invoke/VarHandle" ∧ (parseMethodDescriptor yX0_measureHops.desc).map (fun d => d.parameters.length) = some 1 := by decide +kernel
theorem hdV_X0_followFirst : yX0_followFirst.cls = RX0 ∧ yX0_followFirst.cls ≠ "java/lang/invoke/MethodHandle" ∧ yX0_followFirst.cls ≠ "java/lang/invoke/VarHandle" ∧ (parseMethodDescriptor yX0_followFirst.desc).map (fun d => d.parameters.length) = some 0 := by decide +kernel
theorem inX0_plan_X0 : ∀ w ∈ u_ws RX0 TX0 6, w ∈ wsX0_plan := uX0_plan__wsX00
set_option maxRecDepth 100000 in
set_option maxHeartbeats 4000000 in
theorem ctX0_plan (l : Launch) (g : GG) (M : MM) (o1 : Nat) (v2 : Int32) (Q : MM → Prop) (hF : full g) (ho1 : tpl g o1) (hw : wX0_plan Q M o1 v2) : MV g l yX0_plan wsX0_plan (rmOf 5 119) [.ref (gA g 39), .ref (gA g o1), .int v2] M Q := by
  refine mk_MV (cc := cX0_plan) (maxL := 5) (by decide) rfl (Nat.le_of_ble_eq_true rfl) ?_
  intro z Qf hC hR
  show XX z g Qf 5 0 [(0, .ref (gA g 39)), (1, .ref (gA g o1)), (2, .int v2)] [] M
  have B65 : ∀ (K17 : MM → Int32 → Prop) (hK17 : ∀ (M : MM) (v3 : Int32) , K17 M v3 → XX z g Qf 5 17 [(0, .ref (gA g 39)), (3, .int v3)] [] M) (K30 : MM → Int32 → Int32 → Prop) (hK30 : ∀ (M : MM) (v3 : Int32) (v4 : Int32) , K30 M v3 v4 → XX z g Qf 5 30 [(0, .ref (gA g 39)), (3, .int v3), (4, .int v4)] [] M) (M : MM) (v3 : Int32) (v4 : Int32) (p0 : Int32) (p1 : Int32), wX0_plan_65 Q K17 K30 o1 v2 M v3 v4 p0 p1 → XX z g Qf 5 65 [(0, .ref (gA g 39)), (3, .int v3), (4, .int v4)] [.int p0, .int p1, .ref (gA g 41)] M := by
    intro K17 hK17 K30 hK30 M v3 v4 p0 p1 hw
    refine r_callV hC (go_N (As := [.ref (gA g 41), .int p1, .int p0]) (rest := []) hC (ctX4_setCell (zl z) g M 41 p1 p0 _ (arF41 hF) hw) 3 gX0_plan_X4_setCell_n40 rfl ⟨rfl, rfl⟩ 0 rfl (uX0_plan__X0_choose _ (List.mem_of_getElem? (l := owX0_choose) (i := 4) rfl)) (uX0_plan__X0_choose _ (List.mem_of_getElem? (l := owX0_choose) (i := 3) rfl)) hdT_X4_setCell ⟨Nat.le_of_ble_eq_true rfl, Nat.le_of_ble_eq_true rfl⟩ rfl rfl (Nat.le_of_ble_eq_true rfl) dX0_plan_65) 68 rfl (fun M6 hw => ?_)
    refine q_iinc (v := v4 + 1) (L' := [(4, .int (v4 + 1)), (0, .ref (gA g 39)), (3, .int v3)]) hC dX0_plan_68 2 rfl rfl (by decide) rfl 71 rfl ?_
    refine q_goto hC 30 dX0_plan_71 (by decide) ?_
    exact XX.sub [1, 2, 0] rfl (hK30 M6 v3 (v4 + 1) hw)
  have B30 : ∀ (K17 : MM → Int32 → Prop) (hK17 : ∀ (M : MM) (v3 : Int32) , K17 M v3 → XX z g Qf 5 17 [(0, .ref (gA g 39)), (3, .int v3)] [] M) (n : Nat) (M : MM) (v3 : Int32) (v4 : Int32) , wX0_plan_30 Q K17 o1 v2 n M v3 v4 → XX z g Qf 5 30 [(0, .ref (gA g 39)), (3, .int v3), (4, .int v4)] [] M := by
    intro K17 hK17 n
    induction n with
    | zero =>
      intro M v3 v4 hw
      exact hw.elim
    | succ n ih =>
      intro M v3 v4 hw
      refine q_iload hC dX0_plan_30 2 rfl 32 rfl ?_
      refine q_aload_n hC dX0_plan_32 0 rfl 33 rfl ?_
      refine q_getI (C := RX0) (T := TX0) (N := 6) (ci := 0) hC inX0_plan_X0 (obF39 hF) rfl 4 (by decide) (uX0_plan__X0_choose _ (List.mem_of_getElem? (l := owX0_choose) (i := 1) rfl)) rfl (fun _ => rfl) dX0_plan_33 36 rfl ?_
      refine q_icmp_ge hC 74 dX0_plan_36 (by decide) 39 rfl hw (fun hw => ?_) (fun hw => ?_)
      · refine q_iinc (v := v3 + 1) (L' := [(3, .int (v3 + 1)), (0, .ref (gA g 39)), (4, .int v4)]) hC dX0_plan_74 1 rfl rfl (by decide) rfl 77 rfl ?_
        refine q_goto hC 17 dX0_plan_77 (by decide) ?_
        exact XX.sub [1, 0] rfl (hK17 M (v3 + 1) hw)
      · refine q_aload_n hC dX0_plan_39 0 rfl 40 rfl ?_
        refine q_getR (C := RX0) (T := TX0) (N := 6) (ci := 0) hC inX0_plan_X0 (obF39 hF) rfl 1 (by decide) (uX0_plan__X0_ticksBy _ (List.mem_of_getElem? (l := owX0_ticksBy) (i := 2) rfl)) rfl 41 (fun _ => rfl) dX0_plan_40 43 rfl ?_
        refine q_iload_n hC dX0_plan_43 1 rfl 44 rfl ?_
        refine q_bipush (v := 8) hC dX0_plan_44 (by decide) 46 rfl ?_
        refine q_imul hC dX0_plan_46 47 rfl ?_
        refine q_iload hC dX0_plan_47 2 rfl 49 rfl ?_
        refine q_iadd hC dX0_plan_49 50 rfl ?_
        refine q_iload_n hC dX0_plan_50 1 rfl 51 rfl ?_
        refine q_if_ne hC 58 dX0_plan_51 (by decide) 54 rfl hw (fun hw => ?_) (fun hw => ?_)
        · refine q_aload_n hC dX0_plan_58 0 rfl 59 rfl ?_
          refine q_iload hC dX0_plan_59 2 rfl 61 rfl ?_
          refine q_iload_n hC dX0_plan_61 1 rfl 62 rfl ?_
          refine r_callI hC (go_V (q := (RX0, TX0, 6)) (As := [.int v4, .int v3]) (rest := [.int ((v3 * (8 : Int32)) + v4), .ref (gA g 41)]) hC (ctX0_fewestFrom (zl z) g M v4 v3 _ hF hw) 2 gX0_plan_X0_fewestFrom rfl ⟨rfl, rfl⟩ hdV_X0_fewestFrom ⟨Nat.le_of_ble_eq_true rfl, Nat.le_of_ble_eq_true rfl⟩ (obF39 hF) rfl rfl rfl (Nat.le_of_ble_eq_true rfl) dX0_plan_62) 65 rfl (fun r4 M5 hw => ?_)
          exact XX.sub [0, 1, 2] rfl (B65 _ hK17 _ (fun M v3 v4 hw => ih M v3 v4 hw) M5 v3 v4 r4 ((v3 * (8 : Int32)) + v4) hw)
        · refine q_iconst (v := 0) hC dX0_plan_54 rfl 55 rfl ?_
          refine q_goto hC 65 dX0_plan_55 (by decide) ?_
          exact XX.sub [0, 1, 2] rfl (B65 _ hK17 _ (fun M v3 v4 hw => ih M v3 v4 hw) M v3 v4 0 ((v3 * (8 : Int32)) + v4) hw)
  have B17 : ∀ (n : Nat) (M : MM) (v3 : Int32) , wX0_plan_17 Q o1 v2 n M v3 → XX z g Qf 5 17 [(0, .ref (gA g 39)), (3, .int v3)] [] M := by
    intro n
    induction n with
    | zero =>
      intro M v3 hw
      exact hw.elim
    | succ n ih =>
      intro M v3 hw
      refine q_iload_n hC dX0_plan_17 1 rfl 18 rfl ?_
      refine q_iconst (v := 1) hC dX0_plan_18 rfl 19 rfl ?_
      refine q_aload_n hC dX0_plan_19 0 rfl 20 rfl ?_
      refine q_getI (C := RX0) (T := TX0) (N := 6) (ci := 0) hC inX0_plan_X0 (obF39 hF) rfl 4 (by decide) (uX0_plan__X0_choose _ (List.mem_of_getElem? (l := owX0_choose) (i := 1) rfl)) rfl (fun _ => rfl) dX0_plan_20 23 rfl ?_
      refine q_ishl hC dX0_plan_23 24 rfl ?_
      refine q_icmp_ge hC 80 dX0_plan_24 (by decide) 27 rfl hw (fun hw => ?_) (fun hw => ?_)
      · refine q_aload_n hC dX0_plan_80 0 rfl 81 rfl ?_
        refine r_callV hC (go_V (q := (RX0, TX0, 6)) (As := []) (rest := []) hC (ctX0_followFirst (zl z) g M _ hF hw) 0 gX0_plan_X0_followFirst rfl ⟨rfl, rfl⟩ hdV_X0_followFirst ⟨Nat.le_of_ble_eq_true rfl, Nat.le_of_ble_eq_true rfl⟩ (obF39 hF) rfl rfl rfl (Nat.le_of_ble_eq_true rfl) dX0_plan_81) 84 rfl (fun M3 hw => ?_)
        exact r_vret hR dX0_plan_84 hw
      · refine q_iconst (v := 0) hC dX0_plan_27 rfl 28 rfl ?_
        refine q_istore (L' := [(4, .int 0), (0, .ref (gA g 39)), (3, .int v3)]) hC dX0_plan_28 (by decide) rfl 30 rfl ?_
        obtain ⟨n0, hw⟩ := hw
        exact XX.sub [1, 2, 0] rfl (B30 _ (fun M v3 hw => ih M v3 hw) n0 M v3 0 hw)
  refine q_aload_n hC dX0_plan_0 1 rfl 1 rfl ?_
  refine q_ifnonnull hC 5 dX0_plan_1 (by decide) ?_
  refine q_aload_n hC dX0_plan_5 0 rfl 6 rfl ?_
  refine q_iload_n hC dX0_plan_6 2 rfl 7 rfl ?_
  refine r_callV hC (go_V (q := (RX0, TX0, 6)) (As := [.int v2]) (rest := []) hC (ctX0_choose (zl z) g M v2 _ hF hw) 1 gX0_plan_X0_choose rfl ⟨rfl, rfl⟩ hdV_X0_choose ⟨Nat.le_of_ble_eq_true rfl, Nat.le_of_ble_eq_true rfl⟩ (obF39 hF) rfl rfl rfl (Nat.le_of_ble_eq_true rfl) dX0_plan_7) 10 rfl (fun M1 hw => ?_)
  refine q_aload_n hC dX0_plan_10 0 rfl 11 rfl ?_
  refine q_aload_n hC dX0_plan_11 1 rfl 12 rfl ?_
  refine r_callV hC (go_V (q := (RX0, TX0, 6)) (As := [.ref (gA g o1)]) (rest := []) hC (ctX0_measureHops (zl z) g M1 o1 _ hF ho1 hw) 1 gX0_plan_X0_measureHops rfl ⟨rfl, rfl⟩ hdV_X0_measureHops ⟨Nat.le_of_ble_eq_true rfl, Nat.le_of_ble_eq_true rfl⟩ (obF39 hF) rfl rfl rfl (Nat.le_of_ble_eq_true rfl) dX0_plan_12) 15 rfl (fun M2 hw => ?_)
  refine q_iconst (v := 0) hC dX0_plan_15 rfl 16 rfl ?_
  refine q_istore_n (L' := [(3, .int 0), (0, .ref (gA g 39)), (1, .ref (gA g o1)), (2, .int v2)]) hC dX0_plan_16 (by decide) rfl 17 rfl ?_
  obtain ⟨n0, hw⟩ := hw
  exact XX.sub [1, 0] rfl (B17 n0 M2 0 hw)
theorem inX0_stopAt_X0 : ∀ w ∈ u_ws RX0 TX0 6, w ∈ wsX0_stopAt := uX0_stopAt__wsX00
set_option maxRecDepth 100000 in
set_option maxHeartbeats 4000000 in
theorem ctX0_stopAt (l : Launch) (g : GG) (M : MM) (v1 : Int32) (Q : Int32 → MM → Prop) (hF : full g) (hw : wX0_stopAt Q M v1) : MI g l yX0_stopAt wsX0_stopAt (rmOf 1 21) [.ref (gA g 39), .int v1] M Q := by
  refine mk_MI (cc := cX0_stopAt) (maxL := 2) (by decide) rfl (Nat.le_of_ble_eq_true rfl) ?_
  intro z Qf hC hR
  show XX z g Qf 2 0 [(0, .ref (gA g 39)), (1, .int v1)] [] M
  refine q_aload_n hC dX0_stopAt_0 0 rfl 1 rfl ?_
  refine q_getR (C := RX0) (T := TX0) (N := 6) (ci := 0) hC inX0_stopAt_X0 (obF39 hF) rfl 3 (by decide) (uX0_stopAt__o _ (List.mem_of_getElem? (l := owX0_stopAt) (i := 1) rfl)) rfl 43 (fun _ => rfl) dX0_stopAt_1 4 rfl ?_
  refine q_iload_n hC dX0_stopAt_4 1 rfl 5 rfl ?_
  refine r_callI hC (go_N (As := [.ref (gA g 43), .int v1]) (rest := []) hC (ctX4_cell (zl z) g M 43 v1 _ (arF43 hF) hw) 2 gX0_stopAt_X4_cell_n47 rfl ⟨rfl, rfl⟩ 1 rfl (uX0_stopAt__o _ (List.mem_of_getElem? (l := owX0_stopAt) (i := 3) rfl)) (uX0_stopAt__o _ (List.mem_of_getElem? (l := owX0_stopAt) (i := 2) rfl)) hdT_X4_cell ⟨Nat.le_of_ble_eq_true rfl, Nat.le_of_ble_eq_true rfl⟩ rfl rfl (Nat.le_of_ble_eq_true rfl) dX0_stopAt_5) 8 rfl (fun r1 M2 hw => ?_)
  exact r_iret hR dX0_stopAt_8 hw
theorem inX3_addLetter_X3 : ∀ w ∈ u_ws RX3 TX3 10, w ∈ wsX3_addLetter := uX3_addLetter__wsX30
set_option maxRecDepth 100000 in
set_option maxHeartbeats 4000000 in
theorem ctX3_addLetter (l : Launch) (g : GG) (M : MM) (v1 : Int32) (Q : MM → Prop) (hF : full g) (hw : wX3_addLetter Q M v1) : MV g l yX3_addLetter wsX3_addLetter (rmOf 0 0) [.ref (gA g 37), .int v1] M Q := by
  refine mk_MV (cc := cX3_addLetter) (maxL := 2) (by decide) rfl (Nat.le_of_ble_eq_true rfl) ?_
  intro z Qf hC hR
  show XX z g Qf 2 0 [(0, .ref (gA g 37)), (1, .int v1)] [] M
  have B29 : ∀ (M : MM), wX3_addLetter_29 Q v1 M → XX z g Qf 2 29 [(0, .ref (gA g 37))] [] M := by
    intro M hw
    refine q_aload_n hC dX3_addLetter_29 0 rfl 30 rfl ?_
    refine q_dup hC dX3_addLetter_30 rfl 31 rfl ?_
    refine q_getI (C := RX3) (T := TX3) (N := 10) (ci := 3) hC inX3_addLetter_X3 (obF37 hF) rfl 2 (by decide) (uX3_addLetter__o _ (List.mem_of_getElem? (l := owX3_addLetter) (i := 1) rfl)) rfl (fun _ => rfl) dX3_addLetter_31 34 rfl ?_
    refine q_iconst (v := 1) hC dX3_addLetter_34 rfl 35 rfl ?_
    refine q_iadd hC dX3_addLetter_35 36 rfl ?_
    refine q_putI (C := RX3) (T := TX3) (N := 10) (ci := 3) hC inX3_addLetter_X3 tyX3 tyX3_ok nmX3 (obF37 hF) rfl 2 (by decide) (uX3_addLetter__o _ (List.mem_of_getElem? (l := owX3_addLetter) (i := 1) rfl)) rfl rfl rfl (fun _ => Nat.le_of_ble_eq_true rfl) (fun _ => rfl) dX3_addLetter_36 39 rfl (fun M2 eM2 => ?_)
    have hw := hw M2 eM2
    exact r_vret hR dX3_addLetter_39 hw
  refine q_aload_n hC dX3_addLetter_0 0 rfl 1 rfl ?_
  refine q_getI (C := RX3) (T := TX3) (N := 10) (ci := 3) hC inX3_addLetter_X3 (obF37 hF) rfl 2 (by decide) (uX3_addLetter__o _ (List.mem_of_getElem? (l := owX3_addLetter) (i := 1) rfl)) rfl (fun _ => rfl) dX3_addLetter_1 4 rfl ?_
  refine q_if_lt hC 29 dX3_addLetter_4 (by decide) 7 rfl hw (fun hw => ?_) (fun hw => ?_)
  · exact XX.sub [0] rfl (B29 M hw)
  · refine q_aload_n hC dX3_addLetter_7 0 rfl 8 rfl ?_
    refine q_getI (C := RX3) (T := TX3) (N := 10) (ci := 3) hC inX3_addLetter_X3 (obF37 hF) rfl 2 (by decide) (uX3_addLetter__o _ (List.mem_of_getElem? (l := owX3_addLetter) (i := 1) rfl)) rfl (fun _ => rfl) dX3_addLetter_8 11 rfl ?_
    refine q_aload_n hC dX3_addLetter_11 0 rfl 12 rfl ?_
    refine q_getR (C := RX3) (T := TX3) (N := 10) (ci := 3) hC inX3_addLetter_X3 (obF37 hF) rfl 0 (by decide) (uX3_addLetter__o _ (List.mem_of_getElem? (l := owX3_addLetter) (i := 2) rfl)) rfl 38 (fun _ => rfl) dX3_addLetter_12 15 rfl ?_
    refine q_alenB hC (arF38 hF) dX3_addLetter_15 16 rfl ?_
    refine q_icmp_ge hC 29 dX3_addLetter_16 (by decide) 19 rfl hw (fun hw => ?_) (fun hw => ?_)
    · exact XX.sub [0] rfl (B29 M hw)
    · refine q_aload_n hC dX3_addLetter_19 0 rfl 20 rfl ?_
      refine q_getR (C := RX3) (T := TX3) (N := 10) (ci := 3) hC inX3_addLetter_X3 (obF37 hF) rfl 0 (by decide) (uX3_addLetter__o _ (List.mem_of_getElem? (l := owX3_addLetter) (i := 2) rfl)) rfl 38 (fun _ => rfl) dX3_addLetter_20 23 rfl ?_
      refine q_aload_n hC dX3_addLetter_23 0 rfl 24 rfl ?_
      refine q_getI (C := RX3) (T := TX3) (N := 10) (ci := 3) hC inX3_addLetter_X3 (obF37 hF) rfl 2 (by decide) (uX3_addLetter__o _ (List.mem_of_getElem? (l := owX3_addLetter) (i := 1) rfl)) rfl (fun _ => rfl) dX3_addLetter_24 27 rfl ?_
      refine q_iload_n hC dX3_addLetter_27 1 rfl 28 rfl ?_
      obtain ⟨hin, hw⟩ := hw
      refine q_bast hC (arF38 hF) hin dX3_addLetter_28 29 rfl (fun M1 eM1 => ?_)
      have hw := hw M1 eM1
      exact XX.sub [0] rfl (B29 M1 hw)
theorem inX3_letterAt_X3 : ∀ w ∈ u_ws RX3 TX3 10, w ∈ wsX3_letterAt := uX3_letterAt__wsX30
set_option maxRecDepth 100000 in
set_option maxHeartbeats 4000000 in
theorem ctX3_letterAt (l : Launch) (g : GG) (M : MM) (v1 : Int32) (Q : Int32 → MM → Prop) (hF : full g) (hw : wX3_letterAt Q M v1) : MI g l yX3_letterAt wsX3_letterAt (rmOf 0 0) [.ref (gA g 37), .int v1] M Q := by
  refine mk_MI (cc := cX3_letterAt) (maxL := 2) (by decide) rfl (Nat.le_of_ble_eq_true rfl) ?_
  intro z Qf hC hR
  show XX z g Qf 2 0 [(0, .ref (gA g 37)), (1, .int v1)] [] M
  have B34 : ∀ (M : MM), wX3_letterAt_34 Q v1 M → XX z g Qf 2 34 [] [] M := by
    intro M hw
    refine q_iconst (v := (-1)) hC dX3_letterAt_34 rfl 35 rfl ?_
    exact r_iret hR dX3_letterAt_35 hw
  refine q_iload_n hC dX3_letterAt_0 1 rfl 1 rfl ?_
  refine q_if_lt hC 34 dX3_letterAt_1 (by decide) 4 rfl hw (fun hw => ?_) (fun hw => ?_)
  · exact XX.sub [] rfl (B34 M hw)
  · refine q_iload_n hC dX3_letterAt_4 1 rfl 5 rfl ?_
    refine q_aload_n hC dX3_letterAt_5 0 rfl 6 rfl ?_
    refine q_getI (C := RX3) (T := TX3) (N := 10) (ci := 3) hC inX3_letterAt_X3 (obF37 hF) rfl 2 (by decide) (uX3_letterAt__o _ (List.mem_of_getElem? (l := owX3_letterAt) (i := 1) rfl)) rfl (fun _ => rfl) dX3_letterAt_6 9 rfl ?_
    refine q_icmp_ge hC 34 dX3_letterAt_9 (by decide) 12 rfl hw (fun hw => ?_) (fun hw => ?_)
    · exact XX.sub [] rfl (B34 M hw)
    · refine q_iload_n hC dX3_letterAt_12 1 rfl 13 rfl ?_
      refine q_aload_n hC dX3_letterAt_13 0 rfl 14 rfl ?_
      refine q_getR (C := RX3) (T := TX3) (N := 10) (ci := 3) hC inX3_letterAt_X3 (obF37 hF) rfl 0 (by decide) (uX3_letterAt__o _ (List.mem_of_getElem? (l := owX3_letterAt) (i := 2) rfl)) rfl 38 (fun _ => rfl) dX3_letterAt_14 17 rfl ?_
      refine q_alenB hC (arF38 hF) dX3_letterAt_17 18 rfl ?_
      refine q_icmp_ge hC 34 dX3_letterAt_18 (by decide) 21 rfl hw (fun hw => ?_) (fun hw => ?_)
      · exact XX.sub [] rfl (B34 M hw)
      · refine q_aload_n hC dX3_letterAt_21 0 rfl 22 rfl ?_
        refine q_getR (C := RX3) (T := TX3) (N := 10) (ci := 3) hC inX3_letterAt_X3 (obF37 hF) rfl 0 (by decide) (uX3_letterAt__o _ (List.mem_of_getElem? (l := owX3_letterAt) (i := 2) rfl)) rfl 38 (fun _ => rfl) dX3_letterAt_22 25 rfl ?_
        refine q_iload_n hC dX3_letterAt_25 1 rfl 26 rfl ?_
        obtain ⟨hin, hw⟩ := hw
        refine q_bald hC (arF38 hF) hin dX3_letterAt_26 27 rfl ?_
        refine q_sipush (v := 255) hC dX3_letterAt_27 (by decide) 30 rfl ?_
        refine q_iand hC dX3_letterAt_30 31 rfl ?_
        refine q_goto hC 35 dX3_letterAt_31 (by decide) ?_
        exact r_iret hR dX3_letterAt_35 hw
set_option maxRecDepth 100000 in
set_option maxHeartbeats 4000000 in
theorem ctX3_isSmallLetter (l : Launch) (g : GG) (M : MM) (v0 : Int32) (Q : Int32 → MM → Prop)  (hw : wX3_isSmallLetter Q M v0) : MI g l yX3_isSmallLetter wsX3_isSmallLetter (rmOf 0 0) [.int v0] M Q := by
  refine mk_MZ (cc := cX3_isSmallLetter) (maxL := 1) (by decide) rfl (Nat.le_of_ble_eq_true rfl) ?_
  intro z Qf hC hR
  show XX z g Qf 1 0 [(0, .int v0)] [] M
  have B16 : ∀ (M : MM), wX3_isSmallLetter_16 Q v0 M → XX z g Qf 1 16 [] [] M := by
    intro M hw
    refine q_iconst (v := 0) hC dX3_isSmallLetter_16 rfl 17 rfl ?_
    exact r_iret hR dX3_isSmallLetter_17 ⟨nb_0, hw⟩
  refine q_iload_n hC dX3_isSmallLetter_0 0 rfl 1 rfl ?_
  refine q_bipush (v := 97) hC dX3_isSmallLetter_1 (by decide) 3 rfl ?_
  refine q_icmp_lt hC 16 dX3_isSmallLetter_3 (by decide) 6 rfl hw (fun hw => ?_) (fun hw => ?_)
  · exact XX.sub [] rfl (B16 M hw)
  · refine q_iload_n hC dX3_isSmallLetter_6 0 rfl 7 rfl ?_
    refine q_bipush (v := 122) hC dX3_isSmallLetter_7 (by decide) 9 rfl ?_
    refine q_icmp_gt hC 16 dX3_isSmallLetter_9 (by decide) 12 rfl hw (fun hw => ?_) (fun hw => ?_)
    · exact XX.sub [] rfl (B16 M hw)
    · refine q_iconst (v := 1) hC dX3_isSmallLetter_12 rfl 13 rfl ?_
      refine q_goto hC 17 dX3_isSmallLetter_13 (by decide) ?_
      exact r_iret hR dX3_isSmallLetter_17 ⟨nb_1, hw⟩
set_option maxRecDepth 100000 in
set_option maxHeartbeats 4000000 in
theorem ctX3_isFigure (l : Launch) (g : GG) (M : MM) (v0 : Int32) (Q : Int32 → MM → Prop)  (hw : wX3_isFigure Q M v0) : MI g l yX3_isFigure wsX3_isFigure (rmOf 0 0) [.int v0] M Q := by
  refine mk_MZ (cc := cX3_isFigure) (maxL := 1) (by decide) rfl (Nat.le_of_ble_eq_true rfl) ?_
  intro z Qf hC hR
  show XX z g Qf 1 0 [(0, .int v0)] [] M
  have B16 : ∀ (M : MM), wX3_isFigure_16 Q v0 M → XX z g Qf 1 16 [] [] M := by
    intro M hw
    refine q_iconst (v := 0) hC dX3_isFigure_16 rfl 17 rfl ?_
    exact r_iret hR dX3_isFigure_17 ⟨nb_0, hw⟩
  refine q_iload_n hC dX3_isFigure_0 0 rfl 1 rfl ?_
  refine q_bipush (v := 48) hC dX3_isFigure_1 (by decide) 3 rfl ?_
  refine q_icmp_lt hC 16 dX3_isFigure_3 (by decide) 6 rfl hw (fun hw => ?_) (fun hw => ?_)
  · exact XX.sub [] rfl (B16 M hw)
  · refine q_iload_n hC dX3_isFigure_6 0 rfl 7 rfl ?_
    refine q_bipush (v := 57) hC dX3_isFigure_7 (by decide) 9 rfl ?_
    refine q_icmp_gt hC 16 dX3_isFigure_9 (by decide) 12 rfl hw (fun hw => ?_) (fun hw => ?_)
    · exact XX.sub [] rfl (B16 M hw)
    · refine q_iconst (v := 1) hC dX3_isFigure_12 rfl 13 rfl ?_
      refine q_goto hC 17 dX3_isFigure_13 (by decide) ?_
      exact r_iret hR dX3_isFigure_17 ⟨nb_1, hw⟩
theorem hdV_X3_letterAt : yX3_letterAt.cls = RX3 ∧ yX3_letterAt.cls ≠ "java/lang/invoke/MethodHandle" ∧ yX3_letterAt.cls ≠ "java/lang/invoke/VarHandle" ∧ (parseMethodDescriptor yX3_letterAt.desc).map (fun d => d.parameters.length) = some 1 := by decide +kernel
theorem hdT_X3_isFigure : yX3_isFigure.cls ≠ "java/lang/invoke/MethodHandle" ∧ yX3_isFigure.cls ≠ "java/lang/invoke/VarHandle" ∧ (parseMethodDescriptor yX3_isFigure.desc).map (fun d => d.parameters.length) = some 1 := by decide +kernel
theorem inX3_readNumber_X3 : ∀ w ∈ u_ws RX3 TX3 10, w ∈ wsX3_readNumber := uX3_readNumber__wsX30
set_option maxRecDepth 100000 in
set_option maxHeartbeats 4000000 in
theorem ctX3_readNumber (l : Launch) (g : GG) (M : MM)  (Q : MM → Prop) (hF : full g) (hw : wX3_readNumber Q M ) : MV g l yX3_readNumber wsX3_readNumber (rmOf 1 21) [.ref (gA g 37)] M Q := by
  refine mk_MV (cc := cX3_readNumber) (maxL := 2) (by decide) rfl (Nat.le_of_ble_eq_true rfl) ?_
  intro z Qf hC hR
  show XX z g Qf 2 0 [(0, .ref (gA g 37))] [] M
  have B79 : ∀ (n : Nat) (M : MM) (v1 : Int32) , wX3_readNumber_79 Q n M v1 → XX z g Qf 2 79 [(0, .ref (gA g 37)), (1, .int v1)] [] M := by
    intro n
    induction n with
    | zero =>
      intro M v1 hw
      exact hw.elim
    | succ n ih =>
      intro M v1 hw
      refine q_iload_n hC dX3_readNumber_79 1 rfl 80 rfl ?_
      refine q_aload_n hC dX3_readNumber_80 0 rfl 81 rfl ?_
      refine q_getI (C := RX3) (T := TX3) (N := 10) (ci := 3) hC inX3_readNumber_X3 (obF37 hF) rfl 3 (by decide) (uX3_readNumber__o _ (List.mem_of_getElem? (l := owX3_readNumber) (i := 1) rfl)) rfl (fun _ => rfl) dX3_readNumber_81 84 rfl ?_
      refine q_icmp_ge hC 113 dX3_readNumber_84 (by decide) 87 rfl hw (fun hw => ?_) (fun hw => ?_)
      · exact r_vret hR dX3_readNumber_113 hw
      · refine q_aload_n hC dX3_readNumber_87 0 rfl 88 rfl ?_
        refine q_aload_n hC dX3_readNumber_88 0 rfl 89 rfl ?_
        refine q_getI (C := RX3) (T := TX3) (N := 10) (ci := 3) hC inX3_readNumber_X3 (obF37 hF) rfl 6 (by decide) (uX3_readNumber__o _ (List.mem_of_getElem? (l := owX3_readNumber) (i := 4) rfl)) rfl (fun _ => rfl) dX3_readNumber_89 92 rfl ?_
        refine q_bipush (v := 10) hC dX3_readNumber_92 (by decide) 94 rfl ?_
        refine q_imul hC dX3_readNumber_94 95 rfl ?_
        refine q_aload_n hC dX3_readNumber_95 0 rfl 96 rfl ?_
        refine q_iload_n hC dX3_readNumber_96 1 rfl 97 rfl ?_
        refine r_callI hC (go_V (q := (RX3, TX3, 10)) (As := [.int v1]) (rest := [.int ((M 37 6) * (10 : Int32)), .ref (gA g 37)]) hC (ctX3_letterAt (zl z) g M v1 _ hF hw) 1 gX3_readNumber_X3_letterAt rfl ⟨rfl, rfl⟩ hdV_X3_letterAt ⟨Nat.le_of_ble_eq_true rfl, Nat.le_of_ble_eq_true rfl⟩ (obF37 hF) rfl rfl rfl (Nat.le_of_ble_eq_true rfl) dX3_readNumber_97) 100 rfl (fun r8 M9 hw => ?_)
        refine q_iadd hC dX3_readNumber_100 101 rfl ?_
        refine q_bipush (v := 48) hC dX3_readNumber_101 (by decide) 103 rfl ?_
        refine q_isub hC dX3_readNumber_103 104 rfl ?_
        refine q_putI (C := RX3) (T := TX3) (N := 10) (ci := 3) hC inX3_readNumber_X3 tyX3 tyX3_ok nmX3 (obF37 hF) rfl 6 (by decide) (uX3_readNumber__o _ (List.mem_of_getElem? (l := owX3_readNumber) (i := 4) rfl)) rfl rfl rfl (fun _ => Nat.le_of_ble_eq_true rfl) (fun _ => rfl) dX3_readNumber_104 107 rfl (fun M10 eM10 => ?_)
        have hw := hw M10 eM10
        refine q_iinc (v := v1 + 1) (L' := [(1, .int (v1 + 1)), (0, .ref (gA g 37))]) hC dX3_readNumber_107 1 rfl rfl (by decide) rfl 110 rfl ?_
        refine q_goto hC 79 dX3_readNumber_110 (by decide) ?_
        exact XX.sub [1, 0] rfl (ih M10 (v1 + 1) hw)
  have B57 : ∀ (M : MM) (p0 : Int32), wX3_readNumber_57 Q M p0 → XX z g Qf 2 57 [(0, .ref (gA g 37))] [.int p0, .ref (gA g 37)] M := by
    intro M p0 hw
    refine q_putI (C := RX3) (T := TX3) (N := 10) (ci := 3) hC inX3_readNumber_X3 tyX3 tyX3_ok nmX3 (obF37 hF) rfl 4 (by decide) (uX3_readNumber__o _ (List.mem_of_getElem? (l := owX3_readNumber) (i := 3) rfl)) rfl rfl rfl (fun _ => Nat.le_of_ble_eq_true rfl) (fun _ => rfl) dX3_readNumber_57 60 rfl (fun M6 eM6 => ?_)
    have hw := hw M6 eM6
    refine q_aload_n hC dX3_readNumber_60 0 rfl 61 rfl ?_
    refine q_iconst (v := 0) hC dX3_readNumber_61 rfl 62 rfl ?_
    refine q_putI (C := RX3) (T := TX3) (N := 10) (ci := 3) hC inX3_readNumber_X3 tyX3 tyX3_ok nmX3 (obF37 hF) rfl 6 (by decide) (uX3_readNumber__o _ (List.mem_of_getElem? (l := owX3_readNumber) (i := 4) rfl)) rfl rfl rfl (fun _ => Nat.le_of_ble_eq_true rfl) (fun _ => rfl) dX3_readNumber_62 65 rfl (fun M7 eM7 => ?_)
    have hw := hw M7 eM7
    refine q_aload_n hC dX3_readNumber_65 0 rfl 66 rfl ?_
    refine q_getI (C := RX3) (T := TX3) (N := 10) (ci := 3) hC inX3_readNumber_X3 (obF37 hF) rfl 4 (by decide) (uX3_readNumber__o _ (List.mem_of_getElem? (l := owX3_readNumber) (i := 3) rfl)) rfl (fun _ => rfl) dX3_readNumber_66 69 rfl ?_
    refine q_iconst (v := 4) hC dX3_readNumber_69 rfl 70 rfl ?_
    refine q_icmp_ne hC 74 dX3_readNumber_70 (by decide) 73 rfl hw (fun hw => ?_) (fun hw => ?_)
    · refine q_aload_n hC dX3_readNumber_74 0 rfl 75 rfl ?_
      refine q_getI (C := RX3) (T := TX3) (N := 10) (ci := 3) hC inX3_readNumber_X3 (obF37 hF) rfl 5 (by decide) (uX3_readNumber__o _ (List.mem_of_getElem? (l := owX3_readNumber) (i := 2) rfl)) rfl (fun _ => rfl) dX3_readNumber_75 78 rfl ?_
      refine q_istore_n (L' := [(1, .int (M7 37 5)), (0, .ref (gA g 37))]) hC dX3_readNumber_78 (by decide) rfl 79 rfl ?_
      obtain ⟨n0, hw⟩ := hw
      exact XX.sub [1, 0] rfl (B79 n0 M7 (M7 37 5) hw)
    · exact r_vret hR dX3_readNumber_73 hw
  have B38 : ∀ (M : MM), wX3_readNumber_38 Q M → XX z g Qf 2 38 [(0, .ref (gA g 37))] [] M := by
    intro M hw
    refine q_aload_n hC dX3_readNumber_38 0 rfl 39 rfl ?_
    refine q_aload_n hC dX3_readNumber_39 0 rfl 40 rfl ?_
    refine q_getI (C := RX3) (T := TX3) (N := 10) (ci := 3) hC inX3_readNumber_X3 (obF37 hF) rfl 3 (by decide) (uX3_readNumber__o _ (List.mem_of_getElem? (l := owX3_readNumber) (i := 1) rfl)) rfl (fun _ => rfl) dX3_readNumber_40 43 rfl ?_
    refine q_aload_n hC dX3_readNumber_43 0 rfl 44 rfl ?_
    refine q_getI (C := RX3) (T := TX3) (N := 10) (ci := 3) hC inX3_readNumber_X3 (obF37 hF) rfl 5 (by decide) (uX3_readNumber__o _ (List.mem_of_getElem? (l := owX3_readNumber) (i := 2) rfl)) rfl (fun _ => rfl) dX3_readNumber_44 47 rfl ?_
    refine q_isub hC dX3_readNumber_47 48 rfl ?_
    refine q_iconst (v := 4) hC dX3_readNumber_48 rfl 49 rfl ?_
    refine q_icmp_le hC 56 dX3_readNumber_49 (by decide) 52 rfl hw (fun hw => ?_) (fun hw => ?_)
    · refine q_iconst (v := 2) hC dX3_readNumber_56 rfl 57 rfl ?_
      exact XX.sub [0] rfl (B57 M 2 hw)
    · refine q_iconst (v := 4) hC dX3_readNumber_52 rfl 53 rfl ?_
      refine q_goto hC 57 dX3_readNumber_53 (by decide) ?_
      exact XX.sub [0] rfl (B57 M 4 hw)
  have B0 : ∀ (n : Nat) (M : MM) , wX3_readNumber_0 Q n M → XX z g Qf 2 0 [(0, .ref (gA g 37))] [] M := by
    intro n
    induction n with
    | zero =>
      intro M hw
      exact hw.elim
    | succ n ih =>
      intro M hw
      refine q_aload_n hC dX3_readNumber_0 0 rfl 1 rfl ?_
      refine q_getI (C := RX3) (T := TX3) (N := 10) (ci := 3) hC inX3_readNumber_X3 (obF37 hF) rfl 3 (by decide) (uX3_readNumber__o _ (List.mem_of_getElem? (l := owX3_readNumber) (i := 1) rfl)) rfl (fun _ => rfl) dX3_readNumber_1 4 rfl ?_
      refine q_aload_n hC dX3_readNumber_4 0 rfl 5 rfl ?_
      refine q_getI (C := RX3) (T := TX3) (N := 10) (ci := 3) hC inX3_readNumber_X3 (obF37 hF) rfl 2 (by decide) (uX3_readNumber__X3_letterAt _ (List.mem_of_getElem? (l := owX3_letterAt) (i := 1) rfl)) rfl (fun _ => rfl) dX3_readNumber_5 8 rfl ?_
      refine q_icmp_ge hC 38 dX3_readNumber_8 (by decide) 11 rfl hw (fun hw => ?_) (fun hw => ?_)
      · exact XX.sub [0] rfl (B38 M hw)
      · refine q_aload_n hC dX3_readNumber_11 0 rfl 12 rfl ?_
        refine q_aload_n hC dX3_readNumber_12 0 rfl 13 rfl ?_
        refine q_getI (C := RX3) (T := TX3) (N := 10) (ci := 3) hC inX3_readNumber_X3 (obF37 hF) rfl 3 (by decide) (uX3_readNumber__o _ (List.mem_of_getElem? (l := owX3_readNumber) (i := 1) rfl)) rfl (fun _ => rfl) dX3_readNumber_13 16 rfl ?_
        refine r_callI hC (go_V (q := (RX3, TX3, 10)) (As := [.int (M 37 3)]) (rest := []) hC (ctX3_letterAt (zl z) g M (M 37 3) _ hF hw) 1 gX3_readNumber_X3_letterAt rfl ⟨rfl, rfl⟩ hdV_X3_letterAt ⟨Nat.le_of_ble_eq_true rfl, Nat.le_of_ble_eq_true rfl⟩ (obF37 hF) rfl rfl rfl (Nat.le_of_ble_eq_true rfl) dX3_readNumber_16) 19 rfl (fun r1 M2 hw => ?_)
        refine r_callI hC (go_T (As := [.int r1]) (rest := []) hC (ctX3_isFigure (zl z) g M2 r1 _ hw) 1 gX3_readNumber_X3_isFigure rfl ⟨rfl, rfl⟩ hdT_X3_isFigure ⟨Nat.le_of_ble_eq_true rfl, Nat.le_of_ble_eq_true rfl⟩ rfl rfl (Nat.le_of_ble_eq_true rfl) dX3_readNumber_19) 22 rfl (fun r3 M4 hw => ?_)
        refine q_if_eq hC 38 dX3_readNumber_22 (by decide) 25 rfl hw (fun hw => ?_) (fun hw => ?_)
        · exact XX.sub [0] rfl (B38 M4 hw)
        · refine q_aload_n hC dX3_readNumber_25 0 rfl 26 rfl ?_
          refine q_dup hC dX3_readNumber_26 rfl 27 rfl ?_
          refine q_getI (C := RX3) (T := TX3) (N := 10) (ci := 3) hC inX3_readNumber_X3 (obF37 hF) rfl 3 (by decide) (uX3_readNumber__o _ (List.mem_of_getElem? (l := owX3_readNumber) (i := 1) rfl)) rfl (fun _ => rfl) dX3_readNumber_27 30 rfl ?_
          refine q_iconst (v := 1) hC dX3_readNumber_30 rfl 31 rfl ?_
          refine q_iadd hC dX3_readNumber_31 32 rfl ?_
          refine q_putI (C := RX3) (T := TX3) (N := 10) (ci := 3) hC inX3_readNumber_X3 tyX3 tyX3_ok nmX3 (obF37 hF) rfl 3 (by decide) (uX3_readNumber__o _ (List.mem_of_getElem? (l := owX3_readNumber) (i := 1) rfl)) rfl rfl rfl (fun _ => Nat.le_of_ble_eq_true rfl) (fun _ => rfl) dX3_readNumber_32 35 rfl (fun M5 eM5 => ?_)
          have hw := hw M5 eM5
          refine q_goto hC 0 dX3_readNumber_35 (by decide) ?_
          exact XX.sub [0] rfl (ih M5 hw)
  obtain ⟨n0, hw⟩ := hw
  exact XX.sub [0] rfl (B0 n0 M hw)
theorem inX3_refuse_X3 : ∀ w ∈ u_ws RX3 TX3 10, w ∈ wsX3_refuse := uX3_refuse__wsX30
set_option maxRecDepth 100000 in
set_option maxHeartbeats 4000000 in
theorem ctX3_refuse (l : Launch) (g : GG) (M : MM) (v1 : Int32) (v2 : Int32) (Q : MM → Prop) (hF : full g) (hw : wX3_refuse Q M v1 v2) : MV g l yX3_refuse wsX3_refuse (rmOf 0 0) [.ref (gA g 37), .int v1, .int v2] M Q := by
  refine mk_MV (cc := cX3_refuse) (maxL := 3) (by decide) rfl (Nat.le_of_ble_eq_true rfl) ?_
  intro z Qf hC hR
  show XX z g Qf 3 0 [(0, .ref (gA g 37)), (1, .int v1), (2, .int v2)] [] M
  refine q_aload_n hC dX3_refuse_0 0 rfl 1 rfl ?_
  refine q_getI (C := RX3) (T := TX3) (N := 10) (ci := 3) hC inX3_refuse_X3 (obF37 hF) rfl 8 (by decide) (uX3_refuse__o _ (List.mem_of_getElem? (l := owX3_refuse) (i := 1) rfl)) rfl (fun _ => rfl) dX3_refuse_1 4 rfl ?_
  refine q_if_eq hC 8 dX3_refuse_4 (by decide) 7 rfl hw (fun hw => ?_) (fun hw => ?_)
  · refine q_aload_n hC dX3_refuse_8 0 rfl 9 rfl ?_
    refine q_iload_n hC dX3_refuse_9 1 rfl 10 rfl ?_
    refine q_putI (C := RX3) (T := TX3) (N := 10) (ci := 3) hC inX3_refuse_X3 tyX3 tyX3_ok nmX3 (obF37 hF) rfl 8 (by decide) (uX3_refuse__o _ (List.mem_of_getElem? (l := owX3_refuse) (i := 1) rfl)) rfl rfl rfl (fun _ => Nat.le_of_ble_eq_true rfl) (fun _ => rfl) dX3_refuse_10 13 rfl (fun M1 eM1 => ?_)
    have hw := hw M1 eM1
    refine q_aload_n hC dX3_refuse_13 0 rfl 14 rfl ?_
    refine q_iload_n hC dX3_refuse_14 2 rfl 15 rfl ?_
    refine q_putI (C := RX3) (T := TX3) (N := 10) (ci := 3) hC inX3_refuse_X3 tyX3 tyX3_ok nmX3 (obF37 hF) rfl 9 (by decide) (uX3_refuse__o _ (List.mem_of_getElem? (l := owX3_refuse) (i := 2) rfl)) rfl rfl rfl (fun _ => Nat.le_of_ble_eq_true rfl) (fun _ => rfl) dX3_refuse_15 18 rfl (fun M2 eM2 => ?_)
    have hw := hw M2 eM2
    exact r_vret hR dX3_refuse_18 hw
  · exact r_vret hR dX3_refuse_7 hw
theorem hdT_X3_isSmallLetter : yX3_isSmallLetter.cls ≠ "java/lang/invoke/MethodHandle" ∧ yX3_isSmallLetter.cls ≠ "java/lang/invoke/VarHandle" ∧ (parseMethodDescriptor yX3_isSmallLetter.desc).map (fun d => d.parameters.length) = some 1 := by decide +kernel
theorem hdV_X3_readNumber : yX3_readNumber.cls = RX3 ∧ yX3_readNumber.cls ≠ "java/lang/invoke/MethodHandle" ∧ yX3_readNumber.cls ≠ "java/lang/invoke/VarHandle" ∧ (parseMethodDescriptor yX3_readNumber.desc).map (fun d => d.parameters.length) = some 0 := by decide +kernel
theorem hdV_X3_refuse : yX3_refuse.cls = RX3 ∧ yX3_refuse.cls ≠ "java/lang/invoke/MethodHandle" ∧ yX3_refuse.cls ≠ "java/lang/invoke/VarHandle" ∧ (parseMethodDescriptor yX3_refuse.desc).map (fun d => d.parameters.length) = some 2 := by decide +kernel
theorem inX3_readToken_X3 : ∀ w ∈ u_ws RX3 TX3 10, w ∈ wsX3_readToken := uX3_readToken__wsX30
set_option maxRecDepth 100000 in
set_option maxHeartbeats 4000000 in
theorem ctX3_readToken (l : Launch) (g : GG) (M : MM)  (Q : MM → Prop) (hF : full g) (hw : wX3_readToken Q M ) : MV g l yX3_readToken wsX3_readToken (rmOf 2 42) [.ref (gA g 37)] M Q := by
  refine mk_MV (cc := cX3_readToken) (maxL := 2) (by decide) rfl (Nat.le_of_ble_eq_true rfl) ?_
  intro z Qf hC hR
  show XX z g Qf 2 0 [(0, .ref (gA g 37))] [] M
  have B155 : ∀ (M : MM), wX3_readToken_155 Q M → XX z g Qf 2 155 [(0, .ref (gA g 37))] [] M := by
    intro M hw
    refine q_aload_n hC dX3_readToken_155 0 rfl 156 rfl ?_
    refine q_getI (C := RX3) (T := TX3) (N := 10) (ci := 3) hC inX3_readToken_X3 (obF37 hF) rfl 4 (by decide) (uX3_readToken__X3_readNumber _ (List.mem_of_getElem? (l := owX3_readNumber) (i := 3) rfl)) rfl (fun _ => rfl) dX3_readToken_156 159 rfl ?_
    refine q_iconst (v := 4) hC dX3_readToken_159 rfl 160 rfl ?_
    refine q_icmp_ne hC 172 dX3_readToken_160 (by decide) 163 rfl hw (fun hw => ?_) (fun hw => ?_)
    · exact r_vret hR dX3_readToken_172 hw
    · refine q_aload_n hC dX3_readToken_163 0 rfl 164 rfl ?_
      refine q_iconst (v := 1) hC dX3_readToken_164 rfl 165 rfl ?_
      refine q_aload_n hC dX3_readToken_165 0 rfl 166 rfl ?_
      refine q_getI (C := RX3) (T := TX3) (N := 10) (ci := 3) hC inX3_readToken_X3 (obF37 hF) rfl 5 (by decide) (uX3_readToken__X3_readNumber _ (List.mem_of_getElem? (l := owX3_readNumber) (i := 2) rfl)) rfl (fun _ => rfl) dX3_readToken_166 169 rfl ?_
      refine r_callV hC (go_V (q := (RX3, TX3, 10)) (As := [.int 1, .int (M 37 5)]) (rest := []) hC (ctX3_refuse (zl z) g M 1 (M 37 5) _ hF hw) 2 gX3_readToken_X3_refuse rfl ⟨rfl, rfl⟩ hdV_X3_refuse ⟨Nat.le_of_ble_eq_true rfl, Nat.le_of_ble_eq_true rfl⟩ (obF37 hF) rfl rfl rfl (Nat.le_of_ble_eq_true rfl) dX3_readToken_169) 172 rfl (fun M21 hw => ?_)
      exact r_vret hR dX3_readToken_172 hw
  have B142 : ∀ (M : MM) (p0 : Int32), wX3_readToken_142 Q M p0 → XX z g Qf 2 142 [(0, .ref (gA g 37))] [.int p0, .ref (gA g 37)] M := by
    intro M p0 hw
    refine q_putI (C := RX3) (T := TX3) (N := 10) (ci := 3) hC inX3_readToken_X3 tyX3 tyX3_ok nmX3 (obF37 hF) rfl 4 (by decide) (uX3_readToken__X3_readNumber _ (List.mem_of_getElem? (l := owX3_readNumber) (i := 3) rfl)) rfl rfl rfl (fun _ => Nat.le_of_ble_eq_true rfl) (fun _ => rfl) dX3_readToken_142 145 rfl (fun M19 eM19 => ?_)
    have hw := hw M19 eM19
    refine q_aload_n hC dX3_readToken_145 0 rfl 146 rfl ?_
    refine q_dup hC dX3_readToken_146 rfl 147 rfl ?_
    refine q_getI (C := RX3) (T := TX3) (N := 10) (ci := 3) hC inX3_readToken_X3 (obF37 hF) rfl 3 (by decide) (uX3_readToken__X3_readNumber _ (List.mem_of_getElem? (l := owX3_readNumber) (i := 1) rfl)) rfl (fun _ => rfl) dX3_readToken_147 150 rfl ?_
    refine q_iconst (v := 1) hC dX3_readToken_150 rfl 151 rfl ?_
    refine q_iadd hC dX3_readToken_151 152 rfl ?_
    refine q_putI (C := RX3) (T := TX3) (N := 10) (ci := 3) hC inX3_readToken_X3 tyX3 tyX3_ok nmX3 (obF37 hF) rfl 3 (by decide) (uX3_readToken__X3_readNumber _ (List.mem_of_getElem? (l := owX3_readNumber) (i := 1) rfl)) rfl rfl rfl (fun _ => Nat.le_of_ble_eq_true rfl) (fun _ => rfl) dX3_readToken_152 155 rfl (fun M20 eM20 => ?_)
    have hw := hw M20 eM20
    exact XX.sub [0] rfl (B155 M20 hw)
  have B78 : ∀ (n : Nat) (M : MM) , wX3_readToken_78 Q n M → XX z g Qf 2 78 [(0, .ref (gA g 37))] [] M := by
    intro n
    induction n with
    | zero =>
      intro M hw
      exact hw.elim
    | succ n ih =>
      intro M hw
      refine q_aload_n hC dX3_readToken_78 0 rfl 79 rfl ?_
      refine q_getI (C := RX3) (T := TX3) (N := 10) (ci := 3) hC inX3_readToken_X3 (obF37 hF) rfl 3 (by decide) (uX3_readToken__X3_readNumber _ (List.mem_of_getElem? (l := owX3_readNumber) (i := 1) rfl)) rfl (fun _ => rfl) dX3_readToken_79 82 rfl ?_
      refine q_aload_n hC dX3_readToken_82 0 rfl 83 rfl ?_
      refine q_getI (C := RX3) (T := TX3) (N := 10) (ci := 3) hC inX3_readToken_X3 (obF37 hF) rfl 2 (by decide) (uX3_readToken__X3_letterAt _ (List.mem_of_getElem? (l := owX3_letterAt) (i := 1) rfl)) rfl (fun _ => rfl) dX3_readToken_83 86 rfl ?_
      refine q_icmp_ge hC 155 dX3_readToken_86 (by decide) 89 rfl hw (fun hw => ?_) (fun hw => ?_)
      · exact XX.sub [0] rfl (B155 M hw)
      · refine q_aload_n hC dX3_readToken_89 0 rfl 90 rfl ?_
        refine q_aload_n hC dX3_readToken_90 0 rfl 91 rfl ?_
        refine q_getI (C := RX3) (T := TX3) (N := 10) (ci := 3) hC inX3_readToken_X3 (obF37 hF) rfl 3 (by decide) (uX3_readToken__X3_readNumber _ (List.mem_of_getElem? (l := owX3_readNumber) (i := 1) rfl)) rfl (fun _ => rfl) dX3_readToken_91 94 rfl ?_
        refine r_callI hC (go_V (q := (RX3, TX3, 10)) (As := [.int (M 37 3)]) (rest := []) hC (ctX3_letterAt (zl z) g M (M 37 3) _ hF hw) 1 gX3_readToken_X3_letterAt rfl ⟨rfl, rfl⟩ hdV_X3_letterAt ⟨Nat.le_of_ble_eq_true rfl, Nat.le_of_ble_eq_true rfl⟩ (obF37 hF) rfl rfl rfl (Nat.le_of_ble_eq_true rfl) dX3_readToken_94) 97 rfl (fun r14 M15 hw => ?_)
        refine r_callI hC (go_T (As := [.int r14]) (rest := []) hC (ctX3_isSmallLetter (zl z) g M15 r14 _ hw) 1 gX3_readToken_X3_isSmallLetter rfl ⟨rfl, rfl⟩ hdT_X3_isSmallLetter ⟨Nat.le_of_ble_eq_true rfl, Nat.le_of_ble_eq_true rfl⟩ rfl rfl (Nat.le_of_ble_eq_true rfl) dX3_readToken_97) 100 rfl (fun r16 M17 hw => ?_)
        refine q_if_eq hC 155 dX3_readToken_100 (by decide) 103 rfl hw (fun hw => ?_) (fun hw => ?_)
        · exact XX.sub [0] rfl (B155 M17 hw)
        · refine q_aload_n hC dX3_readToken_103 0 rfl 104 rfl ?_
          refine q_dup hC dX3_readToken_104 rfl 105 rfl ?_
          refine q_getI (C := RX3) (T := TX3) (N := 10) (ci := 3) hC inX3_readToken_X3 (obF37 hF) rfl 3 (by decide) (uX3_readToken__X3_readNumber _ (List.mem_of_getElem? (l := owX3_readNumber) (i := 1) rfl)) rfl (fun _ => rfl) dX3_readToken_105 108 rfl ?_
          refine q_iconst (v := 1) hC dX3_readToken_108 rfl 109 rfl ?_
          refine q_iadd hC dX3_readToken_109 110 rfl ?_
          refine q_putI (C := RX3) (T := TX3) (N := 10) (ci := 3) hC inX3_readToken_X3 tyX3 tyX3_ok nmX3 (obF37 hF) rfl 3 (by decide) (uX3_readToken__X3_readNumber _ (List.mem_of_getElem? (l := owX3_readNumber) (i := 1) rfl)) rfl rfl rfl (fun _ => Nat.le_of_ble_eq_true rfl) (fun _ => rfl) dX3_readToken_110 113 rfl (fun M18 eM18 => ?_)
          have hw := hw M18 eM18
          refine q_goto hC 78 dX3_readToken_113 (by decide) ?_
          exact XX.sub [0] rfl (ih M18 hw)
  have B37 : ∀ (M : MM), wX3_readToken_37 Q M → XX z g Qf 2 37 [(0, .ref (gA g 37))] [] M := by
    intro M hw
    refine q_aload_n hC dX3_readToken_37 0 rfl 38 rfl ?_
    refine q_aload_n hC dX3_readToken_38 0 rfl 39 rfl ?_
    refine q_getI (C := RX3) (T := TX3) (N := 10) (ci := 3) hC inX3_readToken_X3 (obF37 hF) rfl 3 (by decide) (uX3_readToken__X3_readNumber _ (List.mem_of_getElem? (l := owX3_readNumber) (i := 1) rfl)) rfl (fun _ => rfl) dX3_readToken_39 42 rfl ?_
    refine q_putI (C := RX3) (T := TX3) (N := 10) (ci := 3) hC inX3_readToken_X3 tyX3 tyX3_ok nmX3 (obF37 hF) rfl 5 (by decide) (uX3_readToken__X3_readNumber _ (List.mem_of_getElem? (l := owX3_readNumber) (i := 2) rfl)) rfl rfl rfl (fun _ => Nat.le_of_ble_eq_true rfl) (fun _ => rfl) dX3_readToken_42 45 rfl (fun M4 eM4 => ?_)
    have hw := hw M4 eM4
    refine q_aload_n hC dX3_readToken_45 0 rfl 46 rfl ?_
    refine q_aload_n hC dX3_readToken_46 0 rfl 47 rfl ?_
    refine q_getI (C := RX3) (T := TX3) (N := 10) (ci := 3) hC inX3_readToken_X3 (obF37 hF) rfl 5 (by decide) (uX3_readToken__X3_readNumber _ (List.mem_of_getElem? (l := owX3_readNumber) (i := 2) rfl)) rfl (fun _ => rfl) dX3_readToken_47 50 rfl ?_
    refine r_callI hC (go_V (q := (RX3, TX3, 10)) (As := [.int (M4 37 5)]) (rest := []) hC (ctX3_letterAt (zl z) g M4 (M4 37 5) _ hF hw) 1 gX3_readToken_X3_letterAt rfl ⟨rfl, rfl⟩ hdV_X3_letterAt ⟨Nat.le_of_ble_eq_true rfl, Nat.le_of_ble_eq_true rfl⟩ (obF37 hF) rfl rfl rfl (Nat.le_of_ble_eq_true rfl) dX3_readToken_50) 53 rfl (fun r5 M6 hw => ?_)
    refine q_istore_n (L' := [(1, .int r5), (0, .ref (gA g 37))]) hC dX3_readToken_53 (by decide) rfl 54 rfl ?_
    refine q_iload_n hC dX3_readToken_54 0 rfl 55 rfl ?_
    refine q_if_ge hC 66 dX3_readToken_55 (by decide) 58 rfl hw (fun hw => ?_) (fun hw => ?_)
    · refine q_iload_n hC dX3_readToken_66 0 rfl 67 rfl ?_
      refine r_callI hC (go_T (As := [.int r5]) (rest := []) hC (ctX3_isSmallLetter (zl z) g M6 r5 _ hw) 1 gX3_readToken_X3_isSmallLetter rfl ⟨rfl, rfl⟩ hdT_X3_isSmallLetter ⟨Nat.le_of_ble_eq_true rfl, Nat.le_of_ble_eq_true rfl⟩ rfl rfl (Nat.le_of_ble_eq_true rfl) dX3_readToken_67) 70 rfl (fun r7 M8 hw => ?_)
      refine q_if_eq hC 116 dX3_readToken_70 (by decide) 73 rfl hw (fun hw => ?_) (fun hw => ?_)
      · refine q_iload_n hC dX3_readToken_116 0 rfl 117 rfl ?_
        refine r_callI hC (go_T (As := [.int r5]) (rest := []) hC (ctX3_isFigure (zl z) g M8 r5 _ hw) 1 gX3_readToken_X3_isFigure rfl ⟨rfl, rfl⟩ hdT_X3_isFigure ⟨Nat.le_of_ble_eq_true rfl, Nat.le_of_ble_eq_true rfl⟩ rfl rfl (Nat.le_of_ble_eq_true rfl) dX3_readToken_117) 120 rfl (fun r9 M10 hw => ?_)
        refine q_if_eq hC 130 dX3_readToken_120 (by decide) 123 rfl hw (fun hw => ?_) (fun hw => ?_)
        · refine q_aload_n hC dX3_readToken_130 1 rfl 131 rfl ?_
          refine q_iload_n hC dX3_readToken_131 0 rfl 132 rfl ?_
          refine q_bipush (v := 59) hC dX3_readToken_132 (by decide) 134 rfl ?_
          refine q_icmp_ne hC 141 dX3_readToken_134 (by decide) 137 rfl hw (fun hw => ?_) (fun hw => ?_)
          · refine q_iconst (v := 4) hC dX3_readToken_141 rfl 142 rfl ?_
            exact XX.sub [1] rfl (B142 M10 4 hw)
          · refine q_iconst (v := 3) hC dX3_readToken_137 rfl 138 rfl ?_
            refine q_goto hC 142 dX3_readToken_138 (by decide) ?_
            exact XX.sub [1] rfl (B142 M10 3 hw)
        · refine q_aload_n hC dX3_readToken_123 1 rfl 124 rfl ?_
          refine r_callV hC (go_V (q := (RX3, TX3, 10)) (As := []) (rest := []) hC (ctX3_readNumber (zl z) g M10 _ hF hw) 0 gX3_readToken_X3_readNumber rfl ⟨rfl, rfl⟩ hdV_X3_readNumber ⟨Nat.le_of_ble_eq_true rfl, Nat.le_of_ble_eq_true rfl⟩ (obF37 hF) rfl rfl rfl (Nat.le_of_ble_eq_true rfl) dX3_readToken_124) 127 rfl (fun M11 hw => ?_)
          refine q_goto hC 155 dX3_readToken_127 (by decide) ?_
          exact XX.sub [1] rfl (B155 M11 hw)
      · refine q_aload_n hC dX3_readToken_73 1 rfl 74 rfl ?_
        refine q_iconst (v := 1) hC dX3_readToken_74 rfl 75 rfl ?_
        refine q_putI (C := RX3) (T := TX3) (N := 10) (ci := 3) hC inX3_readToken_X3 tyX3 tyX3_ok nmX3 (obF37 hF) rfl 4 (by decide) (uX3_readToken__X3_readNumber _ (List.mem_of_getElem? (l := owX3_readNumber) (i := 3) rfl)) rfl rfl rfl (fun _ => Nat.le_of_ble_eq_true rfl) (fun _ => rfl) dX3_readToken_75 78 rfl (fun M12 eM12 => ?_)
        have hw := hw M12 eM12
        obtain ⟨n0, hw⟩ := hw
        exact XX.sub [1] rfl (B78 n0 M12 hw)
    · refine q_aload_n hC dX3_readToken_58 1 rfl 59 rfl ?_
      refine q_iconst (v := 0) hC dX3_readToken_59 rfl 60 rfl ?_
      refine q_putI (C := RX3) (T := TX3) (N := 10) (ci := 3) hC inX3_readToken_X3 tyX3 tyX3_ok nmX3 (obF37 hF) rfl 4 (by decide) (uX3_readToken__X3_readNumber _ (List.mem_of_getElem? (l := owX3_readNumber) (i := 3) rfl)) rfl rfl rfl (fun _ => Nat.le_of_ble_eq_true rfl) (fun _ => rfl) dX3_readToken_60 63 rfl (fun M13 eM13 => ?_)
      have hw := hw M13 eM13
      refine q_goto hC 155 dX3_readToken_63 (by decide) ?_
      exact XX.sub [1] rfl (B155 M13 hw)
  have B0 : ∀ (n : Nat) (M : MM) , wX3_readToken_0 Q n M → XX z g Qf 2 0 [(0, .ref (gA g 37))] [] M := by
    intro n
    induction n with
    | zero =>
      intro M hw
      exact hw.elim
    | succ n ih =>
      intro M hw
      refine q_aload_n hC dX3_readToken_0 0 rfl 1 rfl ?_
      refine q_getI (C := RX3) (T := TX3) (N := 10) (ci := 3) hC inX3_readToken_X3 (obF37 hF) rfl 3 (by decide) (uX3_readToken__X3_readNumber _ (List.mem_of_getElem? (l := owX3_readNumber) (i := 1) rfl)) rfl (fun _ => rfl) dX3_readToken_1 4 rfl ?_
      refine q_aload_n hC dX3_readToken_4 0 rfl 5 rfl ?_
      refine q_getI (C := RX3) (T := TX3) (N := 10) (ci := 3) hC inX3_readToken_X3 (obF37 hF) rfl 2 (by decide) (uX3_readToken__X3_letterAt _ (List.mem_of_getElem? (l := owX3_letterAt) (i := 1) rfl)) rfl (fun _ => rfl) dX3_readToken_5 8 rfl ?_
      refine q_icmp_ge hC 37 dX3_readToken_8 (by decide) 11 rfl hw (fun hw => ?_) (fun hw => ?_)
      · exact XX.sub [0] rfl (B37 M hw)
      · refine q_aload_n hC dX3_readToken_11 0 rfl 12 rfl ?_
        refine q_aload_n hC dX3_readToken_12 0 rfl 13 rfl ?_
        refine q_getI (C := RX3) (T := TX3) (N := 10) (ci := 3) hC inX3_readToken_X3 (obF37 hF) rfl 3 (by decide) (uX3_readToken__X3_readNumber _ (List.mem_of_getElem? (l := owX3_readNumber) (i := 1) rfl)) rfl (fun _ => rfl) dX3_readToken_13 16 rfl ?_
        refine r_callI hC (go_V (q := (RX3, TX3, 10)) (As := [.int (M 37 3)]) (rest := []) hC (ctX3_letterAt (zl z) g M (M 37 3) _ hF hw) 1 gX3_readToken_X3_letterAt rfl ⟨rfl, rfl⟩ hdV_X3_letterAt ⟨Nat.le_of_ble_eq_true rfl, Nat.le_of_ble_eq_true rfl⟩ (obF37 hF) rfl rfl rfl (Nat.le_of_ble_eq_true rfl) dX3_readToken_16) 19 rfl (fun r1 M2 hw => ?_)
        refine q_bipush (v := 32) hC dX3_readToken_19 (by decide) 21 rfl ?_
        refine q_icmp_ne hC 37 dX3_readToken_21 (by decide) 24 rfl hw (fun hw => ?_) (fun hw => ?_)
        · exact XX.sub [0] rfl (B37 M2 hw)
        · refine q_aload_n hC dX3_readToken_24 0 rfl 25 rfl ?_
          refine q_dup hC dX3_readToken_25 rfl 26 rfl ?_
          refine q_getI (C := RX3) (T := TX3) (N := 10) (ci := 3) hC inX3_readToken_X3 (obF37 hF) rfl 3 (by decide) (uX3_readToken__X3_readNumber _ (List.mem_of_getElem? (l := owX3_readNumber) (i := 1) rfl)) rfl (fun _ => rfl) dX3_readToken_26 29 rfl ?_
          refine q_iconst (v := 1) hC dX3_readToken_29 rfl 30 rfl ?_
          refine q_iadd hC dX3_readToken_30 31 rfl ?_
          refine q_putI (C := RX3) (T := TX3) (N := 10) (ci := 3) hC inX3_readToken_X3 tyX3 tyX3_ok nmX3 (obF37 hF) rfl 3 (by decide) (uX3_readToken__X3_readNumber _ (List.mem_of_getElem? (l := owX3_readNumber) (i := 1) rfl)) rfl rfl rfl (fun _ => Nat.le_of_ble_eq_true rfl) (fun _ => rfl) dX3_readToken_31 34 rfl (fun M3 eM3 => ?_)
          have hw := hw M3 eM3
          refine q_goto hC 0 dX3_readToken_34 (by decide) ?_
          exact XX.sub [0] rfl (ih M3 hw)
  obtain ⟨n0, hw⟩ := hw
  exact XX.sub [0] rfl (B0 n0 M hw)
theorem hdV_J0_length_8abf5 : yJ0_length_8abf5.cls = RJ0 ∧ yJ0_length_8abf5.cls ≠ "java/lang/invoke/MethodHandle" ∧ yJ0_length_8abf5.cls ≠ "java/lang/invoke/VarHandle" ∧ (parseMethodDescriptor yJ0_length_8abf5.desc).map (fun d => d.parameters.length) = some 0 := by decide +kernel
theorem hdV_J0_charAt_5068e : yJ0_charAt_5068e.cls = RJ0 ∧ yJ0_charAt_5068e.cls ≠ "java/lang/invoke/MethodHandle" ∧ yJ0_charAt_5068e.cls ≠ "java/lang/invoke/VarHandle" ∧ (parseMethodDescriptor yJ0_charAt_5068e.desc).map (fun d => d.parameters.length) = some 1 := by decide +kernel
theorem inX3_isNamed_X3 : ∀ w ∈ u_ws RX3 TX3 10, w ∈ wsX3_isNamed := uX3_isNamed__wsX30
set_option maxRecDepth 100000 in
set_option maxHeartbeats 4000000 in
theorem ctX3_isNamed (l : Launch) (g : GG) (M : MM) (k1 : Nat) (Q : Int32 → MM → Prop) (hF : full g) (hk1 : k1 < 11) (hw : wX3_isNamed Q M k1) : MI g l yX3_isNamed wsX3_isNamed (rmOf 5 151) [.ref (gA g 37), .ref (gK g k1)] M Q := by
  refine mk_MZ (cc := cX3_isNamed) (maxL := 3) (by decide) rfl (Nat.le_of_ble_eq_true rfl) ?_
  intro z Qf hC hR
  show XX z g Qf 3 0 [(0, .ref (gA g 37)), (1, .ref (gK g k1))] [] M
  have B28 : ∀ (n : Nat) (M : MM) (v2 : Int32) , wX3_isNamed_28 Q k1 n M v2 → XX z g Qf 3 28 [(0, .ref (gA g 37)), (1, .ref (gK g k1)), (2, .int v2)] [] M := by
    intro n
    induction n with
    | zero =>
      intro M v2 hw
      exact hw.elim
    | succ n ih =>
      intro M v2 hw
      refine q_iload_n hC dX3_isNamed_28 2 rfl 29 rfl ?_
      refine q_aload_n hC dX3_isNamed_29 1 rfl 30 rfl ?_
      refine r_callI hC (go_VK (As := []) (rest := [.int v2]) hC (ctJ0_length_8abf5 (zl z) g M k1 _ hk1 hw) 0 gX3_isNamed_J0_length_8abf5 rfl ⟨rfl, rfl⟩ hdV_J0_length_8abf5 ⟨Nat.le_of_ble_eq_true rfl, Nat.le_of_ble_eq_true rfl⟩ hk1 rfl rfl (Nat.le_of_ble_eq_true rfl) dX3_isNamed_30) 33 rfl (fun r3 M4 hw => ?_)
      refine q_icmp_ge hC 62 dX3_isNamed_33 (by decide) 36 rfl hw (fun hw => ?_) (fun hw => ?_)
      · refine q_iconst (v := 1) hC dX3_isNamed_62 rfl 63 rfl ?_
        exact r_iret hR dX3_isNamed_63 ⟨nb_1, hw⟩
      · refine q_aload_n hC dX3_isNamed_36 0 rfl 37 rfl ?_
        refine q_aload_n hC dX3_isNamed_37 0 rfl 38 rfl ?_
        refine q_getI (C := RX3) (T := TX3) (N := 10) (ci := 3) hC inX3_isNamed_X3 (obF37 hF) rfl 5 (by decide) (uX3_isNamed__o _ (List.mem_of_getElem? (l := owX3_isNamed) (i := 3) rfl)) rfl (fun _ => rfl) dX3_isNamed_38 41 rfl ?_
        refine q_iload_n hC dX3_isNamed_41 2 rfl 42 rfl ?_
        refine q_iadd hC dX3_isNamed_42 43 rfl ?_
        refine r_callI hC (go_V (q := (RX3, TX3, 10)) (As := [.int ((M4 37 5) + v2)]) (rest := []) hC (ctX3_letterAt (zl z) g M4 ((M4 37 5) + v2) _ hF hw) 1 gX3_isNamed_X3_letterAt rfl ⟨rfl, rfl⟩ hdV_X3_letterAt ⟨Nat.le_of_ble_eq_true rfl, Nat.le_of_ble_eq_true rfl⟩ (obF37 hF) rfl rfl rfl (Nat.le_of_ble_eq_true rfl) dX3_isNamed_43) 46 rfl (fun r5 M6 hw => ?_)
        refine q_aload_n hC dX3_isNamed_46 1 rfl 47 rfl ?_
        refine q_iload_n hC dX3_isNamed_47 2 rfl 48 rfl ?_
        refine r_callI hC (go_VK (As := [.int v2]) (rest := [.int r5]) hC (ctJ0_charAt_5068e (zl z) g M6 k1 v2 _ hk1 hw) 1 gX3_isNamed_J0_charAt_5068e rfl ⟨rfl, rfl⟩ hdV_J0_charAt_5068e ⟨Nat.le_of_ble_eq_true rfl, Nat.le_of_ble_eq_true rfl⟩ hk1 rfl rfl (Nat.le_of_ble_eq_true rfl) dX3_isNamed_48) 51 rfl (fun r7 M8 hw => ?_)
        refine q_icmp_eq hC 56 dX3_isNamed_51 (by decide) 54 rfl hw (fun hw => ?_) (fun hw => ?_)
        · refine q_iinc (v := v2 + 1) (L' := [(2, .int (v2 + 1)), (0, .ref (gA g 37)), (1, .ref (gK g k1))]) hC dX3_isNamed_56 2 rfl rfl (by decide) rfl 59 rfl ?_
          refine q_goto hC 28 dX3_isNamed_59 (by decide) ?_
          exact XX.sub [1, 2, 0] rfl (ih M8 (v2 + 1) hw)
        · refine q_iconst (v := 0) hC dX3_isNamed_54 rfl 55 rfl ?_
          exact r_iret hR dX3_isNamed_55 ⟨nb_0, hw⟩
  refine q_aload_n hC dX3_isNamed_0 0 rfl 1 rfl ?_
  refine q_getI (C := RX3) (T := TX3) (N := 10) (ci := 3) hC inX3_isNamed_X3 (obF37 hF) rfl 4 (by decide) (uX3_isNamed__o _ (List.mem_of_getElem? (l := owX3_isNamed) (i := 1) rfl)) rfl (fun _ => rfl) dX3_isNamed_1 4 rfl ?_
  refine q_iconst (v := 1) hC dX3_isNamed_4 rfl 5 rfl ?_
  refine q_icmp_ne hC 24 dX3_isNamed_5 (by decide) 8 rfl hw (fun hw => ?_) (fun hw => ?_)
  · refine q_iconst (v := 0) hC dX3_isNamed_24 rfl 25 rfl ?_
    exact r_iret hR dX3_isNamed_25 ⟨nb_0, hw⟩
  · refine q_aload_n hC dX3_isNamed_8 0 rfl 9 rfl ?_
    refine q_getI (C := RX3) (T := TX3) (N := 10) (ci := 3) hC inX3_isNamed_X3 (obF37 hF) rfl 3 (by decide) (uX3_isNamed__o _ (List.mem_of_getElem? (l := owX3_isNamed) (i := 2) rfl)) rfl (fun _ => rfl) dX3_isNamed_9 12 rfl ?_
    refine q_aload_n hC dX3_isNamed_12 0 rfl 13 rfl ?_
    refine q_getI (C := RX3) (T := TX3) (N := 10) (ci := 3) hC inX3_isNamed_X3 (obF37 hF) rfl 5 (by decide) (uX3_isNamed__o _ (List.mem_of_getElem? (l := owX3_isNamed) (i := 3) rfl)) rfl (fun _ => rfl) dX3_isNamed_13 16 rfl ?_
    refine q_isub hC dX3_isNamed_16 17 rfl ?_
    refine q_aload_n hC dX3_isNamed_17 1 rfl 18 rfl ?_
    refine r_callI hC (go_VK (As := []) (rest := [.int ((M 37 3) - (M 37 5))]) hC (ctJ0_length_8abf5 (zl z) g M k1 _ hk1 hw) 0 gX3_isNamed_J0_length_8abf5 rfl ⟨rfl, rfl⟩ hdV_J0_length_8abf5 ⟨Nat.le_of_ble_eq_true rfl, Nat.le_of_ble_eq_true rfl⟩ hk1 rfl rfl (Nat.le_of_ble_eq_true rfl) dX3_isNamed_18) 21 rfl (fun r1 M2 hw => ?_)
    refine q_icmp_eq hC 26 dX3_isNamed_21 (by decide) 24 rfl hw (fun hw => ?_) (fun hw => ?_)
    · refine q_iconst (v := 0) hC dX3_isNamed_26 rfl 27 rfl ?_
      refine q_istore_n (L' := [(2, .int 0), (0, .ref (gA g 37)), (1, .ref (gK g k1))]) hC dX3_isNamed_27 (by decide) rfl 28 rfl ?_
      obtain ⟨n0, hw⟩ := hw
      exact XX.sub [1, 2, 0] rfl (B28 n0 M2 0 hw)
    · refine q_iconst (v := 0) hC dX3_isNamed_24 rfl 25 rfl ?_
      exact r_iret hR dX3_isNamed_25 ⟨nb_0, hw⟩
theorem hdV_X3_isNamed : yX3_isNamed.cls = RX3 ∧ yX3_isNamed.cls ≠ "java/lang/invoke/MethodHandle" ∧ yX3_isNamed.cls ≠ "java/lang/invoke/VarHandle" ∧ (parseMethodDescriptor yX3_isNamed.desc).map (fun d => d.parameters.length) = some 1 := by decide +kernel
set_option maxRecDepth 100000 in
set_option maxHeartbeats 4000000 in
theorem ctX3_ruleNamed (l : Launch) (g : GG) (M : MM)  (Q : Int32 → MM → Prop) (hF : full g) (hw : wX3_ruleNamed Q M ) : MI g l yX3_ruleNamed wsX3_ruleNamed (rmOf 6 173) [.ref (gA g 37)] M Q := by
  refine mk_MI (cc := cX3_ruleNamed) (maxL := 1) (by decide) rfl (Nat.le_of_ble_eq_true rfl) ?_
  intro z Qf hC hR
  show XX z g Qf 1 0 [(0, .ref (gA g 37))] [] M
  refine q_aload_n hC dX3_ruleNamed_0 0 rfl 1 rfl ?_
  refine q_ldcS hC 0 (by decide) rfl dX3_ruleNamed_1 3 rfl ?_
  refine r_callI hC (go_V (q := (RX3, TX3, 10)) (As := [.ref (gK g 0)]) (rest := []) hC (ctX3_isNamed (zl z) g M 0 _ hF (by decide) hw) 1 gX3_ruleNamed_X3_isNamed rfl ⟨rfl, rfl⟩ hdV_X3_isNamed ⟨Nat.le_of_ble_eq_true rfl, Nat.le_of_ble_eq_true rfl⟩ (obF37 hF) rfl rfl rfl (Nat.le_of_ble_eq_true rfl) dX3_ruleNamed_3) 6 rfl (fun r1 M2 hw => ?_)
  refine q_if_eq hC 11 dX3_ruleNamed_6 (by decide) 9 rfl hw (fun hw => ?_) (fun hw => ?_)
  · refine q_aload_n hC dX3_ruleNamed_11 0 rfl 12 rfl ?_
    refine q_ldcS hC 1 (by decide) rfl dX3_ruleNamed_12 14 rfl ?_
    refine r_callI hC (go_V (q := (RX3, TX3, 10)) (As := [.ref (gK g 1)]) (rest := []) hC (ctX3_isNamed (zl z) g M2 1 _ hF (by decide) hw) 1 gX3_ruleNamed_X3_isNamed rfl ⟨rfl, rfl⟩ hdV_X3_isNamed ⟨Nat.le_of_ble_eq_true rfl, Nat.le_of_ble_eq_true rfl⟩ (obF37 hF) rfl rfl rfl (Nat.le_of_ble_eq_true rfl) dX3_ruleNamed_14) 17 rfl (fun r3 M4 hw => ?_)
    refine q_if_eq hC 22 dX3_ruleNamed_17 (by decide) 20 rfl hw (fun hw => ?_) (fun hw => ?_)
    · refine q_aload_n hC dX3_ruleNamed_22 0 rfl 23 rfl ?_
      refine q_ldcS hC 2 (by decide) rfl dX3_ruleNamed_23 25 rfl ?_
      refine r_callI hC (go_V (q := (RX3, TX3, 10)) (As := [.ref (gK g 2)]) (rest := []) hC (ctX3_isNamed (zl z) g M4 2 _ hF (by decide) hw) 1 gX3_ruleNamed_X3_isNamed rfl ⟨rfl, rfl⟩ hdV_X3_isNamed ⟨Nat.le_of_ble_eq_true rfl, Nat.le_of_ble_eq_true rfl⟩ (obF37 hF) rfl rfl rfl (Nat.le_of_ble_eq_true rfl) dX3_ruleNamed_25) 28 rfl (fun r5 M6 hw => ?_)
      refine q_if_eq hC 33 dX3_ruleNamed_28 (by decide) 31 rfl hw (fun hw => ?_) (fun hw => ?_)
      · refine q_aload_n hC dX3_ruleNamed_33 0 rfl 34 rfl ?_
        refine q_ldcS hC 3 (by decide) rfl dX3_ruleNamed_34 36 rfl ?_
        refine r_callI hC (go_V (q := (RX3, TX3, 10)) (As := [.ref (gK g 3)]) (rest := []) hC (ctX3_isNamed (zl z) g M6 3 _ hF (by decide) hw) 1 gX3_ruleNamed_X3_isNamed rfl ⟨rfl, rfl⟩ hdV_X3_isNamed ⟨Nat.le_of_ble_eq_true rfl, Nat.le_of_ble_eq_true rfl⟩ (obF37 hF) rfl rfl rfl (Nat.le_of_ble_eq_true rfl) dX3_ruleNamed_36) 39 rfl (fun r7 M8 hw => ?_)
        refine q_if_eq hC 44 dX3_ruleNamed_39 (by decide) 42 rfl hw (fun hw => ?_) (fun hw => ?_)
        · refine q_aload_n hC dX3_ruleNamed_44 0 rfl 45 rfl ?_
          refine q_ldcS hC 4 (by decide) rfl dX3_ruleNamed_45 47 rfl ?_
          refine r_callI hC (go_V (q := (RX3, TX3, 10)) (As := [.ref (gK g 4)]) (rest := []) hC (ctX3_isNamed (zl z) g M8 4 _ hF (by decide) hw) 1 gX3_ruleNamed_X3_isNamed rfl ⟨rfl, rfl⟩ hdV_X3_isNamed ⟨Nat.le_of_ble_eq_true rfl, Nat.le_of_ble_eq_true rfl⟩ (obF37 hF) rfl rfl rfl (Nat.le_of_ble_eq_true rfl) dX3_ruleNamed_47) 50 rfl (fun r9 M10 hw => ?_)
          refine q_if_eq hC 55 dX3_ruleNamed_50 (by decide) 53 rfl hw (fun hw => ?_) (fun hw => ?_)
          · refine q_aload_n hC dX3_ruleNamed_55 0 rfl 56 rfl ?_
            refine q_ldcS hC 5 (by decide) rfl dX3_ruleNamed_56 58 rfl ?_
            refine r_callI hC (go_V (q := (RX3, TX3, 10)) (As := [.ref (gK g 5)]) (rest := []) hC (ctX3_isNamed (zl z) g M10 5 _ hF (by decide) hw) 1 gX3_ruleNamed_X3_isNamed rfl ⟨rfl, rfl⟩ hdV_X3_isNamed ⟨Nat.le_of_ble_eq_true rfl, Nat.le_of_ble_eq_true rfl⟩ (obF37 hF) rfl rfl rfl (Nat.le_of_ble_eq_true rfl) dX3_ruleNamed_58) 61 rfl (fun r11 M12 hw => ?_)
            refine q_if_eq hC 66 dX3_ruleNamed_61 (by decide) 64 rfl hw (fun hw => ?_) (fun hw => ?_)
            · refine q_aload_n hC dX3_ruleNamed_66 0 rfl 67 rfl ?_
              refine q_ldcS hC 6 (by decide) rfl dX3_ruleNamed_67 69 rfl ?_
              refine r_callI hC (go_V (q := (RX3, TX3, 10)) (As := [.ref (gK g 6)]) (rest := []) hC (ctX3_isNamed (zl z) g M12 6 _ hF (by decide) hw) 1 gX3_ruleNamed_X3_isNamed rfl ⟨rfl, rfl⟩ hdV_X3_isNamed ⟨Nat.le_of_ble_eq_true rfl, Nat.le_of_ble_eq_true rfl⟩ (obF37 hF) rfl rfl rfl (Nat.le_of_ble_eq_true rfl) dX3_ruleNamed_69) 72 rfl (fun r13 M14 hw => ?_)
              refine q_if_eq hC 78 dX3_ruleNamed_72 (by decide) 75 rfl hw (fun hw => ?_) (fun hw => ?_)
              · refine q_aload_n hC dX3_ruleNamed_78 0 rfl 79 rfl ?_
                refine q_ldcS hC 7 (by decide) rfl dX3_ruleNamed_79 81 rfl ?_
                refine r_callI hC (go_V (q := (RX3, TX3, 10)) (As := [.ref (gK g 7)]) (rest := []) hC (ctX3_isNamed (zl z) g M14 7 _ hF (by decide) hw) 1 gX3_ruleNamed_X3_isNamed rfl ⟨rfl, rfl⟩ hdV_X3_isNamed ⟨Nat.le_of_ble_eq_true rfl, Nat.le_of_ble_eq_true rfl⟩ (obF37 hF) rfl rfl rfl (Nat.le_of_ble_eq_true rfl) dX3_ruleNamed_81) 84 rfl (fun r15 M16 hw => ?_)
                refine q_if_eq hC 90 dX3_ruleNamed_84 (by decide) 87 rfl hw (fun hw => ?_) (fun hw => ?_)
                · refine q_aload_n hC dX3_ruleNamed_90 0 rfl 91 rfl ?_
                  refine q_ldcS hC 8 (by decide) rfl dX3_ruleNamed_91 93 rfl ?_
                  refine r_callI hC (go_V (q := (RX3, TX3, 10)) (As := [.ref (gK g 8)]) (rest := []) hC (ctX3_isNamed (zl z) g M16 8 _ hF (by decide) hw) 1 gX3_ruleNamed_X3_isNamed rfl ⟨rfl, rfl⟩ hdV_X3_isNamed ⟨Nat.le_of_ble_eq_true rfl, Nat.le_of_ble_eq_true rfl⟩ (obF37 hF) rfl rfl rfl (Nat.le_of_ble_eq_true rfl) dX3_ruleNamed_93) 96 rfl (fun r17 M18 hw => ?_)
                  refine q_if_eq hC 102 dX3_ruleNamed_96 (by decide) 99 rfl hw (fun hw => ?_) (fun hw => ?_)
                  · refine q_bipush (v := (-4)) hC dX3_ruleNamed_102 (by decide) 104 rfl ?_
                    exact r_iret hR dX3_ruleNamed_104 hw
                  · refine q_bipush (v := 8) hC dX3_ruleNamed_99 (by decide) 101 rfl ?_
                    exact r_iret hR dX3_ruleNamed_101 hw
                · refine q_bipush (v := 7) hC dX3_ruleNamed_87 (by decide) 89 rfl ?_
                  exact r_iret hR dX3_ruleNamed_89 hw
              · refine q_bipush (v := 6) hC dX3_ruleNamed_75 (by decide) 77 rfl ?_
                exact r_iret hR dX3_ruleNamed_77 hw
            · refine q_iconst (v := 5) hC dX3_ruleNamed_64 rfl 65 rfl ?_
              exact r_iret hR dX3_ruleNamed_65 hw
          · refine q_iconst (v := 4) hC dX3_ruleNamed_53 rfl 54 rfl ?_
            exact r_iret hR dX3_ruleNamed_54 hw
        · refine q_iconst (v := 3) hC dX3_ruleNamed_42 rfl 43 rfl ?_
          exact r_iret hR dX3_ruleNamed_43 hw
      · refine q_iconst (v := 2) hC dX3_ruleNamed_31 rfl 32 rfl ?_
        exact r_iret hR dX3_ruleNamed_32 hw
    · refine q_iconst (v := 1) hC dX3_ruleNamed_20 rfl 21 rfl ?_
      exact r_iret hR dX3_ruleNamed_21 hw
  · refine q_iconst (v := 0) hC dX3_ruleNamed_9 rfl 10 rfl ?_
    exact r_iret hR dX3_ruleNamed_10 hw
theorem inX3_isNumberWithin_X3 : ∀ w ∈ u_ws RX3 TX3 10, w ∈ wsX3_isNumberWithin := uX3_isNumberWithin__wsX30
set_option maxRecDepth 100000 in
set_option maxHeartbeats 4000000 in
theorem ctX3_isNumberWithin (l : Launch) (g : GG) (M : MM) (v1 : Int32) (v2 : Int32) (Q : Int32 → MM → Prop) (hF : full g) (hw : wX3_isNumberWithin Q M v1 v2) : MI g l yX3_isNumberWithin wsX3_isNumberWithin (rmOf 1 22) [.ref (gA g 37), .int v1, .int v2] M Q := by
  refine mk_MZ (cc := cX3_isNumberWithin) (maxL := 3) (by decide) rfl (Nat.le_of_ble_eq_true rfl) ?_
  intro z Qf hC hR
  show XX z g Qf 3 0 [(0, .ref (gA g 37)), (1, .int v1), (2, .int v2)] [] M
  have B41 : ∀ (M : MM), wX3_isNumberWithin_41 Q v1 v2 M → XX z g Qf 3 41 [(0, .ref (gA g 37))] [] M := by
    intro M hw
    refine q_aload_n hC dX3_isNumberWithin_41 0 rfl 42 rfl ?_
    refine q_getI (C := RX3) (T := TX3) (N := 10) (ci := 3) hC inX3_isNumberWithin_X3 (obF37 hF) rfl 8 (by decide) (uX3_isNumberWithin__X3_refuse _ (List.mem_of_getElem? (l := owX3_refuse) (i := 1) rfl)) rfl (fun _ => rfl) dX3_isNumberWithin_42 45 rfl ?_
    refine q_if_ne hC 52 dX3_isNumberWithin_45 (by decide) 48 rfl hw (fun hw => ?_) (fun hw => ?_)
    · refine q_iconst (v := 0) hC dX3_isNumberWithin_52 rfl 53 rfl ?_
      exact r_iret hR dX3_isNumberWithin_53 ⟨nb_0, hw⟩
    · refine q_iconst (v := 1) hC dX3_isNumberWithin_48 rfl 49 rfl ?_
      refine q_goto hC 53 dX3_isNumberWithin_49 (by decide) ?_
      exact r_iret hR dX3_isNumberWithin_53 ⟨nb_1, hw⟩
  refine q_aload_n hC dX3_isNumberWithin_0 0 rfl 1 rfl ?_
  refine q_getI (C := RX3) (T := TX3) (N := 10) (ci := 3) hC inX3_isNumberWithin_X3 (obF37 hF) rfl 4 (by decide) (uX3_isNumberWithin__o _ (List.mem_of_getElem? (l := owX3_isNumberWithin) (i := 1) rfl)) rfl (fun _ => rfl) dX3_isNumberWithin_1 4 rfl ?_
  refine q_iconst (v := 2) hC dX3_isNumberWithin_4 rfl 5 rfl ?_
  refine q_icmp_eq hC 20 dX3_isNumberWithin_5 (by decide) 8 rfl hw (fun hw => ?_) (fun hw => ?_)
  · refine q_aload_n hC dX3_isNumberWithin_20 0 rfl 21 rfl ?_
    refine q_getI (C := RX3) (T := TX3) (N := 10) (ci := 3) hC inX3_isNumberWithin_X3 (obF37 hF) rfl 6 (by decide) (uX3_isNumberWithin__o _ (List.mem_of_getElem? (l := owX3_isNumberWithin) (i := 3) rfl)) rfl (fun _ => rfl) dX3_isNumberWithin_21 24 rfl ?_
    refine q_iload_n hC dX3_isNumberWithin_24 1 rfl 25 rfl ?_
    refine q_iload_n hC dX3_isNumberWithin_25 2 rfl 26 rfl ?_
    refine r_callI hC (go_N (As := [.int (M 37 6), .int v1, .int v2]) (rest := []) hC (ctX4_isBetween (zl z) g M (M 37 6) v1 v2 _ hw) 3 gX3_isNumberWithin_X4_isBetween_n173 rfl ⟨rfl, rfl⟩ 13 rfl (uX3_isNumberWithin__o _ (List.mem_of_getElem? (l := owX3_isNumberWithin) (i := 9) rfl)) (uX3_isNumberWithin__o _ (List.mem_of_getElem? (l := owX3_isNumberWithin) (i := 8) rfl)) hdT_X4_isBetween ⟨Nat.le_of_ble_eq_true rfl, Nat.le_of_ble_eq_true rfl⟩ rfl rfl (Nat.le_of_ble_eq_true rfl) dX3_isNumberWithin_26) 29 rfl (fun r1 M2 hw => ?_)
    refine q_if_ne hC 41 dX3_isNumberWithin_29 (by decide) 32 rfl hw (fun hw => ?_) (fun hw => ?_)
    · exact XX.sub [0] rfl (B41 M2 hw)
    · refine q_aload_n hC dX3_isNumberWithin_32 0 rfl 33 rfl ?_
      refine q_iconst (v := 3) hC dX3_isNumberWithin_33 rfl 34 rfl ?_
      refine q_aload_n hC dX3_isNumberWithin_34 0 rfl 35 rfl ?_
      refine q_getI (C := RX3) (T := TX3) (N := 10) (ci := 3) hC inX3_isNumberWithin_X3 (obF37 hF) rfl 5 (by decide) (uX3_isNumberWithin__o _ (List.mem_of_getElem? (l := owX3_isNumberWithin) (i := 2) rfl)) rfl (fun _ => rfl) dX3_isNumberWithin_35 38 rfl ?_
      refine r_callV hC (go_V (q := (RX3, TX3, 10)) (As := [.int 3, .int (M2 37 5)]) (rest := []) hC (ctX3_refuse (zl z) g M2 3 (M2 37 5) _ hF hw) 2 gX3_isNumberWithin_X3_refuse rfl ⟨rfl, rfl⟩ hdV_X3_refuse ⟨Nat.le_of_ble_eq_true rfl, Nat.le_of_ble_eq_true rfl⟩ (obF37 hF) rfl rfl rfl (Nat.le_of_ble_eq_true rfl) dX3_isNumberWithin_38) 41 rfl (fun M3 hw => ?_)
      exact XX.sub [0] rfl (B41 M3 hw)
  · refine q_aload_n hC dX3_isNumberWithin_8 0 rfl 9 rfl ?_
    refine q_iconst (v := 2) hC dX3_isNumberWithin_9 rfl 10 rfl ?_
    refine q_aload_n hC dX3_isNumberWithin_10 0 rfl 11 rfl ?_
    refine q_getI (C := RX3) (T := TX3) (N := 10) (ci := 3) hC inX3_isNumberWithin_X3 (obF37 hF) rfl 5 (by decide) (uX3_isNumberWithin__o _ (List.mem_of_getElem? (l := owX3_isNumberWithin) (i := 2) rfl)) rfl (fun _ => rfl) dX3_isNumberWithin_11 14 rfl ?_
    refine r_callV hC (go_V (q := (RX3, TX3, 10)) (As := [.int 2, .int (M 37 5)]) (rest := []) hC (ctX3_refuse (zl z) g M 2 (M 37 5) _ hF hw) 2 gX3_isNumberWithin_X3_refuse rfl ⟨rfl, rfl⟩ hdV_X3_refuse ⟨Nat.le_of_ble_eq_true rfl, Nat.le_of_ble_eq_true rfl⟩ (obF37 hF) rfl rfl rfl (Nat.le_of_ble_eq_true rfl) dX3_isNumberWithin_14) 17 rfl (fun M4 hw => ?_)
    refine q_goto hC 41 dX3_isNumberWithin_17 (by decide) ?_
    exact XX.sub [0] rfl (B41 M4 hw)
theorem hdV_X3_readToken : yX3_readToken.cls = RX3 ∧ yX3_readToken.cls ≠ "java/lang/invoke/MethodHandle" ∧ yX3_readToken.cls ≠ "java/lang/invoke/VarHandle" ∧ (parseMethodDescriptor yX3_readToken.desc).map (fun d => d.parameters.length) = some 0 := by decide +kernel
theorem hdV_X3_isNumberWithin : yX3_isNumberWithin.cls = RX3 ∧ yX3_isNumberWithin.cls ≠ "java/lang/invoke/MethodHandle" ∧ yX3_isNumberWithin.cls ≠ "java/lang/invoke/VarHandle" ∧ (parseMethodDescriptor yX3_isNumberWithin.desc).map (fun d => d.parameters.length) = some 2 := by decide +kernel
theorem inX3_takeRule_X2 : ∀ w ∈ u_ws RX2 TX2 14, w ∈ wsX3_takeRule := uX3_takeRule__wsX20
theorem inX3_takeRule_X3 : ∀ w ∈ u_ws RX3 TX3 10, w ∈ wsX3_takeRule := uX3_takeRule__wsX30
set_option maxRecDepth 100000 in
set_option maxHeartbeats 4000000 in
theorem ctX3_takeRule (l : Launch) (g : GG) (M : MM) (v1 : Int32) (Q : MM → Prop) (hF : full g) (hw : wX3_takeRule Q M v1) : MV g l yX3_takeRule wsX3_takeRule (rmOf 3 63) [.ref (gA g 37), .int v1] M Q := by
  refine mk_MV (cc := cX3_takeRule) (maxL := 2) (by decide) rfl (Nat.le_of_ble_eq_true rfl) ?_
  intro z Qf hC hR
  show XX z g Qf 2 0 [(0, .ref (gA g 37)), (1, .int v1)] [] M
  refine q_aload_n hC dX3_takeRule_0 0 rfl 1 rfl ?_
  refine q_getI (C := RX3) (T := TX3) (N := 10) (ci := 3) hC inX3_takeRule_X3 (obF37 hF) rfl 7 (by decide) (uX3_takeRule__o _ (List.mem_of_getElem? (l := owX3_takeRule) (i := 1) rfl)) rfl (fun _ => rfl) dX3_takeRule_1 4 rfl ?_
  refine q_iload_n hC dX3_takeRule_4 1 rfl 5 rfl ?_
  refine q_ishr hC dX3_takeRule_5 6 rfl ?_
  refine q_iconst (v := 1) hC dX3_takeRule_6 rfl 7 rfl ?_
  refine q_iand hC dX3_takeRule_7 8 rfl ?_
  refine q_iconst (v := 1) hC dX3_takeRule_8 rfl 9 rfl ?_
  refine q_icmp_ne hC 22 dX3_takeRule_9 (by decide) 12 rfl hw (fun hw => ?_) (fun hw => ?_)
  · refine q_aload_n hC dX3_takeRule_22 0 rfl 23 rfl ?_
    refine q_dup hC dX3_takeRule_23 rfl 24 rfl ?_
    refine q_getI (C := RX3) (T := TX3) (N := 10) (ci := 3) hC inX3_takeRule_X3 (obF37 hF) rfl 7 (by decide) (uX3_takeRule__o _ (List.mem_of_getElem? (l := owX3_takeRule) (i := 1) rfl)) rfl (fun _ => rfl) dX3_takeRule_24 27 rfl ?_
    refine q_iconst (v := 1) hC dX3_takeRule_27 rfl 28 rfl ?_
    refine q_iload_n hC dX3_takeRule_28 1 rfl 29 rfl ?_
    refine q_ishl hC dX3_takeRule_29 30 rfl ?_
    refine q_ior hC dX3_takeRule_30 31 rfl ?_
    refine q_putI (C := RX3) (T := TX3) (N := 10) (ci := 3) hC inX3_takeRule_X3 tyX3 tyX3_ok nmX3 (obF37 hF) rfl 7 (by decide) (uX3_takeRule__o _ (List.mem_of_getElem? (l := owX3_takeRule) (i := 1) rfl)) rfl rfl rfl (fun _ => Nat.le_of_ble_eq_true rfl) (fun _ => rfl) dX3_takeRule_31 34 rfl (fun M1 eM1 => ?_)
    have hw := hw M1 eM1
    refine q_aload_n hC dX3_takeRule_34 0 rfl 35 rfl ?_
    refine r_callV hC (go_V (q := (RX3, TX3, 10)) (As := []) (rest := []) hC (ctX3_readToken (zl z) g M1 _ hF hw) 0 gX3_takeRule_X3_readToken rfl ⟨rfl, rfl⟩ hdV_X3_readToken ⟨Nat.le_of_ble_eq_true rfl, Nat.le_of_ble_eq_true rfl⟩ (obF37 hF) rfl rfl rfl (Nat.le_of_ble_eq_true rfl) dX3_takeRule_35) 38 rfl (fun M2 hw => ?_)
    refine q_aload_n hC dX3_takeRule_38 0 rfl 39 rfl ?_
    refine q_getsN hC 0 (by decide) 1 rfl dX3_takeRule_39 42 rfl ?_
    refine q_iload_n hC dX3_takeRule_42 1 rfl 43 rfl ?_
    refine r_callI hC (go_N (As := [.ref (gS g 0), .int v1]) (rest := [.ref (gA g 37)]) hC (ctX4_cell_s (zl z) g M2 0 v1 _ (by decide) hw) 2 gX3_takeRule_X4_cell_n144 rfl ⟨rfl, rfl⟩ 11 rfl (uX3_takeRule__X3_isNumberWithin _ (List.mem_of_getElem? (l := owX3_isNumberWithin) (i := 9) rfl)) (uX3_takeRule__o _ (List.mem_of_getElem? (l := owX3_takeRule) (i := 7) rfl)) hdT_X4_cell ⟨Nat.le_of_ble_eq_true rfl, Nat.le_of_ble_eq_true rfl⟩ rfl rfl (Nat.le_of_ble_eq_true rfl) dX3_takeRule_43) 46 rfl (fun r3 M4 hw => ?_)
    refine q_getsN hC 1 (by decide) 2 rfl dX3_takeRule_46 49 rfl ?_
    refine q_iload_n hC dX3_takeRule_49 1 rfl 50 rfl ?_
    refine r_callI hC (go_N (As := [.ref (gS g 1), .int v1]) (rest := [.int r3, .ref (gA g 37)]) hC (ctX4_cell_s (zl z) g M4 1 v1 _ (by decide) hw) 2 gX3_takeRule_X4_cell_n144 rfl ⟨rfl, rfl⟩ 11 rfl (uX3_takeRule__X3_isNumberWithin _ (List.mem_of_getElem? (l := owX3_isNumberWithin) (i := 9) rfl)) (uX3_takeRule__o _ (List.mem_of_getElem? (l := owX3_takeRule) (i := 7) rfl)) hdT_X4_cell ⟨Nat.le_of_ble_eq_true rfl, Nat.le_of_ble_eq_true rfl⟩ rfl rfl (Nat.le_of_ble_eq_true rfl) dX3_takeRule_50) 53 rfl (fun r5 M6 hw => ?_)
    refine r_callI hC (go_V (q := (RX3, TX3, 10)) (As := [.int r3, .int r5]) (rest := []) hC (ctX3_isNumberWithin (zl z) g M6 r3 r5 _ hF hw) 2 gX3_takeRule_X3_isNumberWithin rfl ⟨rfl, rfl⟩ hdV_X3_isNumberWithin ⟨Nat.le_of_ble_eq_true rfl, Nat.le_of_ble_eq_true rfl⟩ (obF37 hF) rfl rfl rfl (Nat.le_of_ble_eq_true rfl) dX3_takeRule_53) 56 rfl (fun r7 M8 hw => ?_)
    refine q_if_ne hC 60 dX3_takeRule_56 (by decide) 59 rfl hw (fun hw => ?_) (fun hw => ?_)
    · refine q_aload_n hC dX3_takeRule_60 0 rfl 61 rfl ?_
      refine q_getR (C := RX3) (T := TX3) (N := 10) (ci := 3) hC inX3_takeRule_X3 (obF37 hF) rfl 1 (by decide) (uX3_takeRule__o _ (List.mem_of_getElem? (l := owX3_takeRule) (i := 2) rfl)) rfl 28 (fun _ => rfl) dX3_takeRule_61 64 rfl ?_
      refine q_getR (C := RX2) (T := TX2) (N := 14) (ci := 2) hC inX3_takeRule_X2 (hF.tp (b := 28) (Or.inr (Or.inr (Or.inr rfl)))).ob rfl 0 (by decide) (uX3_takeRule__o _ (List.mem_of_getElem? (l := owX3_takeRule) (i := 3) rfl)) rfl 29 (fun _ => rfl) dX3_takeRule_64 67 rfl ?_
      refine q_iload_n hC dX3_takeRule_67 1 rfl 68 rfl ?_
      refine q_aload_n hC dX3_takeRule_68 0 rfl 69 rfl ?_
      refine q_getI (C := RX3) (T := TX3) (N := 10) (ci := 3) hC inX3_takeRule_X3 (obF37 hF) rfl 6 (by decide) (uX3_takeRule__X3_readNumber _ (List.mem_of_getElem? (l := owX3_readNumber) (i := 4) rfl)) rfl (fun _ => rfl) dX3_takeRule_69 72 rfl ?_
      refine r_callV hC (go_N (As := [.ref (gA g 29), .int v1, .int (M8 37 6)]) (rest := []) hC (ctX4_setCell (zl z) g M8 29 v1 (M8 37 6) _ (arF29 hF) hw) 3 gX3_takeRule_X4_setCell_n158 rfl ⟨rfl, rfl⟩ 12 rfl (uX3_takeRule__X3_isNumberWithin _ (List.mem_of_getElem? (l := owX3_isNumberWithin) (i := 9) rfl)) (uX3_takeRule__o _ (List.mem_of_getElem? (l := owX3_takeRule) (i := 11) rfl)) hdT_X4_setCell ⟨Nat.le_of_ble_eq_true rfl, Nat.le_of_ble_eq_true rfl⟩ rfl rfl (Nat.le_of_ble_eq_true rfl) dX3_takeRule_72) 75 rfl (fun M9 hw => ?_)
      refine q_aload_n hC dX3_takeRule_75 0 rfl 76 rfl ?_
      refine r_callV hC (go_V (q := (RX3, TX3, 10)) (As := []) (rest := []) hC (ctX3_readToken (zl z) g M9 _ hF hw) 0 gX3_takeRule_X3_readToken rfl ⟨rfl, rfl⟩ hdV_X3_readToken ⟨Nat.le_of_ble_eq_true rfl, Nat.le_of_ble_eq_true rfl⟩ (obF37 hF) rfl rfl rfl (Nat.le_of_ble_eq_true rfl) dX3_takeRule_76) 79 rfl (fun M10 hw => ?_)
      exact r_vret hR dX3_takeRule_79 hw
    · exact r_vret hR dX3_takeRule_59 hw
  · refine q_aload_n hC dX3_takeRule_12 0 rfl 13 rfl ?_
    refine q_iconst (v := 4) hC dX3_takeRule_13 rfl 14 rfl ?_
    refine q_aload_n hC dX3_takeRule_14 0 rfl 15 rfl ?_
    refine q_getI (C := RX3) (T := TX3) (N := 10) (ci := 3) hC inX3_takeRule_X3 (obF37 hF) rfl 5 (by decide) (uX3_takeRule__X3_readNumber _ (List.mem_of_getElem? (l := owX3_readNumber) (i := 2) rfl)) rfl (fun _ => rfl) dX3_takeRule_15 18 rfl ?_
    refine r_callV hC (go_V (q := (RX3, TX3, 10)) (As := [.int 4, .int (M 37 5)]) (rest := []) hC (ctX3_refuse (zl z) g M 4 (M 37 5) _ hF hw) 2 gX3_takeRule_X3_refuse rfl ⟨rfl, rfl⟩ hdV_X3_refuse ⟨Nat.le_of_ble_eq_true rfl, Nat.le_of_ble_eq_true rfl⟩ (obF37 hF) rfl rfl rfl (Nat.le_of_ble_eq_true rfl) dX3_takeRule_18) 21 rfl (fun M11 hw => ?_)
    exact r_vret hR dX3_takeRule_21 hw
theorem inX3_hasRoomForBlock_X2 : ∀ w ∈ u_ws RX2 TX2 14, w ∈ wsX3_hasRoomForBlock := uX3_hasRoomForBlock__wsX20
theorem inX3_hasRoomForBlock_X3 : ∀ w ∈ u_ws RX3 TX3 10, w ∈ wsX3_hasRoomForBlock := uX3_hasRoomForBlock__wsX30
set_option maxRecDepth 100000 in
set_option maxHeartbeats 4000000 in
theorem ctX3_hasRoomForBlock (l : Launch) (g : GG) (M : MM)  (Q : Int32 → MM → Prop) (hF : full g) (hw : wX3_hasRoomForBlock Q M ) : MI g l yX3_hasRoomForBlock wsX3_hasRoomForBlock (rmOf 1 22) [.ref (gA g 37)] M Q := by
  refine mk_MZ (cc := cX3_hasRoomForBlock) (maxL := 1) (by decide) rfl (Nat.le_of_ble_eq_true rfl) ?_
  intro z Qf hC hR
  show XX z g Qf 1 0 [(0, .ref (gA g 37))] [] M
  refine q_aload_n hC dX3_hasRoomForBlock_0 0 rfl 1 rfl ?_
  refine q_getR (C := RX3) (T := TX3) (N := 10) (ci := 3) hC inX3_hasRoomForBlock_X3 (obF37 hF) rfl 1 (by decide) (uX3_hasRoomForBlock__o _ (List.mem_of_getElem? (l := owX3_hasRoomForBlock) (i := 1) rfl)) rfl 28 (fun _ => rfl) dX3_hasRoomForBlock_1 4 rfl ?_
  refine q_getI (C := RX2) (T := TX2) (N := 14) (ci := 2) hC inX3_hasRoomForBlock_X2 (hF.tp (b := 28) (Or.inr (Or.inr (Or.inr rfl)))).ob rfl 8 (by decide) (uX3_hasRoomForBlock__o _ (List.mem_of_getElem? (l := owX3_hasRoomForBlock) (i := 2) rfl)) rfl (fun _ => rfl) dX3_hasRoomForBlock_4 7 rfl ?_
  refine q_bipush (v := 12) hC dX3_hasRoomForBlock_7 (by decide) 9 rfl ?_
  refine q_icmp_ge hC 14 dX3_hasRoomForBlock_9 (by decide) 12 rfl hw (fun hw => ?_) (fun hw => ?_)
  · refine q_aload_n hC dX3_hasRoomForBlock_14 0 rfl 15 rfl ?_
    refine q_iconst (v := 5) hC dX3_hasRoomForBlock_15 rfl 16 rfl ?_
    refine q_aload_n hC dX3_hasRoomForBlock_16 0 rfl 17 rfl ?_
    refine q_getI (C := RX3) (T := TX3) (N := 10) (ci := 3) hC inX3_hasRoomForBlock_X3 (obF37 hF) rfl 5 (by decide) (uX3_hasRoomForBlock__o _ (List.mem_of_getElem? (l := owX3_hasRoomForBlock) (i := 3) rfl)) rfl (fun _ => rfl) dX3_hasRoomForBlock_17 20 rfl ?_
    refine r_callV hC (go_V (q := (RX3, TX3, 10)) (As := [.int 5, .int (M 37 5)]) (rest := []) hC (ctX3_refuse (zl z) g M 5 (M 37 5) _ hF hw) 2 gX3_hasRoomForBlock_X3_refuse rfl ⟨rfl, rfl⟩ hdV_X3_refuse ⟨Nat.le_of_ble_eq_true rfl, Nat.le_of_ble_eq_true rfl⟩ (obF37 hF) rfl rfl rfl (Nat.le_of_ble_eq_true rfl) dX3_hasRoomForBlock_20) 23 rfl (fun M1 hw => ?_)
    refine q_iconst (v := 0) hC dX3_hasRoomForBlock_23 rfl 24 rfl ?_
    exact r_iret hR dX3_hasRoomForBlock_24 ⟨nb_0, hw⟩
  · refine q_iconst (v := 1) hC dX3_hasRoomForBlock_12 rfl 13 rfl ?_
    exact r_iret hR dX3_hasRoomForBlock_13 ⟨nb_1, hw⟩
theorem hdV_X3_hasRoomForBlock : yX3_hasRoomForBlock.cls = RX3 ∧ yX3_hasRoomForBlock.cls ≠ "java/lang/invoke/MethodHandle" ∧ yX3_hasRoomForBlock.cls ≠ "java/lang/invoke/VarHandle" ∧ (parseMethodDescriptor yX3_hasRoomForBlock.desc).map (fun d => d.parameters.length) = some 0 := by decide +kernel
theorem hdV_X2_typeOne : yX2_typeOne.cls = RX2 ∧ yX2_typeOne.cls ≠ "java/lang/invoke/MethodHandle" ∧ yX2_typeOne.cls ≠ "java/lang/invoke/VarHandle" ∧ (parseMethodDescriptor yX2_typeOne.desc).map (fun d => d.parameters.length) = some 1 := by decide +kernel
theorem inX3_takeBlock_X2 : ∀ w ∈ u_ws RX2 TX2 14, w ∈ wsX3_takeBlock := uX3_takeBlock__wsX20
theorem inX3_takeBlock_X3 : ∀ w ∈ u_ws RX3 TX3 10, w ∈ wsX3_takeBlock := uX3_takeBlock__wsX30
set_option maxRecDepth 100000 in
set_option maxHeartbeats 4000000 in
theorem ctX3_takeBlock (l : Launch) (g : GG) (M : MM)  (Q : MM → Prop) (hF : full g) (hw : wX3_takeBlock Q M ) : MV g l yX3_takeBlock wsX3_takeBlock (rmOf 3 72) [.ref (gA g 37)] M Q := by
  refine mk_MV (cc := cX3_takeBlock) (maxL := 2) (by decide) rfl (Nat.le_of_ble_eq_true rfl) ?_
  intro z Qf hC hR
  show XX z g Qf 2 0 [(0, .ref (gA g 37))] [] M
  have B92 : ∀ (M : MM), wX3_takeBlock_92 Q M → XX z g Qf 2 92 [(0, .ref (gA g 37))] [] M := by
    intro M hw
    refine q_aload_n hC dX3_takeBlock_92 0 rfl 93 rfl ?_
    refine q_getR (C := RX3) (T := TX3) (N := 10) (ci := 3) hC inX3_takeBlock_X3 (obF37 hF) rfl 1 (by decide) (uX3_takeBlock__X3_hasRoomForBlock _ (List.mem_of_getElem? (l := owX3_hasRoomForBlock) (i := 1) rfl)) rfl 28 (fun _ => rfl) dX3_takeBlock_93 96 rfl ?_
    refine q_aload_n hC dX3_takeBlock_96 0 rfl 97 rfl ?_
    refine q_getR (C := RX3) (T := TX3) (N := 10) (ci := 3) hC inX3_takeBlock_X3 (obF37 hF) rfl 1 (by decide) (uX3_takeBlock__X3_hasRoomForBlock _ (List.mem_of_getElem? (l := owX3_hasRoomForBlock) (i := 1) rfl)) rfl 28 (fun _ => rfl) dX3_takeBlock_97 100 rfl ?_
    refine q_getI (C := RX2) (T := TX2) (N := 14) (ci := 2) hC inX3_takeBlock_X2 (hF.tp (b := 28) (Or.inr (Or.inr (Or.inr rfl)))).ob rfl 8 (by decide) (uX3_takeBlock__X3_hasRoomForBlock _ (List.mem_of_getElem? (l := owX3_hasRoomForBlock) (i := 2) rfl)) rfl (fun _ => rfl) dX3_takeBlock_100 103 rfl ?_
    refine q_iconst (v := 0) hC dX3_takeBlock_103 rfl 104 rfl ?_
    refine q_aload_n hC dX3_takeBlock_104 0 rfl 105 rfl ?_
    refine q_getR (C := RX3) (T := TX3) (N := 10) (ci := 3) hC inX3_takeBlock_X3 (obF37 hF) rfl 1 (by decide) (uX3_takeBlock__X3_hasRoomForBlock _ (List.mem_of_getElem? (l := owX3_hasRoomForBlock) (i := 1) rfl)) rfl 28 (fun _ => rfl) dX3_takeBlock_105 108 rfl ?_
    refine q_getI (C := RX2) (T := TX2) (N := 14) (ci := 2) hC inX3_takeBlock_X2 (hF.tp (b := 28) (Or.inr (Or.inr (Or.inr rfl)))).ob rfl 11 (by decide) (uX3_takeBlock__o _ (List.mem_of_getElem? (l := owX3_takeBlock) (i := 1) rfl)) rfl (fun _ => rfl) dX3_takeBlock_108 111 rfl ?_
    refine r_callV hC (go_V (q := (RX2, TX2, 14)) (As := [.int (M 28 8), .int 0, .int (M 28 11)]) (rest := []) hC (ctX2_putBlock (zl z) g M 28 (M 28 8) 0 (M 28 11) _ (hF.tp (b := 28) (Or.inr (Or.inr (Or.inr rfl)))) hw) 3 gX3_takeBlock_X2_putBlock rfl ⟨rfl, rfl⟩ hdV_X2_putBlock ⟨Nat.le_of_ble_eq_true rfl, Nat.le_of_ble_eq_true rfl⟩ (hF.tp (b := 28) (Or.inr (Or.inr (Or.inr rfl)))).ob rfl rfl rfl (Nat.le_of_ble_eq_true rfl) dX3_takeBlock_111) 114 rfl (fun M10 hw => ?_)
    exact r_vret hR dX3_takeBlock_114 hw
  have B82 : ∀ (K22 : MM → Int32 → Prop) (hK22 : ∀ (M : MM) (v1 : Int32) , K22 M v1 → XX z g Qf 2 22 [(0, .ref (gA g 37)), (1, .int v1)] [] M) (M : MM) (v1 : Int32), wX3_takeBlock_82 Q K22 M v1 → XX z g Qf 2 82 [(0, .ref (gA g 37)), (1, .int v1)] [] M := by
    intro K22 hK22 M v1 hw
    refine q_aload_n hC dX3_takeBlock_82 0 rfl 83 rfl ?_
    refine r_callV hC (go_V (q := (RX3, TX3, 10)) (As := []) (rest := []) hC (ctX3_readToken (zl z) g M _ hF hw) 0 gX3_takeBlock_X3_readToken rfl ⟨rfl, rfl⟩ hdV_X3_readToken ⟨Nat.le_of_ble_eq_true rfl, Nat.le_of_ble_eq_true rfl⟩ (obF37 hF) rfl rfl rfl (Nat.le_of_ble_eq_true rfl) dX3_takeBlock_83) 86 rfl (fun M11 hw => ?_)
    refine q_iinc (v := v1 + 1) (L' := [(1, .int (v1 + 1)), (0, .ref (gA g 37))]) hC dX3_takeBlock_86 1 rfl rfl (by decide) rfl 89 rfl ?_
    refine q_goto hC 22 dX3_takeBlock_89 (by decide) ?_
    exact XX.sub [1, 0] rfl (hK22 M11 (v1 + 1) hw)
  have B40 : ∀ (K22 : MM → Int32 → Prop) (hK22 : ∀ (M : MM) (v1 : Int32) , K22 M v1 → XX z g Qf 2 22 [(0, .ref (gA g 37)), (1, .int v1)] [] M) (M : MM) (v1 : Int32), wX3_takeBlock_40 Q K22 M v1 → XX z g Qf 2 40 [(0, .ref (gA g 37)), (1, .int v1)] [] M := by
    intro K22 hK22 M v1 hw
    refine q_aload_n hC dX3_takeBlock_40 0 rfl 41 rfl ?_
    refine q_iconst (v := 0) hC dX3_takeBlock_41 rfl 42 rfl ?_
    refine q_sipush (v := 255) hC dX3_takeBlock_42 (by decide) 45 rfl ?_
    refine r_callI hC (go_V (q := (RX3, TX3, 10)) (As := [.int 0, .int 255]) (rest := []) hC (ctX3_isNumberWithin (zl z) g M 0 255 _ hF hw) 2 gX3_takeBlock_X3_isNumberWithin rfl ⟨rfl, rfl⟩ hdV_X3_isNumberWithin ⟨Nat.le_of_ble_eq_true rfl, Nat.le_of_ble_eq_true rfl⟩ (obF37 hF) rfl rfl rfl (Nat.le_of_ble_eq_true rfl) dX3_takeBlock_45) 48 rfl (fun r5 M6 hw => ?_)
    refine q_if_ne hC 52 dX3_takeBlock_48 (by decide) 51 rfl hw (fun hw => ?_) (fun hw => ?_)
    · refine q_iload_n hC dX3_takeBlock_52 1 rfl 53 rfl ?_
      refine q_bipush (v := 12) hC dX3_takeBlock_53 (by decide) 55 rfl ?_
      refine q_icmp_ne hC 70 dX3_takeBlock_55 (by decide) 58 rfl hw (fun hw => ?_) (fun hw => ?_)
      · refine q_aload_n hC dX3_takeBlock_70 0 rfl 71 rfl ?_
        refine q_getR (C := RX3) (T := TX3) (N := 10) (ci := 3) hC inX3_takeBlock_X3 (obF37 hF) rfl 1 (by decide) (uX3_takeBlock__X3_hasRoomForBlock _ (List.mem_of_getElem? (l := owX3_hasRoomForBlock) (i := 1) rfl)) rfl 28 (fun _ => rfl) dX3_takeBlock_71 74 rfl ?_
        refine q_aload_n hC dX3_takeBlock_74 0 rfl 75 rfl ?_
        refine q_getI (C := RX3) (T := TX3) (N := 10) (ci := 3) hC inX3_takeBlock_X3 (obF37 hF) rfl 6 (by decide) (uX3_takeBlock__X3_readNumber _ (List.mem_of_getElem? (l := owX3_readNumber) (i := 4) rfl)) rfl (fun _ => rfl) dX3_takeBlock_75 78 rfl ?_
        refine r_callI hC (go_V (q := (RX2, TX2, 14)) (As := [.int (M6 37 6)]) (rest := []) hC (ctX2_typeOne (zl z) g M6 28 (M6 37 6) _ (hF.tp (b := 28) (Or.inr (Or.inr (Or.inr rfl)))) hw) 1 gX3_takeBlock_X2_typeOne rfl ⟨rfl, rfl⟩ hdV_X2_typeOne ⟨Nat.le_of_ble_eq_true rfl, Nat.le_of_ble_eq_true rfl⟩ (hF.tp (b := 28) (Or.inr (Or.inr (Or.inr rfl)))).ob rfl rfl rfl (Nat.le_of_ble_eq_true rfl) dX3_takeBlock_78) 81 rfl (fun r7 M8 hw => ?_)
        refine q_pop hC dX3_takeBlock_81 rfl 82 rfl ?_
        exact XX.sub [0, 1] rfl (B82 _ hK22 M8 v1 hw)
      · refine q_aload_n hC dX3_takeBlock_58 0 rfl 59 rfl ?_
        refine q_iconst (v := 5) hC dX3_takeBlock_59 rfl 60 rfl ?_
        refine q_aload_n hC dX3_takeBlock_60 0 rfl 61 rfl ?_
        refine q_getI (C := RX3) (T := TX3) (N := 10) (ci := 3) hC inX3_takeBlock_X3 (obF37 hF) rfl 5 (by decide) (uX3_takeBlock__X3_hasRoomForBlock _ (List.mem_of_getElem? (l := owX3_hasRoomForBlock) (i := 3) rfl)) rfl (fun _ => rfl) dX3_takeBlock_61 64 rfl ?_
        refine r_callV hC (go_V (q := (RX3, TX3, 10)) (As := [.int 5, .int (M6 37 5)]) (rest := []) hC (ctX3_refuse (zl z) g M6 5 (M6 37 5) _ hF hw) 2 gX3_takeBlock_X3_refuse rfl ⟨rfl, rfl⟩ hdV_X3_refuse ⟨Nat.le_of_ble_eq_true rfl, Nat.le_of_ble_eq_true rfl⟩ (obF37 hF) rfl rfl rfl (Nat.le_of_ble_eq_true rfl) dX3_takeBlock_64) 67 rfl (fun M9 hw => ?_)
        refine q_goto hC 82 dX3_takeBlock_67 (by decide) ?_
        exact XX.sub [0, 1] rfl (B82 _ hK22 M9 v1 hw)
    · exact r_vret hR dX3_takeBlock_51 hw
  have B22 : ∀ (n : Nat) (M : MM) (v1 : Int32) , wX3_takeBlock_22 Q n M v1 → XX z g Qf 2 22 [(0, .ref (gA g 37)), (1, .int v1)] [] M := by
    intro n
    induction n with
    | zero =>
      intro M v1 hw
      exact hw.elim
    | succ n ih =>
      intro M v1 hw
      refine q_iload_n hC dX3_takeBlock_22 1 rfl 23 rfl ?_
      refine q_bipush (v := 12) hC dX3_takeBlock_23 (by decide) 25 rfl ?_
      refine q_icmp_gt hC 92 dX3_takeBlock_25 (by decide) 28 rfl hw (fun hw => ?_) (fun hw => ?_)
      · exact XX.sub [0] rfl (B92 M hw)
      · refine q_iload_n hC dX3_takeBlock_28 1 rfl 29 rfl ?_
        refine q_if_eq hC 40 dX3_takeBlock_29 (by decide) 32 rfl hw (fun hw => ?_) (fun hw => ?_)
        · exact XX.sub [0, 1] rfl (B40 _ (fun M v1 hw => ih M v1 hw) M v1 hw)
        · refine q_aload_n hC dX3_takeBlock_32 0 rfl 33 rfl ?_
          refine q_getI (C := RX3) (T := TX3) (N := 10) (ci := 3) hC inX3_takeBlock_X3 (obF37 hF) rfl 4 (by decide) (uX3_takeBlock__X3_readNumber _ (List.mem_of_getElem? (l := owX3_readNumber) (i := 3) rfl)) rfl (fun _ => rfl) dX3_takeBlock_33 36 rfl ?_
          refine q_iconst (v := 2) hC dX3_takeBlock_36 rfl 37 rfl ?_
          refine q_icmp_ne hC 92 dX3_takeBlock_37 (by decide) 40 rfl hw (fun hw => ?_) (fun hw => ?_)
          · exact XX.sub [0] rfl (B92 M hw)
          · exact XX.sub [0, 1] rfl (B40 _ (fun M v1 hw => ih M v1 hw) M v1 hw)
  refine q_aload_n hC dX3_takeBlock_0 0 rfl 1 rfl ?_
  refine r_callI hC (go_V (q := (RX3, TX3, 10)) (As := []) (rest := []) hC (ctX3_hasRoomForBlock (zl z) g M _ hF hw) 0 gX3_takeBlock_X3_hasRoomForBlock rfl ⟨rfl, rfl⟩ hdV_X3_hasRoomForBlock ⟨Nat.le_of_ble_eq_true rfl, Nat.le_of_ble_eq_true rfl⟩ (obF37 hF) rfl rfl rfl (Nat.le_of_ble_eq_true rfl) dX3_takeBlock_1) 4 rfl (fun r1 M2 hw => ?_)
  refine q_if_ne hC 8 dX3_takeBlock_4 (by decide) 7 rfl hw (fun hw => ?_) (fun hw => ?_)
  · refine q_aload_n hC dX3_takeBlock_8 0 rfl 9 rfl ?_
    refine q_getR (C := RX3) (T := TX3) (N := 10) (ci := 3) hC inX3_takeBlock_X3 (obF37 hF) rfl 1 (by decide) (uX3_takeBlock__X3_hasRoomForBlock _ (List.mem_of_getElem? (l := owX3_hasRoomForBlock) (i := 1) rfl)) rfl 28 (fun _ => rfl) dX3_takeBlock_9 12 rfl ?_
    refine q_iconst (v := 0) hC dX3_takeBlock_12 rfl 13 rfl ?_
    refine q_putI (C := RX2) (T := TX2) (N := 14) (ci := 2) hC inX3_takeBlock_X2 tyX2 tyX2_ok nmX2 (hF.tp (b := 28) (Or.inr (Or.inr (Or.inr rfl)))).ob rfl 11 (by decide) (uX3_takeBlock__o _ (List.mem_of_getElem? (l := owX3_takeBlock) (i := 1) rfl)) rfl rfl rfl (fun _ => Nat.le_of_ble_eq_true rfl) (fun _ => rfl) dX3_takeBlock_13 16 rfl (fun M3 eM3 => ?_)
    have hw := hw M3 eM3
    refine q_aload_n hC dX3_takeBlock_16 0 rfl 17 rfl ?_
    refine r_callV hC (go_V (q := (RX3, TX3, 10)) (As := []) (rest := []) hC (ctX3_readToken (zl z) g M3 _ hF hw) 0 gX3_takeBlock_X3_readToken rfl ⟨rfl, rfl⟩ hdV_X3_readToken ⟨Nat.le_of_ble_eq_true rfl, Nat.le_of_ble_eq_true rfl⟩ (obF37 hF) rfl rfl rfl (Nat.le_of_ble_eq_true rfl) dX3_takeBlock_17) 20 rfl (fun M4 hw => ?_)
    refine q_iconst (v := 0) hC dX3_takeBlock_20 rfl 21 rfl ?_
    refine q_istore_n (L' := [(1, .int 0), (0, .ref (gA g 37))]) hC dX3_takeBlock_21 (by decide) rfl 22 rfl ?_
    obtain ⟨n0, hw⟩ := hw
    exact XX.sub [1, 0] rfl (B22 n0 M4 0 hw)
  · exact r_vret hR dX3_takeBlock_7 hw
theorem inX3_takeMark_X2 : ∀ w ∈ u_ws RX2 TX2 14, w ∈ wsX3_takeMark := uX3_takeMark__wsX20
theorem inX3_takeMark_X3 : ∀ w ∈ u_ws RX3 TX3 10, w ∈ wsX3_takeMark := uX3_takeMark__wsX30
set_option maxRecDepth 100000 in
set_option maxHeartbeats 4000000 in
theorem ctX3_takeMark (l : Launch) (g : GG) (M : MM)  (Q : MM → Prop) (hF : full g) (hw : wX3_takeMark Q M ) : MV g l yX3_takeMark wsX3_takeMark (rmOf 3 72) [.ref (gA g 37)] M Q := by
  refine mk_MV (cc := cX3_takeMark) (maxL := 1) (by decide) rfl (Nat.le_of_ble_eq_true rfl) ?_
  intro z Qf hC hR
  show XX z g Qf 1 0 [(0, .ref (gA g 37))] [] M
  refine q_aload_n hC dX3_takeMark_0 0 rfl 1 rfl ?_
  refine r_callI hC (go_V (q := (RX3, TX3, 10)) (As := []) (rest := []) hC (ctX3_hasRoomForBlock (zl z) g M _ hF hw) 0 gX3_takeMark_X3_hasRoomForBlock rfl ⟨rfl, rfl⟩ hdV_X3_hasRoomForBlock ⟨Nat.le_of_ble_eq_true rfl, Nat.le_of_ble_eq_true rfl⟩ (obF37 hF) rfl rfl rfl (Nat.le_of_ble_eq_true rfl) dX3_takeMark_1) 4 rfl (fun r1 M2 hw => ?_)
  refine q_if_ne hC 8 dX3_takeMark_4 (by decide) 7 rfl hw (fun hw => ?_) (fun hw => ?_)
  · refine q_aload_n hC dX3_takeMark_8 0 rfl 9 rfl ?_
    refine q_getR (C := RX3) (T := TX3) (N := 10) (ci := 3) hC inX3_takeMark_X3 (obF37 hF) rfl 1 (by decide) (uX3_takeMark__X3_hasRoomForBlock _ (List.mem_of_getElem? (l := owX3_hasRoomForBlock) (i := 1) rfl)) rfl 28 (fun _ => rfl) dX3_takeMark_9 12 rfl ?_
    refine q_aload_n hC dX3_takeMark_12 0 rfl 13 rfl ?_
    refine q_getR (C := RX3) (T := TX3) (N := 10) (ci := 3) hC inX3_takeMark_X3 (obF37 hF) rfl 1 (by decide) (uX3_takeMark__X3_hasRoomForBlock _ (List.mem_of_getElem? (l := owX3_hasRoomForBlock) (i := 1) rfl)) rfl 28 (fun _ => rfl) dX3_takeMark_13 16 rfl ?_
    refine q_getI (C := RX2) (T := TX2) (N := 14) (ci := 2) hC inX3_takeMark_X2 (hF.tp (b := 28) (Or.inr (Or.inr (Or.inr rfl)))).ob rfl 8 (by decide) (uX3_takeMark__X3_hasRoomForBlock _ (List.mem_of_getElem? (l := owX3_hasRoomForBlock) (i := 2) rfl)) rfl (fun _ => rfl) dX3_takeMark_16 19 rfl ?_
    refine q_iconst (v := 0) hC dX3_takeMark_19 rfl 20 rfl ?_
    refine q_iconst (v := 0) hC dX3_takeMark_20 rfl 21 rfl ?_
    refine r_callV hC (go_V (q := (RX2, TX2, 14)) (As := [.int (M2 28 8), .int 0, .int 0]) (rest := []) hC (ctX2_putBlock (zl z) g M2 28 (M2 28 8) 0 0 _ (hF.tp (b := 28) (Or.inr (Or.inr (Or.inr rfl)))) hw) 3 gX3_takeMark_X2_putBlock rfl ⟨rfl, rfl⟩ hdV_X2_putBlock ⟨Nat.le_of_ble_eq_true rfl, Nat.le_of_ble_eq_true rfl⟩ (hF.tp (b := 28) (Or.inr (Or.inr (Or.inr rfl)))).ob rfl rfl rfl (Nat.le_of_ble_eq_true rfl) dX3_takeMark_21) 24 rfl (fun M3 hw => ?_)
    refine q_aload_n hC dX3_takeMark_24 0 rfl 25 rfl ?_
    refine r_callV hC (go_V (q := (RX3, TX3, 10)) (As := []) (rest := []) hC (ctX3_readToken (zl z) g M3 _ hF hw) 0 gX3_takeMark_X3_readToken rfl ⟨rfl, rfl⟩ hdV_X3_readToken ⟨Nat.le_of_ble_eq_true rfl, Nat.le_of_ble_eq_true rfl⟩ (obF37 hF) rfl rfl rfl (Nat.le_of_ble_eq_true rfl) dX3_takeMark_25) 28 rfl (fun M4 hw => ?_)
    exact r_vret hR dX3_takeMark_28 hw
  · exact r_vret hR dX3_takeMark_7 hw
theorem inX3_takeSign_X3 : ∀ w ∈ u_ws RX3 TX3 10, w ∈ wsX3_takeSign := uX3_takeSign__wsX30
set_option maxRecDepth 100000 in
set_option maxHeartbeats 4000000 in
theorem ctX3_takeSign (l : Launch) (g : GG) (M : MM)  (Q : MM → Prop) (hF : full g) (hw : wX3_takeSign Q M ) : MV g l yX3_takeSign wsX3_takeSign (rmOf 3 63) [.ref (gA g 37)] M Q := by
  refine mk_MV (cc := cX3_takeSign) (maxL := 1) (by decide) rfl (Nat.le_of_ble_eq_true rfl) ?_
  intro z Qf hC hR
  show XX z g Qf 1 0 [(0, .ref (gA g 37))] [] M
  refine q_aload_n hC dX3_takeSign_0 0 rfl 1 rfl ?_
  refine q_getI (C := RX3) (T := TX3) (N := 10) (ci := 3) hC inX3_takeSign_X3 (obF37 hF) rfl 4 (by decide) (uX3_takeSign__X3_readNumber _ (List.mem_of_getElem? (l := owX3_readNumber) (i := 3) rfl)) rfl (fun _ => rfl) dX3_takeSign_1 4 rfl ?_
  refine q_iconst (v := 3) hC dX3_takeSign_4 rfl 5 rfl ?_
  refine q_icmp_ne hC 15 dX3_takeSign_5 (by decide) 8 rfl hw (fun hw => ?_) (fun hw => ?_)
  · refine q_aload_n hC dX3_takeSign_15 0 rfl 16 rfl ?_
    refine q_iconst (v := 2) hC dX3_takeSign_16 rfl 17 rfl ?_
    refine q_aload_n hC dX3_takeSign_17 0 rfl 18 rfl ?_
    refine q_getI (C := RX3) (T := TX3) (N := 10) (ci := 3) hC inX3_takeSign_X3 (obF37 hF) rfl 5 (by decide) (uX3_takeSign__X3_readNumber _ (List.mem_of_getElem? (l := owX3_readNumber) (i := 2) rfl)) rfl (fun _ => rfl) dX3_takeSign_18 21 rfl ?_
    refine r_callV hC (go_V (q := (RX3, TX3, 10)) (As := [.int 2, .int (M 37 5)]) (rest := []) hC (ctX3_refuse (zl z) g M 2 (M 37 5) _ hF hw) 2 gX3_takeSign_X3_refuse rfl ⟨rfl, rfl⟩ hdV_X3_refuse ⟨Nat.le_of_ble_eq_true rfl, Nat.le_of_ble_eq_true rfl⟩ (obF37 hF) rfl rfl rfl (Nat.le_of_ble_eq_true rfl) dX3_takeSign_21) 24 rfl (fun M1 hw => ?_)
    exact r_vret hR dX3_takeSign_24 hw
  · refine q_aload_n hC dX3_takeSign_8 0 rfl 9 rfl ?_
    refine r_callV hC (go_V (q := (RX3, TX3, 10)) (As := []) (rest := []) hC (ctX3_readToken (zl z) g M _ hF hw) 0 gX3_takeSign_X3_readToken rfl ⟨rfl, rfl⟩ hdV_X3_readToken ⟨Nat.le_of_ble_eq_true rfl, Nat.le_of_ble_eq_true rfl⟩ (obF37 hF) rfl rfl rfl (Nat.le_of_ble_eq_true rfl) dX3_takeSign_9) 12 rfl (fun M2 hw => ?_)
    refine q_goto hC 24 dX3_takeSign_12 (by decide) ?_
    exact r_vret hR dX3_takeSign_24 hw
theorem hdV_X3_ruleNamed : yX3_ruleNamed.cls = RX3 ∧ yX3_ruleNamed.cls ≠ "java/lang/invoke/MethodHandle" ∧ yX3_ruleNamed.cls ≠ "java/lang/invoke/VarHandle" ∧ (parseMethodDescriptor yX3_ruleNamed.desc).map (fun d => d.parameters.length) = some 0 := by decide +kernel
theorem hdV_X3_takeMark : yX3_takeMark.cls = RX3 ∧ yX3_takeMark.cls ≠ "java/lang/invoke/MethodHandle" ∧ yX3_takeMark.cls ≠ "java/lang/invoke/VarHandle" ∧ (parseMethodDescriptor yX3_takeMark.desc).map (fun d => d.parameters.length) = some 0 := by decide +kernel
theorem hdV_X3_takeBlock : yX3_takeBlock.cls = RX3 ∧ yX3_takeBlock.cls ≠ "java/lang/invoke/MethodHandle" ∧ yX3_takeBlock.cls ≠ "java/lang/invoke/VarHandle" ∧ (parseMethodDescriptor yX3_takeBlock.desc).map (fun d => d.parameters.length) = some 0 := by decide +kernel
theorem hdV_X3_takeRule : yX3_takeRule.cls = RX3 ∧ yX3_takeRule.cls ≠ "java/lang/invoke/MethodHandle" ∧ yX3_takeRule.cls ≠ "java/lang/invoke/VarHandle" ∧ (parseMethodDescriptor yX3_takeRule.desc).map (fun d => d.parameters.length) = some 1 := by decide +kernel
theorem hdV_X3_takeSign : yX3_takeSign.cls = RX3 ∧ yX3_takeSign.cls ≠ "java/lang/invoke/MethodHandle" ∧ yX3_takeSign.cls ≠ "java/lang/invoke/VarHandle" ∧ (parseMethodDescriptor yX3_takeSign.desc).map (fun d => d.parameters.length) = some 0 := by decide +kernel
theorem inX3_takeLine_X3 : ∀ w ∈ u_ws RX3 TX3 10, w ∈ wsX3_takeLine := uX3_takeLine__wsX30
set_option maxRecDepth 100000 in
set_option maxHeartbeats 4000000 in
theorem ctX3_takeLine (l : Launch) (g : GG) (M : MM)  (Q : MM → Prop) (hF : full g) (hw : wX3_takeLine Q M ) : MV g l yX3_takeLine wsX3_takeLine (rmOf 7 193) [.ref (gA g 37)] M Q := by
  refine mk_MV (cc := cX3_takeLine) (maxL := 2) (by decide) rfl (Nat.le_of_ble_eq_true rfl) ?_
  intro z Qf hC hR
  show XX z g Qf 2 0 [(0, .ref (gA g 37))] [] M
  have B60 : ∀ (M : MM), wX3_takeLine_60 Q M → XX z g Qf 2 60 [(0, .ref (gA g 37))] [] M := by
    intro M hw
    refine q_aload_n hC dX3_takeLine_60 0 rfl 61 rfl ?_
    refine q_getI (C := RX3) (T := TX3) (N := 10) (ci := 3) hC inX3_takeLine_X3 (obF37 hF) rfl 8 (by decide) (uX3_takeLine__X3_refuse _ (List.mem_of_getElem? (l := owX3_refuse) (i := 1) rfl)) rfl (fun _ => rfl) dX3_takeLine_61 64 rfl ?_
    refine q_if_ne hC 71 dX3_takeLine_64 (by decide) 67 rfl hw (fun hw => ?_) (fun hw => ?_)
    · exact r_vret hR dX3_takeLine_71 hw
    · refine q_aload_n hC dX3_takeLine_67 0 rfl 68 rfl ?_
      refine r_callV hC (go_V (q := (RX3, TX3, 10)) (As := []) (rest := []) hC (ctX3_takeSign (zl z) g M _ hF hw) 0 gX3_takeLine_X3_takeSign rfl ⟨rfl, rfl⟩ hdV_X3_takeSign ⟨Nat.le_of_ble_eq_true rfl, Nat.le_of_ble_eq_true rfl⟩ (obF37 hF) rfl rfl rfl (Nat.le_of_ble_eq_true rfl) dX3_takeLine_68) 71 rfl (fun M11 hw => ?_)
      exact r_vret hR dX3_takeLine_71 hw
  refine q_aload_n hC dX3_takeLine_0 0 rfl 1 rfl ?_
  refine r_callI hC (go_V (q := (RX3, TX3, 10)) (As := []) (rest := []) hC (ctX3_ruleNamed (zl z) g M _ hF hw) 0 gX3_takeLine_X3_ruleNamed rfl ⟨rfl, rfl⟩ hdV_X3_ruleNamed ⟨Nat.le_of_ble_eq_true rfl, Nat.le_of_ble_eq_true rfl⟩ (obF37 hF) rfl rfl rfl (Nat.le_of_ble_eq_true rfl) dX3_takeLine_1) 4 rfl (fun r1 M2 hw => ?_)
  refine q_istore_n (L' := [(1, .int r1), (0, .ref (gA g 37))]) hC dX3_takeLine_4 (by decide) rfl 5 rfl ?_
  refine q_iload_n hC dX3_takeLine_5 0 rfl 6 rfl ?_
  refine q_bipush (v := (-4)) hC dX3_takeLine_6 (by decide) 8 rfl ?_
  refine q_icmp_eq hC 19 dX3_takeLine_8 (by decide) 11 rfl hw (fun hw => ?_) (fun hw => ?_)
  · refine q_aload_n hC dX3_takeLine_19 1 rfl 20 rfl ?_
    refine q_ldcS hC 9 (by decide) rfl dX3_takeLine_20 22 rfl ?_
    refine r_callI hC (go_V (q := (RX3, TX3, 10)) (As := [.ref (gK g 9)]) (rest := []) hC (ctX3_isNamed (zl z) g M2 9 _ hF (by decide) hw) 1 gX3_takeLine_X3_isNamed rfl ⟨rfl, rfl⟩ hdV_X3_isNamed ⟨Nat.le_of_ble_eq_true rfl, Nat.le_of_ble_eq_true rfl⟩ (obF37 hF) rfl rfl rfl (Nat.le_of_ble_eq_true rfl) dX3_takeLine_22) 25 rfl (fun r3 M4 hw => ?_)
    refine q_if_eq hC 35 dX3_takeLine_25 (by decide) 28 rfl hw (fun hw => ?_) (fun hw => ?_)
    · refine q_aload_n hC dX3_takeLine_35 1 rfl 36 rfl ?_
      refine q_ldcS hC 10 (by decide) rfl dX3_takeLine_36 38 rfl ?_
      refine r_callI hC (go_V (q := (RX3, TX3, 10)) (As := [.ref (gK g 10)]) (rest := []) hC (ctX3_isNamed (zl z) g M4 10 _ hF (by decide) hw) 1 gX3_takeLine_X3_isNamed rfl ⟨rfl, rfl⟩ hdV_X3_isNamed ⟨Nat.le_of_ble_eq_true rfl, Nat.le_of_ble_eq_true rfl⟩ (obF37 hF) rfl rfl rfl (Nat.le_of_ble_eq_true rfl) dX3_takeLine_38) 41 rfl (fun r5 M6 hw => ?_)
      refine q_if_eq hC 51 dX3_takeLine_41 (by decide) 44 rfl hw (fun hw => ?_) (fun hw => ?_)
      · refine q_aload_n hC dX3_takeLine_51 1 rfl 52 rfl ?_
        refine q_iconst (v := 2) hC dX3_takeLine_52 rfl 53 rfl ?_
        refine q_aload_n hC dX3_takeLine_53 1 rfl 54 rfl ?_
        refine q_getI (C := RX3) (T := TX3) (N := 10) (ci := 3) hC inX3_takeLine_X3 (obF37 hF) rfl 5 (by decide) (uX3_takeLine__X3_isNamed _ (List.mem_of_getElem? (l := owX3_isNamed) (i := 3) rfl)) rfl (fun _ => rfl) dX3_takeLine_54 57 rfl ?_
        refine r_callV hC (go_V (q := (RX3, TX3, 10)) (As := [.int 2, .int (M6 37 5)]) (rest := []) hC (ctX3_refuse (zl z) g M6 2 (M6 37 5) _ hF hw) 2 gX3_takeLine_X3_refuse rfl ⟨rfl, rfl⟩ hdV_X3_refuse ⟨Nat.le_of_ble_eq_true rfl, Nat.le_of_ble_eq_true rfl⟩ (obF37 hF) rfl rfl rfl (Nat.le_of_ble_eq_true rfl) dX3_takeLine_57) 60 rfl (fun M7 hw => ?_)
        exact XX.sub [1] rfl (B60 M7 hw)
      · refine q_aload_n hC dX3_takeLine_44 1 rfl 45 rfl ?_
        refine r_callV hC (go_V (q := (RX3, TX3, 10)) (As := []) (rest := []) hC (ctX3_takeMark (zl z) g M6 _ hF hw) 0 gX3_takeLine_X3_takeMark rfl ⟨rfl, rfl⟩ hdV_X3_takeMark ⟨Nat.le_of_ble_eq_true rfl, Nat.le_of_ble_eq_true rfl⟩ (obF37 hF) rfl rfl rfl (Nat.le_of_ble_eq_true rfl) dX3_takeLine_45) 48 rfl (fun M8 hw => ?_)
        refine q_goto hC 60 dX3_takeLine_48 (by decide) ?_
        exact XX.sub [1] rfl (B60 M8 hw)
    · refine q_aload_n hC dX3_takeLine_28 1 rfl 29 rfl ?_
      refine r_callV hC (go_V (q := (RX3, TX3, 10)) (As := []) (rest := []) hC (ctX3_takeBlock (zl z) g M4 _ hF hw) 0 gX3_takeLine_X3_takeBlock rfl ⟨rfl, rfl⟩ hdV_X3_takeBlock ⟨Nat.le_of_ble_eq_true rfl, Nat.le_of_ble_eq_true rfl⟩ (obF37 hF) rfl rfl rfl (Nat.le_of_ble_eq_true rfl) dX3_takeLine_29) 32 rfl (fun M9 hw => ?_)
      refine q_goto hC 60 dX3_takeLine_32 (by decide) ?_
      exact XX.sub [1] rfl (B60 M9 hw)
  · refine q_aload_n hC dX3_takeLine_11 1 rfl 12 rfl ?_
    refine q_iload_n hC dX3_takeLine_12 0 rfl 13 rfl ?_
    refine r_callV hC (go_V (q := (RX3, TX3, 10)) (As := [.int r1]) (rest := []) hC (ctX3_takeRule (zl z) g M2 r1 _ hF hw) 1 gX3_takeLine_X3_takeRule rfl ⟨rfl, rfl⟩ hdV_X3_takeRule ⟨Nat.le_of_ble_eq_true rfl, Nat.le_of_ble_eq_true rfl⟩ (obF37 hF) rfl rfl rfl (Nat.le_of_ble_eq_true rfl) dX3_takeLine_13) 16 rfl (fun M10 hw => ?_)
    refine q_goto hC 60 dX3_takeLine_16 (by decide) ?_
    exact XX.sub [1] rfl (B60 M10 hw)
theorem hdV_X2_reset : yX2_reset.cls = RX2 ∧ yX2_reset.cls ≠ "java/lang/invoke/MethodHandle" ∧ yX2_reset.cls ≠ "java/lang/invoke/VarHandle" ∧ (parseMethodDescriptor yX2_reset.desc).map (fun d => d.parameters.length) = some 0 := by decide +kernel
theorem hdV_X3_takeLine : yX3_takeLine.cls = RX3 ∧ yX3_takeLine.cls ≠ "java/lang/invoke/MethodHandle" ∧ yX3_takeLine.cls ≠ "java/lang/invoke/VarHandle" ∧ (parseMethodDescriptor yX3_takeLine.desc).map (fun d => d.parameters.length) = some 0 := by decide +kernel
theorem hdV_X2_layOutBlocks : yX2_layOutBlocks.cls = RX2 ∧ yX2_layOutBlocks.cls ≠ "java/lang/invoke/MethodHandle" ∧ yX2_layOutBlocks.cls ≠ "java/lang/invoke/VarHandle" ∧ (parseMethodDescriptor yX2_layOutBlocks.desc).map (fun d => d.parameters.length) = some 0 := by decide +kernel
theorem inX3_takeAll_X2 : ∀ w ∈ u_ws RX2 TX2 14, w ∈ wsX3_takeAll := uX3_takeAll__wsX20
theorem inX3_takeAll_X3 : ∀ w ∈ u_ws RX3 TX3 10, w ∈ wsX3_takeAll := uX3_takeAll__wsX30
set_option maxRecDepth 100000 in
set_option maxHeartbeats 4000000 in
theorem ctX3_takeAll (l : Launch) (g : GG) (M : MM)  (Q : Int32 → MM → Prop) (hF : full g) (hw : wX3_takeAll Q M ) : MI g l yX3_takeAll wsX3_takeAll (rmOf 8 214) [.ref (gA g 37)] M Q := by
  refine mk_MI (cc := cX3_takeAll) (maxL := 2) (by decide) rfl (Nat.le_of_ble_eq_true rfl) ?_
  intro z Qf hC hR
  show XX z g Qf 2 0 [(0, .ref (gA g 37))] [] M
  have B64 : ∀ (M : MM) (v1 : Int32), wX3_takeAll_64 Q M v1 → XX z g Qf 2 64 [(0, .ref (gA g 37)), (1, .int v1)] [] M := by
    intro M v1 hw
    refine q_aload_n hC dX3_takeAll_64 0 rfl 65 rfl ?_
    refine q_getR (C := RX3) (T := TX3) (N := 10) (ci := 3) hC inX3_takeAll_X3 (obF37 hF) rfl 1 (by decide) (uX3_takeAll__X3_takeRule _ (List.mem_of_getElem? (l := owX3_takeRule) (i := 2) rfl)) rfl 28 (fun _ => rfl) dX3_takeAll_65 68 rfl ?_
    refine r_callV hC (go_V (q := (RX2, TX2, 14)) (As := []) (rest := []) hC (ctX2_layOutBlocks (zl z) g M 28 _ (hF.tp (b := 28) (Or.inr (Or.inr (Or.inr rfl)))) hw) 0 gX3_takeAll_X2_layOutBlocks rfl ⟨rfl, rfl⟩ hdV_X2_layOutBlocks ⟨Nat.le_of_ble_eq_true rfl, Nat.le_of_ble_eq_true rfl⟩ (hF.tp (b := 28) (Or.inr (Or.inr (Or.inr rfl)))).ob rfl rfl rfl (Nat.le_of_ble_eq_true rfl) dX3_takeAll_68) 71 rfl (fun M8 hw => ?_)
    refine q_aload_n hC dX3_takeAll_71 0 rfl 72 rfl ?_
    refine q_getR (C := RX3) (T := TX3) (N := 10) (ci := 3) hC inX3_takeAll_X3 (obF37 hF) rfl 1 (by decide) (uX3_takeAll__X3_takeRule _ (List.mem_of_getElem? (l := owX3_takeRule) (i := 2) rfl)) rfl 28 (fun _ => rfl) dX3_takeAll_72 75 rfl ?_
    refine q_iconst (v := 0) hC dX3_takeAll_75 rfl 76 rfl ?_
    refine q_putI (C := RX2) (T := TX2) (N := 14) (ci := 2) hC inX3_takeAll_X2 tyX2 tyX2_ok nmX2 (hF.tp (b := 28) (Or.inr (Or.inr (Or.inr rfl)))).ob rfl 11 (by decide) (uX3_takeAll__X3_takeBlock _ (List.mem_of_getElem? (l := owX3_takeBlock) (i := 1) rfl)) rfl rfl rfl (fun _ => Nat.le_of_ble_eq_true rfl) (fun _ => rfl) dX3_takeAll_76 79 rfl (fun M9 eM9 => ?_)
    have hw := hw M9 eM9
    refine q_aload_n hC dX3_takeAll_79 0 rfl 80 rfl ?_
    refine q_getR (C := RX3) (T := TX3) (N := 10) (ci := 3) hC inX3_takeAll_X3 (obF37 hF) rfl 1 (by decide) (uX3_takeAll__X3_takeRule _ (List.mem_of_getElem? (l := owX3_takeRule) (i := 2) rfl)) rfl 28 (fun _ => rfl) dX3_takeAll_80 83 rfl ?_
    refine q_aload_n hC dX3_takeAll_83 0 rfl 84 rfl ?_
    refine q_getR (C := RX3) (T := TX3) (N := 10) (ci := 3) hC inX3_takeAll_X3 (obF37 hF) rfl 1 (by decide) (uX3_takeAll__X3_takeRule _ (List.mem_of_getElem? (l := owX3_takeRule) (i := 2) rfl)) rfl 28 (fun _ => rfl) dX3_takeAll_84 87 rfl ?_
    refine q_getI (C := RX2) (T := TX2) (N := 14) (ci := 2) hC inX3_takeAll_X2 (hF.tp (b := 28) (Or.inr (Or.inr (Or.inr rfl)))).ob rfl 8 (by decide) (uX3_takeAll__X3_hasRoomForBlock _ (List.mem_of_getElem? (l := owX3_hasRoomForBlock) (i := 2) rfl)) rfl (fun _ => rfl) dX3_takeAll_87 90 rfl ?_
    refine q_iconst (v := 1) hC dX3_takeAll_90 rfl 91 rfl ?_
    refine q_isub hC dX3_takeAll_91 92 rfl ?_
    refine r_callI hC (go_V (q := (RX2, TX2, 14)) (As := [.int ((M9 28 8) - (1 : Int32))]) (rest := []) hC (ctX2_endOf (zl z) g M9 28 ((M9 28 8) - (1 : Int32)) _ (hF.tp (b := 28) (Or.inr (Or.inr (Or.inr rfl)))) hw) 1 gX3_takeAll_X2_endOf rfl ⟨rfl, rfl⟩ hdV_X2_endOf ⟨Nat.le_of_ble_eq_true rfl, Nat.le_of_ble_eq_true rfl⟩ (hF.tp (b := 28) (Or.inr (Or.inr (Or.inr rfl)))).ob rfl rfl rfl (Nat.le_of_ble_eq_true rfl) dX3_takeAll_92) 95 rfl (fun r10 M11 hw => ?_)
    refine q_aload_n hC dX3_takeAll_95 0 rfl 96 rfl ?_
    refine q_getR (C := RX3) (T := TX3) (N := 10) (ci := 3) hC inX3_takeAll_X3 (obF37 hF) rfl 1 (by decide) (uX3_takeAll__X3_takeRule _ (List.mem_of_getElem? (l := owX3_takeRule) (i := 2) rfl)) rfl 28 (fun _ => rfl) dX3_takeAll_96 99 rfl ?_
    refine q_iconst (v := 0) hC dX3_takeAll_99 rfl 100 rfl ?_
    refine r_callI hC (go_V (q := (RX2, TX2, 14)) (As := [.int 0]) (rest := [.int r10]) hC (ctX2_ruled (zl z) g M11 28 0 _ (hF.tp (b := 28) (Or.inr (Or.inr (Or.inr rfl)))) hw) 1 gX3_takeAll_X2_ruled rfl ⟨rfl, rfl⟩ hdV_X2_ruled ⟨Nat.le_of_ble_eq_true rfl, Nat.le_of_ble_eq_true rfl⟩ (hF.tp (b := 28) (Or.inr (Or.inr (Or.inr rfl)))).ob rfl rfl rfl (Nat.le_of_ble_eq_true rfl) dX3_takeAll_100) 103 rfl (fun r12 M13 hw => ?_)
    refine q_icmp_le hC 116 dX3_takeAll_103 (by decide) 106 rfl hw (fun hw => ?_) (fun hw => ?_)
    · refine q_iload_n hC dX3_takeAll_116 1 rfl 117 rfl ?_
      exact r_iret hR dX3_takeAll_117 hw
    · refine q_aload_n hC dX3_takeAll_106 0 rfl 107 rfl ?_
      refine q_bipush (v := 6) hC dX3_takeAll_107 (by decide) 109 rfl ?_
      refine q_aload_n hC dX3_takeAll_109 0 rfl 110 rfl ?_
      refine q_getI (C := RX3) (T := TX3) (N := 10) (ci := 3) hC inX3_takeAll_X3 (obF37 hF) rfl 2 (by decide) (uX3_takeAll__X3_letterAt _ (List.mem_of_getElem? (l := owX3_letterAt) (i := 1) rfl)) rfl (fun _ => rfl) dX3_takeAll_110 113 rfl ?_
      refine r_callV hC (go_V (q := (RX3, TX3, 10)) (As := [.int 6, .int (M13 37 2)]) (rest := []) hC (ctX3_refuse (zl z) g M13 6 (M13 37 2) _ hF hw) 2 gX3_takeAll_X3_refuse rfl ⟨rfl, rfl⟩ hdV_X3_refuse ⟨Nat.le_of_ble_eq_true rfl, Nat.le_of_ble_eq_true rfl⟩ (obF37 hF) rfl rfl rfl (Nat.le_of_ble_eq_true rfl) dX3_takeAll_113) 116 rfl (fun M14 hw => ?_)
      refine q_iload_n hC dX3_takeAll_116 1 rfl 117 rfl ?_
      exact r_iret hR dX3_takeAll_117 hw
  have B33 : ∀ (n : Nat) (M : MM) (v1 : Int32) , wX3_takeAll_33 Q n M v1 → XX z g Qf 2 33 [(0, .ref (gA g 37)), (1, .int v1)] [] M := by
    intro n
    induction n with
    | zero =>
      intro M v1 hw
      exact hw.elim
    | succ n ih =>
      intro M v1 hw
      refine q_aload_n hC dX3_takeAll_33 0 rfl 34 rfl ?_
      refine q_getI (C := RX3) (T := TX3) (N := 10) (ci := 3) hC inX3_takeAll_X3 (obF37 hF) rfl 4 (by decide) (uX3_takeAll__X3_readNumber _ (List.mem_of_getElem? (l := owX3_readNumber) (i := 3) rfl)) rfl (fun _ => rfl) dX3_takeAll_34 37 rfl ?_
      refine q_if_eq hC 64 dX3_takeAll_37 (by decide) 40 rfl hw (fun hw => ?_) (fun hw => ?_)
      · exact XX.sub [0, 1] rfl (B64 M v1 hw)
      · refine q_aload_n hC dX3_takeAll_40 0 rfl 41 rfl ?_
        refine q_getI (C := RX3) (T := TX3) (N := 10) (ci := 3) hC inX3_takeAll_X3 (obF37 hF) rfl 8 (by decide) (uX3_takeAll__X3_refuse _ (List.mem_of_getElem? (l := owX3_refuse) (i := 1) rfl)) rfl (fun _ => rfl) dX3_takeAll_41 44 rfl ?_
        refine q_if_ne hC 64 dX3_takeAll_44 (by decide) 47 rfl hw (fun hw => ?_) (fun hw => ?_)
        · exact XX.sub [0, 1] rfl (B64 M v1 hw)
        · refine q_iload_n hC dX3_takeAll_47 1 rfl 48 rfl ?_
          refine q_sipush (v := 400) hC dX3_takeAll_48 (by decide) 51 rfl ?_
          refine q_icmp_ge hC 64 dX3_takeAll_51 (by decide) 54 rfl hw (fun hw => ?_) (fun hw => ?_)
          · exact XX.sub [0, 1] rfl (B64 M v1 hw)
          · refine q_aload_n hC dX3_takeAll_54 0 rfl 55 rfl ?_
            refine r_callV hC (go_V (q := (RX3, TX3, 10)) (As := []) (rest := []) hC (ctX3_takeLine (zl z) g M _ hF hw) 0 gX3_takeAll_X3_takeLine rfl ⟨rfl, rfl⟩ hdV_X3_takeLine ⟨Nat.le_of_ble_eq_true rfl, Nat.le_of_ble_eq_true rfl⟩ (obF37 hF) rfl rfl rfl (Nat.le_of_ble_eq_true rfl) dX3_takeAll_55) 58 rfl (fun M7 hw => ?_)
            refine q_iinc (v := v1 + 1) (L' := [(1, .int (v1 + 1)), (0, .ref (gA g 37))]) hC dX3_takeAll_58 1 rfl rfl (by decide) rfl 61 rfl ?_
            refine q_goto hC 33 dX3_takeAll_61 (by decide) ?_
            exact XX.sub [1, 0] rfl (ih M7 (v1 + 1) hw)
  refine q_aload_n hC dX3_takeAll_0 0 rfl 1 rfl ?_
  refine q_getR (C := RX3) (T := TX3) (N := 10) (ci := 3) hC inX3_takeAll_X3 (obF37 hF) rfl 1 (by decide) (uX3_takeAll__X3_takeRule _ (List.mem_of_getElem? (l := owX3_takeRule) (i := 2) rfl)) rfl 28 (fun _ => rfl) dX3_takeAll_1 4 rfl ?_
  refine r_callV hC (go_V (q := (RX2, TX2, 14)) (As := []) (rest := []) hC (ctX2_reset (zl z) g M 28 _ (hF.tp (b := 28) (Or.inr (Or.inr (Or.inr rfl)))) hw) 0 gX3_takeAll_X2_reset rfl ⟨rfl, rfl⟩ hdV_X2_reset ⟨Nat.le_of_ble_eq_true rfl, Nat.le_of_ble_eq_true rfl⟩ (hF.tp (b := 28) (Or.inr (Or.inr (Or.inr rfl)))).ob rfl rfl rfl (Nat.le_of_ble_eq_true rfl) dX3_takeAll_4) 7 rfl (fun M1 hw => ?_)
  refine q_aload_n hC dX3_takeAll_7 0 rfl 8 rfl ?_
  refine q_iconst (v := 0) hC dX3_takeAll_8 rfl 9 rfl ?_
  refine q_putI (C := RX3) (T := TX3) (N := 10) (ci := 3) hC inX3_takeAll_X3 tyX3 tyX3_ok nmX3 (obF37 hF) rfl 3 (by decide) (uX3_takeAll__X3_readNumber _ (List.mem_of_getElem? (l := owX3_readNumber) (i := 1) rfl)) rfl rfl rfl (fun _ => Nat.le_of_ble_eq_true rfl) (fun _ => rfl) dX3_takeAll_9 12 rfl (fun M2 eM2 => ?_)
  have hw := hw M2 eM2
  refine q_aload_n hC dX3_takeAll_12 0 rfl 13 rfl ?_
  refine q_iconst (v := 0) hC dX3_takeAll_13 rfl 14 rfl ?_
  refine q_putI (C := RX3) (T := TX3) (N := 10) (ci := 3) hC inX3_takeAll_X3 tyX3 tyX3_ok nmX3 (obF37 hF) rfl 7 (by decide) (uX3_takeAll__X3_takeRule _ (List.mem_of_getElem? (l := owX3_takeRule) (i := 1) rfl)) rfl rfl rfl (fun _ => Nat.le_of_ble_eq_true rfl) (fun _ => rfl) dX3_takeAll_14 17 rfl (fun M3 eM3 => ?_)
  have hw := hw M3 eM3
  refine q_aload_n hC dX3_takeAll_17 0 rfl 18 rfl ?_
  refine q_iconst (v := 0) hC dX3_takeAll_18 rfl 19 rfl ?_
  refine q_putI (C := RX3) (T := TX3) (N := 10) (ci := 3) hC inX3_takeAll_X3 tyX3 tyX3_ok nmX3 (obF37 hF) rfl 8 (by decide) (uX3_takeAll__X3_refuse _ (List.mem_of_getElem? (l := owX3_refuse) (i := 1) rfl)) rfl rfl rfl (fun _ => Nat.le_of_ble_eq_true rfl) (fun _ => rfl) dX3_takeAll_19 22 rfl (fun M4 eM4 => ?_)
  have hw := hw M4 eM4
  refine q_aload_n hC dX3_takeAll_22 0 rfl 23 rfl ?_
  refine q_iconst (v := 0) hC dX3_takeAll_23 rfl 24 rfl ?_
  refine q_putI (C := RX3) (T := TX3) (N := 10) (ci := 3) hC inX3_takeAll_X3 tyX3 tyX3_ok nmX3 (obF37 hF) rfl 9 (by decide) (uX3_takeAll__X3_refuse _ (List.mem_of_getElem? (l := owX3_refuse) (i := 2) rfl)) rfl rfl rfl (fun _ => Nat.le_of_ble_eq_true rfl) (fun _ => rfl) dX3_takeAll_24 27 rfl (fun M5 eM5 => ?_)
  have hw := hw M5 eM5
  refine q_iconst (v := 0) hC dX3_takeAll_27 rfl 28 rfl ?_
  refine q_istore_n (L' := [(1, .int 0), (0, .ref (gA g 37))]) hC dX3_takeAll_28 (by decide) rfl 29 rfl ?_
  refine q_aload_n hC dX3_takeAll_29 1 rfl 30 rfl ?_
  refine r_callV hC (go_V (q := (RX3, TX3, 10)) (As := []) (rest := []) hC (ctX3_readToken (zl z) g M5 _ hF hw) 0 gX3_takeAll_X3_readToken rfl ⟨rfl, rfl⟩ hdV_X3_readToken ⟨Nat.le_of_ble_eq_true rfl, Nat.le_of_ble_eq_true rfl⟩ (obF37 hF) rfl rfl rfl (Nat.le_of_ble_eq_true rfl) dX3_takeAll_30) 33 rfl (fun M6 hw => ?_)
  obtain ⟨n0, hw⟩ := hw
  exact XX.sub [1, 0] rfl (B33 n0 M6 0 hw)
theorem hdV_X3_addLetter : yX3_addLetter.cls = RX3 ∧ yX3_addLetter.cls ≠ "java/lang/invoke/MethodHandle" ∧ yX3_addLetter.cls ≠ "java/lang/invoke/VarHandle" ∧ (parseMethodDescriptor yX3_addLetter.desc).map (fun d => d.parameters.length) = some 1 := by decide +kernel
theorem inX4_feed_X3 : ∀ w ∈ u_ws RX3 TX3 10, w ∈ wsX4_feed := uX4_feed__wsX30
theorem inX4_feed_X4 : ∀ w ∈ u_ws RX4 TX4 12, w ∈ wsX4_feed := uX4_feed__wsX40
set_option maxRecDepth 100000 in
set_option maxHeartbeats 4000000 in
theorem ctX4_feed (l : Launch) (g : GG) (M : MM) (v1 : Int64) (Q : Int32 → MM → Prop) (hF : full g) (hw : wX4_feed Q M v1) : MI g l yX4_feed wsX4_feed (rmOf 1 21) [.ref (gA g 0), .long v1] M Q := by
  refine mk_MI (cc := cX4_feed) (maxL := 4) (by decide) rfl (Nat.le_of_ble_eq_true rfl) ?_
  intro z Qf hC hR
  show XX z g Qf 4 0 [(0, .ref (gA g 0)), (1, .long v1)] [] M
  have B22 : ∀ (n : Nat) (M : MM) (v3 : Int32) , wX4_feed_22 Q v1 n M v3 → XX z g Qf 4 22 [(0, .ref (gA g 0)), (1, .long v1), (3, .int v3)] [] M := by
    intro n
    induction n with
    | zero =>
      intro M v3 hw
      exact hw.elim
    | succ n ih =>
      intro M v3 hw
      refine q_iload_n hC dX4_feed_22 2 rfl 23 rfl ?_
      refine q_if_lt hC 44 dX4_feed_23 (by decide) 26 rfl hw (fun hw => ?_) (fun hw => ?_)
      · refine q_aload_n hC dX4_feed_44 0 rfl 45 rfl ?_
        refine q_getR (C := RX4) (T := TX4) (N := 12) (ci := 4) hC inX4_feed_X4 (obF0 hF) rfl 1 (by decide) (uX4_feed__o _ (List.mem_of_getElem? (l := owX4_feed) (i := 1) rfl)) rfl 37 (fun _ => rfl) dX4_feed_45 48 rfl ?_
        refine q_getI (C := RX3) (T := TX3) (N := 10) (ci := 3) hC inX4_feed_X3 (obF37 hF) rfl 2 (by decide) (uX4_feed__o _ (List.mem_of_getElem? (l := owX4_feed) (i := 2) rfl)) rfl (fun _ => rfl) dX4_feed_48 51 rfl ?_
        exact r_iret hR dX4_feed_51 hw
      · refine q_aload_n hC dX4_feed_26 0 rfl 27 rfl ?_
        refine q_getR (C := RX4) (T := TX4) (N := 12) (ci := 4) hC inX4_feed_X4 (obF0 hF) rfl 1 (by decide) (uX4_feed__o _ (List.mem_of_getElem? (l := owX4_feed) (i := 1) rfl)) rfl 37 (fun _ => rfl) dX4_feed_27 30 rfl ?_
        refine q_lload_n hC dX4_feed_30 1 rfl 31 rfl ?_
        refine q_iload_n hC dX4_feed_31 2 rfl 32 rfl ?_
        refine q_lushr hC dX4_feed_32 33 rfl ?_
        refine q_l2i hC dX4_feed_33 34 rfl ?_
        refine q_i2b hC dX4_feed_34 35 rfl ?_
        refine r_callV hC (go_V (q := (RX3, TX3, 10)) (As := [.int ((((v1.toUInt64 >>> (v3.toInt64.toUInt64 &&& Int64.toUInt64 63)).toInt64).toInt32).toInt8.toInt32)]) (rest := []) hC (ctX3_addLetter (zl z) g M ((((v1.toUInt64 >>> (v3.toInt64.toUInt64 &&& Int64.toUInt64 63)).toInt64).toInt32).toInt8.toInt32) _ hF hw) 1 gX4_feed_X3_addLetter rfl ⟨rfl, rfl⟩ hdV_X3_addLetter ⟨Nat.le_of_ble_eq_true rfl, Nat.le_of_ble_eq_true rfl⟩ (obF37 hF) rfl rfl rfl (Nat.le_of_ble_eq_true rfl) dX4_feed_35) 38 rfl (fun M1 hw => ?_)
        refine q_iinc (v := v3 + (-8)) (L' := [(3, .int (v3 + (-8))), (0, .ref (gA g 0)), (1, .long v1)]) hC dX4_feed_38 2 rfl rfl (by decide) rfl 41 rfl ?_
        refine q_goto hC 22 dX4_feed_41 (by decide) ?_
        exact XX.sub [1, 2, 0] rfl (ih M1 (v3 + (-8)) hw)
  refine q_aload_n hC dX4_feed_0 0 rfl 1 rfl ?_
  refine q_getR (C := RX4) (T := TX4) (N := 12) (ci := 4) hC inX4_feed_X4 (obF0 hF) rfl 1 (by decide) (uX4_feed__o _ (List.mem_of_getElem? (l := owX4_feed) (i := 1) rfl)) rfl 37 (fun _ => rfl) dX4_feed_1 4 rfl ?_
  refine q_getI (C := RX3) (T := TX3) (N := 10) (ci := 3) hC inX4_feed_X3 (obF37 hF) rfl 2 (by decide) (uX4_feed__o _ (List.mem_of_getElem? (l := owX4_feed) (i := 2) rfl)) rfl (fun _ => rfl) dX4_feed_4 7 rfl ?_
  refine q_bipush (v := 8) hC dX4_feed_7 (by decide) 9 rfl ?_
  refine q_iadd hC dX4_feed_9 10 rfl ?_
  refine q_sipush (v := 400) hC dX4_feed_10 (by decide) 13 rfl ?_
  refine q_icmp_le hC 19 dX4_feed_13 (by decide) 16 rfl hw (fun hw => ?_) (fun hw => ?_)
  · refine q_bipush (v := 56) hC dX4_feed_19 (by decide) 21 rfl ?_
    refine q_istore_n (L' := [(3, .int 56), (0, .ref (gA g 0)), (1, .long v1)]) hC dX4_feed_21 (by decide) rfl 22 rfl ?_
    obtain ⟨n0, hw⟩ := hw
    exact XX.sub [1, 2, 0] rfl (B22 n0 M 56 hw)
  · refine q_bipush (v := (-3)) hC dX4_feed_16 (by decide) 18 rfl ?_
    exact r_iret hR dX4_feed_18 hw
theorem inX4_end_X3 : ∀ w ∈ u_ws RX3 TX3 10, w ∈ wsX4_end := uX4_end__wsX30
theorem inX4_end_X4 : ∀ w ∈ u_ws RX4 TX4 12, w ∈ wsX4_end := uX4_end__wsX40
set_option maxRecDepth 100000 in
set_option maxHeartbeats 4000000 in
theorem ctX4_end (l : Launch) (g : GG) (M : MM) (v1 : Int32) (Q : Int32 → MM → Prop) (hF : full g) (hw : wX4_end Q M v1) : MI g l yX4_end wsX4_end (rmOf 1 22) [.ref (gA g 0), .int v1] M Q := by
  refine mk_MI (cc := cX4_end) (maxL := 3) (by decide) rfl (Nat.le_of_ble_eq_true rfl) ?_
  intro z Qf hC hR
  show XX z g Qf 3 0 [(0, .ref (gA g 0)), (1, .int v1)] [] M
  refine q_aload_n hC dX4_end_0 0 rfl 1 rfl ?_
  refine q_getR (C := RX4) (T := TX4) (N := 12) (ci := 4) hC inX4_end_X4 (obF0 hF) rfl 1 (by decide) (uX4_end__o _ (List.mem_of_getElem? (l := owX4_end) (i := 1) rfl)) rfl 37 (fun _ => rfl) dX4_end_1 4 rfl ?_
  refine q_getI (C := RX3) (T := TX3) (N := 10) (ci := 3) hC inX4_end_X3 (obF37 hF) rfl 2 (by decide) (uX4_end__o _ (List.mem_of_getElem? (l := owX4_end) (i := 2) rfl)) rfl (fun _ => rfl) dX4_end_4 7 rfl ?_
  refine q_istore_n (L' := [(2, .int (M 37 2)), (0, .ref (gA g 0)), (1, .int v1)]) hC dX4_end_7 (by decide) rfl 8 rfl ?_
  refine q_iload_n hC dX4_end_8 2 rfl 9 rfl ?_
  refine q_iconst (v := 0) hC dX4_end_9 rfl 10 rfl ?_
  refine q_iload_n hC dX4_end_10 0 rfl 11 rfl ?_
  refine r_callI hC (go_T (As := [.int v1, .int 0, .int (M 37 2)]) (rest := []) hC (ctX4_isBetween (zl z) g M v1 0 (M 37 2) _ hw) 3 gX4_end_X4_isBetween rfl ⟨rfl, rfl⟩ hdT_X4_isBetween ⟨Nat.le_of_ble_eq_true rfl, Nat.le_of_ble_eq_true rfl⟩ rfl rfl (Nat.le_of_ble_eq_true rfl) dX4_end_11) 14 rfl (fun r1 M2 hw => ?_)
  refine q_if_ne hC 19 dX4_end_14 (by decide) 17 rfl hw (fun hw => ?_) (fun hw => ?_)
  · refine q_aload_n hC dX4_end_19 1 rfl 20 rfl ?_
    refine q_getR (C := RX4) (T := TX4) (N := 12) (ci := 4) hC inX4_end_X4 (obF0 hF) rfl 1 (by decide) (uX4_end__o _ (List.mem_of_getElem? (l := owX4_end) (i := 1) rfl)) rfl 37 (fun _ => rfl) dX4_end_20 23 rfl ?_
    refine q_iload_n hC dX4_end_23 2 rfl 24 rfl ?_
    refine q_putI (C := RX3) (T := TX3) (N := 10) (ci := 3) hC inX4_end_X3 tyX3 tyX3_ok nmX3 (obF37 hF) rfl 2 (by decide) (uX4_end__o _ (List.mem_of_getElem? (l := owX4_end) (i := 2) rfl)) rfl rfl rfl (fun _ => Nat.le_of_ble_eq_true rfl) (fun _ => rfl) dX4_end_24 27 rfl (fun M3 eM3 => ?_)
    have hw := hw M3 eM3
    refine q_iload_n hC dX4_end_27 0 rfl 28 rfl ?_
    exact r_iret hR dX4_end_28 hw
  · refine q_iconst (v := (-1)) hC dX4_end_17 rfl 18 rfl ?_
    exact r_iret hR dX4_end_18 hw
theorem hdV_X3_takeAll : yX3_takeAll.cls = RX3 ∧ yX3_takeAll.cls ≠ "java/lang/invoke/MethodHandle" ∧ yX3_takeAll.cls ≠ "java/lang/invoke/VarHandle" ∧ (parseMethodDescriptor yX3_takeAll.desc).map (fun d => d.parameters.length) = some 0 := by decide +kernel
theorem hdV_X2_becomes : yX2_becomes.cls = RX2 ∧ yX2_becomes.cls ≠ "java/lang/invoke/MethodHandle" ∧ yX2_becomes.cls ≠ "java/lang/invoke/VarHandle" ∧ (parseMethodDescriptor yX2_becomes.desc).map (fun d => d.parameters.length) = some 1 := by decide +kernel
theorem inX4_text_X3 : ∀ w ∈ u_ws RX3 TX3 10, w ∈ wsX4_text := uX4_text__wsX30
theorem inX4_text_X4 : ∀ w ∈ u_ws RX4 TX4 12, w ∈ wsX4_text := uX4_text__wsX40
set_option maxRecDepth 100000 in
set_option maxHeartbeats 4000000 in
theorem ctX4_text (l : Launch) (g : GG) (M : MM)  (Q : Int32 → MM → Prop) (hF : full g) (hw : wX4_text Q M ) : MI g l yX4_text wsX4_text (rmOf 9 235) [.ref (gA g 0)] M Q := by
  refine mk_MI (cc := cX4_text) (maxL := 2) (by decide) rfl (Nat.le_of_ble_eq_true rfl) ?_
  intro z Qf hC hR
  show XX z g Qf 2 0 [(0, .ref (gA g 0))] [] M
  refine q_aload_n hC dX4_text_0 0 rfl 1 rfl ?_
  refine q_getR (C := RX4) (T := TX4) (N := 12) (ci := 4) hC inX4_text_X4 (obF0 hF) rfl 1 (by decide) (uX4_text__o _ (List.mem_of_getElem? (l := owX4_text) (i := 1) rfl)) rfl 37 (fun _ => rfl) dX4_text_1 4 rfl ?_
  refine r_callI hC (go_V (q := (RX3, TX3, 10)) (As := []) (rest := []) hC (ctX3_takeAll (zl z) g M _ hF hw) 0 gX4_text_X3_takeAll rfl ⟨rfl, rfl⟩ hdV_X3_takeAll ⟨Nat.le_of_ble_eq_true rfl, Nat.le_of_ble_eq_true rfl⟩ (obF37 hF) rfl rfl rfl (Nat.le_of_ble_eq_true rfl) dX4_text_4) 7 rfl (fun r1 M2 hw => ?_)
  refine q_istore_n (L' := [(1, .int r1), (0, .ref (gA g 0))]) hC dX4_text_7 (by decide) rfl 8 rfl ?_
  refine q_aload_n hC dX4_text_8 1 rfl 9 rfl ?_
  refine q_getR (C := RX4) (T := TX4) (N := 12) (ci := 4) hC inX4_text_X4 (obF0 hF) rfl 1 (by decide) (uX4_text__o _ (List.mem_of_getElem? (l := owX4_text) (i := 1) rfl)) rfl 37 (fun _ => rfl) dX4_text_9 12 rfl ?_
  refine q_iconst (v := 0) hC dX4_text_12 rfl 13 rfl ?_
  refine q_putI (C := RX3) (T := TX3) (N := 10) (ci := 3) hC inX4_text_X3 tyX3 tyX3_ok nmX3 (obF37 hF) rfl 2 (by decide) (uX4_text__o _ (List.mem_of_getElem? (l := owX4_text) (i := 2) rfl)) rfl rfl rfl (fun _ => Nat.le_of_ble_eq_true rfl) (fun _ => rfl) dX4_text_13 16 rfl (fun M3 eM3 => ?_)
  have hw := hw M3 eM3
  refine q_aload_n hC dX4_text_16 1 rfl 17 rfl ?_
  refine q_aload_n hC dX4_text_17 1 rfl 18 rfl ?_
  refine q_getR (C := RX4) (T := TX4) (N := 12) (ci := 4) hC inX4_text_X4 (obF0 hF) rfl 1 (by decide) (uX4_text__o _ (List.mem_of_getElem? (l := owX4_text) (i := 1) rfl)) rfl 37 (fun _ => rfl) dX4_text_18 21 rfl ?_
  refine q_getI (C := RX3) (T := TX3) (N := 10) (ci := 3) hC inX4_text_X3 (obF37 hF) rfl 8 (by decide) (uX4_text__o _ (List.mem_of_getElem? (l := owX4_text) (i := 3) rfl)) rfl (fun _ => rfl) dX4_text_21 24 rfl ?_
  refine q_putI (C := RX4) (T := TX4) (N := 12) (ci := 4) hC inX4_text_X4 tyX4 tyX4_ok nmX4 (obF0 hF) rfl 9 (by decide) (uX4_text__o _ (List.mem_of_getElem? (l := owX4_text) (i := 4) rfl)) rfl rfl rfl (fun _ => Nat.le_of_ble_eq_true rfl) (fun _ => rfl) dX4_text_24 27 rfl (fun M4 eM4 => ?_)
  have hw := hw M4 eM4
  refine q_aload_n hC dX4_text_27 1 rfl 28 rfl ?_
  refine q_getI (C := RX4) (T := TX4) (N := 12) (ci := 4) hC inX4_text_X4 (obF0 hF) rfl 9 (by decide) (uX4_text__o _ (List.mem_of_getElem? (l := owX4_text) (i := 4) rfl)) rfl (fun _ => rfl) dX4_text_28 31 rfl ?_
  refine q_if_eq hC 45 dX4_text_31 (by decide) 34 rfl hw (fun hw => ?_) (fun hw => ?_)
  · refine q_aload_n hC dX4_text_45 1 rfl 46 rfl ?_
    refine q_getR (C := RX4) (T := TX4) (N := 12) (ci := 4) hC inX4_text_X4 (obF0 hF) rfl 0 (by decide) (uX4_text__o _ (List.mem_of_getElem? (l := owX4_text) (i := 6) rfl)) rfl 1 (fun _ => rfl) dX4_text_46 49 rfl ?_
    refine q_aload_n hC dX4_text_49 1 rfl 50 rfl ?_
    refine q_getR (C := RX4) (T := TX4) (N := 12) (ci := 4) hC inX4_text_X4 (obF0 hF) rfl 1 (by decide) (uX4_text__o _ (List.mem_of_getElem? (l := owX4_text) (i := 1) rfl)) rfl 37 (fun _ => rfl) dX4_text_50 53 rfl ?_
    refine q_getR (C := RX3) (T := TX3) (N := 10) (ci := 3) hC inX4_text_X3 (obF37 hF) rfl 1 (by decide) (uX4_text__o _ (List.mem_of_getElem? (l := owX4_text) (i := 7) rfl)) rfl 28 (fun _ => rfl) dX4_text_53 56 rfl ?_
    refine r_callV hC (go_V (q := (RX2, TX2, 14)) (As := [.ref (gA g 28)]) (rest := []) hC (ctX2_becomes (zl z) g M4 1 28 _ (hF.tp (b := 1) (Or.inl rfl)) (hF.tp (b := 28) (Or.inr (Or.inr (Or.inr rfl)))) hw) 1 gX4_text_X2_becomes rfl ⟨rfl, rfl⟩ hdV_X2_becomes ⟨Nat.le_of_ble_eq_true rfl, Nat.le_of_ble_eq_true rfl⟩ (hF.tp (b := 1) (Or.inl rfl)).ob rfl rfl rfl (Nat.le_of_ble_eq_true rfl) dX4_text_56) 59 rfl (fun M5 hw => ?_)
    refine q_aload_n hC dX4_text_59 1 rfl 60 rfl ?_
    refine q_iconst (v := 0) hC dX4_text_60 rfl 61 rfl ?_
    refine q_putI (C := RX4) (T := TX4) (N := 12) (ci := 4) hC inX4_text_X4 tyX4 tyX4_ok nmX4 (obF0 hF) rfl 11 (by decide) (uX4_text__o _ (List.mem_of_getElem? (l := owX4_text) (i := 8) rfl)) rfl rfl rfl (fun _ => Nat.le_of_ble_eq_true rfl) (fun _ => rfl) dX4_text_61 64 rfl (fun M6 eM6 => ?_)
    have hw := hw M6 eM6
    refine q_iload_n hC dX4_text_64 0 rfl 65 rfl ?_
    exact r_iret hR dX4_text_65 hw
  · refine q_bipush (v := (-10)) hC dX4_text_34 (by decide) 36 rfl ?_
    refine q_aload_n hC dX4_text_36 1 rfl 37 rfl ?_
    refine q_getR (C := RX4) (T := TX4) (N := 12) (ci := 4) hC inX4_text_X4 (obF0 hF) rfl 1 (by decide) (uX4_text__o _ (List.mem_of_getElem? (l := owX4_text) (i := 1) rfl)) rfl 37 (fun _ => rfl) dX4_text_37 40 rfl ?_
    refine q_getI (C := RX3) (T := TX3) (N := 10) (ci := 3) hC inX4_text_X3 (obF37 hF) rfl 9 (by decide) (uX4_text__o _ (List.mem_of_getElem? (l := owX4_text) (i := 5) rfl)) rfl (fun _ => rfl) dX4_text_40 43 rfl ?_
    refine q_isub hC dX4_text_43 44 rfl ?_
    exact r_iret hR dX4_text_44 hw
theorem inX4_fault_X4 : ∀ w ∈ u_ws RX4 TX4 12, w ∈ wsX4_fault := uX4_fault__wsX40
set_option maxRecDepth 100000 in
set_option maxHeartbeats 4000000 in
theorem ctX4_fault (l : Launch) (g : GG) (M : MM)  (Q : Int32 → MM → Prop) (hF : full g) (hw : wX4_fault Q M ) : MI g l yX4_fault wsX4_fault (rmOf 0 0) [.ref (gA g 0)] M Q := by
  refine mk_MI (cc := cX4_fault) (maxL := 1) (by decide) rfl (Nat.le_of_ble_eq_true rfl) ?_
  intro z Qf hC hR
  show XX z g Qf 1 0 [(0, .ref (gA g 0))] [] M
  refine q_aload_n hC dX4_fault_0 0 rfl 1 rfl ?_
  refine q_getI (C := RX4) (T := TX4) (N := 12) (ci := 4) hC inX4_fault_X4 (obF0 hF) rfl 9 (by decide) (uX4_fault__o _ (List.mem_of_getElem? (l := owX4_fault) (i := 1) rfl)) rfl (fun _ => rfl) dX4_fault_1 4 rfl ?_
  exact r_iret hR dX4_fault_4 hw
theorem inX4_rule_X4 : ∀ w ∈ u_ws RX4 TX4 12, w ∈ wsX4_rule := uX4_rule__wsX40
set_option maxRecDepth 100000 in
set_option maxHeartbeats 4000000 in
theorem ctX4_rule (l : Launch) (g : GG) (M : MM) (v1 : Int32) (Q : Int32 → MM → Prop) (hF : full g) (hw : wX4_rule Q M v1) : MI g l yX4_rule wsX4_rule (rmOf 1 22) [.ref (gA g 0), .int v1] M Q := by
  refine mk_MI (cc := cX4_rule) (maxL := 2) (by decide) rfl (Nat.le_of_ble_eq_true rfl) ?_
  intro z Qf hC hR
  show XX z g Qf 2 0 [(0, .ref (gA g 0)), (1, .int v1)] [] M
  refine q_iload_n hC dX4_rule_0 1 rfl 1 rfl ?_
  refine q_iconst (v := 0) hC dX4_rule_1 rfl 2 rfl ?_
  refine q_bipush (v := 8) hC dX4_rule_2 (by decide) 4 rfl ?_
  refine r_callI hC (go_T (As := [.int v1, .int 0, .int 8]) (rest := []) hC (ctX4_isBetween (zl z) g M v1 0 8 _ hw) 3 gX4_rule_X4_isBetween rfl ⟨rfl, rfl⟩ hdT_X4_isBetween ⟨Nat.le_of_ble_eq_true rfl, Nat.le_of_ble_eq_true rfl⟩ rfl rfl (Nat.le_of_ble_eq_true rfl) dX4_rule_4) 7 rfl (fun r1 M2 hw => ?_)
  refine q_if_eq hC 21 dX4_rule_7 (by decide) 10 rfl hw (fun hw => ?_) (fun hw => ?_)
  · refine q_iconst (v := (-1)) hC dX4_rule_21 rfl 22 rfl ?_
    exact r_iret hR dX4_rule_22 hw
  · refine q_aload_n hC dX4_rule_10 0 rfl 11 rfl ?_
    refine q_getR (C := RX4) (T := TX4) (N := 12) (ci := 4) hC inX4_rule_X4 (obF0 hF) rfl 0 (by decide) (uX4_rule__o _ (List.mem_of_getElem? (l := owX4_rule) (i := 1) rfl)) rfl 1 (fun _ => rfl) dX4_rule_11 14 rfl ?_
    refine q_iload_n hC dX4_rule_14 1 rfl 15 rfl ?_
    refine r_callI hC (go_V (q := (RX2, TX2, 14)) (As := [.int v1]) (rest := []) hC (ctX2_ruled (zl z) g M2 1 v1 _ (hF.tp (b := 1) (Or.inl rfl)) hw) 1 gX4_rule_X2_ruled rfl ⟨rfl, rfl⟩ hdV_X2_ruled ⟨Nat.le_of_ble_eq_true rfl, Nat.le_of_ble_eq_true rfl⟩ (hF.tp (b := 1) (Or.inl rfl)).ob rfl rfl rfl (Nat.le_of_ble_eq_true rfl) dX4_rule_15) 18 rfl (fun r3 M4 hw => ?_)
    refine q_goto hC 22 dX4_rule_18 (by decide) ?_
    exact r_iret hR dX4_rule_22 hw
theorem inX4_turns_X4 : ∀ w ∈ u_ws RX4 TX4 12, w ∈ wsX4_turns := uX4_turns__wsX40
set_option maxRecDepth 100000 in
set_option maxHeartbeats 4000000 in
theorem ctX4_turns (l : Launch) (g : GG) (M : MM) (v1 : Int32) (v2 : Int32) (Q : Int32 → MM → Prop) (hF : full g) (hw : wX4_turns Q M v1 v2) : MI g l yX4_turns wsX4_turns (rmOf 3 68) [.ref (gA g 0), .int v1, .int v2] M Q := by
  refine mk_MI (cc := cX4_turns) (maxL := 3) (by decide) rfl (Nat.le_of_ble_eq_true rfl) ?_
  intro z Qf hC hR
  show XX z g Qf 3 0 [(0, .ref (gA g 0)), (1, .int v1), (2, .int v2)] [] M
  refine q_aload_n hC dX4_turns_0 0 rfl 1 rfl ?_
  refine q_getR (C := RX4) (T := TX4) (N := 12) (ci := 4) hC inX4_turns_X4 (obF0 hF) rfl 0 (by decide) (uX4_turns__o _ (List.mem_of_getElem? (l := owX4_turns) (i := 1) rfl)) rfl 1 (fun _ => rfl) dX4_turns_1 4 rfl ?_
  refine q_iload_n hC dX4_turns_4 1 rfl 5 rfl ?_
  refine r_callI hC (go_V (q := (RX2, TX2, 14)) (As := [.int v1]) (rest := []) hC (ctX2_hasPlace (zl z) g M 1 v1 _ (hF.tp (b := 1) (Or.inl rfl)) hw) 1 gX4_turns_X2_hasPlace rfl ⟨rfl, rfl⟩ hdV_X2_hasPlace ⟨Nat.le_of_ble_eq_true rfl, Nat.le_of_ble_eq_true rfl⟩ (hF.tp (b := 1) (Or.inl rfl)).ob rfl rfl rfl (Nat.le_of_ble_eq_true rfl) dX4_turns_5) 8 rfl (fun r1 M2 hw => ?_)
  refine q_if_ne hC 13 dX4_turns_8 (by decide) 11 rfl hw (fun hw => ?_) (fun hw => ?_)
  · refine q_iload_n hC dX4_turns_13 2 rfl 14 rfl ?_
    refine q_if_eq hC 28 dX4_turns_14 (by decide) 17 rfl hw (fun hw => ?_) (fun hw => ?_)
    · refine q_aload_n hC dX4_turns_28 0 rfl 29 rfl ?_
      refine q_getR (C := RX4) (T := TX4) (N := 12) (ci := 4) hC inX4_turns_X4 (obF0 hF) rfl 0 (by decide) (uX4_turns__o _ (List.mem_of_getElem? (l := owX4_turns) (i := 1) rfl)) rfl 1 (fun _ => rfl) dX4_turns_29 32 rfl ?_
      refine q_iload_n hC dX4_turns_32 1 rfl 33 rfl ?_
      refine r_callI hC (go_V (q := (RX2, TX2, 14)) (As := [.int v1]) (rest := []) hC (ctX2_rightTurns (zl z) g M2 1 v1 _ (hF.tp (b := 1) (Or.inl rfl)) hw) 1 gX4_turns_X2_rightTurns rfl ⟨rfl, rfl⟩ hdV_X2_rightTurns ⟨Nat.le_of_ble_eq_true rfl, Nat.le_of_ble_eq_true rfl⟩ (hF.tp (b := 1) (Or.inl rfl)).ob rfl rfl rfl (Nat.le_of_ble_eq_true rfl) dX4_turns_33) 36 rfl (fun r3 M4 hw => ?_)
      exact r_iret hR dX4_turns_36 hw
    · refine q_aload_n hC dX4_turns_17 0 rfl 18 rfl ?_
      refine q_getR (C := RX4) (T := TX4) (N := 12) (ci := 4) hC inX4_turns_X4 (obF0 hF) rfl 0 (by decide) (uX4_turns__o _ (List.mem_of_getElem? (l := owX4_turns) (i := 1) rfl)) rfl 1 (fun _ => rfl) dX4_turns_18 21 rfl ?_
      refine q_iload_n hC dX4_turns_21 1 rfl 22 rfl ?_
      refine r_callI hC (go_V (q := (RX2, TX2, 14)) (As := [.int v1]) (rest := []) hC (ctX2_leftTurns (zl z) g M2 1 v1 _ (hF.tp (b := 1) (Or.inl rfl)) hw) 1 gX4_turns_X2_leftTurns rfl ⟨rfl, rfl⟩ hdV_X2_leftTurns ⟨Nat.le_of_ble_eq_true rfl, Nat.le_of_ble_eq_true rfl⟩ (hF.tp (b := 1) (Or.inl rfl)).ob rfl rfl rfl (Nat.le_of_ble_eq_true rfl) dX4_turns_22) 25 rfl (fun r5 M6 hw => ?_)
      refine q_goto hC 36 dX4_turns_25 (by decide) ?_
      exact r_iret hR dX4_turns_36 hw
  · refine q_iconst (v := (-1)) hC dX4_turns_11 rfl 12 rfl ?_
    exact r_iret hR dX4_turns_12 hw
theorem hdV_X2_lastShowing : yX2_lastShowing.cls = RX2 ∧ yX2_lastShowing.cls ≠ "java/lang/invoke/MethodHandle" ∧ yX2_lastShowing.cls ≠ "java/lang/invoke/VarHandle" ∧ (parseMethodDescriptor yX2_lastShowing.desc).map (fun d => d.parameters.length) = some 1 := by decide +kernel
theorem inX4_shows_X4 : ∀ w ∈ u_ws RX4 TX4 12, w ∈ wsX4_shows := uX4_shows__wsX40
set_option maxRecDepth 100000 in
set_option maxHeartbeats 4000000 in
theorem ctX4_shows (l : Launch) (g : GG) (M : MM) (v1 : Int32) (v2 : Int32) (Q : Int32 → MM → Prop) (hF : full g) (hw : wX4_shows Q M v1 v2) : MI g l yX4_shows wsX4_shows (rmOf 4 86) [.ref (gA g 0), .int v1, .int v2] M Q := by
  refine mk_MI (cc := cX4_shows) (maxL := 3) (by decide) rfl (Nat.le_of_ble_eq_true rfl) ?_
  intro z Qf hC hR
  show XX z g Qf 3 0 [(0, .ref (gA g 0)), (1, .int v1), (2, .int v2)] [] M
  refine q_iload_n hC dX4_shows_0 1 rfl 1 rfl ?_
  refine q_if_lt hC 13 dX4_shows_1 (by decide) 4 rfl hw (fun hw => ?_) (fun hw => ?_)
  · refine q_iconst (v := (-1)) hC dX4_shows_13 rfl 14 rfl ?_
    exact r_iret hR dX4_shows_14 hw
  · refine q_iload_n hC dX4_shows_4 2 rfl 5 rfl ?_
    refine q_iconst (v := 0) hC dX4_shows_5 rfl 6 rfl ?_
    refine q_iconst (v := 1) hC dX4_shows_6 rfl 7 rfl ?_
    refine r_callI hC (go_T (As := [.int v2, .int 0, .int 1]) (rest := []) hC (ctX4_isBetween (zl z) g M v2 0 1 _ hw) 3 gX4_shows_X4_isBetween rfl ⟨rfl, rfl⟩ hdT_X4_isBetween ⟨Nat.le_of_ble_eq_true rfl, Nat.le_of_ble_eq_true rfl⟩ rfl rfl (Nat.le_of_ble_eq_true rfl) dX4_shows_7) 10 rfl (fun r1 M2 hw => ?_)
    refine q_if_ne hC 15 dX4_shows_10 (by decide) 13 rfl hw (fun hw => ?_) (fun hw => ?_)
    · refine q_iload_n hC dX4_shows_15 2 rfl 16 rfl ?_
      refine q_if_ne hC 30 dX4_shows_16 (by decide) 19 rfl hw (fun hw => ?_) (fun hw => ?_)
      · refine q_aload_n hC dX4_shows_30 0 rfl 31 rfl ?_
        refine q_getR (C := RX4) (T := TX4) (N := 12) (ci := 4) hC inX4_shows_X4 (obF0 hF) rfl 0 (by decide) (uX4_shows__o _ (List.mem_of_getElem? (l := owX4_shows) (i := 1) rfl)) rfl 1 (fun _ => rfl) dX4_shows_31 34 rfl ?_
        refine q_iload_n hC dX4_shows_34 1 rfl 35 rfl ?_
        refine r_callI hC (go_V (q := (RX2, TX2, 14)) (As := [.int v1]) (rest := []) hC (ctX2_lastShowing (zl z) g M2 1 v1 _ (hF.tp (b := 1) (Or.inl rfl)) hw) 1 gX4_shows_X2_lastShowing rfl ⟨rfl, rfl⟩ hdV_X2_lastShowing ⟨Nat.le_of_ble_eq_true rfl, Nat.le_of_ble_eq_true rfl⟩ (hF.tp (b := 1) (Or.inl rfl)).ob rfl rfl rfl (Nat.le_of_ble_eq_true rfl) dX4_shows_35) 38 rfl (fun r3 M4 hw => ?_)
        exact r_iret hR dX4_shows_38 hw
      · refine q_aload_n hC dX4_shows_19 0 rfl 20 rfl ?_
        refine q_getR (C := RX4) (T := TX4) (N := 12) (ci := 4) hC inX4_shows_X4 (obF0 hF) rfl 0 (by decide) (uX4_shows__o _ (List.mem_of_getElem? (l := owX4_shows) (i := 1) rfl)) rfl 1 (fun _ => rfl) dX4_shows_20 23 rfl ?_
        refine q_iload_n hC dX4_shows_23 1 rfl 24 rfl ?_
        refine r_callI hC (go_V (q := (RX2, TX2, 14)) (As := [.int v1]) (rest := []) hC (ctX2_firstShowing (zl z) g M2 1 v1 _ (hF.tp (b := 1) (Or.inl rfl)) hw) 1 gX4_shows_X2_firstShowing rfl ⟨rfl, rfl⟩ hdV_X2_firstShowing ⟨Nat.le_of_ble_eq_true rfl, Nat.le_of_ble_eq_true rfl⟩ (hF.tp (b := 1) (Or.inl rfl)).ob rfl rfl rfl (Nat.le_of_ble_eq_true rfl) dX4_shows_24) 27 rfl (fun r5 M6 hw => ?_)
        refine q_goto hC 38 dX4_shows_27 (by decide) ?_
        exact r_iret hR dX4_shows_38 hw
    · refine q_iconst (v := (-1)) hC dX4_shows_13 rfl 14 rfl ?_
      exact r_iret hR dX4_shows_14 hw
theorem hdV_X2_meetingPlace : yX2_meetingPlace.cls = RX2 ∧ yX2_meetingPlace.cls ≠ "java/lang/invoke/MethodHandle" ∧ yX2_meetingPlace.cls ≠ "java/lang/invoke/VarHandle" ∧ (parseMethodDescriptor yX2_meetingPlace.desc).map (fun d => d.parameters.length) = some 0 := by decide +kernel
theorem inX4_meet_X4 : ∀ w ∈ u_ws RX4 TX4 12, w ∈ wsX4_meet := uX4_meet__wsX40
set_option maxRecDepth 100000 in
set_option maxHeartbeats 4000000 in
theorem ctX4_meet (l : Launch) (g : GG) (M : MM)  (Q : Int32 → MM → Prop) (hF : full g) (hw : wX4_meet Q M ) : MI g l yX4_meet wsX4_meet (rmOf 4 92) [.ref (gA g 0)] M Q := by
  refine mk_MI (cc := cX4_meet) (maxL := 1) (by decide) rfl (Nat.le_of_ble_eq_true rfl) ?_
  intro z Qf hC hR
  show XX z g Qf 1 0 [(0, .ref (gA g 0))] [] M
  refine q_aload_n hC dX4_meet_0 0 rfl 1 rfl ?_
  refine q_getR (C := RX4) (T := TX4) (N := 12) (ci := 4) hC inX4_meet_X4 (obF0 hF) rfl 0 (by decide) (uX4_meet__o _ (List.mem_of_getElem? (l := owX4_meet) (i := 1) rfl)) rfl 1 (fun _ => rfl) dX4_meet_1 4 rfl ?_
  refine r_callI hC (go_V (q := (RX2, TX2, 14)) (As := []) (rest := []) hC (ctX2_meetingPlace (zl z) g M 1 _ (hF.tp (b := 1) (Or.inl rfl)) hw) 0 gX4_meet_X2_meetingPlace rfl ⟨rfl, rfl⟩ hdV_X2_meetingPlace ⟨Nat.le_of_ble_eq_true rfl, Nat.le_of_ble_eq_true rfl⟩ (hF.tp (b := 1) (Or.inl rfl)).ob rfl rfl rfl (Nat.le_of_ble_eq_true rfl) dX4_meet_4) 7 rfl (fun r1 M2 hw => ?_)
  exact r_iret hR dX4_meet_7 hw
theorem inX4_ticks_X4 : ∀ w ∈ u_ws RX4 TX4 12, w ∈ wsX4_ticks := uX4_ticks__wsX40
set_option maxRecDepth 100000 in
set_option maxHeartbeats 4000000 in
theorem ctX4_ticks (l : Launch) (g : GG) (M : MM) (v1 : Int32) (v2 : Int32) (v3 : Int32) (Q : Int32 → MM → Prop) (hF : full g) (hw : wX4_ticks Q M v1 v2 v3) : MI g l yX4_ticks wsX4_ticks (rmOf 4 93) [.ref (gA g 0), .int v1, .int v2, .int v3] M Q := by
  refine mk_MI (cc := cX4_ticks) (maxL := 4) (by decide) rfl (Nat.le_of_ble_eq_true rfl) ?_
  intro z Qf hC hR
  show XX z g Qf 4 0 [(0, .ref (gA g 0)), (1, .int v1), (2, .int v2), (3, .int v3)] [] M
  refine q_aload_n hC dX4_ticks_0 0 rfl 1 rfl ?_
  refine q_getR (C := RX4) (T := TX4) (N := 12) (ci := 4) hC inX4_ticks_X4 (obF0 hF) rfl 0 (by decide) (uX4_ticks__o _ (List.mem_of_getElem? (l := owX4_ticks) (i := 1) rfl)) rfl 1 (fun _ => rfl) dX4_ticks_1 4 rfl ?_
  refine q_iload_n hC dX4_ticks_4 1 rfl 5 rfl ?_
  refine r_callI hC (go_V (q := (RX2, TX2, 14)) (As := [.int v1]) (rest := []) hC (ctX2_hasPlace (zl z) g M 1 v1 _ (hF.tp (b := 1) (Or.inl rfl)) hw) 1 gX4_ticks_X2_hasPlace rfl ⟨rfl, rfl⟩ hdV_X2_hasPlace ⟨Nat.le_of_ble_eq_true rfl, Nat.le_of_ble_eq_true rfl⟩ (hF.tp (b := 1) (Or.inl rfl)).ob rfl rfl rfl (Nat.le_of_ble_eq_true rfl) dX4_ticks_5) 8 rfl (fun r1 M2 hw => ?_)
  refine q_if_eq hC 22 dX4_ticks_8 (by decide) 11 rfl hw (fun hw => ?_) (fun hw => ?_)
  · refine q_iconst (v := (-1)) hC dX4_ticks_22 rfl 23 rfl ?_
    exact r_iret hR dX4_ticks_23 hw
  · refine q_aload_n hC dX4_ticks_11 0 rfl 12 rfl ?_
    refine q_getR (C := RX4) (T := TX4) (N := 12) (ci := 4) hC inX4_ticks_X4 (obF0 hF) rfl 0 (by decide) (uX4_ticks__o _ (List.mem_of_getElem? (l := owX4_ticks) (i := 1) rfl)) rfl 1 (fun _ => rfl) dX4_ticks_12 15 rfl ?_
    refine q_iload_n hC dX4_ticks_15 2 rfl 16 rfl ?_
    refine r_callI hC (go_V (q := (RX2, TX2, 14)) (As := [.int v2]) (rest := []) hC (ctX2_hasPlace (zl z) g M2 1 v2 _ (hF.tp (b := 1) (Or.inl rfl)) hw) 1 gX4_ticks_X2_hasPlace rfl ⟨rfl, rfl⟩ hdV_X2_hasPlace ⟨Nat.le_of_ble_eq_true rfl, Nat.le_of_ble_eq_true rfl⟩ (hF.tp (b := 1) (Or.inl rfl)).ob rfl rfl rfl (Nat.le_of_ble_eq_true rfl) dX4_ticks_16) 19 rfl (fun r3 M4 hw => ?_)
    refine q_if_ne hC 24 dX4_ticks_19 (by decide) 22 rfl hw (fun hw => ?_) (fun hw => ?_)
    · refine q_iload_n hC dX4_ticks_24 3 rfl 25 rfl ?_
      by_cases c0 : v3 = 0
      · have hw := hw.1 c0
        refine q_tabIn hC 52 dX4_ticks_25 (by rw [c0]; decide) (by rw [c0]; decide) (by rw [c0]; rfl) (by decide) ?_
        refine q_aload_n hC dX4_ticks_52 0 rfl 53 rfl ?_
        refine q_getR (C := RX4) (T := TX4) (N := 12) (ci := 4) hC inX4_ticks_X4 (obF0 hF) rfl 0 (by decide) (uX4_ticks__o _ (List.mem_of_getElem? (l := owX4_ticks) (i := 1) rfl)) rfl 1 (fun _ => rfl) dX4_ticks_53 56 rfl ?_
        refine q_iload_n hC dX4_ticks_56 1 rfl 57 rfl ?_
        refine q_iload_n hC dX4_ticks_57 2 rfl 58 rfl ?_
        refine r_callI hC (go_V (q := (RX2, TX2, 14)) (As := [.int v1, .int v2]) (rest := []) hC (ctX2_played (zl z) g M4 1 v1 v2 _ (hF.tp (b := 1) (Or.inl rfl)) hw) 2 gX4_ticks_X2_played rfl ⟨rfl, rfl⟩ hdV_X2_played ⟨Nat.le_of_ble_eq_true rfl, Nat.le_of_ble_eq_true rfl⟩ (hF.tp (b := 1) (Or.inl rfl)).ob rfl rfl rfl (Nat.le_of_ble_eq_true rfl) dX4_ticks_58) 61 rfl (fun r5 M6 hw => ?_)
        exact r_iret hR dX4_ticks_61 hw
      · have hw := hw.2 c0
        by_cases c1 : v3 = 1
        · have hw := hw.1 c1
          refine q_tabIn hC 62 dX4_ticks_25 (by rw [c1]; decide) (by rw [c1]; decide) (by rw [c1]; rfl) (by decide) ?_
          refine q_aload_n hC dX4_ticks_62 0 rfl 63 rfl ?_
          refine q_getR (C := RX4) (T := TX4) (N := 12) (ci := 4) hC inX4_ticks_X4 (obF0 hF) rfl 0 (by decide) (uX4_ticks__o _ (List.mem_of_getElem? (l := owX4_ticks) (i := 1) rfl)) rfl 1 (fun _ => rfl) dX4_ticks_63 66 rfl ?_
          refine q_iload_n hC dX4_ticks_66 1 rfl 67 rfl ?_
          refine q_iload_n hC dX4_ticks_67 2 rfl 68 rfl ?_
          refine r_callI hC (go_V (q := (RX2, TX2, 14)) (As := [.int v1, .int v2]) (rest := []) hC (ctX2_wound (zl z) g M4 1 v1 v2 _ (hF.tp (b := 1) (Or.inl rfl)) hw) 2 gX4_ticks_X2_wound rfl ⟨rfl, rfl⟩ hdV_X2_wound ⟨Nat.le_of_ble_eq_true rfl, Nat.le_of_ble_eq_true rfl⟩ (hF.tp (b := 1) (Or.inl rfl)).ob rfl rfl rfl (Nat.le_of_ble_eq_true rfl) dX4_ticks_68) 71 rfl (fun r7 M8 hw => ?_)
          exact r_iret hR dX4_ticks_71 hw
        · have hw := hw.2 c1
          by_cases c2 : v3 = 2
          · have hw := hw.1 c2
            refine q_tabIn hC 72 dX4_ticks_25 (by rw [c2]; decide) (by rw [c2]; decide) (by rw [c2]; rfl) (by decide) ?_
            refine q_aload_n hC dX4_ticks_72 0 rfl 73 rfl ?_
            refine q_getR (C := RX4) (T := TX4) (N := 12) (ci := 4) hC inX4_ticks_X4 (obF0 hF) rfl 0 (by decide) (uX4_ticks__o _ (List.mem_of_getElem? (l := owX4_ticks) (i := 1) rfl)) rfl 1 (fun _ => rfl) dX4_ticks_73 76 rfl ?_
            refine q_iload_n hC dX4_ticks_76 1 rfl 77 rfl ?_
            refine q_iload_n hC dX4_ticks_77 2 rfl 78 rfl ?_
            refine r_callI hC (go_V (q := (RX2, TX2, 14)) (As := [.int v1, .int v2]) (rest := []) hC (ctX2_sooner (zl z) g M4 1 v1 v2 _ (hF.tp (b := 1) (Or.inl rfl)) hw) 2 gX4_ticks_X2_sooner rfl ⟨rfl, rfl⟩ hdV_X2_sooner ⟨Nat.le_of_ble_eq_true rfl, Nat.le_of_ble_eq_true rfl⟩ (hF.tp (b := 1) (Or.inl rfl)).ob rfl rfl rfl (Nat.le_of_ble_eq_true rfl) dX4_ticks_78) 81 rfl (fun r9 M10 hw => ?_)
            exact r_iret hR dX4_ticks_81 hw
          · have hw := hw.2 c2
            refine q_tabOut hC 82 dX4_ticks_25 (tab_out2 c0 c1 c2) (by decide) ?_
            refine q_iconst (v := (-1)) hC dX4_ticks_82 rfl 83 rfl ?_
            exact r_iret hR dX4_ticks_83 hw
    · refine q_iconst (v := (-1)) hC dX4_ticks_22 rfl 23 rfl ?_
      exact r_iret hR dX4_ticks_23 hw
theorem hdV_X2_goTo : yX2_goTo.cls = RX2 ∧ yX2_goTo.cls ≠ "java/lang/invoke/MethodHandle" ∧ yX2_goTo.cls ≠ "java/lang/invoke/VarHandle" ∧ (parseMethodDescriptor yX2_goTo.desc).map (fun d => d.parameters.length) = some 1 := by decide +kernel
theorem inX4_go_X4 : ∀ w ∈ u_ws RX4 TX4 12, w ∈ wsX4_go := uX4_go__wsX40
set_option maxRecDepth 100000 in
set_option maxHeartbeats 4000000 in
theorem ctX4_go (l : Launch) (g : GG) (M : MM) (v1 : Int32) (Q : Int32 → MM → Prop) (hF : full g) (hw : wX4_go Q M v1) : MI g l yX4_go wsX4_go (rmOf 5 115) [.ref (gA g 0), .int v1] M Q := by
  refine mk_MI (cc := cX4_go) (maxL := 2) (by decide) rfl (Nat.le_of_ble_eq_true rfl) ?_
  intro z Qf hC hR
  show XX z g Qf 2 0 [(0, .ref (gA g 0)), (1, .int v1)] [] M
  refine q_aload_n hC dX4_go_0 0 rfl 1 rfl ?_
  refine q_getR (C := RX4) (T := TX4) (N := 12) (ci := 4) hC inX4_go_X4 (obF0 hF) rfl 0 (by decide) (uX4_go__o _ (List.mem_of_getElem? (l := owX4_go) (i := 1) rfl)) rfl 1 (fun _ => rfl) dX4_go_1 4 rfl ?_
  refine q_iload_n hC dX4_go_4 1 rfl 5 rfl ?_
  refine r_callI hC (go_V (q := (RX2, TX2, 14)) (As := [.int v1]) (rest := []) hC (ctX2_hasPlace (zl z) g M 1 v1 _ (hF.tp (b := 1) (Or.inl rfl)) hw) 1 gX4_go_X2_hasPlace rfl ⟨rfl, rfl⟩ hdV_X2_hasPlace ⟨Nat.le_of_ble_eq_true rfl, Nat.le_of_ble_eq_true rfl⟩ (hF.tp (b := 1) (Or.inl rfl)).ob rfl rfl rfl (Nat.le_of_ble_eq_true rfl) dX4_go_5) 8 rfl (fun r1 M2 hw => ?_)
  refine q_if_eq hC 22 dX4_go_8 (by decide) 11 rfl hw (fun hw => ?_) (fun hw => ?_)
  · refine q_iconst (v := (-1)) hC dX4_go_22 rfl 23 rfl ?_
    exact r_iret hR dX4_go_23 hw
  · refine q_aload_n hC dX4_go_11 0 rfl 12 rfl ?_
    refine q_getR (C := RX4) (T := TX4) (N := 12) (ci := 4) hC inX4_go_X4 (obF0 hF) rfl 0 (by decide) (uX4_go__o _ (List.mem_of_getElem? (l := owX4_go) (i := 1) rfl)) rfl 1 (fun _ => rfl) dX4_go_12 15 rfl ?_
    refine q_iload_n hC dX4_go_15 1 rfl 16 rfl ?_
    refine r_callI hC (go_V (q := (RX2, TX2, 14)) (As := [.int v1]) (rest := []) hC (ctX2_goTo (zl z) g M2 1 v1 _ (hF.tp (b := 1) (Or.inl rfl)) hw) 1 gX4_go_X2_goTo rfl ⟨rfl, rfl⟩ hdV_X2_goTo ⟨Nat.le_of_ble_eq_true rfl, Nat.le_of_ble_eq_true rfl⟩ (hF.tp (b := 1) (Or.inl rfl)).ob rfl rfl rfl (Nat.le_of_ble_eq_true rfl) dX4_go_16) 19 rfl (fun r3 M4 hw => ?_)
    refine q_goto hC 23 dX4_go_19 (by decide) ?_
    exact r_iret hR dX4_go_23 hw
theorem inX4_now_X2 : ∀ w ∈ u_ws RX2 TX2 14, w ∈ wsX4_now := uX4_now__wsX20
theorem inX4_now_X4 : ∀ w ∈ u_ws RX4 TX4 12, w ∈ wsX4_now := uX4_now__wsX40
set_option maxRecDepth 100000 in
set_option maxHeartbeats 4000000 in
theorem ctX4_now (l : Launch) (g : GG) (M : MM) (v1 : Int32) (Q : Int32 → MM → Prop) (hF : full g) (hw : wX4_now Q M v1) : MI g l yX4_now wsX4_now (rmOf 3 68) [.ref (gA g 0), .int v1] M Q := by
  refine mk_MI (cc := cX4_now) (maxL := 2) (by decide) rfl (Nat.le_of_ble_eq_true rfl) ?_
  intro z Qf hC hR
  show XX z g Qf 2 0 [(0, .ref (gA g 0)), (1, .int v1)] [] M
  refine q_iload_n hC dX4_now_0 1 rfl 1 rfl ?_
  by_cases c0 : v1 = 0
  · have hw := hw.1 c0
    refine q_tabIn hC 40 dX4_now_1 (by rw [c0]; decide) (by rw [c0]; decide) (by rw [c0]; rfl) (by decide) ?_
    refine q_aload_n hC dX4_now_40 0 rfl 41 rfl ?_
    refine q_getR (C := RX4) (T := TX4) (N := 12) (ci := 4) hC inX4_now_X4 (obF0 hF) rfl 0 (by decide) (uX4_now__o _ (List.mem_of_getElem? (l := owX4_now) (i := 1) rfl)) rfl 1 (fun _ => rfl) dX4_now_41 44 rfl ?_
    refine q_getI (C := RX2) (T := TX2) (N := 14) (ci := 2) hC inX4_now_X2 (hF.tp (b := 1) (Or.inl rfl)).ob rfl 9 (by decide) (uX4_now__o _ (List.mem_of_getElem? (l := owX4_now) (i := 2) rfl)) rfl (fun _ => rfl) dX4_now_44 47 rfl ?_
    exact r_iret hR dX4_now_47 hw
  · have hw := hw.2 c0
    by_cases c1 : v1 = 1
    · have hw := hw.1 c1
      refine q_tabIn hC 48 dX4_now_1 (by rw [c1]; decide) (by rw [c1]; decide) (by rw [c1]; rfl) (by decide) ?_
      refine q_aload_n hC dX4_now_48 0 rfl 49 rfl ?_
      refine q_getR (C := RX4) (T := TX4) (N := 12) (ci := 4) hC inX4_now_X4 (obF0 hF) rfl 0 (by decide) (uX4_now__o _ (List.mem_of_getElem? (l := owX4_now) (i := 1) rfl)) rfl 1 (fun _ => rfl) dX4_now_49 52 rfl ?_
      refine q_getI (C := RX2) (T := TX2) (N := 14) (ci := 2) hC inX4_now_X2 (hF.tp (b := 1) (Or.inl rfl)).ob rfl 10 (by decide) (uX4_now__o _ (List.mem_of_getElem? (l := owX4_now) (i := 3) rfl)) rfl (fun _ => rfl) dX4_now_52 55 rfl ?_
      exact r_iret hR dX4_now_55 hw
    · have hw := hw.2 c1
      by_cases c2 : v1 = 2
      · have hw := hw.1 c2
        refine q_tabIn hC 56 dX4_now_1 (by rw [c2]; decide) (by rw [c2]; decide) (by rw [c2]; rfl) (by decide) ?_
        refine q_aload_n hC dX4_now_56 0 rfl 57 rfl ?_
        refine q_getR (C := RX4) (T := TX4) (N := 12) (ci := 4) hC inX4_now_X4 (obF0 hF) rfl 0 (by decide) (uX4_now__o _ (List.mem_of_getElem? (l := owX4_now) (i := 1) rfl)) rfl 1 (fun _ => rfl) dX4_now_57 60 rfl ?_
        refine q_aload_n hC dX4_now_60 0 rfl 61 rfl ?_
        refine q_getR (C := RX4) (T := TX4) (N := 12) (ci := 4) hC inX4_now_X4 (obF0 hF) rfl 0 (by decide) (uX4_now__o _ (List.mem_of_getElem? (l := owX4_now) (i := 1) rfl)) rfl 1 (fun _ => rfl) dX4_now_61 64 rfl ?_
        refine q_getI (C := RX2) (T := TX2) (N := 14) (ci := 2) hC inX4_now_X2 (hF.tp (b := 1) (Or.inl rfl)).ob rfl 9 (by decide) (uX4_now__o _ (List.mem_of_getElem? (l := owX4_now) (i := 2) rfl)) rfl (fun _ => rfl) dX4_now_64 67 rfl ?_
        refine r_callI hC (go_V (q := (RX2, TX2, 14)) (As := [.int (M 1 9)]) (rest := []) hC (ctX2_rightTurns (zl z) g M 1 (M 1 9) _ (hF.tp (b := 1) (Or.inl rfl)) hw) 1 gX4_now_X2_rightTurns rfl ⟨rfl, rfl⟩ hdV_X2_rightTurns ⟨Nat.le_of_ble_eq_true rfl, Nat.le_of_ble_eq_true rfl⟩ (hF.tp (b := 1) (Or.inl rfl)).ob rfl rfl rfl (Nat.le_of_ble_eq_true rfl) dX4_now_67) 70 rfl (fun r1 M2 hw => ?_)
        exact r_iret hR dX4_now_70 hw
      · have hw := hw.2 c2
        by_cases c3 : v1 = 3
        · have hw := hw.1 c3
          refine q_tabIn hC 71 dX4_now_1 (by rw [c3]; decide) (by rw [c3]; decide) (by rw [c3]; rfl) (by decide) ?_
          refine q_aload_n hC dX4_now_71 0 rfl 72 rfl ?_
          refine q_getR (C := RX4) (T := TX4) (N := 12) (ci := 4) hC inX4_now_X4 (obF0 hF) rfl 0 (by decide) (uX4_now__o _ (List.mem_of_getElem? (l := owX4_now) (i := 1) rfl)) rfl 1 (fun _ => rfl) dX4_now_72 75 rfl ?_
          refine q_getI (C := RX2) (T := TX2) (N := 14) (ci := 2) hC inX4_now_X2 (hF.tp (b := 1) (Or.inl rfl)).ob rfl 12 (by decide) (uX4_now__o _ (List.mem_of_getElem? (l := owX4_now) (i := 4) rfl)) rfl (fun _ => rfl) dX4_now_75 78 rfl ?_
          exact r_iret hR dX4_now_78 hw
        · have hw := hw.2 c3
          by_cases c4 : v1 = 4
          · have hw := hw.1 c4
            refine q_tabIn hC 79 dX4_now_1 (by rw [c4]; decide) (by rw [c4]; decide) (by rw [c4]; rfl) (by decide) ?_
            refine q_aload_n hC dX4_now_79 0 rfl 80 rfl ?_
            refine q_getR (C := RX4) (T := TX4) (N := 12) (ci := 4) hC inX4_now_X4 (obF0 hF) rfl 0 (by decide) (uX4_now__o _ (List.mem_of_getElem? (l := owX4_now) (i := 1) rfl)) rfl 1 (fun _ => rfl) dX4_now_80 83 rfl ?_
            refine q_getI (C := RX2) (T := TX2) (N := 14) (ci := 2) hC inX4_now_X2 (hF.tp (b := 1) (Or.inl rfl)).ob rfl 11 (by decide) (uX4_now__o _ (List.mem_of_getElem? (l := owX4_now) (i := 5) rfl)) rfl (fun _ => rfl) dX4_now_83 86 rfl ?_
            exact r_iret hR dX4_now_86 hw
          · have hw := hw.2 c4
            by_cases c5 : v1 = 5
            · have hw := hw.1 c5
              refine q_tabIn hC 87 dX4_now_1 (by rw [c5]; decide) (by rw [c5]; decide) (by rw [c5]; rfl) (by decide) ?_
              refine q_aload_n hC dX4_now_87 0 rfl 88 rfl ?_
              refine q_getR (C := RX4) (T := TX4) (N := 12) (ci := 4) hC inX4_now_X4 (obF0 hF) rfl 0 (by decide) (uX4_now__o _ (List.mem_of_getElem? (l := owX4_now) (i := 1) rfl)) rfl 1 (fun _ => rfl) dX4_now_88 91 rfl ?_
              refine q_iconst (v := 0) hC dX4_now_91 rfl 92 rfl ?_
              refine r_callI hC (go_V (q := (RX2, TX2, 14)) (As := [.int 0]) (rest := []) hC (ctX2_ruled (zl z) g M 1 0 _ (hF.tp (b := 1) (Or.inl rfl)) hw) 1 gX4_now_X2_ruled rfl ⟨rfl, rfl⟩ hdV_X2_ruled ⟨Nat.le_of_ble_eq_true rfl, Nat.le_of_ble_eq_true rfl⟩ (hF.tp (b := 1) (Or.inl rfl)).ob rfl rfl rfl (Nat.le_of_ble_eq_true rfl) dX4_now_92) 95 rfl (fun r3 M4 hw => ?_)
              refine q_aload_n hC dX4_now_95 0 rfl 96 rfl ?_
              refine q_getR (C := RX4) (T := TX4) (N := 12) (ci := 4) hC inX4_now_X4 (obF0 hF) rfl 0 (by decide) (uX4_now__o _ (List.mem_of_getElem? (l := owX4_now) (i := 1) rfl)) rfl 1 (fun _ => rfl) dX4_now_96 99 rfl ?_
              refine q_aload_n hC dX4_now_99 0 rfl 100 rfl ?_
              refine q_getR (C := RX4) (T := TX4) (N := 12) (ci := 4) hC inX4_now_X4 (obF0 hF) rfl 0 (by decide) (uX4_now__o _ (List.mem_of_getElem? (l := owX4_now) (i := 1) rfl)) rfl 1 (fun _ => rfl) dX4_now_100 103 rfl ?_
              refine q_getI (C := RX2) (T := TX2) (N := 14) (ci := 2) hC inX4_now_X2 (hF.tp (b := 1) (Or.inl rfl)).ob rfl 8 (by decide) (uX4_now__o _ (List.mem_of_getElem? (l := owX4_now) (i := 6) rfl)) rfl (fun _ => rfl) dX4_now_103 106 rfl ?_
              refine q_iconst (v := 1) hC dX4_now_106 rfl 107 rfl ?_
              refine q_isub hC dX4_now_107 108 rfl ?_
              refine r_callI hC (go_V (q := (RX2, TX2, 14)) (As := [.int ((M4 1 8) - (1 : Int32))]) (rest := [.int r3]) hC (ctX2_endOf (zl z) g M4 1 ((M4 1 8) - (1 : Int32)) _ (hF.tp (b := 1) (Or.inl rfl)) hw) 1 gX4_now_X2_endOf rfl ⟨rfl, rfl⟩ hdV_X2_endOf ⟨Nat.le_of_ble_eq_true rfl, Nat.le_of_ble_eq_true rfl⟩ (hF.tp (b := 1) (Or.inl rfl)).ob rfl rfl rfl (Nat.le_of_ble_eq_true rfl) dX4_now_108) 111 rfl (fun r5 M6 hw => ?_)
              refine q_isub hC dX4_now_111 112 rfl ?_
              exact r_iret hR dX4_now_112 hw
            · have hw := hw.2 c5
              refine q_tabOut hC 113 dX4_now_1 (tab_out5 c0 c1 c2 c3 c4 c5) (by decide) ?_
              refine q_iconst (v := (-1)) hC dX4_now_113 rfl 114 rfl ?_
              exact r_iret hR dX4_now_114 hw
theorem hdV_X2_reach : yX2_reach.cls = RX2 ∧ yX2_reach.cls ≠ "java/lang/invoke/MethodHandle" ∧ yX2_reach.cls ≠ "java/lang/invoke/VarHandle" ∧ (parseMethodDescriptor yX2_reach.desc).map (fun d => d.parameters.length) = some 3 := by decide +kernel
theorem inX4_within_X2 : ∀ w ∈ u_ws RX2 TX2 14, w ∈ wsX4_within := uX4_within__wsX20
theorem inX4_within_X4 : ∀ w ∈ u_ws RX4 TX4 12, w ∈ wsX4_within := uX4_within__wsX40
set_option maxRecDepth 100000 in
set_option maxHeartbeats 4000000 in
theorem ctX4_within (l : Launch) (g : GG) (M : MM) (v1 : Int32) (v2 : Int32) (Q : Int32 → MM → Prop) (hF : full g) (hw : wX4_within Q M v1 v2) : MI g l yX4_within wsX4_within (rmOf 5 120) [.ref (gA g 0), .int v1, .int v2] M Q := by
  refine mk_MI (cc := cX4_within) (maxL := 3) (by decide) rfl (Nat.le_of_ble_eq_true rfl) ?_
  intro z Qf hC hR
  show XX z g Qf 3 0 [(0, .ref (gA g 0)), (1, .int v1), (2, .int v2)] [] M
  refine q_iload_n hC dX4_within_0 1 rfl 1 rfl ?_
  refine q_iconst (v := 0) hC dX4_within_1 rfl 2 rfl ?_
  refine q_ldc (v := 999999) hC (uX4_within__o _ (List.mem_of_getElem? (l := owX4_within) (i := 1) rfl)) dX4_within_2 4 rfl ?_
  refine r_callI hC (go_T (As := [.int v1, .int 0, .int 999999]) (rest := []) hC (ctX4_isBetween (zl z) g M v1 0 999999 _ hw) 3 gX4_within_X4_isBetween rfl ⟨rfl, rfl⟩ hdT_X4_isBetween ⟨Nat.le_of_ble_eq_true rfl, Nat.le_of_ble_eq_true rfl⟩ rfl rfl (Nat.le_of_ble_eq_true rfl) dX4_within_4) 7 rfl (fun r1 M2 hw => ?_)
  refine q_if_ne hC 12 dX4_within_7 (by decide) 10 rfl hw (fun hw => ?_) (fun hw => ?_)
  · refine q_aload_n hC dX4_within_12 0 rfl 13 rfl ?_
    refine q_getR (C := RX4) (T := TX4) (N := 12) (ci := 4) hC inX4_within_X4 (obF0 hF) rfl 0 (by decide) (uX4_within__o _ (List.mem_of_getElem? (l := owX4_within) (i := 2) rfl)) rfl 1 (fun _ => rfl) dX4_within_13 16 rfl ?_
    refine q_getI (C := RX2) (T := TX2) (N := 14) (ci := 2) hC inX4_within_X2 (hF.tp (b := 1) (Or.inl rfl)).ob rfl 9 (by decide) (uX4_within__o _ (List.mem_of_getElem? (l := owX4_within) (i := 3) rfl)) rfl (fun _ => rfl) dX4_within_16 19 rfl ?_
    refine q_iload_n hC dX4_within_19 2 rfl 20 rfl ?_
    refine q_if_eq hC 43 dX4_within_20 (by decide) 23 rfl hw (fun hw => ?_) (fun hw => ?_)
    · refine q_aload_n hC dX4_within_43 0 rfl 44 rfl ?_
      refine q_getR (C := RX4) (T := TX4) (N := 12) (ci := 4) hC inX4_within_X4 (obF0 hF) rfl 0 (by decide) (uX4_within__o _ (List.mem_of_getElem? (l := owX4_within) (i := 2) rfl)) rfl 1 (fun _ => rfl) dX4_within_44 47 rfl ?_
      refine q_iload_n hC dX4_within_47 1 rfl 48 rfl ?_
      refine q_aload_n hC dX4_within_48 0 rfl 49 rfl ?_
      refine q_getR (C := RX4) (T := TX4) (N := 12) (ci := 4) hC inX4_within_X4 (obF0 hF) rfl 0 (by decide) (uX4_within__o _ (List.mem_of_getElem? (l := owX4_within) (i := 2) rfl)) rfl 1 (fun _ => rfl) dX4_within_49 52 rfl ?_
      refine q_iconst (v := 0) hC dX4_within_52 rfl 53 rfl ?_
      refine r_callI hC (go_V (q := (RX2, TX2, 14)) (As := [.int 0]) (rest := [.int v1, .ref (gA g 1), .int (M2 1 9)]) hC (ctX2_ruled (zl z) g M2 1 0 _ (hF.tp (b := 1) (Or.inl rfl)) hw) 1 gX4_within_X2_ruled rfl ⟨rfl, rfl⟩ hdV_X2_ruled ⟨Nat.le_of_ble_eq_true rfl, Nat.le_of_ble_eq_true rfl⟩ (hF.tp (b := 1) (Or.inl rfl)).ob rfl rfl rfl (Nat.le_of_ble_eq_true rfl) dX4_within_53) 56 rfl (fun r3 M4 hw => ?_)
      refine q_aload_n hC dX4_within_56 0 rfl 57 rfl ?_
      refine q_getR (C := RX4) (T := TX4) (N := 12) (ci := 4) hC inX4_within_X4 (obF0 hF) rfl 0 (by decide) (uX4_within__o _ (List.mem_of_getElem? (l := owX4_within) (i := 2) rfl)) rfl 1 (fun _ => rfl) dX4_within_57 60 rfl ?_
      refine q_getI (C := RX2) (T := TX2) (N := 14) (ci := 2) hC inX4_within_X2 (hF.tp (b := 1) (Or.inl rfl)).ob rfl 9 (by decide) (uX4_within__o _ (List.mem_of_getElem? (l := owX4_within) (i := 3) rfl)) rfl (fun _ => rfl) dX4_within_60 63 rfl ?_
      refine q_isub hC dX4_within_63 64 rfl ?_
      refine q_iconst (v := 1) hC dX4_within_64 rfl 65 rfl ?_
      refine r_callI hC (go_V (q := (RX2, TX2, 14)) (As := [.int v1, .int (r3 - (M4 1 9)), .int 1]) (rest := [.int (M2 1 9)]) hC (ctX2_reach (zl z) g M4 1 v1 (r3 - (M4 1 9)) 1 _ (hF.tp (b := 1) (Or.inl rfl)) hw) 3 gX4_within_X2_reach rfl ⟨rfl, rfl⟩ hdV_X2_reach ⟨Nat.le_of_ble_eq_true rfl, Nat.le_of_ble_eq_true rfl⟩ (hF.tp (b := 1) (Or.inl rfl)).ob rfl rfl rfl (Nat.le_of_ble_eq_true rfl) dX4_within_65) 68 rfl (fun r5 M6 hw => ?_)
      refine q_iadd hC dX4_within_68 69 rfl ?_
      exact r_iret hR dX4_within_69 hw
    · refine q_aload_n hC dX4_within_23 0 rfl 24 rfl ?_
      refine q_getR (C := RX4) (T := TX4) (N := 12) (ci := 4) hC inX4_within_X4 (obF0 hF) rfl 0 (by decide) (uX4_within__o _ (List.mem_of_getElem? (l := owX4_within) (i := 2) rfl)) rfl 1 (fun _ => rfl) dX4_within_24 27 rfl ?_
      refine q_iload_n hC dX4_within_27 1 rfl 28 rfl ?_
      refine q_aload_n hC dX4_within_28 0 rfl 29 rfl ?_
      refine q_getR (C := RX4) (T := TX4) (N := 12) (ci := 4) hC inX4_within_X4 (obF0 hF) rfl 0 (by decide) (uX4_within__o _ (List.mem_of_getElem? (l := owX4_within) (i := 2) rfl)) rfl 1 (fun _ => rfl) dX4_within_29 32 rfl ?_
      refine q_getI (C := RX2) (T := TX2) (N := 14) (ci := 2) hC inX4_within_X2 (hF.tp (b := 1) (Or.inl rfl)).ob rfl 9 (by decide) (uX4_within__o _ (List.mem_of_getElem? (l := owX4_within) (i := 3) rfl)) rfl (fun _ => rfl) dX4_within_32 35 rfl ?_
      refine q_iconst (v := (-1)) hC dX4_within_35 rfl 36 rfl ?_
      refine r_callI hC (go_V (q := (RX2, TX2, 14)) (As := [.int v1, .int (M2 1 9), .int (-1)]) (rest := [.int (M2 1 9)]) hC (ctX2_reach (zl z) g M2 1 v1 (M2 1 9) (-1) _ (hF.tp (b := 1) (Or.inl rfl)) hw) 3 gX4_within_X2_reach rfl ⟨rfl, rfl⟩ hdV_X2_reach ⟨Nat.le_of_ble_eq_true rfl, Nat.le_of_ble_eq_true rfl⟩ (hF.tp (b := 1) (Or.inl rfl)).ob rfl rfl rfl (Nat.le_of_ble_eq_true rfl) dX4_within_36) 39 rfl (fun r7 M8 hw => ?_)
      refine q_ineg hC dX4_within_39 40 rfl ?_
      refine q_goto hC 68 dX4_within_40 (by decide) ?_
      refine q_iadd hC dX4_within_68 69 rfl ?_
      exact r_iret hR dX4_within_69 hw
  · refine q_iconst (v := (-1)) hC dX4_within_10 rfl 11 rfl ?_
    exact r_iret hR dX4_within_11 hw
theorem inX4_block_X4 : ∀ w ∈ u_ws RX4 TX4 12, w ∈ wsX4_block := uX4_block__wsX40
set_option maxRecDepth 100000 in
set_option maxHeartbeats 4000000 in
theorem ctX4_block (l : Launch) (g : GG) (M : MM) (v1 : Int32) (v2 : Int32) (Q : Int32 → MM → Prop) (hF : full g) (hw : wX4_block Q M v1 v2) : MI g l yX4_block wsX4_block (rmOf 3 64) [.ref (gA g 0), .int v1, .int v2] M Q := by
  refine mk_MI (cc := cX4_block) (maxL := 3) (by decide) rfl (Nat.le_of_ble_eq_true rfl) ?_
  intro z Qf hC hR
  show XX z g Qf 3 0 [(0, .ref (gA g 0)), (1, .int v1), (2, .int v2)] [] M
  refine q_aload_n hC dX4_block_0 0 rfl 1 rfl ?_
  refine q_getR (C := RX4) (T := TX4) (N := 12) (ci := 4) hC inX4_block_X4 (obF0 hF) rfl 0 (by decide) (uX4_block__o _ (List.mem_of_getElem? (l := owX4_block) (i := 1) rfl)) rfl 1 (fun _ => rfl) dX4_block_1 4 rfl ?_
  refine q_iload_n hC dX4_block_4 1 rfl 5 rfl ?_
  refine r_callI hC (go_V (q := (RX2, TX2, 14)) (As := [.int v1]) (rest := []) hC (ctX2_hasBlock (zl z) g M 1 v1 _ (hF.tp (b := 1) (Or.inl rfl)) hw) 1 gX4_block_X2_hasBlock rfl ⟨rfl, rfl⟩ hdV_X2_hasBlock ⟨Nat.le_of_ble_eq_true rfl, Nat.le_of_ble_eq_true rfl⟩ (hF.tp (b := 1) (Or.inl rfl)).ob rfl rfl rfl (Nat.le_of_ble_eq_true rfl) dX4_block_5) 8 rfl (fun r1 M2 hw => ?_)
  refine q_if_ne hC 13 dX4_block_8 (by decide) 11 rfl hw (fun hw => ?_) (fun hw => ?_)
  · refine q_iload_n hC dX4_block_13 2 rfl 14 rfl ?_
    by_cases c0 : v2 = 0
    · have hw := hw.1 c0
      refine q_tabIn hC 48 dX4_block_14 (by rw [c0]; decide) (by rw [c0]; decide) (by rw [c0]; rfl) (by decide) ?_
      refine q_aload_n hC dX4_block_48 0 rfl 49 rfl ?_
      refine q_getR (C := RX4) (T := TX4) (N := 12) (ci := 4) hC inX4_block_X4 (obF0 hF) rfl 0 (by decide) (uX4_block__o _ (List.mem_of_getElem? (l := owX4_block) (i := 1) rfl)) rfl 1 (fun _ => rfl) dX4_block_49 52 rfl ?_
      refine q_iload_n hC dX4_block_52 1 rfl 53 rfl ?_
      refine r_callI hC (go_V (q := (RX2, TX2, 14)) (As := [.int v1]) (rest := []) hC (ctX2_beginOf (zl z) g M2 1 v1 _ (hF.tp (b := 1) (Or.inl rfl)) hw) 1 gX4_block_X2_beginOf rfl ⟨rfl, rfl⟩ hdV_X2_beginOf ⟨Nat.le_of_ble_eq_true rfl, Nat.le_of_ble_eq_true rfl⟩ (hF.tp (b := 1) (Or.inl rfl)).ob rfl rfl rfl (Nat.le_of_ble_eq_true rfl) dX4_block_53) 56 rfl (fun r3 M4 hw => ?_)
      exact r_iret hR dX4_block_56 hw
    · have hw := hw.2 c0
      by_cases c1 : v2 = 1
      · have hw := hw.1 c1
        refine q_tabIn hC 57 dX4_block_14 (by rw [c1]; decide) (by rw [c1]; decide) (by rw [c1]; rfl) (by decide) ?_
        refine q_aload_n hC dX4_block_57 0 rfl 58 rfl ?_
        refine q_getR (C := RX4) (T := TX4) (N := 12) (ci := 4) hC inX4_block_X4 (obF0 hF) rfl 0 (by decide) (uX4_block__o _ (List.mem_of_getElem? (l := owX4_block) (i := 1) rfl)) rfl 1 (fun _ => rfl) dX4_block_58 61 rfl ?_
        refine q_iload_n hC dX4_block_61 1 rfl 62 rfl ?_
        refine r_callI hC (go_V (q := (RX2, TX2, 14)) (As := [.int v1]) (rest := []) hC (ctX2_longOf (zl z) g M2 1 v1 _ (hF.tp (b := 1) (Or.inl rfl)) hw) 1 gX4_block_X2_longOf rfl ⟨rfl, rfl⟩ hdV_X2_longOf ⟨Nat.le_of_ble_eq_true rfl, Nat.le_of_ble_eq_true rfl⟩ (hF.tp (b := 1) (Or.inl rfl)).ob rfl rfl rfl (Nat.le_of_ble_eq_true rfl) dX4_block_62) 65 rfl (fun r5 M6 hw => ?_)
        exact r_iret hR dX4_block_65 hw
      · have hw := hw.2 c1
        by_cases c2 : v2 = 2
        · have hw := hw.1 c2
          refine q_tabIn hC 66 dX4_block_14 (by rw [c2]; decide) (by rw [c2]; decide) (by rw [c2]; rfl) (by decide) ?_
          refine q_aload_n hC dX4_block_66 0 rfl 67 rfl ?_
          refine q_getR (C := RX4) (T := TX4) (N := 12) (ci := 4) hC inX4_block_X4 (obF0 hF) rfl 0 (by decide) (uX4_block__o _ (List.mem_of_getElem? (l := owX4_block) (i := 1) rfl)) rfl 1 (fun _ => rfl) dX4_block_67 70 rfl ?_
          refine q_iload_n hC dX4_block_70 1 rfl 71 rfl ?_
          refine r_callI hC (go_V (q := (RX2, TX2, 14)) (As := [.int v1]) (rest := []) hC (ctX2_sizeOf (zl z) g M2 1 v1 _ (hF.tp (b := 1) (Or.inl rfl)) hw) 1 gX4_block_X2_sizeOf rfl ⟨rfl, rfl⟩ hdV_X2_sizeOf ⟨Nat.le_of_ble_eq_true rfl, Nat.le_of_ble_eq_true rfl⟩ (hF.tp (b := 1) (Or.inl rfl)).ob rfl rfl rfl (Nat.le_of_ble_eq_true rfl) dX4_block_71) 74 rfl (fun r7 M8 hw => ?_)
          exact r_iret hR dX4_block_74 hw
        · have hw := hw.2 c2
          by_cases c3 : v2 = 3
          · have hw := hw.1 c3
            refine q_tabIn hC 75 dX4_block_14 (by rw [c3]; decide) (by rw [c3]; decide) (by rw [c3]; rfl) (by decide) ?_
            refine q_aload_n hC dX4_block_75 0 rfl 76 rfl ?_
            refine q_getR (C := RX4) (T := TX4) (N := 12) (ci := 4) hC inX4_block_X4 (obF0 hF) rfl 0 (by decide) (uX4_block__o _ (List.mem_of_getElem? (l := owX4_block) (i := 1) rfl)) rfl 1 (fun _ => rfl) dX4_block_76 79 rfl ?_
            refine q_iload_n hC dX4_block_79 1 rfl 80 rfl ?_
            refine r_callI hC (go_V (q := (RX2, TX2, 14)) (As := [.int v1]) (rest := []) hC (ctX2_isMark (zl z) g M2 1 v1 _ (hF.tp (b := 1) (Or.inl rfl)) hw) 1 gX4_block_X2_isMark rfl ⟨rfl, rfl⟩ hdV_X2_isMark ⟨Nat.le_of_ble_eq_true rfl, Nat.le_of_ble_eq_true rfl⟩ (hF.tp (b := 1) (Or.inl rfl)).ob rfl rfl rfl (Nat.le_of_ble_eq_true rfl) dX4_block_80) 83 rfl (fun r9 M10 hw => ?_)
            refine q_if_eq hC 90 dX4_block_83 (by decide) 86 rfl hw (fun hw => ?_) (fun hw => ?_)
            · refine q_aload_n hC dX4_block_90 0 rfl 91 rfl ?_
              refine q_getR (C := RX4) (T := TX4) (N := 12) (ci := 4) hC inX4_block_X4 (obF0 hF) rfl 0 (by decide) (uX4_block__o _ (List.mem_of_getElem? (l := owX4_block) (i := 1) rfl)) rfl 1 (fun _ => rfl) dX4_block_91 94 rfl ?_
              refine q_iload_n hC dX4_block_94 1 rfl 95 rfl ?_
              refine q_aload_n hC dX4_block_95 0 rfl 96 rfl ?_
              refine q_getR (C := RX4) (T := TX4) (N := 12) (ci := 4) hC inX4_block_X4 (obF0 hF) rfl 0 (by decide) (uX4_block__o _ (List.mem_of_getElem? (l := owX4_block) (i := 1) rfl)) rfl 1 (fun _ => rfl) dX4_block_96 99 rfl ?_
              refine q_iload_n hC dX4_block_99 1 rfl 100 rfl ?_
              refine r_callI hC (go_V (q := (RX2, TX2, 14)) (As := [.int v1]) (rest := [.int v1, .ref (gA g 1)]) hC (ctX2_sizeOf (zl z) g M10 1 v1 _ (hF.tp (b := 1) (Or.inl rfl)) hw) 1 gX4_block_X2_sizeOf rfl ⟨rfl, rfl⟩ hdV_X2_sizeOf ⟨Nat.le_of_ble_eq_true rfl, Nat.le_of_ble_eq_true rfl⟩ (hF.tp (b := 1) (Or.inl rfl)).ob rfl rfl rfl (Nat.le_of_ble_eq_true rfl) dX4_block_100) 103 rfl (fun r11 M12 hw => ?_)
              refine r_callI hC (go_V (q := (RX2, TX2, 14)) (As := [.int v1, .int r11]) (rest := []) hC (ctX2_columnOf (zl z) g M12 1 v1 r11 _ (hF.tp (b := 1) (Or.inl rfl)) hw) 2 gX4_block_X2_columnOf rfl ⟨rfl, rfl⟩ hdV_X2_columnOf ⟨Nat.le_of_ble_eq_true rfl, Nat.le_of_ble_eq_true rfl⟩ (hF.tp (b := 1) (Or.inl rfl)).ob rfl rfl rfl (Nat.le_of_ble_eq_true rfl) dX4_block_103) 106 rfl (fun r13 M14 hw => ?_)
              exact r_iret hR dX4_block_106 hw
            · refine q_iconst (v := 0) hC dX4_block_86 rfl 87 rfl ?_
              refine q_goto hC 106 dX4_block_87 (by decide) ?_
              exact r_iret hR dX4_block_106 hw
          · have hw := hw.2 c3
            by_cases c4 : v2 = 4
            · have hw := hw.1 c4
              refine q_tabIn hC 107 dX4_block_14 (by rw [c4]; decide) (by rw [c4]; decide) (by rw [c4]; rfl) (by decide) ?_
              refine q_aload_n hC dX4_block_107 0 rfl 108 rfl ?_
              refine q_getR (C := RX4) (T := TX4) (N := 12) (ci := 4) hC inX4_block_X4 (obF0 hF) rfl 0 (by decide) (uX4_block__o _ (List.mem_of_getElem? (l := owX4_block) (i := 1) rfl)) rfl 1 (fun _ => rfl) dX4_block_108 111 rfl ?_
              refine q_iload_n hC dX4_block_111 1 rfl 112 rfl ?_
              refine r_callI hC (go_V (q := (RX2, TX2, 14)) (As := [.int v1]) (rest := []) hC (ctX2_endOf (zl z) g M2 1 v1 _ (hF.tp (b := 1) (Or.inl rfl)) hw) 1 gX4_block_X2_endOf rfl ⟨rfl, rfl⟩ hdV_X2_endOf ⟨Nat.le_of_ble_eq_true rfl, Nat.le_of_ble_eq_true rfl⟩ (hF.tp (b := 1) (Or.inl rfl)).ob rfl rfl rfl (Nat.le_of_ble_eq_true rfl) dX4_block_112) 115 rfl (fun r15 M16 hw => ?_)
              exact r_iret hR dX4_block_115 hw
            · have hw := hw.2 c4
              refine q_tabOut hC 116 dX4_block_14 (tab_out4 c0 c1 c2 c3 c4) (by decide) ?_
              refine q_iconst (v := (-1)) hC dX4_block_116 rfl 117 rfl ?_
              exact r_iret hR dX4_block_117 hw
  · refine q_iconst (v := (-1)) hC dX4_block_11 rfl 12 rfl ?_
    exact r_iret hR dX4_block_12 hw
theorem hdV_X2_blockWith : yX2_blockWith.cls = RX2 ∧ yX2_blockWith.cls ≠ "java/lang/invoke/MethodHandle" ∧ yX2_blockWith.cls ≠ "java/lang/invoke/VarHandle" ∧ (parseMethodDescriptor yX2_blockWith.desc).map (fun d => d.parameters.length) = some 1 := by decide +kernel
theorem inX4_blockAt_X4 : ∀ w ∈ u_ws RX4 TX4 12, w ∈ wsX4_blockAt := uX4_blockAt__wsX40
set_option maxRecDepth 100000 in
set_option maxHeartbeats 4000000 in
theorem ctX4_blockAt (l : Launch) (g : GG) (M : MM) (v1 : Int32) (Q : Int32 → MM → Prop) (hF : full g) (hw : wX4_blockAt Q M v1) : MI g l yX4_blockAt wsX4_blockAt (rmOf 4 86) [.ref (gA g 0), .int v1] M Q := by
  refine mk_MI (cc := cX4_blockAt) (maxL := 2) (by decide) rfl (Nat.le_of_ble_eq_true rfl) ?_
  intro z Qf hC hR
  show XX z g Qf 2 0 [(0, .ref (gA g 0)), (1, .int v1)] [] M
  refine q_aload_n hC dX4_blockAt_0 0 rfl 1 rfl ?_
  refine q_getR (C := RX4) (T := TX4) (N := 12) (ci := 4) hC inX4_blockAt_X4 (obF0 hF) rfl 0 (by decide) (uX4_blockAt__o _ (List.mem_of_getElem? (l := owX4_blockAt) (i := 1) rfl)) rfl 1 (fun _ => rfl) dX4_blockAt_1 4 rfl ?_
  refine q_iload_n hC dX4_blockAt_4 1 rfl 5 rfl ?_
  refine r_callI hC (go_V (q := (RX2, TX2, 14)) (As := [.int v1]) (rest := []) hC (ctX2_hasPlace (zl z) g M 1 v1 _ (hF.tp (b := 1) (Or.inl rfl)) hw) 1 gX4_blockAt_X2_hasPlace rfl ⟨rfl, rfl⟩ hdV_X2_hasPlace ⟨Nat.le_of_ble_eq_true rfl, Nat.le_of_ble_eq_true rfl⟩ (hF.tp (b := 1) (Or.inl rfl)).ob rfl rfl rfl (Nat.le_of_ble_eq_true rfl) dX4_blockAt_5) 8 rfl (fun r1 M2 hw => ?_)
  refine q_if_eq hC 22 dX4_blockAt_8 (by decide) 11 rfl hw (fun hw => ?_) (fun hw => ?_)
  · refine q_iconst (v := (-1)) hC dX4_blockAt_22 rfl 23 rfl ?_
    exact r_iret hR dX4_blockAt_23 hw
  · refine q_aload_n hC dX4_blockAt_11 0 rfl 12 rfl ?_
    refine q_getR (C := RX4) (T := TX4) (N := 12) (ci := 4) hC inX4_blockAt_X4 (obF0 hF) rfl 0 (by decide) (uX4_blockAt__o _ (List.mem_of_getElem? (l := owX4_blockAt) (i := 1) rfl)) rfl 1 (fun _ => rfl) dX4_blockAt_12 15 rfl ?_
    refine q_iload_n hC dX4_blockAt_15 1 rfl 16 rfl ?_
    refine r_callI hC (go_V (q := (RX2, TX2, 14)) (As := [.int v1]) (rest := []) hC (ctX2_blockWith (zl z) g M2 1 v1 _ (hF.tp (b := 1) (Or.inl rfl)) hw) 1 gX4_blockAt_X2_blockWith rfl ⟨rfl, rfl⟩ hdV_X2_blockWith ⟨Nat.le_of_ble_eq_true rfl, Nat.le_of_ble_eq_true rfl⟩ (hF.tp (b := 1) (Or.inl rfl)).ob rfl rfl rfl (Nat.le_of_ble_eq_true rfl) dX4_blockAt_16) 19 rfl (fun r3 M4 hw => ?_)
    refine q_goto hC 23 dX4_blockAt_19 (by decide) ?_
    exact r_iret hR dX4_blockAt_23 hw
theorem inX4_type_X2 : ∀ w ∈ u_ws RX2 TX2 14, w ∈ wsX4_type := uX4_type__wsX20
theorem inX4_type_X4 : ∀ w ∈ u_ws RX4 TX4 12, w ∈ wsX4_type := uX4_type__wsX40
set_option maxRecDepth 100000 in
set_option maxHeartbeats 4000000 in
theorem ctX4_type (l : Launch) (g : GG) (M : MM) (v1 : Int32) (Q : Int32 → MM → Prop) (hF : full g) (hw : wX4_type Q M v1) : MI g l yX4_type wsX4_type (rmOf 2 43) [.ref (gA g 0), .int v1] M Q := by
  refine mk_MI (cc := cX4_type) (maxL := 2) (by decide) rfl (Nat.le_of_ble_eq_true rfl) ?_
  intro z Qf hC hR
  show XX z g Qf 2 0 [(0, .ref (gA g 0)), (1, .int v1)] [] M
  refine q_iload_n hC dX4_type_0 1 rfl 1 rfl ?_
  refine q_iconst (v := 0) hC dX4_type_1 rfl 2 rfl ?_
  refine q_sipush (v := 255) hC dX4_type_2 (by decide) 5 rfl ?_
  refine r_callI hC (go_T (As := [.int v1, .int 0, .int 255]) (rest := []) hC (ctX4_isBetween (zl z) g M v1 0 255 _ hw) 3 gX4_type_X4_isBetween rfl ⟨rfl, rfl⟩ hdT_X4_isBetween ⟨Nat.le_of_ble_eq_true rfl, Nat.le_of_ble_eq_true rfl⟩ rfl rfl (Nat.le_of_ble_eq_true rfl) dX4_type_5) 8 rfl (fun r1 M2 hw => ?_)
  refine q_if_ne hC 13 dX4_type_8 (by decide) 11 rfl hw (fun hw => ?_) (fun hw => ?_)
  · refine q_aload_n hC dX4_type_13 0 rfl 14 rfl ?_
    refine q_getR (C := RX4) (T := TX4) (N := 12) (ci := 4) hC inX4_type_X4 (obF0 hF) rfl 0 (by decide) (uX4_type__o _ (List.mem_of_getElem? (l := owX4_type) (i := 1) rfl)) rfl 1 (fun _ => rfl) dX4_type_14 17 rfl ?_
    refine q_getI (C := RX2) (T := TX2) (N := 14) (ci := 2) hC inX4_type_X2 (hF.tp (b := 1) (Or.inl rfl)).ob rfl 11 (by decide) (uX4_type__o _ (List.mem_of_getElem? (l := owX4_type) (i := 2) rfl)) rfl (fun _ => rfl) dX4_type_17 20 rfl ?_
    refine q_bipush (v := 12) hC dX4_type_20 (by decide) 22 rfl ?_
    refine q_icmp_lt hC 28 dX4_type_22 (by decide) 25 rfl hw (fun hw => ?_) (fun hw => ?_)
    · refine q_aload_n hC dX4_type_28 0 rfl 29 rfl ?_
      refine q_getR (C := RX4) (T := TX4) (N := 12) (ci := 4) hC inX4_type_X4 (obF0 hF) rfl 0 (by decide) (uX4_type__o _ (List.mem_of_getElem? (l := owX4_type) (i := 1) rfl)) rfl 1 (fun _ => rfl) dX4_type_29 32 rfl ?_
      refine q_iload_n hC dX4_type_32 1 rfl 33 rfl ?_
      refine r_callI hC (go_V (q := (RX2, TX2, 14)) (As := [.int v1]) (rest := []) hC (ctX2_typeOne (zl z) g M2 1 v1 _ (hF.tp (b := 1) (Or.inl rfl)) hw) 1 gX4_type_X2_typeOne rfl ⟨rfl, rfl⟩ hdV_X2_typeOne ⟨Nat.le_of_ble_eq_true rfl, Nat.le_of_ble_eq_true rfl⟩ (hF.tp (b := 1) (Or.inl rfl)).ob rfl rfl rfl (Nat.le_of_ble_eq_true rfl) dX4_type_33) 36 rfl (fun r3 M4 hw => ?_)
      exact r_iret hR dX4_type_36 hw
    · refine q_bipush (v := (-3)) hC dX4_type_25 (by decide) 27 rfl ?_
      exact r_iret hR dX4_type_27 hw
  · refine q_iconst (v := (-1)) hC dX4_type_11 rfl 12 rfl ?_
    exact r_iret hR dX4_type_12 hw
theorem hdV_X2_hasRoomAt : yX2_hasRoomAt.cls = RX2 ∧ yX2_hasRoomAt.cls ≠ "java/lang/invoke/MethodHandle" ∧ yX2_hasRoomAt.cls ≠ "java/lang/invoke/VarHandle" ∧ (parseMethodDescriptor yX2_hasRoomAt.desc).map (fun d => d.parameters.length) = some 2 := by decide +kernel
theorem hdV_X2_writeAt : yX2_writeAt.cls = RX2 ∧ yX2_writeAt.cls ≠ "java/lang/invoke/MethodHandle" ∧ yX2_writeAt.cls ≠ "java/lang/invoke/VarHandle" ∧ (parseMethodDescriptor yX2_writeAt.desc).map (fun d => d.parameters.length) = some 2 := by decide +kernel
theorem inX4_write_X2 : ∀ w ∈ u_ws RX2 TX2 14, w ∈ wsX4_write := uX4_write__wsX20
theorem inX4_write_X4 : ∀ w ∈ u_ws RX4 TX4 12, w ∈ wsX4_write := uX4_write__wsX40
set_option maxRecDepth 100000 in
set_option maxHeartbeats 4000000 in
theorem ctX4_write (l : Launch) (g : GG) (M : MM) (v1 : Int32) (Q : Int32 → MM → Prop) (hF : full g) (hw : wX4_write Q M v1) : MI g l yX4_write wsX4_write (rmOf 5 117) [.ref (gA g 0), .int v1] M Q := by
  refine mk_MI (cc := cX4_write) (maxL := 3) (by decide) rfl (Nat.le_of_ble_eq_true rfl) ?_
  intro z Qf hC hR
  show XX z g Qf 3 0 [(0, .ref (gA g 0)), (1, .int v1)] [] M
  refine q_iload_n hC dX4_write_0 1 rfl 1 rfl ?_
  refine q_iconst (v := 0) hC dX4_write_1 rfl 2 rfl ?_
  refine q_aload_n hC dX4_write_2 0 rfl 3 rfl ?_
  refine q_getR (C := RX4) (T := TX4) (N := 12) (ci := 4) hC inX4_write_X4 (obF0 hF) rfl 0 (by decide) (uX4_write__o _ (List.mem_of_getElem? (l := owX4_write) (i := 1) rfl)) rfl 1 (fun _ => rfl) dX4_write_3 6 rfl ?_
  refine q_getI (C := RX2) (T := TX2) (N := 14) (ci := 2) hC inX4_write_X2 (hF.tp (b := 1) (Or.inl rfl)).ob rfl 8 (by decide) (uX4_write__o _ (List.mem_of_getElem? (l := owX4_write) (i := 2) rfl)) rfl (fun _ => rfl) dX4_write_6 9 rfl ?_
  refine r_callI hC (go_T (As := [.int v1, .int 0, .int (M 1 8)]) (rest := []) hC (ctX4_isBetween (zl z) g M v1 0 (M 1 8) _ hw) 3 gX4_write_X4_isBetween rfl ⟨rfl, rfl⟩ hdT_X4_isBetween ⟨Nat.le_of_ble_eq_true rfl, Nat.le_of_ble_eq_true rfl⟩ rfl rfl (Nat.le_of_ble_eq_true rfl) dX4_write_9) 12 rfl (fun r1 M2 hw => ?_)
  refine q_if_ne hC 17 dX4_write_12 (by decide) 15 rfl hw (fun hw => ?_) (fun hw => ?_)
  · refine q_aload_n hC dX4_write_17 0 rfl 18 rfl ?_
    refine q_getR (C := RX4) (T := TX4) (N := 12) (ci := 4) hC inX4_write_X4 (obF0 hF) rfl 0 (by decide) (uX4_write__o _ (List.mem_of_getElem? (l := owX4_write) (i := 1) rfl)) rfl 1 (fun _ => rfl) dX4_write_18 21 rfl ?_
    refine q_getI (C := RX2) (T := TX2) (N := 14) (ci := 2) hC inX4_write_X2 (hF.tp (b := 1) (Or.inl rfl)).ob rfl 11 (by decide) (uX4_write__o _ (List.mem_of_getElem? (l := owX4_write) (i := 3) rfl)) rfl (fun _ => rfl) dX4_write_21 24 rfl ?_
    refine q_if_ne hC 30 dX4_write_24 (by decide) 27 rfl hw (fun hw => ?_) (fun hw => ?_)
    · refine q_aload_n hC dX4_write_30 0 rfl 31 rfl ?_
      refine q_getR (C := RX4) (T := TX4) (N := 12) (ci := 4) hC inX4_write_X4 (obF0 hF) rfl 0 (by decide) (uX4_write__o _ (List.mem_of_getElem? (l := owX4_write) (i := 1) rfl)) rfl 1 (fun _ => rfl) dX4_write_31 34 rfl ?_
      refine q_iload_n hC dX4_write_34 1 rfl 35 rfl ?_
      refine q_aload_n hC dX4_write_35 0 rfl 36 rfl ?_
      refine q_getR (C := RX4) (T := TX4) (N := 12) (ci := 4) hC inX4_write_X4 (obF0 hF) rfl 0 (by decide) (uX4_write__o _ (List.mem_of_getElem? (l := owX4_write) (i := 1) rfl)) rfl 1 (fun _ => rfl) dX4_write_36 39 rfl ?_
      refine q_getI (C := RX2) (T := TX2) (N := 14) (ci := 2) hC inX4_write_X2 (hF.tp (b := 1) (Or.inl rfl)).ob rfl 11 (by decide) (uX4_write__o _ (List.mem_of_getElem? (l := owX4_write) (i := 3) rfl)) rfl (fun _ => rfl) dX4_write_39 42 rfl ?_
      refine r_callI hC (go_V (q := (RX2, TX2, 14)) (As := [.int v1, .int (M2 1 11)]) (rest := []) hC (ctX2_hasRoomAt (zl z) g M2 1 v1 (M2 1 11) _ (hF.tp (b := 1) (Or.inl rfl)) hw) 2 gX4_write_X2_hasRoomAt rfl ⟨rfl, rfl⟩ hdV_X2_hasRoomAt ⟨Nat.le_of_ble_eq_true rfl, Nat.le_of_ble_eq_true rfl⟩ (hF.tp (b := 1) (Or.inl rfl)).ob rfl rfl rfl (Nat.le_of_ble_eq_true rfl) dX4_write_42) 45 rfl (fun r3 M4 hw => ?_)
      refine q_if_ne hC 51 dX4_write_45 (by decide) 48 rfl hw (fun hw => ?_) (fun hw => ?_)
      · refine q_aload_n hC dX4_write_51 0 rfl 52 rfl ?_
        refine q_getR (C := RX4) (T := TX4) (N := 12) (ci := 4) hC inX4_write_X4 (obF0 hF) rfl 0 (by decide) (uX4_write__o _ (List.mem_of_getElem? (l := owX4_write) (i := 1) rfl)) rfl 1 (fun _ => rfl) dX4_write_52 55 rfl ?_
        refine q_iload_n hC dX4_write_55 1 rfl 56 rfl ?_
        refine q_aload_n hC dX4_write_56 0 rfl 57 rfl ?_
        refine q_getR (C := RX4) (T := TX4) (N := 12) (ci := 4) hC inX4_write_X4 (obF0 hF) rfl 0 (by decide) (uX4_write__o _ (List.mem_of_getElem? (l := owX4_write) (i := 1) rfl)) rfl 1 (fun _ => rfl) dX4_write_57 60 rfl ?_
        refine q_getI (C := RX2) (T := TX2) (N := 14) (ci := 2) hC inX4_write_X2 (hF.tp (b := 1) (Or.inl rfl)).ob rfl 11 (by decide) (uX4_write__o _ (List.mem_of_getElem? (l := owX4_write) (i := 3) rfl)) rfl (fun _ => rfl) dX4_write_60 63 rfl ?_
        refine r_callI hC (go_V (q := (RX2, TX2, 14)) (As := [.int v1, .int (M4 1 11)]) (rest := []) hC (ctX2_writeAt (zl z) g M4 1 v1 (M4 1 11) _ (hF.tp (b := 1) (Or.inl rfl)) hw) 2 gX4_write_X2_writeAt rfl ⟨rfl, rfl⟩ hdV_X2_writeAt ⟨Nat.le_of_ble_eq_true rfl, Nat.le_of_ble_eq_true rfl⟩ (hF.tp (b := 1) (Or.inl rfl)).ob rfl rfl rfl (Nat.le_of_ble_eq_true rfl) dX4_write_63) 66 rfl (fun r5 M6 hw => ?_)
        refine q_istore_n (L' := [(2, .int r5), (0, .ref (gA g 0)), (1, .int v1)]) hC dX4_write_66 (by decide) rfl 67 rfl ?_
        refine q_aload_n hC dX4_write_67 1 rfl 68 rfl ?_
        refine q_getR (C := RX4) (T := TX4) (N := 12) (ci := 4) hC inX4_write_X4 (obF0 hF) rfl 0 (by decide) (uX4_write__o _ (List.mem_of_getElem? (l := owX4_write) (i := 1) rfl)) rfl 1 (fun _ => rfl) dX4_write_68 71 rfl ?_
        refine q_iconst (v := 0) hC dX4_write_71 rfl 72 rfl ?_
        refine q_putI (C := RX2) (T := TX2) (N := 14) (ci := 2) hC inX4_write_X2 tyX2 tyX2_ok nmX2 (hF.tp (b := 1) (Or.inl rfl)).ob rfl 11 (by decide) (uX4_write__o _ (List.mem_of_getElem? (l := owX4_write) (i := 3) rfl)) rfl rfl rfl (fun _ => Nat.le_of_ble_eq_true rfl) (fun _ => rfl) dX4_write_72 75 rfl (fun M7 eM7 => ?_)
        have hw := hw M7 eM7
        refine q_iload_n hC dX4_write_75 0 rfl 76 rfl ?_
        exact r_iret hR dX4_write_76 hw
      · refine q_bipush (v := (-3)) hC dX4_write_48 (by decide) 50 rfl ?_
        exact r_iret hR dX4_write_50 hw
    · refine q_bipush (v := (-2)) hC dX4_write_27 (by decide) 29 rfl ?_
      exact r_iret hR dX4_write_29 hw
  · refine q_iconst (v := (-1)) hC dX4_write_15 rfl 16 rfl ?_
    exact r_iret hR dX4_write_16 hw
theorem inX4_mark_X2 : ∀ w ∈ u_ws RX2 TX2 14, w ∈ wsX4_mark := uX4_mark__wsX20
theorem inX4_mark_X4 : ∀ w ∈ u_ws RX4 TX4 12, w ∈ wsX4_mark := uX4_mark__wsX40
set_option maxRecDepth 100000 in
set_option maxHeartbeats 4000000 in
theorem ctX4_mark (l : Launch) (g : GG) (M : MM) (v1 : Int32) (Q : Int32 → MM → Prop) (hF : full g) (hw : wX4_mark Q M v1) : MI g l yX4_mark wsX4_mark (rmOf 5 117) [.ref (gA g 0), .int v1] M Q := by
  refine mk_MI (cc := cX4_mark) (maxL := 2) (by decide) rfl (Nat.le_of_ble_eq_true rfl) ?_
  intro z Qf hC hR
  show XX z g Qf 2 0 [(0, .ref (gA g 0)), (1, .int v1)] [] M
  refine q_iload_n hC dX4_mark_0 1 rfl 1 rfl ?_
  refine q_iconst (v := 0) hC dX4_mark_1 rfl 2 rfl ?_
  refine q_aload_n hC dX4_mark_2 0 rfl 3 rfl ?_
  refine q_getR (C := RX4) (T := TX4) (N := 12) (ci := 4) hC inX4_mark_X4 (obF0 hF) rfl 0 (by decide) (uX4_mark__o _ (List.mem_of_getElem? (l := owX4_mark) (i := 1) rfl)) rfl 1 (fun _ => rfl) dX4_mark_3 6 rfl ?_
  refine q_getI (C := RX2) (T := TX2) (N := 14) (ci := 2) hC inX4_mark_X2 (hF.tp (b := 1) (Or.inl rfl)).ob rfl 8 (by decide) (uX4_mark__o _ (List.mem_of_getElem? (l := owX4_mark) (i := 2) rfl)) rfl (fun _ => rfl) dX4_mark_6 9 rfl ?_
  refine r_callI hC (go_T (As := [.int v1, .int 0, .int (M 1 8)]) (rest := []) hC (ctX4_isBetween (zl z) g M v1 0 (M 1 8) _ hw) 3 gX4_mark_X4_isBetween rfl ⟨rfl, rfl⟩ hdT_X4_isBetween ⟨Nat.le_of_ble_eq_true rfl, Nat.le_of_ble_eq_true rfl⟩ rfl rfl (Nat.le_of_ble_eq_true rfl) dX4_mark_9) 12 rfl (fun r1 M2 hw => ?_)
  refine q_if_ne hC 17 dX4_mark_12 (by decide) 15 rfl hw (fun hw => ?_) (fun hw => ?_)
  · refine q_aload_n hC dX4_mark_17 0 rfl 18 rfl ?_
    refine q_getR (C := RX4) (T := TX4) (N := 12) (ci := 4) hC inX4_mark_X4 (obF0 hF) rfl 0 (by decide) (uX4_mark__o _ (List.mem_of_getElem? (l := owX4_mark) (i := 1) rfl)) rfl 1 (fun _ => rfl) dX4_mark_18 21 rfl ?_
    refine q_iload_n hC dX4_mark_21 1 rfl 22 rfl ?_
    refine q_iconst (v := 0) hC dX4_mark_22 rfl 23 rfl ?_
    refine r_callI hC (go_V (q := (RX2, TX2, 14)) (As := [.int v1, .int 0]) (rest := []) hC (ctX2_hasRoomAt (zl z) g M2 1 v1 0 _ (hF.tp (b := 1) (Or.inl rfl)) hw) 2 gX4_mark_X2_hasRoomAt rfl ⟨rfl, rfl⟩ hdV_X2_hasRoomAt ⟨Nat.le_of_ble_eq_true rfl, Nat.le_of_ble_eq_true rfl⟩ (hF.tp (b := 1) (Or.inl rfl)).ob rfl rfl rfl (Nat.le_of_ble_eq_true rfl) dX4_mark_23) 26 rfl (fun r3 M4 hw => ?_)
    refine q_if_ne hC 32 dX4_mark_26 (by decide) 29 rfl hw (fun hw => ?_) (fun hw => ?_)
    · refine q_aload_n hC dX4_mark_32 0 rfl 33 rfl ?_
      refine q_getR (C := RX4) (T := TX4) (N := 12) (ci := 4) hC inX4_mark_X4 (obF0 hF) rfl 0 (by decide) (uX4_mark__o _ (List.mem_of_getElem? (l := owX4_mark) (i := 1) rfl)) rfl 1 (fun _ => rfl) dX4_mark_33 36 rfl ?_
      refine q_iload_n hC dX4_mark_36 1 rfl 37 rfl ?_
      refine q_iconst (v := 0) hC dX4_mark_37 rfl 38 rfl ?_
      refine r_callI hC (go_V (q := (RX2, TX2, 14)) (As := [.int v1, .int 0]) (rest := []) hC (ctX2_writeAt (zl z) g M4 1 v1 0 _ (hF.tp (b := 1) (Or.inl rfl)) hw) 2 gX4_mark_X2_writeAt rfl ⟨rfl, rfl⟩ hdV_X2_writeAt ⟨Nat.le_of_ble_eq_true rfl, Nat.le_of_ble_eq_true rfl⟩ (hF.tp (b := 1) (Or.inl rfl)).ob rfl rfl rfl (Nat.le_of_ble_eq_true rfl) dX4_mark_38) 41 rfl (fun r5 M6 hw => ?_)
      exact r_iret hR dX4_mark_41 hw
    · refine q_bipush (v := (-3)) hC dX4_mark_29 (by decide) 31 rfl ?_
      exact r_iret hR dX4_mark_31 hw
  · refine q_iconst (v := (-1)) hC dX4_mark_15 rfl 16 rfl ?_
    exact r_iret hR dX4_mark_16 hw
theorem hdV_X2_hasColumn : yX2_hasColumn.cls = RX2 ∧ yX2_hasColumn.cls ≠ "java/lang/invoke/MethodHandle" ∧ yX2_hasColumn.cls ≠ "java/lang/invoke/VarHandle" ∧ (parseMethodDescriptor yX2_hasColumn.desc).map (fun d => d.parameters.length) = some 2 := by decide +kernel
theorem hdV_X2_turnBit : yX2_turnBit.cls = RX2 ∧ yX2_turnBit.cls ≠ "java/lang/invoke/MethodHandle" ∧ yX2_turnBit.cls ≠ "java/lang/invoke/VarHandle" ∧ (parseMethodDescriptor yX2_turnBit.desc).map (fun d => d.parameters.length) = some 3 := by decide +kernel
theorem inX4_spoil_X4 : ∀ w ∈ u_ws RX4 TX4 12, w ∈ wsX4_spoil := uX4_spoil__wsX40
set_option maxRecDepth 100000 in
set_option maxHeartbeats 4000000 in
theorem ctX4_spoil (l : Launch) (g : GG) (M : MM) (v1 : Int32) (v2 : Int32) (v3 : Int32) (Q : Int32 → MM → Prop) (hF : full g) (hw : wX4_spoil Q M v1 v2 v3) : MI g l yX4_spoil wsX4_spoil (rmOf 4 85) [.ref (gA g 0), .int v1, .int v2, .int v3] M Q := by
  refine mk_MI (cc := cX4_spoil) (maxL := 4) (by decide) rfl (Nat.le_of_ble_eq_true rfl) ?_
  intro z Qf hC hR
  show XX z g Qf 4 0 [(0, .ref (gA g 0)), (1, .int v1), (2, .int v2), (3, .int v3)] [] M
  refine q_aload_n hC dX4_spoil_0 0 rfl 1 rfl ?_
  refine q_getR (C := RX4) (T := TX4) (N := 12) (ci := 4) hC inX4_spoil_X4 (obF0 hF) rfl 0 (by decide) (uX4_spoil__o _ (List.mem_of_getElem? (l := owX4_spoil) (i := 1) rfl)) rfl 1 (fun _ => rfl) dX4_spoil_1 4 rfl ?_
  refine q_iload_n hC dX4_spoil_4 1 rfl 5 rfl ?_
  refine q_iload_n hC dX4_spoil_5 2 rfl 6 rfl ?_
  refine r_callI hC (go_V (q := (RX2, TX2, 14)) (As := [.int v1, .int v2]) (rest := []) hC (ctX2_hasColumn (zl z) g M 1 v1 v2 _ (hF.tp (b := 1) (Or.inl rfl)) hw) 2 gX4_spoil_X2_hasColumn rfl ⟨rfl, rfl⟩ hdV_X2_hasColumn ⟨Nat.le_of_ble_eq_true rfl, Nat.le_of_ble_eq_true rfl⟩ (hF.tp (b := 1) (Or.inl rfl)).ob rfl rfl rfl (Nat.le_of_ble_eq_true rfl) dX4_spoil_6) 9 rfl (fun r1 M2 hw => ?_)
  refine q_if_eq hC 22 dX4_spoil_9 (by decide) 12 rfl hw (fun hw => ?_) (fun hw => ?_)
  · refine q_iconst (v := (-1)) hC dX4_spoil_22 rfl 23 rfl ?_
    exact r_iret hR dX4_spoil_23 hw
  · refine q_iload_n hC dX4_spoil_12 3 rfl 13 rfl ?_
    refine q_iconst (v := 0) hC dX4_spoil_13 rfl 14 rfl ?_
    refine q_bipush (v := 8) hC dX4_spoil_14 (by decide) 16 rfl ?_
    refine r_callI hC (go_T (As := [.int v3, .int 0, .int 8]) (rest := []) hC (ctX4_isBetween (zl z) g M2 v3 0 8 _ hw) 3 gX4_spoil_X4_isBetween rfl ⟨rfl, rfl⟩ hdT_X4_isBetween ⟨Nat.le_of_ble_eq_true rfl, Nat.le_of_ble_eq_true rfl⟩ rfl rfl (Nat.le_of_ble_eq_true rfl) dX4_spoil_16) 19 rfl (fun r3 M4 hw => ?_)
    refine q_if_ne hC 24 dX4_spoil_19 (by decide) 22 rfl hw (fun hw => ?_) (fun hw => ?_)
    · refine q_aload_n hC dX4_spoil_24 0 rfl 25 rfl ?_
      refine q_getR (C := RX4) (T := TX4) (N := 12) (ci := 4) hC inX4_spoil_X4 (obF0 hF) rfl 0 (by decide) (uX4_spoil__o _ (List.mem_of_getElem? (l := owX4_spoil) (i := 1) rfl)) rfl 1 (fun _ => rfl) dX4_spoil_25 28 rfl ?_
      refine q_iload_n hC dX4_spoil_28 1 rfl 29 rfl ?_
      refine q_iload_n hC dX4_spoil_29 2 rfl 30 rfl ?_
      refine q_iload_n hC dX4_spoil_30 3 rfl 31 rfl ?_
      refine r_callI hC (go_V (q := (RX2, TX2, 14)) (As := [.int v1, .int v2, .int v3]) (rest := []) hC (ctX2_turnBit (zl z) g M4 1 v1 v2 v3 _ (hF.tp (b := 1) (Or.inl rfl)) hw) 3 gX4_spoil_X2_turnBit rfl ⟨rfl, rfl⟩ hdV_X2_turnBit ⟨Nat.le_of_ble_eq_true rfl, Nat.le_of_ble_eq_true rfl⟩ (hF.tp (b := 1) (Or.inl rfl)).ob rfl rfl rfl (Nat.le_of_ble_eq_true rfl) dX4_spoil_31) 34 rfl (fun r5 M6 hw => ?_)
      exact r_iret hR dX4_spoil_34 hw
    · refine q_iconst (v := (-1)) hC dX4_spoil_22 rfl 23 rfl ?_
      exact r_iret hR dX4_spoil_23 hw
theorem inX4_dead_X2 : ∀ w ∈ u_ws RX2 TX2 14, w ∈ wsX4_dead := uX4_dead__wsX20
theorem inX4_dead_X4 : ∀ w ∈ u_ws RX4 TX4 12, w ∈ wsX4_dead := uX4_dead__wsX40
set_option maxRecDepth 100000 in
set_option maxHeartbeats 4000000 in
theorem ctX4_dead (l : Launch) (g : GG) (M : MM) (v1 : Int32) (Q : Int32 → MM → Prop) (hF : full g) (hw : wX4_dead Q M v1) : MI g l yX4_dead wsX4_dead (rmOf 1 22) [.ref (gA g 0), .int v1] M Q := by
  refine mk_MI (cc := cX4_dead) (maxL := 3) (by decide) rfl (Nat.le_of_ble_eq_true rfl) ?_
  intro z Qf hC hR
  show XX z g Qf 3 0 [(0, .ref (gA g 0)), (1, .int v1)] [] M
  have B18 : ∀ (M : MM), wX4_dead_18 Q v1 M → XX z g Qf 3 18 [(0, .ref (gA g 0)), (1, .int v1)] [] M := by
    intro M hw
    refine q_aload_n hC dX4_dead_18 0 rfl 19 rfl ?_
    refine q_getR (C := RX4) (T := TX4) (N := 12) (ci := 4) hC inX4_dead_X4 (obF0 hF) rfl 0 (by decide) (uX4_dead__o _ (List.mem_of_getElem? (l := owX4_dead) (i := 1) rfl)) rfl 1 (fun _ => rfl) dX4_dead_19 22 rfl ?_
    refine q_getI (C := RX2) (T := TX2) (N := 14) (ci := 2) hC inX4_dead_X2 (hF.tp (b := 1) (Or.inl rfl)).ob rfl 12 (by decide) (uX4_dead__o _ (List.mem_of_getElem? (l := owX4_dead) (i := 2) rfl)) rfl (fun _ => rfl) dX4_dead_22 25 rfl ?_
    refine q_istore_n (L' := [(2, .int (M 1 12)), (0, .ref (gA g 0)), (1, .int v1)]) hC dX4_dead_25 (by decide) rfl 26 rfl ?_
    refine q_aload_n hC dX4_dead_26 1 rfl 27 rfl ?_
    refine q_getR (C := RX4) (T := TX4) (N := 12) (ci := 4) hC inX4_dead_X4 (obF0 hF) rfl 0 (by decide) (uX4_dead__o _ (List.mem_of_getElem? (l := owX4_dead) (i := 1) rfl)) rfl 1 (fun _ => rfl) dX4_dead_27 30 rfl ?_
    refine q_iload_n hC dX4_dead_30 2 rfl 31 rfl ?_
    refine q_putI (C := RX2) (T := TX2) (N := 14) (ci := 2) hC inX4_dead_X2 tyX2 tyX2_ok nmX2 (hF.tp (b := 1) (Or.inl rfl)).ob rfl 12 (by decide) (uX4_dead__o _ (List.mem_of_getElem? (l := owX4_dead) (i := 2) rfl)) rfl rfl rfl (fun _ => Nat.le_of_ble_eq_true rfl) (fun _ => rfl) dX4_dead_31 34 rfl (fun M3 eM3 => ?_)
    have hw := hw M3 eM3
    refine q_iload_n hC dX4_dead_34 0 rfl 35 rfl ?_
    exact r_iret hR dX4_dead_35 hw
  refine q_iload_n hC dX4_dead_0 1 rfl 1 rfl ?_
  refine q_bipush (v := (-4)) hC dX4_dead_1 (by decide) 3 rfl ?_
  refine q_icmp_eq hC 18 dX4_dead_3 (by decide) 6 rfl hw (fun hw => ?_) (fun hw => ?_)
  · exact XX.sub [0, 1] rfl (B18 M hw)
  · refine q_iload_n hC dX4_dead_6 1 rfl 7 rfl ?_
    refine q_iconst (v := 0) hC dX4_dead_7 rfl 8 rfl ?_
    refine q_bipush (v := 8) hC dX4_dead_8 (by decide) 10 rfl ?_
    refine r_callI hC (go_T (As := [.int v1, .int 0, .int 8]) (rest := []) hC (ctX4_isBetween (zl z) g M v1 0 8 _ hw) 3 gX4_dead_X4_isBetween rfl ⟨rfl, rfl⟩ hdT_X4_isBetween ⟨Nat.le_of_ble_eq_true rfl, Nat.le_of_ble_eq_true rfl⟩ rfl rfl (Nat.le_of_ble_eq_true rfl) dX4_dead_10) 13 rfl (fun r1 M2 hw => ?_)
    refine q_if_ne hC 18 dX4_dead_13 (by decide) 16 rfl hw (fun hw => ?_) (fun hw => ?_)
    · exact XX.sub [0, 1] rfl (B18 M2 hw)
    · refine q_iconst (v := (-1)) hC dX4_dead_16 rfl 17 rfl ?_
      exact r_iret hR dX4_dead_17 hw
theorem inX4_check_X2 : ∀ w ∈ u_ws RX2 TX2 14, w ∈ wsX4_check := uX4_check__wsX20
theorem inX4_check_X4 : ∀ w ∈ u_ws RX4 TX4 12, w ∈ wsX4_check := uX4_check__wsX40
set_option maxRecDepth 100000 in
set_option maxHeartbeats 4000000 in
theorem ctX4_check (l : Launch) (g : GG) (M : MM) (v1 : Int32) (Q : Int32 → MM → Prop) (hF : full g) (hw : wX4_check Q M v1) : MI g l yX4_check wsX4_check (rmOf 5 113) [.ref (gA g 0), .int v1] M Q := by
  refine mk_MI (cc := cX4_check) (maxL := 2) (by decide) rfl (Nat.le_of_ble_eq_true rfl) ?_
  intro z Qf hC hR
  show XX z g Qf 2 0 [(0, .ref (gA g 0)), (1, .int v1)] [] M
  refine q_aload_n hC dX4_check_0 0 rfl 1 rfl ?_
  refine q_getR (C := RX4) (T := TX4) (N := 12) (ci := 4) hC inX4_check_X4 (obF0 hF) rfl 0 (by decide) (uX4_check__o _ (List.mem_of_getElem? (l := owX4_check) (i := 1) rfl)) rfl 1 (fun _ => rfl) dX4_check_1 4 rfl ?_
  refine q_iload_n hC dX4_check_4 1 rfl 5 rfl ?_
  refine r_callI hC (go_V (q := (RX2, TX2, 14)) (As := [.int v1]) (rest := []) hC (ctX2_hasBlock (zl z) g M 1 v1 _ (hF.tp (b := 1) (Or.inl rfl)) hw) 1 gX4_check_X2_hasBlock rfl ⟨rfl, rfl⟩ hdV_X2_hasBlock ⟨Nat.le_of_ble_eq_true rfl, Nat.le_of_ble_eq_true rfl⟩ (hF.tp (b := 1) (Or.inl rfl)).ob rfl rfl rfl (Nat.le_of_ble_eq_true rfl) dX4_check_5) 8 rfl (fun r1 M2 hw => ?_)
  refine q_if_eq hC 29 dX4_check_8 (by decide) 11 rfl hw (fun hw => ?_) (fun hw => ?_)
  · refine q_iconst (v := (-1)) hC dX4_check_29 rfl 30 rfl ?_
    exact r_iret hR dX4_check_30 hw
  · refine q_aload_n hC dX4_check_11 0 rfl 12 rfl ?_
    refine q_getR (C := RX4) (T := TX4) (N := 12) (ci := 4) hC inX4_check_X4 (obF0 hF) rfl 0 (by decide) (uX4_check__o _ (List.mem_of_getElem? (l := owX4_check) (i := 1) rfl)) rfl 1 (fun _ => rfl) dX4_check_12 15 rfl ?_
    refine q_iload_n hC dX4_check_15 1 rfl 16 rfl ?_
    refine q_aload_n hC dX4_check_16 0 rfl 17 rfl ?_
    refine q_getR (C := RX4) (T := TX4) (N := 12) (ci := 4) hC inX4_check_X4 (obF0 hF) rfl 0 (by decide) (uX4_check__o _ (List.mem_of_getElem? (l := owX4_check) (i := 1) rfl)) rfl 1 (fun _ => rfl) dX4_check_17 20 rfl ?_
    refine q_getI (C := RX2) (T := TX2) (N := 14) (ci := 2) hC inX4_check_X2 (hF.tp (b := 1) (Or.inl rfl)).ob rfl 12 (by decide) (uX4_check__o _ (List.mem_of_getElem? (l := owX4_check) (i := 2) rfl)) rfl (fun _ => rfl) dX4_check_20 23 rfl ?_
    refine r_callI hC (go_V (q := (RX2, TX2, 14)) (As := [.int v1, .int (M2 1 12)]) (rest := []) hC (ctX2_readingOf (zl z) g M2 1 v1 (M2 1 12) _ (hF.tp (b := 1) (Or.inl rfl)) hw) 2 gX4_check_X2_readingOf rfl ⟨rfl, rfl⟩ hdV_X2_readingOf ⟨Nat.le_of_ble_eq_true rfl, Nat.le_of_ble_eq_true rfl⟩ (hF.tp (b := 1) (Or.inl rfl)).ob rfl rfl rfl (Nat.le_of_ble_eq_true rfl) dX4_check_23) 26 rfl (fun r3 M4 hw => ?_)
    refine q_goto hC 30 dX4_check_26 (by decide) ?_
    exact r_iret hR dX4_check_30 hw
theorem inX4_got_X2 : ∀ w ∈ u_ws RX2 TX2 14, w ∈ wsX4_got := uX4_got__wsX20
theorem inX4_got_X4 : ∀ w ∈ u_ws RX4 TX4 12, w ∈ wsX4_got := uX4_got__wsX40
set_option maxRecDepth 100000 in
set_option maxHeartbeats 4000000 in
theorem ctX4_got (l : Launch) (g : GG) (M : MM) (v1 : Int32) (v2 : Int32) (Q : Int32 → MM → Prop) (hF : full g) (hw : wX4_got Q M v1 v2) : MI g l yX4_got wsX4_got (rmOf 5 113) [.ref (gA g 0), .int v1, .int v2] M Q := by
  refine mk_MI (cc := cX4_got) (maxL := 3) (by decide) rfl (Nat.le_of_ble_eq_true rfl) ?_
  intro z Qf hC hR
  show XX z g Qf 3 0 [(0, .ref (gA g 0)), (1, .int v1), (2, .int v2)] [] M
  refine q_aload_n hC dX4_got_0 0 rfl 1 rfl ?_
  refine q_getR (C := RX4) (T := TX4) (N := 12) (ci := 4) hC inX4_got_X4 (obF0 hF) rfl 0 (by decide) (uX4_got__o _ (List.mem_of_getElem? (l := owX4_got) (i := 1) rfl)) rfl 1 (fun _ => rfl) dX4_got_1 4 rfl ?_
  refine q_iload_n hC dX4_got_4 1 rfl 5 rfl ?_
  refine r_callI hC (go_V (q := (RX2, TX2, 14)) (As := [.int v1]) (rest := []) hC (ctX2_hasBlock (zl z) g M 1 v1 _ (hF.tp (b := 1) (Or.inl rfl)) hw) 1 gX4_got_X2_hasBlock rfl ⟨rfl, rfl⟩ hdV_X2_hasBlock ⟨Nat.le_of_ble_eq_true rfl, Nat.le_of_ble_eq_true rfl⟩ (hF.tp (b := 1) (Or.inl rfl)).ob rfl rfl rfl (Nat.le_of_ble_eq_true rfl) dX4_got_5) 8 rfl (fun r1 M2 hw => ?_)
  refine q_if_eq hC 29 dX4_got_8 (by decide) 11 rfl hw (fun hw => ?_) (fun hw => ?_)
  · refine q_iconst (v := (-1)) hC dX4_got_29 rfl 30 rfl ?_
    exact r_iret hR dX4_got_30 hw
  · refine q_iload_n hC dX4_got_11 2 rfl 12 rfl ?_
    refine q_iconst (v := 0) hC dX4_got_12 rfl 13 rfl ?_
    refine q_aload_n hC dX4_got_13 0 rfl 14 rfl ?_
    refine q_getR (C := RX4) (T := TX4) (N := 12) (ci := 4) hC inX4_got_X4 (obF0 hF) rfl 0 (by decide) (uX4_got__o _ (List.mem_of_getElem? (l := owX4_got) (i := 1) rfl)) rfl 1 (fun _ => rfl) dX4_got_14 17 rfl ?_
    refine q_iload_n hC dX4_got_17 1 rfl 18 rfl ?_
    refine r_callI hC (go_V (q := (RX2, TX2, 14)) (As := [.int v1]) (rest := [.int 0, .int v2]) hC (ctX2_sizeOf (zl z) g M2 1 v1 _ (hF.tp (b := 1) (Or.inl rfl)) hw) 1 gX4_got_X2_sizeOf rfl ⟨rfl, rfl⟩ hdV_X2_sizeOf ⟨Nat.le_of_ble_eq_true rfl, Nat.le_of_ble_eq_true rfl⟩ (hF.tp (b := 1) (Or.inl rfl)).ob rfl rfl rfl (Nat.le_of_ble_eq_true rfl) dX4_got_18) 21 rfl (fun r3 M4 hw => ?_)
    refine q_iconst (v := 1) hC dX4_got_21 rfl 22 rfl ?_
    refine q_isub hC dX4_got_22 23 rfl ?_
    refine r_callI hC (go_T (As := [.int v2, .int 0, .int (r3 - (1 : Int32))]) (rest := []) hC (ctX4_isBetween (zl z) g M4 v2 0 (r3 - (1 : Int32)) _ hw) 3 gX4_got_X4_isBetween rfl ⟨rfl, rfl⟩ hdT_X4_isBetween ⟨Nat.le_of_ble_eq_true rfl, Nat.le_of_ble_eq_true rfl⟩ rfl rfl (Nat.le_of_ble_eq_true rfl) dX4_got_23) 26 rfl (fun r5 M6 hw => ?_)
    refine q_if_ne hC 31 dX4_got_26 (by decide) 29 rfl hw (fun hw => ?_) (fun hw => ?_)
    · refine q_aload_n hC dX4_got_31 0 rfl 32 rfl ?_
      refine q_getR (C := RX4) (T := TX4) (N := 12) (ci := 4) hC inX4_got_X4 (obF0 hF) rfl 0 (by decide) (uX4_got__o _ (List.mem_of_getElem? (l := owX4_got) (i := 1) rfl)) rfl 1 (fun _ => rfl) dX4_got_32 35 rfl ?_
      refine q_iload_n hC dX4_got_35 1 rfl 36 rfl ?_
      refine q_aload_n hC dX4_got_36 0 rfl 37 rfl ?_
      refine q_getR (C := RX4) (T := TX4) (N := 12) (ci := 4) hC inX4_got_X4 (obF0 hF) rfl 0 (by decide) (uX4_got__o _ (List.mem_of_getElem? (l := owX4_got) (i := 1) rfl)) rfl 1 (fun _ => rfl) dX4_got_37 40 rfl ?_
      refine q_getI (C := RX2) (T := TX2) (N := 14) (ci := 2) hC inX4_got_X2 (hF.tp (b := 1) (Or.inl rfl)).ob rfl 12 (by decide) (uX4_got__o _ (List.mem_of_getElem? (l := owX4_got) (i := 2) rfl)) rfl (fun _ => rfl) dX4_got_40 43 rfl ?_
      refine r_callI hC (go_V (q := (RX2, TX2, 14)) (As := [.int v1, .int (M6 1 12)]) (rest := []) hC (ctX2_readingOf (zl z) g M6 1 v1 (M6 1 12) _ (hF.tp (b := 1) (Or.inl rfl)) hw) 2 gX4_got_X2_readingOf rfl ⟨rfl, rfl⟩ hdV_X2_readingOf ⟨Nat.le_of_ble_eq_true rfl, Nat.le_of_ble_eq_true rfl⟩ (hF.tp (b := 1) (Or.inl rfl)).ob rfl rfl rfl (Nat.le_of_ble_eq_true rfl) dX4_got_43) 46 rfl (fun r7 M8 hw => ?_)
      refine q_iconst (v := 3) hC dX4_got_46 rfl 47 rfl ?_
      refine q_icmp_ne hC 53 dX4_got_47 (by decide) 50 rfl hw (fun hw => ?_) (fun hw => ?_)
      · refine q_aload_n hC dX4_got_53 0 rfl 54 rfl ?_
        refine q_getR (C := RX4) (T := TX4) (N := 12) (ci := 4) hC inX4_got_X4 (obF0 hF) rfl 0 (by decide) (uX4_got__o _ (List.mem_of_getElem? (l := owX4_got) (i := 1) rfl)) rfl 1 (fun _ => rfl) dX4_got_54 57 rfl ?_
        refine q_iload_n hC dX4_got_57 1 rfl 58 rfl ?_
        refine q_iload_n hC dX4_got_58 2 rfl 59 rfl ?_
        refine r_callI hC (go_V (q := (RX2, TX2, 14)) (As := [.int v1, .int v2]) (rest := []) hC (ctX2_byteAsRead (zl z) g M8 1 v1 v2 _ (hF.tp (b := 1) (Or.inl rfl)) hw) 2 gX4_got_X2_byteAsRead rfl ⟨rfl, rfl⟩ hdV_X2_byteAsRead ⟨Nat.le_of_ble_eq_true rfl, Nat.le_of_ble_eq_true rfl⟩ (hF.tp (b := 1) (Or.inl rfl)).ob rfl rfl rfl (Nat.le_of_ble_eq_true rfl) dX4_got_59) 62 rfl (fun r9 M10 hw => ?_)
        exact r_iret hR dX4_got_62 hw
      · refine q_bipush (v := (-4)) hC dX4_got_50 (by decide) 52 rfl ?_
        exact r_iret hR dX4_got_52 hw
    · refine q_iconst (v := (-1)) hC dX4_got_29 rfl 30 rfl ?_
      exact r_iret hR dX4_got_30 hw
theorem inX4_column_X4 : ∀ w ∈ u_ws RX4 TX4 12, w ∈ wsX4_column := uX4_column__wsX40
set_option maxRecDepth 100000 in
set_option maxHeartbeats 4000000 in
theorem ctX4_column (l : Launch) (g : GG) (M : MM) (v1 : Int32) (v2 : Int32) (Q : Int32 → MM → Prop) (hF : full g) (hw : wX4_column Q M v1 v2) : MI g l yX4_column wsX4_column (rmOf 4 85) [.ref (gA g 0), .int v1, .int v2] M Q := by
  refine mk_MI (cc := cX4_column) (maxL := 3) (by decide) rfl (Nat.le_of_ble_eq_true rfl) ?_
  intro z Qf hC hR
  show XX z g Qf 3 0 [(0, .ref (gA g 0)), (1, .int v1), (2, .int v2)] [] M
  refine q_aload_n hC dX4_column_0 0 rfl 1 rfl ?_
  refine q_getR (C := RX4) (T := TX4) (N := 12) (ci := 4) hC inX4_column_X4 (obF0 hF) rfl 0 (by decide) (uX4_column__o _ (List.mem_of_getElem? (l := owX4_column) (i := 1) rfl)) rfl 1 (fun _ => rfl) dX4_column_1 4 rfl ?_
  refine q_iload_n hC dX4_column_4 1 rfl 5 rfl ?_
  refine q_iload_n hC dX4_column_5 2 rfl 6 rfl ?_
  refine r_callI hC (go_V (q := (RX2, TX2, 14)) (As := [.int v1, .int v2]) (rest := []) hC (ctX2_hasColumn (zl z) g M 1 v1 v2 _ (hF.tp (b := 1) (Or.inl rfl)) hw) 2 gX4_column_X2_hasColumn rfl ⟨rfl, rfl⟩ hdV_X2_hasColumn ⟨Nat.le_of_ble_eq_true rfl, Nat.le_of_ble_eq_true rfl⟩ (hF.tp (b := 1) (Or.inl rfl)).ob rfl rfl rfl (Nat.le_of_ble_eq_true rfl) dX4_column_6) 9 rfl (fun r1 M2 hw => ?_)
  refine q_if_eq hC 24 dX4_column_9 (by decide) 12 rfl hw (fun hw => ?_) (fun hw => ?_)
  · refine q_iconst (v := (-1)) hC dX4_column_24 rfl 25 rfl ?_
    exact r_iret hR dX4_column_25 hw
  · refine q_aload_n hC dX4_column_12 0 rfl 13 rfl ?_
    refine q_getR (C := RX4) (T := TX4) (N := 12) (ci := 4) hC inX4_column_X4 (obF0 hF) rfl 0 (by decide) (uX4_column__o _ (List.mem_of_getElem? (l := owX4_column) (i := 1) rfl)) rfl 1 (fun _ => rfl) dX4_column_13 16 rfl ?_
    refine q_iload_n hC dX4_column_16 1 rfl 17 rfl ?_
    refine q_iload_n hC dX4_column_17 2 rfl 18 rfl ?_
    refine r_callI hC (go_V (q := (RX2, TX2, 14)) (As := [.int v1, .int v2]) (rest := []) hC (ctX2_columnOf (zl z) g M2 1 v1 v2 _ (hF.tp (b := 1) (Or.inl rfl)) hw) 2 gX4_column_X2_columnOf rfl ⟨rfl, rfl⟩ hdV_X2_columnOf ⟨Nat.le_of_ble_eq_true rfl, Nat.le_of_ble_eq_true rfl⟩ (hF.tp (b := 1) (Or.inl rfl)).ob rfl rfl rfl (Nat.le_of_ble_eq_true rfl) dX4_column_18) 21 rfl (fun r3 M4 hw => ?_)
    refine q_goto hC 25 dX4_column_21 (by decide) ?_
    exact r_iret hR dX4_column_25 hw
theorem hdV_X2_lostBlocksBy : yX2_lostBlocksBy.cls = RX2 ∧ yX2_lostBlocksBy.cls ≠ "java/lang/invoke/MethodHandle" ∧ yX2_lostBlocksBy.cls ≠ "java/lang/invoke/VarHandle" ∧ (parseMethodDescriptor yX2_lostBlocksBy.desc).map (fun d => d.parameters.length) = some 1 := by decide +kernel
theorem hdV_X2_fooledBlocks : yX2_fooledBlocks.cls = RX2 ∧ yX2_fooledBlocks.cls ≠ "java/lang/invoke/MethodHandle" ∧ yX2_fooledBlocks.cls ≠ "java/lang/invoke/VarHandle" ∧ (parseMethodDescriptor yX2_fooledBlocks.desc).map (fun d => d.parameters.length) = some 0 := by decide +kernel
theorem hdV_X2_mendedBlocks : yX2_mendedBlocks.cls = RX2 ∧ yX2_mendedBlocks.cls ≠ "java/lang/invoke/MethodHandle" ∧ yX2_mendedBlocks.cls ≠ "java/lang/invoke/VarHandle" ∧ (parseMethodDescriptor yX2_mendedBlocks.desc).map (fun d => d.parameters.length) = some 0 := by decide +kernel
theorem inX4_state_X2 : ∀ w ∈ u_ws RX2 TX2 14, w ∈ wsX4_state := uX4_state__wsX20
theorem inX4_state_X4 : ∀ w ∈ u_ws RX4 TX4 12, w ∈ wsX4_state := uX4_state__wsX40
set_option maxRecDepth 100000 in
set_option maxHeartbeats 4000000 in
theorem ctX4_state (l : Launch) (g : GG) (M : MM) (v1 : Int32) (Q : Int32 → MM → Prop) (hF : full g) (hw : wX4_state Q M v1) : MI g l yX4_state wsX4_state (rmOf 6 136) [.ref (gA g 0), .int v1] M Q := by
  refine mk_MI (cc := cX4_state) (maxL := 2) (by decide) rfl (Nat.le_of_ble_eq_true rfl) ?_
  intro z Qf hC hR
  show XX z g Qf 2 0 [(0, .ref (gA g 0)), (1, .int v1)] [] M
  refine q_iload_n hC dX4_state_0 1 rfl 1 rfl ?_
  by_cases c0 : v1 = 0
  · have hw := hw.1 c0
    refine q_tabIn hC 28 dX4_state_1 (by rw [c0]; decide) (by rw [c0]; decide) (by rw [c0]; rfl) (by decide) ?_
    refine q_aload_n hC dX4_state_28 0 rfl 29 rfl ?_
    refine q_getR (C := RX4) (T := TX4) (N := 12) (ci := 4) hC inX4_state_X4 (obF0 hF) rfl 0 (by decide) (uX4_state__o _ (List.mem_of_getElem? (l := owX4_state) (i := 1) rfl)) rfl 1 (fun _ => rfl) dX4_state_29 32 rfl ?_
    refine q_aload_n hC dX4_state_32 0 rfl 33 rfl ?_
    refine q_getR (C := RX4) (T := TX4) (N := 12) (ci := 4) hC inX4_state_X4 (obF0 hF) rfl 0 (by decide) (uX4_state__o _ (List.mem_of_getElem? (l := owX4_state) (i := 1) rfl)) rfl 1 (fun _ => rfl) dX4_state_33 36 rfl ?_
    refine q_getI (C := RX2) (T := TX2) (N := 14) (ci := 2) hC inX4_state_X2 (hF.tp (b := 1) (Or.inl rfl)).ob rfl 12 (by decide) (uX4_state__o _ (List.mem_of_getElem? (l := owX4_state) (i := 2) rfl)) rfl (fun _ => rfl) dX4_state_36 39 rfl ?_
    refine r_callI hC (go_V (q := (RX2, TX2, 14)) (As := [.int (M 1 12)]) (rest := []) hC (ctX2_lostBlocksBy (zl z) g M 1 (M 1 12) _ (hF.tp (b := 1) (Or.inl rfl)) hw) 1 gX4_state_X2_lostBlocksBy rfl ⟨rfl, rfl⟩ hdV_X2_lostBlocksBy ⟨Nat.le_of_ble_eq_true rfl, Nat.le_of_ble_eq_true rfl⟩ (hF.tp (b := 1) (Or.inl rfl)).ob rfl rfl rfl (Nat.le_of_ble_eq_true rfl) dX4_state_39) 42 rfl (fun r1 M2 hw => ?_)
    exact r_iret hR dX4_state_42 hw
  · have hw := hw.2 c0
    by_cases c1 : v1 = 1
    · have hw := hw.1 c1
      refine q_tabIn hC 43 dX4_state_1 (by rw [c1]; decide) (by rw [c1]; decide) (by rw [c1]; rfl) (by decide) ?_
      refine q_aload_n hC dX4_state_43 0 rfl 44 rfl ?_
      refine q_getR (C := RX4) (T := TX4) (N := 12) (ci := 4) hC inX4_state_X4 (obF0 hF) rfl 0 (by decide) (uX4_state__o _ (List.mem_of_getElem? (l := owX4_state) (i := 1) rfl)) rfl 1 (fun _ => rfl) dX4_state_44 47 rfl ?_
      refine r_callI hC (go_V (q := (RX2, TX2, 14)) (As := []) (rest := []) hC (ctX2_fooledBlocks (zl z) g M 1 _ (hF.tp (b := 1) (Or.inl rfl)) hw) 0 gX4_state_X2_fooledBlocks rfl ⟨rfl, rfl⟩ hdV_X2_fooledBlocks ⟨Nat.le_of_ble_eq_true rfl, Nat.le_of_ble_eq_true rfl⟩ (hF.tp (b := 1) (Or.inl rfl)).ob rfl rfl rfl (Nat.le_of_ble_eq_true rfl) dX4_state_47) 50 rfl (fun r3 M4 hw => ?_)
      exact r_iret hR dX4_state_50 hw
    · have hw := hw.2 c1
      by_cases c2 : v1 = 2
      · have hw := hw.1 c2
        refine q_tabIn hC 51 dX4_state_1 (by rw [c2]; decide) (by rw [c2]; decide) (by rw [c2]; rfl) (by decide) ?_
        refine q_aload_n hC dX4_state_51 0 rfl 52 rfl ?_
        refine q_getR (C := RX4) (T := TX4) (N := 12) (ci := 4) hC inX4_state_X4 (obF0 hF) rfl 0 (by decide) (uX4_state__o _ (List.mem_of_getElem? (l := owX4_state) (i := 1) rfl)) rfl 1 (fun _ => rfl) dX4_state_52 55 rfl ?_
        refine r_callI hC (go_V (q := (RX2, TX2, 14)) (As := []) (rest := []) hC (ctX2_mendedBlocks (zl z) g M 1 _ (hF.tp (b := 1) (Or.inl rfl)) hw) 0 gX4_state_X2_mendedBlocks rfl ⟨rfl, rfl⟩ hdV_X2_mendedBlocks ⟨Nat.le_of_ble_eq_true rfl, Nat.le_of_ble_eq_true rfl⟩ (hF.tp (b := 1) (Or.inl rfl)).ob rfl rfl rfl (Nat.le_of_ble_eq_true rfl) dX4_state_55) 58 rfl (fun r5 M6 hw => ?_)
        exact r_iret hR dX4_state_58 hw
      · have hw := hw.2 c2
        refine q_tabOut hC 59 dX4_state_1 (tab_out2 c0 c1 c2) (by decide) ?_
        refine q_iconst (v := (-1)) hC dX4_state_59 rfl 60 rfl ?_
        exact r_iret hR dX4_state_60 hw
theorem inX4_best_X4 : ∀ w ∈ u_ws RX4 TX4 12, w ∈ wsX4_best := uX4_best__wsX40
set_option maxRecDepth 100000 in
set_option maxHeartbeats 4000000 in
theorem ctX4_best (l : Launch) (g : GG) (M : MM) (v1 : Int32) (Q : Int32 → MM → Prop) (hF : full g) (hw : wX4_best Q M v1) : MI g l yX4_best wsX4_best (rmOf 6 136) [.ref (gA g 0), .int v1] M Q := by
  refine mk_MI (cc := cX4_best) (maxL := 6) (by decide) rfl (Nat.le_of_ble_eq_true rfl) ?_
  intro z Qf hC hR
  show XX z g Qf 6 0 [(0, .ref (gA g 0)), (1, .int v1)] [] M
  have B61 : ∀ (K28 : MM → Int32 → Int32 → Int32 → Prop) (hK28 : ∀ (M : MM) (v2 : Int32) (v3 : Int32) (v4 : Int32) , K28 M v2 v3 v4 → XX z g Qf 6 28 [(0, .ref (gA g 0)), (1, .int v1), (2, .int v2), (3, .int v3), (4, .int v4)] [] M) (M : MM) (v2 : Int32) (v3 : Int32) (v4 : Int32), wX4_best_61 Q K28 v1 M v2 v3 v4 → XX z g Qf 6 61 [(0, .ref (gA g 0)), (1, .int v1), (2, .int v2), (3, .int v3), (4, .int v4)] [] M := by
    intro K28 hK28 M v2 v3 v4 hw
    refine q_iinc (v := v4 + 1) (L' := [(4, .int (v4 + 1)), (0, .ref (gA g 0)), (1, .int v1), (2, .int v2), (3, .int v3)]) hC dX4_best_61 4 rfl rfl (by decide) rfl 64 rfl ?_
    refine q_goto hC 28 dX4_best_64 (by decide) ?_
    exact XX.sub [1, 2, 3, 4, 0] rfl (hK28 M v2 v3 (v4 + 1) hw)
  have B28 : ∀ (n : Nat) (M : MM) (v2 : Int32) (v3 : Int32) (v4 : Int32) , wX4_best_28 Q v1 n M v2 v3 v4 → XX z g Qf 6 28 [(0, .ref (gA g 0)), (1, .int v1), (2, .int v2), (3, .int v3), (4, .int v4)] [] M := by
    intro n
    induction n with
    | zero =>
      intro M v2 v3 v4 hw
      exact hw.elim
    | succ n ih =>
      intro M v2 v3 v4 hw
      refine q_iload hC dX4_best_28 4 rfl 30 rfl ?_
      refine q_bipush (v := 9) hC dX4_best_30 (by decide) 32 rfl ?_
      refine q_icmp_ge hC 67 dX4_best_32 (by decide) 35 rfl hw (fun hw => ?_) (fun hw => ?_)
      · refine q_iload_n hC dX4_best_67 1 rfl 68 rfl ?_
        refine q_if_ne hC 75 dX4_best_68 (by decide) 71 rfl hw (fun hw => ?_) (fun hw => ?_)
        · refine q_iload_n hC dX4_best_75 3 rfl 76 rfl ?_
          exact r_iret hR dX4_best_76 hw
        · refine q_iload_n hC dX4_best_71 2 rfl 72 rfl ?_
          refine q_goto hC 76 dX4_best_72 (by decide) ?_
          exact r_iret hR dX4_best_76 hw
      · refine q_aload_n hC dX4_best_35 0 rfl 36 rfl ?_
        refine q_getR (C := RX4) (T := TX4) (N := 12) (ci := 4) hC inX4_best_X4 (obF0 hF) rfl 0 (by decide) (uX4_best__o _ (List.mem_of_getElem? (l := owX4_best) (i := 1) rfl)) rfl 1 (fun _ => rfl) dX4_best_36 39 rfl ?_
        refine q_iload hC dX4_best_39 4 rfl 41 rfl ?_
        refine r_callI hC (go_V (q := (RX2, TX2, 14)) (As := [.int v4]) (rest := []) hC (ctX2_lostBlocksBy (zl z) g M 1 v4 _ (hF.tp (b := 1) (Or.inl rfl)) hw) 1 gX4_best_X2_lostBlocksBy rfl ⟨rfl, rfl⟩ hdV_X2_lostBlocksBy ⟨Nat.le_of_ble_eq_true rfl, Nat.le_of_ble_eq_true rfl⟩ (hF.tp (b := 1) (Or.inl rfl)).ob rfl rfl rfl (Nat.le_of_ble_eq_true rfl) dX4_best_41) 44 rfl (fun r7 M8 hw => ?_)
        refine r_callI hC (go_T (As := [.int r7]) (rest := []) hC (ctJ6_bitCount_0f7a4 (zl z) g M8 r7 _ hw) 1 gX4_best_J6_bitCount_0f7a4 rfl ⟨rfl, rfl⟩ hdT_J6_bitCount_0f7a4 ⟨Nat.le_of_ble_eq_true rfl, Nat.le_of_ble_eq_true rfl⟩ rfl rfl (Nat.le_of_ble_eq_true rfl) dX4_best_44) 47 rfl (fun r9 M10 hw => ?_)
        refine q_istore (L' := [(5, .int r9), (0, .ref (gA g 0)), (1, .int v1), (2, .int v2), (3, .int v3), (4, .int v4)]) hC dX4_best_47 (by decide) rfl 49 rfl ?_
        refine q_iload hC dX4_best_49 0 rfl 51 rfl ?_
        refine q_iload_n hC dX4_best_51 4 rfl 52 rfl ?_
        refine q_icmp_ge hC 61 dX4_best_52 (by decide) 55 rfl hw (fun hw => ?_) (fun hw => ?_)
        · exact XX.sub [1, 2, 3, 4, 5] rfl (B61 _ (fun M v2 v3 v4 hw => ih M v2 v3 v4 hw) M10 v2 v3 v4 hw)
        · refine q_iload hC dX4_best_55 0 rfl 57 rfl ?_
          refine q_istore_n (L' := [(3, .int r9), (5, .int r9), (0, .ref (gA g 0)), (1, .int v1), (2, .int v2), (4, .int v4)]) hC dX4_best_57 (by decide) rfl 58 rfl ?_
          refine q_iload hC dX4_best_58 5 rfl 60 rfl ?_
          refine q_istore_n (L' := [(2, .int v4), (3, .int r9), (5, .int r9), (0, .ref (gA g 0)), (1, .int v1), (4, .int v4)]) hC dX4_best_60 (by decide) rfl 61 rfl ?_
          exact XX.sub [3, 4, 0, 1, 5] rfl (B61 _ (fun M v2 v3 v4 hw => ih M v2 v3 v4 hw) M10 v4 r9 v4 hw)
  refine q_iload_n hC dX4_best_0 1 rfl 1 rfl ?_
  refine q_iconst (v := 0) hC dX4_best_1 rfl 2 rfl ?_
  refine q_iconst (v := 1) hC dX4_best_2 rfl 3 rfl ?_
  refine r_callI hC (go_T (As := [.int v1, .int 0, .int 1]) (rest := []) hC (ctX4_isBetween (zl z) g M v1 0 1 _ hw) 3 gX4_best_X4_isBetween rfl ⟨rfl, rfl⟩ hdT_X4_isBetween ⟨Nat.le_of_ble_eq_true rfl, Nat.le_of_ble_eq_true rfl⟩ rfl rfl (Nat.le_of_ble_eq_true rfl) dX4_best_3) 6 rfl (fun r1 M2 hw => ?_)
  refine q_if_ne hC 11 dX4_best_6 (by decide) 9 rfl hw (fun hw => ?_) (fun hw => ?_)
  · refine q_iconst (v := 0) hC dX4_best_11 rfl 12 rfl ?_
    refine q_istore_n (L' := [(2, .int 0), (0, .ref (gA g 0)), (1, .int v1)]) hC dX4_best_12 (by decide) rfl 13 rfl ?_
    refine q_aload_n hC dX4_best_13 1 rfl 14 rfl ?_
    refine q_getR (C := RX4) (T := TX4) (N := 12) (ci := 4) hC inX4_best_X4 (obF0 hF) rfl 0 (by decide) (uX4_best__o _ (List.mem_of_getElem? (l := owX4_best) (i := 1) rfl)) rfl 1 (fun _ => rfl) dX4_best_14 17 rfl ?_
    refine q_iconst (v := 0) hC dX4_best_17 rfl 18 rfl ?_
    refine r_callI hC (go_V (q := (RX2, TX2, 14)) (As := [.int 0]) (rest := []) hC (ctX2_lostBlocksBy (zl z) g M2 1 0 _ (hF.tp (b := 1) (Or.inl rfl)) hw) 1 gX4_best_X2_lostBlocksBy rfl ⟨rfl, rfl⟩ hdV_X2_lostBlocksBy ⟨Nat.le_of_ble_eq_true rfl, Nat.le_of_ble_eq_true rfl⟩ (hF.tp (b := 1) (Or.inl rfl)).ob rfl rfl rfl (Nat.le_of_ble_eq_true rfl) dX4_best_18) 21 rfl (fun r3 M4 hw => ?_)
    refine r_callI hC (go_T (As := [.int r3]) (rest := []) hC (ctJ6_bitCount_0f7a4 (zl z) g M4 r3 _ hw) 1 gX4_best_J6_bitCount_0f7a4 rfl ⟨rfl, rfl⟩ hdT_J6_bitCount_0f7a4 ⟨Nat.le_of_ble_eq_true rfl, Nat.le_of_ble_eq_true rfl⟩ rfl rfl (Nat.le_of_ble_eq_true rfl) dX4_best_21) 24 rfl (fun r5 M6 hw => ?_)
    refine q_istore_n (L' := [(3, .int r5), (2, .int 0), (0, .ref (gA g 0)), (1, .int v1)]) hC dX4_best_24 (by decide) rfl 25 rfl ?_
    refine q_iconst (v := 1) hC dX4_best_25 rfl 26 rfl ?_
    refine q_istore (L' := [(4, .int 1), (3, .int r5), (2, .int 0), (0, .ref (gA g 0)), (1, .int v1)]) hC dX4_best_26 (by decide) rfl 28 rfl ?_
    obtain ⟨n0, hw⟩ := hw
    exact XX.sub [3, 4, 2, 1, 0] rfl (B28 n0 M6 0 r5 1 hw)
  · refine q_iconst (v := (-1)) hC dX4_best_9 rfl 10 rfl ?_
    exact r_iret hR dX4_best_10 hw
theorem hdV_X2_hasAllOf : yX2_hasAllOf.cls = RX2 ∧ yX2_hasAllOf.cls ≠ "java/lang/invoke/MethodHandle" ∧ yX2_hasAllOf.cls ≠ "java/lang/invoke/VarHandle" ∧ (parseMethodDescriptor yX2_hasAllOf.desc).map (fun d => d.parameters.length) = some 1 := by decide +kernel
theorem hdV_X0_plan : yX0_plan.cls = RX0 ∧ yX0_plan.cls ≠ "java/lang/invoke/MethodHandle" ∧ yX0_plan.cls ≠ "java/lang/invoke/VarHandle" ∧ (parseMethodDescriptor yX0_plan.desc).map (fun d => d.parameters.length) = some 2 := by decide +kernel
theorem hdV_X0_stopAt : yX0_stopAt.cls = RX0 ∧ yX0_stopAt.cls ≠ "java/lang/invoke/MethodHandle" ∧ yX0_stopAt.cls ≠ "java/lang/invoke/VarHandle" ∧ (parseMethodDescriptor yX0_stopAt.desc).map (fun d => d.parameters.length) = some 1 := by decide +kernel
theorem inX4_order_X0 : ∀ w ∈ u_ws RX0 TX0 6, w ∈ wsX4_order := uX4_order__wsX00
theorem inX4_order_X4 : ∀ w ∈ u_ws RX4 TX4 12, w ∈ wsX4_order := uX4_order__wsX40
set_option maxRecDepth 100000 in
set_option maxHeartbeats 4000000 in
theorem ctX4_order (l : Launch) (g : GG) (M : MM) (v1 : Int32) (v2 : Int32) (Q : Int32 → MM → Prop) (hF : full g) (hw : wX4_order Q M v1 v2) : MI g l yX4_order wsX4_order (rmOf 6 143) [.ref (gA g 0), .int v1, .int v2] M Q := by
  refine mk_MI (cc := cX4_order) (maxL := 5) (by decide) rfl (Nat.le_of_ble_eq_true rfl) ?_
  intro z Qf hC hR
  show XX z g Qf 5 0 [(0, .ref (gA g 0)), (1, .int v1), (2, .int v2)] [] M
  have B54 : ∀ (M : MM) (v3 : Int32) (v4 : Int32), wX4_order_54 Q v1 v2 M v3 v4 → XX z g Qf 5 54 [(0, .ref (gA g 0)), (1, .int v1), (3, .int v3), (4, .int v4)] [] M := by
    intro M v3 v4 hw
    refine q_iload_n hC dX4_order_54 1 rfl 55 rfl ?_
    refine r_callI hC (go_T (As := [.int v1]) (rest := []) hC (ctJ6_bitCount_0f7a4 (zl z) g M v1 _ hw) 1 gX4_order_J6_bitCount_0f7a4 rfl ⟨rfl, rfl⟩ hdT_J6_bitCount_0f7a4 ⟨Nat.le_of_ble_eq_true rfl, Nat.le_of_ble_eq_true rfl⟩ rfl rfl (Nat.le_of_ble_eq_true rfl) dX4_order_55) 58 rfl (fun r8 M9 hw => ?_)
    refine q_bipush (v := 8) hC dX4_order_58 (by decide) 60 rfl ?_
    refine q_icmp_le hC 66 dX4_order_60 (by decide) 63 rfl hw (fun hw => ?_) (fun hw => ?_)
    · refine q_aload_n hC dX4_order_66 0 rfl 67 rfl ?_
      refine q_getR (C := RX4) (T := TX4) (N := 12) (ci := 4) hC inX4_order_X4 (obF0 hF) rfl 2 (by decide) (uX4_order__o _ (List.mem_of_getElem? (l := owX4_order) (i := 2) rfl)) rfl 39 (fun _ => rfl) dX4_order_67 70 rfl ?_
      refine q_aload_n hC dX4_order_70 0 rfl 71 rfl ?_
      refine q_getR (C := RX4) (T := TX4) (N := 12) (ci := 4) hC inX4_order_X4 (obF0 hF) rfl 0 (by decide) (uX4_order__o _ (List.mem_of_getElem? (l := owX4_order) (i := 1) rfl)) rfl 1 (fun _ => rfl) dX4_order_71 74 rfl ?_
      refine q_iload_n hC dX4_order_74 1 rfl 75 rfl ?_
      refine r_callV hC (go_V (q := (RX0, TX0, 6)) (As := [.ref (gA g 1), .int v1]) (rest := []) hC (ctX0_plan (zl z) g M9 1 v1 _ hF (hF.tp (b := 1) (Or.inl rfl)) hw) 2 gX4_order_X0_plan rfl ⟨rfl, rfl⟩ hdV_X0_plan ⟨Nat.le_of_ble_eq_true rfl, Nat.le_of_ble_eq_true rfl⟩ (obF39 hF) rfl rfl rfl (Nat.le_of_ble_eq_true rfl) dX4_order_75) 78 rfl (fun M10 hw => ?_)
      refine q_iload hC dX4_order_78 3 rfl 80 rfl ?_
      refine q_if_eq hC 93 dX4_order_80 (by decide) 83 rfl hw (fun hw => ?_) (fun hw => ?_)
      · refine q_aload_n hC dX4_order_93 0 rfl 94 rfl ?_
        refine q_getR (C := RX4) (T := TX4) (N := 12) (ci := 4) hC inX4_order_X4 (obF0 hF) rfl 2 (by decide) (uX4_order__o _ (List.mem_of_getElem? (l := owX4_order) (i := 2) rfl)) rfl 39 (fun _ => rfl) dX4_order_94 97 rfl ?_
        refine q_iload_n hC dX4_order_97 2 rfl 98 rfl ?_
        refine r_callI hC (go_V (q := (RX0, TX0, 6)) (As := [.int v3]) (rest := []) hC (ctX0_stopAt (zl z) g M10 v3 _ hF hw) 1 gX4_order_X0_stopAt rfl ⟨rfl, rfl⟩ hdV_X0_stopAt ⟨Nat.le_of_ble_eq_true rfl, Nat.le_of_ble_eq_true rfl⟩ (obF39 hF) rfl rfl rfl (Nat.le_of_ble_eq_true rfl) dX4_order_98) 101 rfl (fun r11 M12 hw => ?_)
        exact r_iret hR dX4_order_101 hw
      · refine q_aload_n hC dX4_order_83 0 rfl 84 rfl ?_
        refine q_getR (C := RX4) (T := TX4) (N := 12) (ci := 4) hC inX4_order_X4 (obF0 hF) rfl 2 (by decide) (uX4_order__o _ (List.mem_of_getElem? (l := owX4_order) (i := 2) rfl)) rfl 39 (fun _ => rfl) dX4_order_84 87 rfl ?_
        refine q_getI (C := RX0) (T := TX0) (N := 6) (ci := 0) hC inX4_order_X0 (obF39 hF) rfl 5 (by decide) (uX4_order__o _ (List.mem_of_getElem? (l := owX4_order) (i := 3) rfl)) rfl (fun _ => rfl) dX4_order_87 90 rfl ?_
        refine q_goto hC 101 dX4_order_90 (by decide) ?_
        exact r_iret hR dX4_order_101 hw
    · refine q_bipush (v := (-2)) hC dX4_order_63 (by decide) 65 rfl ?_
      exact r_iret hR dX4_order_65 hw
  have B27 : ∀ (M : MM) (v3 : Int32) (p0 : Int32), wX4_order_27 Q v1 v2 M v3 p0 → XX z g Qf 5 27 [(0, .ref (gA g 0)), (1, .int v1), (3, .int v3)] [.int p0] M := by
    intro M v3 p0 hw
    refine q_istore (L' := [(4, .int p0), (0, .ref (gA g 0)), (1, .int v1), (3, .int v3)]) hC dX4_order_27 (by decide) rfl 29 rfl ?_
    refine q_iload hC dX4_order_29 0 rfl 31 rfl ?_
    refine q_if_ne hC 54 dX4_order_31 (by decide) 34 rfl hw (fun hw => ?_) (fun hw => ?_)
    · exact XX.sub [1, 2, 3, 0] rfl (B54 M v3 p0 hw)
    · refine q_iload_n hC dX4_order_34 3 rfl 35 rfl ?_
      refine q_iconst (v := 0) hC dX4_order_35 rfl 36 rfl ?_
      refine q_bipush (v := 7) hC dX4_order_36 (by decide) 38 rfl ?_
      refine r_callI hC (go_T (As := [.int v3, .int 0, .int 7]) (rest := []) hC (ctX4_isBetween (zl z) g M v3 0 7 _ hw) 3 gX4_order_X4_isBetween rfl ⟨rfl, rfl⟩ hdT_X4_isBetween ⟨Nat.le_of_ble_eq_true rfl, Nat.le_of_ble_eq_true rfl⟩ rfl rfl (Nat.le_of_ble_eq_true rfl) dX4_order_38) 41 rfl (fun r4 M5 hw => ?_)
      refine q_if_eq hC 52 dX4_order_41 (by decide) 44 rfl hw (fun hw => ?_) (fun hw => ?_)
      · refine q_iconst (v := (-1)) hC dX4_order_52 rfl 53 rfl ?_
        exact r_iret hR dX4_order_53 hw
      · refine q_iload_n hC dX4_order_44 3 rfl 45 rfl ?_
        refine q_iload_n hC dX4_order_45 2 rfl 46 rfl ?_
        refine r_callI hC (go_T (As := [.int v1]) (rest := [.int v3]) hC (ctJ6_bitCount_0f7a4 (zl z) g M5 v1 _ hw) 1 gX4_order_J6_bitCount_0f7a4 rfl ⟨rfl, rfl⟩ hdT_J6_bitCount_0f7a4 ⟨Nat.le_of_ble_eq_true rfl, Nat.le_of_ble_eq_true rfl⟩ rfl rfl (Nat.le_of_ble_eq_true rfl) dX4_order_46) 49 rfl (fun r6 M7 hw => ?_)
        refine q_icmp_lt hC 54 dX4_order_49 (by decide) 52 rfl hw (fun hw => ?_) (fun hw => ?_)
        · exact XX.sub [1, 2, 3, 0] rfl (B54 M7 v3 p0 hw)
        · refine q_iconst (v := (-1)) hC dX4_order_52 rfl 53 rfl ?_
          exact r_iret hR dX4_order_53 hw
  refine q_aload_n hC dX4_order_0 0 rfl 1 rfl ?_
  refine q_getR (C := RX4) (T := TX4) (N := 12) (ci := 4) hC inX4_order_X4 (obF0 hF) rfl 0 (by decide) (uX4_order__o _ (List.mem_of_getElem? (l := owX4_order) (i := 1) rfl)) rfl 1 (fun _ => rfl) dX4_order_1 4 rfl ?_
  refine q_iload_n hC dX4_order_4 1 rfl 5 rfl ?_
  refine r_callI hC (go_V (q := (RX2, TX2, 14)) (As := [.int v1]) (rest := []) hC (ctX2_hasAllOf (zl z) g M 1 v1 _ (hF.tp (b := 1) (Or.inl rfl)) hw) 1 gX4_order_X2_hasAllOf rfl ⟨rfl, rfl⟩ hdV_X2_hasAllOf ⟨Nat.le_of_ble_eq_true rfl, Nat.le_of_ble_eq_true rfl⟩ (hF.tp (b := 1) (Or.inl rfl)).ob rfl rfl rfl (Nat.le_of_ble_eq_true rfl) dX4_order_5) 8 rfl (fun r1 M2 hw => ?_)
  refine q_if_ne hC 13 dX4_order_8 (by decide) 11 rfl hw (fun hw => ?_) (fun hw => ?_)
  · refine q_iload_n hC dX4_order_13 2 rfl 14 rfl ?_
    refine q_bipush (v := 10) hC dX4_order_14 (by decide) 16 rfl ?_
    refine q_isub hC dX4_order_16 17 rfl ?_
    refine q_nameI (fun x3 ex3 => ?_)
    have hw := hw x3 ex3
    refine q_istore_n (L' := [(3, .int x3), (0, .ref (gA g 0)), (1, .int v1), (2, .int v2)]) hC dX4_order_17 (by decide) rfl 18 rfl ?_
    refine q_iload_n hC dX4_order_18 3 rfl 19 rfl ?_
    refine q_if_ne hC 26 dX4_order_19 (by decide) 22 rfl hw (fun hw => ?_) (fun hw => ?_)
    · refine q_iconst (v := 0) hC dX4_order_26 rfl 27 rfl ?_
      exact XX.sub [1, 2, 0] rfl (B27 M2 x3 0 hw)
    · refine q_iconst (v := 1) hC dX4_order_22 rfl 23 rfl ?_
      refine q_goto hC 27 dX4_order_23 (by decide) ?_
      exact XX.sub [1, 2, 0] rfl (B27 M2 x3 1 hw)
  · refine q_iconst (v := (-1)) hC dX4_order_11 rfl 12 rfl ?_
    exact r_iret hR dX4_order_12 hw
theorem inX4_reads_X0 : ∀ w ∈ u_ws RX0 TX0 6, w ∈ wsX4_reads := uX4_reads__wsX00
theorem inX4_reads_X2 : ∀ w ∈ u_ws RX2 TX2 14, w ∈ wsX4_reads := uX4_reads__wsX20
theorem inX4_reads_X4 : ∀ w ∈ u_ws RX4 TX4 12, w ∈ wsX4_reads := uX4_reads__wsX40
set_option maxRecDepth 100000 in
set_option maxHeartbeats 4000000 in
theorem ctX4_reads (l : Launch) (g : GG) (M : MM) (v1 : Int32) (Q : Int32 → MM → Prop) (hF : full g) (hw : wX4_reads Q M v1) : MI g l yX4_reads wsX4_reads (rmOf 6 143) [.ref (gA g 0), .int v1] M Q := by
  refine mk_MI (cc := cX4_reads) (maxL := 2) (by decide) rfl (Nat.le_of_ble_eq_true rfl) ?_
  intro z Qf hC hR
  show XX z g Qf 2 0 [(0, .ref (gA g 0)), (1, .int v1)] [] M
  refine q_aload_n hC dX4_reads_0 0 rfl 1 rfl ?_
  refine q_getR (C := RX4) (T := TX4) (N := 12) (ci := 4) hC inX4_reads_X4 (obF0 hF) rfl 0 (by decide) (uX4_reads__o _ (List.mem_of_getElem? (l := owX4_reads) (i := 1) rfl)) rfl 1 (fun _ => rfl) dX4_reads_1 4 rfl ?_
  refine q_iload_n hC dX4_reads_4 1 rfl 5 rfl ?_
  refine r_callI hC (go_V (q := (RX2, TX2, 14)) (As := [.int v1]) (rest := []) hC (ctX2_hasAllOf (zl z) g M 1 v1 _ (hF.tp (b := 1) (Or.inl rfl)) hw) 1 gX4_reads_X2_hasAllOf rfl ⟨rfl, rfl⟩ hdV_X2_hasAllOf ⟨Nat.le_of_ble_eq_true rfl, Nat.le_of_ble_eq_true rfl⟩ (hF.tp (b := 1) (Or.inl rfl)).ob rfl rfl rfl (Nat.le_of_ble_eq_true rfl) dX4_reads_5) 8 rfl (fun r1 M2 hw => ?_)
  refine q_if_ne hC 13 dX4_reads_8 (by decide) 11 rfl hw (fun hw => ?_) (fun hw => ?_)
  · refine q_iload_n hC dX4_reads_13 1 rfl 14 rfl ?_
    refine r_callI hC (go_T (As := [.int v1]) (rest := []) hC (ctJ6_bitCount_0f7a4 (zl z) g M2 v1 _ hw) 1 gX4_reads_J6_bitCount_0f7a4 rfl ⟨rfl, rfl⟩ hdT_J6_bitCount_0f7a4 ⟨Nat.le_of_ble_eq_true rfl, Nat.le_of_ble_eq_true rfl⟩ rfl rfl (Nat.le_of_ble_eq_true rfl) dX4_reads_14) 17 rfl (fun r3 M4 hw => ?_)
    refine q_bipush (v := 8) hC dX4_reads_17 (by decide) 19 rfl ?_
    refine q_icmp_le hC 25 dX4_reads_19 (by decide) 22 rfl hw (fun hw => ?_) (fun hw => ?_)
    · refine q_iload_n hC dX4_reads_25 1 rfl 26 rfl ?_
      refine q_if_ne hC 31 dX4_reads_26 (by decide) 29 rfl hw (fun hw => ?_) (fun hw => ?_)
      · refine q_aload_n hC dX4_reads_31 0 rfl 32 rfl ?_
        refine q_getR (C := RX4) (T := TX4) (N := 12) (ci := 4) hC inX4_reads_X4 (obF0 hF) rfl 2 (by decide) (uX4_reads__o _ (List.mem_of_getElem? (l := owX4_reads) (i := 2) rfl)) rfl 39 (fun _ => rfl) dX4_reads_32 35 rfl ?_
        refine q_aload_n hC dX4_reads_35 0 rfl 36 rfl ?_
        refine q_getR (C := RX4) (T := TX4) (N := 12) (ci := 4) hC inX4_reads_X4 (obF0 hF) rfl 0 (by decide) (uX4_reads__o _ (List.mem_of_getElem? (l := owX4_reads) (i := 1) rfl)) rfl 1 (fun _ => rfl) dX4_reads_36 39 rfl ?_
        refine q_iload_n hC dX4_reads_39 1 rfl 40 rfl ?_
        refine r_callV hC (go_V (q := (RX0, TX0, 6)) (As := [.ref (gA g 1), .int v1]) (rest := []) hC (ctX0_plan (zl z) g M4 1 v1 _ hF (hF.tp (b := 1) (Or.inl rfl)) hw) 2 gX4_reads_X0_plan rfl ⟨rfl, rfl⟩ hdV_X0_plan ⟨Nat.le_of_ble_eq_true rfl, Nat.le_of_ble_eq_true rfl⟩ (obF39 hF) rfl rfl rfl (Nat.le_of_ble_eq_true rfl) dX4_reads_40) 43 rfl (fun M5 hw => ?_)
        refine q_aload_n hC dX4_reads_43 0 rfl 44 rfl ?_
        refine q_getR (C := RX4) (T := TX4) (N := 12) (ci := 4) hC inX4_reads_X4 (obF0 hF) rfl 0 (by decide) (uX4_reads__o _ (List.mem_of_getElem? (l := owX4_reads) (i := 1) rfl)) rfl 1 (fun _ => rfl) dX4_reads_44 47 rfl ?_
        refine q_dup hC dX4_reads_47 rfl 48 rfl ?_
        refine q_getI (C := RX2) (T := TX2) (N := 14) (ci := 2) hC inX4_reads_X2 (hF.tp (b := 1) (Or.inl rfl)).ob rfl 10 (by decide) (uX4_reads__o _ (List.mem_of_getElem? (l := owX4_reads) (i := 3) rfl)) rfl (fun _ => rfl) dX4_reads_48 51 rfl ?_
        refine q_aload_n hC dX4_reads_51 0 rfl 52 rfl ?_
        refine q_getR (C := RX4) (T := TX4) (N := 12) (ci := 4) hC inX4_reads_X4 (obF0 hF) rfl 2 (by decide) (uX4_reads__o _ (List.mem_of_getElem? (l := owX4_reads) (i := 2) rfl)) rfl 39 (fun _ => rfl) dX4_reads_52 55 rfl ?_
        refine q_getI (C := RX0) (T := TX0) (N := 6) (ci := 0) hC inX4_reads_X0 (obF39 hF) rfl 5 (by decide) (uX4_reads__o _ (List.mem_of_getElem? (l := owX4_reads) (i := 4) rfl)) rfl (fun _ => rfl) dX4_reads_55 58 rfl ?_
        refine q_iadd hC dX4_reads_58 59 rfl ?_
        refine q_putI (C := RX2) (T := TX2) (N := 14) (ci := 2) hC inX4_reads_X2 tyX2 tyX2_ok nmX2 (hF.tp (b := 1) (Or.inl rfl)).ob rfl 10 (by decide) (uX4_reads__o _ (List.mem_of_getElem? (l := owX4_reads) (i := 3) rfl)) rfl rfl rfl (fun _ => Nat.le_of_ble_eq_true rfl) (fun _ => rfl) dX4_reads_59 62 rfl (fun M6 eM6 => ?_)
        have hw := hw M6 eM6
        refine q_aload_n hC dX4_reads_62 0 rfl 63 rfl ?_
        refine q_getR (C := RX4) (T := TX4) (N := 12) (ci := 4) hC inX4_reads_X4 (obF0 hF) rfl 0 (by decide) (uX4_reads__o _ (List.mem_of_getElem? (l := owX4_reads) (i := 1) rfl)) rfl 1 (fun _ => rfl) dX4_reads_63 66 rfl ?_
        refine q_aload_n hC dX4_reads_66 0 rfl 67 rfl ?_
        refine q_getR (C := RX4) (T := TX4) (N := 12) (ci := 4) hC inX4_reads_X4 (obF0 hF) rfl 0 (by decide) (uX4_reads__o _ (List.mem_of_getElem? (l := owX4_reads) (i := 1) rfl)) rfl 1 (fun _ => rfl) dX4_reads_67 70 rfl ?_
        refine q_aload_n hC dX4_reads_70 0 rfl 71 rfl ?_
        refine q_getR (C := RX4) (T := TX4) (N := 12) (ci := 4) hC inX4_reads_X4 (obF0 hF) rfl 2 (by decide) (uX4_reads__o _ (List.mem_of_getElem? (l := owX4_reads) (i := 2) rfl)) rfl 39 (fun _ => rfl) dX4_reads_71 74 rfl ?_
        refine q_aload_n hC dX4_reads_74 0 rfl 75 rfl ?_
        refine q_getR (C := RX4) (T := TX4) (N := 12) (ci := 4) hC inX4_reads_X4 (obF0 hF) rfl 2 (by decide) (uX4_reads__o _ (List.mem_of_getElem? (l := owX4_reads) (i := 2) rfl)) rfl 39 (fun _ => rfl) dX4_reads_75 78 rfl ?_
        refine q_getI (C := RX0) (T := TX0) (N := 6) (ci := 0) hC inX4_reads_X0 (obF39 hF) rfl 4 (by decide) (uX4_reads__o _ (List.mem_of_getElem? (l := owX4_reads) (i := 5) rfl)) rfl (fun _ => rfl) dX4_reads_78 81 rfl ?_
        refine q_iconst (v := 1) hC dX4_reads_81 rfl 82 rfl ?_
        refine q_isub hC dX4_reads_82 83 rfl ?_
        refine r_callI hC (go_V (q := (RX0, TX0, 6)) (As := [.int ((M6 39 4) - (1 : Int32))]) (rest := [.ref (gA g 1), .ref (gA g 1)]) hC (ctX0_stopAt (zl z) g M6 ((M6 39 4) - (1 : Int32)) _ hF hw) 1 gX4_reads_X0_stopAt rfl ⟨rfl, rfl⟩ hdV_X0_stopAt ⟨Nat.le_of_ble_eq_true rfl, Nat.le_of_ble_eq_true rfl⟩ (obF39 hF) rfl rfl rfl (Nat.le_of_ble_eq_true rfl) dX4_reads_83) 86 rfl (fun r7 M8 hw => ?_)
        refine r_callI hC (go_V (q := (RX2, TX2, 14)) (As := [.int r7]) (rest := [.ref (gA g 1)]) hC (ctX2_endOf (zl z) g M8 1 r7 _ (hF.tp (b := 1) (Or.inl rfl)) hw) 1 gX4_reads_X2_endOf rfl ⟨rfl, rfl⟩ hdV_X2_endOf ⟨Nat.le_of_ble_eq_true rfl, Nat.le_of_ble_eq_true rfl⟩ (hF.tp (b := 1) (Or.inl rfl)).ob rfl rfl rfl (Nat.le_of_ble_eq_true rfl) dX4_reads_86) 89 rfl (fun r9 M10 hw => ?_)
        refine q_putI (C := RX2) (T := TX2) (N := 14) (ci := 2) hC inX4_reads_X2 tyX2 tyX2_ok nmX2 (hF.tp (b := 1) (Or.inl rfl)).ob rfl 9 (by decide) (uX4_reads__o _ (List.mem_of_getElem? (l := owX4_reads) (i := 6) rfl)) rfl rfl rfl (fun _ => Nat.le_of_ble_eq_true rfl) (fun _ => rfl) dX4_reads_89 92 rfl (fun M11 eM11 => ?_)
        have hw := hw M11 eM11
        refine q_aload_n hC dX4_reads_92 0 rfl 93 rfl ?_
        refine q_getR (C := RX4) (T := TX4) (N := 12) (ci := 4) hC inX4_reads_X4 (obF0 hF) rfl 2 (by decide) (uX4_reads__o _ (List.mem_of_getElem? (l := owX4_reads) (i := 2) rfl)) rfl 39 (fun _ => rfl) dX4_reads_93 96 rfl ?_
        refine q_getI (C := RX0) (T := TX0) (N := 6) (ci := 0) hC inX4_reads_X0 (obF39 hF) rfl 5 (by decide) (uX4_reads__o _ (List.mem_of_getElem? (l := owX4_reads) (i := 4) rfl)) rfl (fun _ => rfl) dX4_reads_96 99 rfl ?_
        exact r_iret hR dX4_reads_99 hw
      · refine q_iconst (v := 0) hC dX4_reads_29 rfl 30 rfl ?_
        exact r_iret hR dX4_reads_30 hw
    · refine q_bipush (v := (-2)) hC dX4_reads_22 (by decide) 24 rfl ?_
      exact r_iret hR dX4_reads_24 hw
  · refine q_iconst (v := (-1)) hC dX4_reads_11 rfl 12 rfl ?_
    exact r_iret hR dX4_reads_12 hw
theorem hdV_X2_cutOut : yX2_cutOut.cls = RX2 ∧ yX2_cutOut.cls ≠ "java/lang/invoke/MethodHandle" ∧ yX2_cutOut.cls ≠ "java/lang/invoke/VarHandle" ∧ (parseMethodDescriptor yX2_cutOut.desc).map (fun d => d.parameters.length) = some 2 := by decide +kernel
theorem inX4_cut_X4 : ∀ w ∈ u_ws RX4 TX4 12, w ∈ wsX4_cut := uX4_cut__wsX40
set_option maxRecDepth 100000 in
set_option maxHeartbeats 4000000 in
theorem ctX4_cut (l : Launch) (g : GG) (M : MM) (v1 : Int32) (v2 : Int32) (Q : Int32 → MM → Prop) (hF : full g) (hw : wX4_cut Q M v1 v2) : MI g l yX4_cut wsX4_cut (rmOf 4 95) [.ref (gA g 0), .int v1, .int v2] M Q := by
  refine mk_MI (cc := cX4_cut) (maxL := 3) (by decide) rfl (Nat.le_of_ble_eq_true rfl) ?_
  intro z Qf hC hR
  show XX z g Qf 3 0 [(0, .ref (gA g 0)), (1, .int v1), (2, .int v2)] [] M
  refine q_aload_n hC dX4_cut_0 0 rfl 1 rfl ?_
  refine q_getR (C := RX4) (T := TX4) (N := 12) (ci := 4) hC inX4_cut_X4 (obF0 hF) rfl 0 (by decide) (uX4_cut__o _ (List.mem_of_getElem? (l := owX4_cut) (i := 1) rfl)) rfl 1 (fun _ => rfl) dX4_cut_1 4 rfl ?_
  refine q_iload_n hC dX4_cut_4 1 rfl 5 rfl ?_
  refine r_callI hC (go_V (q := (RX2, TX2, 14)) (As := [.int v1]) (rest := []) hC (ctX2_hasPlace (zl z) g M 1 v1 _ (hF.tp (b := 1) (Or.inl rfl)) hw) 1 gX4_cut_X2_hasPlace rfl ⟨rfl, rfl⟩ hdV_X2_hasPlace ⟨Nat.le_of_ble_eq_true rfl, Nat.le_of_ble_eq_true rfl⟩ (hF.tp (b := 1) (Or.inl rfl)).ob rfl rfl rfl (Nat.le_of_ble_eq_true rfl) dX4_cut_5) 8 rfl (fun r1 M2 hw => ?_)
  refine q_if_eq hC 27 dX4_cut_8 (by decide) 11 rfl hw (fun hw => ?_) (fun hw => ?_)
  · refine q_iconst (v := (-1)) hC dX4_cut_27 rfl 28 rfl ?_
    exact r_iret hR dX4_cut_28 hw
  · refine q_aload_n hC dX4_cut_11 0 rfl 12 rfl ?_
    refine q_getR (C := RX4) (T := TX4) (N := 12) (ci := 4) hC inX4_cut_X4 (obF0 hF) rfl 0 (by decide) (uX4_cut__o _ (List.mem_of_getElem? (l := owX4_cut) (i := 1) rfl)) rfl 1 (fun _ => rfl) dX4_cut_12 15 rfl ?_
    refine q_iload_n hC dX4_cut_15 2 rfl 16 rfl ?_
    refine r_callI hC (go_V (q := (RX2, TX2, 14)) (As := [.int v2]) (rest := []) hC (ctX2_hasPlace (zl z) g M2 1 v2 _ (hF.tp (b := 1) (Or.inl rfl)) hw) 1 gX4_cut_X2_hasPlace rfl ⟨rfl, rfl⟩ hdV_X2_hasPlace ⟨Nat.le_of_ble_eq_true rfl, Nat.le_of_ble_eq_true rfl⟩ (hF.tp (b := 1) (Or.inl rfl)).ob rfl rfl rfl (Nat.le_of_ble_eq_true rfl) dX4_cut_16) 19 rfl (fun r3 M4 hw => ?_)
    refine q_if_eq hC 27 dX4_cut_19 (by decide) 22 rfl hw (fun hw => ?_) (fun hw => ?_)
    · refine q_iconst (v := (-1)) hC dX4_cut_27 rfl 28 rfl ?_
      exact r_iret hR dX4_cut_28 hw
    · refine q_iload_n hC dX4_cut_22 2 rfl 23 rfl ?_
      refine q_iload_n hC dX4_cut_23 1 rfl 24 rfl ?_
      refine q_icmp_gt hC 29 dX4_cut_24 (by decide) 27 rfl hw (fun hw => ?_) (fun hw => ?_)
      · refine q_aload_n hC dX4_cut_29 0 rfl 30 rfl ?_
        refine q_getR (C := RX4) (T := TX4) (N := 12) (ci := 4) hC inX4_cut_X4 (obF0 hF) rfl 0 (by decide) (uX4_cut__o _ (List.mem_of_getElem? (l := owX4_cut) (i := 1) rfl)) rfl 1 (fun _ => rfl) dX4_cut_30 33 rfl ?_
        refine q_iconst (v := 0) hC dX4_cut_33 rfl 34 rfl ?_
        refine r_callI hC (go_V (q := (RX2, TX2, 14)) (As := [.int 0]) (rest := []) hC (ctX2_ruled (zl z) g M4 1 0 _ (hF.tp (b := 1) (Or.inl rfl)) hw) 1 gX4_cut_X2_ruled rfl ⟨rfl, rfl⟩ hdV_X2_ruled ⟨Nat.le_of_ble_eq_true rfl, Nat.le_of_ble_eq_true rfl⟩ (hF.tp (b := 1) (Or.inl rfl)).ob rfl rfl rfl (Nat.le_of_ble_eq_true rfl) dX4_cut_34) 37 rfl (fun r5 M6 hw => ?_)
        refine q_iload_n hC dX4_cut_37 2 rfl 38 rfl ?_
        refine q_iload_n hC dX4_cut_38 1 rfl 39 rfl ?_
        refine q_isub hC dX4_cut_39 40 rfl ?_
        refine q_isub hC dX4_cut_40 41 rfl ?_
        refine q_bipush (v := 20) hC dX4_cut_41 (by decide) 43 rfl ?_
        refine q_icmp_ge hC 49 dX4_cut_43 (by decide) 46 rfl hw (fun hw => ?_) (fun hw => ?_)
        · refine q_aload_n hC dX4_cut_49 0 rfl 50 rfl ?_
          refine q_getR (C := RX4) (T := TX4) (N := 12) (ci := 4) hC inX4_cut_X4 (obF0 hF) rfl 0 (by decide) (uX4_cut__o _ (List.mem_of_getElem? (l := owX4_cut) (i := 1) rfl)) rfl 1 (fun _ => rfl) dX4_cut_50 53 rfl ?_
          refine q_iload_n hC dX4_cut_53 1 rfl 54 rfl ?_
          refine q_iload_n hC dX4_cut_54 2 rfl 55 rfl ?_
          refine r_callI hC (go_V (q := (RX2, TX2, 14)) (As := [.int v1, .int v2]) (rest := []) hC (ctX2_cutOut (zl z) g M6 1 v1 v2 _ (hF.tp (b := 1) (Or.inl rfl)) hw) 2 gX4_cut_X2_cutOut rfl ⟨rfl, rfl⟩ hdV_X2_cutOut ⟨Nat.le_of_ble_eq_true rfl, Nat.le_of_ble_eq_true rfl⟩ (hF.tp (b := 1) (Or.inl rfl)).ob rfl rfl rfl (Nat.le_of_ble_eq_true rfl) dX4_cut_55) 58 rfl (fun r7 M8 hw => ?_)
          exact r_iret hR dX4_cut_58 hw
        · refine q_bipush (v := (-2)) hC dX4_cut_46 (by decide) 48 rfl ?_
          exact r_iret hR dX4_cut_48 hw
      · refine q_iconst (v := (-1)) hC dX4_cut_27 rfl 28 rfl ?_
        exact r_iret hR dX4_cut_28 hw
theorem hdV_X2_roomFor : yX2_roomFor.cls = RX2 ∧ yX2_roomFor.cls ≠ "java/lang/invoke/MethodHandle" ∧ yX2_roomFor.cls ≠ "java/lang/invoke/VarHandle" ∧ (parseMethodDescriptor yX2_roomFor.desc).map (fun d => d.parameters.length) = some 1 := by decide +kernel
theorem inX4_holds_X4 : ∀ w ∈ u_ws RX4 TX4 12, w ∈ wsX4_holds := uX4_holds__wsX40
set_option maxRecDepth 100000 in
set_option maxHeartbeats 4000000 in
theorem ctX4_holds (l : Launch) (g : GG) (M : MM) (v1 : Int32) (Q : Int32 → MM → Prop) (hF : full g) (hw : wX4_holds Q M v1) : MI g l yX4_holds wsX4_holds (rmOf 3 64) [.ref (gA g 0), .int v1] M Q := by
  refine mk_MI (cc := cX4_holds) (maxL := 2) (by decide) rfl (Nat.le_of_ble_eq_true rfl) ?_
  intro z Qf hC hR
  show XX z g Qf 2 0 [(0, .ref (gA g 0)), (1, .int v1)] [] M
  refine q_iload_n hC dX4_holds_0 1 rfl 1 rfl ?_
  refine q_iconst (v := 1) hC dX4_holds_1 rfl 2 rfl ?_
  refine q_bipush (v := 99) hC dX4_holds_2 (by decide) 4 rfl ?_
  refine r_callI hC (go_T (As := [.int v1, .int 1, .int 99]) (rest := []) hC (ctX4_isBetween (zl z) g M v1 1 99 _ hw) 3 gX4_holds_X4_isBetween rfl ⟨rfl, rfl⟩ hdT_X4_isBetween ⟨Nat.le_of_ble_eq_true rfl, Nat.le_of_ble_eq_true rfl⟩ rfl rfl (Nat.le_of_ble_eq_true rfl) dX4_holds_4) 7 rfl (fun r1 M2 hw => ?_)
  refine q_if_eq hC 21 dX4_holds_7 (by decide) 10 rfl hw (fun hw => ?_) (fun hw => ?_)
  · refine q_iconst (v := (-1)) hC dX4_holds_21 rfl 22 rfl ?_
    exact r_iret hR dX4_holds_22 hw
  · refine q_aload_n hC dX4_holds_10 0 rfl 11 rfl ?_
    refine q_getR (C := RX4) (T := TX4) (N := 12) (ci := 4) hC inX4_holds_X4 (obF0 hF) rfl 0 (by decide) (uX4_holds__o _ (List.mem_of_getElem? (l := owX4_holds) (i := 1) rfl)) rfl 1 (fun _ => rfl) dX4_holds_11 14 rfl ?_
    refine q_iload_n hC dX4_holds_14 1 rfl 15 rfl ?_
    refine r_callI hC (go_V (q := (RX2, TX2, 14)) (As := [.int v1]) (rest := []) hC (ctX2_roomFor (zl z) g M2 1 v1 _ (hF.tp (b := 1) (Or.inl rfl)) hw) 1 gX4_holds_X2_roomFor rfl ⟨rfl, rfl⟩ hdV_X2_roomFor ⟨Nat.le_of_ble_eq_true rfl, Nat.le_of_ble_eq_true rfl⟩ (hF.tp (b := 1) (Or.inl rfl)).ob rfl rfl rfl (Nat.le_of_ble_eq_true rfl) dX4_holds_15) 18 rfl (fun r3 M4 hw => ?_)
    refine q_goto hC 22 dX4_holds_18 (by decide) ?_
    exact r_iret hR dX4_holds_22 hw
theorem inX4_most_X4 : ∀ w ∈ u_ws RX4 TX4 12, w ∈ wsX4_most := uX4_most__wsX40
set_option maxRecDepth 100000 in
set_option maxHeartbeats 4000000 in
theorem ctX4_most (l : Launch) (g : GG) (M : MM) (v1 : Int32) (Q : Int32 → MM → Prop) (hF : full g) (hw : wX4_most Q M v1) : MI g l yX4_most wsX4_most (rmOf 3 64) [.ref (gA g 0), .int v1] M Q := by
  refine mk_MI (cc := cX4_most) (maxL := 6) (by decide) rfl (Nat.le_of_ble_eq_true rfl) ?_
  intro z Qf hC hR
  show XX z g Qf 6 0 [(0, .ref (gA g 0)), (1, .int v1)] [] M
  have B58 : ∀ (K25 : MM → Int32 → Int32 → Int32 → Prop) (hK25 : ∀ (M : MM) (v2 : Int32) (v3 : Int32) (v4 : Int32) , K25 M v2 v3 v4 → XX z g Qf 6 25 [(0, .ref (gA g 0)), (1, .int v1), (2, .int v2), (3, .int v3), (4, .int v4)] [] M) (M : MM) (v2 : Int32) (v3 : Int32) (v4 : Int32), wX4_most_58 Q K25 v1 M v2 v3 v4 → XX z g Qf 6 58 [(0, .ref (gA g 0)), (1, .int v1), (2, .int v2), (3, .int v3), (4, .int v4)] [] M := by
    intro K25 hK25 M v2 v3 v4 hw
    refine q_iinc (v := v4 + 1) (L' := [(4, .int (v4 + 1)), (0, .ref (gA g 0)), (1, .int v1), (2, .int v2), (3, .int v3)]) hC dX4_most_58 4 rfl rfl (by decide) rfl 61 rfl ?_
    refine q_goto hC 25 dX4_most_61 (by decide) ?_
    exact XX.sub [1, 2, 3, 4, 0] rfl (hK25 M v2 v3 (v4 + 1) hw)
  have B25 : ∀ (n : Nat) (M : MM) (v2 : Int32) (v3 : Int32) (v4 : Int32) , wX4_most_25 Q v1 n M v2 v3 v4 → XX z g Qf 6 25 [(0, .ref (gA g 0)), (1, .int v1), (2, .int v2), (3, .int v3), (4, .int v4)] [] M := by
    intro n
    induction n with
    | zero =>
      intro M v2 v3 v4 hw
      exact hw.elim
    | succ n ih =>
      intro M v2 v3 v4 hw
      refine q_iload hC dX4_most_25 4 rfl 27 rfl ?_
      refine q_bipush (v := 99) hC dX4_most_27 (by decide) 29 rfl ?_
      refine q_icmp_gt hC 64 dX4_most_29 (by decide) 32 rfl hw (fun hw => ?_) (fun hw => ?_)
      · refine q_iload_n hC dX4_most_64 1 rfl 65 rfl ?_
        refine q_if_ne hC 72 dX4_most_65 (by decide) 68 rfl hw (fun hw => ?_) (fun hw => ?_)
        · refine q_iload_n hC dX4_most_72 3 rfl 73 rfl ?_
          exact r_iret hR dX4_most_73 hw
        · refine q_iload_n hC dX4_most_68 2 rfl 69 rfl ?_
          refine q_goto hC 73 dX4_most_69 (by decide) ?_
          exact r_iret hR dX4_most_73 hw
      · refine q_iload hC dX4_most_32 4 rfl 34 rfl ?_
        refine q_aload_n hC dX4_most_34 0 rfl 35 rfl ?_
        refine q_getR (C := RX4) (T := TX4) (N := 12) (ci := 4) hC inX4_most_X4 (obF0 hF) rfl 0 (by decide) (uX4_most__o _ (List.mem_of_getElem? (l := owX4_most) (i := 1) rfl)) rfl 1 (fun _ => rfl) dX4_most_35 38 rfl ?_
        refine q_iload hC dX4_most_38 4 rfl 40 rfl ?_
        refine r_callI hC (go_V (q := (RX2, TX2, 14)) (As := [.int v4]) (rest := [.int v4]) hC (ctX2_roomFor (zl z) g M 1 v4 _ (hF.tp (b := 1) (Or.inl rfl)) hw) 1 gX4_most_X2_roomFor rfl ⟨rfl, rfl⟩ hdV_X2_roomFor ⟨Nat.le_of_ble_eq_true rfl, Nat.le_of_ble_eq_true rfl⟩ (hF.tp (b := 1) (Or.inl rfl)).ob rfl rfl rfl (Nat.le_of_ble_eq_true rfl) dX4_most_40) 43 rfl (fun r5 M6 hw => ?_)
        refine q_imul hC dX4_most_43 44 rfl ?_
        refine q_istore (L' := [(5, .int (v4 * r5)), (0, .ref (gA g 0)), (1, .int v1), (2, .int v2), (3, .int v3), (4, .int v4)]) hC dX4_most_44 (by decide) rfl 46 rfl ?_
        refine q_iload hC dX4_most_46 0 rfl 48 rfl ?_
        refine q_iload_n hC dX4_most_48 4 rfl 49 rfl ?_
        refine q_icmp_le hC 58 dX4_most_49 (by decide) 52 rfl hw (fun hw => ?_) (fun hw => ?_)
        · exact XX.sub [1, 2, 3, 4, 5] rfl (B58 _ (fun M v2 v3 v4 hw => ih M v2 v3 v4 hw) M6 v2 v3 v4 hw)
        · refine q_iload hC dX4_most_52 0 rfl 54 rfl ?_
          refine q_istore_n (L' := [(3, .int (v4 * r5)), (5, .int (v4 * r5)), (0, .ref (gA g 0)), (1, .int v1), (2, .int v2), (4, .int v4)]) hC dX4_most_54 (by decide) rfl 55 rfl ?_
          refine q_iload hC dX4_most_55 5 rfl 57 rfl ?_
          refine q_istore_n (L' := [(2, .int v4), (3, .int (v4 * r5)), (5, .int (v4 * r5)), (0, .ref (gA g 0)), (1, .int v1), (4, .int v4)]) hC dX4_most_57 (by decide) rfl 58 rfl ?_
          exact XX.sub [3, 4, 0, 1, 5] rfl (B58 _ (fun M v2 v3 v4 hw => ih M v2 v3 v4 hw) M6 v4 (v4 * r5) v4 hw)
  refine q_iload_n hC dX4_most_0 1 rfl 1 rfl ?_
  refine q_iconst (v := 0) hC dX4_most_1 rfl 2 rfl ?_
  refine q_iconst (v := 1) hC dX4_most_2 rfl 3 rfl ?_
  refine r_callI hC (go_T (As := [.int v1, .int 0, .int 1]) (rest := []) hC (ctX4_isBetween (zl z) g M v1 0 1 _ hw) 3 gX4_most_X4_isBetween rfl ⟨rfl, rfl⟩ hdT_X4_isBetween ⟨Nat.le_of_ble_eq_true rfl, Nat.le_of_ble_eq_true rfl⟩ rfl rfl (Nat.le_of_ble_eq_true rfl) dX4_most_3) 6 rfl (fun r1 M2 hw => ?_)
  refine q_if_ne hC 11 dX4_most_6 (by decide) 9 rfl hw (fun hw => ?_) (fun hw => ?_)
  · refine q_iconst (v := 1) hC dX4_most_11 rfl 12 rfl ?_
    refine q_istore_n (L' := [(2, .int 1), (0, .ref (gA g 0)), (1, .int v1)]) hC dX4_most_12 (by decide) rfl 13 rfl ?_
    refine q_aload_n hC dX4_most_13 1 rfl 14 rfl ?_
    refine q_getR (C := RX4) (T := TX4) (N := 12) (ci := 4) hC inX4_most_X4 (obF0 hF) rfl 0 (by decide) (uX4_most__o _ (List.mem_of_getElem? (l := owX4_most) (i := 1) rfl)) rfl 1 (fun _ => rfl) dX4_most_14 17 rfl ?_
    refine q_iconst (v := 1) hC dX4_most_17 rfl 18 rfl ?_
    refine r_callI hC (go_V (q := (RX2, TX2, 14)) (As := [.int 1]) (rest := []) hC (ctX2_roomFor (zl z) g M2 1 1 _ (hF.tp (b := 1) (Or.inl rfl)) hw) 1 gX4_most_X2_roomFor rfl ⟨rfl, rfl⟩ hdV_X2_roomFor ⟨Nat.le_of_ble_eq_true rfl, Nat.le_of_ble_eq_true rfl⟩ (hF.tp (b := 1) (Or.inl rfl)).ob rfl rfl rfl (Nat.le_of_ble_eq_true rfl) dX4_most_18) 21 rfl (fun r3 M4 hw => ?_)
    refine q_istore_n (L' := [(3, .int r3), (2, .int 1), (0, .ref (gA g 0)), (1, .int v1)]) hC dX4_most_21 (by decide) rfl 22 rfl ?_
    refine q_iconst (v := 2) hC dX4_most_22 rfl 23 rfl ?_
    refine q_istore (L' := [(4, .int 2), (3, .int r3), (2, .int 1), (0, .ref (gA g 0)), (1, .int v1)]) hC dX4_most_23 (by decide) rfl 25 rfl ?_
    obtain ⟨n0, hw⟩ := hw
    exact XX.sub [3, 4, 2, 1, 0] rfl (B25 n0 M4 1 r3 2 hw)
  · refine q_iconst (v := (-1)) hC dX4_most_9 rfl 10 rfl ?_
    exact r_iret hR dX4_most_10 hw
set_option maxRecDepth 100000 in
set_option maxHeartbeats 4000000 in
theorem ctX4_isStream (l : Launch) (g : GG) (M : MM) (v0 : Int32) (v1 : Int32) (v2 : Int32) (Q : Int32 → MM → Prop)  (hw : wX4_isStream Q M v0 v1 v2) : MI g l yX4_isStream wsX4_isStream (rmOf 1 22) [.int v0, .int v1, .int v2] M Q := by
  refine mk_MZ (cc := cX4_isStream) (maxL := 3) (by decide) rfl (Nat.le_of_ble_eq_true rfl) ?_
  intro z Qf hC hR
  show XX z g Qf 3 0 [(0, .int v0), (1, .int v1), (2, .int v2)] [] M
  have B35 : ∀ (M : MM), wX4_isStream_35 Q v0 v1 v2 M → XX z g Qf 3 35 [] [] M := by
    intro M hw
    refine q_iconst (v := 0) hC dX4_isStream_35 rfl 36 rfl ?_
    exact r_iret hR dX4_isStream_36 ⟨nb_0, hw⟩
  refine q_iload_n hC dX4_isStream_0 0 rfl 1 rfl ?_
  refine q_iconst (v := 1) hC dX4_isStream_1 rfl 2 rfl ?_
  refine q_bipush (v := 99) hC dX4_isStream_2 (by decide) 4 rfl ?_
  refine r_callI hC (go_T (As := [.int v0, .int 1, .int 99]) (rest := []) hC (ctX4_isBetween (zl z) g M v0 1 99 _ hw) 3 gX4_isStream_X4_isBetween rfl ⟨rfl, rfl⟩ hdT_X4_isBetween ⟨Nat.le_of_ble_eq_true rfl, Nat.le_of_ble_eq_true rfl⟩ rfl rfl (Nat.le_of_ble_eq_true rfl) dX4_isStream_4) 7 rfl (fun r1 M2 hw => ?_)
  refine q_if_eq hC 35 dX4_isStream_7 (by decide) 10 rfl hw (fun hw => ?_) (fun hw => ?_)
  · exact XX.sub [] rfl (B35 M2 hw)
  · refine q_iload_n hC dX4_isStream_10 1 rfl 11 rfl ?_
    refine q_iconst (v := 1) hC dX4_isStream_11 rfl 12 rfl ?_
    refine q_bipush (v := 99) hC dX4_isStream_12 (by decide) 14 rfl ?_
    refine r_callI hC (go_T (As := [.int v1, .int 1, .int 99]) (rest := []) hC (ctX4_isBetween (zl z) g M2 v1 1 99 _ hw) 3 gX4_isStream_X4_isBetween rfl ⟨rfl, rfl⟩ hdT_X4_isBetween ⟨Nat.le_of_ble_eq_true rfl, Nat.le_of_ble_eq_true rfl⟩ rfl rfl (Nat.le_of_ble_eq_true rfl) dX4_isStream_14) 17 rfl (fun r3 M4 hw => ?_)
    refine q_if_eq hC 35 dX4_isStream_17 (by decide) 20 rfl hw (fun hw => ?_) (fun hw => ?_)
    · exact XX.sub [] rfl (B35 M4 hw)
    · refine q_iload_n hC dX4_isStream_20 2 rfl 21 rfl ?_
      refine q_iconst (v := 0) hC dX4_isStream_21 rfl 22 rfl ?_
      refine q_sipush (v := 9999) hC dX4_isStream_22 (by decide) 25 rfl ?_
      refine r_callI hC (go_T (As := [.int v2, .int 0, .int 9999]) (rest := []) hC (ctX4_isBetween (zl z) g M4 v2 0 9999 _ hw) 3 gX4_isStream_X4_isBetween rfl ⟨rfl, rfl⟩ hdT_X4_isBetween ⟨Nat.le_of_ble_eq_true rfl, Nat.le_of_ble_eq_true rfl⟩ rfl rfl (Nat.le_of_ble_eq_true rfl) dX4_isStream_25) 28 rfl (fun r5 M6 hw => ?_)
      refine q_if_eq hC 35 dX4_isStream_28 (by decide) 31 rfl hw (fun hw => ?_) (fun hw => ?_)
      · exact XX.sub [] rfl (B35 M6 hw)
      · refine q_iconst (v := 1) hC dX4_isStream_31 rfl 32 rfl ?_
        refine q_goto hC 36 dX4_isStream_32 (by decide) ?_
        exact r_iret hR dX4_isStream_36 ⟨nb_1, hw⟩
theorem hdT_X4_isStream : yX4_isStream.cls ≠ "java/lang/invoke/MethodHandle" ∧ yX4_isStream.cls ≠ "java/lang/invoke/VarHandle" ∧ (parseMethodDescriptor yX4_isStream.desc).map (fun d => d.parameters.length) = some 3 := by decide +kernel
theorem hdV_X2_streamed : yX2_streamed.cls = RX2 ∧ yX2_streamed.cls ≠ "java/lang/invoke/MethodHandle" ∧ yX2_streamed.cls ≠ "java/lang/invoke/VarHandle" ∧ (parseMethodDescriptor yX2_streamed.desc).map (fun d => d.parameters.length) = some 5 := by decide +kernel
theorem inX4_stream_X4 : ∀ w ∈ u_ws RX4 TX4 12, w ∈ wsX4_stream := uX4_stream__wsX40
set_option maxRecDepth 100000 in
set_option maxHeartbeats 4000000 in
theorem ctX4_stream (l : Launch) (g : GG) (M : MM) (v1 : Int32) (v2 : Int32) (v3 : Int32) (v4 : Int32) (v5 : Int32) (Q : Int32 → MM → Prop) (hF : full g) (hw : wX4_stream Q M v1 v2 v3 v4 v5) : MI g l yX4_stream wsX4_stream (rmOf 3 75) [.ref (gA g 0), .int v1, .int v2, .int v3, .int v4, .int v5] M Q := by
  refine mk_MI (cc := cX4_stream) (maxL := 6) (by decide) rfl (Nat.le_of_ble_eq_true rfl) ?_
  intro z Qf hC hR
  show XX z g Qf 6 0 [(0, .ref (gA g 0)), (1, .int v1), (2, .int v2), (3, .int v3), (4, .int v4), (5, .int v5)] [] M
  have B52 : ∀ (M : MM) (p0 : Int32) (p1 : Int32) (p2 : Int32) (p3 : Int32) (p4 : Int32), wX4_stream_52 Q v1 v2 v3 v4 v5 M p0 p1 p2 p3 p4 → XX z g Qf 6 52 [] [.int p0, .int p1, .int p2, .int p3, .int p4, .ref (gA g 1)] M := by
    intro M p0 p1 p2 p3 p4 hw
    refine r_callI hC (go_V (q := (RX2, TX2, 14)) (As := [.int p4, .int p3, .int p2, .int p1, .int p0]) (rest := []) hC (ctX2_streamed (zl z) g M 1 p4 p3 p2 p1 p0 _ (hF.tp (b := 1) (Or.inl rfl)) hw) 5 gX4_stream_X2_streamed rfl ⟨rfl, rfl⟩ hdV_X2_streamed ⟨Nat.le_of_ble_eq_true rfl, Nat.le_of_ble_eq_true rfl⟩ (hF.tp (b := 1) (Or.inl rfl)).ob rfl rfl rfl (Nat.le_of_ble_eq_true rfl) dX4_stream_52) 55 rfl (fun r7 M8 hw => ?_)
    exact r_iret hR dX4_stream_55 hw
  refine q_iload_n hC dX4_stream_0 1 rfl 1 rfl ?_
  refine q_iload_n hC dX4_stream_1 2 rfl 2 rfl ?_
  refine q_iload_n hC dX4_stream_2 3 rfl 3 rfl ?_
  refine r_callI hC (go_T (As := [.int v1, .int v2, .int v3]) (rest := []) hC (ctX4_isStream (zl z) g M v1 v2 v3 _ hw) 3 gX4_stream_X4_isStream rfl ⟨rfl, rfl⟩ hdT_X4_isStream ⟨Nat.le_of_ble_eq_true rfl, Nat.le_of_ble_eq_true rfl⟩ rfl rfl (Nat.le_of_ble_eq_true rfl) dX4_stream_3) 6 rfl (fun r1 M2 hw => ?_)
  refine q_if_eq hC 30 dX4_stream_6 (by decide) 9 rfl hw (fun hw => ?_) (fun hw => ?_)
  · refine q_iconst (v := (-1)) hC dX4_stream_30 rfl 31 rfl ?_
    exact r_iret hR dX4_stream_31 hw
  · refine q_iload hC dX4_stream_9 4 rfl 11 rfl ?_
    refine q_iconst (v := 1) hC dX4_stream_11 rfl 12 rfl ?_
    refine q_bipush (v := 99) hC dX4_stream_12 (by decide) 14 rfl ?_
    refine r_callI hC (go_T (As := [.int v4, .int 1, .int 99]) (rest := []) hC (ctX4_isBetween (zl z) g M2 v4 1 99 _ hw) 3 gX4_stream_X4_isBetween rfl ⟨rfl, rfl⟩ hdT_X4_isBetween ⟨Nat.le_of_ble_eq_true rfl, Nat.le_of_ble_eq_true rfl⟩ rfl rfl (Nat.le_of_ble_eq_true rfl) dX4_stream_14) 17 rfl (fun r3 M4 hw => ?_)
    refine q_if_eq hC 30 dX4_stream_17 (by decide) 20 rfl hw (fun hw => ?_) (fun hw => ?_)
    · refine q_iconst (v := (-1)) hC dX4_stream_30 rfl 31 rfl ?_
      exact r_iret hR dX4_stream_31 hw
    · refine q_iload hC dX4_stream_20 5 rfl 22 rfl ?_
      refine q_iconst (v := 0) hC dX4_stream_22 rfl 23 rfl ?_
      refine q_iconst (v := 1) hC dX4_stream_23 rfl 24 rfl ?_
      refine r_callI hC (go_T (As := [.int v5, .int 0, .int 1]) (rest := []) hC (ctX4_isBetween (zl z) g M4 v5 0 1 _ hw) 3 gX4_stream_X4_isBetween rfl ⟨rfl, rfl⟩ hdT_X4_isBetween ⟨Nat.le_of_ble_eq_true rfl, Nat.le_of_ble_eq_true rfl⟩ rfl rfl (Nat.le_of_ble_eq_true rfl) dX4_stream_24) 27 rfl (fun r5 M6 hw => ?_)
      refine q_if_ne hC 32 dX4_stream_27 (by decide) 30 rfl hw (fun hw => ?_) (fun hw => ?_)
      · refine q_aload_n hC dX4_stream_32 0 rfl 33 rfl ?_
        refine q_getR (C := RX4) (T := TX4) (N := 12) (ci := 4) hC inX4_stream_X4 (obF0 hF) rfl 0 (by decide) (uX4_stream__o _ (List.mem_of_getElem? (l := owX4_stream) (i := 1) rfl)) rfl 1 (fun _ => rfl) dX4_stream_33 36 rfl ?_
        refine q_iload_n hC dX4_stream_36 1 rfl 37 rfl ?_
        refine q_iload_n hC dX4_stream_37 2 rfl 38 rfl ?_
        refine q_iload_n hC dX4_stream_38 3 rfl 39 rfl ?_
        refine q_iload hC dX4_stream_39 4 rfl 41 rfl ?_
        refine q_iload hC dX4_stream_41 5 rfl 43 rfl ?_
        refine q_iconst (v := 1) hC dX4_stream_43 rfl 44 rfl ?_
        refine q_icmp_ne hC 51 dX4_stream_44 (by decide) 47 rfl hw (fun hw => ?_) (fun hw => ?_)
        · refine q_iconst (v := 0) hC dX4_stream_51 rfl 52 rfl ?_
          exact XX.sub [] rfl (B52 M6 0 v4 v3 v2 v1 hw)
        · refine q_iconst (v := 1) hC dX4_stream_47 rfl 48 rfl ?_
          refine q_goto hC 52 dX4_stream_48 (by decide) ?_
          exact XX.sub [] rfl (B52 M6 1 v4 v3 v2 v1 hw)
      · refine q_iconst (v := (-1)) hC dX4_stream_30 rfl 31 rfl ?_
        exact r_iret hR dX4_stream_31 hw
theorem inX4_buffer_X4 : ∀ w ∈ u_ws RX4 TX4 12, w ∈ wsX4_buffer := uX4_buffer__wsX40
set_option maxRecDepth 100000 in
set_option maxHeartbeats 4000000 in
theorem ctX4_buffer (l : Launch) (g : GG) (M : MM) (v1 : Int32) (v2 : Int32) (v3 : Int32) (v4 : Int32) (Q : Int32 → MM → Prop) (hF : full g) (hw : wX4_buffer Q M v1 v2 v3 v4) : MI g l yX4_buffer wsX4_buffer (rmOf 3 75) [.ref (gA g 0), .int v1, .int v2, .int v3, .int v4] M Q := by
  refine mk_MI (cc := cX4_buffer) (maxL := 9) (by decide) rfl (Nat.le_of_ble_eq_true rfl) ?_
  intro z Qf hC hR
  show XX z g Qf 9 0 [(0, .ref (gA g 0)), (1, .int v1), (2, .int v2), (3, .int v3), (4, .int v4)] [] M
  have B77 : ∀ (K41 : MM → Int32 → Int32 → Int32 → Prop) (hK41 : ∀ (M : MM) (v5 : Int32) (v6 : Int32) (v7 : Int32) , K41 M v5 v6 v7 → XX z g Qf 9 41 [(0, .ref (gA g 0)), (1, .int v1), (2, .int v2), (3, .int v3), (4, .int v4), (5, .int v5), (6, .int v6), (7, .int v7)] [] M) (M : MM) (v5 : Int32) (v6 : Int32) (v7 : Int32), wX4_buffer_77 Q K41 v1 v2 v3 v4 M v5 v6 v7 → XX z g Qf 9 77 [(0, .ref (gA g 0)), (1, .int v1), (2, .int v2), (3, .int v3), (4, .int v4), (5, .int v5), (6, .int v6), (7, .int v7)] [] M := by
    intro K41 hK41 M v5 v6 v7 hw
    refine q_iinc (v := v7 + 1) (L' := [(7, .int (v7 + 1)), (0, .ref (gA g 0)), (1, .int v1), (2, .int v2), (3, .int v3), (4, .int v4), (5, .int v5), (6, .int v6)]) hC dX4_buffer_77 7 rfl rfl (by decide) rfl 80 rfl ?_
    refine q_goto hC 41 dX4_buffer_80 (by decide) ?_
    exact XX.sub [1, 2, 3, 4, 5, 6, 7, 0] rfl (hK41 M v5 v6 (v7 + 1) hw)
  have B41 : ∀ (n : Nat) (M : MM) (v5 : Int32) (v6 : Int32) (v7 : Int32) , wX4_buffer_41 Q v1 v2 v3 v4 n M v5 v6 v7 → XX z g Qf 9 41 [(0, .ref (gA g 0)), (1, .int v1), (2, .int v2), (3, .int v3), (4, .int v4), (5, .int v5), (6, .int v6), (7, .int v7)] [] M := by
    intro n
    induction n with
    | zero =>
      intro M v5 v6 v7 hw
      exact hw.elim
    | succ n ih =>
      intro M v5 v6 v7 hw
      refine q_iload hC dX4_buffer_41 7 rfl 43 rfl ?_
      refine q_iload_n hC dX4_buffer_43 1 rfl 44 rfl ?_
      refine q_icmp_gt hC 83 dX4_buffer_44 (by decide) 47 rfl hw (fun hw => ?_) (fun hw => ?_)
      · refine q_iload hC dX4_buffer_83 4 rfl 85 rfl ?_
        refine q_if_ne hC 93 dX4_buffer_85 (by decide) 88 rfl hw (fun hw => ?_) (fun hw => ?_)
        · refine q_iload hC dX4_buffer_93 6 rfl 95 rfl ?_
          exact r_iret hR dX4_buffer_95 hw
        · refine q_iload hC dX4_buffer_88 5 rfl 90 rfl ?_
          refine q_goto hC 95 dX4_buffer_90 (by decide) ?_
          exact r_iret hR dX4_buffer_95 hw
      · refine q_aload_n hC dX4_buffer_47 0 rfl 48 rfl ?_
        refine q_getR (C := RX4) (T := TX4) (N := 12) (ci := 4) hC inX4_buffer_X4 (obF0 hF) rfl 0 (by decide) (uX4_buffer__o _ (List.mem_of_getElem? (l := owX4_buffer) (i := 1) rfl)) rfl 1 (fun _ => rfl) dX4_buffer_48 51 rfl ?_
        refine q_iload_n hC dX4_buffer_51 1 rfl 52 rfl ?_
        refine q_iload_n hC dX4_buffer_52 2 rfl 53 rfl ?_
        refine q_iload_n hC dX4_buffer_53 3 rfl 54 rfl ?_
        refine q_iload hC dX4_buffer_54 7 rfl 56 rfl ?_
        refine q_iconst (v := 0) hC dX4_buffer_56 rfl 57 rfl ?_
        refine r_callI hC (go_V (q := (RX2, TX2, 14)) (As := [.int v1, .int v2, .int v3, .int v7, .int 0]) (rest := []) hC (ctX2_streamed (zl z) g M 1 v1 v2 v3 v7 0 _ (hF.tp (b := 1) (Or.inl rfl)) hw) 5 gX4_buffer_X2_streamed rfl ⟨rfl, rfl⟩ hdV_X2_streamed ⟨Nat.le_of_ble_eq_true rfl, Nat.le_of_ble_eq_true rfl⟩ (hF.tp (b := 1) (Or.inl rfl)).ob rfl rfl rfl (Nat.le_of_ble_eq_true rfl) dX4_buffer_57) 60 rfl (fun r7 M8 hw => ?_)
        refine q_istore (L' := [(8, .int r7), (0, .ref (gA g 0)), (1, .int v1), (2, .int v2), (3, .int v3), (4, .int v4), (5, .int v5), (6, .int v6), (7, .int v7)]) hC dX4_buffer_60 (by decide) rfl 62 rfl ?_
        refine q_iload hC dX4_buffer_62 0 rfl 64 rfl ?_
        refine q_iload hC dX4_buffer_64 7 rfl 66 rfl ?_
        refine q_icmp_ge hC 77 dX4_buffer_66 (by decide) 69 rfl hw (fun hw => ?_) (fun hw => ?_)
        · exact XX.sub [1, 2, 3, 4, 5, 6, 7, 8] rfl (B77 _ (fun M v5 v6 v7 hw => ih M v5 v6 v7 hw) M8 v5 v6 v7 hw)
        · refine q_iload hC dX4_buffer_69 0 rfl 71 rfl ?_
          refine q_istore (L' := [(6, .int r7), (8, .int r7), (0, .ref (gA g 0)), (1, .int v1), (2, .int v2), (3, .int v3), (4, .int v4), (5, .int v5), (7, .int v7)]) hC dX4_buffer_71 (by decide) rfl 73 rfl ?_
          refine q_iload hC dX4_buffer_73 8 rfl 75 rfl ?_
          refine q_istore (L' := [(5, .int v7), (6, .int r7), (8, .int r7), (0, .ref (gA g 0)), (1, .int v1), (2, .int v2), (3, .int v3), (4, .int v4), (7, .int v7)]) hC dX4_buffer_75 (by decide) rfl 77 rfl ?_
          exact XX.sub [3, 4, 5, 6, 7, 0, 1, 8] rfl (B77 _ (fun M v5 v6 v7 hw => ih M v5 v6 v7 hw) M8 v7 r7 v7 hw)
  refine q_iload_n hC dX4_buffer_0 1 rfl 1 rfl ?_
  refine q_iload_n hC dX4_buffer_1 2 rfl 2 rfl ?_
  refine q_iload_n hC dX4_buffer_2 3 rfl 3 rfl ?_
  refine r_callI hC (go_T (As := [.int v1, .int v2, .int v3]) (rest := []) hC (ctX4_isStream (zl z) g M v1 v2 v3 _ hw) 3 gX4_buffer_X4_isStream rfl ⟨rfl, rfl⟩ hdT_X4_isStream ⟨Nat.le_of_ble_eq_true rfl, Nat.le_of_ble_eq_true rfl⟩ rfl rfl (Nat.le_of_ble_eq_true rfl) dX4_buffer_3) 6 rfl (fun r1 M2 hw => ?_)
  refine q_if_eq hC 19 dX4_buffer_6 (by decide) 9 rfl hw (fun hw => ?_) (fun hw => ?_)
  · refine q_iconst (v := (-1)) hC dX4_buffer_19 rfl 20 rfl ?_
    exact r_iret hR dX4_buffer_20 hw
  · refine q_iload hC dX4_buffer_9 4 rfl 11 rfl ?_
    refine q_iconst (v := 0) hC dX4_buffer_11 rfl 12 rfl ?_
    refine q_iconst (v := 1) hC dX4_buffer_12 rfl 13 rfl ?_
    refine r_callI hC (go_T (As := [.int v4, .int 0, .int 1]) (rest := []) hC (ctX4_isBetween (zl z) g M2 v4 0 1 _ hw) 3 gX4_buffer_X4_isBetween rfl ⟨rfl, rfl⟩ hdT_X4_isBetween ⟨Nat.le_of_ble_eq_true rfl, Nat.le_of_ble_eq_true rfl⟩ rfl rfl (Nat.le_of_ble_eq_true rfl) dX4_buffer_13) 16 rfl (fun r3 M4 hw => ?_)
    refine q_if_ne hC 21 dX4_buffer_16 (by decide) 19 rfl hw (fun hw => ?_) (fun hw => ?_)
    · refine q_iconst (v := 1) hC dX4_buffer_21 rfl 22 rfl ?_
      refine q_istore (L' := [(5, .int 1), (0, .ref (gA g 0)), (1, .int v1), (2, .int v2), (3, .int v3), (4, .int v4)]) hC dX4_buffer_22 (by decide) rfl 24 rfl ?_
      refine q_aload_n hC dX4_buffer_24 1 rfl 25 rfl ?_
      refine q_getR (C := RX4) (T := TX4) (N := 12) (ci := 4) hC inX4_buffer_X4 (obF0 hF) rfl 0 (by decide) (uX4_buffer__o _ (List.mem_of_getElem? (l := owX4_buffer) (i := 1) rfl)) rfl 1 (fun _ => rfl) dX4_buffer_25 28 rfl ?_
      refine q_iload_n hC dX4_buffer_28 2 rfl 29 rfl ?_
      refine q_iload_n hC dX4_buffer_29 3 rfl 30 rfl ?_
      refine q_iload_n hC dX4_buffer_30 4 rfl 31 rfl ?_
      refine q_iconst (v := 1) hC dX4_buffer_31 rfl 32 rfl ?_
      refine q_iconst (v := 0) hC dX4_buffer_32 rfl 33 rfl ?_
      refine r_callI hC (go_V (q := (RX2, TX2, 14)) (As := [.int v1, .int v2, .int v3, .int 1, .int 0]) (rest := []) hC (ctX2_streamed (zl z) g M4 1 v1 v2 v3 1 0 _ (hF.tp (b := 1) (Or.inl rfl)) hw) 5 gX4_buffer_X2_streamed rfl ⟨rfl, rfl⟩ hdV_X2_streamed ⟨Nat.le_of_ble_eq_true rfl, Nat.le_of_ble_eq_true rfl⟩ (hF.tp (b := 1) (Or.inl rfl)).ob rfl rfl rfl (Nat.le_of_ble_eq_true rfl) dX4_buffer_33) 36 rfl (fun r5 M6 hw => ?_)
      refine q_istore (L' := [(6, .int r5), (5, .int 1), (0, .ref (gA g 0)), (1, .int v1), (2, .int v2), (3, .int v3), (4, .int v4)]) hC dX4_buffer_36 (by decide) rfl 38 rfl ?_
      refine q_iconst (v := 2) hC dX4_buffer_38 rfl 39 rfl ?_
      refine q_istore (L' := [(7, .int 2), (6, .int r5), (5, .int 1), (0, .ref (gA g 0)), (1, .int v1), (2, .int v2), (3, .int v3), (4, .int v4)]) hC dX4_buffer_39 (by decide) rfl 41 rfl ?_
      obtain ⟨n0, hw⟩ := hw
      exact XX.sub [3, 4, 5, 6, 7, 2, 1, 0] rfl (B41 n0 M6 1 r5 2 hw)
    · refine q_iconst (v := (-1)) hC dX4_buffer_19 rfl 20 rfl ?_
      exact r_iret hR dX4_buffer_20 hw
theorem hdV_X2_addSeen : yX2_addSeen.cls = RX2 ∧ yX2_addSeen.cls ≠ "java/lang/invoke/MethodHandle" ∧ yX2_addSeen.cls ≠ "java/lang/invoke/VarHandle" ∧ (parseMethodDescriptor yX2_addSeen.desc).map (fun d => d.parameters.length) = some 2 := by decide +kernel
theorem inX4_saw_X2 : ∀ w ∈ u_ws RX2 TX2 14, w ∈ wsX4_saw := uX4_saw__wsX20
theorem inX4_saw_X4 : ∀ w ∈ u_ws RX4 TX4 12, w ∈ wsX4_saw := uX4_saw__wsX40
set_option maxRecDepth 100000 in
set_option maxHeartbeats 4000000 in
theorem ctX4_saw (l : Launch) (g : GG) (M : MM) (v1 : Int32) (v2 : Int32) (Q : Int32 → MM → Prop) (hF : full g) (hw : wX4_saw Q M v1 v2) : MI g l yX4_saw wsX4_saw (rmOf 2 44) [.ref (gA g 0), .int v1, .int v2] M Q := by
  refine mk_MI (cc := cX4_saw) (maxL := 3) (by decide) rfl (Nat.le_of_ble_eq_true rfl) ?_
  intro z Qf hC hR
  show XX z g Qf 3 0 [(0, .ref (gA g 0)), (1, .int v1), (2, .int v2)] [] M
  refine q_iload_n hC dX4_saw_0 1 rfl 1 rfl ?_
  refine q_iconst (v := 0) hC dX4_saw_1 rfl 2 rfl ?_
  refine q_sipush (v := 999) hC dX4_saw_2 (by decide) 5 rfl ?_
  refine r_callI hC (go_T (As := [.int v1, .int 0, .int 999]) (rest := []) hC (ctX4_isBetween (zl z) g M v1 0 999 _ hw) 3 gX4_saw_X4_isBetween rfl ⟨rfl, rfl⟩ hdT_X4_isBetween ⟨Nat.le_of_ble_eq_true rfl, Nat.le_of_ble_eq_true rfl⟩ rfl rfl (Nat.le_of_ble_eq_true rfl) dX4_saw_5) 8 rfl (fun r1 M2 hw => ?_)
  refine q_if_eq hC 22 dX4_saw_8 (by decide) 11 rfl hw (fun hw => ?_) (fun hw => ?_)
  · refine q_iconst (v := (-1)) hC dX4_saw_22 rfl 23 rfl ?_
    exact r_iret hR dX4_saw_23 hw
  · refine q_iload_n hC dX4_saw_11 2 rfl 12 rfl ?_
    refine q_iconst (v := 0) hC dX4_saw_12 rfl 13 rfl ?_
    refine q_sipush (v := 9999) hC dX4_saw_13 (by decide) 16 rfl ?_
    refine r_callI hC (go_T (As := [.int v2, .int 0, .int 9999]) (rest := []) hC (ctX4_isBetween (zl z) g M2 v2 0 9999 _ hw) 3 gX4_saw_X4_isBetween rfl ⟨rfl, rfl⟩ hdT_X4_isBetween ⟨Nat.le_of_ble_eq_true rfl, Nat.le_of_ble_eq_true rfl⟩ rfl rfl (Nat.le_of_ble_eq_true rfl) dX4_saw_16) 19 rfl (fun r3 M4 hw => ?_)
    refine q_if_ne hC 24 dX4_saw_19 (by decide) 22 rfl hw (fun hw => ?_) (fun hw => ?_)
    · refine q_aload_n hC dX4_saw_24 0 rfl 25 rfl ?_
      refine q_getR (C := RX4) (T := TX4) (N := 12) (ci := 4) hC inX4_saw_X4 (obF0 hF) rfl 0 (by decide) (uX4_saw__o _ (List.mem_of_getElem? (l := owX4_saw) (i := 1) rfl)) rfl 1 (fun _ => rfl) dX4_saw_25 28 rfl ?_
      refine q_getI (C := RX2) (T := TX2) (N := 14) (ci := 2) hC inX4_saw_X2 (hF.tp (b := 1) (Or.inl rfl)).ob rfl 13 (by decide) (uX4_saw__o _ (List.mem_of_getElem? (l := owX4_saw) (i := 2) rfl)) rfl (fun _ => rfl) dX4_saw_28 31 rfl ?_
      refine q_bipush (v := 12) hC dX4_saw_31 (by decide) 33 rfl ?_
      refine q_icmp_lt hC 39 dX4_saw_33 (by decide) 36 rfl hw (fun hw => ?_) (fun hw => ?_)
      · refine q_aload_n hC dX4_saw_39 0 rfl 40 rfl ?_
        refine q_getR (C := RX4) (T := TX4) (N := 12) (ci := 4) hC inX4_saw_X4 (obF0 hF) rfl 0 (by decide) (uX4_saw__o _ (List.mem_of_getElem? (l := owX4_saw) (i := 1) rfl)) rfl 1 (fun _ => rfl) dX4_saw_40 43 rfl ?_
        refine q_iload_n hC dX4_saw_43 1 rfl 44 rfl ?_
        refine q_iload_n hC dX4_saw_44 2 rfl 45 rfl ?_
        refine r_callI hC (go_V (q := (RX2, TX2, 14)) (As := [.int v1, .int v2]) (rest := []) hC (ctX2_addSeen (zl z) g M4 1 v1 v2 _ (hF.tp (b := 1) (Or.inl rfl)) hw) 2 gX4_saw_X2_addSeen rfl ⟨rfl, rfl⟩ hdV_X2_addSeen ⟨Nat.le_of_ble_eq_true rfl, Nat.le_of_ble_eq_true rfl⟩ (hF.tp (b := 1) (Or.inl rfl)).ob rfl rfl rfl (Nat.le_of_ble_eq_true rfl) dX4_saw_45) 48 rfl (fun r5 M6 hw => ?_)
        exact r_iret hR dX4_saw_48 hw
      · refine q_bipush (v := (-3)) hC dX4_saw_36 (by decide) 38 rfl ?_
        exact r_iret hR dX4_saw_38 hw
    · refine q_iconst (v := (-1)) hC dX4_saw_22 rfl 23 rfl ?_
      exact r_iret hR dX4_saw_23 hw
theorem inX4_forget_X2 : ∀ w ∈ u_ws RX2 TX2 14, w ∈ wsX4_forget := uX4_forget__wsX20
theorem inX4_forget_X4 : ∀ w ∈ u_ws RX4 TX4 12, w ∈ wsX4_forget := uX4_forget__wsX40
set_option maxRecDepth 100000 in
set_option maxHeartbeats 4000000 in
theorem ctX4_forget (l : Launch) (g : GG) (M : MM)  (Q : Int32 → MM → Prop) (hF : full g) (hw : wX4_forget Q M ) : MI g l yX4_forget wsX4_forget (rmOf 0 0) [.ref (gA g 0)] M Q := by
  refine mk_MI (cc := cX4_forget) (maxL := 2) (by decide) rfl (Nat.le_of_ble_eq_true rfl) ?_
  intro z Qf hC hR
  show XX z g Qf 2 0 [(0, .ref (gA g 0))] [] M
  refine q_aload_n hC dX4_forget_0 0 rfl 1 rfl ?_
  refine q_getR (C := RX4) (T := TX4) (N := 12) (ci := 4) hC inX4_forget_X4 (obF0 hF) rfl 0 (by decide) (uX4_forget__o _ (List.mem_of_getElem? (l := owX4_forget) (i := 1) rfl)) rfl 1 (fun _ => rfl) dX4_forget_1 4 rfl ?_
  refine q_getI (C := RX2) (T := TX2) (N := 14) (ci := 2) hC inX4_forget_X2 (hF.tp (b := 1) (Or.inl rfl)).ob rfl 13 (by decide) (uX4_forget__o _ (List.mem_of_getElem? (l := owX4_forget) (i := 2) rfl)) rfl (fun _ => rfl) dX4_forget_4 7 rfl ?_
  refine q_istore_n (L' := [(1, .int (M 1 13)), (0, .ref (gA g 0))]) hC dX4_forget_7 (by decide) rfl 8 rfl ?_
  refine q_aload_n hC dX4_forget_8 1 rfl 9 rfl ?_
  refine q_getR (C := RX4) (T := TX4) (N := 12) (ci := 4) hC inX4_forget_X4 (obF0 hF) rfl 0 (by decide) (uX4_forget__o _ (List.mem_of_getElem? (l := owX4_forget) (i := 1) rfl)) rfl 1 (fun _ => rfl) dX4_forget_9 12 rfl ?_
  refine q_iconst (v := 0) hC dX4_forget_12 rfl 13 rfl ?_
  refine q_putI (C := RX2) (T := TX2) (N := 14) (ci := 2) hC inX4_forget_X2 tyX2 tyX2_ok nmX2 (hF.tp (b := 1) (Or.inl rfl)).ob rfl 13 (by decide) (uX4_forget__o _ (List.mem_of_getElem? (l := owX4_forget) (i := 2) rfl)) rfl rfl rfl (fun _ => Nat.le_of_ble_eq_true rfl) (fun _ => rfl) dX4_forget_13 16 rfl (fun M1 eM1 => ?_)
  have hw := hw M1 eM1
  refine q_iload_n hC dX4_forget_16 0 rfl 17 rfl ?_
  exact r_iret hR dX4_forget_17 hw
theorem hdV_X2_canBe : yX2_canBe.cls = RX2 ∧ yX2_canBe.cls ≠ "java/lang/invoke/MethodHandle" ∧ yX2_canBe.cls ≠ "java/lang/invoke/VarHandle" ∧ (parseMethodDescriptor yX2_canBe.desc).map (fun d => d.parameters.length) = some 2 := by decide +kernel
theorem inX4_fits_X4 : ∀ w ∈ u_ws RX4 TX4 12, w ∈ wsX4_fits := uX4_fits__wsX40
set_option maxRecDepth 100000 in
set_option maxHeartbeats 4000000 in
theorem ctX4_fits (l : Launch) (g : GG) (M : MM) (v1 : Int32) (Q : Int32 → MM → Prop) (hF : full g) (hw : wX4_fits Q M v1) : MI g l yX4_fits wsX4_fits (rmOf 2 47) [.ref (gA g 0), .int v1] M Q := by
  refine mk_MI (cc := cX4_fits) (maxL := 5) (by decide) rfl (Nat.le_of_ble_eq_true rfl) ?_
  intro z Qf hC hR
  show XX z g Qf 5 0 [(0, .ref (gA g 0)), (1, .int v1)] [] M
  have B87 : ∀ (K21 : MM → Int32 → Int32 → Prop) (hK21 : ∀ (M : MM) (v2 : Int32) (v3 : Int32) , K21 M v2 v3 → XX z g Qf 5 21 [(0, .ref (gA g 0)), (1, .int v1), (2, .int v2), (3, .int v3)] [] M) (K41 : MM → Int32 → Int32 → Int32 → Prop) (hK41 : ∀ (M : MM) (v2 : Int32) (v3 : Int32) (v4 : Int32) , K41 M v2 v3 v4 → XX z g Qf 5 41 [(0, .ref (gA g 0)), (1, .int v1), (2, .int v2), (3, .int v3), (4, .int v4)] [] M) (M : MM) (v2 : Int32) (v3 : Int32) (v4 : Int32), wX4_fits_87 Q K21 K41 v1 M v2 v3 v4 → XX z g Qf 5 87 [(0, .ref (gA g 0)), (1, .int v1), (2, .int v2), (3, .int v3), (4, .int v4)] [] M := by
    intro K21 hK21 K41 hK41 M v2 v3 v4 hw
    refine q_iinc (v := v4 + 1) (L' := [(4, .int (v4 + 1)), (0, .ref (gA g 0)), (1, .int v1), (2, .int v2), (3, .int v3)]) hC dX4_fits_87 4 rfl rfl (by decide) rfl 90 rfl ?_
    refine q_goto hC 41 dX4_fits_90 (by decide) ?_
    exact XX.sub [1, 2, 3, 4, 0] rfl (hK41 M v2 v3 (v4 + 1) hw)
  have B41 : ∀ (K21 : MM → Int32 → Int32 → Prop) (hK21 : ∀ (M : MM) (v2 : Int32) (v3 : Int32) , K21 M v2 v3 → XX z g Qf 5 21 [(0, .ref (gA g 0)), (1, .int v1), (2, .int v2), (3, .int v3)] [] M) (n : Nat) (M : MM) (v2 : Int32) (v3 : Int32) (v4 : Int32) , wX4_fits_41 Q K21 v1 n M v2 v3 v4 → XX z g Qf 5 41 [(0, .ref (gA g 0)), (1, .int v1), (2, .int v2), (3, .int v3), (4, .int v4)] [] M := by
    intro K21 hK21 n
    induction n with
    | zero =>
      intro M v2 v3 v4 hw
      exact hw.elim
    | succ n ih =>
      intro M v2 v3 v4 hw
      refine q_iload hC dX4_fits_41 4 rfl 43 rfl ?_
      refine q_gets hC 1 (by decide) (uX4_fits__o _ (List.mem_of_getElem? (l := owX4_fits) (i := 2) rfl)) dX4_fits_43 46 rfl ?_
      refine q_iconst (v := 2) hC dX4_fits_46 rfl 47 rfl ?_
      refine r_callI hC (go_T (As := [.ref (gS g 1), .int 2]) (rest := [.int v4]) hC (ctX4_cell_s (zl z) g M 1 2 _ (by decide) hw) 2 gX4_fits_X4_cell rfl ⟨rfl, rfl⟩ hdT_X4_cell ⟨Nat.le_of_ble_eq_true rfl, Nat.le_of_ble_eq_true rfl⟩ rfl rfl (Nat.le_of_ble_eq_true rfl) dX4_fits_47) 50 rfl (fun r9 M10 hw => ?_)
      refine q_icmp_gt hC 93 dX4_fits_50 (by decide) 53 rfl hw (fun hw => ?_) (fun hw => ?_)
      · refine q_iinc (v := v3 + 1) (L' := [(3, .int (v3 + 1)), (0, .ref (gA g 0)), (1, .int v1), (2, .int v2), (4, .int v4)]) hC dX4_fits_93 3 rfl rfl (by decide) rfl 96 rfl ?_
        refine q_goto hC 21 dX4_fits_96 (by decide) ?_
        exact XX.sub [1, 2, 3, 0] rfl (hK21 M10 v2 (v3 + 1) hw)
      · refine q_aload_n hC dX4_fits_53 0 rfl 54 rfl ?_
        refine q_getR (C := RX4) (T := TX4) (N := 12) (ci := 4) hC inX4_fits_X4 (obF0 hF) rfl 0 (by decide) (uX4_fits__o _ (List.mem_of_getElem? (l := owX4_fits) (i := 3) rfl)) rfl 1 (fun _ => rfl) dX4_fits_54 57 rfl ?_
        refine q_iload_n hC dX4_fits_57 3 rfl 58 rfl ?_
        refine q_iload hC dX4_fits_58 4 rfl 60 rfl ?_
        refine r_callI hC (go_V (q := (RX2, TX2, 14)) (As := [.int v3, .int v4]) (rest := []) hC (ctX2_canBe (zl z) g M10 1 v3 v4 _ (hF.tp (b := 1) (Or.inl rfl)) hw) 2 gX4_fits_X2_canBe rfl ⟨rfl, rfl⟩ hdV_X2_canBe ⟨Nat.le_of_ble_eq_true rfl, Nat.le_of_ble_eq_true rfl⟩ (hF.tp (b := 1) (Or.inl rfl)).ob rfl rfl rfl (Nat.le_of_ble_eq_true rfl) dX4_fits_60) 63 rfl (fun r11 M12 hw => ?_)
        refine q_if_ne hC 69 dX4_fits_63 (by decide) 66 rfl hw (fun hw => ?_) (fun hw => ?_)
        · refine q_iload_n hC dX4_fits_69 1 rfl 70 rfl ?_
          refine q_iconst (v := 1) hC dX4_fits_70 rfl 71 rfl ?_
          refine q_icmp_ne hC 76 dX4_fits_71 (by decide) 74 rfl hw (fun hw => ?_) (fun hw => ?_)
          · refine q_iload_n hC dX4_fits_76 1 rfl 77 rfl ?_
            refine q_iconst (v := 2) hC dX4_fits_77 rfl 78 rfl ?_
            refine q_icmp_ne hC 84 dX4_fits_78 (by decide) 81 rfl hw (fun hw => ?_) (fun hw => ?_)
            · refine q_iinc (v := v2 + 1) (L' := [(2, .int (v2 + 1)), (0, .ref (gA g 0)), (1, .int v1), (3, .int v3), (4, .int v4)]) hC dX4_fits_84 2 rfl rfl (by decide) rfl 87 rfl ?_
              exact XX.sub [1, 2, 0, 3, 4] rfl (B87 _ hK21 _ (fun M v2 v3 v4 hw => ih M v2 v3 v4 hw) M12 (v2 + 1) v3 v4 hw)
            · refine q_iload hC dX4_fits_81 4 rfl 83 rfl ?_
              exact r_iret hR dX4_fits_83 hw
          · refine q_iload_n hC dX4_fits_74 3 rfl 75 rfl ?_
            exact r_iret hR dX4_fits_75 hw
        · refine q_goto hC 87 dX4_fits_66 (by decide) ?_
          exact XX.sub [0, 1, 2, 3, 4] rfl (B87 _ hK21 _ (fun M v2 v3 v4 hw => ih M v2 v3 v4 hw) M12 v2 v3 v4 hw)
  have B21 : ∀ (n : Nat) (M : MM) (v2 : Int32) (v3 : Int32) , wX4_fits_21 Q v1 n M v2 v3 → XX z g Qf 5 21 [(0, .ref (gA g 0)), (1, .int v1), (2, .int v2), (3, .int v3)] [] M := by
    intro n
    induction n with
    | zero =>
      intro M v2 v3 hw
      exact hw.elim
    | succ n ih =>
      intro M v2 v3 hw
      refine q_iload_n hC dX4_fits_21 3 rfl 22 rfl ?_
      refine q_gets hC 1 (by decide) (uX4_fits__o _ (List.mem_of_getElem? (l := owX4_fits) (i := 2) rfl)) dX4_fits_22 25 rfl ?_
      refine q_iconst (v := 1) hC dX4_fits_25 rfl 26 rfl ?_
      refine r_callI hC (go_T (As := [.ref (gS g 1), .int 1]) (rest := [.int v3]) hC (ctX4_cell_s (zl z) g M 1 1 _ (by decide) hw) 2 gX4_fits_X4_cell rfl ⟨rfl, rfl⟩ hdT_X4_cell ⟨Nat.le_of_ble_eq_true rfl, Nat.le_of_ble_eq_true rfl⟩ rfl rfl (Nat.le_of_ble_eq_true rfl) dX4_fits_26) 29 rfl (fun r5 M6 hw => ?_)
      refine q_icmp_gt hC 99 dX4_fits_29 (by decide) 32 rfl hw (fun hw => ?_) (fun hw => ?_)
      · refine q_iload_n hC dX4_fits_99 1 rfl 100 rfl ?_
        refine q_if_ne hC 107 dX4_fits_100 (by decide) 103 rfl hw (fun hw => ?_) (fun hw => ?_)
        · refine q_bipush (v := (-4)) hC dX4_fits_107 (by decide) 109 rfl ?_
          exact r_iret hR dX4_fits_109 hw
        · refine q_iload_n hC dX4_fits_103 2 rfl 104 rfl ?_
          refine q_goto hC 109 dX4_fits_104 (by decide) ?_
          exact r_iret hR dX4_fits_109 hw
      · refine q_gets hC 0 (by decide) (uX4_fits__o _ (List.mem_of_getElem? (l := owX4_fits) (i := 1) rfl)) dX4_fits_32 35 rfl ?_
        refine q_iconst (v := 2) hC dX4_fits_35 rfl 36 rfl ?_
        refine r_callI hC (go_T (As := [.ref (gS g 0), .int 2]) (rest := []) hC (ctX4_cell_s (zl z) g M6 0 2 _ (by decide) hw) 2 gX4_fits_X4_cell rfl ⟨rfl, rfl⟩ hdT_X4_cell ⟨Nat.le_of_ble_eq_true rfl, Nat.le_of_ble_eq_true rfl⟩ rfl rfl (Nat.le_of_ble_eq_true rfl) dX4_fits_36) 39 rfl (fun r7 M8 hw => ?_)
        refine q_istore (L' := [(4, .int r7), (0, .ref (gA g 0)), (1, .int v1), (2, .int v2), (3, .int v3)]) hC dX4_fits_39 (by decide) rfl 41 rfl ?_
        obtain ⟨n0, hw⟩ := hw
        exact XX.sub [1, 2, 3, 4, 0] rfl (B41 _ (fun M v2 v3 hw => ih M v2 v3 hw) n0 M8 v2 v3 r7 hw)
  refine q_iload_n hC dX4_fits_0 1 rfl 1 rfl ?_
  refine q_iconst (v := 0) hC dX4_fits_1 rfl 2 rfl ?_
  refine q_iconst (v := 2) hC dX4_fits_2 rfl 3 rfl ?_
  refine r_callI hC (go_T (As := [.int v1, .int 0, .int 2]) (rest := []) hC (ctX4_isBetween (zl z) g M v1 0 2 _ hw) 3 gX4_fits_X4_isBetween rfl ⟨rfl, rfl⟩ hdT_X4_isBetween ⟨Nat.le_of_ble_eq_true rfl, Nat.le_of_ble_eq_true rfl⟩ rfl rfl (Nat.le_of_ble_eq_true rfl) dX4_fits_3) 6 rfl (fun r1 M2 hw => ?_)
  refine q_if_ne hC 11 dX4_fits_6 (by decide) 9 rfl hw (fun hw => ?_) (fun hw => ?_)
  · refine q_iconst (v := 0) hC dX4_fits_11 rfl 12 rfl ?_
    refine q_istore_n (L' := [(2, .int 0), (0, .ref (gA g 0)), (1, .int v1)]) hC dX4_fits_12 (by decide) rfl 13 rfl ?_
    refine q_gets hC 0 (by decide) (uX4_fits__o _ (List.mem_of_getElem? (l := owX4_fits) (i := 1) rfl)) dX4_fits_13 16 rfl ?_
    refine q_iconst (v := 1) hC dX4_fits_16 rfl 17 rfl ?_
    refine r_callI hC (go_T (As := [.ref (gS g 0), .int 1]) (rest := []) hC (ctX4_cell_s (zl z) g M2 0 1 _ (by decide) hw) 2 gX4_fits_X4_cell rfl ⟨rfl, rfl⟩ hdT_X4_cell ⟨Nat.le_of_ble_eq_true rfl, Nat.le_of_ble_eq_true rfl⟩ rfl rfl (Nat.le_of_ble_eq_true rfl) dX4_fits_17) 20 rfl (fun r3 M4 hw => ?_)
    refine q_istore_n (L' := [(3, .int r3), (2, .int 0), (0, .ref (gA g 0)), (1, .int v1)]) hC dX4_fits_20 (by decide) rfl 21 rfl ?_
    obtain ⟨n0, hw⟩ := hw
    exact XX.sub [2, 3, 1, 0] rfl (B21 n0 M4 0 r3 hw)
  · refine q_iconst (v := (-1)) hC dX4_fits_9 rfl 10 rfl ?_
    exact r_iret hR dX4_fits_10 hw
theorem inX4_imageNumbered_X4 : ∀ w ∈ u_ws RX4 TX4 12, w ∈ wsX4_imageNumbered := uX4_imageNumbered__wsX40
set_option maxRecDepth 100000 in
set_option maxHeartbeats 4000000 in
theorem ctX4_imageNumbered (l : Launch) (g : GG) (M : MM) (v1 : Int32) (Q : Nat → MM → Prop) (hF : full g) (hw : wX4_imageNumbered Q M v1) : MR g l yX4_imageNumbered wsX4_imageNumbered (rmOf 0 0) [.ref (gA g 0), .int v1] M Q := by
  refine mk_MR (cc := cX4_imageNumbered) (maxL := 2) (by decide) rfl (Nat.le_of_ble_eq_true rfl) ?_
  intro z Qf hC hR
  show XX z g Qf 2 0 [(0, .ref (gA g 0)), (1, .int v1)] [] M
  refine q_iload_n hC dX4_imageNumbered_0 1 rfl 1 rfl ?_
  refine q_if_ne hC 11 dX4_imageNumbered_1 (by decide) 4 rfl hw (fun hw => ?_) (fun hw => ?_)
  · refine q_aload_n hC dX4_imageNumbered_11 0 rfl 12 rfl ?_
    refine q_getR (C := RX4) (T := TX4) (N := 12) (ci := 4) hC inX4_imageNumbered_X4 (obF0 hF) rfl 4 (by decide) (uX4_imageNumbered__o _ (List.mem_of_getElem? (l := owX4_imageNumbered) (i := 2) rfl)) rfl 19 (fun _ => rfl) dX4_imageNumbered_12 15 rfl ?_
    exact r_aret hR dX4_imageNumbered_15 hw
  · refine q_aload_n hC dX4_imageNumbered_4 0 rfl 5 rfl ?_
    refine q_getR (C := RX4) (T := TX4) (N := 12) (ci := 4) hC inX4_imageNumbered_X4 (obF0 hF) rfl 3 (by decide) (uX4_imageNumbered__o _ (List.mem_of_getElem? (l := owX4_imageNumbered) (i := 1) rfl)) rfl 10 (fun _ => rfl) dX4_imageNumbered_5 8 rfl ?_
    refine q_goto hC 15 dX4_imageNumbered_8 (by decide) ?_
    exact r_aret hR dX4_imageNumbered_15 hw
theorem hdV_X4_imageNumbered : yX4_imageNumbered.cls = RX4 ∧ yX4_imageNumbered.cls ≠ "java/lang/invoke/MethodHandle" ∧ yX4_imageNumbered.cls ≠ "java/lang/invoke/VarHandle" ∧ (parseMethodDescriptor yX4_imageNumbered.desc).map (fun d => d.parameters.length) = some 1 := by decide +kernel
theorem inX4_keep_X4 : ∀ w ∈ u_ws RX4 TX4 12, w ∈ wsX4_keep := uX4_keep__wsX40
set_option maxRecDepth 100000 in
set_option maxHeartbeats 4000000 in
theorem ctX4_keep (l : Launch) (g : GG) (M : MM) (v1 : Int32) (Q : Int32 → MM → Prop) (hF : full g) (hw : wX4_keep Q M v1) : MI g l yX4_keep wsX4_keep (rmOf 3 102) [.ref (gA g 0), .int v1] M Q := by
  refine mk_MI (cc := cX4_keep) (maxL := 3) (by decide) rfl (Nat.le_of_ble_eq_true rfl) ?_
  intro z Qf hC hR
  show XX z g Qf 3 0 [(0, .ref (gA g 0)), (1, .int v1)] [] M
  refine q_iload_n hC dX4_keep_0 1 rfl 1 rfl ?_
  refine q_iconst (v := 0) hC dX4_keep_1 rfl 2 rfl ?_
  refine q_iconst (v := 1) hC dX4_keep_2 rfl 3 rfl ?_
  refine r_callI hC (go_T (As := [.int v1, .int 0, .int 1]) (rest := []) hC (ctX4_isBetween (zl z) g M v1 0 1 _ hw) 3 gX4_keep_X4_isBetween rfl ⟨rfl, rfl⟩ hdT_X4_isBetween ⟨Nat.le_of_ble_eq_true rfl, Nat.le_of_ble_eq_true rfl⟩ rfl rfl (Nat.le_of_ble_eq_true rfl) dX4_keep_3) 6 rfl (fun r1 M2 hw => ?_)
  refine q_if_ne hC 11 dX4_keep_6 (by decide) 9 rfl hw (fun hw => ?_) (fun hw => ?_)
  · refine q_aload_n hC dX4_keep_11 0 rfl 12 rfl ?_
    refine q_getI (C := RX4) (T := TX4) (N := 12) (ci := 4) hC inX4_keep_X4 (obF0 hF) rfl 11 (by decide) (uX4_keep__o _ (List.mem_of_getElem? (l := owX4_keep) (i := 1) rfl)) rfl (fun _ => rfl) dX4_keep_12 15 rfl ?_
    refine q_iload_n hC dX4_keep_15 1 rfl 16 rfl ?_
    refine q_ishr hC dX4_keep_16 17 rfl ?_
    refine q_iconst (v := 1) hC dX4_keep_17 rfl 18 rfl ?_
    refine q_iand hC dX4_keep_18 19 rfl ?_
    refine q_nameI (fun x3 ex3 => ?_)
    have hw := hw x3 ex3
    refine q_istore_n (L' := [(2, .int x3), (0, .ref (gA g 0)), (1, .int v1)]) hC dX4_keep_19 (by decide) rfl 20 rfl ?_
    refine q_aload_n hC dX4_keep_20 1 rfl 21 rfl ?_
    refine q_iload_n hC dX4_keep_21 2 rfl 22 rfl ?_
    refine r_callR hC (go_V (q := (RX4, TX4, 12)) (As := [.int v1]) (rest := []) hC (ctX4_imageNumbered (zl z) g M2 v1 _ hF hw) 1 gX4_keep_X4_imageNumbered rfl ⟨rfl, rfl⟩ hdV_X4_imageNumbered ⟨Nat.le_of_ble_eq_true rfl, Nat.le_of_ble_eq_true rfl⟩ (obF0 hF) rfl rfl rfl (Nat.le_of_ble_eq_true rfl) dX4_keep_22) 25 rfl (fun r4 M5 hw => ?_)
    obtain ⟨hq, hw⟩ := hw
    have hr4 := hF.tp hq
    refine q_aload_n hC dX4_keep_25 1 rfl 26 rfl ?_
    refine q_getR (C := RX4) (T := TX4) (N := 12) (ci := 4) hC inX4_keep_X4 (obF0 hF) rfl 0 (by decide) (uX4_keep__o _ (List.mem_of_getElem? (l := owX4_keep) (i := 2) rfl)) rfl 1 (fun _ => rfl) dX4_keep_26 29 rfl ?_
    refine r_callV hC (go_V (q := (RX2, TX2, 14)) (As := [.ref (gA g 1)]) (rest := []) hC (ctX2_becomes (zl z) g M5 r4 1 _ hr4 (hF.tp (b := 1) (Or.inl rfl)) hw) 1 gX4_keep_X2_becomes rfl ⟨rfl, rfl⟩ hdV_X2_becomes ⟨Nat.le_of_ble_eq_true rfl, Nat.le_of_ble_eq_true rfl⟩ hr4.ob rfl rfl rfl (Nat.le_of_ble_eq_true rfl) dX4_keep_29) 32 rfl (fun M6 hw => ?_)
    refine q_aload_n hC dX4_keep_32 1 rfl 33 rfl ?_
    refine q_dup hC dX4_keep_33 rfl 34 rfl ?_
    refine q_getI (C := RX4) (T := TX4) (N := 12) (ci := 4) hC inX4_keep_X4 (obF0 hF) rfl 11 (by decide) (uX4_keep__o _ (List.mem_of_getElem? (l := owX4_keep) (i := 1) rfl)) rfl (fun _ => rfl) dX4_keep_34 37 rfl ?_
    refine q_iconst (v := 1) hC dX4_keep_37 rfl 38 rfl ?_
    refine q_iload_n hC dX4_keep_38 2 rfl 39 rfl ?_
    refine q_ishl hC dX4_keep_39 40 rfl ?_
    refine q_ior hC dX4_keep_40 41 rfl ?_
    refine q_putI (C := RX4) (T := TX4) (N := 12) (ci := 4) hC inX4_keep_X4 tyX4 tyX4_ok nmX4 (obF0 hF) rfl 11 (by decide) (uX4_keep__o _ (List.mem_of_getElem? (l := owX4_keep) (i := 1) rfl)) rfl rfl rfl (fun _ => Nat.le_of_ble_eq_true rfl) (fun _ => rfl) dX4_keep_41 44 rfl (fun M7 eM7 => ?_)
    have hw := hw M7 eM7
    refine q_iload_n hC dX4_keep_44 0 rfl 45 rfl ?_
    exact r_iret hR dX4_keep_45 hw
  · refine q_iconst (v := (-1)) hC dX4_keep_9 rfl 10 rfl ?_
    exact r_iret hR dX4_keep_10 hw
theorem inX4_back_X2 : ∀ w ∈ u_ws RX2 TX2 14, w ∈ wsX4_back := uX4_back__wsX20
theorem inX4_back_X4 : ∀ w ∈ u_ws RX4 TX4 12, w ∈ wsX4_back := uX4_back__wsX40
set_option maxRecDepth 100000 in
set_option maxHeartbeats 4000000 in
theorem ctX4_back (l : Launch) (g : GG) (M : MM) (v1 : Int32) (Q : Int32 → MM → Prop) (hF : full g) (hw : wX4_back Q M v1) : MI g l yX4_back wsX4_back (rmOf 3 102) [.ref (gA g 0), .int v1] M Q := by
  refine mk_MI (cc := cX4_back) (maxL := 2) (by decide) rfl (Nat.le_of_ble_eq_true rfl) ?_
  intro z Qf hC hR
  show XX z g Qf 2 0 [(0, .ref (gA g 0)), (1, .int v1)] [] M
  refine q_iload_n hC dX4_back_0 1 rfl 1 rfl ?_
  refine q_iconst (v := 0) hC dX4_back_1 rfl 2 rfl ?_
  refine q_iconst (v := 1) hC dX4_back_2 rfl 3 rfl ?_
  refine r_callI hC (go_T (As := [.int v1, .int 0, .int 1]) (rest := []) hC (ctX4_isBetween (zl z) g M v1 0 1 _ hw) 3 gX4_back_X4_isBetween rfl ⟨rfl, rfl⟩ hdT_X4_isBetween ⟨Nat.le_of_ble_eq_true rfl, Nat.le_of_ble_eq_true rfl⟩ rfl rfl (Nat.le_of_ble_eq_true rfl) dX4_back_3) 6 rfl (fun r1 M2 hw => ?_)
  refine q_if_ne hC 11 dX4_back_6 (by decide) 9 rfl hw (fun hw => ?_) (fun hw => ?_)
  · refine q_aload_n hC dX4_back_11 0 rfl 12 rfl ?_
    refine q_getI (C := RX4) (T := TX4) (N := 12) (ci := 4) hC inX4_back_X4 (obF0 hF) rfl 11 (by decide) (uX4_back__o _ (List.mem_of_getElem? (l := owX4_back) (i := 1) rfl)) rfl (fun _ => rfl) dX4_back_12 15 rfl ?_
    refine q_iload_n hC dX4_back_15 1 rfl 16 rfl ?_
    refine q_ishr hC dX4_back_16 17 rfl ?_
    refine q_iconst (v := 1) hC dX4_back_17 rfl 18 rfl ?_
    refine q_iand hC dX4_back_18 19 rfl ?_
    refine q_if_ne hC 25 dX4_back_19 (by decide) 22 rfl hw (fun hw => ?_) (fun hw => ?_)
    · refine q_aload_n hC dX4_back_25 0 rfl 26 rfl ?_
      refine q_getR (C := RX4) (T := TX4) (N := 12) (ci := 4) hC inX4_back_X4 (obF0 hF) rfl 0 (by decide) (uX4_back__o _ (List.mem_of_getElem? (l := owX4_back) (i := 2) rfl)) rfl 1 (fun _ => rfl) dX4_back_26 29 rfl ?_
      refine q_aload_n hC dX4_back_29 0 rfl 30 rfl ?_
      refine q_iload_n hC dX4_back_30 1 rfl 31 rfl ?_
      refine r_callR hC (go_V (q := (RX4, TX4, 12)) (As := [.int v1]) (rest := [.ref (gA g 1)]) hC (ctX4_imageNumbered (zl z) g M2 v1 _ hF hw) 1 gX4_back_X4_imageNumbered rfl ⟨rfl, rfl⟩ hdV_X4_imageNumbered ⟨Nat.le_of_ble_eq_true rfl, Nat.le_of_ble_eq_true rfl⟩ (obF0 hF) rfl rfl rfl (Nat.le_of_ble_eq_true rfl) dX4_back_31) 34 rfl (fun r3 M4 hw => ?_)
      obtain ⟨hq, hw⟩ := hw
      have hr3 := hF.tp hq
      refine r_callV hC (go_V (q := (RX2, TX2, 14)) (As := [.ref (gA g r3)]) (rest := []) hC (ctX2_becomes (zl z) g M4 1 r3 _ (hF.tp (b := 1) (Or.inl rfl)) hr3 hw) 1 gX4_back_X2_becomes rfl ⟨rfl, rfl⟩ hdV_X2_becomes ⟨Nat.le_of_ble_eq_true rfl, Nat.le_of_ble_eq_true rfl⟩ (hF.tp (b := 1) (Or.inl rfl)).ob rfl rfl rfl (Nat.le_of_ble_eq_true rfl) dX4_back_34) 37 rfl (fun M5 hw => ?_)
      refine q_aload_n hC dX4_back_37 0 rfl 38 rfl ?_
      refine q_getR (C := RX4) (T := TX4) (N := 12) (ci := 4) hC inX4_back_X4 (obF0 hF) rfl 0 (by decide) (uX4_back__o _ (List.mem_of_getElem? (l := owX4_back) (i := 2) rfl)) rfl 1 (fun _ => rfl) dX4_back_38 41 rfl ?_
      refine q_getI (C := RX2) (T := TX2) (N := 14) (ci := 2) hC inX4_back_X2 (hF.tp (b := 1) (Or.inl rfl)).ob rfl 8 (by decide) (uX4_back__o _ (List.mem_of_getElem? (l := owX4_back) (i := 3) rfl)) rfl (fun _ => rfl) dX4_back_41 44 rfl ?_
      exact r_iret hR dX4_back_44 hw
    · refine q_bipush (v := (-2)) hC dX4_back_22 (by decide) 24 rfl ?_
      exact r_iret hR dX4_back_24 hw
  · refine q_iconst (v := (-1)) hC dX4_back_9 rfl 10 rfl ?_
    exact r_iret hR dX4_back_10 hw
theorem inX4_sheetNumbered_X4 : ∀ w ∈ u_ws RX4 TX4 12, w ∈ wsX4_sheetNumbered := uX4_sheetNumbered__wsX40
set_option maxRecDepth 100000 in
set_option maxHeartbeats 4000000 in
theorem ctX4_sheetNumbered (l : Launch) (g : GG) (M : MM) (v1 : Int32) (Q : Nat → MM → Prop) (hF : full g) (hw : wX4_sheetNumbered Q M v1) : MR g l yX4_sheetNumbered wsX4_sheetNumbered (rmOf 0 0) [.ref (gA g 0), .int v1] M Q := by
  refine mk_MR (cc := cX4_sheetNumbered) (maxL := 2) (by decide) rfl (Nat.le_of_ble_eq_true rfl) ?_
  intro z Qf hC hR
  show XX z g Qf 2 0 [(0, .ref (gA g 0)), (1, .int v1)] [] M
  refine q_iload_n hC dX4_sheetNumbered_0 1 rfl 1 rfl ?_
  by_cases c0 : v1 = 0
  · have hw := hw.1 c0
    refine q_tabIn hC 28 dX4_sheetNumbered_1 (by rw [c0]; decide) (by rw [c0]; decide) (by rw [c0]; rfl) (by decide) ?_
    refine q_aload_n hC dX4_sheetNumbered_28 0 rfl 29 rfl ?_
    refine q_getR (C := RX4) (T := TX4) (N := 12) (ci := 4) hC inX4_sheetNumbered_X4 (obF0 hF) rfl 5 (by decide) (uX4_sheetNumbered__o _ (List.mem_of_getElem? (l := owX4_sheetNumbered) (i := 1) rfl)) rfl 44 (fun _ => rfl) dX4_sheetNumbered_29 32 rfl ?_
    exact r_aret hR dX4_sheetNumbered_32 hw
  · have hw := hw.2 c0
    by_cases c1 : v1 = 1
    · have hw := hw.1 c1
      refine q_tabIn hC 33 dX4_sheetNumbered_1 (by rw [c1]; decide) (by rw [c1]; decide) (by rw [c1]; rfl) (by decide) ?_
      refine q_aload_n hC dX4_sheetNumbered_33 0 rfl 34 rfl ?_
      refine q_getR (C := RX4) (T := TX4) (N := 12) (ci := 4) hC inX4_sheetNumbered_X4 (obF0 hF) rfl 6 (by decide) (uX4_sheetNumbered__o _ (List.mem_of_getElem? (l := owX4_sheetNumbered) (i := 2) rfl)) rfl 46 (fun _ => rfl) dX4_sheetNumbered_34 37 rfl ?_
      exact r_aret hR dX4_sheetNumbered_37 hw
    · have hw := hw.2 c1
      by_cases c2 : v1 = 2
      · have hw := hw.1 c2
        refine q_tabIn hC 38 dX4_sheetNumbered_1 (by rw [c2]; decide) (by rw [c2]; decide) (by rw [c2]; rfl) (by decide) ?_
        refine q_aload_n hC dX4_sheetNumbered_38 0 rfl 39 rfl ?_
        refine q_getR (C := RX4) (T := TX4) (N := 12) (ci := 4) hC inX4_sheetNumbered_X4 (obF0 hF) rfl 7 (by decide) (uX4_sheetNumbered__o _ (List.mem_of_getElem? (l := owX4_sheetNumbered) (i := 3) rfl)) rfl 48 (fun _ => rfl) dX4_sheetNumbered_39 42 rfl ?_
        exact r_aret hR dX4_sheetNumbered_42 hw
      · have hw := hw.2 c2
        refine q_tabOut hC 43 dX4_sheetNumbered_1 (tab_out2 c0 c1 c2) (by decide) ?_
        refine q_aload_n hC dX4_sheetNumbered_43 0 rfl 44 rfl ?_
        refine q_getR (C := RX4) (T := TX4) (N := 12) (ci := 4) hC inX4_sheetNumbered_X4 (obF0 hF) rfl 8 (by decide) (uX4_sheetNumbered__o _ (List.mem_of_getElem? (l := owX4_sheetNumbered) (i := 4) rfl)) rfl 50 (fun _ => rfl) dX4_sheetNumbered_44 47 rfl ?_
        exact r_aret hR dX4_sheetNumbered_47 hw
theorem hdV_X4_sheetNumbered : yX4_sheetNumbered.cls = RX4 ∧ yX4_sheetNumbered.cls ≠ "java/lang/invoke/MethodHandle" ∧ yX4_sheetNumbered.cls ≠ "java/lang/invoke/VarHandle" ∧ (parseMethodDescriptor yX4_sheetNumbered.desc).map (fun d => d.parameters.length) = some 1 := by decide +kernel
theorem hdV_X1_makeNew : yX1_makeNew.cls = RX1 ∧ yX1_makeNew.cls ≠ "java/lang/invoke/MethodHandle" ∧ yX1_makeNew.cls ≠ "java/lang/invoke/VarHandle" ∧ (parseMethodDescriptor yX1_makeNew.desc).map (fun d => d.parameters.length) = some 2 := by decide +kernel
set_option maxRecDepth 100000 in
set_option maxHeartbeats 4000000 in
theorem ctX4_sheet (l : Launch) (g : GG) (M : MM) (v1 : Int32) (v2 : Int32) (v3 : Int32) (Q : Int32 → MM → Prop) (hF : full g) (hw : wX4_sheet Q M v1 v2 v3) : MI g l yX4_sheet wsX4_sheet (rmOf 2 45) [.ref (gA g 0), .int v1, .int v2, .int v3] M Q := by
  refine mk_MI (cc := cX4_sheet) (maxL := 4) (by decide) rfl (Nat.le_of_ble_eq_true rfl) ?_
  intro z Qf hC hR
  show XX z g Qf 4 0 [(0, .ref (gA g 0)), (1, .int v1), (2, .int v2), (3, .int v3)] [] M
  refine q_iload_n hC dX4_sheet_0 1 rfl 1 rfl ?_
  refine q_iconst (v := 0) hC dX4_sheet_1 rfl 2 rfl ?_
  refine q_iconst (v := 3) hC dX4_sheet_2 rfl 3 rfl ?_
  refine r_callI hC (go_T (As := [.int v1, .int 0, .int 3]) (rest := []) hC (ctX4_isBetween (zl z) g M v1 0 3 _ hw) 3 gX4_sheet_X4_isBetween rfl ⟨rfl, rfl⟩ hdT_X4_isBetween ⟨Nat.le_of_ble_eq_true rfl, Nat.le_of_ble_eq_true rfl⟩ rfl rfl (Nat.le_of_ble_eq_true rfl) dX4_sheet_3) 6 rfl (fun r1 M2 hw => ?_)
  refine q_if_eq hC 24 dX4_sheet_6 (by decide) 9 rfl hw (fun hw => ?_) (fun hw => ?_)
  · refine q_iconst (v := (-1)) hC dX4_sheet_24 rfl 25 rfl ?_
    exact r_iret hR dX4_sheet_25 hw
  · refine q_iload_n hC dX4_sheet_9 2 rfl 10 rfl ?_
    refine q_iconst (v := 0) hC dX4_sheet_10 rfl 11 rfl ?_
    refine q_iconst (v := 2) hC dX4_sheet_11 rfl 12 rfl ?_
    refine r_callI hC (go_T (As := [.int v2, .int 0, .int 2]) (rest := []) hC (ctX4_isBetween (zl z) g M2 v2 0 2 _ hw) 3 gX4_sheet_X4_isBetween rfl ⟨rfl, rfl⟩ hdT_X4_isBetween ⟨Nat.le_of_ble_eq_true rfl, Nat.le_of_ble_eq_true rfl⟩ rfl rfl (Nat.le_of_ble_eq_true rfl) dX4_sheet_12) 15 rfl (fun r3 M4 hw => ?_)
    refine q_if_eq hC 24 dX4_sheet_15 (by decide) 18 rfl hw (fun hw => ?_) (fun hw => ?_)
    · refine q_iconst (v := (-1)) hC dX4_sheet_24 rfl 25 rfl ?_
      exact r_iret hR dX4_sheet_25 hw
    · refine q_iload_n hC dX4_sheet_18 3 rfl 19 rfl ?_
      refine q_bipush (v := 40) hC dX4_sheet_19 (by decide) 21 rfl ?_
      refine q_icmp_le hC 26 dX4_sheet_21 (by decide) 24 rfl hw (fun hw => ?_) (fun hw => ?_)
      · refine q_iload_n hC dX4_sheet_26 3 rfl 27 rfl ?_
        refine q_if_ge hC 33 dX4_sheet_27 (by decide) 30 rfl hw (fun hw => ?_) (fun hw => ?_)
        · refine q_aload_n hC dX4_sheet_33 0 rfl 34 rfl ?_
          refine q_iload_n hC dX4_sheet_34 1 rfl 35 rfl ?_
          refine r_callR hC (go_V (q := (RX4, TX4, 12)) (As := [.int v1]) (rest := []) hC (ctX4_sheetNumbered (zl z) g M4 v1 _ hF hw) 1 gX4_sheet_X4_sheetNumbered rfl ⟨rfl, rfl⟩ hdV_X4_sheetNumbered ⟨Nat.le_of_ble_eq_true rfl, Nat.le_of_ble_eq_true rfl⟩ (obF0 hF) rfl rfl rfl (Nat.le_of_ble_eq_true rfl) dX4_sheet_35) 38 rfl (fun r5 M6 hw => ?_)
          obtain ⟨hq, hw⟩ := hw
          have hr5 := hF.sh hq
          refine q_iload_n hC dX4_sheet_38 2 rfl 39 rfl ?_
          refine q_iload_n hC dX4_sheet_39 3 rfl 40 rfl ?_
          refine r_callV hC (go_V (q := (RX1, TX1, 3)) (As := [.int v2, .int v3]) (rest := []) hC (ctX1_makeNew (zl z) g M6 r5 v2 v3 _ hr5 hw) 2 gX4_sheet_X1_makeNew rfl ⟨rfl, rfl⟩ hdV_X1_makeNew ⟨Nat.le_of_ble_eq_true rfl, Nat.le_of_ble_eq_true rfl⟩ hr5.ob rfl rfl rfl (Nat.le_of_ble_eq_true rfl) dX4_sheet_40) 43 rfl (fun M7 hw => ?_)
          refine q_iconst (v := 1) hC dX4_sheet_43 rfl 44 rfl ?_
          exact r_iret hR dX4_sheet_44 hw
        · refine q_bipush (v := (-14)) hC dX4_sheet_30 (by decide) 32 rfl ?_
          exact r_iret hR dX4_sheet_32 hw
      · refine q_iconst (v := (-1)) hC dX4_sheet_24 rfl 25 rfl ?_
        exact r_iret hR dX4_sheet_25 hw
theorem hdV_X1_faultOf : yX1_faultOf.cls = RX1 ∧ yX1_faultOf.cls ≠ "java/lang/invoke/MethodHandle" ∧ yX1_faultOf.cls ≠ "java/lang/invoke/VarHandle" ∧ (parseMethodDescriptor yX1_faultOf.desc).map (fun d => d.parameters.length) = some 2 := by decide +kernel
theorem hdV_X1_put : yX1_put.cls = RX1 ∧ yX1_put.cls ≠ "java/lang/invoke/MethodHandle" ∧ yX1_put.cls ≠ "java/lang/invoke/VarHandle" ∧ (parseMethodDescriptor yX1_put.desc).map (fun d => d.parameters.length) = some 2 := by decide +kernel
theorem inX4_lay_X1 : ∀ w ∈ u_ws RX1 TX1 3, w ∈ wsX4_lay := uX4_lay__wsX10
set_option maxRecDepth 100000 in
set_option maxHeartbeats 4000000 in
theorem ctX4_lay (l : Launch) (g : GG) (M : MM) (v1 : Int32) (v2 : Int32) (v3 : Int32) (Q : Int32 → MM → Prop) (hF : full g) (hw : wX4_lay Q M v1 v2 v3) : MI g l yX4_lay wsX4_lay (rmOf 2 45) [.ref (gA g 0), .int v1, .int v2, .int v3] M Q := by
  refine mk_MI (cc := cX4_lay) (maxL := 6) (by decide) rfl (Nat.le_of_ble_eq_true rfl) ?_
  intro z Qf hC hR
  show XX z g Qf 6 0 [(0, .ref (gA g 0)), (1, .int v1), (2, .int v2), (3, .int v3)] [] M
  refine q_iload_n hC dX4_lay_0 1 rfl 1 rfl ?_
  refine q_iconst (v := 0) hC dX4_lay_1 rfl 2 rfl ?_
  refine q_iconst (v := 3) hC dX4_lay_2 rfl 3 rfl ?_
  refine r_callI hC (go_T (As := [.int v1, .int 0, .int 3]) (rest := []) hC (ctX4_isBetween (zl z) g M v1 0 3 _ hw) 3 gX4_lay_X4_isBetween rfl ⟨rfl, rfl⟩ hdT_X4_isBetween ⟨Nat.le_of_ble_eq_true rfl, Nat.le_of_ble_eq_true rfl⟩ rfl rfl (Nat.le_of_ble_eq_true rfl) dX4_lay_3) 6 rfl (fun r1 M2 hw => ?_)
  refine q_if_ne hC 11 dX4_lay_6 (by decide) 9 rfl hw (fun hw => ?_) (fun hw => ?_)
  · refine q_aload_n hC dX4_lay_11 0 rfl 12 rfl ?_
    refine q_iload_n hC dX4_lay_12 1 rfl 13 rfl ?_
    refine r_callR hC (go_V (q := (RX4, TX4, 12)) (As := [.int v1]) (rest := []) hC (ctX4_sheetNumbered (zl z) g M2 v1 _ hF hw) 1 gX4_lay_X4_sheetNumbered rfl ⟨rfl, rfl⟩ hdV_X4_sheetNumbered ⟨Nat.le_of_ble_eq_true rfl, Nat.le_of_ble_eq_true rfl⟩ (obF0 hF) rfl rfl rfl (Nat.le_of_ble_eq_true rfl) dX4_lay_13) 16 rfl (fun r3 M4 hw => ?_)
    obtain ⟨hq, hw⟩ := hw
    have hr3 := hF.sh hq
    refine q_astore (L' := [(4, .ref (gA g r3)), (0, .ref (gA g 0)), (1, .int v1), (2, .int v2), (3, .int v3)]) hC dX4_lay_16 (by decide) rfl 18 rfl ?_
    refine q_aload hC dX4_lay_18 0 rfl 20 rfl ?_
    refine q_aload hC dX4_lay_20 0 rfl 22 rfl ?_
    refine q_getI (C := RX1) (T := TX1) (N := 3) (ci := 1) hC inX4_lay_X1 hr3.ob rfl 1 (by decide) (uX4_lay__o _ (List.mem_of_getElem? (l := owX4_lay) (i := 1) rfl)) rfl (fun _ => rfl) dX4_lay_22 25 rfl ?_
    refine q_iload_n hC dX4_lay_25 3 rfl 26 rfl ?_
    refine r_callI hC (go_V (q := (RX1, TX1, 3)) (As := [.int (M4 r3 1), .int v2]) (rest := []) hC (ctX1_faultOf (zl z) g M4 r3 (M4 r3 1) v2 _ hr3 hw) 2 gX4_lay_X1_faultOf rfl ⟨rfl, rfl⟩ hdV_X1_faultOf ⟨Nat.le_of_ble_eq_true rfl, Nat.le_of_ble_eq_true rfl⟩ hr3.ob rfl rfl rfl (Nat.le_of_ble_eq_true rfl) dX4_lay_26) 29 rfl (fun r5 M6 hw => ?_)
    refine q_istore (L' := [(5, .int r5), (4, .ref (gA g r3)), (0, .ref (gA g 0)), (1, .int v1), (2, .int v2), (3, .int v3)]) hC dX4_lay_29 (by decide) rfl 31 rfl ?_
    refine q_iload hC dX4_lay_31 0 rfl 33 rfl ?_
    refine q_if_eq hC 42 dX4_lay_33 (by decide) 36 rfl hw (fun hw => ?_) (fun hw => ?_)
    · refine q_aload hC dX4_lay_42 1 rfl 44 rfl ?_
      refine q_iload_n hC dX4_lay_44 4 rfl 45 rfl ?_
      refine q_iload_n hC dX4_lay_45 5 rfl 46 rfl ?_
      refine r_callV hC (go_V (q := (RX1, TX1, 3)) (As := [.int v2, .int v3]) (rest := []) hC (ctX1_put (zl z) g M6 r3 v2 v3 _ hr3 hw) 2 gX4_lay_X1_put rfl ⟨rfl, rfl⟩ hdV_X1_put ⟨Nat.le_of_ble_eq_true rfl, Nat.le_of_ble_eq_true rfl⟩ hr3.ob rfl rfl rfl (Nat.le_of_ble_eq_true rfl) dX4_lay_46) 49 rfl (fun M7 hw => ?_)
      refine q_iconst (v := 1) hC dX4_lay_49 rfl 50 rfl ?_
      exact r_iret hR dX4_lay_50 hw
    · refine q_bipush (v := (-10)) hC dX4_lay_36 (by decide) 38 rfl ?_
      refine q_iload hC dX4_lay_38 0 rfl 40 rfl ?_
      refine q_isub hC dX4_lay_40 41 rfl ?_
      exact r_iret hR dX4_lay_41 hw
  · refine q_iconst (v := (-1)) hC dX4_lay_9 rfl 10 rfl ?_
    exact r_iret hR dX4_lay_10 hw
theorem hdV_X1_cellAt : yX1_cellAt.cls = RX1 ∧ yX1_cellAt.cls ≠ "java/lang/invoke/MethodHandle" ∧ yX1_cellAt.cls ≠ "java/lang/invoke/VarHandle" ∧ (parseMethodDescriptor yX1_cellAt.desc).map (fun d => d.parameters.length) = some 1 := by decide +kernel
theorem inX4_read_X2 : ∀ w ∈ u_ws RX2 TX2 14, w ∈ wsX4_read := uX4_read__wsX20
theorem inX4_read_X4 : ∀ w ∈ u_ws RX4 TX4 12, w ∈ wsX4_read := uX4_read__wsX40
set_option maxRecDepth 100000 in
set_option maxHeartbeats 4000000 in
theorem ctX4_read (l : Launch) (g : GG) (M : MM) (v1 : Int32) (v2 : Int32) (v3 : Int32) (v4 : Int32) (Q : Int32 → MM → Prop) (hF : full g) (hw : wX4_read Q M v1 v2 v3 v4) : MI g l yX4_read wsX4_read (rmOf 2 44) [.ref (gA g 0), .int v1, .int v2, .int v3, .int v4] M Q := by
  refine mk_MI (cc := cX4_read) (maxL := 11) (by decide) rfl (Nat.le_of_ble_eq_true rfl) ?_
  intro z Qf hC hR
  show XX z g Qf 11 0 [(0, .ref (gA g 0)), (1, .int v1), (2, .int v2), (3, .int v3), (4, .int v4)] [] M
  have B122 : ∀ (M : MM) (v6 : Int32) (v7 : Int32) (v10 : Int32), wX4_read_122 Q v1 v2 v3 v4 M v6 v7 v10 → XX z g Qf 11 122 [(0, .ref (gA g 0)), (6, .int v6), (7, .int v7), (10, .int v10)] [] M := by
    intro M v6 v7 v10 hw
    refine q_aload_n hC dX4_read_122 0 rfl 123 rfl ?_
    refine q_getR (C := RX4) (T := TX4) (N := 12) (ci := 4) hC inX4_read_X4 (obF0 hF) rfl 0 (by decide) (uX4_read__o _ (List.mem_of_getElem? (l := owX4_read) (i := 1) rfl)) rfl 1 (fun _ => rfl) dX4_read_123 126 rfl ?_
    refine q_iload hC dX4_read_126 1 rfl 128 rfl ?_
    refine q_putI (C := RX2) (T := TX2) (N := 14) (ci := 2) hC inX4_read_X2 tyX2 tyX2_ok nmX2 (hF.tp (b := 1) (Or.inl rfl)).ob rfl 11 (by decide) (uX4_read__o _ (List.mem_of_getElem? (l := owX4_read) (i := 2) rfl)) rfl rfl rfl (fun _ => Nat.le_of_ble_eq_true rfl) (fun _ => rfl) dX4_read_128 131 rfl (fun M19 eM19 => ?_)
    have hw := hw M19 eM19
    refine q_iload hC dX4_read_131 3 rfl 133 rfl ?_
    refine q_if_eq hC 141 dX4_read_133 (by decide) 136 rfl hw (fun hw => ?_) (fun hw => ?_)
    · refine q_bipush (v := (-20)) hC dX4_read_141 (by decide) 143 rfl ?_
      refine q_iload hC dX4_read_143 2 rfl 145 rfl ?_
      refine q_isub hC dX4_read_145 146 rfl ?_
      exact r_iret hR dX4_read_146 hw
    · refine q_bipush (v := (-3)) hC dX4_read_136 (by decide) 138 rfl ?_
      refine q_goto hC 146 dX4_read_138 (by decide) ?_
      exact r_iret hR dX4_read_146 hw
  have B50 : ∀ (n : Nat) (M : MM) (o5 : Nat) (v6 : Int32) (v7 : Int32) (ho5 : shl g o5), wX4_read_50 Q v1 v2 v3 v4 n M o5 v6 v7 → XX z g Qf 11 50 [(0, .ref (gA g 0)), (2, .int v2), (3, .int v3), (4, .int v4), (5, .ref (gA g o5)), (6, .int v6), (7, .int v7)] [] M := by
    intro n
    induction n with
    | zero =>
      intro M o5 v6 v7 ho5 hw
      exact hw.elim
    | succ n ih =>
      intro M o5 v6 v7 ho5 hw
      refine q_iload hC dX4_read_50 6 rfl 52 rfl ?_
      refine q_iload hC dX4_read_52 3 rfl 54 rfl ?_
      refine q_icmp_ge hC 163 dX4_read_54 (by decide) 57 rfl hw (fun hw => ?_) (fun hw => ?_)
      · refine q_aload_n hC dX4_read_163 0 rfl 164 rfl ?_
        refine q_iconst (v := 0) hC dX4_read_164 rfl 165 rfl ?_
        refine q_putI (C := RX4) (T := TX4) (N := 12) (ci := 4) hC inX4_read_X4 tyX4 tyX4_ok nmX4 (obF0 hF) rfl 10 (by decide) (uX4_read__o _ (List.mem_of_getElem? (l := owX4_read) (i := 3) rfl)) rfl rfl rfl (fun _ => Nat.le_of_ble_eq_true rfl) (fun _ => rfl) dX4_read_165 168 rfl (fun M9 eM9 => ?_)
        have hw := hw M9 eM9
        refine q_iload hC dX4_read_168 3 rfl 170 rfl ?_
        exact r_iret hR dX4_read_170 hw
      · refine q_aload hC dX4_read_57 4 rfl 59 rfl ?_
        refine q_iload_n hC dX4_read_59 1 rfl 60 rfl ?_
        refine q_iload_n hC dX4_read_60 2 rfl 61 rfl ?_
        refine q_iload hC dX4_read_61 6 rfl 63 rfl ?_
        refine q_iadd hC dX4_read_63 64 rfl ?_
        refine r_callI hC (go_V (q := (RX1, TX1, 3)) (As := [.int v2, .int (v3 + v7)]) (rest := []) hC (ctX1_faultOf (zl z) g M o5 v2 (v3 + v7) _ ho5 hw) 2 gX4_read_X1_faultOf rfl ⟨rfl, rfl⟩ hdV_X1_faultOf ⟨Nat.le_of_ble_eq_true rfl, Nat.le_of_ble_eq_true rfl⟩ ho5.ob rfl rfl rfl (Nat.le_of_ble_eq_true rfl) dX4_read_64) 67 rfl (fun r10 M11 hw => ?_)
        refine q_istore (L' := [(8, .int r10), (0, .ref (gA g 0)), (2, .int v2), (3, .int v3), (4, .int v4), (5, .ref (gA g o5)), (6, .int v6), (7, .int v7)]) hC dX4_read_67 (by decide) rfl 69 rfl ?_
        refine q_iload hC dX4_read_69 0 rfl 71 rfl ?_
        refine q_if_eq hC 83 dX4_read_71 (by decide) 74 rfl hw (fun hw => ?_) (fun hw => ?_)
        · refine q_aload hC dX4_read_83 5 rfl 85 rfl ?_
          refine q_iload_n hC dX4_read_85 3 rfl 86 rfl ?_
          refine q_iload hC dX4_read_86 7 rfl 88 rfl ?_
          refine q_iadd hC dX4_read_88 89 rfl ?_
          refine r_callI hC (go_V (q := (RX1, TX1, 3)) (As := [.int (v3 + v7)]) (rest := []) hC (ctX1_cellAt (zl z) g M11 o5 (v3 + v7) _ ho5 hw) 1 gX4_read_X1_cellAt rfl ⟨rfl, rfl⟩ hdV_X1_cellAt ⟨Nat.le_of_ble_eq_true rfl, Nat.le_of_ble_eq_true rfl⟩ ho5.ob rfl rfl rfl (Nat.le_of_ble_eq_true rfl) dX4_read_89) 92 rfl (fun r12 M13 hw => ?_)
          refine q_istore (L' := [(9, .int r12), (8, .int r10), (0, .ref (gA g 0)), (2, .int v2), (3, .int v3), (4, .int v4), (5, .ref (gA g o5)), (6, .int v6), (7, .int v7)]) hC dX4_read_92 (by decide) rfl 94 rfl ?_
          refine q_iload hC dX4_read_94 0 rfl 96 rfl ?_
          refine q_iconst (v := 0) hC dX4_read_96 rfl 97 rfl ?_
          refine q_sipush (v := 255) hC dX4_read_97 (by decide) 100 rfl ?_
          refine r_callI hC (go_T (As := [.int r12, .int 0, .int 255]) (rest := []) hC (ctX4_isBetween (zl z) g M13 r12 0 255 _ hw) 3 gX4_read_X4_isBetween rfl ⟨rfl, rfl⟩ hdT_X4_isBetween ⟨Nat.le_of_ble_eq_true rfl, Nat.le_of_ble_eq_true rfl⟩ rfl rfl (Nat.le_of_ble_eq_true rfl) dX4_read_100) 103 rfl (fun r14 M15 hw => ?_)
          refine q_istore (L' := [(10, .int r14), (9, .int r12), (8, .int r10), (0, .ref (gA g 0)), (2, .int v2), (3, .int v3), (4, .int v4), (5, .ref (gA g o5)), (6, .int v6), (7, .int v7)]) hC dX4_read_103 (by decide) rfl 105 rfl ?_
          refine q_iload hC dX4_read_105 0 rfl 107 rfl ?_
          refine q_if_eq hC 122 dX4_read_107 (by decide) 110 rfl hw (fun hw => ?_) (fun hw => ?_)
          · exact XX.sub [3, 8, 9, 0] rfl (B122 M15 v6 v7 r14 hw)
          · refine q_aload_n hC dX4_read_110 3 rfl 111 rfl ?_
            refine q_getR (C := RX4) (T := TX4) (N := 12) (ci := 4) hC inX4_read_X4 (obF0 hF) rfl 0 (by decide) (uX4_read__o _ (List.mem_of_getElem? (l := owX4_read) (i := 1) rfl)) rfl 1 (fun _ => rfl) dX4_read_111 114 rfl ?_
            refine q_getI (C := RX2) (T := TX2) (N := 14) (ci := 2) hC inX4_read_X2 (hF.tp (b := 1) (Or.inl rfl)).ob rfl 11 (by decide) (uX4_read__o _ (List.mem_of_getElem? (l := owX4_read) (i := 2) rfl)) rfl (fun _ => rfl) dX4_read_114 117 rfl ?_
            refine q_bipush (v := 12) hC dX4_read_117 (by decide) 119 rfl ?_
            refine q_icmp_lt hC 147 dX4_read_119 (by decide) 122 rfl hw (fun hw => ?_) (fun hw => ?_)
            · refine q_aload_n hC dX4_read_147 3 rfl 148 rfl ?_
              refine q_getR (C := RX4) (T := TX4) (N := 12) (ci := 4) hC inX4_read_X4 (obF0 hF) rfl 0 (by decide) (uX4_read__o _ (List.mem_of_getElem? (l := owX4_read) (i := 1) rfl)) rfl 1 (fun _ => rfl) dX4_read_148 151 rfl ?_
              refine q_iload hC dX4_read_151 1 rfl 153 rfl ?_
              refine r_callI hC (go_V (q := (RX2, TX2, 14)) (As := [.int r12]) (rest := []) hC (ctX2_typeOne (zl z) g M15 1 r12 _ (hF.tp (b := 1) (Or.inl rfl)) hw) 1 gX4_read_X2_typeOne rfl ⟨rfl, rfl⟩ hdV_X2_typeOne ⟨Nat.le_of_ble_eq_true rfl, Nat.le_of_ble_eq_true rfl⟩ (hF.tp (b := 1) (Or.inl rfl)).ob rfl rfl rfl (Nat.le_of_ble_eq_true rfl) dX4_read_153) 156 rfl (fun r16 M17 hw => ?_)
              refine q_pop hC dX4_read_156 rfl 157 rfl ?_
              refine q_iinc (v := v7 + 1) (L' := [(7, .int (v7 + 1)), (10, .int r14), (9, .int r12), (8, .int r10), (0, .ref (gA g 0)), (2, .int v2), (3, .int v3), (4, .int v4), (5, .ref (gA g o5)), (6, .int v6)]) hC dX4_read_157 9 rfl rfl (by decide) rfl 160 rfl ?_
              refine q_goto hC 50 dX4_read_160 (by decide) ?_
              exact XX.sub [4, 5, 6, 7, 8, 9, 0] rfl (ih M17 o5 v6 (v7 + 1) ho5 hw)
            · exact XX.sub [3, 8, 9, 0] rfl (B122 M15 v6 v7 r14 hw)
        · refine q_aload_n hC dX4_read_74 1 rfl 75 rfl ?_
          refine q_iload hC dX4_read_75 0 rfl 77 rfl ?_
          refine q_putI (C := RX4) (T := TX4) (N := 12) (ci := 4) hC inX4_read_X4 tyX4 tyX4_ok nmX4 (obF0 hF) rfl 10 (by decide) (uX4_read__o _ (List.mem_of_getElem? (l := owX4_read) (i := 3) rfl)) rfl rfl rfl (fun _ => Nat.le_of_ble_eq_true rfl) (fun _ => rfl) dX4_read_77 80 rfl (fun M18 eM18 => ?_)
          have hw := hw M18 eM18
          refine q_iload hC dX4_read_80 7 rfl 82 rfl ?_
          exact r_iret hR dX4_read_82 hw
  refine q_iload_n hC dX4_read_0 1 rfl 1 rfl ?_
  refine q_iconst (v := 0) hC dX4_read_1 rfl 2 rfl ?_
  refine q_iconst (v := 3) hC dX4_read_2 rfl 3 rfl ?_
  refine r_callI hC (go_T (As := [.int v1, .int 0, .int 3]) (rest := []) hC (ctX4_isBetween (zl z) g M v1 0 3 _ hw) 3 gX4_read_X4_isBetween rfl ⟨rfl, rfl⟩ hdT_X4_isBetween ⟨Nat.le_of_ble_eq_true rfl, Nat.le_of_ble_eq_true rfl⟩ rfl rfl (Nat.le_of_ble_eq_true rfl) dX4_read_3) 6 rfl (fun r1 M2 hw => ?_)
  refine q_if_eq hC 29 dX4_read_6 (by decide) 9 rfl hw (fun hw => ?_) (fun hw => ?_)
  · refine q_iconst (v := (-1)) hC dX4_read_29 rfl 30 rfl ?_
    exact r_iret hR dX4_read_30 hw
  · refine q_iload_n hC dX4_read_9 2 rfl 10 rfl ?_
    refine q_iconst (v := 0) hC dX4_read_10 rfl 11 rfl ?_
    refine q_iconst (v := 2) hC dX4_read_11 rfl 12 rfl ?_
    refine r_callI hC (go_T (As := [.int v2, .int 0, .int 2]) (rest := []) hC (ctX4_isBetween (zl z) g M2 v2 0 2 _ hw) 3 gX4_read_X4_isBetween rfl ⟨rfl, rfl⟩ hdT_X4_isBetween ⟨Nat.le_of_ble_eq_true rfl, Nat.le_of_ble_eq_true rfl⟩ rfl rfl (Nat.le_of_ble_eq_true rfl) dX4_read_12) 15 rfl (fun r3 M4 hw => ?_)
    refine q_if_eq hC 29 dX4_read_15 (by decide) 18 rfl hw (fun hw => ?_) (fun hw => ?_)
    · refine q_iconst (v := (-1)) hC dX4_read_29 rfl 30 rfl ?_
      exact r_iret hR dX4_read_30 hw
    · refine q_iload hC dX4_read_18 4 rfl 20 rfl ?_
      refine q_iconst (v := 0) hC dX4_read_20 rfl 21 rfl ?_
      refine q_bipush (v := 12) hC dX4_read_21 (by decide) 23 rfl ?_
      refine r_callI hC (go_T (As := [.int v4, .int 0, .int 12]) (rest := []) hC (ctX4_isBetween (zl z) g M4 v4 0 12 _ hw) 3 gX4_read_X4_isBetween rfl ⟨rfl, rfl⟩ hdT_X4_isBetween ⟨Nat.le_of_ble_eq_true rfl, Nat.le_of_ble_eq_true rfl⟩ rfl rfl (Nat.le_of_ble_eq_true rfl) dX4_read_23) 26 rfl (fun r5 M6 hw => ?_)
      refine q_if_ne hC 31 dX4_read_26 (by decide) 29 rfl hw (fun hw => ?_) (fun hw => ?_)
      · refine q_aload_n hC dX4_read_31 0 rfl 32 rfl ?_
        refine q_iload_n hC dX4_read_32 1 rfl 33 rfl ?_
        refine r_callR hC (go_V (q := (RX4, TX4, 12)) (As := [.int v1]) (rest := []) hC (ctX4_sheetNumbered (zl z) g M6 v1 _ hF hw) 1 gX4_read_X4_sheetNumbered rfl ⟨rfl, rfl⟩ hdV_X4_sheetNumbered ⟨Nat.le_of_ble_eq_true rfl, Nat.le_of_ble_eq_true rfl⟩ (obF0 hF) rfl rfl rfl (Nat.le_of_ble_eq_true rfl) dX4_read_33) 36 rfl (fun r7 M8 hw => ?_)
        obtain ⟨hq, hw⟩ := hw
        have hr7 := hF.sh hq
        refine q_astore (L' := [(5, .ref (gA g r7)), (0, .ref (gA g 0)), (1, .int v1), (2, .int v2), (3, .int v3), (4, .int v4)]) hC dX4_read_36 (by decide) rfl 38 rfl ?_
        refine q_aload_n hC dX4_read_38 1 rfl 39 rfl ?_
        refine q_getR (C := RX4) (T := TX4) (N := 12) (ci := 4) hC inX4_read_X4 (obF0 hF) rfl 0 (by decide) (uX4_read__o _ (List.mem_of_getElem? (l := owX4_read) (i := 1) rfl)) rfl 1 (fun _ => rfl) dX4_read_39 42 rfl ?_
        refine q_getI (C := RX2) (T := TX2) (N := 14) (ci := 2) hC inX4_read_X2 (hF.tp (b := 1) (Or.inl rfl)).ob rfl 11 (by decide) (uX4_read__o _ (List.mem_of_getElem? (l := owX4_read) (i := 2) rfl)) rfl (fun _ => rfl) dX4_read_42 45 rfl ?_
        refine q_istore (L' := [(6, .int (M8 1 11)), (5, .ref (gA g r7)), (0, .ref (gA g 0)), (1, .int v1), (2, .int v2), (3, .int v3), (4, .int v4)]) hC dX4_read_45 (by decide) rfl 47 rfl ?_
        refine q_iconst (v := 0) hC dX4_read_47 rfl 48 rfl ?_
        refine q_istore (L' := [(7, .int 0), (6, .int (M8 1 11)), (5, .ref (gA g r7)), (0, .ref (gA g 0)), (1, .int v1), (2, .int v2), (3, .int v3), (4, .int v4)]) hC dX4_read_48 (by decide) rfl 50 rfl ?_
        obtain ⟨n0, hw⟩ := hw
        exact XX.sub [3, 5, 6, 7, 2, 1, 0] rfl (B50 n0 M8 r7 (M8 1 11) 0 hr7 hw)
      · refine q_iconst (v := (-1)) hC dX4_read_29 rfl 30 rfl ?_
        exact r_iret hR dX4_read_30 hw
theorem inX4_torn_X4 : ∀ w ∈ u_ws RX4 TX4 12, w ∈ wsX4_torn := uX4_torn__wsX40
set_option maxRecDepth 100000 in
set_option maxHeartbeats 4000000 in
theorem ctX4_torn (l : Launch) (g : GG) (M : MM)  (Q : Int32 → MM → Prop) (hF : full g) (hw : wX4_torn Q M ) : MI g l yX4_torn wsX4_torn (rmOf 0 0) [.ref (gA g 0)] M Q := by
  refine mk_MI (cc := cX4_torn) (maxL := 1) (by decide) rfl (Nat.le_of_ble_eq_true rfl) ?_
  intro z Qf hC hR
  show XX z g Qf 1 0 [(0, .ref (gA g 0))] [] M
  refine q_aload_n hC dX4_torn_0 0 rfl 1 rfl ?_
  refine q_getI (C := RX4) (T := TX4) (N := 12) (ci := 4) hC inX4_torn_X4 (obF0 hF) rfl 10 (by decide) (uX4_torn__o _ (List.mem_of_getElem? (l := owX4_torn) (i := 1) rfl)) rfl (fun _ => rfl) dX4_torn_1 4 rfl ?_
  exact r_iret hR dX4_torn_4 hw
theorem hdV_X2_markCount : yX2_markCount.cls = RX2 ∧ yX2_markCount.cls ≠ "java/lang/invoke/MethodHandle" ∧ yX2_markCount.cls ≠ "java/lang/invoke/VarHandle" ∧ (parseMethodDescriptor yX2_markCount.desc).map (fun d => d.parameters.length) = some 0 := by decide +kernel
theorem hdV_X2_byteCount : yX2_byteCount.cls = RX2 ∧ yX2_byteCount.cls ≠ "java/lang/invoke/MethodHandle" ∧ yX2_byteCount.cls ≠ "java/lang/invoke/VarHandle" ∧ (parseMethodDescriptor yX2_byteCount.desc).map (fun d => d.parameters.length) = some 0 := by decide +kernel
theorem inX4_count_X1 : ∀ w ∈ u_ws RX1 TX1 3, w ∈ wsX4_count := uX4_count__wsX10
theorem inX4_count_X2 : ∀ w ∈ u_ws RX2 TX2 14, w ∈ wsX4_count := uX4_count__wsX20
theorem inX4_count_X3 : ∀ w ∈ u_ws RX3 TX3 10, w ∈ wsX4_count := uX4_count__wsX30
theorem inX4_count_X4 : ∀ w ∈ u_ws RX4 TX4 12, w ∈ wsX4_count := uX4_count__wsX40
set_option maxRecDepth 100000 in
set_option maxHeartbeats 4000000 in
theorem ctX4_count (l : Launch) (g : GG) (M : MM) (v1 : Int32) (Q : Int32 → MM → Prop) (hF : full g) (hw : wX4_count Q M v1) : MI g l yX4_count wsX4_count (rmOf 4 85) [.ref (gA g 0), .int v1] M Q := by
  refine mk_MI (cc := cX4_count) (maxL := 2) (by decide) rfl (Nat.le_of_ble_eq_true rfl) ?_
  intro z Qf hC hR
  show XX z g Qf 2 0 [(0, .ref (gA g 0)), (1, .int v1)] [] M
  refine q_iload_n hC dX4_count_0 1 rfl 1 rfl ?_
  by_cases c0 : v1 = 0
  · have hw := hw.1 c0
    refine q_tabIn hC 44 dX4_count_1 (by rw [c0]; decide) (by rw [c0]; decide) (by rw [c0]; rfl) (by decide) ?_
    refine q_aload_n hC dX4_count_44 0 rfl 45 rfl ?_
    refine q_getR (C := RX4) (T := TX4) (N := 12) (ci := 4) hC inX4_count_X4 (obF0 hF) rfl 0 (by decide) (uX4_count__o _ (List.mem_of_getElem? (l := owX4_count) (i := 1) rfl)) rfl 1 (fun _ => rfl) dX4_count_45 48 rfl ?_
    refine q_getI (C := RX2) (T := TX2) (N := 14) (ci := 2) hC inX4_count_X2 (hF.tp (b := 1) (Or.inl rfl)).ob rfl 8 (by decide) (uX4_count__o _ (List.mem_of_getElem? (l := owX4_count) (i := 2) rfl)) rfl (fun _ => rfl) dX4_count_48 51 rfl ?_
    exact r_iret hR dX4_count_51 hw
  · have hw := hw.2 c0
    by_cases c1 : v1 = 1
    · have hw := hw.1 c1
      refine q_tabIn hC 52 dX4_count_1 (by rw [c1]; decide) (by rw [c1]; decide) (by rw [c1]; rfl) (by decide) ?_
      refine q_aload_n hC dX4_count_52 0 rfl 53 rfl ?_
      refine q_getR (C := RX4) (T := TX4) (N := 12) (ci := 4) hC inX4_count_X4 (obF0 hF) rfl 0 (by decide) (uX4_count__o _ (List.mem_of_getElem? (l := owX4_count) (i := 1) rfl)) rfl 1 (fun _ => rfl) dX4_count_53 56 rfl ?_
      refine r_callI hC (go_V (q := (RX2, TX2, 14)) (As := []) (rest := []) hC (ctX2_markCount (zl z) g M 1 _ (hF.tp (b := 1) (Or.inl rfl)) hw) 0 gX4_count_X2_markCount rfl ⟨rfl, rfl⟩ hdV_X2_markCount ⟨Nat.le_of_ble_eq_true rfl, Nat.le_of_ble_eq_true rfl⟩ (hF.tp (b := 1) (Or.inl rfl)).ob rfl rfl rfl (Nat.le_of_ble_eq_true rfl) dX4_count_56) 59 rfl (fun r1 M2 hw => ?_)
      exact r_iret hR dX4_count_59 hw
    · have hw := hw.2 c1
      by_cases c2 : v1 = 2
      · have hw := hw.1 c2
        refine q_tabIn hC 60 dX4_count_1 (by rw [c2]; decide) (by rw [c2]; decide) (by rw [c2]; rfl) (by decide) ?_
        refine q_aload_n hC dX4_count_60 0 rfl 61 rfl ?_
        refine q_getR (C := RX4) (T := TX4) (N := 12) (ci := 4) hC inX4_count_X4 (obF0 hF) rfl 0 (by decide) (uX4_count__o _ (List.mem_of_getElem? (l := owX4_count) (i := 1) rfl)) rfl 1 (fun _ => rfl) dX4_count_61 64 rfl ?_
        refine r_callI hC (go_V (q := (RX2, TX2, 14)) (As := []) (rest := []) hC (ctX2_byteCount (zl z) g M 1 _ (hF.tp (b := 1) (Or.inl rfl)) hw) 0 gX4_count_X2_byteCount rfl ⟨rfl, rfl⟩ hdV_X2_byteCount ⟨Nat.le_of_ble_eq_true rfl, Nat.le_of_ble_eq_true rfl⟩ (hF.tp (b := 1) (Or.inl rfl)).ob rfl rfl rfl (Nat.le_of_ble_eq_true rfl) dX4_count_64) 67 rfl (fun r3 M4 hw => ?_)
        exact r_iret hR dX4_count_67 hw
      · have hw := hw.2 c2
        by_cases c3 : v1 = 3
        · have hw := hw.1 c3
          refine q_tabIn hC 68 dX4_count_1 (by rw [c3]; decide) (by rw [c3]; decide) (by rw [c3]; rfl) (by decide) ?_
          refine q_aload_n hC dX4_count_68 0 rfl 69 rfl ?_
          refine q_getR (C := RX4) (T := TX4) (N := 12) (ci := 4) hC inX4_count_X4 (obF0 hF) rfl 0 (by decide) (uX4_count__o _ (List.mem_of_getElem? (l := owX4_count) (i := 1) rfl)) rfl 1 (fun _ => rfl) dX4_count_69 72 rfl ?_
          refine q_getI (C := RX2) (T := TX2) (N := 14) (ci := 2) hC inX4_count_X2 (hF.tp (b := 1) (Or.inl rfl)).ob rfl 13 (by decide) (uX4_count__o _ (List.mem_of_getElem? (l := owX4_count) (i := 3) rfl)) rfl (fun _ => rfl) dX4_count_72 75 rfl ?_
          exact r_iret hR dX4_count_75 hw
        · have hw := hw.2 c3
          by_cases c4 : v1 = 4
          · have hw := hw.1 c4
            refine q_tabIn hC 76 dX4_count_1 (by rw [c4]; decide) (by rw [c4]; decide) (by rw [c4]; rfl) (by decide) ?_
            refine q_aload_n hC dX4_count_76 0 rfl 77 rfl ?_
            refine q_getI (C := RX4) (T := TX4) (N := 12) (ci := 4) hC inX4_count_X4 (obF0 hF) rfl 11 (by decide) (uX4_count__o _ (List.mem_of_getElem? (l := owX4_count) (i := 4) rfl)) rfl (fun _ => rfl) dX4_count_77 80 rfl ?_
            refine r_callI hC (go_T (As := [.int (M 0 11)]) (rest := []) hC (ctJ6_bitCount_0f7a4 (zl z) g M (M 0 11) _ hw) 1 gX4_count_J6_bitCount_0f7a4 rfl ⟨rfl, rfl⟩ hdT_J6_bitCount_0f7a4 ⟨Nat.le_of_ble_eq_true rfl, Nat.le_of_ble_eq_true rfl⟩ rfl rfl (Nat.le_of_ble_eq_true rfl) dX4_count_80) 83 rfl (fun r5 M6 hw => ?_)
            exact r_iret hR dX4_count_83 hw
          · have hw := hw.2 c4
            by_cases c5 : v1 = 5
            · have hw := hw.1 c5
              refine q_tabIn hC 84 dX4_count_1 (by rw [c5]; decide) (by rw [c5]; decide) (by rw [c5]; rfl) (by decide) ?_
              refine q_aload_n hC dX4_count_84 0 rfl 85 rfl ?_
              refine q_getR (C := RX4) (T := TX4) (N := 12) (ci := 4) hC inX4_count_X4 (obF0 hF) rfl 1 (by decide) (uX4_count__o _ (List.mem_of_getElem? (l := owX4_count) (i := 5) rfl)) rfl 37 (fun _ => rfl) dX4_count_85 88 rfl ?_
              refine q_getI (C := RX3) (T := TX3) (N := 10) (ci := 3) hC inX4_count_X3 (obF37 hF) rfl 2 (by decide) (uX4_count__o _ (List.mem_of_getElem? (l := owX4_count) (i := 6) rfl)) rfl (fun _ => rfl) dX4_count_88 91 rfl ?_
              exact r_iret hR dX4_count_91 hw
            · have hw := hw.2 c5
              by_cases c6 : v1 = 6
              · have hw := hw.1 c6
                refine q_tabIn hC 92 dX4_count_1 (by rw [c6]; decide) (by rw [c6]; decide) (by rw [c6]; rfl) (by decide) ?_
                refine q_aload_n hC dX4_count_92 0 rfl 93 rfl ?_
                refine q_getR (C := RX4) (T := TX4) (N := 12) (ci := 4) hC inX4_count_X4 (obF0 hF) rfl 5 (by decide) (uX4_count__o _ (List.mem_of_getElem? (l := owX4_count) (i := 7) rfl)) rfl 44 (fun _ => rfl) dX4_count_93 96 rfl ?_
                refine r_callI hC (go_V (q := (RX1, TX1, 3)) (As := []) (rest := []) hC (ctX1_isNothing (zl z) g M 44 _ (hF.sh (b := 44) (Or.inl rfl)) hw) 0 gX4_count_X1_isNothing rfl ⟨rfl, rfl⟩ hdV_X1_isNothing ⟨Nat.le_of_ble_eq_true rfl, Nat.le_of_ble_eq_true rfl⟩ (hF.sh (b := 44) (Or.inl rfl)).ob rfl rfl rfl (Nat.le_of_ble_eq_true rfl) dX4_count_96) 99 rfl (fun r7 M8 hw => ?_)
                refine q_if_eq hC 107 dX4_count_99 (by decide) 102 rfl hw (fun hw => ?_) (fun hw => ?_)
                · refine q_aload_n hC dX4_count_107 0 rfl 108 rfl ?_
                  refine q_getR (C := RX4) (T := TX4) (N := 12) (ci := 4) hC inX4_count_X4 (obF0 hF) rfl 5 (by decide) (uX4_count__o _ (List.mem_of_getElem? (l := owX4_count) (i := 7) rfl)) rfl 44 (fun _ => rfl) dX4_count_108 111 rfl ?_
                  refine q_getI (C := RX1) (T := TX1) (N := 3) (ci := 1) hC inX4_count_X1 (hF.sh (b := 44) (Or.inl rfl)).ob rfl 2 (by decide) (uX4_count__o _ (List.mem_of_getElem? (l := owX4_count) (i := 8) rfl)) rfl (fun _ => rfl) dX4_count_111 114 rfl ?_
                  exact r_iret hR dX4_count_114 hw
                · refine q_bipush (v := (-4)) hC dX4_count_102 (by decide) 104 rfl ?_
                  refine q_goto hC 114 dX4_count_104 (by decide) ?_
                  exact r_iret hR dX4_count_114 hw
              · have hw := hw.2 c6
                refine q_tabOut hC 115 dX4_count_1 (tab_out6 c0 c1 c2 c3 c4 c5 c6) (by decide) ?_
                refine q_iconst (v := (-1)) hC dX4_count_115 rfl 116 rfl ?_
                exact r_iret hR dX4_count_116 hw
