set_option maxRecDepth 100000 in
set_option maxHeartbeats 4000000 in
theorem ctX4_copyRow (l : Launch) (g : GG) (M : MM) (k0 : Nat) (k1 : Nat) (Q : MM → Prop) (hk0 : isI g k0) (hk1 : isI g k1) (hw : wX4_copyRow Q M k0 k1) : MV g l yX4_copyRow wsX4_copyRow (rmOf 1 60) [.ref (gA g k0), .ref (gA g k1)] M Q := by
  refine mk_MV (cc := cX4_copyRow) (maxL := 2) (by decide) rfl (Nat.le_of_ble_eq_true rfl) ?_
  intro z Qf hC hR
  show XX z g Qf 2 0 [(0, .ref (gA g k0)), (1, .ref (gA g k1))] [] M
  refine q_aload_n hC dX4_copyRow_0 0 rfl 1 rfl ?_
  refine q_ifnull hC dX4_copyRow_1 4 rfl ?_
  refine q_aload_n hC dX4_copyRow_4 1 rfl 5 rfl ?_
  refine q_ifnull hC dX4_copyRow_5 8 rfl ?_
  refine q_aload_n hC dX4_copyRow_8 0 rfl 9 rfl ?_
  refine q_iconst (v := 0) hC dX4_copyRow_9 rfl 10 rfl ?_
  refine q_aload_n hC dX4_copyRow_10 1 rfl 11 rfl ?_
  refine q_iconst (v := 0) hC dX4_copyRow_11 rfl 12 rfl ?_
  refine q_aload_n hC dX4_copyRow_12 0 rfl 13 rfl ?_
  refine q_alen hC hk0 dX4_copyRow_13 14 rfl ?_
  refine q_aload_n hC dX4_copyRow_14 1 rfl 15 rfl ?_
  refine q_alen hC hk1 dX4_copyRow_15 16 rfl ?_
  refine q_mmin hC (List.mem_of_getElem? (i := 1) (by decide +kernel)) (List.mem_of_getElem? (i := 2) (by decide +kernel)) (List.mem_of_getElem? (i := 3) (by decide +kernel)) (List.mem_of_getElem? (i := 4) (by decide +kernel)) (by decide) (Nat.le_of_ble_eq_true rfl) dX4_copyRow_16 19 rfl ?_
  obtain ⟨hp1, hp2, hp3, hp4, hp5, hw⟩ := hw
  refine q_copy hC (List.mem_of_getElem? (i := 5) (by decide +kernel)) (List.mem_of_getElem? (i := 6) (by decide +kernel)) (List.mem_of_getElem? (i := 7) (by decide +kernel)) (List.mem_of_getElem? (i := 8) (by decide +kernel)) hk0 hk1 hp1 hp2 hp3 hp4 hp5 (by decide) (Nat.le_of_ble_eq_true rfl) dX4_copyRow_19 22 rfl (fun M1 eM1 => ?_)
  have hw := hw M1 eM1
  exact r_vret hR dX4_copyRow_22 hw
set_option maxRecDepth 100000 in
set_option maxHeartbeats 4000000 in
theorem ctX4_copyRow_si (l : Launch) (g : GG) (M : MM) (k0 : Nat) (k1 : Nat) (Q : MM → Prop) (hk0 : k0 < 3) (hk1 : isI g k1) (hw : wX4_copyRow_si Q M k0 k1) : MV g l yX4_copyRow wsX4_copyRow (rmOf 1 60) [.ref (gS g k0), .ref (gA g k1)] M Q := by
  refine mk_MV (cc := cX4_copyRow) (maxL := 2) (by decide) rfl (Nat.le_of_ble_eq_true rfl) ?_
  intro z Qf hC hR
  show XX z g Qf 2 0 [(0, .ref (gS g k0)), (1, .ref (gA g k1))] [] M
  refine q_aload_n hC dX4_copyRow_0 0 rfl 1 rfl ?_
  refine q_ifnull hC dX4_copyRow_1 4 rfl ?_
  refine q_aload_n hC dX4_copyRow_4 1 rfl 5 rfl ?_
  refine q_ifnull hC dX4_copyRow_5 8 rfl ?_
  refine q_aload_n hC dX4_copyRow_8 0 rfl 9 rfl ?_
  refine q_iconst (v := 0) hC dX4_copyRow_9 rfl 10 rfl ?_
  refine q_aload_n hC dX4_copyRow_10 1 rfl 11 rfl ?_
  refine q_iconst (v := 0) hC dX4_copyRow_11 rfl 12 rfl ?_
  refine q_aload_n hC dX4_copyRow_12 0 rfl 13 rfl ?_
  refine q_tlen hC k0 hk0 dX4_copyRow_13 14 rfl ?_
  refine q_aload_n hC dX4_copyRow_14 1 rfl 15 rfl ?_
  refine q_alen hC hk1 dX4_copyRow_15 16 rfl ?_
  refine q_mmin hC (List.mem_of_getElem? (i := 1) (by decide +kernel)) (List.mem_of_getElem? (i := 2) (by decide +kernel)) (List.mem_of_getElem? (i := 3) (by decide +kernel)) (List.mem_of_getElem? (i := 4) (by decide +kernel)) (by decide) (Nat.le_of_ble_eq_true rfl) dX4_copyRow_16 19 rfl ?_
  obtain ⟨hp1, hp2, hp3, hp4, hp5, hw⟩ := hw
  refine q_copyt hC (List.mem_of_getElem? (i := 5) (by decide +kernel)) (List.mem_of_getElem? (i := 6) (by decide +kernel)) (List.mem_of_getElem? (i := 7) (by decide +kernel)) (List.mem_of_getElem? (i := 8) (by decide +kernel)) hk0 hk1 hp1 hp2 hp3 hp4 hp5 (by decide) (Nat.le_of_ble_eq_true rfl) dX4_copyRow_19 22 rfl (fun M1 eM1 => ?_)
  have hw := hw M1 eM1
  exact r_vret hR dX4_copyRow_22 hw
set_option maxRecDepth 20000 in
theorem inX2_reset_X2 : ∀ w ∈ u_ws RX2 TX2 14, w ∈ wsX2_reset := by decide +kernel
set_option maxRecDepth 100000 in
set_option maxHeartbeats 4000000 in
theorem ctX2_reset (l : Launch) (g : GG) (M : MM) (b : Nat) (Q : MM → Prop) (hb : tpl g b) (hw : wX2_reset Q M b) : MV g l yX2_reset wsX2_reset (rmOf 2 81) [.ref (gA g b)] M Q := by
  refine mk_MV (cc := cX2_reset) (maxL := 1) (by decide) rfl (Nat.le_of_ble_eq_true rfl) ?_
  intro z Qf hC hR
  show XX z g Qf 1 0 [(0, .ref (gA g b))] [] M
  refine q_getsN hC 2 (by decide) 0 rfl dX2_reset_0 3 rfl ?_
  refine q_aload_n hC dX2_reset_3 0 rfl 4 rfl ?_
  refine q_getR (C := RX2) (T := TX2) (N := 14) (ci := 2) hC inX2_reset_X2 hb.ob rfl 0 (by decide) (List.mem_of_getElem? (i := 1) (by decide +kernel)) rfl (b + 1) (fun _ => rfl) dX2_reset_4 7 rfl ?_
  refine r_callV hC (go_N (As := [.ref (gS g 2), .ref (gA g (b + 1))]) (rest := []) hC (ctX4_copyRow_si (zl z) g M 2 (b + 1) _ (by decide) (hb.ar 1 (by decide) (by decide)) hw) 2 gX2_reset_X4_copyRow_n42 rfl ⟨rfl, rfl⟩ 8 rfl (List.mem_of_getElem? (i := 9) (by decide +kernel)) (List.mem_of_getElem? (i := 8) (by decide +kernel)) (by decide +kernel) ⟨Nat.le_of_ble_eq_true rfl, Nat.le_of_ble_eq_true rfl⟩ rfl rfl (Nat.le_of_ble_eq_true rfl) dX2_reset_7) 10 rfl (fun M1 hw => ?_)
  refine q_aload_n hC dX2_reset_10 0 rfl 11 rfl ?_
  refine q_iconst (v := 0) hC dX2_reset_11 rfl 12 rfl ?_
  refine q_putI (C := RX2) (T := TX2) (N := 14) (ci := 2) hC inX2_reset_X2 tyX2 tyX2_ok nmX2 hb.ob rfl 8 (by decide) (List.mem_of_getElem? (i := 2) (by decide +kernel)) rfl rfl rfl (fun _ => Nat.le_of_ble_eq_true rfl) (fun _ => rfl) dX2_reset_12 15 rfl (fun M2 eM2 => ?_)
  have hw := hw M2 eM2
  refine q_aload_n hC dX2_reset_15 0 rfl 16 rfl ?_
  refine q_iconst (v := 0) hC dX2_reset_16 rfl 17 rfl ?_
  refine q_putI (C := RX2) (T := TX2) (N := 14) (ci := 2) hC inX2_reset_X2 tyX2 tyX2_ok nmX2 hb.ob rfl 9 (by decide) (List.mem_of_getElem? (i := 3) (by decide +kernel)) rfl rfl rfl (fun _ => Nat.le_of_ble_eq_true rfl) (fun _ => rfl) dX2_reset_17 20 rfl (fun M3 eM3 => ?_)
  have hw := hw M3 eM3
  refine q_aload_n hC dX2_reset_20 0 rfl 21 rfl ?_
  refine q_iconst (v := 0) hC dX2_reset_21 rfl 22 rfl ?_
  refine q_putI (C := RX2) (T := TX2) (N := 14) (ci := 2) hC inX2_reset_X2 tyX2 tyX2_ok nmX2 hb.ob rfl 10 (by decide) (List.mem_of_getElem? (i := 4) (by decide +kernel)) rfl rfl rfl (fun _ => Nat.le_of_ble_eq_true rfl) (fun _ => rfl) dX2_reset_22 25 rfl (fun M4 eM4 => ?_)
  have hw := hw M4 eM4
  refine q_aload_n hC dX2_reset_25 0 rfl 26 rfl ?_
  refine q_iconst (v := 0) hC dX2_reset_26 rfl 27 rfl ?_
  refine q_putI (C := RX2) (T := TX2) (N := 14) (ci := 2) hC inX2_reset_X2 tyX2 tyX2_ok nmX2 hb.ob rfl 11 (by decide) (List.mem_of_getElem? (i := 5) (by decide +kernel)) rfl rfl rfl (fun _ => Nat.le_of_ble_eq_true rfl) (fun _ => rfl) dX2_reset_27 30 rfl (fun M5 eM5 => ?_)
  have hw := hw M5 eM5
  refine q_aload_n hC dX2_reset_30 0 rfl 31 rfl ?_
  refine q_bipush (v := (-4)) hC dX2_reset_31 (by decide) 33 rfl ?_
  refine q_putI (C := RX2) (T := TX2) (N := 14) (ci := 2) hC inX2_reset_X2 tyX2 tyX2_ok nmX2 hb.ob rfl 12 (by decide) (List.mem_of_getElem? (i := 6) (by decide +kernel)) rfl rfl rfl (fun _ => Nat.le_of_ble_eq_true rfl) (fun _ => rfl) dX2_reset_33 36 rfl (fun M6 eM6 => ?_)
  have hw := hw M6 eM6
  refine q_aload_n hC dX2_reset_36 0 rfl 37 rfl ?_
  refine q_iconst (v := 0) hC dX2_reset_37 rfl 38 rfl ?_
  refine q_putI (C := RX2) (T := TX2) (N := 14) (ci := 2) hC inX2_reset_X2 tyX2 tyX2_ok nmX2 hb.ob rfl 13 (by decide) (List.mem_of_getElem? (i := 7) (by decide +kernel)) rfl rfl rfl (fun _ => Nat.le_of_ble_eq_true rfl) (fun _ => rfl) dX2_reset_38 41 rfl (fun M7 eM7 => ?_)
  have hw := hw M7 eM7
  exact r_vret hR dX2_reset_41 hw
set_option maxRecDepth 20000 in
theorem inX2_becomes_X2 : ∀ w ∈ u_ws RX2 TX2 14, w ∈ wsX2_becomes := by decide +kernel
set_option maxRecDepth 100000 in
set_option maxHeartbeats 4000000 in
theorem ctX2_becomes (l : Launch) (g : GG) (M : MM) (b : Nat) (o1 : Nat) (Q : MM → Prop) (hb : tpl g b) (ho1 : tpl g o1) (hw : wX2_becomes Q M b o1) : MV g l yX2_becomes wsX2_becomes (rmOf 2 81) [.ref (gA g b), .ref (gA g o1)] M Q := by
  refine mk_MV (cc := cX2_becomes) (maxL := 2) (by decide) rfl (Nat.le_of_ble_eq_true rfl) ?_
  intro z Qf hC hR
  show XX z g Qf 2 0 [(0, .ref (gA g b)), (1, .ref (gA g o1))] [] M
  refine q_aload_n hC dX2_becomes_0 1 rfl 1 rfl ?_
  refine q_ifnonnull hC 5 dX2_becomes_1 (by decide) ?_
  refine q_aload_n hC dX2_becomes_5 1 rfl 6 rfl ?_
  refine q_getR (C := RX2) (T := TX2) (N := 14) (ci := 2) hC inX2_becomes_X2 ho1.ob rfl 0 (by decide) (List.mem_of_getElem? (i := 1) (by decide +kernel)) rfl (o1 + 1) (fun _ => rfl) dX2_becomes_6 9 rfl ?_
  refine q_aload_n hC dX2_becomes_9 0 rfl 10 rfl ?_
  refine q_getR (C := RX2) (T := TX2) (N := 14) (ci := 2) hC inX2_becomes_X2 hb.ob rfl 0 (by decide) (List.mem_of_getElem? (i := 1) (by decide +kernel)) rfl (b + 1) (fun _ => rfl) dX2_becomes_10 13 rfl ?_
  refine r_callV hC (go_N (As := [.ref (gA g (o1 + 1)), .ref (gA g (b + 1))]) (rest := []) hC (ctX4_copyRow (zl z) g M (o1 + 1) (b + 1) _ (ho1.ar 1 (by decide) (by decide)) (hb.ar 1 (by decide) (by decide)) hw) 2 gX2_becomes_X4_copyRow_n42 rfl ⟨rfl, rfl⟩ 8 rfl (List.mem_of_getElem? (i := 16) (by decide +kernel)) (List.mem_of_getElem? (i := 15) (by decide +kernel)) (by decide +kernel) ⟨Nat.le_of_ble_eq_true rfl, Nat.le_of_ble_eq_true rfl⟩ rfl rfl (Nat.le_of_ble_eq_true rfl) dX2_becomes_13) 16 rfl (fun M1 hw => ?_)
  refine q_aload_n hC dX2_becomes_16 1 rfl 17 rfl ?_
  refine q_getR (C := RX2) (T := TX2) (N := 14) (ci := 2) hC inX2_becomes_X2 ho1.ob rfl 1 (by decide) (List.mem_of_getElem? (i := 2) (by decide +kernel)) rfl (o1 + 2) (fun _ => rfl) dX2_becomes_17 20 rfl ?_
  refine q_aload_n hC dX2_becomes_20 0 rfl 21 rfl ?_
  refine q_getR (C := RX2) (T := TX2) (N := 14) (ci := 2) hC inX2_becomes_X2 hb.ob rfl 1 (by decide) (List.mem_of_getElem? (i := 2) (by decide +kernel)) rfl (b + 2) (fun _ => rfl) dX2_becomes_21 24 rfl ?_
  refine r_callV hC (go_N (As := [.ref (gA g (o1 + 2)), .ref (gA g (b + 2))]) (rest := []) hC (ctX4_copyRow (zl z) g M1 (o1 + 2) (b + 2) _ (ho1.ar 2 (by decide) (by decide)) (hb.ar 2 (by decide) (by decide)) hw) 2 gX2_becomes_X4_copyRow_n42 rfl ⟨rfl, rfl⟩ 8 rfl (List.mem_of_getElem? (i := 16) (by decide +kernel)) (List.mem_of_getElem? (i := 15) (by decide +kernel)) (by decide +kernel) ⟨Nat.le_of_ble_eq_true rfl, Nat.le_of_ble_eq_true rfl⟩ rfl rfl (Nat.le_of_ble_eq_true rfl) dX2_becomes_24) 27 rfl (fun M2 hw => ?_)
  refine q_aload_n hC dX2_becomes_27 1 rfl 28 rfl ?_
  refine q_getR (C := RX2) (T := TX2) (N := 14) (ci := 2) hC inX2_becomes_X2 ho1.ob rfl 2 (by decide) (List.mem_of_getElem? (i := 3) (by decide +kernel)) rfl (o1 + 3) (fun _ => rfl) dX2_becomes_28 31 rfl ?_
  refine q_aload_n hC dX2_becomes_31 0 rfl 32 rfl ?_
  refine q_getR (C := RX2) (T := TX2) (N := 14) (ci := 2) hC inX2_becomes_X2 hb.ob rfl 2 (by decide) (List.mem_of_getElem? (i := 3) (by decide +kernel)) rfl (b + 3) (fun _ => rfl) dX2_becomes_32 35 rfl ?_
  refine r_callV hC (go_N (As := [.ref (gA g (o1 + 3)), .ref (gA g (b + 3))]) (rest := []) hC (ctX4_copyRow (zl z) g M2 (o1 + 3) (b + 3) _ (ho1.ar 3 (by decide) (by decide)) (hb.ar 3 (by decide) (by decide)) hw) 2 gX2_becomes_X4_copyRow_n42 rfl ⟨rfl, rfl⟩ 8 rfl (List.mem_of_getElem? (i := 16) (by decide +kernel)) (List.mem_of_getElem? (i := 15) (by decide +kernel)) (by decide +kernel) ⟨Nat.le_of_ble_eq_true rfl, Nat.le_of_ble_eq_true rfl⟩ rfl rfl (Nat.le_of_ble_eq_true rfl) dX2_becomes_35) 38 rfl (fun M3 hw => ?_)
  refine q_aload_n hC dX2_becomes_38 1 rfl 39 rfl ?_
  refine q_getR (C := RX2) (T := TX2) (N := 14) (ci := 2) hC inX2_becomes_X2 ho1.ob rfl 3 (by decide) (List.mem_of_getElem? (i := 4) (by decide +kernel)) rfl (o1 + 4) (fun _ => rfl) dX2_becomes_39 42 rfl ?_
  refine q_aload_n hC dX2_becomes_42 0 rfl 43 rfl ?_
  refine q_getR (C := RX2) (T := TX2) (N := 14) (ci := 2) hC inX2_becomes_X2 hb.ob rfl 3 (by decide) (List.mem_of_getElem? (i := 4) (by decide +kernel)) rfl (b + 4) (fun _ => rfl) dX2_becomes_43 46 rfl ?_
  refine r_callV hC (go_N (As := [.ref (gA g (o1 + 4)), .ref (gA g (b + 4))]) (rest := []) hC (ctX4_copyRow (zl z) g M3 (o1 + 4) (b + 4) _ (ho1.ar 4 (by decide) (by decide)) (hb.ar 4 (by decide) (by decide)) hw) 2 gX2_becomes_X4_copyRow_n42 rfl ⟨rfl, rfl⟩ 8 rfl (List.mem_of_getElem? (i := 16) (by decide +kernel)) (List.mem_of_getElem? (i := 15) (by decide +kernel)) (by decide +kernel) ⟨Nat.le_of_ble_eq_true rfl, Nat.le_of_ble_eq_true rfl⟩ rfl rfl (Nat.le_of_ble_eq_true rfl) dX2_becomes_46) 49 rfl (fun M4 hw => ?_)
  refine q_aload_n hC dX2_becomes_49 1 rfl 50 rfl ?_
  refine q_getR (C := RX2) (T := TX2) (N := 14) (ci := 2) hC inX2_becomes_X2 ho1.ob rfl 4 (by decide) (List.mem_of_getElem? (i := 5) (by decide +kernel)) rfl (o1 + 5) (fun _ => rfl) dX2_becomes_50 53 rfl ?_
  refine q_aload_n hC dX2_becomes_53 0 rfl 54 rfl ?_
  refine q_getR (C := RX2) (T := TX2) (N := 14) (ci := 2) hC inX2_becomes_X2 hb.ob rfl 4 (by decide) (List.mem_of_getElem? (i := 5) (by decide +kernel)) rfl (b + 5) (fun _ => rfl) dX2_becomes_54 57 rfl ?_
  refine r_callV hC (go_N (As := [.ref (gA g (o1 + 5)), .ref (gA g (b + 5))]) (rest := []) hC (ctX4_copyRow (zl z) g M4 (o1 + 5) (b + 5) _ (ho1.ar 5 (by decide) (by decide)) (hb.ar 5 (by decide) (by decide)) hw) 2 gX2_becomes_X4_copyRow_n42 rfl ⟨rfl, rfl⟩ 8 rfl (List.mem_of_getElem? (i := 16) (by decide +kernel)) (List.mem_of_getElem? (i := 15) (by decide +kernel)) (by decide +kernel) ⟨Nat.le_of_ble_eq_true rfl, Nat.le_of_ble_eq_true rfl⟩ rfl rfl (Nat.le_of_ble_eq_true rfl) dX2_becomes_57) 60 rfl (fun M5 hw => ?_)
  refine q_aload_n hC dX2_becomes_60 1 rfl 61 rfl ?_
  refine q_getR (C := RX2) (T := TX2) (N := 14) (ci := 2) hC inX2_becomes_X2 ho1.ob rfl 5 (by decide) (List.mem_of_getElem? (i := 6) (by decide +kernel)) rfl (o1 + 6) (fun _ => rfl) dX2_becomes_61 64 rfl ?_
  refine q_aload_n hC dX2_becomes_64 0 rfl 65 rfl ?_
  refine q_getR (C := RX2) (T := TX2) (N := 14) (ci := 2) hC inX2_becomes_X2 hb.ob rfl 5 (by decide) (List.mem_of_getElem? (i := 6) (by decide +kernel)) rfl (b + 6) (fun _ => rfl) dX2_becomes_65 68 rfl ?_
  refine r_callV hC (go_N (As := [.ref (gA g (o1 + 6)), .ref (gA g (b + 6))]) (rest := []) hC (ctX4_copyRow (zl z) g M5 (o1 + 6) (b + 6) _ (ho1.ar 6 (by decide) (by decide)) (hb.ar 6 (by decide) (by decide)) hw) 2 gX2_becomes_X4_copyRow_n42 rfl ⟨rfl, rfl⟩ 8 rfl (List.mem_of_getElem? (i := 16) (by decide +kernel)) (List.mem_of_getElem? (i := 15) (by decide +kernel)) (by decide +kernel) ⟨Nat.le_of_ble_eq_true rfl, Nat.le_of_ble_eq_true rfl⟩ rfl rfl (Nat.le_of_ble_eq_true rfl) dX2_becomes_68) 71 rfl (fun M6 hw => ?_)
  refine q_aload_n hC dX2_becomes_71 1 rfl 72 rfl ?_
  refine q_getR (C := RX2) (T := TX2) (N := 14) (ci := 2) hC inX2_becomes_X2 ho1.ob rfl 6 (by decide) (List.mem_of_getElem? (i := 7) (by decide +kernel)) rfl (o1 + 7) (fun _ => rfl) dX2_becomes_72 75 rfl ?_
  refine q_aload_n hC dX2_becomes_75 0 rfl 76 rfl ?_
  refine q_getR (C := RX2) (T := TX2) (N := 14) (ci := 2) hC inX2_becomes_X2 hb.ob rfl 6 (by decide) (List.mem_of_getElem? (i := 7) (by decide +kernel)) rfl (b + 7) (fun _ => rfl) dX2_becomes_76 79 rfl ?_
  refine r_callV hC (go_N (As := [.ref (gA g (o1 + 7)), .ref (gA g (b + 7))]) (rest := []) hC (ctX4_copyRow (zl z) g M6 (o1 + 7) (b + 7) _ (ho1.ar 7 (by decide) (by decide)) (hb.ar 7 (by decide) (by decide)) hw) 2 gX2_becomes_X4_copyRow_n42 rfl ⟨rfl, rfl⟩ 8 rfl (List.mem_of_getElem? (i := 16) (by decide +kernel)) (List.mem_of_getElem? (i := 15) (by decide +kernel)) (by decide +kernel) ⟨Nat.le_of_ble_eq_true rfl, Nat.le_of_ble_eq_true rfl⟩ rfl rfl (Nat.le_of_ble_eq_true rfl) dX2_becomes_79) 82 rfl (fun M7 hw => ?_)
  refine q_aload_n hC dX2_becomes_82 1 rfl 83 rfl ?_
  refine q_getR (C := RX2) (T := TX2) (N := 14) (ci := 2) hC inX2_becomes_X2 ho1.ob rfl 7 (by decide) (List.mem_of_getElem? (i := 8) (by decide +kernel)) rfl (o1 + 8) (fun _ => rfl) dX2_becomes_83 86 rfl ?_
  refine q_aload_n hC dX2_becomes_86 0 rfl 87 rfl ?_
  refine q_getR (C := RX2) (T := TX2) (N := 14) (ci := 2) hC inX2_becomes_X2 hb.ob rfl 7 (by decide) (List.mem_of_getElem? (i := 8) (by decide +kernel)) rfl (b + 8) (fun _ => rfl) dX2_becomes_87 90 rfl ?_
  refine r_callV hC (go_N (As := [.ref (gA g (o1 + 8)), .ref (gA g (b + 8))]) (rest := []) hC (ctX4_copyRow (zl z) g M7 (o1 + 8) (b + 8) _ (ho1.ar 8 (by decide) (by decide)) (hb.ar 8 (by decide) (by decide)) hw) 2 gX2_becomes_X4_copyRow_n42 rfl ⟨rfl, rfl⟩ 8 rfl (List.mem_of_getElem? (i := 16) (by decide +kernel)) (List.mem_of_getElem? (i := 15) (by decide +kernel)) (by decide +kernel) ⟨Nat.le_of_ble_eq_true rfl, Nat.le_of_ble_eq_true rfl⟩ rfl rfl (Nat.le_of_ble_eq_true rfl) dX2_becomes_90) 93 rfl (fun M8 hw => ?_)
  refine q_aload_n hC dX2_becomes_93 0 rfl 94 rfl ?_
  refine q_aload_n hC dX2_becomes_94 1 rfl 95 rfl ?_
  refine q_getI (C := RX2) (T := TX2) (N := 14) (ci := 2) hC inX2_becomes_X2 ho1.ob rfl 8 (by decide) (List.mem_of_getElem? (i := 9) (by decide +kernel)) rfl (fun _ => rfl) dX2_becomes_95 98 rfl ?_
  refine q_putI (C := RX2) (T := TX2) (N := 14) (ci := 2) hC inX2_becomes_X2 tyX2 tyX2_ok nmX2 hb.ob rfl 8 (by decide) (List.mem_of_getElem? (i := 9) (by decide +kernel)) rfl rfl rfl (fun _ => Nat.le_of_ble_eq_true rfl) (fun _ => rfl) dX2_becomes_98 101 rfl (fun M9 eM9 => ?_)
  have hw := hw M9 eM9
  refine q_aload_n hC dX2_becomes_101 0 rfl 102 rfl ?_
  refine q_aload_n hC dX2_becomes_102 1 rfl 103 rfl ?_
  refine q_getI (C := RX2) (T := TX2) (N := 14) (ci := 2) hC inX2_becomes_X2 ho1.ob rfl 9 (by decide) (List.mem_of_getElem? (i := 10) (by decide +kernel)) rfl (fun _ => rfl) dX2_becomes_103 106 rfl ?_
  refine q_putI (C := RX2) (T := TX2) (N := 14) (ci := 2) hC inX2_becomes_X2 tyX2 tyX2_ok nmX2 hb.ob rfl 9 (by decide) (List.mem_of_getElem? (i := 10) (by decide +kernel)) rfl rfl rfl (fun _ => Nat.le_of_ble_eq_true rfl) (fun _ => rfl) dX2_becomes_106 109 rfl (fun M10 eM10 => ?_)
  have hw := hw M10 eM10
  refine q_aload_n hC dX2_becomes_109 0 rfl 110 rfl ?_
  refine q_aload_n hC dX2_becomes_110 1 rfl 111 rfl ?_
  refine q_getI (C := RX2) (T := TX2) (N := 14) (ci := 2) hC inX2_becomes_X2 ho1.ob rfl 10 (by decide) (List.mem_of_getElem? (i := 11) (by decide +kernel)) rfl (fun _ => rfl) dX2_becomes_111 114 rfl ?_
  refine q_putI (C := RX2) (T := TX2) (N := 14) (ci := 2) hC inX2_becomes_X2 tyX2 tyX2_ok nmX2 hb.ob rfl 10 (by decide) (List.mem_of_getElem? (i := 11) (by decide +kernel)) rfl rfl rfl (fun _ => Nat.le_of_ble_eq_true rfl) (fun _ => rfl) dX2_becomes_114 117 rfl (fun M11 eM11 => ?_)
  have hw := hw M11 eM11
  refine q_aload_n hC dX2_becomes_117 0 rfl 118 rfl ?_
  refine q_aload_n hC dX2_becomes_118 1 rfl 119 rfl ?_
  refine q_getI (C := RX2) (T := TX2) (N := 14) (ci := 2) hC inX2_becomes_X2 ho1.ob rfl 11 (by decide) (List.mem_of_getElem? (i := 12) (by decide +kernel)) rfl (fun _ => rfl) dX2_becomes_119 122 rfl ?_
  refine q_putI (C := RX2) (T := TX2) (N := 14) (ci := 2) hC inX2_becomes_X2 tyX2 tyX2_ok nmX2 hb.ob rfl 11 (by decide) (List.mem_of_getElem? (i := 12) (by decide +kernel)) rfl rfl rfl (fun _ => Nat.le_of_ble_eq_true rfl) (fun _ => rfl) dX2_becomes_122 125 rfl (fun M12 eM12 => ?_)
  have hw := hw M12 eM12
  refine q_aload_n hC dX2_becomes_125 0 rfl 126 rfl ?_
  refine q_aload_n hC dX2_becomes_126 1 rfl 127 rfl ?_
  refine q_getI (C := RX2) (T := TX2) (N := 14) (ci := 2) hC inX2_becomes_X2 ho1.ob rfl 12 (by decide) (List.mem_of_getElem? (i := 13) (by decide +kernel)) rfl (fun _ => rfl) dX2_becomes_127 130 rfl ?_
  refine q_putI (C := RX2) (T := TX2) (N := 14) (ci := 2) hC inX2_becomes_X2 tyX2 tyX2_ok nmX2 hb.ob rfl 12 (by decide) (List.mem_of_getElem? (i := 13) (by decide +kernel)) rfl rfl rfl (fun _ => Nat.le_of_ble_eq_true rfl) (fun _ => rfl) dX2_becomes_130 133 rfl (fun M13 eM13 => ?_)
  have hw := hw M13 eM13
  refine q_aload_n hC dX2_becomes_133 0 rfl 134 rfl ?_
  refine q_aload_n hC dX2_becomes_134 1 rfl 135 rfl ?_
  refine q_getI (C := RX2) (T := TX2) (N := 14) (ci := 2) hC inX2_becomes_X2 ho1.ob rfl 13 (by decide) (List.mem_of_getElem? (i := 14) (by decide +kernel)) rfl (fun _ => rfl) dX2_becomes_135 138 rfl ?_
  refine q_putI (C := RX2) (T := TX2) (N := 14) (ci := 2) hC inX2_becomes_X2 tyX2 tyX2_ok nmX2 hb.ob rfl 13 (by decide) (List.mem_of_getElem? (i := 14) (by decide +kernel)) rfl rfl rfl (fun _ => Nat.le_of_ble_eq_true rfl) (fun _ => rfl) dX2_becomes_138 141 rfl (fun M14 eM14 => ?_)
  have hw := hw M14 eM14
  exact r_vret hR dX2_becomes_141 hw
set_option maxRecDepth 20000 in
theorem inX2_ruled_X2 : ∀ w ∈ u_ws RX2 TX2 14, w ∈ wsX2_ruled := by decide +kernel
set_option maxRecDepth 100000 in
set_option maxHeartbeats 4000000 in
theorem ctX2_ruled (l : Launch) (g : GG) (M : MM) (b : Nat) (v1 : Int32) (Q : Int32 → MM → Prop) (hb : tpl g b) (hw : wX2_ruled Q M b v1) : MI g l yX2_ruled wsX2_ruled (rmOf 0 0) [.ref (gA g b), .int v1] M Q := by
  refine mk_MI (cc := cX2_ruled) (maxL := 2) (by decide) rfl (Nat.le_of_ble_eq_true rfl) ?_
  intro z Qf hC hR
  show XX z g Qf 2 0 [(0, .ref (gA g b)), (1, .int v1)] [] M
  have B22 : ∀ (M : MM), wX2_ruled_22 Q b v1 M → XX z g Qf 2 22 [] [] M := by
    intro M hw
    refine q_iconst (v := 0) hC dX2_ruled_22 rfl 23 rfl ?_
    exact r_iret hR dX2_ruled_23 hw
  refine q_iload_n hC dX2_ruled_0 1 rfl 1 rfl ?_
  refine q_if_lt hC 22 dX2_ruled_1 (by decide) 4 rfl hw (fun hw => ?_) (fun hw => ?_)
  · exact XX.sub [] rfl (B22 M hw)
  · refine q_iload_n hC dX2_ruled_4 1 rfl 5 rfl ?_
    refine q_aload_n hC dX2_ruled_5 0 rfl 6 rfl ?_
    refine q_getR (C := RX2) (T := TX2) (N := 14) (ci := 2) hC inX2_ruled_X2 hb.ob rfl 0 (by decide) (List.mem_of_getElem? (i := 1) (by decide +kernel)) rfl (b + 1) (fun _ => rfl) dX2_ruled_6 9 rfl ?_
    refine q_alen hC (hb.ar 1 (by decide) (by decide)) dX2_ruled_9 10 rfl ?_
    refine q_icmp_ge hC 22 dX2_ruled_10 (by decide) 13 rfl hw (fun hw => ?_) (fun hw => ?_)
    · exact XX.sub [] rfl (B22 M hw)
    · refine q_aload_n hC dX2_ruled_13 0 rfl 14 rfl ?_
      refine q_getR (C := RX2) (T := TX2) (N := 14) (ci := 2) hC inX2_ruled_X2 hb.ob rfl 0 (by decide) (List.mem_of_getElem? (i := 1) (by decide +kernel)) rfl (b + 1) (fun _ => rfl) dX2_ruled_14 17 rfl ?_
      refine q_iload_n hC dX2_ruled_17 1 rfl 18 rfl ?_
      obtain ⟨hin, hw⟩ := hw
      refine q_iald hC (hb.ar 1 (by decide) (by decide)) hin dX2_ruled_18 19 rfl ?_
      refine q_goto hC 23 dX2_ruled_19 (by decide) ?_
      exact r_iret hR dX2_ruled_23 hw
set_option maxRecDepth 100000 in
set_option maxHeartbeats 4000000 in
theorem ctX4_isBetween (l : Launch) (g : GG) (M : MM) (v0 : Int32) (v1 : Int32) (v2 : Int32) (Q : Int32 → MM → Prop)  (hw : wX4_isBetween Q M v0 v1 v2) : MI g l yX4_isBetween wsX4_isBetween (rmOf 0 0) [.int v0, .int v1, .int v2] M Q := by
  refine mk_MZ (cc := cX4_isBetween) (maxL := 3) (by decide) rfl (Nat.le_of_ble_eq_true rfl) ?_
  intro z Qf hC hR
  show XX z g Qf 3 0 [(0, .int v0), (1, .int v1), (2, .int v2)] [] M
  have B14 : ∀ (M : MM), wX4_isBetween_14 Q v0 v1 v2 M → XX z g Qf 3 14 [] [] M := by
    intro M hw
    refine q_iconst (v := 0) hC dX4_isBetween_14 rfl 15 rfl ?_
    exact r_iret hR dX4_isBetween_15 ⟨nb_0, hw⟩
  refine q_iload_n hC dX4_isBetween_0 0 rfl 1 rfl ?_
  refine q_iload_n hC dX4_isBetween_1 1 rfl 2 rfl ?_
  refine q_icmp_lt hC 14 dX4_isBetween_2 (by decide) 5 rfl hw (fun hw => ?_) (fun hw => ?_)
  · exact XX.sub [] rfl (B14 M hw)
  · refine q_iload_n hC dX4_isBetween_5 0 rfl 6 rfl ?_
    refine q_iload_n hC dX4_isBetween_6 2 rfl 7 rfl ?_
    refine q_icmp_gt hC 14 dX4_isBetween_7 (by decide) 10 rfl hw (fun hw => ?_) (fun hw => ?_)
    · exact XX.sub [] rfl (B14 M hw)
    · refine q_iconst (v := 1) hC dX4_isBetween_10 rfl 11 rfl ?_
      refine q_goto hC 15 dX4_isBetween_11 (by decide) ?_
      exact r_iret hR dX4_isBetween_15 ⟨nb_1, hw⟩
set_option maxRecDepth 100000 in
set_option maxHeartbeats 4000000 in
theorem ctX2_hasPlace (l : Launch) (g : GG) (M : MM) (b : Nat) (v1 : Int32) (Q : Int32 → MM → Prop) (hb : tpl g b) (hw : wX2_hasPlace Q M b v1) : MI g l yX2_hasPlace wsX2_hasPlace (rmOf 1 22) [.ref (gA g b), .int v1] M Q := by
  refine mk_MZ (cc := cX2_hasPlace) (maxL := 2) (by decide) rfl (Nat.le_of_ble_eq_true rfl) ?_
  intro z Qf hC hR
  show XX z g Qf 2 0 [(0, .ref (gA g b)), (1, .int v1)] [] M
  refine q_iload_n hC dX2_hasPlace_0 1 rfl 1 rfl ?_
  refine q_iconst (v := 0) hC dX2_hasPlace_1 rfl 2 rfl ?_
  refine q_aload_n hC dX2_hasPlace_2 0 rfl 3 rfl ?_
  refine q_iconst (v := 0) hC dX2_hasPlace_3 rfl 4 rfl ?_
  refine r_callI hC (go_V (q := (RX2, TX2, 14)) (As := [.int 0]) (rest := [.int 0, .int v1]) hC (ctX2_ruled (zl z) g M b 0 _ hb hw) 1 gX2_hasPlace_X2_ruled rfl ⟨rfl, rfl⟩ (by decide +kernel) ⟨Nat.le_of_ble_eq_true rfl, Nat.le_of_ble_eq_true rfl⟩ hb.ob rfl rfl rfl (Nat.le_of_ble_eq_true rfl) dX2_hasPlace_4) 7 rfl (fun r1 M2 hw => ?_)
  refine r_callI hC (go_N (As := [.int v1, .int 0, .int r1]) (rest := []) hC (ctX4_isBetween (zl z) g M2 v1 0 r1 _ hw) 3 gX2_hasPlace_X4_isBetween_n69 rfl ⟨rfl, rfl⟩ 9 rfl (List.mem_of_getElem? (i := 8) (by decide +kernel)) (List.mem_of_getElem? (i := 7) (by decide +kernel)) (by decide +kernel) ⟨Nat.le_of_ble_eq_true rfl, Nat.le_of_ble_eq_true rfl⟩ rfl rfl (Nat.le_of_ble_eq_true rfl) dX2_hasPlace_7) 10 rfl (fun r3 M4 hw => ?_)
  exact r_iret hR dX2_hasPlace_10 hw
set_option maxRecDepth 100000 in
set_option maxHeartbeats 4000000 in
theorem ctX4_lengthOfTurns (l : Launch) (g : GG) (M : MM) (v0 : Int32) (v1 : Int32) (v2 : Int32) (Q : Int32 → MM → Prop)  (hw : wX4_lengthOfTurns Q M v0 v1 v2) : MI g l yX4_lengthOfTurns wsX4_lengthOfTurns (rmOf 0 0) [.int v0, .int v1, .int v2] M Q := by
  refine mk_MI (cc := cX4_lengthOfTurns) (maxL := 3) (by decide) rfl (Nat.le_of_ble_eq_true rfl) ?_
  intro z Qf hC hR
  show XX z g Qf 3 0 [(0, .int v0), (1, .int v1), (2, .int v2)] [] M
  refine q_iload_n hC dX4_lengthOfTurns_0 0 rfl 1 rfl ?_
  refine q_iload_n hC dX4_lengthOfTurns_1 1 rfl 2 rfl ?_
  refine q_imul hC dX4_lengthOfTurns_2 3 rfl ?_
  refine q_iload_n hC dX4_lengthOfTurns_3 2 rfl 4 rfl ?_
  refine q_iload_n hC dX4_lengthOfTurns_4 0 rfl 5 rfl ?_
  refine q_iload_n hC dX4_lengthOfTurns_5 0 rfl 6 rfl ?_
  refine q_iconst (v := 1) hC dX4_lengthOfTurns_6 rfl 7 rfl ?_
  refine q_isub hC dX4_lengthOfTurns_7 8 rfl ?_
  refine q_imul hC dX4_lengthOfTurns_8 9 rfl ?_
  refine q_iconst (v := 2) hC dX4_lengthOfTurns_9 rfl 10 rfl ?_
  refine q_idiv hC dX4_lengthOfTurns_10 (by decide) 11 rfl ?_
  refine q_imul hC dX4_lengthOfTurns_11 12 rfl ?_
  refine q_iadd hC dX4_lengthOfTurns_12 13 rfl ?_
  exact r_iret hR dX4_lengthOfTurns_13 hw
set_option maxRecDepth 100000 in
set_option maxHeartbeats 4000000 in
theorem ctX2_turnsOf (l : Launch) (g : GG) (M : MM) (b : Nat) (v1 : Int32) (Q : Int32 → MM → Prop) (hb : tpl g b) (hw : wX2_turnsOf Q M b v1) : MI g l yX2_turnsOf wsX2_turnsOf (rmOf 1 22) [.ref (gA g b), .int v1] M Q := by
  refine mk_MI (cc := cX2_turnsOf) (maxL := 6) (by decide) rfl (Nat.le_of_ble_eq_true rfl) ?_
  intro z Qf hC hR
  show XX z g Qf 6 0 [(0, .ref (gA g b)), (1, .int v1)] [] M
  have B46 : ∀ (K20 : MM → Int32 → Int32 → Int32 → Int32 → Prop) (hK20 : ∀ (M : MM) (v2 : Int32) (v3 : Int32) (v4 : Int32) (v5 : Int32) , K20 M v2 v3 v4 v5 → XX z g Qf 6 20 [(1, .int v1), (2, .int v2), (3, .int v3), (4, .int v4), (5, .int v5)] [] M) (M : MM) (v2 : Int32) (v3 : Int32) (v4 : Int32) (v5 : Int32), wX2_turnsOf_46 Q K20 b v1 M v2 v3 v4 v5 → XX z g Qf 6 46 [(1, .int v1), (2, .int v2), (3, .int v3), (4, .int v4), (5, .int v5)] [] M := by
    intro K20 hK20 M v2 v3 v4 v5 hw
    refine q_iload hC dX2_turnsOf_46 4 rfl 48 rfl ?_
    refine q_iconst (v := 2) hC dX2_turnsOf_48 rfl 49 rfl ?_
    refine q_idiv hC dX2_turnsOf_49 (by decide) 50 rfl ?_
    refine q_istore (L' := [(5, .int (v5 / 2)), (1, .int v1), (2, .int v2), (3, .int v3), (4, .int v4)]) hC dX2_turnsOf_50 (by decide) rfl 52 rfl ?_
    refine q_goto hC 20 dX2_turnsOf_52 (by decide) ?_
    exact XX.sub [1, 2, 3, 4, 0] rfl (hK20 M v2 v3 v4 (v5 / 2) hw)
  have B20 : ∀ (n : Nat) (M : MM) (v2 : Int32) (v3 : Int32) (v4 : Int32) (v5 : Int32) , wX2_turnsOf_20 Q b v1 n M v2 v3 v4 v5 → XX z g Qf 6 20 [(1, .int v1), (2, .int v2), (3, .int v3), (4, .int v4), (5, .int v5)] [] M := by
    intro n
    induction n with
    | zero =>
      intro M v2 v3 v4 v5 hw
      exact hw.elim
    | succ n ih =>
      intro M v2 v3 v4 v5 hw
      refine q_iload hC dX2_turnsOf_20 4 rfl 22 rfl ?_
      refine q_if_le hC 55 dX2_turnsOf_22 (by decide) 25 rfl hw (fun hw => ?_) (fun hw => ?_)
      · refine q_iload hC dX2_turnsOf_55 3 rfl 57 rfl ?_
        exact r_iret hR dX2_turnsOf_57 hw
      · refine q_iload hC dX2_turnsOf_25 3 rfl 27 rfl ?_
        refine q_iload hC dX2_turnsOf_27 4 rfl 29 rfl ?_
        refine q_iadd hC dX2_turnsOf_29 30 rfl ?_
        refine q_iload_n hC dX2_turnsOf_30 1 rfl 31 rfl ?_
        refine q_iload_n hC dX2_turnsOf_31 2 rfl 32 rfl ?_
        refine r_callI hC (go_N (As := [.int (v4 + v5), .int v2, .int v3]) (rest := []) hC (ctX4_lengthOfTurns (zl z) g M (v4 + v5) v2 v3 _ hw) 3 gX2_turnsOf_X4_lengthOfTurns_n73 rfl ⟨rfl, rfl⟩ 10 rfl (List.mem_of_getElem? (i := 8) (by decide +kernel)) (List.mem_of_getElem? (i := 7) (by decide +kernel)) (by decide +kernel) ⟨Nat.le_of_ble_eq_true rfl, Nat.le_of_ble_eq_true rfl⟩ rfl rfl (Nat.le_of_ble_eq_true rfl) dX2_turnsOf_32) 35 rfl (fun r5 M6 hw => ?_)
        refine q_iload_n hC dX2_turnsOf_35 0 rfl 36 rfl ?_
        refine q_icmp_gt hC 46 dX2_turnsOf_36 (by decide) 39 rfl hw (fun hw => ?_) (fun hw => ?_)
        · exact XX.sub [0, 1, 2, 3, 4] rfl (B46 _ (fun M v2 v3 v4 v5 hw => ih M v2 v3 v4 v5 hw) M6 v2 v3 v4 v5 hw)
        · refine q_iload hC dX2_turnsOf_39 3 rfl 41 rfl ?_
          refine q_iload hC dX2_turnsOf_41 4 rfl 43 rfl ?_
          refine q_iadd hC dX2_turnsOf_43 44 rfl ?_
          refine q_istore (L' := [(4, .int (v4 + v5)), (1, .int v1), (2, .int v2), (3, .int v3), (5, .int v5)]) hC dX2_turnsOf_44 (by decide) rfl 46 rfl ?_
          exact XX.sub [1, 2, 3, 0, 4] rfl (B46 _ (fun M v2 v3 v4 v5 hw => ih M v2 v3 v4 v5 hw) M6 v2 v3 (v4 + v5) v5 hw)
  refine q_aload_n hC dX2_turnsOf_0 0 rfl 1 rfl ?_
  refine q_iconst (v := 1) hC dX2_turnsOf_1 rfl 2 rfl ?_
  refine r_callI hC (go_V (q := (RX2, TX2, 14)) (As := [.int 1]) (rest := []) hC (ctX2_ruled (zl z) g M b 1 _ hb hw) 1 gX2_turnsOf_X2_ruled rfl ⟨rfl, rfl⟩ (by decide +kernel) ⟨Nat.le_of_ble_eq_true rfl, Nat.le_of_ble_eq_true rfl⟩ hb.ob rfl rfl rfl (Nat.le_of_ble_eq_true rfl) dX2_turnsOf_2) 5 rfl (fun r1 M2 hw => ?_)
  refine q_istore_n (L' := [(2, .int r1), (0, .ref (gA g b)), (1, .int v1)]) hC dX2_turnsOf_5 (by decide) rfl 6 rfl ?_
  refine q_aload_n hC dX2_turnsOf_6 1 rfl 7 rfl ?_
  refine q_iconst (v := 2) hC dX2_turnsOf_7 rfl 8 rfl ?_
  refine r_callI hC (go_V (q := (RX2, TX2, 14)) (As := [.int 2]) (rest := []) hC (ctX2_ruled (zl z) g M2 b 2 _ hb hw) 1 gX2_turnsOf_X2_ruled rfl ⟨rfl, rfl⟩ (by decide +kernel) ⟨Nat.le_of_ble_eq_true rfl, Nat.le_of_ble_eq_true rfl⟩ hb.ob rfl rfl rfl (Nat.le_of_ble_eq_true rfl) dX2_turnsOf_8) 11 rfl (fun r3 M4 hw => ?_)
  refine q_istore_n (L' := [(3, .int r3), (2, .int r1), (0, .ref (gA g b)), (1, .int v1)]) hC dX2_turnsOf_11 (by decide) rfl 12 rfl ?_
  refine q_iconst (v := 0) hC dX2_turnsOf_12 rfl 13 rfl ?_
  refine q_istore (L' := [(4, .int 0), (3, .int r3), (2, .int r1), (0, .ref (gA g b)), (1, .int v1)]) hC dX2_turnsOf_13 (by decide) rfl 15 rfl ?_
  refine q_sipush (v := 1024) hC dX2_turnsOf_15 (by decide) 18 rfl ?_
  refine q_istore (L' := [(5, .int 1024), (4, .int 0), (3, .int r3), (2, .int r1), (0, .ref (gA g b)), (1, .int v1)]) hC dX2_turnsOf_18 (by decide) rfl 20 rfl ?_
  obtain ⟨n0, hw⟩ := hw
  exact XX.sub [5, 3, 2, 1, 0] rfl (B20 n0 M4 r1 r3 0 1024 hw)
set_option maxRecDepth 100000 in
set_option maxHeartbeats 4000000 in
theorem ctX2_rightTurns (l : Launch) (g : GG) (M : MM) (b : Nat) (v1 : Int32) (Q : Int32 → MM → Prop) (hb : tpl g b) (hw : wX2_rightTurns Q M b v1) : MI g l yX2_rightTurns wsX2_rightTurns (rmOf 2 47) [.ref (gA g b), .int v1] M Q := by
  refine mk_MI (cc := cX2_rightTurns) (maxL := 2) (by decide) rfl (Nat.le_of_ble_eq_true rfl) ?_
  intro z Qf hC hR
  show XX z g Qf 2 0 [(0, .ref (gA g b)), (1, .int v1)] [] M
  refine q_aload_n hC dX2_rightTurns_0 0 rfl 1 rfl ?_
  refine q_iload_n hC dX2_rightTurns_1 1 rfl 2 rfl ?_
  refine r_callI hC (go_V (q := (RX2, TX2, 14)) (As := [.int v1]) (rest := []) hC (ctX2_turnsOf (zl z) g M b v1 _ hb hw) 1 gX2_rightTurns_X2_turnsOf rfl ⟨rfl, rfl⟩ (by decide +kernel) ⟨Nat.le_of_ble_eq_true rfl, Nat.le_of_ble_eq_true rfl⟩ hb.ob rfl rfl rfl (Nat.le_of_ble_eq_true rfl) dX2_rightTurns_2) 5 rfl (fun r1 M2 hw => ?_)
  exact r_iret hR dX2_rightTurns_5 hw
set_option maxRecDepth 100000 in
set_option maxHeartbeats 4000000 in
theorem ctX2_leftTurns (l : Launch) (g : GG) (M : MM) (b : Nat) (v1 : Int32) (Q : Int32 → MM → Prop) (hb : tpl g b) (hw : wX2_leftTurns Q M b v1) : MI g l yX2_leftTurns wsX2_leftTurns (rmOf 2 47) [.ref (gA g b), .int v1] M Q := by
  refine mk_MI (cc := cX2_leftTurns) (maxL := 2) (by decide) rfl (Nat.le_of_ble_eq_true rfl) ?_
  intro z Qf hC hR
  show XX z g Qf 2 0 [(0, .ref (gA g b)), (1, .int v1)] [] M
  refine q_aload_n hC dX2_leftTurns_0 0 rfl 1 rfl ?_
  refine q_aload_n hC dX2_leftTurns_1 0 rfl 2 rfl ?_
  refine q_iconst (v := 0) hC dX2_leftTurns_2 rfl 3 rfl ?_
  refine r_callI hC (go_V (q := (RX2, TX2, 14)) (As := [.int 0]) (rest := [.ref (gA g b)]) hC (ctX2_ruled (zl z) g M b 0 _ hb hw) 1 gX2_leftTurns_X2_ruled rfl ⟨rfl, rfl⟩ (by decide +kernel) ⟨Nat.le_of_ble_eq_true rfl, Nat.le_of_ble_eq_true rfl⟩ hb.ob rfl rfl rfl (Nat.le_of_ble_eq_true rfl) dX2_leftTurns_3) 6 rfl (fun r1 M2 hw => ?_)
  refine q_iload_n hC dX2_leftTurns_6 1 rfl 7 rfl ?_
  refine q_isub hC dX2_leftTurns_7 8 rfl ?_
  refine r_callI hC (go_V (q := (RX2, TX2, 14)) (As := [.int (r1 - v1)]) (rest := []) hC (ctX2_turnsOf (zl z) g M2 b (r1 - v1) _ hb hw) 1 gX2_leftTurns_X2_turnsOf rfl ⟨rfl, rfl⟩ (by decide +kernel) ⟨Nat.le_of_ble_eq_true rfl, Nat.le_of_ble_eq_true rfl⟩ hb.ob rfl rfl rfl (Nat.le_of_ble_eq_true rfl) dX2_leftTurns_8) 11 rfl (fun r3 M4 hw => ?_)
  exact r_iret hR dX2_leftTurns_11 hw
set_option maxRecDepth 100000 in
set_option maxHeartbeats 4000000 in
theorem ctX2_firstShowing (l : Launch) (g : GG) (M : MM) (b : Nat) (v1 : Int32) (Q : Int32 → MM → Prop) (hb : tpl g b) (hw : wX2_firstShowing Q M b v1) : MI g l yX2_firstShowing wsX2_firstShowing (rmOf 2 43) [.ref (gA g b), .int v1] M Q := by
  refine mk_MI (cc := cX2_firstShowing) (maxL := 3) (by decide) rfl (Nat.le_of_ble_eq_true rfl) ?_
  intro z Qf hC hR
  show XX z g Qf 3 0 [(0, .ref (gA g b)), (1, .int v1)] [] M
  refine q_iload_n hC dX2_firstShowing_0 1 rfl 1 rfl ?_
  refine q_aload_n hC dX2_firstShowing_1 0 rfl 2 rfl ?_
  refine q_iconst (v := 0) hC dX2_firstShowing_2 rfl 3 rfl ?_
  refine r_callI hC (go_V (q := (RX2, TX2, 14)) (As := [.int 0]) (rest := [.int v1]) hC (ctX2_ruled (zl z) g M b 0 _ hb hw) 1 gX2_firstShowing_X2_ruled rfl ⟨rfl, rfl⟩ (by decide +kernel) ⟨Nat.le_of_ble_eq_true rfl, Nat.le_of_ble_eq_true rfl⟩ hb.ob rfl rfl rfl (Nat.le_of_ble_eq_true rfl) dX2_firstShowing_3) 6 rfl (fun r1 M2 hw => ?_)
  refine q_icmp_le hC 12 dX2_firstShowing_6 (by decide) 9 rfl hw (fun hw => ?_) (fun hw => ?_)
  · refine q_iload_n hC dX2_firstShowing_12 1 rfl 13 rfl ?_
    refine q_aload_n hC dX2_firstShowing_13 0 rfl 14 rfl ?_
    refine q_iconst (v := 1) hC dX2_firstShowing_14 rfl 15 rfl ?_
    refine r_callI hC (go_V (q := (RX2, TX2, 14)) (As := [.int 1]) (rest := [.int v1]) hC (ctX2_ruled (zl z) g M2 b 1 _ hb hw) 1 gX2_firstShowing_X2_ruled rfl ⟨rfl, rfl⟩ (by decide +kernel) ⟨Nat.le_of_ble_eq_true rfl, Nat.le_of_ble_eq_true rfl⟩ hb.ob rfl rfl rfl (Nat.le_of_ble_eq_true rfl) dX2_firstShowing_15) 18 rfl (fun r3 M4 hw => ?_)
    refine q_aload_n hC dX2_firstShowing_18 0 rfl 19 rfl ?_
    refine q_iconst (v := 2) hC dX2_firstShowing_19 rfl 20 rfl ?_
    refine r_callI hC (go_V (q := (RX2, TX2, 14)) (As := [.int 2]) (rest := [.int r3, .int v1]) hC (ctX2_ruled (zl z) g M4 b 2 _ hb hw) 1 gX2_firstShowing_X2_ruled rfl ⟨rfl, rfl⟩ (by decide +kernel) ⟨Nat.le_of_ble_eq_true rfl, Nat.le_of_ble_eq_true rfl⟩ hb.ob rfl rfl rfl (Nat.le_of_ble_eq_true rfl) dX2_firstShowing_20) 23 rfl (fun r5 M6 hw => ?_)
    refine r_callI hC (go_N (As := [.int v1, .int r3, .int r5]) (rest := []) hC (ctX4_lengthOfTurns (zl z) g M6 v1 r3 r5 _ hw) 3 gX2_firstShowing_X4_lengthOfTurns_n73 rfl ⟨rfl, rfl⟩ 10 rfl (List.mem_of_getElem? (i := 8) (by decide +kernel)) (List.mem_of_getElem? (i := 7) (by decide +kernel)) (by decide +kernel) ⟨Nat.le_of_ble_eq_true rfl, Nat.le_of_ble_eq_true rfl⟩ rfl rfl (Nat.le_of_ble_eq_true rfl) dX2_firstShowing_23) 26 rfl (fun r7 M8 hw => ?_)
    refine q_istore_n (L' := [(2, .int r7), (0, .ref (gA g b)), (1, .int v1)]) hC dX2_firstShowing_26 (by decide) rfl 27 rfl ?_
    refine q_aload_n hC dX2_firstShowing_27 1 rfl 28 rfl ?_
    refine q_iload_n hC dX2_firstShowing_28 0 rfl 29 rfl ?_
    refine r_callI hC (go_V (q := (RX2, TX2, 14)) (As := [.int r7]) (rest := []) hC (ctX2_hasPlace (zl z) g M8 b r7 _ hb hw) 1 gX2_firstShowing_X2_hasPlace rfl ⟨rfl, rfl⟩ (by decide +kernel) ⟨Nat.le_of_ble_eq_true rfl, Nat.le_of_ble_eq_true rfl⟩ hb.ob rfl rfl rfl (Nat.le_of_ble_eq_true rfl) dX2_firstShowing_29) 32 rfl (fun r9 M10 hw => ?_)
    refine q_if_eq hC 39 dX2_firstShowing_32 (by decide) 35 rfl hw (fun hw => ?_) (fun hw => ?_)
    · refine q_bipush (v := (-4)) hC dX2_firstShowing_39 (by decide) 41 rfl ?_
      exact r_iret hR dX2_firstShowing_41 hw
    · refine q_iload_n hC dX2_firstShowing_35 0 rfl 36 rfl ?_
      refine q_goto hC 41 dX2_firstShowing_36 (by decide) ?_
      exact r_iret hR dX2_firstShowing_41 hw
  · refine q_bipush (v := (-4)) hC dX2_firstShowing_9 (by decide) 11 rfl ?_
    exact r_iret hR dX2_firstShowing_11 hw
set_option maxRecDepth 100000 in
set_option maxHeartbeats 4000000 in
theorem ctX2_lastShowing (l : Launch) (g : GG) (M : MM) (b : Nat) (v1 : Int32) (Q : Int32 → MM → Prop) (hb : tpl g b) (hw : wX2_lastShowing Q M b v1) : MI g l yX2_lastShowing wsX2_lastShowing (rmOf 3 65) [.ref (gA g b), .int v1] M Q := by
  refine mk_MI (cc := cX2_lastShowing) (maxL := 2) (by decide) rfl (Nat.le_of_ble_eq_true rfl) ?_
  intro z Qf hC hR
  show XX z g Qf 2 0 [(0, .ref (gA g b)), (1, .int v1)] [] M
  refine q_aload_n hC dX2_lastShowing_0 0 rfl 1 rfl ?_
  refine q_iload_n hC dX2_lastShowing_1 1 rfl 2 rfl ?_
  refine r_callI hC (go_V (q := (RX2, TX2, 14)) (As := [.int v1]) (rest := []) hC (ctX2_firstShowing (zl z) g M b v1 _ hb hw) 1 gX2_lastShowing_X2_firstShowing rfl ⟨rfl, rfl⟩ (by decide +kernel) ⟨Nat.le_of_ble_eq_true rfl, Nat.le_of_ble_eq_true rfl⟩ hb.ob rfl rfl rfl (Nat.le_of_ble_eq_true rfl) dX2_lastShowing_2) 5 rfl (fun r1 M2 hw => ?_)
  refine q_bipush (v := (-4)) hC dX2_lastShowing_5 (by decide) 7 rfl ?_
  refine q_icmp_ne hC 13 dX2_lastShowing_7 (by decide) 10 rfl hw (fun hw => ?_) (fun hw => ?_)
  · refine q_aload_n hC dX2_lastShowing_13 0 rfl 14 rfl ?_
    refine q_iconst (v := 0) hC dX2_lastShowing_14 rfl 15 rfl ?_
    refine r_callI hC (go_V (q := (RX2, TX2, 14)) (As := [.int 0]) (rest := []) hC (ctX2_ruled (zl z) g M2 b 0 _ hb hw) 1 gX2_lastShowing_X2_ruled rfl ⟨rfl, rfl⟩ (by decide +kernel) ⟨Nat.le_of_ble_eq_true rfl, Nat.le_of_ble_eq_true rfl⟩ hb.ob rfl rfl rfl (Nat.le_of_ble_eq_true rfl) dX2_lastShowing_15) 18 rfl (fun r3 M4 hw => ?_)
    refine q_iload_n hC dX2_lastShowing_18 1 rfl 19 rfl ?_
    refine q_iconst (v := 1) hC dX2_lastShowing_19 rfl 20 rfl ?_
    refine q_iadd hC dX2_lastShowing_20 21 rfl ?_
    refine q_aload_n hC dX2_lastShowing_21 0 rfl 22 rfl ?_
    refine q_iconst (v := 1) hC dX2_lastShowing_22 rfl 23 rfl ?_
    refine r_callI hC (go_V (q := (RX2, TX2, 14)) (As := [.int 1]) (rest := [.int (v1 + (1 : Int32)), .int r3]) hC (ctX2_ruled (zl z) g M4 b 1 _ hb hw) 1 gX2_lastShowing_X2_ruled rfl ⟨rfl, rfl⟩ (by decide +kernel) ⟨Nat.le_of_ble_eq_true rfl, Nat.le_of_ble_eq_true rfl⟩ hb.ob rfl rfl rfl (Nat.le_of_ble_eq_true rfl) dX2_lastShowing_23) 26 rfl (fun r5 M6 hw => ?_)
    refine q_aload_n hC dX2_lastShowing_26 0 rfl 27 rfl ?_
    refine q_iconst (v := 2) hC dX2_lastShowing_27 rfl 28 rfl ?_
    refine r_callI hC (go_V (q := (RX2, TX2, 14)) (As := [.int 2]) (rest := [.int r5, .int (v1 + (1 : Int32)), .int r3]) hC (ctX2_ruled (zl z) g M6 b 2 _ hb hw) 1 gX2_lastShowing_X2_ruled rfl ⟨rfl, rfl⟩ (by decide +kernel) ⟨Nat.le_of_ble_eq_true rfl, Nat.le_of_ble_eq_true rfl⟩ hb.ob rfl rfl rfl (Nat.le_of_ble_eq_true rfl) dX2_lastShowing_28) 31 rfl (fun r7 M8 hw => ?_)
    refine r_callI hC (go_N (As := [.int (v1 + (1 : Int32)), .int r5, .int r7]) (rest := [.int r3]) hC (ctX4_lengthOfTurns (zl z) g M8 (v1 + (1 : Int32)) r5 r7 _ hw) 3 gX2_lastShowing_X4_lengthOfTurns_n73 rfl ⟨rfl, rfl⟩ 10 rfl (List.mem_of_getElem? (i := 16) (by decide +kernel)) (List.mem_of_getElem? (i := 15) (by decide +kernel)) (by decide +kernel) ⟨Nat.le_of_ble_eq_true rfl, Nat.le_of_ble_eq_true rfl⟩ rfl rfl (Nat.le_of_ble_eq_true rfl) dX2_lastShowing_31) 34 rfl (fun r9 M10 hw => ?_)
    refine q_iconst (v := 1) hC dX2_lastShowing_34 rfl 35 rfl ?_
    refine q_isub hC dX2_lastShowing_35 36 rfl ?_
    refine q_mmin hC (List.mem_of_getElem? (i := 1) (by decide +kernel)) (List.mem_of_getElem? (i := 2) (by decide +kernel)) (List.mem_of_getElem? (i := 3) (by decide +kernel)) (List.mem_of_getElem? (i := 4) (by decide +kernel)) (by decide) (Nat.le_of_ble_eq_true rfl) dX2_lastShowing_36 39 rfl ?_
    exact r_iret hR dX2_lastShowing_39 hw
  · refine q_bipush (v := (-4)) hC dX2_lastShowing_10 (by decide) 12 rfl ?_
    exact r_iret hR dX2_lastShowing_12 hw
set_option maxRecDepth 100000 in
set_option maxHeartbeats 4000000 in
theorem ctX2_meetingPlace (l : Launch) (g : GG) (M : MM) (b : Nat) (Q : Int32 → MM → Prop) (hb : tpl g b) (hw : wX2_meetingPlace Q M b) : MI g l yX2_meetingPlace wsX2_meetingPlace (rmOf 3 68) [.ref (gA g b)] M Q := by
  refine mk_MI (cc := cX2_meetingPlace) (maxL := 5) (by decide) rfl (Nat.le_of_ble_eq_true rfl) ?_
  intro z Qf hC hR
  show XX z g Qf 5 0 [(0, .ref (gA g b))] [] M
  have B54 : ∀ (K10 : MM → Int32 → Int32 → Int32 → Prop) (hK10 : ∀ (M : MM) (v1 : Int32) (v2 : Int32) (v3 : Int32) , K10 M v1 v2 v3 → XX z g Qf 5 10 [(0, .ref (gA g b)), (1, .int v1), (2, .int v2), (3, .int v3)] [] M) (M : MM) (v1 : Int32) (v2 : Int32) (v3 : Int32), wX2_meetingPlace_54 Q K10 b M v1 v2 v3 → XX z g Qf 5 54 [(0, .ref (gA g b)), (1, .int v1), (2, .int v2), (3, .int v3)] [] M := by
    intro K10 hK10 M v1 v2 v3 hw
    refine q_iinc (v := v3 + 1) (L' := [(3, .int (v3 + 1)), (0, .ref (gA g b)), (1, .int v1), (2, .int v2)]) hC dX2_meetingPlace_54 3 rfl rfl (by decide) rfl 57 rfl ?_
    refine q_goto hC 10 dX2_meetingPlace_57 (by decide) ?_
    exact XX.sub [1, 2, 3, 0] rfl (hK10 M v1 v2 (v3 + 1) hw)
  have B10 : ∀ (n : Nat) (M : MM) (v1 : Int32) (v2 : Int32) (v3 : Int32) , wX2_meetingPlace_10 Q b n M v1 v2 v3 → XX z g Qf 5 10 [(0, .ref (gA g b)), (1, .int v1), (2, .int v2), (3, .int v3)] [] M := by
    intro n
    induction n with
    | zero =>
      intro M v1 v2 v3 hw
      exact hw.elim
    | succ n ih =>
      intro M v1 v2 v3 hw
      refine q_iload_n hC dX2_meetingPlace_10 3 rfl 11 rfl ?_
      refine q_bipush (v := 32) hC dX2_meetingPlace_11 (by decide) 13 rfl ?_
      refine q_icmp_ge hC 60 dX2_meetingPlace_13 (by decide) 16 rfl hw (fun hw => ?_) (fun hw => ?_)
      · refine q_iload_n hC dX2_meetingPlace_60 1 rfl 61 rfl ?_
        exact r_iret hR dX2_meetingPlace_61 hw
      · refine q_iload_n hC dX2_meetingPlace_16 1 rfl 17 rfl ?_
        refine q_iload_n hC dX2_meetingPlace_17 2 rfl 18 rfl ?_
        refine q_icmp_ge hC 60 dX2_meetingPlace_18 (by decide) 21 rfl hw (fun hw => ?_) (fun hw => ?_)
        · refine q_iload_n hC dX2_meetingPlace_60 1 rfl 61 rfl ?_
          exact r_iret hR dX2_meetingPlace_61 hw
        · refine q_iload_n hC dX2_meetingPlace_21 1 rfl 22 rfl ?_
          refine q_iload_n hC dX2_meetingPlace_22 2 rfl 23 rfl ?_
          refine q_iadd hC dX2_meetingPlace_23 24 rfl ?_
          refine q_iconst (v := 2) hC dX2_meetingPlace_24 rfl 25 rfl ?_
          refine q_idiv hC dX2_meetingPlace_25 (by decide) 26 rfl ?_
          refine q_nameI (fun x3 ex3 => ?_)
          have hw := hw x3 ex3
          refine q_istore (L' := [(4, .int x3), (0, .ref (gA g b)), (1, .int v1), (2, .int v2), (3, .int v3)]) hC dX2_meetingPlace_26 (by decide) rfl 28 rfl ?_
          refine q_aload_n hC dX2_meetingPlace_28 1 rfl 29 rfl ?_
          refine q_iload hC dX2_meetingPlace_29 0 rfl 31 rfl ?_
          refine r_callI hC (go_V (q := (RX2, TX2, 14)) (As := [.int x3]) (rest := []) hC (ctX2_rightTurns (zl z) g M b x3 _ hb hw) 1 gX2_meetingPlace_X2_rightTurns rfl ⟨rfl, rfl⟩ (by decide +kernel) ⟨Nat.le_of_ble_eq_true rfl, Nat.le_of_ble_eq_true rfl⟩ hb.ob rfl rfl rfl (Nat.le_of_ble_eq_true rfl) dX2_meetingPlace_31) 34 rfl (fun r4 M5 hw => ?_)
          refine q_aload_n hC dX2_meetingPlace_34 1 rfl 35 rfl ?_
          refine q_iload hC dX2_meetingPlace_35 0 rfl 37 rfl ?_
          refine r_callI hC (go_V (q := (RX2, TX2, 14)) (As := [.int x3]) (rest := [.int r4]) hC (ctX2_leftTurns (zl z) g M5 b x3 _ hb hw) 1 gX2_meetingPlace_X2_leftTurns rfl ⟨rfl, rfl⟩ (by decide +kernel) ⟨Nat.le_of_ble_eq_true rfl, Nat.le_of_ble_eq_true rfl⟩ hb.ob rfl rfl rfl (Nat.le_of_ble_eq_true rfl) dX2_meetingPlace_37) 40 rfl (fun r6 M7 hw => ?_)
          refine q_icmp_lt hC 49 dX2_meetingPlace_40 (by decide) 43 rfl hw (fun hw => ?_) (fun hw => ?_)
          · refine q_iload hC dX2_meetingPlace_49 0 rfl 51 rfl ?_
            refine q_iconst (v := 1) hC dX2_meetingPlace_51 rfl 52 rfl ?_
            refine q_iadd hC dX2_meetingPlace_52 53 rfl ?_
            refine q_nameI (fun x8 ex8 => ?_)
            have hw := hw x8 ex8
            refine q_istore_n (L' := [(1, .int x8), (4, .int x3), (0, .ref (gA g b)), (2, .int v2), (3, .int v3)]) hC dX2_meetingPlace_53 (by decide) rfl 54 rfl ?_
            exact XX.sub [2, 0, 3, 4] rfl (B54 _ (fun M v1 v2 v3 hw => ih M v1 v2 v3 hw) M7 x8 v2 v3 hw)
          · refine q_iload hC dX2_meetingPlace_43 0 rfl 45 rfl ?_
            refine q_istore_n (L' := [(2, .int x3), (4, .int x3), (0, .ref (gA g b)), (1, .int v1), (3, .int v3)]) hC dX2_meetingPlace_45 (by decide) rfl 46 rfl ?_
            refine q_goto hC 54 dX2_meetingPlace_46 (by decide) ?_
            exact XX.sub [2, 3, 0, 4] rfl (B54 _ (fun M v1 v2 v3 hw => ih M v1 v2 v3 hw) M7 v1 x3 v3 hw)
  refine q_iconst (v := 0) hC dX2_meetingPlace_0 rfl 1 rfl ?_
  refine q_istore_n (L' := [(1, .int 0), (0, .ref (gA g b))]) hC dX2_meetingPlace_1 (by decide) rfl 2 rfl ?_
  refine q_aload_n hC dX2_meetingPlace_2 1 rfl 3 rfl ?_
  refine q_iconst (v := 0) hC dX2_meetingPlace_3 rfl 4 rfl ?_
  refine r_callI hC (go_V (q := (RX2, TX2, 14)) (As := [.int 0]) (rest := []) hC (ctX2_ruled (zl z) g M b 0 _ hb hw) 1 gX2_meetingPlace_X2_ruled rfl ⟨rfl, rfl⟩ (by decide +kernel) ⟨Nat.le_of_ble_eq_true rfl, Nat.le_of_ble_eq_true rfl⟩ hb.ob rfl rfl rfl (Nat.le_of_ble_eq_true rfl) dX2_meetingPlace_4) 7 rfl (fun r1 M2 hw => ?_)
  refine q_istore_n (L' := [(2, .int r1), (1, .int 0), (0, .ref (gA g b))]) hC dX2_meetingPlace_7 (by decide) rfl 8 rfl ?_
  refine q_iconst (v := 0) hC dX2_meetingPlace_8 rfl 9 rfl ?_
  refine q_istore_n (L' := [(3, .int 0), (2, .int r1), (1, .int 0), (0, .ref (gA g b))]) hC dX2_meetingPlace_9 (by decide) rfl 10 rfl ?_
  obtain ⟨n0, hw⟩ := hw
  exact XX.sub [3, 2, 1, 0] rfl (B10 n0 M2 0 r1 0 hw)
set_option maxRecDepth 100000 in
set_option maxHeartbeats 4000000 in
theorem ctX2_playedThrough (l : Launch) (g : GG) (M : MM) (b : Nat) (v1 : Int32) (Q : Int32 → MM → Prop) (hb : tpl g b) (hw : wX2_playedThrough Q M b v1) : MI g l yX2_playedThrough wsX2_playedThrough (rmOf 1 21) [.ref (gA g b), .int v1] M Q := by
  refine mk_MI (cc := cX2_playedThrough) (maxL := 2) (by decide) rfl (Nat.le_of_ble_eq_true rfl) ?_
  intro z Qf hC hR
  show XX z g Qf 2 0 [(0, .ref (gA g b)), (1, .int v1)] [] M
  refine q_aload_n hC dX2_playedThrough_0 0 rfl 1 rfl ?_
  refine q_iconst (v := 3) hC dX2_playedThrough_1 rfl 2 rfl ?_
  refine r_callI hC (go_V (q := (RX2, TX2, 14)) (As := [.int 3]) (rest := []) hC (ctX2_ruled (zl z) g M b 3 _ hb hw) 1 gX2_playedThrough_X2_ruled rfl ⟨rfl, rfl⟩ (by decide +kernel) ⟨Nat.le_of_ble_eq_true rfl, Nat.le_of_ble_eq_true rfl⟩ hb.ob rfl rfl rfl (Nat.le_of_ble_eq_true rfl) dX2_playedThrough_2) 5 rfl (fun r1 M2 hw => ?_)
  refine q_iload_n hC dX2_playedThrough_5 1 rfl 6 rfl ?_
  refine q_imul hC dX2_playedThrough_6 7 rfl ?_
  exact r_iret hR dX2_playedThrough_7 hw
set_option maxRecDepth 100000 in
set_option maxHeartbeats 4000000 in
theorem ctX2_played (l : Launch) (g : GG) (M : MM) (b : Nat) (v1 : Int32) (v2 : Int32) (Q : Int32 → MM → Prop) (hb : tpl g b) (hw : wX2_played Q M b v1 v2) : MI g l yX2_played wsX2_played (rmOf 2 42) [.ref (gA g b), .int v1, .int v2] M Q := by
  refine mk_MI (cc := cX2_played) (maxL := 3) (by decide) rfl (Nat.le_of_ble_eq_true rfl) ?_
  intro z Qf hC hR
  show XX z g Qf 3 0 [(0, .ref (gA g b)), (1, .int v1), (2, .int v2)] [] M
  refine q_iload_n hC dX2_played_0 1 rfl 1 rfl ?_
  refine q_iload_n hC dX2_played_1 2 rfl 2 rfl ?_
  refine q_icmp_ne hC 9 dX2_played_2 (by decide) 5 rfl hw (fun hw => ?_) (fun hw => ?_)
  · refine q_aload_n hC dX2_played_9 0 rfl 10 rfl ?_
    refine q_iconst (v := 5) hC dX2_played_10 rfl 11 rfl ?_
    refine r_callI hC (go_V (q := (RX2, TX2, 14)) (As := [.int 5]) (rest := []) hC (ctX2_ruled (zl z) g M b 5 _ hb hw) 1 gX2_played_X2_ruled rfl ⟨rfl, rfl⟩ (by decide +kernel) ⟨Nat.le_of_ble_eq_true rfl, Nat.le_of_ble_eq_true rfl⟩ hb.ob rfl rfl rfl (Nat.le_of_ble_eq_true rfl) dX2_played_11) 14 rfl (fun r1 M2 hw => ?_)
    refine q_aload_n hC dX2_played_14 0 rfl 15 rfl ?_
    refine q_iload_n hC dX2_played_15 2 rfl 16 rfl ?_
    refine q_iload_n hC dX2_played_16 1 rfl 17 rfl ?_
    refine q_isub hC dX2_played_17 18 rfl ?_
    refine q_mabs hC (List.mem_of_getElem? (i := 1) (by decide +kernel)) (List.mem_of_getElem? (i := 2) (by decide +kernel)) (List.mem_of_getElem? (i := 3) (by decide +kernel)) (List.mem_of_getElem? (i := 4) (by decide +kernel)) (by decide) (Nat.le_of_ble_eq_true rfl) dX2_played_18 21 rfl ?_
    refine r_callI hC (go_V (q := (RX2, TX2, 14)) (As := [.int (if 0 ≤ (v2 - v1) then (v2 - v1) else 0 - (v2 - v1))]) (rest := [.int r1]) hC (ctX2_playedThrough (zl z) g M2 b (if 0 ≤ (v2 - v1) then (v2 - v1) else 0 - (v2 - v1)) _ hb hw) 1 gX2_played_X2_playedThrough rfl ⟨rfl, rfl⟩ (by decide +kernel) ⟨Nat.le_of_ble_eq_true rfl, Nat.le_of_ble_eq_true rfl⟩ hb.ob rfl rfl rfl (Nat.le_of_ble_eq_true rfl) dX2_played_21) 24 rfl (fun r3 M4 hw => ?_)
    refine q_iadd hC dX2_played_24 25 rfl ?_
    exact r_iret hR dX2_played_25 hw
  · refine q_iconst (v := 0) hC dX2_played_5 rfl 6 rfl ?_
    refine q_goto hC 25 dX2_played_6 (by decide) ?_
    exact r_iret hR dX2_played_25 hw
set_option maxRecDepth 100000 in
set_option maxHeartbeats 4000000 in
theorem ctX2_wound (l : Launch) (g : GG) (M : MM) (b : Nat) (v1 : Int32) (v2 : Int32) (Q : Int32 → MM → Prop) (hb : tpl g b) (hw : wX2_wound Q M b v1 v2) : MI g l yX2_wound wsX2_wound (rmOf 2 47) [.ref (gA g b), .int v1, .int v2] M Q := by
  refine mk_MI (cc := cX2_wound) (maxL := 5) (by decide) rfl (Nat.le_of_ble_eq_true rfl) ?_
  intro z Qf hC hR
  show XX z g Qf 5 0 [(0, .ref (gA g b)), (1, .int v1), (2, .int v2)] [] M
  have B47 : ∀ (M : MM) (p0 : Int32), wX2_wound_47 Q b v1 v2 M p0 → XX z g Qf 5 47 [(0, .ref (gA g b))] [.int p0] M := by
    intro M p0 hw
    refine q_istore (L' := [(4, .int p0), (0, .ref (gA g b))]) hC dX2_wound_47 (by decide) rfl 49 rfl ?_
    refine q_iconst (v := 2) hC dX2_wound_49 rfl 50 rfl ?_
    refine q_aload_n hC dX2_wound_50 1 rfl 51 rfl ?_
    refine q_iconst (v := 5) hC dX2_wound_51 rfl 52 rfl ?_
    refine r_callI hC (go_V (q := (RX2, TX2, 14)) (As := [.int 5]) (rest := [.int 2]) hC (ctX2_ruled (zl z) g M b 5 _ hb hw) 1 gX2_wound_X2_ruled rfl ⟨rfl, rfl⟩ (by decide +kernel) ⟨Nat.le_of_ble_eq_true rfl, Nat.le_of_ble_eq_true rfl⟩ hb.ob rfl rfl rfl (Nat.le_of_ble_eq_true rfl) dX2_wound_52) 55 rfl (fun r11 M12 hw => ?_)
    refine q_imul hC dX2_wound_55 56 rfl ?_
    refine q_aload_n hC dX2_wound_56 1 rfl 57 rfl ?_
    refine q_iconst (v := 4) hC dX2_wound_57 rfl 58 rfl ?_
    refine r_callI hC (go_V (q := (RX2, TX2, 14)) (As := [.int 4]) (rest := [.int ((2 : Int32) * r11)]) hC (ctX2_ruled (zl z) g M12 b 4 _ hb hw) 1 gX2_wound_X2_ruled rfl ⟨rfl, rfl⟩ (by decide +kernel) ⟨Nat.le_of_ble_eq_true rfl, Nat.le_of_ble_eq_true rfl⟩ hb.ob rfl rfl rfl (Nat.le_of_ble_eq_true rfl) dX2_wound_58) 61 rfl (fun r13 M14 hw => ?_)
    refine q_iload hC dX2_wound_61 0 rfl 63 rfl ?_
    refine q_imul hC dX2_wound_63 64 rfl ?_
    refine q_iadd hC dX2_wound_64 65 rfl ?_
    exact r_iret hR dX2_wound_65 hw
  refine q_iload_n hC dX2_wound_0 1 rfl 1 rfl ?_
  refine q_iload_n hC dX2_wound_1 2 rfl 2 rfl ?_
  refine q_icmp_ne hC 7 dX2_wound_2 (by decide) 5 rfl hw (fun hw => ?_) (fun hw => ?_)
  · refine q_aload_n hC dX2_wound_7 0 rfl 8 rfl ?_
    refine q_iconst (v := 0) hC dX2_wound_8 rfl 9 rfl ?_
    refine r_callI hC (go_V (q := (RX2, TX2, 14)) (As := [.int 0]) (rest := []) hC (ctX2_ruled (zl z) g M b 0 _ hb hw) 1 gX2_wound_X2_ruled rfl ⟨rfl, rfl⟩ (by decide +kernel) ⟨Nat.le_of_ble_eq_true rfl, Nat.le_of_ble_eq_true rfl⟩ hb.ob rfl rfl rfl (Nat.le_of_ble_eq_true rfl) dX2_wound_9) 12 rfl (fun r1 M2 hw => ?_)
    refine q_istore_n (L' := [(3, .int r1), (0, .ref (gA g b)), (1, .int v1), (2, .int v2)]) hC dX2_wound_12 (by decide) rfl 13 rfl ?_
    refine q_iload_n hC dX2_wound_13 3 rfl 14 rfl ?_
    refine q_iload_n hC dX2_wound_14 2 rfl 15 rfl ?_
    refine q_icmp_le hC 32 dX2_wound_15 (by decide) 18 rfl hw (fun hw => ?_) (fun hw => ?_)
    · refine q_aload_n hC dX2_wound_32 1 rfl 33 rfl ?_
      refine q_iload_n hC dX2_wound_33 0 rfl 34 rfl ?_
      refine q_iload_n hC dX2_wound_34 3 rfl 35 rfl ?_
      refine q_isub hC dX2_wound_35 36 rfl ?_
      refine r_callI hC (go_V (q := (RX2, TX2, 14)) (As := [.int (r1 - v2)]) (rest := []) hC (ctX2_turnsOf (zl z) g M2 b (r1 - v2) _ hb hw) 1 gX2_wound_X2_turnsOf rfl ⟨rfl, rfl⟩ (by decide +kernel) ⟨Nat.le_of_ble_eq_true rfl, Nat.le_of_ble_eq_true rfl⟩ hb.ob rfl rfl rfl (Nat.le_of_ble_eq_true rfl) dX2_wound_36) 39 rfl (fun r3 M4 hw => ?_)
      refine q_aload_n hC dX2_wound_39 1 rfl 40 rfl ?_
      refine q_iload_n hC dX2_wound_40 0 rfl 41 rfl ?_
      refine q_iload_n hC dX2_wound_41 2 rfl 42 rfl ?_
      refine q_isub hC dX2_wound_42 43 rfl ?_
      refine r_callI hC (go_V (q := (RX2, TX2, 14)) (As := [.int (r1 - v1)]) (rest := [.int r3]) hC (ctX2_turnsOf (zl z) g M4 b (r1 - v1) _ hb hw) 1 gX2_wound_X2_turnsOf rfl ⟨rfl, rfl⟩ (by decide +kernel) ⟨Nat.le_of_ble_eq_true rfl, Nat.le_of_ble_eq_true rfl⟩ hb.ob rfl rfl rfl (Nat.le_of_ble_eq_true rfl) dX2_wound_43) 46 rfl (fun r5 M6 hw => ?_)
      refine q_isub hC dX2_wound_46 47 rfl ?_
      exact XX.sub [1] rfl (B47 M6 (r3 - r5) hw)
    · refine q_aload_n hC dX2_wound_18 1 rfl 19 rfl ?_
      refine q_iload_n hC dX2_wound_19 3 rfl 20 rfl ?_
      refine r_callI hC (go_V (q := (RX2, TX2, 14)) (As := [.int v2]) (rest := []) hC (ctX2_turnsOf (zl z) g M2 b v2 _ hb hw) 1 gX2_wound_X2_turnsOf rfl ⟨rfl, rfl⟩ (by decide +kernel) ⟨Nat.le_of_ble_eq_true rfl, Nat.le_of_ble_eq_true rfl⟩ hb.ob rfl rfl rfl (Nat.le_of_ble_eq_true rfl) dX2_wound_20) 23 rfl (fun r7 M8 hw => ?_)
      refine q_aload_n hC dX2_wound_23 1 rfl 24 rfl ?_
      refine q_iload_n hC dX2_wound_24 2 rfl 25 rfl ?_
      refine r_callI hC (go_V (q := (RX2, TX2, 14)) (As := [.int v1]) (rest := [.int r7]) hC (ctX2_turnsOf (zl z) g M8 b v1 _ hb hw) 1 gX2_wound_X2_turnsOf rfl ⟨rfl, rfl⟩ (by decide +kernel) ⟨Nat.le_of_ble_eq_true rfl, Nat.le_of_ble_eq_true rfl⟩ hb.ob rfl rfl rfl (Nat.le_of_ble_eq_true rfl) dX2_wound_25) 28 rfl (fun r9 M10 hw => ?_)
      refine q_isub hC dX2_wound_28 29 rfl ?_
      refine q_goto hC 47 dX2_wound_29 (by decide) ?_
      exact XX.sub [1] rfl (B47 M10 (r7 - r9) hw)
  · refine q_iconst (v := 0) hC dX2_wound_5 rfl 6 rfl ?_
    exact r_iret hR dX2_wound_6 hw
set_option maxRecDepth 100000 in
set_option maxHeartbeats 4000000 in
theorem ctX2_sooner (l : Launch) (g : GG) (M : MM) (b : Nat) (v1 : Int32) (v2 : Int32) (Q : Int32 → MM → Prop) (hb : tpl g b) (hw : wX2_sooner Q M b v1 v2) : MI g l yX2_sooner wsX2_sooner (rmOf 3 71) [.ref (gA g b), .int v1, .int v2] M Q := by
  refine mk_MI (cc := cX2_sooner) (maxL := 3) (by decide) rfl (Nat.le_of_ble_eq_true rfl) ?_
  intro z Qf hC hR
  show XX z g Qf 3 0 [(0, .ref (gA g b)), (1, .int v1), (2, .int v2)] [] M
  refine q_aload_n hC dX2_sooner_0 0 rfl 1 rfl ?_
  refine q_iload_n hC dX2_sooner_1 1 rfl 2 rfl ?_
  refine q_iload_n hC dX2_sooner_2 2 rfl 3 rfl ?_
  refine r_callI hC (go_V (q := (RX2, TX2, 14)) (As := [.int v1, .int v2]) (rest := []) hC (ctX2_played (zl z) g M b v1 v2 _ hb hw) 2 gX2_sooner_X2_played rfl ⟨rfl, rfl⟩ (by decide +kernel) ⟨Nat.le_of_ble_eq_true rfl, Nat.le_of_ble_eq_true rfl⟩ hb.ob rfl rfl rfl (Nat.le_of_ble_eq_true rfl) dX2_sooner_3) 6 rfl (fun r1 M2 hw => ?_)
  refine q_aload_n hC dX2_sooner_6 0 rfl 7 rfl ?_
  refine q_iload_n hC dX2_sooner_7 1 rfl 8 rfl ?_
  refine q_iload_n hC dX2_sooner_8 2 rfl 9 rfl ?_
  refine r_callI hC (go_V (q := (RX2, TX2, 14)) (As := [.int v1, .int v2]) (rest := [.int r1]) hC (ctX2_wound (zl z) g M2 b v1 v2 _ hb hw) 2 gX2_sooner_X2_wound rfl ⟨rfl, rfl⟩ (by decide +kernel) ⟨Nat.le_of_ble_eq_true rfl, Nat.le_of_ble_eq_true rfl⟩ hb.ob rfl rfl rfl (Nat.le_of_ble_eq_true rfl) dX2_sooner_9) 12 rfl (fun r3 M4 hw => ?_)
  refine q_mmin hC (List.mem_of_getElem? (i := 1) (by decide +kernel)) (List.mem_of_getElem? (i := 2) (by decide +kernel)) (List.mem_of_getElem? (i := 3) (by decide +kernel)) (List.mem_of_getElem? (i := 4) (by decide +kernel)) (by decide) (Nat.le_of_ble_eq_true rfl) dX2_sooner_12 15 rfl ?_
  exact r_iret hR dX2_sooner_15 hw
set_option maxRecDepth 20000 in
theorem inX2_goTo_X2 : ∀ w ∈ u_ws RX2 TX2 14, w ∈ wsX2_goTo := by decide +kernel
set_option maxRecDepth 100000 in
set_option maxHeartbeats 4000000 in
theorem ctX2_goTo (l : Launch) (g : GG) (M : MM) (b : Nat) (v1 : Int32) (Q : Int32 → MM → Prop) (hb : tpl g b) (hw : wX2_goTo Q M b v1) : MI g l yX2_goTo wsX2_goTo (rmOf 4 93) [.ref (gA g b), .int v1] M Q := by
  refine mk_MI (cc := cX2_goTo) (maxL := 3) (by decide) rfl (Nat.le_of_ble_eq_true rfl) ?_
  intro z Qf hC hR
  show XX z g Qf 3 0 [(0, .ref (gA g b)), (1, .int v1)] [] M
  refine q_aload_n hC dX2_goTo_0 0 rfl 1 rfl ?_
  refine q_aload_n hC dX2_goTo_1 0 rfl 2 rfl ?_
  refine q_getI (C := RX2) (T := TX2) (N := 14) (ci := 2) hC inX2_goTo_X2 hb.ob rfl 9 (by decide) (List.mem_of_getElem? (i := 1) (by decide +kernel)) rfl (fun _ => rfl) dX2_goTo_2 5 rfl ?_
  refine q_iload_n hC dX2_goTo_5 1 rfl 6 rfl ?_
  refine r_callI hC (go_V (q := (RX2, TX2, 14)) (As := [.int (M b 9), .int v1]) (rest := []) hC (ctX2_sooner (zl z) g M b (M b 9) v1 _ hb hw) 2 gX2_goTo_X2_sooner rfl ⟨rfl, rfl⟩ (by decide +kernel) ⟨Nat.le_of_ble_eq_true rfl, Nat.le_of_ble_eq_true rfl⟩ hb.ob rfl rfl rfl (Nat.le_of_ble_eq_true rfl) dX2_goTo_6) 9 rfl (fun r1 M2 hw => ?_)
  refine q_istore_n (L' := [(2, .int r1), (0, .ref (gA g b)), (1, .int v1)]) hC dX2_goTo_9 (by decide) rfl 10 rfl ?_
  refine q_aload_n hC dX2_goTo_10 1 rfl 11 rfl ?_
  refine q_iload_n hC dX2_goTo_11 2 rfl 12 rfl ?_
  refine q_putI (C := RX2) (T := TX2) (N := 14) (ci := 2) hC inX2_goTo_X2 tyX2 tyX2_ok nmX2 hb.ob rfl 9 (by decide) (List.mem_of_getElem? (i := 1) (by decide +kernel)) rfl rfl rfl (fun _ => Nat.le_of_ble_eq_true rfl) (fun _ => rfl) dX2_goTo_12 15 rfl (fun M3 eM3 => ?_)
  have hw := hw M3 eM3
  refine q_aload_n hC dX2_goTo_15 1 rfl 16 rfl ?_
  refine q_dup hC dX2_goTo_16 rfl 17 rfl ?_
  refine q_getI (C := RX2) (T := TX2) (N := 14) (ci := 2) hC inX2_goTo_X2 hb.ob rfl 10 (by decide) (List.mem_of_getElem? (i := 2) (by decide +kernel)) rfl (fun _ => rfl) dX2_goTo_17 20 rfl ?_
  refine q_iload_n hC dX2_goTo_20 0 rfl 21 rfl ?_
  refine q_iadd hC dX2_goTo_21 22 rfl ?_
  refine q_putI (C := RX2) (T := TX2) (N := 14) (ci := 2) hC inX2_goTo_X2 tyX2 tyX2_ok nmX2 hb.ob rfl 10 (by decide) (List.mem_of_getElem? (i := 2) (by decide +kernel)) rfl rfl rfl (fun _ => Nat.le_of_ble_eq_true rfl) (fun _ => rfl) dX2_goTo_22 25 rfl (fun M4 eM4 => ?_)
  have hw := hw M4 eM4
  refine q_iload_n hC dX2_goTo_25 0 rfl 26 rfl ?_
  exact r_iret hR dX2_goTo_26 hw
set_option maxRecDepth 20000 in
theorem inX2_reach_X2 : ∀ w ∈ u_ws RX2 TX2 14, w ∈ wsX2_reach := by decide +kernel
set_option maxRecDepth 100000 in
set_option maxHeartbeats 4000000 in
theorem ctX2_reach (l : Launch) (g : GG) (M : MM) (b : Nat) (v1 : Int32) (v2 : Int32) (v3 : Int32) (Q : Int32 → MM → Prop) (hb : tpl g b) (hw : wX2_reach Q M b v1 v2 v3) : MI g l yX2_reach wsX2_reach (rmOf 4 93) [.ref (gA g b), .int v1, .int v2, .int v3] M Q := by
  refine mk_MI (cc := cX2_reach) (maxL := 8) (by decide) rfl (Nat.le_of_ble_eq_true rfl) ?_
  intro z Qf hC hR
  show XX z g Qf 8 0 [(0, .ref (gA g b)), (1, .int v1), (2, .int v2), (3, .int v3)] [] M
  have B68 : ∀ (K9 : MM → Int32 → Int32 → Int32 → Prop) (hK9 : ∀ (M : MM) (v4 : Int32) (v5 : Int32) (v6 : Int32) , K9 M v4 v5 v6 → XX z g Qf 8 9 [(0, .ref (gA g b)), (1, .int v1), (3, .int v3), (4, .int v4), (5, .int v5), (6, .int v6)] [] M) (M : MM) (v4 : Int32) (v5 : Int32) (v6 : Int32), wX2_reach_68 Q K9 b v1 v2 v3 M v4 v5 v6 → XX z g Qf 8 68 [(0, .ref (gA g b)), (1, .int v1), (3, .int v3), (4, .int v4), (5, .int v5), (6, .int v6)] [] M := by
    intro K9 hK9 M v4 v5 v6 hw
    refine q_iinc (v := v6 + 1) (L' := [(6, .int (v6 + 1)), (0, .ref (gA g b)), (1, .int v1), (3, .int v3), (4, .int v4), (5, .int v5)]) hC dX2_reach_68 5 rfl rfl (by decide) rfl 71 rfl ?_
    refine q_goto hC 9 dX2_reach_71 (by decide) ?_
    exact XX.sub [1, 2, 3, 4, 5, 0] rfl (hK9 M v4 v5 (v6 + 1) hw)
  have B9 : ∀ (n : Nat) (M : MM) (v4 : Int32) (v5 : Int32) (v6 : Int32) , wX2_reach_9 Q b v1 v2 v3 n M v4 v5 v6 → XX z g Qf 8 9 [(0, .ref (gA g b)), (1, .int v1), (3, .int v3), (4, .int v4), (5, .int v5), (6, .int v6)] [] M := by
    intro n
    induction n with
    | zero =>
      intro M v4 v5 v6 hw
      exact hw.elim
    | succ n ih =>
      intro M v4 v5 v6 hw
      refine q_iload hC dX2_reach_9 5 rfl 11 rfl ?_
      refine q_bipush (v := 32) hC dX2_reach_11 (by decide) 13 rfl ?_
      refine q_icmp_ge hC 74 dX2_reach_13 (by decide) 16 rfl hw (fun hw => ?_) (fun hw => ?_)
      · refine q_iload hC dX2_reach_74 3 rfl 76 rfl ?_
        exact r_iret hR dX2_reach_76 hw
      · refine q_iload hC dX2_reach_16 3 rfl 18 rfl ?_
        refine q_iload hC dX2_reach_18 4 rfl 20 rfl ?_
        refine q_icmp_ge hC 74 dX2_reach_20 (by decide) 23 rfl hw (fun hw => ?_) (fun hw => ?_)
        · refine q_iload hC dX2_reach_74 3 rfl 76 rfl ?_
          exact r_iret hR dX2_reach_76 hw
        · refine q_iload hC dX2_reach_23 3 rfl 25 rfl ?_
          refine q_iload hC dX2_reach_25 4 rfl 27 rfl ?_
          refine q_iadd hC dX2_reach_27 28 rfl ?_
          refine q_iconst (v := 1) hC dX2_reach_28 rfl 29 rfl ?_
          refine q_iadd hC dX2_reach_29 30 rfl ?_
          refine q_iconst (v := 2) hC dX2_reach_30 rfl 31 rfl ?_
          refine q_idiv hC dX2_reach_31 (by decide) 32 rfl ?_
          refine q_nameI (fun x1 ex1 => ?_)
          have hw := hw x1 ex1
          refine q_istore (L' := [(7, .int x1), (0, .ref (gA g b)), (1, .int v1), (3, .int v3), (4, .int v4), (5, .int v5), (6, .int v6)]) hC dX2_reach_32 (by decide) rfl 34 rfl ?_
          refine q_aload_n hC dX2_reach_34 1 rfl 35 rfl ?_
          refine q_aload_n hC dX2_reach_35 1 rfl 36 rfl ?_
          refine q_getI (C := RX2) (T := TX2) (N := 14) (ci := 2) hC inX2_reach_X2 hb.ob rfl 9 (by decide) (List.mem_of_getElem? (i := 1) (by decide +kernel)) rfl (fun _ => rfl) dX2_reach_36 39 rfl ?_
          refine q_aload_n hC dX2_reach_39 1 rfl 40 rfl ?_
          refine q_getI (C := RX2) (T := TX2) (N := 14) (ci := 2) hC inX2_reach_X2 hb.ob rfl 9 (by decide) (List.mem_of_getElem? (i := 1) (by decide +kernel)) rfl (fun _ => rfl) dX2_reach_40 43 rfl ?_
          refine q_iload_n hC dX2_reach_43 3 rfl 44 rfl ?_
          refine q_iload hC dX2_reach_44 0 rfl 46 rfl ?_
          refine q_imul hC dX2_reach_46 47 rfl ?_
          refine q_iadd hC dX2_reach_47 48 rfl ?_
          refine r_callI hC (go_V (q := (RX2, TX2, 14)) (As := [.int (M b 9), .int ((M b 9) + (v3 * x1))]) (rest := []) hC (ctX2_sooner (zl z) g M b (M b 9) ((M b 9) + (v3 * x1)) _ hb hw) 2 gX2_reach_X2_sooner rfl ⟨rfl, rfl⟩ (by decide +kernel) ⟨Nat.le_of_ble_eq_true rfl, Nat.le_of_ble_eq_true rfl⟩ hb.ob rfl rfl rfl (Nat.le_of_ble_eq_true rfl) dX2_reach_48) 51 rfl (fun r2 M3 hw => ?_)
          refine q_iload_n hC dX2_reach_51 2 rfl 52 rfl ?_
          refine q_icmp_gt hC 62 dX2_reach_52 (by decide) 55 rfl hw (fun hw => ?_) (fun hw => ?_)
          · refine q_iload hC dX2_reach_62 0 rfl 64 rfl ?_
            refine q_iconst (v := 1) hC dX2_reach_64 rfl 65 rfl ?_
            refine q_isub hC dX2_reach_65 66 rfl ?_
            refine q_nameI (fun x4 ex4 => ?_)
            have hw := hw x4 ex4
            refine q_istore (L' := [(5, .int x4), (7, .int x1), (0, .ref (gA g b)), (1, .int v1), (3, .int v3), (4, .int v4), (6, .int v6)]) hC dX2_reach_66 (by decide) rfl 68 rfl ?_
            exact XX.sub [2, 3, 4, 5, 0, 6] rfl (B68 _ (fun M v4 v5 v6 hw => ih M v4 v5 v6 hw) M3 v4 x4 v6 hw)
          · refine q_iload hC dX2_reach_55 0 rfl 57 rfl ?_
            refine q_istore (L' := [(4, .int x1), (7, .int x1), (0, .ref (gA g b)), (1, .int v1), (3, .int v3), (5, .int v5), (6, .int v6)]) hC dX2_reach_57 (by decide) rfl 59 rfl ?_
            refine q_goto hC 68 dX2_reach_59 (by decide) ?_
            exact XX.sub [2, 3, 4, 0, 5, 6] rfl (B68 _ (fun M v4 v5 v6 hw => ih M v4 v5 v6 hw) M3 x1 v5 v6 hw)
  refine q_iconst (v := 0) hC dX2_reach_0 rfl 1 rfl ?_
  refine q_istore (L' := [(4, .int 0), (0, .ref (gA g b)), (1, .int v1), (2, .int v2), (3, .int v3)]) hC dX2_reach_1 (by decide) rfl 3 rfl ?_
  refine q_iload_n hC dX2_reach_3 3 rfl 4 rfl ?_
  refine q_istore (L' := [(5, .int v2), (4, .int 0), (0, .ref (gA g b)), (1, .int v1), (2, .int v2), (3, .int v3)]) hC dX2_reach_4 (by decide) rfl 6 rfl ?_
  refine q_iconst (v := 0) hC dX2_reach_6 rfl 7 rfl ?_
  refine q_istore (L' := [(6, .int 0), (5, .int v2), (4, .int 0), (0, .ref (gA g b)), (1, .int v1), (2, .int v2), (3, .int v3)]) hC dX2_reach_7 (by decide) rfl 9 rfl ?_
  obtain ⟨n0, hw⟩ := hw
  exact XX.sub [3, 4, 6, 2, 1, 0] rfl (B9 n0 M 0 v2 0 hw)
set_option maxRecDepth 20000 in
theorem inX2_hasBlock_X2 : ∀ w ∈ u_ws RX2 TX2 14, w ∈ wsX2_hasBlock := by decide +kernel
set_option maxRecDepth 100000 in
set_option maxHeartbeats 4000000 in
theorem ctX2_hasBlock (l : Launch) (g : GG) (M : MM) (b : Nat) (v1 : Int32) (Q : Int32 → MM → Prop) (hb : tpl g b) (hw : wX2_hasBlock Q M b v1) : MI g l yX2_hasBlock wsX2_hasBlock (rmOf 1 22) [.ref (gA g b), .int v1] M Q := by
  refine mk_MZ (cc := cX2_hasBlock) (maxL := 2) (by decide) rfl (Nat.le_of_ble_eq_true rfl) ?_
  intro z Qf hC hR
  show XX z g Qf 2 0 [(0, .ref (gA g b)), (1, .int v1)] [] M
  refine q_iload_n hC dX2_hasBlock_0 1 rfl 1 rfl ?_
  refine q_iconst (v := 0) hC dX2_hasBlock_1 rfl 2 rfl ?_
  refine q_aload_n hC dX2_hasBlock_2 0 rfl 3 rfl ?_
  refine q_getI (C := RX2) (T := TX2) (N := 14) (ci := 2) hC inX2_hasBlock_X2 hb.ob rfl 8 (by decide) (List.mem_of_getElem? (i := 1) (by decide +kernel)) rfl (fun _ => rfl) dX2_hasBlock_3 6 rfl ?_
  refine q_iconst (v := 1) hC dX2_hasBlock_6 rfl 7 rfl ?_
  refine q_isub hC dX2_hasBlock_7 8 rfl ?_
  refine r_callI hC (go_N (As := [.int v1, .int 0, .int ((M b 8) - (1 : Int32))]) (rest := []) hC (ctX4_isBetween (zl z) g M v1 0 ((M b 8) - (1 : Int32)) _ hw) 3 gX2_hasBlock_X4_isBetween_n69 rfl ⟨rfl, rfl⟩ 9 rfl (List.mem_of_getElem? (i := 3) (by decide +kernel)) (List.mem_of_getElem? (i := 2) (by decide +kernel)) (by decide +kernel) ⟨Nat.le_of_ble_eq_true rfl, Nat.le_of_ble_eq_true rfl⟩ rfl rfl (Nat.le_of_ble_eq_true rfl) dX2_hasBlock_8) 11 rfl (fun r1 M2 hw => ?_)
  exact r_iret hR dX2_hasBlock_11 hw
set_option maxRecDepth 20000 in
theorem inX2_hasAllOf_X2 : ∀ w ∈ u_ws RX2 TX2 14, w ∈ wsX2_hasAllOf := by decide +kernel
set_option maxRecDepth 100000 in
set_option maxHeartbeats 4000000 in
theorem ctX2_hasAllOf (l : Launch) (g : GG) (M : MM) (b : Nat) (v1 : Int32) (Q : Int32 → MM → Prop) (hb : tpl g b) (hw : wX2_hasAllOf Q M b v1) : MI g l yX2_hasAllOf wsX2_hasAllOf (rmOf 0 0) [.ref (gA g b), .int v1] M Q := by
  refine mk_MZ (cc := cX2_hasAllOf) (maxL := 2) (by decide) rfl (Nat.le_of_ble_eq_true rfl) ?_
  intro z Qf hC hR
  show XX z g Qf 2 0 [(0, .ref (gA g b)), (1, .int v1)] [] M
  refine q_iload_n hC dX2_hasAllOf_0 1 rfl 1 rfl ?_
  refine q_aload_n hC dX2_hasAllOf_1 0 rfl 2 rfl ?_
  refine q_getI (C := RX2) (T := TX2) (N := 14) (ci := 2) hC inX2_hasAllOf_X2 hb.ob rfl 8 (by decide) (List.mem_of_getElem? (i := 1) (by decide +kernel)) rfl (fun _ => rfl) dX2_hasAllOf_2 5 rfl ?_
  refine q_iushr hC dX2_hasAllOf_5 6 rfl ?_
  refine q_if_ne hC 13 dX2_hasAllOf_6 (by decide) 9 rfl hw (fun hw => ?_) (fun hw => ?_)
  · refine q_iconst (v := 0) hC dX2_hasAllOf_13 rfl 14 rfl ?_
    exact r_iret hR dX2_hasAllOf_14 ⟨nb_0, hw⟩
  · refine q_iconst (v := 1) hC dX2_hasAllOf_9 rfl 10 rfl ?_
    refine q_goto hC 14 dX2_hasAllOf_10 (by decide) ?_
    exact r_iret hR dX2_hasAllOf_14 ⟨nb_1, hw⟩
set_option maxRecDepth 100000 in
set_option maxHeartbeats 4000000 in
theorem ctX4_cell (l : Launch) (g : GG) (M : MM) (k0 : Nat) (v1 : Int32) (Q : Int32 → MM → Prop) (hk0 : isI g k0) (hw : wX4_cell Q M k0 v1) : MI g l yX4_cell wsX4_cell (rmOf 0 0) [.ref (gA g k0), .int v1] M Q := by
  refine mk_MI (cc := cX4_cell) (maxL := 2) (by decide) rfl (Nat.le_of_ble_eq_true rfl) ?_
  intro z Qf hC hR
  show XX z g Qf 2 0 [(0, .ref (gA g k0)), (1, .int v1)] [] M
  have B20 : ∀ (M : MM), wX4_cell_20 Q k0 v1 M → XX z g Qf 2 20 [] [] M := by
    intro M hw
    refine q_iconst (v := 0) hC dX4_cell_20 rfl 21 rfl ?_
    exact r_iret hR dX4_cell_21 hw
  refine q_aload_n hC dX4_cell_0 0 rfl 1 rfl ?_
  refine q_ifnull hC dX4_cell_1 4 rfl ?_
  refine q_iload_n hC dX4_cell_4 1 rfl 5 rfl ?_
  refine q_if_lt hC 20 dX4_cell_5 (by decide) 8 rfl hw (fun hw => ?_) (fun hw => ?_)
  · exact XX.sub [] rfl (B20 M hw)
  · refine q_iload_n hC dX4_cell_8 1 rfl 9 rfl ?_
    refine q_aload_n hC dX4_cell_9 0 rfl 10 rfl ?_
    refine q_alen hC hk0 dX4_cell_10 11 rfl ?_
    refine q_icmp_ge hC 20 dX4_cell_11 (by decide) 14 rfl hw (fun hw => ?_) (fun hw => ?_)
    · exact XX.sub [] rfl (B20 M hw)
    · refine q_aload_n hC dX4_cell_14 0 rfl 15 rfl ?_
      refine q_iload_n hC dX4_cell_15 1 rfl 16 rfl ?_
      obtain ⟨hin, hw⟩ := hw
      refine q_iald hC hk0 hin dX4_cell_16 17 rfl ?_
      refine q_goto hC 21 dX4_cell_17 (by decide) ?_
      exact r_iret hR dX4_cell_21 hw
set_option maxRecDepth 100000 in
set_option maxHeartbeats 4000000 in
theorem ctX4_cell_s (l : Launch) (g : GG) (M : MM) (k0 : Nat) (v1 : Int32) (Q : Int32 → MM → Prop) (hk0 : k0 < 3) (hw : wX4_cell_s Q M k0 v1) : MI g l yX4_cell wsX4_cell (rmOf 0 0) [.ref (gS g k0), .int v1] M Q := by
  refine mk_MI (cc := cX4_cell) (maxL := 2) (by decide) rfl (Nat.le_of_ble_eq_true rfl) ?_
  intro z Qf hC hR
  show XX z g Qf 2 0 [(0, .ref (gS g k0)), (1, .int v1)] [] M
  have B20 : ∀ (M : MM), wX4_cell_s_20 Q k0 v1 M → XX z g Qf 2 20 [] [] M := by
    intro M hw
    refine q_iconst (v := 0) hC dX4_cell_20 rfl 21 rfl ?_
    exact r_iret hR dX4_cell_21 hw
  refine q_aload_n hC dX4_cell_0 0 rfl 1 rfl ?_
  refine q_ifnull hC dX4_cell_1 4 rfl ?_
  refine q_iload_n hC dX4_cell_4 1 rfl 5 rfl ?_
  refine q_if_lt hC 20 dX4_cell_5 (by decide) 8 rfl hw (fun hw => ?_) (fun hw => ?_)
  · exact XX.sub [] rfl (B20 M hw)
  · refine q_iload_n hC dX4_cell_8 1 rfl 9 rfl ?_
    refine q_aload_n hC dX4_cell_9 0 rfl 10 rfl ?_
    refine q_tlen hC k0 hk0 dX4_cell_10 11 rfl ?_
    refine q_icmp_ge hC 20 dX4_cell_11 (by decide) 14 rfl hw (fun hw => ?_) (fun hw => ?_)
    · exact XX.sub [] rfl (B20 M hw)
    · refine q_aload_n hC dX4_cell_14 0 rfl 15 rfl ?_
      refine q_iload_n hC dX4_cell_15 1 rfl 16 rfl ?_
      obtain ⟨hin, hw⟩ := hw
      refine q_ti hC k0 hk0 hin dX4_cell_16 17 rfl ?_
      refine q_goto hC 21 dX4_cell_17 (by decide) ?_
      exact r_iret hR dX4_cell_21 hw
set_option maxRecDepth 20000 in
theorem inX2_beginOf_X2 : ∀ w ∈ u_ws RX2 TX2 14, w ∈ wsX2_beginOf := by decide +kernel
set_option maxRecDepth 100000 in
set_option maxHeartbeats 4000000 in
theorem ctX2_beginOf (l : Launch) (g : GG) (M : MM) (b : Nat) (v1 : Int32) (Q : Int32 → MM → Prop) (hb : tpl g b) (hw : wX2_beginOf Q M b v1) : MI g l yX2_beginOf wsX2_beginOf (rmOf 1 21) [.ref (gA g b), .int v1] M Q := by
  refine mk_MI (cc := cX2_beginOf) (maxL := 2) (by decide) rfl (Nat.le_of_ble_eq_true rfl) ?_
  intro z Qf hC hR
  show XX z g Qf 2 0 [(0, .ref (gA g b)), (1, .int v1)] [] M
  refine q_aload_n hC dX2_beginOf_0 0 rfl 1 rfl ?_
  refine q_getR (C := RX2) (T := TX2) (N := 14) (ci := 2) hC inX2_beginOf_X2 hb.ob rfl 1 (by decide) (List.mem_of_getElem? (i := 1) (by decide +kernel)) rfl (b + 2) (fun _ => rfl) dX2_beginOf_1 4 rfl ?_
  refine q_iload_n hC dX2_beginOf_4 1 rfl 5 rfl ?_
  refine r_callI hC (go_N (As := [.ref (gA g (b + 2)), .int v1]) (rest := []) hC (ctX4_cell (zl z) g M (b + 2) v1 _ (hb.ar 2 (by decide) (by decide)) hw) 2 gX2_beginOf_X4_cell_n114 rfl ⟨rfl, rfl⟩ 5 rfl (List.mem_of_getElem? (i := 3) (by decide +kernel)) (List.mem_of_getElem? (i := 2) (by decide +kernel)) (by decide +kernel) ⟨Nat.le_of_ble_eq_true rfl, Nat.le_of_ble_eq_true rfl⟩ rfl rfl (Nat.le_of_ble_eq_true rfl) dX2_beginOf_5) 8 rfl (fun r1 M2 hw => ?_)
  exact r_iret hR dX2_beginOf_8 hw
set_option maxRecDepth 20000 in
theorem inX2_sizeOf_X2 : ∀ w ∈ u_ws RX2 TX2 14, w ∈ wsX2_sizeOf := by decide +kernel
set_option maxRecDepth 100000 in
set_option maxHeartbeats 4000000 in
theorem ctX2_sizeOf (l : Launch) (g : GG) (M : MM) (b : Nat) (v1 : Int32) (Q : Int32 → MM → Prop) (hb : tpl g b) (hw : wX2_sizeOf Q M b v1) : MI g l yX2_sizeOf wsX2_sizeOf (rmOf 1 21) [.ref (gA g b), .int v1] M Q := by
  refine mk_MI (cc := cX2_sizeOf) (maxL := 2) (by decide) rfl (Nat.le_of_ble_eq_true rfl) ?_
  intro z Qf hC hR
  show XX z g Qf 2 0 [(0, .ref (gA g b)), (1, .int v1)] [] M
  refine q_aload_n hC dX2_sizeOf_0 0 rfl 1 rfl ?_
  refine q_getR (C := RX2) (T := TX2) (N := 14) (ci := 2) hC inX2_sizeOf_X2 hb.ob rfl 2 (by decide) (List.mem_of_getElem? (i := 1) (by decide +kernel)) rfl (b + 3) (fun _ => rfl) dX2_sizeOf_1 4 rfl ?_
  refine q_iload_n hC dX2_sizeOf_4 1 rfl 5 rfl ?_
  refine r_callI hC (go_N (As := [.ref (gA g (b + 3)), .int v1]) (rest := []) hC (ctX4_cell (zl z) g M (b + 3) v1 _ (hb.ar 3 (by decide) (by decide)) hw) 2 gX2_sizeOf_X4_cell_n114 rfl ⟨rfl, rfl⟩ 5 rfl (List.mem_of_getElem? (i := 3) (by decide +kernel)) (List.mem_of_getElem? (i := 2) (by decide +kernel)) (by decide +kernel) ⟨Nat.le_of_ble_eq_true rfl, Nat.le_of_ble_eq_true rfl⟩ rfl rfl (Nat.le_of_ble_eq_true rfl) dX2_sizeOf_5) 8 rfl (fun r1 M2 hw => ?_)
  exact r_iret hR dX2_sizeOf_8 hw
set_option maxRecDepth 100000 in
set_option maxHeartbeats 4000000 in
theorem ctX2_isMark (l : Launch) (g : GG) (M : MM) (b : Nat) (v1 : Int32) (Q : Int32 → MM → Prop) (hb : tpl g b) (hw : wX2_isMark Q M b v1) : MI g l yX2_isMark wsX2_isMark (rmOf 2 42) [.ref (gA g b), .int v1] M Q := by
  refine mk_MZ (cc := cX2_isMark) (maxL := 2) (by decide) rfl (Nat.le_of_ble_eq_true rfl) ?_
  intro z Qf hC hR
  show XX z g Qf 2 0 [(0, .ref (gA g b)), (1, .int v1)] [] M
  refine q_aload_n hC dX2_isMark_0 0 rfl 1 rfl ?_
  refine q_iload_n hC dX2_isMark_1 1 rfl 2 rfl ?_
  refine r_callI hC (go_V (q := (RX2, TX2, 14)) (As := [.int v1]) (rest := []) hC (ctX2_sizeOf (zl z) g M b v1 _ hb hw) 1 gX2_isMark_X2_sizeOf rfl ⟨rfl, rfl⟩ (by decide +kernel) ⟨Nat.le_of_ble_eq_true rfl, Nat.le_of_ble_eq_true rfl⟩ hb.ob rfl rfl rfl (Nat.le_of_ble_eq_true rfl) dX2_isMark_2) 5 rfl (fun r1 M2 hw => ?_)
  refine q_if_ne hC 12 dX2_isMark_5 (by decide) 8 rfl hw (fun hw => ?_) (fun hw => ?_)
  · refine q_iconst (v := 0) hC dX2_isMark_12 rfl 13 rfl ?_
    exact r_iret hR dX2_isMark_13 ⟨nb_0, hw⟩
  · refine q_iconst (v := 1) hC dX2_isMark_8 rfl 9 rfl ?_
    refine q_goto hC 13 dX2_isMark_9 (by decide) ?_
    exact r_iret hR dX2_isMark_13 ⟨nb_1, hw⟩
set_option maxRecDepth 100000 in
set_option maxHeartbeats 4000000 in
theorem ctX4_dividedUp (l : Launch) (g : GG) (M : MM) (v0 : Int32) (v1 : Int32) (Q : Int32 → MM → Prop)  (hw : wX4_dividedUp Q M v0 v1) : MI g l yX4_dividedUp wsX4_dividedUp (rmOf 0 0) [.int v0, .int v1] M Q := by
  refine mk_MI (cc := cX4_dividedUp) (maxL := 2) (by decide) rfl (Nat.le_of_ble_eq_true rfl) ?_
  intro z Qf hC hR
  show XX z g Qf 2 0 [(0, .int v0), (1, .int v1)] [] M
  refine q_iload_n hC dX4_dividedUp_0 1 rfl 1 rfl ?_
  refine q_iconst (v := 1) hC dX4_dividedUp_1 rfl 2 rfl ?_
  refine q_icmp_ge hC 9 dX4_dividedUp_2 (by decide) 5 rfl hw (fun hw => ?_) (fun hw => ?_)
  · refine q_iload_n hC dX4_dividedUp_9 0 rfl 10 rfl ?_
    refine q_iload_n hC dX4_dividedUp_10 1 rfl 11 rfl ?_
    refine q_iadd hC dX4_dividedUp_11 12 rfl ?_
    refine q_iconst (v := 1) hC dX4_dividedUp_12 rfl 13 rfl ?_
    refine q_isub hC dX4_dividedUp_13 14 rfl ?_
    refine q_iload_n hC dX4_dividedUp_14 1 rfl 15 rfl ?_
    obtain ⟨hne, hw⟩ := hw
    refine q_idiv hC dX4_dividedUp_15 hne 16 rfl ?_
    exact r_iret hR dX4_dividedUp_16 hw
  · refine q_iconst (v := 0) hC dX4_dividedUp_5 rfl 6 rfl ?_
    refine q_goto hC 16 dX4_dividedUp_6 (by decide) ?_
    exact r_iret hR dX4_dividedUp_16 hw
set_option maxRecDepth 100000 in
set_option maxHeartbeats 4000000 in
theorem ctX2_longWith (l : Launch) (g : GG) (M : MM) (b : Nat) (v1 : Int32) (Q : Int32 → MM → Prop) (hb : tpl g b) (hw : wX2_longWith Q M b v1) : MI g l yX2_longWith wsX2_longWith (rmOf 1 21) [.ref (gA g b), .int v1] M Q := by
  refine mk_MI (cc := cX2_longWith) (maxL := 2) (by decide) rfl (Nat.le_of_ble_eq_true rfl) ?_
  intro z Qf hC hR
  show XX z g Qf 2 0 [(0, .ref (gA g b)), (1, .int v1)] [] M
  refine q_iload_n hC dX2_longWith_0 1 rfl 1 rfl ?_
  refine q_if_ne hC 8 dX2_longWith_1 (by decide) 4 rfl hw (fun hw => ?_) (fun hw => ?_)
  · refine q_iload_n hC dX2_longWith_8 1 rfl 9 rfl ?_
    refine q_iconst (v := 1) hC dX2_longWith_9 rfl 10 rfl ?_
    refine q_iadd hC dX2_longWith_10 11 rfl ?_
    refine q_aload_n hC dX2_longWith_11 0 rfl 12 rfl ?_
    refine q_bipush (v := 7) hC dX2_longWith_12 (by decide) 14 rfl ?_
    refine r_callI hC (go_V (q := (RX2, TX2, 14)) (As := [.int 7]) (rest := [.int (v1 + (1 : Int32))]) hC (ctX2_ruled (zl z) g M b 7 _ hb hw) 1 gX2_longWith_X2_ruled rfl ⟨rfl, rfl⟩ (by decide +kernel) ⟨Nat.le_of_ble_eq_true rfl, Nat.le_of_ble_eq_true rfl⟩ hb.ob rfl rfl rfl (Nat.le_of_ble_eq_true rfl) dX2_longWith_14) 17 rfl (fun r1 M2 hw => ?_)
    refine r_callI hC (go_N (As := [.int (v1 + (1 : Int32)), .int r1]) (rest := []) hC (ctX4_dividedUp (zl z) g M2 (v1 + (1 : Int32)) r1 _ hw) 2 gX2_longWith_X4_dividedUp_n121 rfl ⟨rfl, rfl⟩ 6 rfl (List.mem_of_getElem? (i := 8) (by decide +kernel)) (List.mem_of_getElem? (i := 7) (by decide +kernel)) (by decide +kernel) ⟨Nat.le_of_ble_eq_true rfl, Nat.le_of_ble_eq_true rfl⟩ rfl rfl (Nat.le_of_ble_eq_true rfl) dX2_longWith_17) 20 rfl (fun r3 M4 hw => ?_)
    exact r_iret hR dX2_longWith_20 hw
  · refine q_iconst (v := 1) hC dX2_longWith_4 rfl 5 rfl ?_
    refine q_goto hC 20 dX2_longWith_5 (by decide) ?_
    exact r_iret hR dX2_longWith_20 hw
set_option maxRecDepth 100000 in
set_option maxHeartbeats 4000000 in
theorem ctX2_longOf (l : Launch) (g : GG) (M : MM) (b : Nat) (v1 : Int32) (Q : Int32 → MM → Prop) (hb : tpl g b) (hw : wX2_longOf Q M b v1) : MI g l yX2_longOf wsX2_longOf (rmOf 2 42) [.ref (gA g b), .int v1] M Q := by
  refine mk_MI (cc := cX2_longOf) (maxL := 2) (by decide) rfl (Nat.le_of_ble_eq_true rfl) ?_
  intro z Qf hC hR
  show XX z g Qf 2 0 [(0, .ref (gA g b)), (1, .int v1)] [] M
  refine q_aload_n hC dX2_longOf_0 0 rfl 1 rfl ?_
  refine q_aload_n hC dX2_longOf_1 0 rfl 2 rfl ?_
  refine q_iload_n hC dX2_longOf_2 1 rfl 3 rfl ?_
  refine r_callI hC (go_V (q := (RX2, TX2, 14)) (As := [.int v1]) (rest := [.ref (gA g b)]) hC (ctX2_sizeOf (zl z) g M b v1 _ hb hw) 1 gX2_longOf_X2_sizeOf rfl ⟨rfl, rfl⟩ (by decide +kernel) ⟨Nat.le_of_ble_eq_true rfl, Nat.le_of_ble_eq_true rfl⟩ hb.ob rfl rfl rfl (Nat.le_of_ble_eq_true rfl) dX2_longOf_3) 6 rfl (fun r1 M2 hw => ?_)
  refine r_callI hC (go_V (q := (RX2, TX2, 14)) (As := [.int r1]) (rest := []) hC (ctX2_longWith (zl z) g M2 b r1 _ hb hw) 1 gX2_longOf_X2_longWith rfl ⟨rfl, rfl⟩ (by decide +kernel) ⟨Nat.le_of_ble_eq_true rfl, Nat.le_of_ble_eq_true rfl⟩ hb.ob rfl rfl rfl (Nat.le_of_ble_eq_true rfl) dX2_longOf_6) 9 rfl (fun r3 M4 hw => ?_)
  exact r_iret hR dX2_longOf_9 hw
set_option maxRecDepth 100000 in
set_option maxHeartbeats 4000000 in
theorem ctX2_endOf (l : Launch) (g : GG) (M : MM) (b : Nat) (v1 : Int32) (Q : Int32 → MM → Prop) (hb : tpl g b) (hw : wX2_endOf Q M b v1) : MI g l yX2_endOf wsX2_endOf (rmOf 2 43) [.ref (gA g b), .int v1] M Q := by
  refine mk_MI (cc := cX2_endOf) (maxL := 2) (by decide) rfl (Nat.le_of_ble_eq_true rfl) ?_
  intro z Qf hC hR
  show XX z g Qf 2 0 [(0, .ref (gA g b)), (1, .int v1)] [] M
  refine q_aload_n hC dX2_endOf_0 0 rfl 1 rfl ?_
  refine q_iload_n hC dX2_endOf_1 1 rfl 2 rfl ?_
  refine r_callI hC (go_V (q := (RX2, TX2, 14)) (As := [.int v1]) (rest := []) hC (ctX2_hasBlock (zl z) g M b v1 _ hb hw) 1 gX2_endOf_X2_hasBlock rfl ⟨rfl, rfl⟩ (by decide +kernel) ⟨Nat.le_of_ble_eq_true rfl, Nat.le_of_ble_eq_true rfl⟩ hb.ob rfl rfl rfl (Nat.le_of_ble_eq_true rfl) dX2_endOf_2) 5 rfl (fun r1 M2 hw => ?_)
  refine q_if_eq hC 26 dX2_endOf_5 (by decide) 8 rfl hw (fun hw => ?_) (fun hw => ?_)
  · refine q_iconst (v := 0) hC dX2_endOf_26 rfl 27 rfl ?_
    exact r_iret hR dX2_endOf_27 hw
  · refine q_aload_n hC dX2_endOf_8 0 rfl 9 rfl ?_
    refine q_iload_n hC dX2_endOf_9 1 rfl 10 rfl ?_
    refine r_callI hC (go_V (q := (RX2, TX2, 14)) (As := [.int v1]) (rest := []) hC (ctX2_beginOf (zl z) g M2 b v1 _ hb hw) 1 gX2_endOf_X2_beginOf rfl ⟨rfl, rfl⟩ (by decide +kernel) ⟨Nat.le_of_ble_eq_true rfl, Nat.le_of_ble_eq_true rfl⟩ hb.ob rfl rfl rfl (Nat.le_of_ble_eq_true rfl) dX2_endOf_10) 13 rfl (fun r3 M4 hw => ?_)
    refine q_aload_n hC dX2_endOf_13 0 rfl 14 rfl ?_
    refine q_aload_n hC dX2_endOf_14 0 rfl 15 rfl ?_
    refine q_iload_n hC dX2_endOf_15 1 rfl 16 rfl ?_
    refine r_callI hC (go_V (q := (RX2, TX2, 14)) (As := [.int v1]) (rest := [.ref (gA g b), .int r3]) hC (ctX2_sizeOf (zl z) g M4 b v1 _ hb hw) 1 gX2_endOf_X2_sizeOf rfl ⟨rfl, rfl⟩ (by decide +kernel) ⟨Nat.le_of_ble_eq_true rfl, Nat.le_of_ble_eq_true rfl⟩ hb.ob rfl rfl rfl (Nat.le_of_ble_eq_true rfl) dX2_endOf_16) 19 rfl (fun r5 M6 hw => ?_)
    refine r_callI hC (go_V (q := (RX2, TX2, 14)) (As := [.int r5]) (rest := [.int r3]) hC (ctX2_longWith (zl z) g M6 b r5 _ hb hw) 1 gX2_endOf_X2_longWith rfl ⟨rfl, rfl⟩ (by decide +kernel) ⟨Nat.le_of_ble_eq_true rfl, Nat.le_of_ble_eq_true rfl⟩ hb.ob rfl rfl rfl (Nat.le_of_ble_eq_true rfl) dX2_endOf_19) 22 rfl (fun r7 M8 hw => ?_)
    refine q_iadd hC dX2_endOf_22 23 rfl ?_
    refine q_goto hC 27 dX2_endOf_23 (by decide) ?_
    exact r_iret hR dX2_endOf_27 hw
set_option maxRecDepth 20000 in
theorem inX2_blockWith_X2 : ∀ w ∈ u_ws RX2 TX2 14, w ∈ wsX2_blockWith := by decide +kernel
set_option maxRecDepth 100000 in
set_option maxHeartbeats 4000000 in
theorem ctX2_blockWith (l : Launch) (g : GG) (M : MM) (b : Nat) (v1 : Int32) (Q : Int32 → MM → Prop) (hb : tpl g b) (hw : wX2_blockWith Q M b v1) : MI g l yX2_blockWith wsX2_blockWith (rmOf 3 64) [.ref (gA g b), .int v1] M Q := by
  refine mk_MI (cc := cX2_blockWith) (maxL := 3) (by decide) rfl (Nat.le_of_ble_eq_true rfl) ?_
  intro z Qf hC hR
  show XX z g Qf 3 0 [(0, .ref (gA g b)), (1, .int v1)] [] M
  have B2 : ∀ (n : Nat) (M : MM) (v2 : Int32) , wX2_blockWith_2 Q b v1 n M v2 → XX z g Qf 3 2 [(0, .ref (gA g b)), (1, .int v1), (2, .int v2)] [] M := by
    intro n
    induction n with
    | zero =>
      intro M v2 hw
      exact hw.elim
    | succ n ih =>
      intro M v2 hw
      refine q_iload_n hC dX2_blockWith_2 2 rfl 3 rfl ?_
      refine q_aload_n hC dX2_blockWith_3 0 rfl 4 rfl ?_
      refine q_getI (C := RX2) (T := TX2) (N := 14) (ci := 2) hC inX2_blockWith_X2 hb.ob rfl 8 (by decide) (List.mem_of_getElem? (i := 1) (by decide +kernel)) rfl (fun _ => rfl) dX2_blockWith_4 7 rfl ?_
      refine q_icmp_ge hC 37 dX2_blockWith_7 (by decide) 10 rfl hw (fun hw => ?_) (fun hw => ?_)
      · refine q_bipush (v := (-4)) hC dX2_blockWith_37 (by decide) 39 rfl ?_
        exact r_iret hR dX2_blockWith_39 hw
      · refine q_iload_n hC dX2_blockWith_10 1 rfl 11 rfl ?_
        refine q_aload_n hC dX2_blockWith_11 0 rfl 12 rfl ?_
        refine q_iload_n hC dX2_blockWith_12 2 rfl 13 rfl ?_
        refine r_callI hC (go_V (q := (RX2, TX2, 14)) (As := [.int v2]) (rest := [.int v1]) hC (ctX2_beginOf (zl z) g M b v2 _ hb hw) 1 gX2_blockWith_X2_beginOf rfl ⟨rfl, rfl⟩ (by decide +kernel) ⟨Nat.le_of_ble_eq_true rfl, Nat.le_of_ble_eq_true rfl⟩ hb.ob rfl rfl rfl (Nat.le_of_ble_eq_true rfl) dX2_blockWith_13) 16 rfl (fun r1 M2 hw => ?_)
        refine q_aload_n hC dX2_blockWith_16 0 rfl 17 rfl ?_
        refine q_iload_n hC dX2_blockWith_17 2 rfl 18 rfl ?_
        refine r_callI hC (go_V (q := (RX2, TX2, 14)) (As := [.int v2]) (rest := [.int r1, .int v1]) hC (ctX2_endOf (zl z) g M2 b v2 _ hb hw) 1 gX2_blockWith_X2_endOf rfl ⟨rfl, rfl⟩ (by decide +kernel) ⟨Nat.le_of_ble_eq_true rfl, Nat.le_of_ble_eq_true rfl⟩ hb.ob rfl rfl rfl (Nat.le_of_ble_eq_true rfl) dX2_blockWith_18) 21 rfl (fun r3 M4 hw => ?_)
        refine q_iconst (v := 1) hC dX2_blockWith_21 rfl 22 rfl ?_
        refine q_isub hC dX2_blockWith_22 23 rfl ?_
        refine r_callI hC (go_N (As := [.int v1, .int r1, .int (r3 - (1 : Int32))]) (rest := []) hC (ctX4_isBetween (zl z) g M4 v1 r1 (r3 - (1 : Int32)) _ hw) 3 gX2_blockWith_X4_isBetween_n69 rfl ⟨rfl, rfl⟩ 9 rfl (List.mem_of_getElem? (i := 9) (by decide +kernel)) (List.mem_of_getElem? (i := 19) (by decide +kernel)) (by decide +kernel) ⟨Nat.le_of_ble_eq_true rfl, Nat.le_of_ble_eq_true rfl⟩ rfl rfl (Nat.le_of_ble_eq_true rfl) dX2_blockWith_23) 26 rfl (fun r5 M6 hw => ?_)
        refine q_if_eq hC 31 dX2_blockWith_26 (by decide) 29 rfl hw (fun hw => ?_) (fun hw => ?_)
        · refine q_iinc (v := v2 + 1) (L' := [(2, .int (v2 + 1)), (0, .ref (gA g b)), (1, .int v1)]) hC dX2_blockWith_31 2 rfl rfl (by decide) rfl 34 rfl ?_
          refine q_goto hC 2 dX2_blockWith_34 (by decide) ?_
          exact XX.sub [1, 2, 0] rfl (ih M6 (v2 + 1) hw)
        · refine q_iload_n hC dX2_blockWith_29 2 rfl 30 rfl ?_
          exact r_iret hR dX2_blockWith_30 hw
  refine q_iconst (v := 0) hC dX2_blockWith_0 rfl 1 rfl ?_
  refine q_istore_n (L' := [(2, .int 0), (0, .ref (gA g b)), (1, .int v1)]) hC dX2_blockWith_1 (by decide) rfl 2 rfl ?_
  obtain ⟨n0, hw⟩ := hw
  exact XX.sub [1, 2, 0] rfl (B2 n0 M 0 hw)
set_option maxRecDepth 20000 in
theorem inX2_markCount_X2 : ∀ w ∈ u_ws RX2 TX2 14, w ∈ wsX2_markCount := by decide +kernel
set_option maxRecDepth 100000 in
set_option maxHeartbeats 4000000 in
theorem ctX2_markCount (l : Launch) (g : GG) (M : MM) (b : Nat) (Q : Int32 → MM → Prop) (hb : tpl g b) (hw : wX2_markCount Q M b) : MI g l yX2_markCount wsX2_markCount (rmOf 3 63) [.ref (gA g b)] M Q := by
  refine mk_MI (cc := cX2_markCount) (maxL := 3) (by decide) rfl (Nat.le_of_ble_eq_true rfl) ?_
  intro z Qf hC hR
  show XX z g Qf 3 0 [(0, .ref (gA g b))] [] M
  have B23 : ∀ (K4 : MM → Int32 → Int32 → Prop) (hK4 : ∀ (M : MM) (v1 : Int32) (v2 : Int32) , K4 M v1 v2 → XX z g Qf 3 4 [(0, .ref (gA g b)), (1, .int v1), (2, .int v2)] [] M) (M : MM) (v1 : Int32) (v2 : Int32), wX2_markCount_23 Q K4 b M v1 v2 → XX z g Qf 3 23 [(0, .ref (gA g b)), (1, .int v1), (2, .int v2)] [] M := by
    intro K4 hK4 M v1 v2 hw
    refine q_iinc (v := v2 + 1) (L' := [(2, .int (v2 + 1)), (0, .ref (gA g b)), (1, .int v1)]) hC dX2_markCount_23 2 rfl rfl (by decide) rfl 26 rfl ?_
    refine q_goto hC 4 dX2_markCount_26 (by decide) ?_
    exact XX.sub [1, 2, 0] rfl (hK4 M v1 (v2 + 1) hw)
  have B4 : ∀ (n : Nat) (M : MM) (v1 : Int32) (v2 : Int32) , wX2_markCount_4 Q b n M v1 v2 → XX z g Qf 3 4 [(0, .ref (gA g b)), (1, .int v1), (2, .int v2)] [] M := by
    intro n
    induction n with
    | zero =>
      intro M v1 v2 hw
      exact hw.elim
    | succ n ih =>
      intro M v1 v2 hw
      refine q_iload_n hC dX2_markCount_4 2 rfl 5 rfl ?_
      refine q_aload_n hC dX2_markCount_5 0 rfl 6 rfl ?_
      refine q_getI (C := RX2) (T := TX2) (N := 14) (ci := 2) hC inX2_markCount_X2 hb.ob rfl 8 (by decide) (List.mem_of_getElem? (i := 1) (by decide +kernel)) rfl (fun _ => rfl) dX2_markCount_6 9 rfl ?_
      refine q_icmp_ge hC 29 dX2_markCount_9 (by decide) 12 rfl hw (fun hw => ?_) (fun hw => ?_)
      · refine q_iload_n hC dX2_markCount_29 1 rfl 30 rfl ?_
        exact r_iret hR dX2_markCount_30 hw
      · refine q_aload_n hC dX2_markCount_12 0 rfl 13 rfl ?_
        refine q_iload_n hC dX2_markCount_13 2 rfl 14 rfl ?_
        refine r_callI hC (go_V (q := (RX2, TX2, 14)) (As := [.int v2]) (rest := []) hC (ctX2_isMark (zl z) g M b v2 _ hb hw) 1 gX2_markCount_X2_isMark rfl ⟨rfl, rfl⟩ (by decide +kernel) ⟨Nat.le_of_ble_eq_true rfl, Nat.le_of_ble_eq_true rfl⟩ hb.ob rfl rfl rfl (Nat.le_of_ble_eq_true rfl) dX2_markCount_14) 17 rfl (fun r1 M2 hw => ?_)
        refine q_if_eq hC 23 dX2_markCount_17 (by decide) 20 rfl hw (fun hw => ?_) (fun hw => ?_)
        · exact XX.sub [0, 1, 2] rfl (B23 _ (fun M v1 v2 hw => ih M v1 v2 hw) M2 v1 v2 hw)
        · refine q_iinc (v := v1 + 1) (L' := [(1, .int (v1 + 1)), (0, .ref (gA g b)), (2, .int v2)]) hC dX2_markCount_20 1 rfl rfl (by decide) rfl 23 rfl ?_
          exact XX.sub [1, 0, 2] rfl (B23 _ (fun M v1 v2 hw => ih M v1 v2 hw) M2 (v1 + 1) v2 hw)
  refine q_iconst (v := 0) hC dX2_markCount_0 rfl 1 rfl ?_
  refine q_istore_n (L' := [(1, .int 0), (0, .ref (gA g b))]) hC dX2_markCount_1 (by decide) rfl 2 rfl ?_
  refine q_iconst (v := 0) hC dX2_markCount_2 rfl 3 rfl ?_
  refine q_istore_n (L' := [(2, .int 0), (1, .int 0), (0, .ref (gA g b))]) hC dX2_markCount_3 (by decide) rfl 4 rfl ?_
  obtain ⟨n0, hw⟩ := hw
  exact XX.sub [2, 1, 0] rfl (B4 n0 M 0 0 hw)
set_option maxRecDepth 20000 in
theorem inX2_byteCount_X2 : ∀ w ∈ u_ws RX2 TX2 14, w ∈ wsX2_byteCount := by decide +kernel
set_option maxRecDepth 100000 in
set_option maxHeartbeats 4000000 in
theorem ctX2_byteCount (l : Launch) (g : GG) (M : MM) (b : Nat) (Q : Int32 → MM → Prop) (hb : tpl g b) (hw : wX2_byteCount Q M b) : MI g l yX2_byteCount wsX2_byteCount (rmOf 2 42) [.ref (gA g b)] M Q := by
  refine mk_MI (cc := cX2_byteCount) (maxL := 3) (by decide) rfl (Nat.le_of_ble_eq_true rfl) ?_
  intro z Qf hC hR
  show XX z g Qf 3 0 [(0, .ref (gA g b))] [] M
  have B4 : ∀ (n : Nat) (M : MM) (v1 : Int32) (v2 : Int32) , wX2_byteCount_4 Q b n M v1 v2 → XX z g Qf 3 4 [(0, .ref (gA g b)), (1, .int v1), (2, .int v2)] [] M := by
    intro n
    induction n with
    | zero =>
      intro M v1 v2 hw
      exact hw.elim
    | succ n ih =>
      intro M v1 v2 hw
      refine q_iload_n hC dX2_byteCount_4 2 rfl 5 rfl ?_
      refine q_aload_n hC dX2_byteCount_5 0 rfl 6 rfl ?_
      refine q_getI (C := RX2) (T := TX2) (N := 14) (ci := 2) hC inX2_byteCount_X2 hb.ob rfl 8 (by decide) (List.mem_of_getElem? (i := 1) (by decide +kernel)) rfl (fun _ => rfl) dX2_byteCount_6 9 rfl ?_
      refine q_icmp_ge hC 26 dX2_byteCount_9 (by decide) 12 rfl hw (fun hw => ?_) (fun hw => ?_)
      · refine q_iload_n hC dX2_byteCount_26 1 rfl 27 rfl ?_
        exact r_iret hR dX2_byteCount_27 hw
      · refine q_iload_n hC dX2_byteCount_12 1 rfl 13 rfl ?_
        refine q_aload_n hC dX2_byteCount_13 0 rfl 14 rfl ?_
        refine q_iload_n hC dX2_byteCount_14 2 rfl 15 rfl ?_
        refine r_callI hC (go_V (q := (RX2, TX2, 14)) (As := [.int v2]) (rest := [.int v1]) hC (ctX2_sizeOf (zl z) g M b v2 _ hb hw) 1 gX2_byteCount_X2_sizeOf rfl ⟨rfl, rfl⟩ (by decide +kernel) ⟨Nat.le_of_ble_eq_true rfl, Nat.le_of_ble_eq_true rfl⟩ hb.ob rfl rfl rfl (Nat.le_of_ble_eq_true rfl) dX2_byteCount_15) 18 rfl (fun r1 M2 hw => ?_)
        refine q_iadd hC dX2_byteCount_18 19 rfl ?_
        refine q_istore_n (L' := [(1, .int (v1 + r1)), (0, .ref (gA g b)), (2, .int v2)]) hC dX2_byteCount_19 (by decide) rfl 20 rfl ?_
        refine q_iinc (v := v2 + 1) (L' := [(2, .int (v2 + 1)), (1, .int (v1 + r1)), (0, .ref (gA g b))]) hC dX2_byteCount_20 2 rfl rfl (by decide) rfl 23 rfl ?_
        refine q_goto hC 4 dX2_byteCount_23 (by decide) ?_
        exact XX.sub [2, 1, 0] rfl (ih M2 (v1 + r1) (v2 + 1) hw)
  refine q_iconst (v := 0) hC dX2_byteCount_0 rfl 1 rfl ?_
  refine q_istore_n (L' := [(1, .int 0), (0, .ref (gA g b))]) hC dX2_byteCount_1 (by decide) rfl 2 rfl ?_
  refine q_iconst (v := 0) hC dX2_byteCount_2 rfl 3 rfl ?_
  refine q_istore_n (L' := [(2, .int 0), (1, .int 0), (0, .ref (gA g b))]) hC dX2_byteCount_3 (by decide) rfl 4 rfl ?_
  obtain ⟨n0, hw⟩ := hw
  exact XX.sub [2, 1, 0] rfl (B4 n0 M 0 0 hw)
set_option maxRecDepth 100000 in
set_option maxHeartbeats 4000000 in
theorem ctX4_setCell (l : Launch) (g : GG) (M : MM) (k0 : Nat) (v1 : Int32) (v2 : Int32) (Q : MM → Prop) (hk0 : isI g k0) (hw : wX4_setCell Q M k0 v1 v2) : MV g l yX4_setCell wsX4_setCell (rmOf 0 0) [.ref (gA g k0), .int v1, .int v2] M Q := by
  refine mk_MV (cc := cX4_setCell) (maxL := 3) (by decide) rfl (Nat.le_of_ble_eq_true rfl) ?_
  intro z Qf hC hR
  show XX z g Qf 3 0 [(0, .ref (gA g k0)), (1, .int v1), (2, .int v2)] [] M
  refine q_aload_n hC dX4_setCell_0 0 rfl 1 rfl ?_
  refine q_ifnull hC dX4_setCell_1 4 rfl ?_
  refine q_iload_n hC dX4_setCell_4 1 rfl 5 rfl ?_
  refine q_if_lt hC 18 dX4_setCell_5 (by decide) 8 rfl hw (fun hw => ?_) (fun hw => ?_)
  · exact r_vret hR dX4_setCell_18 hw
  · refine q_iload_n hC dX4_setCell_8 1 rfl 9 rfl ?_
    refine q_aload_n hC dX4_setCell_9 0 rfl 10 rfl ?_
    refine q_alen hC hk0 dX4_setCell_10 11 rfl ?_
    refine q_icmp_ge hC 18 dX4_setCell_11 (by decide) 14 rfl hw (fun hw => ?_) (fun hw => ?_)
    · exact r_vret hR dX4_setCell_18 hw
    · refine q_aload_n hC dX4_setCell_14 0 rfl 15 rfl ?_
      refine q_iload_n hC dX4_setCell_15 1 rfl 16 rfl ?_
      refine q_iload_n hC dX4_setCell_16 2 rfl 17 rfl ?_
      obtain ⟨hin, hw⟩ := hw
      refine q_iast hC hk0 hin dX4_setCell_17 18 rfl (fun M1 eM1 => ?_)
      have hw := hw M1 eM1
      exact r_vret hR dX4_setCell_18 hw
set_option maxRecDepth 20000 in
theorem inX2_typeOne_X2 : ∀ w ∈ u_ws RX2 TX2 14, w ∈ wsX2_typeOne := by decide +kernel
set_option maxRecDepth 100000 in
set_option maxHeartbeats 4000000 in
theorem ctX2_typeOne (l : Launch) (g : GG) (M : MM) (b : Nat) (v1 : Int32) (Q : Int32 → MM → Prop) (hb : tpl g b) (hw : wX2_typeOne Q M b v1) : MI g l yX2_typeOne wsX2_typeOne (rmOf 1 22) [.ref (gA g b), .int v1] M Q := by
  refine mk_MI (cc := cX2_typeOne) (maxL := 2) (by decide) rfl (Nat.le_of_ble_eq_true rfl) ?_
  intro z Qf hC hR
  show XX z g Qf 2 0 [(0, .ref (gA g b)), (1, .int v1)] [] M
  refine q_aload_n hC dX2_typeOne_0 0 rfl 1 rfl ?_
  refine q_getR (C := RX2) (T := TX2) (N := 14) (ci := 2) hC inX2_typeOne_X2 hb.ob rfl 5 (by decide) (List.mem_of_getElem? (i := 1) (by decide +kernel)) rfl (b + 6) (fun _ => rfl) dX2_typeOne_1 4 rfl ?_
  refine q_aload_n hC dX2_typeOne_4 0 rfl 5 rfl ?_
  refine q_getI (C := RX2) (T := TX2) (N := 14) (ci := 2) hC inX2_typeOne_X2 hb.ob rfl 11 (by decide) (List.mem_of_getElem? (i := 2) (by decide +kernel)) rfl (fun _ => rfl) dX2_typeOne_5 8 rfl ?_
  refine q_iload_n hC dX2_typeOne_8 1 rfl 9 rfl ?_
  refine r_callV hC (go_N (As := [.ref (gA g (b + 6)), .int (M b 11), .int v1]) (rest := []) hC (ctX4_setCell (zl z) g M (b + 6) (M b 11) v1 _ (hb.ar 6 (by decide) (by decide)) hw) 3 gX2_typeOne_X4_setCell_n139 rfl ⟨rfl, rfl⟩ 7 rfl (List.mem_of_getElem? (i := 4) (by decide +kernel)) (List.mem_of_getElem? (i := 3) (by decide +kernel)) (by decide +kernel) ⟨Nat.le_of_ble_eq_true rfl, Nat.le_of_ble_eq_true rfl⟩ rfl rfl (Nat.le_of_ble_eq_true rfl) dX2_typeOne_9) 12 rfl (fun M1 hw => ?_)
  refine q_aload_n hC dX2_typeOne_12 0 rfl 13 rfl ?_
  refine q_dup hC dX2_typeOne_13 rfl 14 rfl ?_
  refine q_getI (C := RX2) (T := TX2) (N := 14) (ci := 2) hC inX2_typeOne_X2 hb.ob rfl 11 (by decide) (List.mem_of_getElem? (i := 2) (by decide +kernel)) rfl (fun _ => rfl) dX2_typeOne_14 17 rfl ?_
  refine q_iconst (v := 1) hC dX2_typeOne_17 rfl 18 rfl ?_
  refine q_iadd hC dX2_typeOne_18 19 rfl ?_
  refine q_putI (C := RX2) (T := TX2) (N := 14) (ci := 2) hC inX2_typeOne_X2 tyX2 tyX2_ok nmX2 hb.ob rfl 11 (by decide) (List.mem_of_getElem? (i := 2) (by decide +kernel)) rfl rfl rfl (fun _ => Nat.le_of_ble_eq_true rfl) (fun _ => rfl) dX2_typeOne_19 22 rfl (fun M2 eM2 => ?_)
  have hw := hw M2 eM2
  refine q_aload_n hC dX2_typeOne_22 0 rfl 23 rfl ?_
  refine q_getI (C := RX2) (T := TX2) (N := 14) (ci := 2) hC inX2_typeOne_X2 hb.ob rfl 11 (by decide) (List.mem_of_getElem? (i := 2) (by decide +kernel)) rfl (fun _ => rfl) dX2_typeOne_23 26 rfl ?_
  exact r_iret hR dX2_typeOne_26 hw
set_option maxRecDepth 100000 in
set_option maxHeartbeats 4000000 in
theorem ctX2_beginningAt (l : Launch) (g : GG) (M : MM) (b : Nat) (v1 : Int32) (Q : Int32 → MM → Prop) (hb : tpl g b) (hw : wX2_beginningAt Q M b v1) : MI g l yX2_beginningAt wsX2_beginningAt (rmOf 3 64) [.ref (gA g b), .int v1] M Q := by
  refine mk_MI (cc := cX2_beginningAt) (maxL := 2) (by decide) rfl (Nat.le_of_ble_eq_true rfl) ?_
  intro z Qf hC hR
  show XX z g Qf 2 0 [(0, .ref (gA g b)), (1, .int v1)] [] M
  refine q_aload_n hC dX2_beginningAt_0 0 rfl 1 rfl ?_
  refine q_iload_n hC dX2_beginningAt_1 1 rfl 2 rfl ?_
  refine q_iconst (v := 1) hC dX2_beginningAt_2 rfl 3 rfl ?_
  refine q_isub hC dX2_beginningAt_3 4 rfl ?_
  refine r_callI hC (go_V (q := (RX2, TX2, 14)) (As := [.int (v1 - (1 : Int32))]) (rest := []) hC (ctX2_endOf (zl z) g M b (v1 - (1 : Int32)) _ hb hw) 1 gX2_beginningAt_X2_endOf rfl ⟨rfl, rfl⟩ (by decide +kernel) ⟨Nat.le_of_ble_eq_true rfl, Nat.le_of_ble_eq_true rfl⟩ hb.ob rfl rfl rfl (Nat.le_of_ble_eq_true rfl) dX2_beginningAt_4) 7 rfl (fun r1 M2 hw => ?_)
  refine q_aload_n hC dX2_beginningAt_7 0 rfl 8 rfl ?_
  refine q_bipush (v := 6) hC dX2_beginningAt_8 (by decide) 10 rfl ?_
  refine r_callI hC (go_V (q := (RX2, TX2, 14)) (As := [.int 6]) (rest := [.int r1]) hC (ctX2_ruled (zl z) g M2 b 6 _ hb hw) 1 gX2_beginningAt_X2_ruled rfl ⟨rfl, rfl⟩ (by decide +kernel) ⟨Nat.le_of_ble_eq_true rfl, Nat.le_of_ble_eq_true rfl⟩ hb.ob rfl rfl rfl (Nat.le_of_ble_eq_true rfl) dX2_beginningAt_10) 13 rfl (fun r3 M4 hw => ?_)
  refine q_iadd hC dX2_beginningAt_13 14 rfl ?_
  exact r_iret hR dX2_beginningAt_14 hw
set_option maxRecDepth 100000 in
set_option maxHeartbeats 4000000 in
theorem ctX2_hasRoomAt (l : Launch) (g : GG) (M : MM) (b : Nat) (v1 : Int32) (v2 : Int32) (Q : Int32 → MM → Prop) (hb : tpl g b) (hw : wX2_hasRoomAt Q M b v1 v2) : MI g l yX2_hasRoomAt wsX2_hasRoomAt (rmOf 4 85) [.ref (gA g b), .int v1, .int v2] M Q := by
  refine mk_MZ (cc := cX2_hasRoomAt) (maxL := 3) (by decide) rfl (Nat.le_of_ble_eq_true rfl) ?_
  intro z Qf hC hR
  show XX z g Qf 3 0 [(0, .ref (gA g b)), (1, .int v1), (2, .int v2)] [] M
  have B29 : ∀ (M : MM), wX2_hasRoomAt_29 Q b v1 v2 M → XX z g Qf 3 29 [] [] M := by
    intro M hw
    refine q_iconst (v := 0) hC dX2_hasRoomAt_29 rfl 30 rfl ?_
    exact r_iret hR dX2_hasRoomAt_30 ⟨nb_0, hw⟩
  refine q_iload_n hC dX2_hasRoomAt_0 1 rfl 1 rfl ?_
  refine q_bipush (v := 12) hC dX2_hasRoomAt_1 (by decide) 3 rfl ?_
  refine q_icmp_ge hC 29 dX2_hasRoomAt_3 (by decide) 6 rfl hw (fun hw => ?_) (fun hw => ?_)
  · exact XX.sub [] rfl (B29 M hw)
  · refine q_aload_n hC dX2_hasRoomAt_6 0 rfl 7 rfl ?_
    refine q_iload_n hC dX2_hasRoomAt_7 1 rfl 8 rfl ?_
    refine r_callI hC (go_V (q := (RX2, TX2, 14)) (As := [.int v1]) (rest := []) hC (ctX2_beginningAt (zl z) g M b v1 _ hb hw) 1 gX2_hasRoomAt_X2_beginningAt rfl ⟨rfl, rfl⟩ (by decide +kernel) ⟨Nat.le_of_ble_eq_true rfl, Nat.le_of_ble_eq_true rfl⟩ hb.ob rfl rfl rfl (Nat.le_of_ble_eq_true rfl) dX2_hasRoomAt_8) 11 rfl (fun r1 M2 hw => ?_)
    refine q_aload_n hC dX2_hasRoomAt_11 0 rfl 12 rfl ?_
    refine q_iload_n hC dX2_hasRoomAt_12 2 rfl 13 rfl ?_
    refine r_callI hC (go_V (q := (RX2, TX2, 14)) (As := [.int v2]) (rest := [.int r1]) hC (ctX2_longWith (zl z) g M2 b v2 _ hb hw) 1 gX2_hasRoomAt_X2_longWith rfl ⟨rfl, rfl⟩ (by decide +kernel) ⟨Nat.le_of_ble_eq_true rfl, Nat.le_of_ble_eq_true rfl⟩ hb.ob rfl rfl rfl (Nat.le_of_ble_eq_true rfl) dX2_hasRoomAt_13) 16 rfl (fun r3 M4 hw => ?_)
    refine q_iadd hC dX2_hasRoomAt_16 17 rfl ?_
    refine q_aload_n hC dX2_hasRoomAt_17 0 rfl 18 rfl ?_
    refine q_iconst (v := 0) hC dX2_hasRoomAt_18 rfl 19 rfl ?_
    refine r_callI hC (go_V (q := (RX2, TX2, 14)) (As := [.int 0]) (rest := [.int (r1 + r3)]) hC (ctX2_ruled (zl z) g M4 b 0 _ hb hw) 1 gX2_hasRoomAt_X2_ruled rfl ⟨rfl, rfl⟩ (by decide +kernel) ⟨Nat.le_of_ble_eq_true rfl, Nat.le_of_ble_eq_true rfl⟩ hb.ob rfl rfl rfl (Nat.le_of_ble_eq_true rfl) dX2_hasRoomAt_19) 22 rfl (fun r5 M6 hw => ?_)
    refine q_icmp_gt hC 29 dX2_hasRoomAt_22 (by decide) 25 rfl hw (fun hw => ?_) (fun hw => ?_)
    · exact XX.sub [] rfl (B29 M6 hw)
    · refine q_iconst (v := 1) hC dX2_hasRoomAt_25 rfl 26 rfl ?_
      refine q_goto hC 30 dX2_hasRoomAt_26 (by decide) ?_
      exact r_iret hR dX2_hasRoomAt_30 ⟨nb_1, hw⟩
set_option maxRecDepth 100000 in
set_option maxHeartbeats 4000000 in
theorem ctJ6_bitCount_0f7a4 (l : Launch) (g : GG) (M : MM) (v0 : Int32) (Q : Int32 → MM → Prop)  (hw : wJ6_bitCount_0f7a4 Q M v0) : MI g l yJ6_bitCount_0f7a4 wsJ6_bitCount_0f7a4 (rmOf 0 0) [.int v0] M Q := by
  refine mk_MI (cc := cJ6_bitCount_0f7a4) (maxL := 1) (by decide) rfl (Nat.le_of_ble_eq_true rfl) ?_
  intro z Qf hC hR
  show XX z g Qf 1 0 [(0, .int v0)] [] M
  refine q_iload_n hC dJ6_bitCount_0f7a4_0 0 rfl 1 rfl ?_
  refine q_iload_n hC dJ6_bitCount_0f7a4_1 0 rfl 2 rfl ?_
  refine q_iconst (v := 1) hC dJ6_bitCount_0f7a4_2 rfl 3 rfl ?_
  refine q_iushr hC dJ6_bitCount_0f7a4_3 4 rfl ?_
  refine q_ldcw (v := 1431655765) hC (List.mem_of_getElem? (i := 1) (by decide +kernel)) dJ6_bitCount_0f7a4_4 7 rfl ?_
  refine q_iand hC dJ6_bitCount_0f7a4_7 8 rfl ?_
  refine q_isub hC dJ6_bitCount_0f7a4_8 9 rfl ?_
  refine q_nameI (fun x1 ex1 => ?_)
  have hw := hw x1 ex1
  refine q_istore_n (L' := [(0, .int x1)]) hC dJ6_bitCount_0f7a4_9 (by decide) rfl 10 rfl ?_
  refine q_iload_n hC dJ6_bitCount_0f7a4_10 0 rfl 11 rfl ?_
  refine q_ldcw (v := 858993459) hC (List.mem_of_getElem? (i := 2) (by decide +kernel)) dJ6_bitCount_0f7a4_11 14 rfl ?_
  refine q_iand hC dJ6_bitCount_0f7a4_14 15 rfl ?_
  refine q_iload_n hC dJ6_bitCount_0f7a4_15 0 rfl 16 rfl ?_
  refine q_iconst (v := 2) hC dJ6_bitCount_0f7a4_16 rfl 17 rfl ?_
  refine q_iushr hC dJ6_bitCount_0f7a4_17 18 rfl ?_
  refine q_ldcw (v := 858993459) hC (List.mem_of_getElem? (i := 2) (by decide +kernel)) dJ6_bitCount_0f7a4_18 21 rfl ?_
  refine q_iand hC dJ6_bitCount_0f7a4_21 22 rfl ?_
  refine q_iadd hC dJ6_bitCount_0f7a4_22 23 rfl ?_
  refine q_nameI (fun x2 ex2 => ?_)
  have hw := hw x2 ex2
  refine q_istore_n (L' := [(0, .int x2)]) hC dJ6_bitCount_0f7a4_23 (by decide) rfl 24 rfl ?_
  refine q_iload_n hC dJ6_bitCount_0f7a4_24 0 rfl 25 rfl ?_
  refine q_iload_n hC dJ6_bitCount_0f7a4_25 0 rfl 26 rfl ?_
  refine q_iconst (v := 4) hC dJ6_bitCount_0f7a4_26 rfl 27 rfl ?_
  refine q_iushr hC dJ6_bitCount_0f7a4_27 28 rfl ?_
  refine q_iadd hC dJ6_bitCount_0f7a4_28 29 rfl ?_
  refine q_ldcw (v := 252645135) hC (List.mem_of_getElem? (i := 3) (by decide +kernel)) dJ6_bitCount_0f7a4_29 32 rfl ?_
  refine q_iand hC dJ6_bitCount_0f7a4_32 33 rfl ?_
  refine q_nameI (fun x3 ex3 => ?_)
  have hw := hw x3 ex3
  refine q_istore_n (L' := [(0, .int x3)]) hC dJ6_bitCount_0f7a4_33 (by decide) rfl 34 rfl ?_
  refine q_iload_n hC dJ6_bitCount_0f7a4_34 0 rfl 35 rfl ?_
  refine q_iload_n hC dJ6_bitCount_0f7a4_35 0 rfl 36 rfl ?_
  refine q_bipush (v := 8) hC dJ6_bitCount_0f7a4_36 (by decide) 38 rfl ?_
  refine q_iushr hC dJ6_bitCount_0f7a4_38 39 rfl ?_
  refine q_iadd hC dJ6_bitCount_0f7a4_39 40 rfl ?_
  refine q_nameI (fun x4 ex4 => ?_)
  have hw := hw x4 ex4
  refine q_istore_n (L' := [(0, .int x4)]) hC dJ6_bitCount_0f7a4_40 (by decide) rfl 41 rfl ?_
  refine q_iload_n hC dJ6_bitCount_0f7a4_41 0 rfl 42 rfl ?_
  refine q_iload_n hC dJ6_bitCount_0f7a4_42 0 rfl 43 rfl ?_
  refine q_bipush (v := 16) hC dJ6_bitCount_0f7a4_43 (by decide) 45 rfl ?_
  refine q_iushr hC dJ6_bitCount_0f7a4_45 46 rfl ?_
  refine q_iadd hC dJ6_bitCount_0f7a4_46 47 rfl ?_
  refine q_nameI (fun x5 ex5 => ?_)
  have hw := hw x5 ex5
  refine q_istore_n (L' := [(0, .int x5)]) hC dJ6_bitCount_0f7a4_47 (by decide) rfl 48 rfl ?_
  refine q_iload_n hC dJ6_bitCount_0f7a4_48 0 rfl 49 rfl ?_
  refine q_bipush (v := 63) hC dJ6_bitCount_0f7a4_49 (by decide) 51 rfl ?_
  refine q_iand hC dJ6_bitCount_0f7a4_51 52 rfl ?_
  exact r_iret hR dJ6_bitCount_0f7a4_52 hw
set_option maxRecDepth 20000 in
theorem inX2_setColumn_X2 : ∀ w ∈ u_ws RX2 TX2 14, w ∈ wsX2_setColumn := by decide +kernel
set_option maxRecDepth 100000 in
set_option maxHeartbeats 4000000 in
theorem ctX2_setColumn (l : Launch) (g : GG) (M : MM) (b : Nat) (v1 : Int32) (v2 : Int32) (v3 : Int32) (Q : MM → Prop) (hb : tpl g b) (hw : wX2_setColumn Q M b v1 v2 v3) : MV g l yX2_setColumn wsX2_setColumn (rmOf 1 22) [.ref (gA g b), .int v1, .int v2, .int v3] M Q := by
  refine mk_MV (cc := cX2_setColumn) (maxL := 4) (by decide) rfl (Nat.le_of_ble_eq_true rfl) ?_
  intro z Qf hC hR
  show XX z g Qf 4 0 [(0, .ref (gA g b)), (1, .int v1), (2, .int v2), (3, .int v3)] [] M
  refine q_aload_n hC dX2_setColumn_0 0 rfl 1 rfl ?_
  refine q_getR (C := RX2) (T := TX2) (N := 14) (ci := 2) hC inX2_setColumn_X2 hb.ob rfl 3 (by decide) (List.mem_of_getElem? (i := 1) (by decide +kernel)) rfl (b + 4) (fun _ => rfl) dX2_setColumn_1 4 rfl ?_
  refine q_iload_n hC dX2_setColumn_4 1 rfl 5 rfl ?_
  refine q_bipush (v := 13) hC dX2_setColumn_5 (by decide) 7 rfl ?_
  refine q_imul hC dX2_setColumn_7 8 rfl ?_
  refine q_iload_n hC dX2_setColumn_8 2 rfl 9 rfl ?_
  refine q_iadd hC dX2_setColumn_9 10 rfl ?_
  refine q_iload_n hC dX2_setColumn_10 3 rfl 11 rfl ?_
  refine r_callV hC (go_N (As := [.ref (gA g (b + 4)), .int ((v1 * (13 : Int32)) + v2), .int v3]) (rest := []) hC (ctX4_setCell (zl z) g M (b + 4) ((v1 * (13 : Int32)) + v2) v3 _ (hb.ar 4 (by decide) (by decide)) hw) 3 gX2_setColumn_X4_setCell_n139 rfl ⟨rfl, rfl⟩ 7 rfl (List.mem_of_getElem? (i := 3) (by decide +kernel)) (List.mem_of_getElem? (i := 2) (by decide +kernel)) (by decide +kernel) ⟨Nat.le_of_ble_eq_true rfl, Nat.le_of_ble_eq_true rfl⟩ rfl rfl (Nat.le_of_ble_eq_true rfl) dX2_setColumn_11) 14 rfl (fun M1 hw => ?_)
  exact r_vret hR dX2_setColumn_14 hw
set_option maxRecDepth 20000 in
theorem inX2_putBlock_X2 : ∀ w ∈ u_ws RX2 TX2 14, w ∈ wsX2_putBlock := by decide +kernel
set_option maxRecDepth 100000 in
set_option maxHeartbeats 4000000 in
theorem ctX2_putBlock (l : Launch) (g : GG) (M : MM) (b : Nat) (v1 : Int32) (v2 : Int32) (v3 : Int32) (Q : MM → Prop) (hb : tpl g b) (hw : wX2_putBlock Q M b v1 v2 v3) : MV g l yX2_putBlock wsX2_putBlock (rmOf 2 45) [.ref (gA g b), .int v1, .int v2, .int v3] M Q := by
  refine mk_MV (cc := cX2_putBlock) (maxL := 8) (by decide) rfl (Nat.le_of_ble_eq_true rfl) ?_
  intro z Qf hC hR
  show XX z g Qf 8 0 [(0, .ref (gA g b)), (1, .int v1), (2, .int v2), (3, .int v3)] [] M
  have B67 : ∀ (K31 : MM → Int32 → Int32 → Prop) (hK31 : ∀ (M : MM) (v4 : Int32) (v5 : Int32) , K31 M v4 v5 → XX z g Qf 8 31 [(0, .ref (gA g b)), (1, .int v1), (3, .int v3), (4, .int v4), (5, .int v5)] [] M) (M : MM) (v4 : Int32) (v5 : Int32) (v6 : Int32) (p0 : Int32) (p1 : Int32), wX2_putBlock_67 Q K31 b v1 v2 v3 M v4 v5 v6 p0 p1 → XX z g Qf 8 67 [(0, .ref (gA g b)), (1, .int v1), (3, .int v3), (4, .int v4), (5, .int v5), (6, .int v6)] [.int p0, .int p1] M := by
    intro K31 hK31 M v4 v5 v6 p0 p1 hw
    refine q_ior hC dX2_putBlock_67 68 rfl ?_
    refine q_istore (L' := [(7, .int (p1 ||| p0)), (0, .ref (gA g b)), (1, .int v1), (3, .int v3), (4, .int v4), (5, .int v5), (6, .int v6)]) hC dX2_putBlock_68 (by decide) rfl 70 rfl ?_
    refine q_aload_n hC dX2_putBlock_70 1 rfl 71 rfl ?_
    refine q_getR (C := RX2) (T := TX2) (N := 14) (ci := 2) hC inX2_putBlock_X2 hb.ob rfl 4 (by decide) (List.mem_of_getElem? (i := 5) (by decide +kernel)) rfl (b + 5) (fun _ => rfl) dX2_putBlock_71 74 rfl ?_
    refine q_iload_n hC dX2_putBlock_74 2 rfl 75 rfl ?_
    refine q_bipush (v := 12) hC dX2_putBlock_75 (by decide) 77 rfl ?_
    refine q_imul hC dX2_putBlock_77 78 rfl ?_
    refine q_iload hC dX2_putBlock_78 5 rfl 80 rfl ?_
    refine q_iadd hC dX2_putBlock_80 81 rfl ?_
    refine q_iload hC dX2_putBlock_81 6 rfl 83 rfl ?_
    refine r_callV hC (go_N (As := [.ref (gA g (b + 5)), .int ((v1 * (12 : Int32)) + v5), .int v6]) (rest := []) hC (ctX4_setCell (zl z) g M (b + 5) ((v1 * (12 : Int32)) + v5) v6 _ (hb.ar 5 (by decide) (by decide)) hw) 3 gX2_putBlock_X4_setCell_n139 rfl ⟨rfl, rfl⟩ 7 rfl (List.mem_of_getElem? (i := 7) (by decide +kernel)) (List.mem_of_getElem? (i := 6) (by decide +kernel)) (by decide +kernel) ⟨Nat.le_of_ble_eq_true rfl, Nat.le_of_ble_eq_true rfl⟩ rfl rfl (Nat.le_of_ble_eq_true rfl) dX2_putBlock_83) 86 rfl (fun M9 hw => ?_)
    refine q_aload_n hC dX2_putBlock_86 1 rfl 87 rfl ?_
    refine q_iload_n hC dX2_putBlock_87 2 rfl 88 rfl ?_
    refine q_iload hC dX2_putBlock_88 5 rfl 90 rfl ?_
    refine q_iload hC dX2_putBlock_90 0 rfl 92 rfl ?_
    refine r_callV hC (go_V (q := (RX2, TX2, 14)) (As := [.int v1, .int v5, .int (p1 ||| p0)]) (rest := []) hC (ctX2_setColumn (zl z) g M9 b v1 v5 (p1 ||| p0) _ hb hw) 3 gX2_putBlock_X2_setColumn rfl ⟨rfl, rfl⟩ (by decide +kernel) ⟨Nat.le_of_ble_eq_true rfl, Nat.le_of_ble_eq_true rfl⟩ hb.ob rfl rfl rfl (Nat.le_of_ble_eq_true rfl) dX2_putBlock_92) 95 rfl (fun M10 hw => ?_)
    refine q_iload hC dX2_putBlock_95 4 rfl 97 rfl ?_
    refine q_iload hC dX2_putBlock_97 0 rfl 99 rfl ?_
    refine q_ixor hC dX2_putBlock_99 100 rfl ?_
    refine q_nameI (fun x11 ex11 => ?_)
    have hw := hw x11 ex11
    refine q_istore (L' := [(4, .int x11), (7, .int (p1 ||| p0)), (0, .ref (gA g b)), (1, .int v1), (3, .int v3), (5, .int v5), (6, .int v6)]) hC dX2_putBlock_100 (by decide) rfl 102 rfl ?_
    refine q_iinc (v := v5 + 1) (L' := [(5, .int (v5 + 1)), (4, .int x11), (7, .int (p1 ||| p0)), (0, .ref (gA g b)), (1, .int v1), (3, .int v3), (6, .int v6)]) hC dX2_putBlock_102 5 rfl rfl (by decide) rfl 105 rfl ?_
    refine q_goto hC 31 dX2_putBlock_105 (by decide) ?_
    exact XX.sub [3, 4, 5, 1, 0] rfl (hK31 M10 x11 (v5 + 1) hw)
  have B31 : ∀ (n : Nat) (M : MM) (v4 : Int32) (v5 : Int32) , wX2_putBlock_31 Q b v1 v2 v3 n M v4 v5 → XX z g Qf 8 31 [(0, .ref (gA g b)), (1, .int v1), (3, .int v3), (4, .int v4), (5, .int v5)] [] M := by
    intro n
    induction n with
    | zero =>
      intro M v4 v5 hw
      exact hw.elim
    | succ n ih =>
      intro M v4 v5 hw
      refine q_iload hC dX2_putBlock_31 4 rfl 33 rfl ?_
      refine q_iload_n hC dX2_putBlock_33 2 rfl 34 rfl ?_
      refine q_icmp_ge hC 108 dX2_putBlock_34 (by decide) 37 rfl hw (fun hw => ?_) (fun hw => ?_)
      · refine q_aload_n hC dX2_putBlock_108 0 rfl 109 rfl ?_
        refine q_iload_n hC dX2_putBlock_109 1 rfl 110 rfl ?_
        refine q_iload_n hC dX2_putBlock_110 2 rfl 111 rfl ?_
        refine q_iload hC dX2_putBlock_111 3 rfl 113 rfl ?_
        refine r_callV hC (go_V (q := (RX2, TX2, 14)) (As := [.int v1, .int v3, .int v4]) (rest := []) hC (ctX2_setColumn (zl z) g M b v1 v3 v4 _ hb hw) 3 gX2_putBlock_X2_setColumn rfl ⟨rfl, rfl⟩ (by decide +kernel) ⟨Nat.le_of_ble_eq_true rfl, Nat.le_of_ble_eq_true rfl⟩ hb.ob rfl rfl rfl (Nat.le_of_ble_eq_true rfl) dX2_putBlock_113) 116 rfl (fun M4 hw => ?_)
        exact r_vret hR dX2_putBlock_116 hw
      · refine q_aload_n hC dX2_putBlock_37 0 rfl 38 rfl ?_
        refine q_getR (C := RX2) (T := TX2) (N := 14) (ci := 2) hC inX2_putBlock_X2 hb.ob rfl 5 (by decide) (List.mem_of_getElem? (i := 4) (by decide +kernel)) rfl (b + 6) (fun _ => rfl) dX2_putBlock_38 41 rfl ?_
        refine q_iload hC dX2_putBlock_41 4 rfl 43 rfl ?_
        refine r_callI hC (go_N (As := [.ref (gA g (b + 6)), .int v5]) (rest := []) hC (ctX4_cell (zl z) g M (b + 6) v5 _ (hb.ar 6 (by decide) (by decide)) hw) 2 gX2_putBlock_X4_cell_n114 rfl ⟨rfl, rfl⟩ 5 rfl (List.mem_of_getElem? (i := 7) (by decide +kernel)) (List.mem_of_getElem? (i := 9) (by decide +kernel)) (by decide +kernel) ⟨Nat.le_of_ble_eq_true rfl, Nat.le_of_ble_eq_true rfl⟩ rfl rfl (Nat.le_of_ble_eq_true rfl) dX2_putBlock_43) 46 rfl (fun r5 M6 hw => ?_)
        refine q_istore (L' := [(6, .int r5), (0, .ref (gA g b)), (1, .int v1), (3, .int v3), (4, .int v4), (5, .int v5)]) hC dX2_putBlock_46 (by decide) rfl 48 rfl ?_
        refine q_iload hC dX2_putBlock_48 0 rfl 50 rfl ?_
        refine q_iload hC dX2_putBlock_50 0 rfl 52 rfl ?_
        refine r_callI hC (go_T (As := [.int r5]) (rest := [.int r5]) hC (ctJ6_bitCount_0f7a4 (zl z) g M6 r5 _ hw) 1 gX2_putBlock_J6_bitCount_0f7a4 rfl ⟨rfl, rfl⟩ (by decide +kernel) ⟨Nat.le_of_ble_eq_true rfl, Nat.le_of_ble_eq_true rfl⟩ rfl rfl (Nat.le_of_ble_eq_true rfl) dX2_putBlock_52) 55 rfl (fun r7 M8 hw => ?_)
        refine q_iconst (v := 2) hC dX2_putBlock_55 rfl 56 rfl ?_
        refine q_irem hC dX2_putBlock_56 (by decide) 57 rfl ?_
        refine q_if_ne hC 66 dX2_putBlock_57 (by decide) 60 rfl hw (fun hw => ?_) (fun hw => ?_)
        · refine q_iconst (v := 0) hC dX2_putBlock_66 rfl 67 rfl ?_
          exact XX.sub [1, 2, 3, 4, 5, 0] rfl (B67 _ (fun M v4 v5 hw => ih M v4 v5 hw) M8 v4 v5 r5 0 r5 hw)
        · refine q_sipush (v := 256) hC dX2_putBlock_60 (by decide) 63 rfl ?_
          refine q_goto hC 67 dX2_putBlock_63 (by decide) ?_
          exact XX.sub [1, 2, 3, 4, 5, 0] rfl (B67 _ (fun M v4 v5 hw => ih M v4 v5 hw) M8 v4 v5 r5 256 r5 hw)
  refine q_aload_n hC dX2_putBlock_0 0 rfl 1 rfl ?_
  refine q_iload_n hC dX2_putBlock_1 1 rfl 2 rfl ?_
  refine q_iconst (v := 1) hC dX2_putBlock_2 rfl 3 rfl ?_
  refine q_iadd hC dX2_putBlock_3 4 rfl ?_
  refine q_putI (C := RX2) (T := TX2) (N := 14) (ci := 2) hC inX2_putBlock_X2 tyX2 tyX2_ok nmX2 hb.ob rfl 8 (by decide) (List.mem_of_getElem? (i := 1) (by decide +kernel)) rfl rfl rfl (fun _ => Nat.le_of_ble_eq_true rfl) (fun _ => rfl) dX2_putBlock_4 7 rfl (fun M1 eM1 => ?_)
  have hw := hw M1 eM1
  refine q_aload_n hC dX2_putBlock_7 0 rfl 8 rfl ?_
  refine q_getR (C := RX2) (T := TX2) (N := 14) (ci := 2) hC inX2_putBlock_X2 hb.ob rfl 1 (by decide) (List.mem_of_getElem? (i := 2) (by decide +kernel)) rfl (b + 2) (fun _ => rfl) dX2_putBlock_8 11 rfl ?_
  refine q_iload_n hC dX2_putBlock_11 1 rfl 12 rfl ?_
  refine q_iload_n hC dX2_putBlock_12 2 rfl 13 rfl ?_
  refine r_callV hC (go_N (As := [.ref (gA g (b + 2)), .int v1, .int v2]) (rest := []) hC (ctX4_setCell (zl z) g M1 (b + 2) v1 v2 _ (hb.ar 2 (by decide) (by decide)) hw) 3 gX2_putBlock_X4_setCell_n139 rfl ⟨rfl, rfl⟩ 7 rfl (List.mem_of_getElem? (i := 7) (by decide +kernel)) (List.mem_of_getElem? (i := 6) (by decide +kernel)) (by decide +kernel) ⟨Nat.le_of_ble_eq_true rfl, Nat.le_of_ble_eq_true rfl⟩ rfl rfl (Nat.le_of_ble_eq_true rfl) dX2_putBlock_13) 16 rfl (fun M2 hw => ?_)
  refine q_aload_n hC dX2_putBlock_16 0 rfl 17 rfl ?_
  refine q_getR (C := RX2) (T := TX2) (N := 14) (ci := 2) hC inX2_putBlock_X2 hb.ob rfl 2 (by decide) (List.mem_of_getElem? (i := 3) (by decide +kernel)) rfl (b + 3) (fun _ => rfl) dX2_putBlock_17 20 rfl ?_
  refine q_iload_n hC dX2_putBlock_20 1 rfl 21 rfl ?_
  refine q_iload_n hC dX2_putBlock_21 3 rfl 22 rfl ?_
  refine r_callV hC (go_N (As := [.ref (gA g (b + 3)), .int v1, .int v3]) (rest := []) hC (ctX4_setCell (zl z) g M2 (b + 3) v1 v3 _ (hb.ar 3 (by decide) (by decide)) hw) 3 gX2_putBlock_X4_setCell_n139 rfl ⟨rfl, rfl⟩ 7 rfl (List.mem_of_getElem? (i := 7) (by decide +kernel)) (List.mem_of_getElem? (i := 6) (by decide +kernel)) (by decide +kernel) ⟨Nat.le_of_ble_eq_true rfl, Nat.le_of_ble_eq_true rfl⟩ rfl rfl (Nat.le_of_ble_eq_true rfl) dX2_putBlock_22) 25 rfl (fun M3 hw => ?_)
  refine q_iconst (v := 0) hC dX2_putBlock_25 rfl 26 rfl ?_
  refine q_istore (L' := [(4, .int 0), (0, .ref (gA g b)), (1, .int v1), (2, .int v2), (3, .int v3)]) hC dX2_putBlock_26 (by decide) rfl 28 rfl ?_
  refine q_iconst (v := 0) hC dX2_putBlock_28 rfl 29 rfl ?_
  refine q_istore (L' := [(5, .int 0), (4, .int 0), (0, .ref (gA g b)), (1, .int v1), (2, .int v2), (3, .int v3)]) hC dX2_putBlock_29 (by decide) rfl 31 rfl ?_
  obtain ⟨n0, hw⟩ := hw
  exact XX.sub [2, 3, 5, 1, 0] rfl (B31 n0 M3 0 0 hw)
set_option maxRecDepth 20000 in
theorem inX2_writeAt_X2 : ∀ w ∈ u_ws RX2 TX2 14, w ∈ wsX2_writeAt := by decide +kernel
set_option maxRecDepth 100000 in
set_option maxHeartbeats 4000000 in
theorem ctX2_writeAt (l : Launch) (g : GG) (M : MM) (b : Nat) (v1 : Int32) (v2 : Int32) (Q : Int32 → MM → Prop) (hb : tpl g b) (hw : wX2_writeAt Q M b v1 v2) : MI g l yX2_writeAt wsX2_writeAt (rmOf 4 93) [.ref (gA g b), .int v1, .int v2] M Q := by
  refine mk_MI (cc := cX2_writeAt) (maxL := 5) (by decide) rfl (Nat.le_of_ble_eq_true rfl) ?_
  intro z Qf hC hR
  show XX z g Qf 5 0 [(0, .ref (gA g b)), (1, .int v1), (2, .int v2)] [] M
  refine q_aload_n hC dX2_writeAt_0 0 rfl 1 rfl ?_
  refine q_iload_n hC dX2_writeAt_1 1 rfl 2 rfl ?_
  refine r_callI hC (go_V (q := (RX2, TX2, 14)) (As := [.int v1]) (rest := []) hC (ctX2_beginningAt (zl z) g M b v1 _ hb hw) 1 gX2_writeAt_X2_beginningAt rfl ⟨rfl, rfl⟩ (by decide +kernel) ⟨Nat.le_of_ble_eq_true rfl, Nat.le_of_ble_eq_true rfl⟩ hb.ob rfl rfl rfl (Nat.le_of_ble_eq_true rfl) dX2_writeAt_2) 5 rfl (fun r1 M2 hw => ?_)
  refine q_istore_n (L' := [(3, .int r1), (0, .ref (gA g b)), (1, .int v1), (2, .int v2)]) hC dX2_writeAt_5 (by decide) rfl 6 rfl ?_
  refine q_aload_n hC dX2_writeAt_6 1 rfl 7 rfl ?_
  refine q_aload_n hC dX2_writeAt_7 1 rfl 8 rfl ?_
  refine q_getI (C := RX2) (T := TX2) (N := 14) (ci := 2) hC inX2_writeAt_X2 hb.ob rfl 9 (by decide) (List.mem_of_getElem? (i := 1) (by decide +kernel)) rfl (fun _ => rfl) dX2_writeAt_8 11 rfl ?_
  refine q_iload_n hC dX2_writeAt_11 0 rfl 12 rfl ?_
  refine r_callI hC (go_V (q := (RX2, TX2, 14)) (As := [.int (M2 b 9), .int r1]) (rest := []) hC (ctX2_sooner (zl z) g M2 b (M2 b 9) r1 _ hb hw) 2 gX2_writeAt_X2_sooner rfl ⟨rfl, rfl⟩ (by decide +kernel) ⟨Nat.le_of_ble_eq_true rfl, Nat.le_of_ble_eq_true rfl⟩ hb.ob rfl rfl rfl (Nat.le_of_ble_eq_true rfl) dX2_writeAt_12) 15 rfl (fun r3 M4 hw => ?_)
  refine q_aload_n hC dX2_writeAt_15 1 rfl 16 rfl ?_
  refine q_aload_n hC dX2_writeAt_16 1 rfl 17 rfl ?_
  refine q_iload_n hC dX2_writeAt_17 3 rfl 18 rfl ?_
  refine r_callI hC (go_V (q := (RX2, TX2, 14)) (As := [.int v2]) (rest := [.ref (gA g b), .int r3]) hC (ctX2_longWith (zl z) g M4 b v2 _ hb hw) 1 gX2_writeAt_X2_longWith rfl ⟨rfl, rfl⟩ (by decide +kernel) ⟨Nat.le_of_ble_eq_true rfl, Nat.le_of_ble_eq_true rfl⟩ hb.ob rfl rfl rfl (Nat.le_of_ble_eq_true rfl) dX2_writeAt_18) 21 rfl (fun r5 M6 hw => ?_)
  refine r_callI hC (go_V (q := (RX2, TX2, 14)) (As := [.int r5]) (rest := [.int r3]) hC (ctX2_playedThrough (zl z) g M6 b r5 _ hb hw) 1 gX2_writeAt_X2_playedThrough rfl ⟨rfl, rfl⟩ (by decide +kernel) ⟨Nat.le_of_ble_eq_true rfl, Nat.le_of_ble_eq_true rfl⟩ hb.ob rfl rfl rfl (Nat.le_of_ble_eq_true rfl) dX2_writeAt_21) 24 rfl (fun r7 M8 hw => ?_)
  refine q_iadd hC dX2_writeAt_24 25 rfl ?_
  refine q_istore (L' := [(4, .int (r3 + r7)), (3, .int r1), (0, .ref (gA g b)), (1, .int v1), (2, .int v2)]) hC dX2_writeAt_25 (by decide) rfl 27 rfl ?_
  refine q_aload_n hC dX2_writeAt_27 2 rfl 28 rfl ?_
  refine q_iload_n hC dX2_writeAt_28 3 rfl 29 rfl ?_
  refine q_iload_n hC dX2_writeAt_29 1 rfl 30 rfl ?_
  refine q_iload_n hC dX2_writeAt_30 4 rfl 31 rfl ?_
  refine r_callV hC (go_V (q := (RX2, TX2, 14)) (As := [.int v1, .int r1, .int v2]) (rest := []) hC (ctX2_putBlock (zl z) g M8 b v1 r1 v2 _ hb hw) 3 gX2_writeAt_X2_putBlock rfl ⟨rfl, rfl⟩ (by decide +kernel) ⟨Nat.le_of_ble_eq_true rfl, Nat.le_of_ble_eq_true rfl⟩ hb.ob rfl rfl rfl (Nat.le_of_ble_eq_true rfl) dX2_writeAt_31) 34 rfl (fun M9 hw => ?_)
  refine q_aload_n hC dX2_writeAt_34 2 rfl 35 rfl ?_
  refine q_aload_n hC dX2_writeAt_35 2 rfl 36 rfl ?_
  refine q_iload_n hC dX2_writeAt_36 3 rfl 37 rfl ?_
  refine r_callI hC (go_V (q := (RX2, TX2, 14)) (As := [.int v1]) (rest := [.ref (gA g b)]) hC (ctX2_endOf (zl z) g M9 b v1 _ hb hw) 1 gX2_writeAt_X2_endOf rfl ⟨rfl, rfl⟩ (by decide +kernel) ⟨Nat.le_of_ble_eq_true rfl, Nat.le_of_ble_eq_true rfl⟩ hb.ob rfl rfl rfl (Nat.le_of_ble_eq_true rfl) dX2_writeAt_37) 40 rfl (fun r10 M11 hw => ?_)
  refine q_putI (C := RX2) (T := TX2) (N := 14) (ci := 2) hC inX2_writeAt_X2 tyX2 tyX2_ok nmX2 hb.ob rfl 9 (by decide) (List.mem_of_getElem? (i := 1) (by decide +kernel)) rfl rfl rfl (fun _ => Nat.le_of_ble_eq_true rfl) (fun _ => rfl) dX2_writeAt_40 43 rfl (fun M12 eM12 => ?_)
  have hw := hw M12 eM12
  refine q_aload_n hC dX2_writeAt_43 2 rfl 44 rfl ?_
  refine q_dup hC dX2_writeAt_44 rfl 45 rfl ?_
  refine q_getI (C := RX2) (T := TX2) (N := 14) (ci := 2) hC inX2_writeAt_X2 hb.ob rfl 10 (by decide) (List.mem_of_getElem? (i := 2) (by decide +kernel)) rfl (fun _ => rfl) dX2_writeAt_45 48 rfl ?_
  refine q_iload hC dX2_writeAt_48 0 rfl 50 rfl ?_
  refine q_iadd hC dX2_writeAt_50 51 rfl ?_
  refine q_putI (C := RX2) (T := TX2) (N := 14) (ci := 2) hC inX2_writeAt_X2 tyX2 tyX2_ok nmX2 hb.ob rfl 10 (by decide) (List.mem_of_getElem? (i := 2) (by decide +kernel)) rfl rfl rfl (fun _ => Nat.le_of_ble_eq_true rfl) (fun _ => rfl) dX2_writeAt_51 54 rfl (fun M13 eM13 => ?_)
  have hw := hw M13 eM13
  refine q_iload hC dX2_writeAt_54 0 rfl 56 rfl ?_
  exact r_iret hR dX2_writeAt_56 hw
set_option maxRecDepth 20000 in
theorem inX2_layOutBlocks_X2 : ∀ w ∈ u_ws RX2 TX2 14, w ∈ wsX2_layOutBlocks := by decide +kernel
set_option maxRecDepth 100000 in
set_option maxHeartbeats 4000000 in
theorem ctX2_layOutBlocks (l : Launch) (g : GG) (M : MM) (b : Nat) (Q : MM → Prop) (hb : tpl g b) (hw : wX2_layOutBlocks Q M b) : MV g l yX2_layOutBlocks wsX2_layOutBlocks (rmOf 4 85) [.ref (gA g b)] M Q := by
  refine mk_MV (cc := cX2_layOutBlocks) (maxL := 2) (by decide) rfl (Nat.le_of_ble_eq_true rfl) ?_
  intro z Qf hC hR
  show XX z g Qf 2 0 [(0, .ref (gA g b))] [] M
  have B2 : ∀ (n : Nat) (M : MM) (v1 : Int32) , wX2_layOutBlocks_2 Q b n M v1 → XX z g Qf 2 2 [(0, .ref (gA g b)), (1, .int v1)] [] M := by
    intro n
    induction n with
    | zero =>
      intro M v1 hw
      exact hw.elim
    | succ n ih =>
      intro M v1 hw
      refine q_iload_n hC dX2_layOutBlocks_2 1 rfl 3 rfl ?_
      refine q_aload_n hC dX2_layOutBlocks_3 0 rfl 4 rfl ?_
      refine q_getI (C := RX2) (T := TX2) (N := 14) (ci := 2) hC inX2_layOutBlocks_X2 hb.ob rfl 8 (by decide) (List.mem_of_getElem? (i := 1) (by decide +kernel)) rfl (fun _ => rfl) dX2_layOutBlocks_4 7 rfl ?_
      refine q_icmp_ge hC 29 dX2_layOutBlocks_7 (by decide) 10 rfl hw (fun hw => ?_) (fun hw => ?_)
      · exact r_vret hR dX2_layOutBlocks_29 hw
      · refine q_aload_n hC dX2_layOutBlocks_10 0 rfl 11 rfl ?_
        refine q_getR (C := RX2) (T := TX2) (N := 14) (ci := 2) hC inX2_layOutBlocks_X2 hb.ob rfl 1 (by decide) (List.mem_of_getElem? (i := 2) (by decide +kernel)) rfl (b + 2) (fun _ => rfl) dX2_layOutBlocks_11 14 rfl ?_
        refine q_iload_n hC dX2_layOutBlocks_14 1 rfl 15 rfl ?_
        refine q_aload_n hC dX2_layOutBlocks_15 0 rfl 16 rfl ?_
        refine q_iload_n hC dX2_layOutBlocks_16 1 rfl 17 rfl ?_
        refine r_callI hC (go_V (q := (RX2, TX2, 14)) (As := [.int v1]) (rest := [.int v1, .ref (gA g (b + 2))]) hC (ctX2_beginningAt (zl z) g M b v1 _ hb hw) 1 gX2_layOutBlocks_X2_beginningAt rfl ⟨rfl, rfl⟩ (by decide +kernel) ⟨Nat.le_of_ble_eq_true rfl, Nat.le_of_ble_eq_true rfl⟩ hb.ob rfl rfl rfl (Nat.le_of_ble_eq_true rfl) dX2_layOutBlocks_17) 20 rfl (fun r1 M2 hw => ?_)
        refine r_callV hC (go_N (As := [.ref (gA g (b + 2)), .int v1, .int r1]) (rest := []) hC (ctX4_setCell (zl z) g M2 (b + 2) v1 r1 _ (hb.ar 2 (by decide) (by decide)) hw) 3 gX2_layOutBlocks_X4_setCell_n139 rfl ⟨rfl, rfl⟩ 7 rfl (List.mem_of_getElem? (i := 17) (by decide +kernel)) (List.mem_of_getElem? (i := 41) (by decide +kernel)) (by decide +kernel) ⟨Nat.le_of_ble_eq_true rfl, Nat.le_of_ble_eq_true rfl⟩ rfl rfl (Nat.le_of_ble_eq_true rfl) dX2_layOutBlocks_20) 23 rfl (fun M3 hw => ?_)
        refine q_iinc (v := v1 + 1) (L' := [(1, .int (v1 + 1)), (0, .ref (gA g b))]) hC dX2_layOutBlocks_23 1 rfl rfl (by decide) rfl 26 rfl ?_
        refine q_goto hC 2 dX2_layOutBlocks_26 (by decide) ?_
        exact XX.sub [1, 0] rfl (ih M3 (v1 + 1) hw)
  refine q_iconst (v := 0) hC dX2_layOutBlocks_0 rfl 1 rfl ?_
  refine q_istore_n (L' := [(1, .int 0), (0, .ref (gA g b))]) hC dX2_layOutBlocks_1 (by decide) rfl 2 rfl ?_
  obtain ⟨n0, hw⟩ := hw
  exact XX.sub [1, 0] rfl (B2 n0 M 0 hw)
set_option maxRecDepth 20000 in
theorem inX2_columnOf_X2 : ∀ w ∈ u_ws RX2 TX2 14, w ∈ wsX2_columnOf := by decide +kernel
set_option maxRecDepth 100000 in
set_option maxHeartbeats 4000000 in
theorem ctX2_columnOf (l : Launch) (g : GG) (M : MM) (b : Nat) (v1 : Int32) (v2 : Int32) (Q : Int32 → MM → Prop) (hb : tpl g b) (hw : wX2_columnOf Q M b v1 v2) : MI g l yX2_columnOf wsX2_columnOf (rmOf 1 21) [.ref (gA g b), .int v1, .int v2] M Q := by
  refine mk_MI (cc := cX2_columnOf) (maxL := 3) (by decide) rfl (Nat.le_of_ble_eq_true rfl) ?_
  intro z Qf hC hR
  show XX z g Qf 3 0 [(0, .ref (gA g b)), (1, .int v1), (2, .int v2)] [] M
  refine q_aload_n hC dX2_columnOf_0 0 rfl 1 rfl ?_
  refine q_getR (C := RX2) (T := TX2) (N := 14) (ci := 2) hC inX2_columnOf_X2 hb.ob rfl 3 (by decide) (List.mem_of_getElem? (i := 1) (by decide +kernel)) rfl (b + 4) (fun _ => rfl) dX2_columnOf_1 4 rfl ?_
  refine q_iload_n hC dX2_columnOf_4 1 rfl 5 rfl ?_
  refine q_bipush (v := 13) hC dX2_columnOf_5 (by decide) 7 rfl ?_
  refine q_imul hC dX2_columnOf_7 8 rfl ?_
  refine q_iload_n hC dX2_columnOf_8 2 rfl 9 rfl ?_
  refine q_iadd hC dX2_columnOf_9 10 rfl ?_
  refine r_callI hC (go_N (As := [.ref (gA g (b + 4)), .int ((v1 * (13 : Int32)) + v2)]) (rest := []) hC (ctX4_cell (zl z) g M (b + 4) ((v1 * (13 : Int32)) + v2) _ (hb.ar 4 (by decide) (by decide)) hw) 2 gX2_columnOf_X4_cell_n114 rfl ⟨rfl, rfl⟩ 5 rfl (List.mem_of_getElem? (i := 3) (by decide +kernel)) (List.mem_of_getElem? (i := 2) (by decide +kernel)) (by decide +kernel) ⟨Nat.le_of_ble_eq_true rfl, Nat.le_of_ble_eq_true rfl⟩ rfl rfl (Nat.le_of_ble_eq_true rfl) dX2_columnOf_10) 13 rfl (fun r1 M2 hw => ?_)
  exact r_iret hR dX2_columnOf_13 hw
set_option maxRecDepth 20000 in
theorem inX2_originalOf_X2 : ∀ w ∈ u_ws RX2 TX2 14, w ∈ wsX2_originalOf := by decide +kernel
set_option maxRecDepth 100000 in
set_option maxHeartbeats 4000000 in
theorem ctX2_originalOf (l : Launch) (g : GG) (M : MM) (b : Nat) (v1 : Int32) (v2 : Int32) (Q : Int32 → MM → Prop) (hb : tpl g b) (hw : wX2_originalOf Q M b v1 v2) : MI g l yX2_originalOf wsX2_originalOf (rmOf 1 21) [.ref (gA g b), .int v1, .int v2] M Q := by
  refine mk_MI (cc := cX2_originalOf) (maxL := 3) (by decide) rfl (Nat.le_of_ble_eq_true rfl) ?_
  intro z Qf hC hR
  show XX z g Qf 3 0 [(0, .ref (gA g b)), (1, .int v1), (2, .int v2)] [] M
  refine q_aload_n hC dX2_originalOf_0 0 rfl 1 rfl ?_
  refine q_getR (C := RX2) (T := TX2) (N := 14) (ci := 2) hC inX2_originalOf_X2 hb.ob rfl 4 (by decide) (List.mem_of_getElem? (i := 1) (by decide +kernel)) rfl (b + 5) (fun _ => rfl) dX2_originalOf_1 4 rfl ?_
  refine q_iload_n hC dX2_originalOf_4 1 rfl 5 rfl ?_
  refine q_bipush (v := 12) hC dX2_originalOf_5 (by decide) 7 rfl ?_
  refine q_imul hC dX2_originalOf_7 8 rfl ?_
  refine q_iload_n hC dX2_originalOf_8 2 rfl 9 rfl ?_
  refine q_iadd hC dX2_originalOf_9 10 rfl ?_
  refine r_callI hC (go_N (As := [.ref (gA g (b + 5)), .int ((v1 * (12 : Int32)) + v2)]) (rest := []) hC (ctX4_cell (zl z) g M (b + 5) ((v1 * (12 : Int32)) + v2) _ (hb.ar 5 (by decide) (by decide)) hw) 2 gX2_originalOf_X4_cell_n114 rfl ⟨rfl, rfl⟩ 5 rfl (List.mem_of_getElem? (i := 3) (by decide +kernel)) (List.mem_of_getElem? (i := 2) (by decide +kernel)) (by decide +kernel) ⟨Nat.le_of_ble_eq_true rfl, Nat.le_of_ble_eq_true rfl⟩ rfl rfl (Nat.le_of_ble_eq_true rfl) dX2_originalOf_10) 13 rfl (fun r1 M2 hw => ?_)
  exact r_iret hR dX2_originalOf_13 hw
set_option maxRecDepth 20000 in
theorem inX2_moveBlock_X2 : ∀ w ∈ u_ws RX2 TX2 14, w ∈ wsX2_moveBlock := by decide +kernel
set_option maxRecDepth 100000 in
set_option maxHeartbeats 4000000 in
theorem ctX2_moveBlock (l : Launch) (g : GG) (M : MM) (b : Nat) (v1 : Int32) (v2 : Int32) (Q : MM → Prop) (hb : tpl g b) (hw : wX2_moveBlock Q M b v1 v2) : MV g l yX2_moveBlock wsX2_moveBlock (rmOf 2 45) [.ref (gA g b), .int v1, .int v2] M Q := by
  refine mk_MV (cc := cX2_moveBlock) (maxL := 4) (by decide) rfl (Nat.le_of_ble_eq_true rfl) ?_
  intro z Qf hC hR
  show XX z g Qf 4 0 [(0, .ref (gA g b)), (1, .int v1), (2, .int v2)] [] M
  have B54 : ∀ (n : Nat) (M : MM) (v3 : Int32) , wX2_moveBlock_54 Q b v1 v2 n M v3 → XX z g Qf 4 54 [(0, .ref (gA g b)), (1, .int v1), (2, .int v2), (3, .int v3)] [] M := by
    intro n
    induction n with
    | zero =>
      intro M v3 hw
      exact hw.elim
    | succ n ih =>
      intro M v3 hw
      refine q_iload_n hC dX2_moveBlock_54 3 rfl 55 rfl ?_
      refine q_bipush (v := 12) hC dX2_moveBlock_55 (by decide) 57 rfl ?_
      refine q_icmp_ge hC 85 dX2_moveBlock_57 (by decide) 60 rfl hw (fun hw => ?_) (fun hw => ?_)
      · exact r_vret hR dX2_moveBlock_85 hw
      · refine q_aload_n hC dX2_moveBlock_60 0 rfl 61 rfl ?_
        refine q_getR (C := RX2) (T := TX2) (N := 14) (ci := 2) hC inX2_moveBlock_X2 hb.ob rfl 4 (by decide) (List.mem_of_getElem? (i := 3) (by decide +kernel)) rfl (b + 5) (fun _ => rfl) dX2_moveBlock_61 64 rfl ?_
        refine q_iload_n hC dX2_moveBlock_64 2 rfl 65 rfl ?_
        refine q_bipush (v := 12) hC dX2_moveBlock_65 (by decide) 67 rfl ?_
        refine q_imul hC dX2_moveBlock_67 68 rfl ?_
        refine q_iload_n hC dX2_moveBlock_68 3 rfl 69 rfl ?_
        refine q_iadd hC dX2_moveBlock_69 70 rfl ?_
        refine q_aload_n hC dX2_moveBlock_70 0 rfl 71 rfl ?_
        refine q_iload_n hC dX2_moveBlock_71 1 rfl 72 rfl ?_
        refine q_iload_n hC dX2_moveBlock_72 3 rfl 73 rfl ?_
        refine r_callI hC (go_V (q := (RX2, TX2, 14)) (As := [.int v1, .int v3]) (rest := [.int ((v2 * (12 : Int32)) + v3), .ref (gA g (b + 5))]) hC (ctX2_originalOf (zl z) g M b v1 v3 _ hb hw) 2 gX2_moveBlock_X2_originalOf rfl ⟨rfl, rfl⟩ (by decide +kernel) ⟨Nat.le_of_ble_eq_true rfl, Nat.le_of_ble_eq_true rfl⟩ hb.ob rfl rfl rfl (Nat.le_of_ble_eq_true rfl) dX2_moveBlock_73) 76 rfl (fun r10 M11 hw => ?_)
        refine r_callV hC (go_N (As := [.ref (gA g (b + 5)), .int ((v2 * (12 : Int32)) + v3), .int r10]) (rest := []) hC (ctX4_setCell (zl z) g M11 (b + 5) ((v2 * (12 : Int32)) + v3) r10 _ (hb.ar 5 (by decide) (by decide)) hw) 3 gX2_moveBlock_X4_setCell_n139 rfl ⟨rfl, rfl⟩ 7 rfl (List.mem_of_getElem? (i := 10) (by decide +kernel)) (List.mem_of_getElem? (i := 12) (by decide +kernel)) (by decide +kernel) ⟨Nat.le_of_ble_eq_true rfl, Nat.le_of_ble_eq_true rfl⟩ rfl rfl (Nat.le_of_ble_eq_true rfl) dX2_moveBlock_76) 79 rfl (fun M12 hw => ?_)
        refine q_iinc (v := v3 + 1) (L' := [(3, .int (v3 + 1)), (0, .ref (gA g b)), (1, .int v1), (2, .int v2)]) hC dX2_moveBlock_79 3 rfl rfl (by decide) rfl 82 rfl ?_
        refine q_goto hC 54 dX2_moveBlock_82 (by decide) ?_
        exact XX.sub [1, 2, 3, 0] rfl (ih M12 (v3 + 1) hw)
  have B28 : ∀ (n : Nat) (M : MM) (v3 : Int32) , wX2_moveBlock_28 Q b v1 v2 n M v3 → XX z g Qf 4 28 [(0, .ref (gA g b)), (1, .int v1), (2, .int v2), (3, .int v3)] [] M := by
    intro n
    induction n with
    | zero =>
      intro M v3 hw
      exact hw.elim
    | succ n ih =>
      intro M v3 hw
      refine q_iload_n hC dX2_moveBlock_28 3 rfl 29 rfl ?_
      refine q_bipush (v := 13) hC dX2_moveBlock_29 (by decide) 31 rfl ?_
      refine q_icmp_ge hC 52 dX2_moveBlock_31 (by decide) 34 rfl hw (fun hw => ?_) (fun hw => ?_)
      · refine q_iconst (v := 0) hC dX2_moveBlock_52 rfl 53 rfl ?_
        refine q_istore_n (L' := [(3, .int 0), (0, .ref (gA g b)), (1, .int v1), (2, .int v2)]) hC dX2_moveBlock_53 (by decide) rfl 54 rfl ?_
        obtain ⟨n0, hw⟩ := hw
        exact XX.sub [1, 2, 3, 0] rfl (B54 n0 M 0 hw)
      · refine q_aload_n hC dX2_moveBlock_34 0 rfl 35 rfl ?_
        refine q_iload_n hC dX2_moveBlock_35 2 rfl 36 rfl ?_
        refine q_iload_n hC dX2_moveBlock_36 3 rfl 37 rfl ?_
        refine q_aload_n hC dX2_moveBlock_37 0 rfl 38 rfl ?_
        refine q_iload_n hC dX2_moveBlock_38 1 rfl 39 rfl ?_
        refine q_iload_n hC dX2_moveBlock_39 3 rfl 40 rfl ?_
        refine r_callI hC (go_V (q := (RX2, TX2, 14)) (As := [.int v1, .int v3]) (rest := [.int v3, .int v2, .ref (gA g b)]) hC (ctX2_columnOf (zl z) g M b v1 v3 _ hb hw) 2 gX2_moveBlock_X2_columnOf rfl ⟨rfl, rfl⟩ (by decide +kernel) ⟨Nat.le_of_ble_eq_true rfl, Nat.le_of_ble_eq_true rfl⟩ hb.ob rfl rfl rfl (Nat.le_of_ble_eq_true rfl) dX2_moveBlock_40) 43 rfl (fun r7 M8 hw => ?_)
        refine r_callV hC (go_V (q := (RX2, TX2, 14)) (As := [.int v2, .int v3, .int r7]) (rest := []) hC (ctX2_setColumn (zl z) g M8 b v2 v3 r7 _ hb hw) 3 gX2_moveBlock_X2_setColumn rfl ⟨rfl, rfl⟩ (by decide +kernel) ⟨Nat.le_of_ble_eq_true rfl, Nat.le_of_ble_eq_true rfl⟩ hb.ob rfl rfl rfl (Nat.le_of_ble_eq_true rfl) dX2_moveBlock_43) 46 rfl (fun M9 hw => ?_)
        refine q_iinc (v := v3 + 1) (L' := [(3, .int (v3 + 1)), (0, .ref (gA g b)), (1, .int v1), (2, .int v2)]) hC dX2_moveBlock_46 3 rfl rfl (by decide) rfl 49 rfl ?_
        refine q_goto hC 28 dX2_moveBlock_49 (by decide) ?_
        exact XX.sub [1, 2, 3, 0] rfl (ih M9 (v3 + 1) hw)
  refine q_aload_n hC dX2_moveBlock_0 0 rfl 1 rfl ?_
  refine q_getR (C := RX2) (T := TX2) (N := 14) (ci := 2) hC inX2_moveBlock_X2 hb.ob rfl 1 (by decide) (List.mem_of_getElem? (i := 1) (by decide +kernel)) rfl (b + 2) (fun _ => rfl) dX2_moveBlock_1 4 rfl ?_
  refine q_iload_n hC dX2_moveBlock_4 2 rfl 5 rfl ?_
  refine q_aload_n hC dX2_moveBlock_5 0 rfl 6 rfl ?_
  refine q_iload_n hC dX2_moveBlock_6 1 rfl 7 rfl ?_
  refine r_callI hC (go_V (q := (RX2, TX2, 14)) (As := [.int v1]) (rest := [.int v2, .ref (gA g (b + 2))]) hC (ctX2_beginOf (zl z) g M b v1 _ hb hw) 1 gX2_moveBlock_X2_beginOf rfl ⟨rfl, rfl⟩ (by decide +kernel) ⟨Nat.le_of_ble_eq_true rfl, Nat.le_of_ble_eq_true rfl⟩ hb.ob rfl rfl rfl (Nat.le_of_ble_eq_true rfl) dX2_moveBlock_7) 10 rfl (fun r1 M2 hw => ?_)
  refine r_callV hC (go_N (As := [.ref (gA g (b + 2)), .int v2, .int r1]) (rest := []) hC (ctX4_setCell (zl z) g M2 (b + 2) v2 r1 _ (hb.ar 2 (by decide) (by decide)) hw) 3 gX2_moveBlock_X4_setCell_n139 rfl ⟨rfl, rfl⟩ 7 rfl (List.mem_of_getElem? (i := 10) (by decide +kernel)) (List.mem_of_getElem? (i := 12) (by decide +kernel)) (by decide +kernel) ⟨Nat.le_of_ble_eq_true rfl, Nat.le_of_ble_eq_true rfl⟩ rfl rfl (Nat.le_of_ble_eq_true rfl) dX2_moveBlock_10) 13 rfl (fun M3 hw => ?_)
  refine q_aload_n hC dX2_moveBlock_13 0 rfl 14 rfl ?_
  refine q_getR (C := RX2) (T := TX2) (N := 14) (ci := 2) hC inX2_moveBlock_X2 hb.ob rfl 2 (by decide) (List.mem_of_getElem? (i := 2) (by decide +kernel)) rfl (b + 3) (fun _ => rfl) dX2_moveBlock_14 17 rfl ?_
  refine q_iload_n hC dX2_moveBlock_17 2 rfl 18 rfl ?_
  refine q_aload_n hC dX2_moveBlock_18 0 rfl 19 rfl ?_
  refine q_iload_n hC dX2_moveBlock_19 1 rfl 20 rfl ?_
  refine r_callI hC (go_V (q := (RX2, TX2, 14)) (As := [.int v1]) (rest := [.int v2, .ref (gA g (b + 3))]) hC (ctX2_sizeOf (zl z) g M3 b v1 _ hb hw) 1 gX2_moveBlock_X2_sizeOf rfl ⟨rfl, rfl⟩ (by decide +kernel) ⟨Nat.le_of_ble_eq_true rfl, Nat.le_of_ble_eq_true rfl⟩ hb.ob rfl rfl rfl (Nat.le_of_ble_eq_true rfl) dX2_moveBlock_20) 23 rfl (fun r4 M5 hw => ?_)
  refine r_callV hC (go_N (As := [.ref (gA g (b + 3)), .int v2, .int r4]) (rest := []) hC (ctX4_setCell (zl z) g M5 (b + 3) v2 r4 _ (hb.ar 3 (by decide) (by decide)) hw) 3 gX2_moveBlock_X4_setCell_n139 rfl ⟨rfl, rfl⟩ 7 rfl (List.mem_of_getElem? (i := 10) (by decide +kernel)) (List.mem_of_getElem? (i := 12) (by decide +kernel)) (by decide +kernel) ⟨Nat.le_of_ble_eq_true rfl, Nat.le_of_ble_eq_true rfl⟩ rfl rfl (Nat.le_of_ble_eq_true rfl) dX2_moveBlock_23) 26 rfl (fun M6 hw => ?_)
  refine q_iconst (v := 0) hC dX2_moveBlock_26 rfl 27 rfl ?_
  refine q_istore_n (L' := [(3, .int 0), (0, .ref (gA g b)), (1, .int v1), (2, .int v2)]) hC dX2_moveBlock_27 (by decide) rfl 28 rfl ?_
  obtain ⟨n0, hw⟩ := hw
  exact XX.sub [1, 2, 3, 0] rfl (B28 n0 M6 0 hw)
set_option maxRecDepth 20000 in
theorem inX2_cutOut_X2 : ∀ w ∈ u_ws RX2 TX2 14, w ∈ wsX2_cutOut := by decide +kernel
set_option maxRecDepth 100000 in
set_option maxHeartbeats 4000000 in
theorem ctX2_cutOut (l : Launch) (g : GG) (M : MM) (b : Nat) (v1 : Int32) (v2 : Int32) (Q : Int32 → MM → Prop) (hb : tpl g b) (hw : wX2_cutOut Q M b v1 v2) : MI g l yX2_cutOut wsX2_cutOut (rmOf 3 68) [.ref (gA g b), .int v1, .int v2] M Q := by
  refine mk_MI (cc := cX2_cutOut) (maxL := 8) (by decide) rfl (Nat.le_of_ble_eq_true rfl) ?_
  intro z Qf hC hR
  show XX z g Qf 8 0 [(0, .ref (gA g b)), (1, .int v1), (2, .int v2)] [] M
  have B158 : ∀ (M : MM) (v3 : Int32) (v4 : Int32), wX2_cutOut_158 Q b v1 v2 M v3 v4 → XX z g Qf 8 158 [(3, .int v3), (4, .int v4)] [] M := by
    intro M v3 v4 hw
    refine q_iload hC dX2_cutOut_158 1 rfl 160 rfl ?_
    refine q_iload_n hC dX2_cutOut_160 0 rfl 161 rfl ?_
    refine q_isub hC dX2_cutOut_161 162 rfl ?_
    exact r_iret hR dX2_cutOut_162 hw
  have B94 : ∀ (K11 : MM → Int32 → Int32 → Int32 → Prop) (hK11 : ∀ (M : MM) (v3 : Int32) (v4 : Int32) (v5 : Int32) , K11 M v3 v4 v5 → XX z g Qf 8 11 [(0, .ref (gA g b)), (1, .int v1), (2, .int v2), (3, .int v3), (4, .int v4), (5, .int v5)] [] M) (M : MM) (v3 : Int32) (v4 : Int32) (v5 : Int32), wX2_cutOut_94 Q K11 b v1 v2 M v3 v4 v5 → XX z g Qf 8 94 [(0, .ref (gA g b)), (1, .int v1), (2, .int v2), (3, .int v3), (4, .int v4), (5, .int v5)] [] M := by
    intro K11 hK11 M v3 v4 v5 hw
    refine q_iinc (v := v5 + 1) (L' := [(5, .int (v5 + 1)), (0, .ref (gA g b)), (1, .int v1), (2, .int v2), (3, .int v3), (4, .int v4)]) hC dX2_cutOut_94 5 rfl rfl (by decide) rfl 97 rfl ?_
    refine q_goto hC 11 dX2_cutOut_97 (by decide) ?_
    exact XX.sub [1, 2, 3, 4, 5, 0] rfl (hK11 M v3 v4 (v5 + 1) hw)
  have B71 : ∀ (K11 : MM → Int32 → Int32 → Int32 → Prop) (hK11 : ∀ (M : MM) (v3 : Int32) (v4 : Int32) (v5 : Int32) , K11 M v3 v4 v5 → XX z g Qf 8 11 [(0, .ref (gA g b)), (1, .int v1), (2, .int v2), (3, .int v3), (4, .int v4), (5, .int v5)] [] M) (M : MM) (v3 : Int32) (v4 : Int32) (v5 : Int32) (p0 : Int32) (p1 : Int32), wX2_cutOut_71 Q K11 b v1 v2 M v3 v4 v5 p0 p1 → XX z g Qf 8 71 [(0, .ref (gA g b)), (1, .int v1), (2, .int v2), (3, .int v3), (4, .int v4), (5, .int v5)] [.int p0, .int p1] M := by
    intro K11 hK11 M v3 v4 v5 p0 p1 hw
    refine q_isub hC dX2_cutOut_71 72 rfl ?_
    refine q_istore (L' := [(7, .int (p1 - p0)), (0, .ref (gA g b)), (1, .int v1), (2, .int v2), (3, .int v3), (4, .int v4), (5, .int v5)]) hC dX2_cutOut_72 (by decide) rfl 74 rfl ?_
    refine q_aload_n hC dX2_cutOut_74 1 rfl 75 rfl ?_
    refine q_iload hC dX2_cutOut_75 6 rfl 77 rfl ?_
    refine q_iload_n hC dX2_cutOut_77 4 rfl 78 rfl ?_
    refine r_callV hC (go_V (q := (RX2, TX2, 14)) (As := [.int v5, .int v3]) (rest := []) hC (ctX2_moveBlock (zl z) g M b v5 v3 _ hb hw) 2 gX2_cutOut_X2_moveBlock rfl ⟨rfl, rfl⟩ (by decide +kernel) ⟨Nat.le_of_ble_eq_true rfl, Nat.le_of_ble_eq_true rfl⟩ hb.ob rfl rfl rfl (Nat.le_of_ble_eq_true rfl) dX2_cutOut_78) 81 rfl (fun M13 hw => ?_)
    refine q_aload_n hC dX2_cutOut_81 1 rfl 82 rfl ?_
    refine q_getR (C := RX2) (T := TX2) (N := 14) (ci := 2) hC inX2_cutOut_X2 hb.ob rfl 1 (by decide) (List.mem_of_getElem? (i := 2) (by decide +kernel)) rfl (b + 2) (fun _ => rfl) dX2_cutOut_82 85 rfl ?_
    refine q_iload_n hC dX2_cutOut_85 4 rfl 86 rfl ?_
    refine q_iload hC dX2_cutOut_86 0 rfl 88 rfl ?_
    refine r_callV hC (go_N (As := [.ref (gA g (b + 2)), .int v3, .int (p1 - p0)]) (rest := []) hC (ctX4_setCell (zl z) g M13 (b + 2) v3 (p1 - p0) _ (hb.ar 2 (by decide) (by decide)) hw) 3 gX2_cutOut_X4_setCell_n139 rfl ⟨rfl, rfl⟩ 7 rfl (List.mem_of_getElem? (i := 11) (by decide +kernel)) (List.mem_of_getElem? (i := 43) (by decide +kernel)) (by decide +kernel) ⟨Nat.le_of_ble_eq_true rfl, Nat.le_of_ble_eq_true rfl⟩ rfl rfl (Nat.le_of_ble_eq_true rfl) dX2_cutOut_88) 91 rfl (fun M14 hw => ?_)
    refine q_iinc (v := v3 + 1) (L' := [(3, .int (v3 + 1)), (7, .int (p1 - p0)), (0, .ref (gA g b)), (1, .int v1), (2, .int v2), (4, .int v4), (5, .int v5)]) hC dX2_cutOut_91 4 rfl rfl (by decide) rfl 94 rfl ?_
    exact XX.sub [2, 3, 4, 0, 5, 6] rfl (B94 _ hK11 M14 (v3 + 1) v4 v5 hw)
  have B53 : ∀ (K11 : MM → Int32 → Int32 → Int32 → Prop) (hK11 : ∀ (M : MM) (v3 : Int32) (v4 : Int32) (v5 : Int32) , K11 M v3 v4 v5 → XX z g Qf 8 11 [(0, .ref (gA g b)), (1, .int v1), (2, .int v2), (3, .int v3), (4, .int v4), (5, .int v5)] [] M) (M : MM) (v3 : Int32) (v4 : Int32) (v5 : Int32) (v6 : Int32), wX2_cutOut_53 Q K11 b v1 v2 M v3 v4 v5 v6 → XX z g Qf 8 53 [(0, .ref (gA g b)), (1, .int v1), (2, .int v2), (3, .int v3), (4, .int v4), (5, .int v5), (6, .int v6)] [] M := by
    intro K11 hK11 M v3 v4 v5 v6 hw
    refine q_aload_n hC dX2_cutOut_53 0 rfl 54 rfl ?_
    refine q_iload hC dX2_cutOut_54 5 rfl 56 rfl ?_
    refine r_callI hC (go_V (q := (RX2, TX2, 14)) (As := [.int v5]) (rest := []) hC (ctX2_beginOf (zl z) g M b v5 _ hb hw) 1 gX2_cutOut_X2_beginOf rfl ⟨rfl, rfl⟩ (by decide +kernel) ⟨Nat.le_of_ble_eq_true rfl, Nat.le_of_ble_eq_true rfl⟩ hb.ob rfl rfl rfl (Nat.le_of_ble_eq_true rfl) dX2_cutOut_56) 59 rfl (fun r11 M12 hw => ?_)
    refine q_iload hC dX2_cutOut_59 6 rfl 61 rfl ?_
    refine q_if_eq hC 70 dX2_cutOut_61 (by decide) 64 rfl hw (fun hw => ?_) (fun hw => ?_)
    · refine q_iconst (v := 0) hC dX2_cutOut_70 rfl 71 rfl ?_
      exact XX.sub [0, 1, 2, 3, 4, 5] rfl (B71 _ hK11 M12 v3 v4 v5 0 r11 hw)
    · refine q_iload_n hC dX2_cutOut_64 2 rfl 65 rfl ?_
      refine q_iload_n hC dX2_cutOut_65 1 rfl 66 rfl ?_
      refine q_isub hC dX2_cutOut_66 67 rfl ?_
      refine q_goto hC 71 dX2_cutOut_67 (by decide) ?_
      exact XX.sub [0, 1, 2, 3, 4, 5] rfl (B71 _ hK11 M12 v3 v4 v5 (v2 - v1) r11 hw)
  have B33 : ∀ (K11 : MM → Int32 → Int32 → Int32 → Prop) (hK11 : ∀ (M : MM) (v3 : Int32) (v4 : Int32) (v5 : Int32) , K11 M v3 v4 v5 → XX z g Qf 8 11 [(0, .ref (gA g b)), (1, .int v1), (2, .int v2), (3, .int v3), (4, .int v4), (5, .int v5)] [] M) (M : MM) (v3 : Int32) (v4 : Int32) (v5 : Int32) (p0 : Int32), wX2_cutOut_33 Q K11 b v1 v2 M v3 v4 v5 p0 → XX z g Qf 8 33 [(0, .ref (gA g b)), (1, .int v1), (2, .int v2), (3, .int v3), (4, .int v4), (5, .int v5)] [.int p0] M := by
    intro K11 hK11 M v3 v4 v5 p0 hw
    refine q_istore (L' := [(6, .int p0), (0, .ref (gA g b)), (1, .int v1), (2, .int v2), (3, .int v3), (4, .int v4), (5, .int v5)]) hC dX2_cutOut_33 (by decide) rfl 35 rfl ?_
    refine q_iload hC dX2_cutOut_35 0 rfl 37 rfl ?_
    refine q_if_ne hC 53 dX2_cutOut_37 (by decide) 40 rfl hw (fun hw => ?_) (fun hw => ?_)
    · exact XX.sub [1, 2, 3, 4, 5, 6, 0] rfl (B53 _ hK11 M v3 v4 v5 p0 hw)
    · refine q_aload_n hC dX2_cutOut_40 1 rfl 41 rfl ?_
      refine q_iload hC dX2_cutOut_41 6 rfl 43 rfl ?_
      refine r_callI hC (go_V (q := (RX2, TX2, 14)) (As := [.int v5]) (rest := []) hC (ctX2_endOf (zl z) g M b v5 _ hb hw) 1 gX2_cutOut_X2_endOf rfl ⟨rfl, rfl⟩ (by decide +kernel) ⟨Nat.le_of_ble_eq_true rfl, Nat.le_of_ble_eq_true rfl⟩ hb.ob rfl rfl rfl (Nat.le_of_ble_eq_true rfl) dX2_cutOut_43) 46 rfl (fun r9 M10 hw => ?_)
      refine q_iload_n hC dX2_cutOut_46 2 rfl 47 rfl ?_
      refine q_icmp_le hC 53 dX2_cutOut_47 (by decide) 50 rfl hw (fun hw => ?_) (fun hw => ?_)
      · exact XX.sub [1, 2, 3, 4, 5, 6, 0] rfl (B53 _ hK11 M10 v3 v4 v5 p0 hw)
      · refine q_goto hC 94 dX2_cutOut_50 (by decide) ?_
        exact XX.sub [1, 2, 3, 4, 5, 6] rfl (B94 _ hK11 M10 v3 v4 v5 hw)
  have B11 : ∀ (n : Nat) (M : MM) (v3 : Int32) (v4 : Int32) (v5 : Int32) , wX2_cutOut_11 Q b v1 v2 n M v3 v4 v5 → XX z g Qf 8 11 [(0, .ref (gA g b)), (1, .int v1), (2, .int v2), (3, .int v3), (4, .int v4), (5, .int v5)] [] M := by
    intro n
    induction n with
    | zero =>
      intro M v3 v4 v5 hw
      exact hw.elim
    | succ n ih =>
      intro M v3 v4 v5 hw
      refine q_iload hC dX2_cutOut_11 5 rfl 13 rfl ?_
      refine q_iload hC dX2_cutOut_13 4 rfl 15 rfl ?_
      refine q_icmp_ge hC 100 dX2_cutOut_15 (by decide) 18 rfl hw (fun hw => ?_) (fun hw => ?_)
      · refine q_aload_n hC dX2_cutOut_100 0 rfl 101 rfl ?_
        refine q_iload_n hC dX2_cutOut_101 3 rfl 102 rfl ?_
        refine q_putI (C := RX2) (T := TX2) (N := 14) (ci := 2) hC inX2_cutOut_X2 tyX2 tyX2_ok nmX2 hb.ob rfl 8 (by decide) (List.mem_of_getElem? (i := 1) (by decide +kernel)) rfl rfl rfl (fun _ => Nat.le_of_ble_eq_true rfl) (fun _ => rfl) dX2_cutOut_102 105 rfl (fun M1 eM1 => ?_)
        have hw := hw M1 eM1
        refine q_aload_n hC dX2_cutOut_105 0 rfl 106 rfl ?_
        refine q_getR (C := RX2) (T := TX2) (N := 14) (ci := 2) hC inX2_cutOut_X2 hb.ob rfl 0 (by decide) (List.mem_of_getElem? (i := 3) (by decide +kernel)) rfl (b + 1) (fun _ => rfl) dX2_cutOut_106 109 rfl ?_
        refine q_iconst (v := 0) hC dX2_cutOut_109 rfl 110 rfl ?_
        refine q_aload_n hC dX2_cutOut_110 0 rfl 111 rfl ?_
        refine q_iconst (v := 0) hC dX2_cutOut_111 rfl 112 rfl ?_
        refine r_callI hC (go_V (q := (RX2, TX2, 14)) (As := [.int 0]) (rest := [.int 0, .ref (gA g (b + 1))]) hC (ctX2_ruled (zl z) g M1 b 0 _ hb hw) 1 gX2_cutOut_X2_ruled rfl ⟨rfl, rfl⟩ (by decide +kernel) ⟨Nat.le_of_ble_eq_true rfl, Nat.le_of_ble_eq_true rfl⟩ hb.ob rfl rfl rfl (Nat.le_of_ble_eq_true rfl) dX2_cutOut_112) 115 rfl (fun r2 M3 hw => ?_)
        refine q_iload_n hC dX2_cutOut_115 2 rfl 116 rfl ?_
        refine q_iload_n hC dX2_cutOut_116 1 rfl 117 rfl ?_
        refine q_isub hC dX2_cutOut_117 118 rfl ?_
        refine q_isub hC dX2_cutOut_118 119 rfl ?_
        refine r_callV hC (go_N (As := [.ref (gA g (b + 1)), .int 0, .int (r2 - (v2 - v1))]) (rest := []) hC (ctX4_setCell (zl z) g M3 (b + 1) 0 (r2 - (v2 - v1)) _ (hb.ar 1 (by decide) (by decide)) hw) 3 gX2_cutOut_X4_setCell_n139 rfl ⟨rfl, rfl⟩ 7 rfl (List.mem_of_getElem? (i := 11) (by decide +kernel)) (List.mem_of_getElem? (i := 43) (by decide +kernel)) (by decide +kernel) ⟨Nat.le_of_ble_eq_true rfl, Nat.le_of_ble_eq_true rfl⟩ rfl rfl (Nat.le_of_ble_eq_true rfl) dX2_cutOut_119) 122 rfl (fun M4 hw => ?_)
        refine q_aload_n hC dX2_cutOut_122 0 rfl 123 rfl ?_
        refine q_getI (C := RX2) (T := TX2) (N := 14) (ci := 2) hC inX2_cutOut_X2 hb.ob rfl 9 (by decide) (List.mem_of_getElem? (i := 4) (by decide +kernel)) rfl (fun _ => rfl) dX2_cutOut_123 126 rfl ?_
        refine q_iload_n hC dX2_cutOut_126 2 rfl 127 rfl ?_
        refine q_icmp_lt hC 145 dX2_cutOut_127 (by decide) 130 rfl hw (fun hw => ?_) (fun hw => ?_)
        · refine q_aload_n hC dX2_cutOut_145 0 rfl 146 rfl ?_
          refine q_getI (C := RX2) (T := TX2) (N := 14) (ci := 2) hC inX2_cutOut_X2 hb.ob rfl 9 (by decide) (List.mem_of_getElem? (i := 4) (by decide +kernel)) rfl (fun _ => rfl) dX2_cutOut_146 149 rfl ?_
          refine q_iload_n hC dX2_cutOut_149 1 rfl 150 rfl ?_
          refine q_icmp_le hC 158 dX2_cutOut_150 (by decide) 153 rfl hw (fun hw => ?_) (fun hw => ?_)
          · exact XX.sub [3, 4] rfl (B158 M4 v3 v4 hw)
          · refine q_aload_n hC dX2_cutOut_153 0 rfl 154 rfl ?_
            refine q_iload_n hC dX2_cutOut_154 1 rfl 155 rfl ?_
            refine q_putI (C := RX2) (T := TX2) (N := 14) (ci := 2) hC inX2_cutOut_X2 tyX2 tyX2_ok nmX2 hb.ob rfl 9 (by decide) (List.mem_of_getElem? (i := 4) (by decide +kernel)) rfl rfl rfl (fun _ => Nat.le_of_ble_eq_true rfl) (fun _ => rfl) dX2_cutOut_155 158 rfl (fun M5 eM5 => ?_)
            have hw := hw M5 eM5
            exact XX.sub [3, 4] rfl (B158 M5 v3 v4 hw)
        · refine q_aload_n hC dX2_cutOut_130 0 rfl 131 rfl ?_
          refine q_dup hC dX2_cutOut_131 rfl 132 rfl ?_
          refine q_getI (C := RX2) (T := TX2) (N := 14) (ci := 2) hC inX2_cutOut_X2 hb.ob rfl 9 (by decide) (List.mem_of_getElem? (i := 4) (by decide +kernel)) rfl (fun _ => rfl) dX2_cutOut_132 135 rfl ?_
          refine q_iload_n hC dX2_cutOut_135 2 rfl 136 rfl ?_
          refine q_iload_n hC dX2_cutOut_136 1 rfl 137 rfl ?_
          refine q_isub hC dX2_cutOut_137 138 rfl ?_
          refine q_isub hC dX2_cutOut_138 139 rfl ?_
          refine q_putI (C := RX2) (T := TX2) (N := 14) (ci := 2) hC inX2_cutOut_X2 tyX2 tyX2_ok nmX2 hb.ob rfl 9 (by decide) (List.mem_of_getElem? (i := 4) (by decide +kernel)) rfl rfl rfl (fun _ => Nat.le_of_ble_eq_true rfl) (fun _ => rfl) dX2_cutOut_139 142 rfl (fun M6 eM6 => ?_)
          have hw := hw M6 eM6
          refine q_goto hC 158 dX2_cutOut_142 (by decide) ?_
          exact XX.sub [3, 4] rfl (B158 M6 v3 v4 hw)
      · refine q_aload_n hC dX2_cutOut_18 0 rfl 19 rfl ?_
        refine q_iload hC dX2_cutOut_19 5 rfl 21 rfl ?_
        refine r_callI hC (go_V (q := (RX2, TX2, 14)) (As := [.int v5]) (rest := []) hC (ctX2_beginOf (zl z) g M b v5 _ hb hw) 1 gX2_cutOut_X2_beginOf rfl ⟨rfl, rfl⟩ (by decide +kernel) ⟨Nat.le_of_ble_eq_true rfl, Nat.le_of_ble_eq_true rfl⟩ hb.ob rfl rfl rfl (Nat.le_of_ble_eq_true rfl) dX2_cutOut_21) 24 rfl (fun r7 M8 hw => ?_)
        refine q_iload_n hC dX2_cutOut_24 2 rfl 25 rfl ?_
        refine q_icmp_lt hC 32 dX2_cutOut_25 (by decide) 28 rfl hw (fun hw => ?_) (fun hw => ?_)
        · refine q_iconst (v := 0) hC dX2_cutOut_32 rfl 33 rfl ?_
          exact XX.sub [0, 1, 2, 3, 4, 5] rfl (B33 _ (fun M v3 v4 v5 hw => ih M v3 v4 v5 hw) M8 v3 v4 v5 0 hw)
        · refine q_iconst (v := 1) hC dX2_cutOut_28 rfl 29 rfl ?_
          refine q_goto hC 33 dX2_cutOut_29 (by decide) ?_
          exact XX.sub [0, 1, 2, 3, 4, 5] rfl (B33 _ (fun M v3 v4 v5 hw => ih M v3 v4 v5 hw) M8 v3 v4 v5 1 hw)
  refine q_iconst (v := 0) hC dX2_cutOut_0 rfl 1 rfl ?_
  refine q_istore_n (L' := [(3, .int 0), (0, .ref (gA g b)), (1, .int v1), (2, .int v2)]) hC dX2_cutOut_1 (by decide) rfl 2 rfl ?_
  refine q_aload_n hC dX2_cutOut_2 1 rfl 3 rfl ?_
  refine q_getI (C := RX2) (T := TX2) (N := 14) (ci := 2) hC inX2_cutOut_X2 hb.ob rfl 8 (by decide) (List.mem_of_getElem? (i := 1) (by decide +kernel)) rfl (fun _ => rfl) dX2_cutOut_3 6 rfl ?_
  refine q_istore (L' := [(4, .int (M b 8)), (3, .int 0), (0, .ref (gA g b)), (1, .int v1), (2, .int v2)]) hC dX2_cutOut_6 (by decide) rfl 8 rfl ?_
  refine q_iconst (v := 0) hC dX2_cutOut_8 rfl 9 rfl ?_
  refine q_istore (L' := [(5, .int 0), (4, .int (M b 8)), (3, .int 0), (0, .ref (gA g b)), (1, .int v1), (2, .int v2)]) hC dX2_cutOut_9 (by decide) rfl 11 rfl ?_
  obtain ⟨n0, hw⟩ := hw
  exact XX.sub [3, 4, 5, 2, 1, 0] rfl (B11 n0 M 0 (M b 8) 0 hw)
